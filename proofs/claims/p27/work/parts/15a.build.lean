section BA
variable {p : Program} {l : Launch} {e : Env} {s : State} {m : MethodId} {args : Array Value} {below : List Frame} {meth : Method} {c : Code} {Q : State → Prop}
variable {E : gT} {σ : gS} {cells slots nn : Nat} {D B S0 : Nat}
abbrev buildR : Room := { frames := 10, cells := 783, slots := 6223, locals := 260 }
def gBC (p : Program) (l : Launch) (s : State) (m : MethodId) (args : Array Value) (c : Code) (E : gT) (σ : gS) (D B S0 : Nat) : Prop := CallFix p m c cL_build 5 s args wsL_build RL ∧ gC E s ∧ l.stackTraces = false ∧ gXs E = [] ∧ INV E D B S0 σ ∧ D + 4 < 4999 ∧ B + 1000 < 2 ^ 29 ∧ S0 + 110 < 2 ^ 30
theorem irem16 {i : Nat} (h : i < 1000) : nI i - nI i / 16 * 16 = nI (i % 16) := pk_rem (d := 16) (by omega) (by decide) (by decide)
set_option maxRecDepth 100000 in
set_option maxHeartbeats 4000000 in
theorem build_1 (C : gBC p l s m args c E σ D B S0) {i : Nat} (hi : i < 8) (hc : cells + 8 ≤ 783) (hs : slots + 64 ≤ 6223) (ih : ∀ (E' : gT) (σ' : gS), AR E E' → INV E' (D + 4) (B + 1000) (S0 + 80) σ' → gJ p l e buildR s m args below meth c Q 5 E' σ' (cells + 8) (slots + 64) 25 [(4, .int (nI (i + 1))), (3, .int (nI nn)), (2, .ref (E'.2.2 29)), (0, .ref (E'.2.2 0)), (1, .ref (gSb E'))] []) : gJ p l e buildR s m args below meth c Q 5 E σ cells slots 25 [(4, .int (nI i)), (3, .int (nI nn)), (2, .ref (E.2.2 29)), (0, .ref (E.2.2 0)), (1, .ref (gSb E))] [] := by
  obtain ⟨S, hC, hfl, hX, hI, hD, hB, hS0⟩ := id C
  refine g_iload S 0 dL_build_25 rfl ?_
  refine g_bipush S dL_build_27 (v := 8) rfl ?_
  refine g_icmp_ge S 73 dL_build_29 (by decide) (fun c_1 => absurd c_1 (nI_ge hi (by decide))) (fun c_1 => ?_)
  refine g_aload_n S 3 dL_build_32 rfl ?_
  refine g_aload_n S 2 dL_build_33 rfl ?_
  refine g_aload_n S 4 dL_build_34 rfl ?_
  refine g_iload S 0 dL_build_35 rfl ?_
  refine g_calli (g_runS S hC (As := [.ref (gSb E), .int (nI i)]) (rest := [.ref (E.2.2 29), .ref (E.2.2 0)]) (kL_cell l E σ _ i rfl (by omega)) (va_cwS 2 S.2.2.2.2 gL_build_L_cell rfl rfl rfl (by decide +kernel) ⟨Nat.le_of_ble_eq_true rfl, Nat.le_of_ble_eq_true rfl⟩) rfl rfl (Nat.le_of_ble_eq_true rfl) dL_build_37 ⟨by show _ ≤ 783; omega, by show _ ≤ 6223; omega⟩) ?_
  refine g_sipush S dL_build_40 (v := 255) rfl ?_
  refine g_iand S dL_build_43 ?_
  refine g_iload S 0 dL_build_44 rfl ?_
  refine g_const S dL_build_46 (v := 4) rfl ?_
  refine g_irem S dL_build_47 (by decide) ?_
  refine g_bipush S dL_build_48 (v := 9) rfl ?_
  refine g_ishl S dL_build_50 ?_
  refine g_ior S dL_build_51 ?_
  refine g_sipush S dL_build_52 (v := 11264) rfl ?_
  refine g_iload S 0 dL_build_55 rfl ?_
  refine g_imul S dL_build_57 ?_
  refine g_iadd S dL_build_58 ?_
  refine g_calla (g_runS (E := E) S hC (As := [.ref (E.2.2 0), .ref (E.2.2 29), .int ((((cel E i) &&& (255 : Int32)) ||| (((nI i) - (nI i) / (4 : Int32) * (4 : Int32)) <<< ((9 : Int32) &&& 31))) + ((11264 : Int32) * (nI i)))]) (rest := []) (kL_act l E σ ((((cel E i) &&& (255 : Int32)) ||| (((nI i) - (nI i) / (4 : Int32) * (4 : Int32)) <<< ((9 : Int32) &&& 31))) + ((11264 : Int32) * (nI i))) hfl hX hI hD hB hS0) (va_cwS 3 S.2.2.2.2 gL_build_L_act rfl rfl rfl (by decide +kernel) ⟨Nat.le_of_ble_eq_true rfl, Nat.le_of_ble_eq_true rfl⟩) rfl rfl (Nat.le_of_ble_eq_true rfl) dL_build_59 ⟨by show _ ≤ 783; omega, by show _ ≤ 6223; omega⟩) (fun E' σ' hA hI' => ?_)
  have hC := hA.C hC
  refine g_if_ne S 67 dL_build_62 (by decide) (fun _ => ?_) (fun z => absurd z (by decide))
  refine g_iinc S [(4, .int (nI (i + 1))), (3, .int (nI nn)), (2, .ref (E.2.2 29)), (0, .ref (E.2.2 0)), (1, .ref (gSb E))] 0 (nI (i + 1)) dL_build_67 rfl (by exact nI_1 i) (by decide) rfl ?_
  refine g_goto S 25 dL_build_70 (by decide) ?_
  refine g_lvs [0, 1, 2, 3, 4] (lv' := [(4, .int (nI (i + 1))), (3, .int (nI nn)), (2, .ref (E.2.2 29)), (0, .ref (E.2.2 0)), (1, .ref (gSb E))]) rfl ?_
  have t := ih E' σ' hA hI'
  rw [hA.2.2.2.2.2.1 29 (by decide), hA.2.2.2.2.2.1 0 (by decide), show gSb E' = gSb E from hA.2.2.1 102 (by decide)] at t
  exact t
set_option maxRecDepth 100000 in
set_option maxHeartbeats 4000000 in
theorem build_2 (C : gBC p l s m args c E σ D B S0) {i : Nat} (hi : i < nn) (hnn : nn < 1000) (hc : cells + 8 ≤ 783) (hs : slots + 64 ≤ 6223) (ih : ∀ (E' : gT) (σ' : gS), AR E E' → INV E' (D + 4) (B + 1000) (S0 + 80) σ' → gJ p l e buildR s m args below meth c Q 5 E' σ' (cells + 8) (slots + 64) 76 [(4, .int (nI (i + 1))), (3, .int (nI nn)), (2, .ref (E'.2.2 29)), (0, .ref (E'.2.2 0)), (1, .ref (gSb E'))] []) : gJ p l e buildR s m args below meth c Q 5 E σ cells slots 76 [(4, .int (nI i)), (3, .int (nI nn)), (2, .ref (E.2.2 29)), (0, .ref (E.2.2 0)), (1, .ref (gSb E))] [] := by
  obtain ⟨S, hC, hfl, hX, hI, hD, hB, hS0⟩ := id C
  refine g_iload S 0 dL_build_76 rfl ?_
  refine g_iload_n S 1 dL_build_78 rfl ?_
  refine g_icmp_ge S 122 dL_build_79 (by decide) (fun c_1 => absurd c_1 (nI_ge hi (by omega))) (fun c_1 => ?_)
  refine g_aload_n S 3 dL_build_82 rfl ?_
  refine g_aload_n S 2 dL_build_83 rfl ?_
  refine g_aload_n S 4 dL_build_84 rfl ?_
  refine g_iload S 0 dL_build_85 rfl ?_
  refine g_bipush S dL_build_87 (v := 16) rfl ?_
  refine g_irem S dL_build_89 (by decide) ?_
  refine g_top (y := nI (i % 16)) (irem16 (by omega)) ?_
  refine g_calli (g_runS S hC (As := [.ref (gSb E), .int (nI (i % 16))]) (rest := [.ref (E.2.2 29), .ref (E.2.2 0)]) (kL_cell l E σ _ (i % 16) rfl (by omega)) (va_cwS 2 S.2.2.2.2 gL_build_L_cell rfl rfl rfl (by decide +kernel) ⟨Nat.le_of_ble_eq_true rfl, Nat.le_of_ble_eq_true rfl⟩) rfl rfl (Nat.le_of_ble_eq_true rfl) dL_build_90 ⟨by show _ ≤ 783; omega, by show _ ≤ 6223; omega⟩) ?_
  refine g_iload S 0 dL_build_93 rfl ?_
  refine g_bipush S dL_build_95 (v := 16) rfl ?_
  refine g_idiv S dL_build_97 (by decide) ?_
  refine g_const S dL_build_98 (v := 3) rfl ?_
  refine g_imul S dL_build_99 ?_
  refine g_ishr S dL_build_100 ?_
  refine g_sipush S dL_build_101 (v := 433) rfl ?_
  refine g_iload S 0 dL_build_104 rfl ?_
  refine g_imul S dL_build_106 ?_
  refine g_iadd S dL_build_107 ?_
  refine g_calla (g_runS (E := E) S hC (As := [.ref (E.2.2 0), .ref (E.2.2 29), .int (((cel E (i % 16)) >>> ((((nI i) / (16 : Int32)) * (3 : Int32)) &&& 31)) + ((433 : Int32) * (nI i)))]) (rest := []) (kL_act l E σ (((cel E (i % 16)) >>> ((((nI i) / (16 : Int32)) * (3 : Int32)) &&& 31)) + ((433 : Int32) * (nI i))) hfl hX hI hD hB hS0) (va_cwS 3 S.2.2.2.2 gL_build_L_act rfl rfl rfl (by decide +kernel) ⟨Nat.le_of_ble_eq_true rfl, Nat.le_of_ble_eq_true rfl⟩) rfl rfl (Nat.le_of_ble_eq_true rfl) dL_build_108 ⟨by show _ ≤ 783; omega, by show _ ≤ 6223; omega⟩) (fun E' σ' hA hI' => ?_)
  have hC := hA.C hC
  refine g_if_ne S 116 dL_build_111 (by decide) (fun _ => ?_) (fun z => absurd z (by decide))
  refine g_iinc S [(4, .int (nI (i + 1))), (3, .int (nI nn)), (2, .ref (E.2.2 29)), (0, .ref (E.2.2 0)), (1, .ref (gSb E))] 0 (nI (i + 1)) dL_build_116 rfl (by exact nI_1 i) (by decide) rfl ?_
  refine g_goto S 76 dL_build_119 (by decide) ?_
  refine g_lvs [0, 1, 2, 3, 4] (lv' := [(4, .int (nI (i + 1))), (3, .int (nI nn)), (2, .ref (E.2.2 29)), (0, .ref (E.2.2 0)), (1, .ref (gSb E))]) rfl ?_
  have t := ih E' σ' hA hI'
  rw [hA.2.2.2.2.2.1 29 (by decide), hA.2.2.2.2.2.1 0 (by decide), show gSb E' = gSb E from hA.2.2.1 102 (by decide)] at t
  exact t
set_option maxRecDepth 100000 in
set_option maxHeartbeats 4000000 in
theorem build_0 (C : gBC p l s m args c E σ D B S0) (hc : cells ≤ 783) (hs : slots ≤ 6223) (K : ∀ nn, nn < 90 → gJ p l e buildR s m args below meth c Q 5 E σ cells slots 25 [(4, .int (0 : Int32)), (3, .int (nI nn)), (2, .ref (E.2.2 29)), (0, .ref (E.2.2 0)), (1, .ref (gSb E))] []) : gJ p l e buildR s m args below meth c Q 5 E σ cells slots 8 [(2, .ref (E.2.2 29)), (0, .ref (E.2.2 0)), (1, .ref (gSb E))] [] := by
  obtain ⟨S, hC, hfl, hX, hI, hD, hB, hS0⟩ := id C
  refine g_bipush S dL_build_8 (v := 30) rfl ?_
  refine g_aload_n S 2 dL_build_10 rfl ?_
  refine g_const S dL_build_11 (v := 0) rfl ?_
  refine g_calli (g_runS S hC (As := [.ref (gSb E), .int (0 : Int32)]) (rest := [.int (30 : Int32)]) (kL_cell l E σ _ 0 rfl (by omega)) (va_cwS 2 S.2.2.2.2 gL_build_L_cell rfl rfl rfl (by decide +kernel) ⟨Nat.le_of_ble_eq_true rfl, Nat.le_of_ble_eq_true rfl⟩) rfl rfl (Nat.le_of_ble_eq_true rfl) dL_build_12 ⟨by show _ ≤ 783; omega, by show _ ≤ 6223; omega⟩) ?_
  refine g_bipush S dL_build_15 (v := 60) rfl ?_
  refine g_calli (g_runS S hC (As := [.int (cel E 0), .int (60 : Int32)]) (rest := [.int (30 : Int32)]) (kL_below l E σ (cel E 0) _ 60 rfl (by decide) (by decide)) (va_cwS 2 S.2.2.2.2 gL_build_L_below rfl rfl rfl (by decide +kernel) ⟨Nat.le_of_ble_eq_true rfl, Nat.le_of_ble_eq_true rfl⟩) rfl rfl (Nat.le_of_ble_eq_true rfl) dL_build_17 ⟨by show _ ≤ 783; omega, by show _ ≤ 6223; omega⟩) ?_
  have hg := bel_lt (v := cel E 0) (n := 60) (by decide)
  generalize bel (cel E 0) 60 = g at hg ⊢
  refine g_iadd S dL_build_20 ?_
  refine g_top (y := nI (30 + g)) (gI_add (a := 30) rfl rfl) ?_
  refine g_istore_n S [(3, .int (nI (30 + g))), (2, .ref (E.2.2 29)), (0, .ref (E.2.2 0)), (1, .ref (gSb E))] dL_build_21 (by decide) rfl ?_
  refine g_const S dL_build_22 (v := 0) rfl ?_
  refine g_istore S [(4, .int (0 : Int32)), (3, .int (nI (30 + g))), (2, .ref (E.2.2 29)), (0, .ref (E.2.2 0)), (1, .ref (gSb E))] dL_build_23 (by decide) rfl ?_
  refine g_lvs [0, 1, 2, 3, 4] (lv' := [(4, .int (0 : Int32)), (3, .int (nI (30 + g))), (2, .ref (E.2.2 29)), (0, .ref (E.2.2 0)), (1, .ref (gSb E))]) rfl ?_
  exact K _ (by omega)
set_option maxRecDepth 100000 in
set_option maxHeartbeats 4000000 in
theorem build_1x (C : gBC p l s m args c E σ D B S0) (ih : gJ p l e buildR s m args below meth c Q 5 E σ cells slots 76 [(4, .int (0 : Int32)), (3, .int (nI nn)), (2, .ref (E.2.2 29)), (0, .ref (E.2.2 0)), (1, .ref (gSb E))] []) : gJ p l e buildR s m args below meth c Q 5 E σ cells slots 25 [(4, .int (nI 8)), (3, .int (nI nn)), (2, .ref (E.2.2 29)), (0, .ref (E.2.2 0)), (1, .ref (gSb E))] [] := by
  obtain ⟨S, hC, hfl, hX, hI, hD, hB, hS0⟩ := id C
  refine g_iload S 0 dL_build_25 rfl ?_
  refine g_bipush S dL_build_27 (v := 8) rfl ?_
  refine g_icmp_ge S 73 dL_build_29 (by decide) (fun c_1 => ?_) (fun c_1 => absurd (by decide) c_1)
  refine g_const S dL_build_73 (v := 0) rfl ?_
  refine g_istore S [(4, .int (0 : Int32)), (3, .int (nI nn)), (2, .ref (E.2.2 29)), (0, .ref (E.2.2 0)), (1, .ref (gSb E))] dL_build_74 (by decide) rfl ?_
  refine g_lvs [0, 1, 2, 3, 4] (lv' := [(4, .int (0 : Int32)), (3, .int (nI nn)), (2, .ref (E.2.2 29)), (0, .ref (E.2.2 0)), (1, .ref (gSb E))]) rfl ?_
  exact ih
set_option maxRecDepth 100000 in
set_option maxHeartbeats 4000000 in
theorem build_2x (C : gBC p l s m args c E σ D B S0) (hnn : nn < 1000) (ih : gJ p l e buildR s m args below meth c Q 5 E σ cells slots 123 [] [.ref (E.2.2 29)]) : gJ p l e buildR s m args below meth c Q 5 E σ cells slots 76 [(4, .int (nI nn)), (3, .int (nI nn)), (2, .ref (E.2.2 29)), (0, .ref (E.2.2 0)), (1, .ref (gSb E))] [] := by
  obtain ⟨S, hC, hfl, hX, hI, hD, hB, hS0⟩ := id C
  refine g_iload S 0 dL_build_76 rfl ?_
  refine g_iload_n S 1 dL_build_78 rfl ?_
  refine g_icmp_ge S 122 dL_build_79 (by decide) (fun c_1 => ?_) (fun c_1 => absurd (nI_le (Nat.le_refl _) (by omega)) c_1)
  refine g_aload_n S 2 dL_build_122 rfl ?_
  refine g_lvs [] (lv' := []) rfl ?_
  exact ih
theorem build_go (C : gBC p l s m args c E σ 0 0 0) (hA0 : AR E E) (K : ∀ (E' : gT) (σ' : gS), AR E E' → INV E' 500 110000 9000 σ' → gJ p l e buildR s m args below meth c Q 5 E' σ' 783 6223 123 [] [.ref (E'.2.2 29)]) : gJ p l e buildR s m args below meth c Q 5 E σ 7 15 8 [(2, .ref (E.2.2 29)), (0, .ref (E.2.2 0)), (1, .ref (gSb E))] [] := by
  obtain ⟨S, hC, hfl, hX, hI, _, _, _⟩ := id C
  refine build_0 C (by decide) (by decide) (fun nn hnn => ?_)
  refine g_loopK (E := E) (σ := σ) 8 (fun i E' σ' (_ : Unit) => AR E E' ∧ INV E' (4 * i) (1000 * i) (80 * i) σ') (fun i => 7 + 8 * i) (fun i => 15 + 64 * i) (fun i E _ => [(4, .int (nI i)), (3, .int (nI nn)), (2, .ref (E.2.2 29)), (0, .ref (E.2.2 0)), (1, .ref (gSb E))]) [] (fun i E1 σ1 _ hi hq kk => ?_) (fun E1 σ1 _ hq => ?_) (b := ()) ⟨hA0, hI⟩
  · obtain ⟨hA, hI1⟩ := hq
    have C1 : gBC p l s m args c E1 σ1 (4 * i) (1000 * i) (80 * i) := ⟨S, hA.C hC, hfl, hA.2.2.2.2.1, hI1, by omega, by omega, by omega⟩
    exact build_1 C1 hi (by omega) (by omega) (fun E2 σ2 hA2 hI2 => kk E2 σ2 () ⟨hA.trans hA2, hI2.le (by omega) (by omega) (by omega)⟩)
  · obtain ⟨hA, hI1⟩ := hq
    have C1 : gBC p l s m args c E1 σ1 32 8000 640 := ⟨S, hA.C hC, hfl, hA.2.2.2.2.1, hI1, by omega, by omega, by omega⟩
    refine build_1x C1 ?_
    refine g_loopK (E := E1) (σ := σ1) nn (fun i E' σ' (_ : Unit) => AR E E' ∧ INV E' (32 + 4 * i) (8000 + 1000 * i) (640 + 80 * i) σ') (fun i => 71 + 8 * i) (fun i => 527 + 64 * i) (fun i E _ => [(4, .int (nI i)), (3, .int (nI nn)), (2, .ref (E.2.2 29)), (0, .ref (E.2.2 0)), (1, .ref (gSb E))]) [] (fun i E2 σ2 _ hi hq kk => ?_) (fun E2 σ2 _ hq => ?_) (b := ()) ⟨hA, hI1⟩
    · obtain ⟨hA, hI1⟩ := hq
      have C1 : gBC p l s m args c E2 σ2 (32 + 4 * i) (8000 + 1000 * i) (640 + 80 * i) := ⟨S, hA.C hC, hfl, hA.2.2.2.2.1, hI1, by omega, by omega, by omega⟩
      exact build_2 C1 hi (by omega) (by omega) (by omega) (fun E3 σ3 hA2 hI2 => kk E3 σ3 () ⟨hA.trans hA2, hI2.le (by omega) (by omega) (by omega)⟩)
    · obtain ⟨hA, hI1⟩ := hq
      have C1 : gBC p l s m args c E2 σ2 (32 + 4 * nn) (8000 + 1000 * nn) (640 + 80 * nn) := ⟨S, hA.C hC, hfl, hA.2.2.2.2.1, hI1, by omega, by omega, by omega⟩
      refine build_2x C1 (by omega) ?_
      exact g_wid (by omega) (by omega) (K E2 σ2 hA (hI1.le (by omega) (by omega) (by omega)))
end BA
