/-! the law's rounds -/
section LA
variable {p : Program} {l : Launch} {e : Env} {s : State} {m : MethodId} {args : Array Value} {below : List Frame} {meth : Method} {c : Code} {Q : State → Prop}
variable {E : gT} {σ τ : gS} {cells slots : Nat} {D B S0 : Nat}
theorem g_ifnn {R : Room} {cc : ByteArray} {nL : Nat} {Ts : List Cond} {own : String} {pc : Nat} {lv : List (Nat × Value)} {rest : List Value} (S : CallFix p m c cc nL s args Ts own) {x : Nat} {off : Int} (tgt : Nat) (d : decode cc pc = .ok (.ifnonnull off, 3)) (ht : (pc : Int) + off = (tgt : Int)) (kk : gJ p l e R s m args below meth c Q nL E σ cells slots tgt lv rest) : gJ p l e R s m args below meth c Q nL E σ cells slots pc lv (.ref x :: rest) :=
  fun H locs ls hP hS hl => lv_ifnonnull S.1 S.2.1 d ht (kk H locs ls hP hS hl)
def gLC (p : Program) (l : Launch) (s : State) (m : MethodId) (args : Array Value) (c : Code) (E : gT) (σ : gS) (D B S0 : Nat) : Prop := CallFix p m c cL_law 20 s args wsL_law RL ∧ gC E s ∧ l.stackTraces = false ∧ gXs E = [] ∧ INV E D B S0 σ ∧ D + 20 < 4999 ∧ B + 4000 < 2 ^ 29 ∧ S0 + 300 < 2 ^ 30
def T3 (σ : gS) : Int32 := σ.1 6 2 + σ.1 6 3 + (10 : Int32) * σ.1 6 5
theorem q_cq (l : Launch) (hfl : l.stackTraces = false) (E : gT) (σ : gS) (w : Nat) (hw : w < 9) {v : Int32} (h : sX6_tell_r σ 1 w = v) : gMi l yX7_count wsX7_count ({ frames := 8, cells := 1, slots := 6, locals := 132 }) 1 6 E σ [.ref (E.2.2 0), .int (nI w)] v σ := by
  rw [← h]; exact q_count l hfl E σ w hw
theorem q_aboutv (l : Launch) (hfl : l.stackTraces = false) (E : gT) (σ : gS) (hok : tOK σ 1) (i w : Nat) (hi : i < tB σ 1 5) (hw : w < 3) {v : Int32} (h : σ.1 (7 + i) w = v) : gMi l yX7_about wsX7_about ({ frames := 8, cells := 2, slots := 12, locals := 132 }) 2 12 E σ [.ref (E.2.2 0), .int (nI i), .int (nI w)] v σ := by
  rw [← h]; exact q_about l hfl E σ hok i w hi hw
theorem q_roastv (l : Launch) (hfl : l.stackTraces = false) (E : gT) (σ : gS) (hok : tOK σ 1) (i w : Nat) (hi : i < tB σ 1 6) (hw : w < 6) {v : Int32} (h : sX2_tell_r σ (11 + i) w = v) : gMi l yX7_roast wsX7_roast ({ frames := 8, cells := 2, slots := 12, locals := 132 }) 2 12 E σ [.ref (E.2.2 0), .int (nI i), .int (nI w)] v σ := by
  rw [← h]; exact q_roast l hfl E σ hok i w hi hw
theorem q_toldv (l : Launch) (hfl : l.stackTraces = false) (E : gT) (σ : gS) (hok : tOK σ 1) (i w : Nat) (hi : i < tB σ 1 7) (hw : w < 5) {v : Int32} (h : σ.1 (15 + i) w = v) : gMi l yX7_told wsX7_told ({ frames := 8, cells := 2, slots := 12, locals := 132 }) 2 12 E σ [.ref (E.2.2 0), .int (nI i), .int (nI w)] v σ := by
  rw [← h]; exact q_told l hfl E σ hok i w hi hw
theorem q_rationv (l : Launch) (hfl : l.stackTraces = false) (E : gT) (σ : gS) (hok : tOK σ 1) (i w : Nat) (hi : i < tB σ 1 8) (hw : w < 5) {v : Int32} (h : σ.1 (19 + i) w = v) : gMi l yX7_ration wsX7_ration ({ frames := 8, cells := 2, slots := 12, locals := 132 }) 2 12 E σ [.ref (E.2.2 0), .int (nI i), .int (nI w)] v σ := by
  rw [← h]; exact q_ration l hfl E σ hok i w hi hw
theorem used_eq {a2 a3 b2 b3 k : Nat} (h : a2 + a3 = b2 + b3 + 10 * k) : nI a2 + nI a3 - nI b2 - nI b3 = nI (10 * k) := by
  rw [nI_add, pk_sub (by omega), pk_sub (by omega)]
  congr 1
  omega
theorem parts_none {k : Nat} {a : Int32} (h : σ.1 k 2 = -1) : sX2_partsAt_r σ k a = 0 := by
  unfold sX2_partsAt_r
  rw [if_pos h]
theorem day_cnt {E : gT} {n D B S0 : Nat} (hN : NV E D B S0 σ) (hR : RQ E σ σ) (h : D + n < 5000) : dB σ n := ⟨cv σ 1 9, hR.day.symm.trans hN.2.1.1.1, by have := hN.2.1.1.2; omega⟩
set_option maxRecDepth 100000 in
set_option maxHeartbeats 4000000 in
theorem law_a (C : gLC p l s m args c E σ D B S0) (hc : cells + 3 ≤ 683427) (hs : slots + 18 ≤ 7051186) (ih : gJ p l e room_1 s m args below meth c Q 20 E σ (cells + 1 + 1 + 1) (slots + 6 + 6 + 6) 47 [(5, .int (0 : Int32)), (4, .int (σ.1 6 2 + σ.1 6 3 + (10 : Int32) * σ.1 6 5)), (3, .int (0 : Int32)), (2, .ref (E.2.2 29)), (1, .ref (E.2.2 0)), (0, .ref (gSb E))] []) : gJ p l e room_1 s m args below meth c Q 20 E σ cells slots 20 [(2, .ref (E.2.2 29)), (1, .ref (E.2.2 0)), (0, .ref (gSb E))] [] := by
  obtain ⟨S, hC, hfl, hX, hI, hD, hB, hS0⟩ := id C
  obtain ⟨hN, hR⟩ := id hI
  have hb := NB.of hC
  have hok := hN.1.1
  refine g_const S dL_law_20 (v := 0) rfl ?_
  refine g_istore_n S [(3, .int (0 : Int32)), (2, .ref (E.2.2 29)), (1, .ref (E.2.2 0)), (0, .ref (gSb E))] dL_law_21 (by decide) rfl ?_
  refine g_aload_n S 2 dL_law_22 rfl ?_
  refine g_const S dL_law_23 (v := 3) rfl ?_
  refine g_eq (σ' := σ) (st' := [.int (nI 3), .ref (E.2.2 0)]) rfl (by rfl) ?_
  refine g_calli (g_runV S hC (As := [.int (nI 3)]) (rest := []) (k := 0) (by decide) rfl (by decide) rfl (q_cq l hfl E σ 3 (by decide) (v := σ.1 6 2) (by exact rfl)) (cwV 1 S.2.2.2.2 gL_law_X7_count rfl rfl rfl (by decide +kernel) ⟨Nat.le_of_ble_eq_true rfl, Nat.le_of_ble_eq_true rfl⟩) rfl rfl (Nat.le_of_ble_eq_true rfl) dL_law_24 ⟨by show _ ≤ 683427; omega, by show _ ≤ 7051186; omega⟩) ?_
  refine g_aload_n S 2 dL_law_27 rfl ?_
  refine g_const S dL_law_28 (v := 4) rfl ?_
  refine g_eq (σ' := σ) (st' := [.int (nI 4), .ref (E.2.2 0), .int (σ.1 6 2)]) rfl (by rfl) ?_
  refine g_calli (g_runV S hC (As := [.int (nI 4)]) (rest := [.int (σ.1 6 2)]) (k := 0) (by decide) rfl (by decide) rfl (q_cq l hfl E σ 4 (by decide) (v := σ.1 6 3) (by exact rfl)) (cwV 1 S.2.2.2.2 gL_law_X7_count rfl rfl rfl (by decide +kernel) ⟨Nat.le_of_ble_eq_true rfl, Nat.le_of_ble_eq_true rfl⟩) rfl rfl (Nat.le_of_ble_eq_true rfl) dL_law_29 ⟨by show _ ≤ 683427; omega, by show _ ≤ 7051186; omega⟩) ?_
  refine g_iadd S dL_law_32 ?_
  refine g_bipush S dL_law_33 (v := 10) rfl ?_
  refine g_aload_n S 2 dL_law_35 rfl ?_
  refine g_const S dL_law_36 (v := 5) rfl ?_
  refine g_eq (σ' := σ) (st' := [.int (nI 5), .ref (E.2.2 0), .int (10 : Int32), .int ((σ.1 6 2) + (σ.1 6 3))]) rfl (by rfl) ?_
  refine g_calli (g_runV S hC (As := [.int (nI 5)]) (rest := [.int (10 : Int32), .int ((σ.1 6 2) + (σ.1 6 3))]) (k := 0) (by decide) rfl (by decide) rfl (q_cq l hfl E σ 5 (by decide) (v := σ.1 6 5) (by exact rfl)) (cwV 1 S.2.2.2.2 gL_law_X7_count rfl rfl rfl (by decide +kernel) ⟨Nat.le_of_ble_eq_true rfl, Nat.le_of_ble_eq_true rfl⟩) rfl rfl (Nat.le_of_ble_eq_true rfl) dL_law_37 ⟨by show _ ≤ 683427; omega, by show _ ≤ 7051186; omega⟩) ?_
  refine g_imul S dL_law_40 ?_
  refine g_iadd S dL_law_41 ?_
  refine g_istore S [(4, .int (((σ.1 6 2) + (σ.1 6 3)) + ((10 : Int32) * (σ.1 6 5)))), (3, .int (0 : Int32)), (2, .ref (E.2.2 29)), (1, .ref (E.2.2 0)), (0, .ref (gSb E))] dL_law_42 (by decide) rfl ?_
  refine g_const S dL_law_44 (v := 0) rfl ?_
  refine g_istore S [(5, .int (0 : Int32)), (4, .int (((σ.1 6 2) + (σ.1 6 3)) + ((10 : Int32) * (σ.1 6 5)))), (3, .int (0 : Int32)), (2, .ref (E.2.2 29)), (1, .ref (E.2.2 0)), (0, .ref (gSb E))] dL_law_45 (by decide) rfl ?_
  refine g_lvs [0, 1, 2, 3, 4, 5] (lv' := [(5, .int (0 : Int32)), (4, .int (((σ.1 6 2) + (σ.1 6 3)) + ((10 : Int32) * (σ.1 6 5)))), (3, .int (0 : Int32)), (2, .ref (E.2.2 29)), (1, .ref (E.2.2 0)), (0, .ref (gSb E))]) rfl ?_
  exact ih
set_option maxRecDepth 100000 in
set_option maxHeartbeats 4000000 in
theorem law_b (C : gLC p l s m args c E σ D B S0) {i : Nat} {al tk : Int32} (hi : i < 30) (hc : cells ≤ 683427) (hs : slots ≤ 7051186) (ih : ∀ x : Int32, gJ p l e room_1 s m args below meth c Q 20 E σ cells slots 83 [(7, .int (0 : Int32)), (6, .int x), (5, .int (nI i)), (4, .int al), (3, .int tk), (2, .ref (E.2.2 29)), (1, .ref (E.2.2 0)), (0, .ref (gSb E))] []) : gJ p l e room_1 s m args below meth c Q 20 E σ cells slots 47 [(5, .int (nI i)), (4, .int al), (3, .int tk), (2, .ref (E.2.2 29)), (1, .ref (E.2.2 0)), (0, .ref (gSb E))] [] := by
  obtain ⟨S, hC, hfl, hX, hI, hD, hB, hS0⟩ := id C
  obtain ⟨hN, hR⟩ := id hI
  have hb := NB.of hC
  have hok := hN.1.1
  refine g_iload S 0 dL_law_47 rfl ?_
  refine g_bipush S dL_law_49 (v := 30) rfl ?_
  refine g_icmp_ge S 803 dL_law_51 (by decide) (fun c_1 => absurd c_1 (nI_ge hi (by decide))) (fun c_1 => ?_)
  refine g_aload_n S 5 dL_law_54 rfl ?_
  refine g_iload S 0 dL_law_55 rfl ?_
  refine g_bipush S dL_law_57 (v := 16) rfl ?_
  refine g_irem S dL_law_59 (by decide) ?_
  refine g_top (y := nI (i % 16)) (irem16 (by omega)) ?_
  refine g_calli (g_runS S hC (As := [.ref (gSb E), .int (nI (i % 16))]) (rest := []) (kL_cell l E σ _ (i % 16) rfl (by omega)) (va_cwS 2 S.2.2.2.2 gL_law_L_cell rfl rfl rfl (by decide +kernel) ⟨Nat.le_of_ble_eq_true rfl, Nat.le_of_ble_eq_true rfl⟩) rfl rfl (Nat.le_of_ble_eq_true rfl) dL_law_60 ⟨by show _ ≤ 683427; omega, by show _ ≤ 7051186; omega⟩) ?_
  refine g_iload S 0 dL_law_63 rfl ?_
  refine g_bipush S dL_law_65 (v := 16) rfl ?_
  refine g_idiv S dL_law_67 (by decide) ?_
  refine g_const S dL_law_68 (v := 3) rfl ?_
  refine g_imul S dL_law_69 ?_
  refine g_ishr S dL_law_70 ?_
  refine g_sipush S dL_law_71 (v := 433) rfl ?_
  refine g_iload S 0 dL_law_74 rfl ?_
  refine g_imul S dL_law_76 ?_
  refine g_iadd S dL_law_77 ?_
  refine g_istore S [(6, .int (((cel E (i % 16)) >>> ((((nI i) / (16 : Int32)) * (3 : Int32)) &&& 31)) + ((433 : Int32) * (nI i)))), (5, .int (nI i)), (4, .int al), (3, .int tk), (2, .ref (E.2.2 29)), (1, .ref (E.2.2 0)), (0, .ref (gSb E))] dL_law_78 (by decide) rfl ?_
  refine g_const S dL_law_80 (v := 0) rfl ?_
  refine g_istore S [(7, .int (0 : Int32)), (6, .int (((cel E (i % 16)) >>> ((((nI i) / (16 : Int32)) * (3 : Int32)) &&& 31)) + ((433 : Int32) * (nI i)))), (5, .int (nI i)), (4, .int al), (3, .int tk), (2, .ref (E.2.2 29)), (1, .ref (E.2.2 0)), (0, .ref (gSb E))] dL_law_81 (by decide) rfl ?_
  refine g_lvs [0, 1, 2, 3, 4, 5, 6, 7] (lv' := [(7, .int (0 : Int32)), (6, .int (((cel E (i % 16)) >>> ((((nI i) / (16 : Int32)) * (3 : Int32)) &&& 31)) + ((433 : Int32) * (nI i)))), (5, .int (nI i)), (4, .int al), (3, .int tk), (2, .ref (E.2.2 29)), (1, .ref (E.2.2 0)), (0, .ref (gSb E))]) rfl ?_
  exact ih _
theorem take_T3 {σ' : gS} {kd : Nat} {y al tk : Int32} (hR : RQ E σ σ) (hR5 : RQ E σ' σ') (hT : al + tk = T3 σ) (hkd : kd < 2) (e31 : ∀ j, σ'.1 31 j = if j = kd then σ.1 31 kd + y else σ.1 31 j) (e29 : σ'.1 29 = σ.1 29) : al + (tk + y) = T3 σ' := by
  unfold T3 at *
  rw [hR.chic, hR.coff, hR.served] at hT
  rw [hR5.chic, hR5.coff, hR5.served, e31, e31, e29, ← Int32.add_assoc, hT]
  rcases (show kd = 0 ∨ kd = 1 by omega) with rfl | rfl
  · rw [if_pos rfl, if_neg (by decide)]
    grind
  · rw [if_neg (by decide), if_pos rfl]
    grind
set_option maxRecDepth 100000 in
set_option maxHeartbeats 4000000 in
theorem law_t (C : gLC p l s m args c E σ D B S0) {i d : Nat} {x al tk : Int32} (hd : d < gNo E 1) (hT : al + tk = T3 σ) (hc : cells + 6 ≤ 683427) (hs : slots + 36 ≤ 7051186) (ih : ∀ (σ' : gS) (tk' : Int32), INV E D (B + 320) S0 σ' → al + tk' = T3 σ' → gJ p l e room_1 s m args below meth c Q 20 E σ' (cells + 6) (slots + 36) 83 [(7, .int (nI (d + 1))), (6, .int x), (5, .int (nI i)), (4, .int al), (3, .int (tk')), (2, .ref (E.2.2 29)), (1, .ref (E.2.2 0)), (0, .ref (gSb E))] []) : gJ p l e room_1 s m args below meth c Q 20 E σ cells slots 83 [(7, .int (nI d)), (6, .int x), (5, .int (nI i)), (4, .int al), (3, .int tk), (2, .ref (E.2.2 29)), (1, .ref (E.2.2 0)), (0, .ref (gSb E))] [] := by
  have hiX8 : ∀ w ∈ wsX80, w ∈ wsL_law := by decide +kernel
  obtain ⟨S, hC, hfl, hX, hI, hD, hB, hS0⟩ := id C
  obtain ⟨hN, hR⟩ := id hI
  have hb := NB.of hC
  have hok := hN.1.1
  have hd4 : d < 4 := Nat.lt_of_lt_of_le hd hb.2.1
  have hdg := hN.2.2.2.2.1 d hd
  have er2 : σ.1 (11 + d) 2 = σ.1 (40 + d) 2 := hR.drum hd (by omega)
  have hy := yields_eq hR hd hdg
  refine g_iload S 0 dL_law_83 rfl ?_
  refine g_aload_n S 5 dL_law_85 rfl ?_
  refine gg7r S hC hiX8 8 33 (by decide) (by decide +kernel) dL_law_86 ?_
  refine g_alenR S hC 1 rfl (by decide) dL_law_89 ?_
  refine g_icmp_ge S 194 dL_law_90 (by decide) (fun c_1 => absurd c_1 (nI_ge hd (gNo_lt hC (by decide)))) (fun c_1 => ?_)
  refine g_aload_n S 6 dL_law_93 rfl ?_
  refine g_iload S 0 dL_law_94 rfl ?_
  refine g_const S dL_law_96 (v := 5) rfl ?_
  refine g_eq (σ' := σ) (st' := [.int (nI 5), .int (nI d), .ref (E.2.2 0)]) rfl (by rfl) ?_
  refine g_calli (g_runV S hC (As := [.int (nI d), .int (nI 5)]) (rest := []) (k := 0) (by decide) rfl (by decide) rfl (q_roastv l hfl E σ hok d 5 (by rw [hN.1.2.2.1]; exact hd) (by decide) (v := sX8_yields_r σ d) (by unfold sX2_tell_r; rw [if_pos rfl]; exact hy)) (cwV 2 S.2.2.2.2 gL_law_X7_roast rfl rfl rfl (by decide +kernel) ⟨Nat.le_of_ble_eq_true rfl, Nat.le_of_ble_eq_true rfl⟩) rfl rfl (Nat.le_of_ble_eq_true rfl) dL_law_97 ⟨by show _ ≤ 683427; omega, by show _ ≤ 7051186; omega⟩) ?_
  refine g_istore S [(8, .int (sX8_yields_r σ d)), (7, .int (nI d)), (6, .int x), (5, .int (nI i)), (4, .int al), (3, .int tk), (2, .ref (E.2.2 29)), (1, .ref (E.2.2 0)), (0, .ref (gSb E))] dL_law_100 (by decide) rfl ?_
  refine g_iload S 0 dL_law_102 rfl ?_
  refine g_if_ne S 110 dL_law_104 (by decide) (fun c_2 => ?_) (fun c_2 => ?_)
  · skip
    obtain ⟨kd, hkd, ekd⟩ : ∃ kd, kd < 2 ∧ σ.1 (11 + d) 2 = nI kd := by
      rcases hdg.2.2 with ⟨z, _⟩ | ⟨z, _⟩
      · exact absurd (hy.symm.trans (parts_none z)) (by assumption)
      · rcases z with z | z
        · exact ⟨0, by decide, z⟩
        · exact ⟨1, by decide, z⟩
    have ek2 : σ.1 (40 + d) 2 = nI kd := er2.symm.trans ekd
    refine g_aload_n S 6 dL_law_110 rfl ?_
    refine gg7r S hC hiX8 2 31 (by decide) (by decide +kernel) dL_law_111 ?_
    refine g_aload_n S 6 dL_law_114 rfl ?_
    refine gg7r S hC hiX8 8 33 (by decide) (by decide +kernel) dL_law_115 ?_
    refine g_iload S 1 dL_law_118 rfl ?_
    refine g_aaldR S hC 1 rfl (by decide) d rfl (by first | assumption | omega) (40 + d) (by omega) dL_law_120 ?_
    refine g_const S dL_law_121 (v := 2) rfl ?_
    refine g_ialdR S hC 1 d (by omega) (by decide) (by first | assumption | omega) 2 rfl (by decide) dL_law_122 ?_
    refine g_dup2 S dL_law_123 rfl rfl ?_
    refine g_iald S hC (by decide) rfl kd ek2 hkd dL_law_124 ?_
    refine g_iload S 0 dL_law_125 rfl ?_
    refine g_iadd S dL_law_127 ?_
    refine g_iast S hC (by decide) rfl kd ek2 hkd dL_law_128 ?_
    refine g_nm (fun S1 hS1 => ?_)
    refine g_aload_n S 6 dL_law_129 rfl ?_
    refine gg7r S hC hiX8 8 33 (by decide) (by decide +kernel) dL_law_130 ?_
    refine g_iload S 1 dL_law_133 rfl ?_
    refine g_aaldR S hC 1 rfl (by decide) d rfl (by first | assumption | omega) (40 + d) (by omega) dL_law_135 ?_
    refine g_const S dL_law_136 (v := 2) rfl ?_
    refine g_const S dL_law_137 (v := (-1)) rfl ?_
    refine g_iastR S hC 1 d (by omega) (by decide) (by first | assumption | omega) 2 rfl (by decide) dL_law_138 ?_
    refine g_nm (fun S2 hS2 => ?_)
    refine g_aload_n S 6 dL_law_139 rfl ?_
    refine gg7r S hC hiX8 8 33 (by decide) (by decide +kernel) dL_law_140 ?_
    refine g_iload S 1 dL_law_143 rfl ?_
    refine g_aaldR S hC 1 rfl (by decide) d rfl (by first | assumption | omega) (40 + d) (by omega) dL_law_145 ?_
    refine g_const S dL_law_146 (v := 3) rfl ?_
    refine g_const S dL_law_147 (v := 0) rfl ?_
    refine g_iastR S hC 1 d (by omega) (by decide) (by first | assumption | omega) 3 rfl (by decide) dL_law_148 ?_
    refine g_nm (fun S3 hS3 => ?_)
    refine g_aload_n S 6 dL_law_149 rfl ?_
    refine gg7r S hC hiX8 8 33 (by decide) (by decide +kernel) dL_law_150 ?_
    refine g_iload S 1 dL_law_153 rfl ?_
    refine g_aaldR S hC 1 rfl (by decide) d rfl (by first | assumption | omega) (40 + d) (by omega) dL_law_155 ?_
    refine g_const S dL_law_156 (v := 4) rfl ?_
    refine g_const S dL_law_157 (v := 0) rfl ?_
    refine g_iastR S hC 1 d (by omega) (by decide) (by first | assumption | omega) 4 rfl (by decide) dL_law_158 ?_
    refine g_nm (fun S4 hS4 => ?_)
    refine g_aload_n S 7 dL_law_159 rfl ?_
    refine g_iload S 1 dL_law_160 rfl ?_
    have hcn : CNi E S4 := hN.1.at (fun j _ _ => by rw [hS4, gu_ne (by omega), hS3, gu_ne (by omega), hS2, gu_ne (by omega), hS1, gu_ne (by omega)])
    have e11 : S4.1 (11 + d) = σ.1 (11 + d) := by rw [hS4, gu_ne (by omega), hS3, gu_ne (by omega), hS2, gu_ne (by omega), hS1, gu_ne (by omega)]
    refine g_calli (g_runV S hC (As := [.int (nI d)]) (rest := []) (k := 0) (by decide) rfl (by decide) rfl (q_take l hfl E S4 hcn.1 d (by rw [hcn.2.2.1]; exact hd) (by rw [e11, ekd]; rcases (show kd = 0 ∨ kd = 1 by omega) with rfl | rfl <;> decide)) (cwV 1 S.2.2.2.2 gL_law_X7_take rfl rfl rfl (by decide +kernel) ⟨Nat.le_of_ble_eq_true rfl, Nat.le_of_ble_eq_true rfl⟩) rfl rfl (Nat.le_of_ble_eq_true rfl) dL_law_162 ⟨by show _ ≤ 683427; omega, by show _ ≤ 7051186; omega⟩) ?_
    refine g_nm (fun S5 hS5 => ?_)
    refine g_iload S 0 dL_law_165 rfl ?_
    refine g_icmp_ne S 181 dL_law_167 (by decide) (fun c_3 => absurd (by rw [parts_at e11, e11]; exact hy) c_3) (fun c_3 => ?_)
    refine g_aload_n S 7 dL_law_170 rfl ?_
    refine g_iload S 1 dL_law_171 rfl ?_
    refine g_const S dL_law_173 (v := 2) rfl ?_
    have hI5 : INV E D (B + 320) S0 S5 := by subst hS5; subst hS4; subst hS3; subst hS2; subst hS1; exact inv_take hI hb (by omega) hd hkd ekd
    have e31 : ∀ j, S5.1 31 j = if j = kd then σ.1 31 kd + sX8_yields_r σ d else σ.1 31 j := fun j => by rw [hS5, fX2_fill _ _ _ _ _ (by omega), fX4_addRoasted _ _ _ _ _ (by decide), hS4, gu_ne (by omega), hS3, gu_ne (by omega), hS2, gu_ne (by omega), hS1, gu_at]
    have e29 : S5.1 29 = σ.1 29 := by rw [hS5, fX2_fill _ _ _ _ _ (by omega), fX4_addRoasted _ _ _ _ _ (by decide), hS4, gu_ne (by omega), hS3, gu_ne (by omega), hS2, gu_ne (by omega), hS1, gu_ne (by decide)]
    have e40 : S5.1 (40 + d) 2 = -1 := by rw [hS5, fX2_fill _ _ _ _ _ (by omega), fX4_addRoasted _ _ _ _ _ (by omega), hS4, gu_at, if_neg (by decide), hS3, gu_at, if_neg (by decide), hS2, gu_at, if_pos rfl]
    have hT5 : al + (tk + sX8_yields_r σ d) = T3 S5 := take_T3 hR hI5.2 hT hkd e31 e29
    refine g_eq (σ' := S5) (st' := [.int (nI 2), .int (nI d), .ref (E.2.2 0)]) rfl (by rfl) ?_
    refine g_calli (g_runV S hC (As := [.int (nI d), .int (nI 2)]) (rest := []) (k := 0) (by decide) rfl (by decide) rfl (q_roastv l hfl E S5 hI5.1.1.1 d 2 (by rw [hI5.1.1.2.2.1]; exact hd) (by decide) (v := (-1)) (by unfold sX2_tell_r; rw [if_neg (by decide)]; exact (hI5.2.drum hd (w := 2) (by decide)).trans e40)) (cwV 2 S.2.2.2.2 gL_law_X7_roast rfl rfl rfl (by decide +kernel) ⟨Nat.le_of_ble_eq_true rfl, Nat.le_of_ble_eq_true rfl⟩) rfl rfl (Nat.le_of_ble_eq_true rfl) dL_law_174 ⟨by show _ ≤ 683427; omega, by show _ ≤ 7051186; omega⟩) ?_
    refine g_const S dL_law_177 (v := (-1)) rfl ?_
    refine g_icmp_eq S 183 dL_law_178 (by decide) (fun c_4 => ?_) (fun c_4 => absurd (by decide) c_4)
    refine g_iload_n S 5 dL_law_183 rfl ?_
    refine g_iload S 0 dL_law_184 rfl ?_
    refine g_iadd S dL_law_186 ?_
    refine g_istore_n S [(3, .int (tk + (sX8_yields_r σ d))), (8, .int (sX8_yields_r σ d)), (7, .int (nI d)), (6, .int x), (5, .int (nI i)), (4, .int al), (2, .ref (E.2.2 29)), (1, .ref (E.2.2 0)), (0, .ref (gSb E))] dL_law_187 (by decide) rfl ?_
    refine g_iinc S [(7, .int (nI (d + 1))), (3, .int (tk + (sX8_yields_r σ d))), (8, .int (sX8_yields_r σ d)), (6, .int x), (5, .int (nI i)), (4, .int al), (2, .ref (E.2.2 29)), (1, .ref (E.2.2 0)), (0, .ref (gSb E))] 2 (nI (d + 1)) dL_law_188 rfl (by exact nI_1 d) (by decide) rfl ?_
    refine g_goto S 83 dL_law_191 (by decide) ?_
    refine g_lvs [0, 3, 4, 5, 1, 6, 7, 8] (lv' := [(7, .int (nI (d + 1))), (6, .int x), (5, .int (nI i)), (4, .int al), (3, .int (tk + sX8_yields_r σ d)), (2, .ref (E.2.2 29)), (1, .ref (E.2.2 0)), (0, .ref (gSb E))]) rfl ?_
    exact g_wid (by omega) (by omega) (ih S5 (tk + sX8_yields_r σ d) hI5 hT5)
  · skip
    refine g_goto S 188 dL_law_107 (by decide) ?_
    refine g_iinc S [(7, .int (nI (d + 1))), (8, .int (sX8_yields_r σ d)), (6, .int x), (5, .int (nI i)), (4, .int al), (3, .int tk), (2, .ref (E.2.2 29)), (1, .ref (E.2.2 0)), (0, .ref (gSb E))] 1 (nI (d + 1)) dL_law_188 rfl (by exact nI_1 d) (by decide) rfl ?_
    refine g_goto S 83 dL_law_191 (by decide) ?_
    refine g_lvs [0, 2, 3, 4, 5, 6, 7, 8] (lv' := [(7, .int (nI (d + 1))), (6, .int x), (5, .int (nI i)), (4, .int al), (3, .int tk), (2, .ref (E.2.2 29)), (1, .ref (E.2.2 0)), (0, .ref (gSb E))]) rfl ?_
    exact g_wid (by omega) (by omega) (ih σ tk (hI.le (by omega) (by omega) (by omega)) hT)
set_option maxRecDepth 100000 in
set_option maxHeartbeats 4000000 in
theorem law_tx (C : gLC p l s m args c E σ D B S0) {i : Nat} {x al tk : Int32} (ih : gJ p l e room_1 s m args below meth c Q 20 E σ cells slots 194 [(6, .int x), (5, .int (nI i)), (4, .int al), (3, .int tk), (2, .ref (E.2.2 29)), (1, .ref (E.2.2 0)), (0, .ref (gSb E))] []) : gJ p l e room_1 s m args below meth c Q 20 E σ cells slots 83 [(7, .int (nI (gNo E 1))), (6, .int x), (5, .int (nI i)), (4, .int al), (3, .int tk), (2, .ref (E.2.2 29)), (1, .ref (E.2.2 0)), (0, .ref (gSb E))] [] := by
  have hiX8 : ∀ w ∈ wsX80, w ∈ wsL_law := by decide +kernel
  obtain ⟨S, hC, hfl, hX, hI, hD, hB, hS0⟩ := id C
  obtain ⟨hN, hR⟩ := id hI
  have hb := NB.of hC
  have hok := hN.1.1
  refine g_iload S 0 dL_law_83 rfl ?_
  refine g_aload_n S 5 dL_law_85 rfl ?_
  refine gg7r S hC hiX8 8 33 (by decide) (by decide +kernel) dL_law_86 ?_
  refine g_alenR S hC 1 rfl (by decide) dL_law_89 ?_
  refine g_icmp_ge S 194 dL_law_90 (by decide) (fun c_1 => ?_) (fun c_1 => absurd (nI_le (Nat.le_refl _) (gNo_lt hC (by decide))) c_1)
  refine g_lvs [1, 2, 3, 4, 5, 6, 7] (lv' := [(6, .int x), (5, .int (nI i)), (4, .int al), (3, .int tk), (2, .ref (E.2.2 29)), (1, .ref (E.2.2 0)), (0, .ref (gSb E))]) rfl ?_
  exact ih
set_option maxRecDepth 100000 in
set_option maxHeartbeats 4000000 in
theorem law_c (C : gLC p l s m args c E σ D B S0) {i : Nat} {x al tk : Int32} (hc : cells + 5 ≤ 683427) (hs : slots + 30 ≤ 7051186) (ih : ∀ n : Nat, 1 ≤ n → n ≤ 3 → gJ p l e room_1 s m args below meth c Q 20 E (sX8_behind_s (sX6_live_s σ 1 n) n E) (cells + 1 + 1 + 1 + 1 + 1) (slots + 6 + 6 + 6 + 6 + 6) 250 [(12, .int (sX6_live_r σ 1 n)), (11, .int (σ.1 6 6)), (10, .int (σ.1 6 5)), (9, .int (σ.1 6 3)), (8, .int (σ.1 6 2)), (7, .int (nI n)), (6, .int x), (5, .int (nI i)), (4, .int al), (3, .int tk), (2, .ref (E.2.2 29)), (1, .ref (E.2.2 0)), (0, .ref (gSb E))] []) : gJ p l e room_1 s m args below meth c Q 20 E σ cells slots 194 [(6, .int x), (5, .int (nI i)), (4, .int al), (3, .int tk), (2, .ref (E.2.2 29)), (1, .ref (E.2.2 0)), (0, .ref (gSb E))] [] := by
  obtain ⟨S, hC, hfl, hX, hI, hD, hB, hS0⟩ := id C
  obtain ⟨hN, hR⟩ := id hI
  have hb := NB.of hC
  have hok := hN.1.1
  refine g_const S dL_law_194 (v := 1) rfl ?_
  refine g_iload S 0 dL_law_195 rfl ?_
  refine g_const S dL_law_197 (v := 2) rfl ?_
  refine g_ishr S dL_law_198 ?_
  refine g_const S dL_law_199 (v := 3) rfl ?_
  refine g_calli (g_runS S hC (As := [.int (x >>> ((2 : Int32) &&& 31)), .int (3 : Int32)]) (rest := [.int (1 : Int32)]) (kL_below l E σ (x >>> ((2 : Int32) &&& 31)) _ 3 rfl (by decide) (by decide)) (va_cwS 2 S.2.2.2.2 gL_law_L_below rfl rfl rfl (by decide +kernel) ⟨Nat.le_of_ble_eq_true rfl, Nat.le_of_ble_eq_true rfl⟩) rfl rfl (Nat.le_of_ble_eq_true rfl) dL_law_200 ⟨by show _ ≤ 683427; omega, by show _ ≤ 7051186; omega⟩) ?_
  have hg := bel_lt (v := x >>> ((2 : Int32) &&& 31)) (n := 3) (by decide)
  generalize bel (x >>> ((2 : Int32) &&& 31)) 3 = g at hg ⊢
  have hdB : ∀ X, X = sX6_live_s σ 1 (1 + g) → dB X (1 + g) := fun X hXe => by
    obtain ⟨z, h1, h2⟩ := day_cnt (n := 1 + g) hN hR (by omega)
    exact ⟨z, by rw [hXe, foX6_live gT1 hok (Or.inr (by decide))]; exact h1, h2⟩
  refine g_iadd S dL_law_203 ?_
  refine g_top (y := nI (1 + g)) (gI_add (a := 1) rfl rfl) ?_
  refine g_istore S [(7, .int (nI (1 + g))), (6, .int x), (5, .int (nI i)), (4, .int al), (3, .int tk), (2, .ref (E.2.2 29)), (1, .ref (E.2.2 0)), (0, .ref (gSb E))] dL_law_204 (by decide) rfl ?_
  refine g_aload_n S 6 dL_law_206 rfl ?_
  refine g_const S dL_law_207 (v := 3) rfl ?_
  refine g_eq (σ' := σ) (st' := [.int (nI 3), .ref (E.2.2 0)]) rfl (by rfl) ?_
  refine g_calli (g_runV S hC (As := [.int (nI 3)]) (rest := []) (k := 0) (by decide) rfl (by decide) rfl (q_cq l hfl E σ 3 (by decide) (v := σ.1 6 2) (by exact rfl)) (cwV 1 S.2.2.2.2 gL_law_X7_count rfl rfl rfl (by decide +kernel) ⟨Nat.le_of_ble_eq_true rfl, Nat.le_of_ble_eq_true rfl⟩) rfl rfl (Nat.le_of_ble_eq_true rfl) dL_law_208 ⟨by show _ ≤ 683427; omega, by show _ ≤ 7051186; omega⟩) ?_
  refine g_istore S [(8, .int (σ.1 6 2)), (7, .int (nI (1 + g))), (6, .int x), (5, .int (nI i)), (4, .int al), (3, .int tk), (2, .ref (E.2.2 29)), (1, .ref (E.2.2 0)), (0, .ref (gSb E))] dL_law_211 (by decide) rfl ?_
  refine g_aload_n S 7 dL_law_213 rfl ?_
  refine g_const S dL_law_214 (v := 4) rfl ?_
  refine g_eq (σ' := σ) (st' := [.int (nI 4), .ref (E.2.2 0)]) rfl (by rfl) ?_
  refine g_calli (g_runV S hC (As := [.int (nI 4)]) (rest := []) (k := 0) (by decide) rfl (by decide) rfl (q_cq l hfl E σ 4 (by decide) (v := σ.1 6 3) (by exact rfl)) (cwV 1 S.2.2.2.2 gL_law_X7_count rfl rfl rfl (by decide +kernel) ⟨Nat.le_of_ble_eq_true rfl, Nat.le_of_ble_eq_true rfl⟩) rfl rfl (Nat.le_of_ble_eq_true rfl) dL_law_215 ⟨by show _ ≤ 683427; omega, by show _ ≤ 7051186; omega⟩) ?_
  refine g_istore S [(9, .int (σ.1 6 3)), (8, .int (σ.1 6 2)), (7, .int (nI (1 + g))), (6, .int x), (5, .int (nI i)), (4, .int al), (3, .int tk), (2, .ref (E.2.2 29)), (1, .ref (E.2.2 0)), (0, .ref (gSb E))] dL_law_218 (by decide) rfl ?_
  refine g_aload_n S 8 dL_law_220 rfl ?_
  refine g_const S dL_law_221 (v := 5) rfl ?_
  refine g_eq (σ' := σ) (st' := [.int (nI 5), .ref (E.2.2 0)]) rfl (by rfl) ?_
  refine g_calli (g_runV S hC (As := [.int (nI 5)]) (rest := []) (k := 0) (by decide) rfl (by decide) rfl (q_cq l hfl E σ 5 (by decide) (v := σ.1 6 5) (by exact rfl)) (cwV 1 S.2.2.2.2 gL_law_X7_count rfl rfl rfl (by decide +kernel) ⟨Nat.le_of_ble_eq_true rfl, Nat.le_of_ble_eq_true rfl⟩) rfl rfl (Nat.le_of_ble_eq_true rfl) dL_law_222 ⟨by show _ ≤ 683427; omega, by show _ ≤ 7051186; omega⟩) ?_
  refine g_istore S [(10, .int (σ.1 6 5)), (9, .int (σ.1 6 3)), (8, .int (σ.1 6 2)), (7, .int (nI (1 + g))), (6, .int x), (5, .int (nI i)), (4, .int al), (3, .int tk), (2, .ref (E.2.2 29)), (1, .ref (E.2.2 0)), (0, .ref (gSb E))] dL_law_225 (by decide) rfl ?_
  refine g_aload_n S 9 dL_law_227 rfl ?_
  refine g_bipush S dL_law_228 (v := 6) rfl ?_
  refine g_eq (σ' := σ) (st' := [.int (nI 6), .ref (E.2.2 0)]) rfl (by rfl) ?_
  refine g_calli (g_runV S hC (As := [.int (nI 6)]) (rest := []) (k := 0) (by decide) rfl (by decide) rfl (q_cq l hfl E σ 6 (by decide) (v := σ.1 6 6) (by exact rfl)) (cwV 1 S.2.2.2.2 gL_law_X7_count rfl rfl rfl (by decide +kernel) ⟨Nat.le_of_ble_eq_true rfl, Nat.le_of_ble_eq_true rfl⟩) rfl rfl (Nat.le_of_ble_eq_true rfl) dL_law_230 ⟨by show _ ≤ 683427; omega, by show _ ≤ 7051186; omega⟩) ?_
  refine g_istore S [(11, .int (σ.1 6 6)), (10, .int (σ.1 6 5)), (9, .int (σ.1 6 3)), (8, .int (σ.1 6 2)), (7, .int (nI (1 + g))), (6, .int x), (5, .int (nI i)), (4, .int al), (3, .int tk), (2, .ref (E.2.2 29)), (1, .ref (E.2.2 0)), (0, .ref (gSb E))] dL_law_233 (by decide) rfl ?_
  refine g_aload_n S 10 dL_law_235 rfl ?_
  refine g_iload S 4 dL_law_236 rfl ?_
  refine g_calli (g_runV S hC (As := [.int (nI (1 + g))]) (rest := []) (k := 0) (by decide) rfl (by decide) rfl (q_pass l hfl E σ hok (1 + g) (by omega) (by omega)) (cwV 1 S.2.2.2.2 gL_law_X7_pass rfl rfl rfl (by decide +kernel) ⟨Nat.le_of_ble_eq_true rfl, Nat.le_of_ble_eq_true rfl⟩) rfl rfl (Nat.le_of_ble_eq_true rfl) dL_law_238 ⟨by show _ ≤ 683427; omega, by show _ ≤ 7051186; omega⟩) ?_
  refine g_nm (fun S1 hS1 => ?_)
  refine g_istore S [(12, .int (sX6_live_r σ 1 (1 + g))), (11, .int (σ.1 6 6)), (10, .int (σ.1 6 5)), (9, .int (σ.1 6 3)), (8, .int (σ.1 6 2)), (7, .int (nI (1 + g))), (6, .int x), (5, .int (nI i)), (4, .int al), (3, .int tk), (2, .ref (E.2.2 29)), (1, .ref (E.2.2 0)), (0, .ref (gSb E))] dL_law_241 (by decide) rfl ?_
  refine g_aload_n S 10 dL_law_243 rfl ?_
  refine g_iload S 5 dL_law_244 rfl ?_
  refine g_callr (g_runV S hC (As := [.int (nI (1 + g))]) (rest := []) (k := 29) (by decide) rfl (by decide) rfl (kX8_behind l E S1 (1 + g) (by omega) (hdB S1 hS1)) (cwV 1 S.2.2.2.2 gL_law_X8_behind rfl rfl rfl (by decide +kernel) ⟨Nat.le_of_ble_eq_true rfl, Nat.le_of_ble_eq_true rfl⟩) rfl rfl (Nat.le_of_ble_eq_true rfl) dL_law_246 ⟨by show _ ≤ 683427; omega, by show _ ≤ 7051186; omega⟩) ?_
  refine g_nm (fun S2 hS2 => ?_)
  refine g_pop S dL_law_249 rfl ?_
  refine g_lvs [0, 1, 2, 3, 4, 5, 6, 7, 8, 9, 10, 11, 12] (lv' := [(12, .int (sX6_live_r σ 1 (1 + g))), (11, .int (σ.1 6 6)), (10, .int (σ.1 6 5)), (9, .int (σ.1 6 3)), (8, .int (σ.1 6 2)), (7, .int (nI (1 + g))), (6, .int x), (5, .int (nI i)), (4, .int al), (3, .int tk), (2, .ref (E.2.2 29)), (1, .ref (E.2.2 0)), (0, .ref (gSb E))]) rfl ?_
  subst hS2 hS1
  exact ih (1 + g) (by omega) (by omega)
/-- the law's numbers before and behind its days -/
def DY (τ : gS) (al tk : Int32) (a2 a3 a5 a6 b2 b3 b5 b6 sh k t : Nat) : Prop :=
  (τ.1 6 2 = nI b2) ∧ (τ.1 6 3 = nI b3) ∧ (τ.1 6 4 = nI sh) ∧ (τ.1 6 5 = nI b5) ∧ (τ.1 6 6 = nI b6) ∧ (a2 + a3 = b2 + b3 + 10 * k) ∧ (b5 = a5 + k) ∧ (b6 = a6 + t) ∧ (t ≤ k) ∧ (b3 ≤ a3) ∧ (a3 ≤ b3 + sh * k) ∧ (b3 + sh * k ≤ a3 + sh * t) ∧ (a2 < 2 ^ 29) ∧ (a3 < 2 ^ 29) ∧ (b5 < 2 ^ 30) ∧ (b6 < 2 ^ 30) ∧ (sh ≤ 10) ∧ (k ≤ 60) ∧ (b2 < 2 ^ 30) ∧ (al + tk = nI b2 + nI b3 + (10 : Int32) * nI b5)
section DYS
variable {al tk : Int32} {a2 a3 a5 a6 b2 b3 b5 b6 sh k t : Nat}
theorem DY.h2 (h : DY τ al tk a2 a3 a5 a6 b2 b3 b5 b6 sh k t) : τ.1 6 2 = nI b2 := h.1
theorem DY.h3 (h : DY τ al tk a2 a3 a5 a6 b2 b3 b5 b6 sh k t) : τ.1 6 3 = nI b3 := h.2.1
theorem DY.h4 (h : DY τ al tk a2 a3 a5 a6 b2 b3 b5 b6 sh k t) : τ.1 6 4 = nI sh := h.2.2.1
theorem DY.h5 (h : DY τ al tk a2 a3 a5 a6 b2 b3 b5 b6 sh k t) : τ.1 6 5 = nI b5 := h.2.2.2.1
theorem DY.h6 (h : DY τ al tk a2 a3 a5 a6 b2 b3 b5 b6 sh k t) : τ.1 6 6 = nI b6 := h.2.2.2.2.1
theorem DY.w1 (h : DY τ al tk a2 a3 a5 a6 b2 b3 b5 b6 sh k t) : a2 + a3 = b2 + b3 + 10 * k := h.2.2.2.2.2.1
theorem DY.w2 (h : DY τ al tk a2 a3 a5 a6 b2 b3 b5 b6 sh k t) : b5 = a5 + k := h.2.2.2.2.2.2.1
theorem DY.w3 (h : DY τ al tk a2 a3 a5 a6 b2 b3 b5 b6 sh k t) : b6 = a6 + t := h.2.2.2.2.2.2.2.1
theorem DY.w4 (h : DY τ al tk a2 a3 a5 a6 b2 b3 b5 b6 sh k t) : t ≤ k := h.2.2.2.2.2.2.2.2.1
theorem DY.w5 (h : DY τ al tk a2 a3 a5 a6 b2 b3 b5 b6 sh k t) : b3 ≤ a3 := h.2.2.2.2.2.2.2.2.2.1
theorem DY.w6 (h : DY τ al tk a2 a3 a5 a6 b2 b3 b5 b6 sh k t) : a3 ≤ b3 + sh * k := h.2.2.2.2.2.2.2.2.2.2.1
theorem DY.w7 (h : DY τ al tk a2 a3 a5 a6 b2 b3 b5 b6 sh k t) : b3 + sh * k ≤ a3 + sh * t := h.2.2.2.2.2.2.2.2.2.2.2.1
theorem DY.v2 (h : DY τ al tk a2 a3 a5 a6 b2 b3 b5 b6 sh k t) : a2 < 2 ^ 29 := h.2.2.2.2.2.2.2.2.2.2.2.2.1
theorem DY.v3 (h : DY τ al tk a2 a3 a5 a6 b2 b3 b5 b6 sh k t) : a3 < 2 ^ 29 := h.2.2.2.2.2.2.2.2.2.2.2.2.2.1
theorem DY.v5 (h : DY τ al tk a2 a3 a5 a6 b2 b3 b5 b6 sh k t) : b5 < 2 ^ 30 := h.2.2.2.2.2.2.2.2.2.2.2.2.2.2.1
theorem DY.v6 (h : DY τ al tk a2 a3 a5 a6 b2 b3 b5 b6 sh k t) : b6 < 2 ^ 30 := h.2.2.2.2.2.2.2.2.2.2.2.2.2.2.2.1
theorem DY.vs (h : DY τ al tk a2 a3 a5 a6 b2 b3 b5 b6 sh k t) : sh ≤ 10 := h.2.2.2.2.2.2.2.2.2.2.2.2.2.2.2.2.1
theorem DY.vk (h : DY τ al tk a2 a3 a5 a6 b2 b3 b5 b6 sh k t) : k ≤ 60 := h.2.2.2.2.2.2.2.2.2.2.2.2.2.2.2.2.2.1
theorem DY.vb (h : DY τ al tk a2 a3 a5 a6 b2 b3 b5 b6 sh k t) : b2 < 2 ^ 30 := h.2.2.2.2.2.2.2.2.2.2.2.2.2.2.2.2.2.2.1
theorem DY.hT (h : DY τ al tk a2 a3 a5 a6 b2 b3 b5 b6 sh k t) : al + tk = nI b2 + nI b3 + (10 : Int32) * nI b5 := h.2.2.2.2.2.2.2.2.2.2.2.2.2.2.2.2.2.2.2
end DYS
theorem law_days {E : gT} {σ : gS} {D B S0 n : Nat} {al tk : Int32} (hI : INV E D B S0 σ) (hb : NB E) (hn : n ≤ 3) (hD : D + 20 < 4999) (hB : B + 4000 < 2 ^ 29) (hS : S0 + 300 < 2 ^ 30) (hT : al + tk = T3 σ) :
    INV E (D + 4) (B + 480) (S0 + 80) (sX8_behind_s (sX6_live_s σ 1 n) n E) ∧ ∃ b2 b3 b5 b6 sh k t, sX6_live_r σ 1 n = nI k ∧ DY (sX8_behind_s (sX6_live_s σ 1 n) n E) al tk (cv σ 6 2) (cv σ 6 3) (cv σ 6 5) (cv σ 6 6) b2 b3 b5 b6 sh k t ∧ ((∀ i, i < gNo E 3 → sh < cv (sX8_behind_s (sX6_live_s σ 1 n) n E) (19 + i) 1) → k = 0) := by
  obtain ⟨hN, hR⟩ := hI
  have hok := hN.1.1
  have hhi : ∀ x, 29 ≤ x → (sX6_live_s σ 1 n).1 x = σ.1 x := fun x hx => foX6_live gT1 hok (Or.inr (by omega))
  have hRL : RQ E σ (sX6_live_s σ 1 n) := hR.to (fun _ _ => rfl) (fun k hk _ => hhi k hk) hb
  obtain ⟨v, q, ⟨k, t, r1, r2, r3, r4, r5⟩, pk⟩ := hN.live hRL hb n (by omega) (by omega) (by omega)
  have hlo : ∀ x, x < 29 → (sX8_behind_s (sX6_live_s σ 1 n) n E).1 x = (sX6_live_s σ 1 n).1 x := fun x hx => loBehind hx
  generalize sX8_behind_s (sX6_live_s σ 1 n) n E = X at q hlo ⊢
  have hIX : INV E (D + n) (B + 120 * n) (S0 + 20 * n) X := INV.lh v q hb (fun x hx => hlo x hx) (HI.rf)
  obtain ⟨⟨d1, d2, d3⟩, ⟨d4, d5, d6⟩, ⟨d7, d8⟩, d9⟩ := r3
  have e6 := hlo 6 (by decide)
  have cv6 : ∀ j, cv X 6 j = cv (sX6_live_s σ 1 n) 6 j := fun j => by unfold cv; rw [e6]
  obtain ⟨n0, n1, n2, n3, n4, n5, n6⟩ := hIX.1.2.2.1
  obtain ⟨m0, m1, m2, m3, m4, m5, m6⟩ := hN.2.2.1
  have es : cv X 6 4 = cv σ 6 4 := by unfold cv; rw [e6, d9]
  refine ⟨hIX.le (by omega) (by omega) (by omega), cv X 6 2, cv X 6 3, cv X 6 5, cv X 6 6, cv X 6 4, k, t, r1, ⟨n2.1, n3.1, n4.1, n5.1, n6.1, ?_, ?_, ?_, d3, ?_, ?_, ?_, ?_, ?_, ?_, ?_, n4.2, ?_, ?_, ?_⟩, ?_⟩
  · rw [cv6, cv6]; exact d4
  · rw [cv6]; exact d1
  · rw [cv6]; exact d2
  · rw [cv6]; exact d6
  · rw [cv6 3, es]; exact d7
  · rw [cv6 3, es]; exact d8
  · have := m2.2; omega
  · have := m3.2; omega
  · have := n5.2; omega
  · have := n6.2; omega
  · omega
  · have := n2.2; omega
  · rw [hT]
    unfold T3
    rw [m2.1, m3.1, m5.1, nI_add, d4, ← nI_add, ← nI_add, cv6 2, cv6 3, cv6 5, d1, ← nI_add, show nI (10 * k) = (10 : Int32) * nI k from (gI_mul (a := 10) rfl rfl).symm]
    grind
  · intro h
    refine r4 (fun i hi => ?_)
    have h2 := h i hi
    have e1 : cv X (19 + i) 1 = cv σ (19 + i) 1 := by
      unfold cv
      obtain ⟨b0, b1, b2, b3⟩ := hb
      rw [hlo (19 + i) (by omega), pk i hi]
    rw [es, e1] at h2
    exact h2
set_option maxRecDepth 100000 in
set_option maxHeartbeats 4000000 in
theorem law_d (C : gLC p l s m args c E σ D B S0) {i n a2 a3 a5 a6 b2 b3 b5 b6 sh k t : Nat} {x al tk : Int32} (Y : DY σ al tk a2 a3 a5 a6 b2 b3 b5 b6 sh k t) (hc : cells + 14 ≤ 683427) (hs : slots + 84 ≤ 7051186) (ih : gJ p l e room_1 s m args below meth c Q 20 E σ (cells + 14) (slots + 84) 424 [(17, .int (0 : Int32)), (16, .int (11 : Int32)), (15, .int (0 : Int32)), (14, .int (nI sh)), (12, .int (nI k)), (6, .int x), (5, .int (nI i)), (4, .int al), (3, .int tk), (2, .ref (E.2.2 29)), (1, .ref (E.2.2 0)), (0, .ref (gSb E))] []) : gJ p l e room_1 s m args below meth c Q 20 E σ cells slots 250 [(12, .int (nI k)), (11, .int (nI a6)), (10, .int (nI a5)), (9, .int (nI a3)), (8, .int (nI a2)), (7, .int (nI n)), (6, .int x), (5, .int (nI i)), (4, .int al), (3, .int tk), (2, .ref (E.2.2 29)), (1, .ref (E.2.2 0)), (0, .ref (gSb E))] [] := by
  obtain ⟨S, hC, hfl, hX, hI, hD, hB, hS0⟩ := id C
  obtain ⟨hN, hR⟩ := id hI
  have hb := NB.of hC
  have hok := hN.1.1
  have w1 := Y.w1
  have w2 := Y.w2
  have w3 := Y.w3
  have w4 := Y.w4
  have w5 := Y.w5
  have w6 := Y.w6
  have w7 := Y.w7
  have v2 := Y.v2
  have v3 := Y.v3
  have v5 := Y.v5
  have v6 := Y.v6
  have vs := Y.vs
  have vk := Y.vk
  have vb := Y.vb
  have hsk : sh * k ≤ 10 * 60 := Nat.mul_le_mul vs vk
  have hkt : sh * (k - t) + sh * t = sh * k := by rw [← Nat.mul_add]; congr 1; omega
  refine g_iload S 4 dL_law_250 rfl ?_
  refine g_iload S 3 dL_law_252 rfl ?_
  refine g_iadd S dL_law_254 ?_
  refine g_aload_n S 11 dL_law_255 rfl ?_
  refine g_const S dL_law_256 (v := 3) rfl ?_
  refine g_eq (σ' := σ) (st' := [.int (nI 3), .ref (E.2.2 0), .int ((nI a2) + (nI a3))]) rfl (by rfl) ?_
  refine g_calli (g_runV S hC (As := [.int (nI 3)]) (rest := [.int ((nI a2) + (nI a3))]) (k := 0) (by decide) rfl (by decide) rfl (q_cq l hfl E σ 3 (by decide) (v := nI b2) (by exact Y.h2)) (cwV 1 S.2.2.2.2 gL_law_X7_count rfl rfl rfl (by decide +kernel) ⟨Nat.le_of_ble_eq_true rfl, Nat.le_of_ble_eq_true rfl⟩) rfl rfl (Nat.le_of_ble_eq_true rfl) dL_law_257 ⟨by show _ ≤ 683427; omega, by show _ ≤ 7051186; omega⟩) ?_
  refine g_isub S dL_law_260 ?_
  refine g_aload_n S 11 dL_law_261 rfl ?_
  refine g_const S dL_law_262 (v := 4) rfl ?_
  refine g_eq (σ' := σ) (st' := [.int (nI 4), .ref (E.2.2 0), .int (((nI a2) + (nI a3)) - (nI b2))]) rfl (by rfl) ?_
  refine g_calli (g_runV S hC (As := [.int (nI 4)]) (rest := [.int (((nI a2) + (nI a3)) - (nI b2))]) (k := 0) (by decide) rfl (by decide) rfl (q_cq l hfl E σ 4 (by decide) (v := nI b3) (by exact Y.h3)) (cwV 1 S.2.2.2.2 gL_law_X7_count rfl rfl rfl (by decide +kernel) ⟨Nat.le_of_ble_eq_true rfl, Nat.le_of_ble_eq_true rfl⟩) rfl rfl (Nat.le_of_ble_eq_true rfl) dL_law_263 ⟨by show _ ≤ 683427; omega, by show _ ≤ 7051186; omega⟩) ?_
  refine g_isub S dL_law_266 ?_
  refine g_top (y := nI (10 * k)) (used_eq Y.w1) ?_
  refine g_istore S [(13, .int (nI (10 * k))), (12, .int (nI k)), (11, .int (nI a6)), (10, .int (nI a5)), (9, .int (nI a3)), (8, .int (nI a2)), (7, .int (nI n)), (6, .int x), (5, .int (nI i)), (4, .int al), (3, .int tk), (2, .ref (E.2.2 29)), (1, .ref (E.2.2 0)), (0, .ref (gSb E))] dL_law_267 (by decide) rfl ?_
  refine g_iload S 0 dL_law_269 rfl ?_
  refine g_bipush S dL_law_271 (v := 10) rfl ?_
  refine g_iload S 1 dL_law_273 rfl ?_
  refine g_imul S dL_law_275 ?_
  refine g_icmp_ne S 360 dL_law_276 (by decide) (fun c_1 => absurd (gI_mul (a := 10) rfl rfl).symm c_1) (fun c_1 => ?_)
  refine g_aload_n S 12 dL_law_279 rfl ?_
  refine g_const S dL_law_280 (v := 5) rfl ?_
  refine g_eq (σ' := σ) (st' := [.int (nI 5), .ref (E.2.2 0)]) rfl (by rfl) ?_
  refine g_calli (g_runV S hC (As := [.int (nI 5)]) (rest := []) (k := 0) (by decide) rfl (by decide) rfl (q_cq l hfl E σ 5 (by decide) (v := nI b5) (by exact Y.h5)) (cwV 1 S.2.2.2.2 gL_law_X7_count rfl rfl rfl (by decide +kernel) ⟨Nat.le_of_ble_eq_true rfl, Nat.le_of_ble_eq_true rfl⟩) rfl rfl (Nat.le_of_ble_eq_true rfl) dL_law_281 ⟨by show _ ≤ 683427; omega, by show _ ≤ 7051186; omega⟩) ?_
  refine g_iload S 3 dL_law_284 rfl ?_
  refine g_iload S 1 dL_law_286 rfl ?_
  refine g_iadd S dL_law_288 ?_
  refine g_icmp_ne S 360 dL_law_289 (by decide) (fun c_2 => absurd (by rw [nI_add, Y.w2]) c_2) (fun c_2 => ?_)
  refine g_aload_n S 12 dL_law_292 rfl ?_
  refine g_bipush S dL_law_293 (v := 6) rfl ?_
  refine g_eq (σ' := σ) (st' := [.int (nI 6), .ref (E.2.2 0)]) rfl (by rfl) ?_
  refine g_calli (g_runV S hC (As := [.int (nI 6)]) (rest := []) (k := 0) (by decide) rfl (by decide) rfl (q_cq l hfl E σ 6 (by decide) (v := nI b6) (by exact Y.h6)) (cwV 1 S.2.2.2.2 gL_law_X7_count rfl rfl rfl (by decide +kernel) ⟨Nat.le_of_ble_eq_true rfl, Nat.le_of_ble_eq_true rfl⟩) rfl rfl (Nat.le_of_ble_eq_true rfl) dL_law_295 ⟨by show _ ≤ 683427; omega, by show _ ≤ 7051186; omega⟩) ?_
  refine g_iload S 2 dL_law_298 rfl ?_
  refine g_icmp_lt S 360 dL_law_300 (by decide) (fun c_3 => absurd c_3 (nI_nlt (by omega) (by omega))) (fun c_3 => ?_)
  refine g_aload_n S 12 dL_law_303 rfl ?_
  refine g_bipush S dL_law_304 (v := 6) rfl ?_
  refine g_eq (σ' := σ) (st' := [.int (nI 6), .ref (E.2.2 0)]) rfl (by rfl) ?_
  refine g_calli (g_runV S hC (As := [.int (nI 6)]) (rest := []) (k := 0) (by decide) rfl (by decide) rfl (q_cq l hfl E σ 6 (by decide) (v := nI b6) (by exact Y.h6)) (cwV 1 S.2.2.2.2 gL_law_X7_count rfl rfl rfl (by decide +kernel) ⟨Nat.le_of_ble_eq_true rfl, Nat.le_of_ble_eq_true rfl⟩) rfl rfl (Nat.le_of_ble_eq_true rfl) dL_law_306 ⟨by show _ ≤ 683427; omega, by show _ ≤ 7051186; omega⟩) ?_
  refine g_iload S 2 dL_law_309 rfl ?_
  refine g_isub S dL_law_311 ?_
  refine g_top (y := nI t) (by rw [pk_sub (by omega)]; congr 1; omega) ?_
  refine g_iload S 1 dL_law_312 rfl ?_
  refine g_icmp_gt S 360 dL_law_314 (by decide) (fun c_4 => absurd c_4 (nI_nlt w4 (by omega))) (fun c_4 => ?_)
  refine g_aload_n S 12 dL_law_317 rfl ?_
  refine g_const S dL_law_318 (v := 3) rfl ?_
  refine g_eq (σ' := σ) (st' := [.int (nI 3), .ref (E.2.2 0)]) rfl (by rfl) ?_
  refine g_calli (g_runV S hC (As := [.int (nI 3)]) (rest := []) (k := 0) (by decide) rfl (by decide) rfl (q_cq l hfl E σ 3 (by decide) (v := nI b2) (by exact Y.h2)) (cwV 1 S.2.2.2.2 gL_law_X7_count rfl rfl rfl (by decide +kernel) ⟨Nat.le_of_ble_eq_true rfl, Nat.le_of_ble_eq_true rfl⟩) rfl rfl (Nat.le_of_ble_eq_true rfl) dL_law_319 ⟨by show _ ≤ 683427; omega, by show _ ≤ 7051186; omega⟩) ?_
  refine g_if_lt S 360 dL_law_322 (by decide) (fun c_5 => absurd c_5 (nI_pos (by omega))) (fun c_5 => ?_)
  refine g_aload_n S 12 dL_law_325 rfl ?_
  refine g_const S dL_law_326 (v := 4) rfl ?_
  refine g_eq (σ' := σ) (st' := [.int (nI 4), .ref (E.2.2 0)]) rfl (by rfl) ?_
  refine g_calli (g_runV S hC (As := [.int (nI 4)]) (rest := []) (k := 0) (by decide) rfl (by decide) rfl (q_cq l hfl E σ 4 (by decide) (v := nI b3) (by exact Y.h3)) (cwV 1 S.2.2.2.2 gL_law_X7_count rfl rfl rfl (by decide +kernel) ⟨Nat.le_of_ble_eq_true rfl, Nat.le_of_ble_eq_true rfl⟩) rfl rfl (Nat.le_of_ble_eq_true rfl) dL_law_327 ⟨by show _ ≤ 683427; omega, by show _ ≤ 7051186; omega⟩) ?_
  refine g_if_lt S 360 dL_law_330 (by decide) (fun c_6 => absurd c_6 (nI_pos (by omega))) (fun c_6 => ?_)
  refine g_iload S 9 dL_law_333 rfl ?_
  refine g_iload_n S 10 dL_law_335 rfl ?_
  refine g_iadd S dL_law_336 ?_
  refine g_aload_n S 12 dL_law_337 rfl ?_
  refine g_const S dL_law_338 (v := 3) rfl ?_
  refine g_eq (σ' := σ) (st' := [.int (nI 3), .ref (E.2.2 0), .int (al + tk)]) rfl (by rfl) ?_
  refine g_calli (g_runV S hC (As := [.int (nI 3)]) (rest := [.int (al + tk)]) (k := 0) (by decide) rfl (by decide) rfl (q_cq l hfl E σ 3 (by decide) (v := nI b2) (by exact Y.h2)) (cwV 1 S.2.2.2.2 gL_law_X7_count rfl rfl rfl (by decide +kernel) ⟨Nat.le_of_ble_eq_true rfl, Nat.le_of_ble_eq_true rfl⟩) rfl rfl (Nat.le_of_ble_eq_true rfl) dL_law_339 ⟨by show _ ≤ 683427; omega, by show _ ≤ 7051186; omega⟩) ?_
  refine g_aload_n S 12 dL_law_342 rfl ?_
  refine g_const S dL_law_343 (v := 4) rfl ?_
  refine g_eq (σ' := σ) (st' := [.int (nI 4), .ref (E.2.2 0), .int (nI b2), .int (al + tk)]) rfl (by rfl) ?_
  refine g_calli (g_runV S hC (As := [.int (nI 4)]) (rest := [.int (nI b2), .int (al + tk)]) (k := 0) (by decide) rfl (by decide) rfl (q_cq l hfl E σ 4 (by decide) (v := nI b3) (by exact Y.h3)) (cwV 1 S.2.2.2.2 gL_law_X7_count rfl rfl rfl (by decide +kernel) ⟨Nat.le_of_ble_eq_true rfl, Nat.le_of_ble_eq_true rfl⟩) rfl rfl (Nat.le_of_ble_eq_true rfl) dL_law_344 ⟨by show _ ≤ 683427; omega, by show _ ≤ 7051186; omega⟩) ?_
  refine g_iadd S dL_law_347 ?_
  refine g_bipush S dL_law_348 (v := 10) rfl ?_
  refine g_aload_n S 12 dL_law_350 rfl ?_
  refine g_const S dL_law_351 (v := 5) rfl ?_
  refine g_eq (σ' := σ) (st' := [.int (nI 5), .ref (E.2.2 0), .int (10 : Int32), .int ((nI b2) + (nI b3)), .int (al + tk)]) rfl (by rfl) ?_
  refine g_calli (g_runV S hC (As := [.int (nI 5)]) (rest := [.int (10 : Int32), .int ((nI b2) + (nI b3)), .int (al + tk)]) (k := 0) (by decide) rfl (by decide) rfl (q_cq l hfl E σ 5 (by decide) (v := nI b5) (by exact Y.h5)) (cwV 1 S.2.2.2.2 gL_law_X7_count rfl rfl rfl (by decide +kernel) ⟨Nat.le_of_ble_eq_true rfl, Nat.le_of_ble_eq_true rfl⟩) rfl rfl (Nat.le_of_ble_eq_true rfl) dL_law_352 ⟨by show _ ≤ 683427; omega, by show _ ≤ 7051186; omega⟩) ?_
  refine g_imul S dL_law_355 ?_
  refine g_iadd S dL_law_356 ?_
  refine g_icmp_eq S 362 dL_law_357 (by decide) (fun c_7 => ?_) (fun c_7 => absurd Y.hT c_7)
  refine g_aload_n S 12 dL_law_362 rfl ?_
  refine g_bipush S dL_law_363 (v := 7) rfl ?_
  refine g_eq (σ' := σ) (st' := [.int (nI 7), .ref (E.2.2 0)]) rfl (by rfl) ?_
  refine g_calli (g_runV S hC (As := [.int (nI 7)]) (rest := []) (k := 0) (by decide) rfl (by decide) rfl (q_cq l hfl E σ 7 (by decide) (v := nI sh) (by exact Y.h4)) (cwV 1 S.2.2.2.2 gL_law_X7_count rfl rfl rfl (by decide +kernel) ⟨Nat.le_of_ble_eq_true rfl, Nat.le_of_ble_eq_true rfl⟩) rfl rfl (Nat.le_of_ble_eq_true rfl) dL_law_365 ⟨by show _ ≤ 683427; omega, by show _ ≤ 7051186; omega⟩) ?_
  refine g_istore S [(14, .int (nI sh)), (13, .int (nI (10 * k))), (12, .int (nI k)), (11, .int (nI a6)), (10, .int (nI a5)), (9, .int (nI a3)), (8, .int (nI a2)), (7, .int (nI n)), (6, .int x), (5, .int (nI i)), (4, .int al), (3, .int tk), (2, .ref (E.2.2 29)), (1, .ref (E.2.2 0)), (0, .ref (gSb E))] dL_law_368 (by decide) rfl ?_
  refine g_iload S 5 dL_law_370 rfl ?_
  refine g_aload_n S 13 dL_law_372 rfl ?_
  refine g_const S dL_law_373 (v := 4) rfl ?_
  refine g_eq (σ' := σ) (st' := [.int (nI 4), .ref (E.2.2 0), .int (nI a3)]) rfl (by rfl) ?_
  refine g_calli (g_runV S hC (As := [.int (nI 4)]) (rest := [.int (nI a3)]) (k := 0) (by decide) rfl (by decide) rfl (q_cq l hfl E σ 4 (by decide) (v := nI b3) (by exact Y.h3)) (cwV 1 S.2.2.2.2 gL_law_X7_count rfl rfl rfl (by decide +kernel) ⟨Nat.le_of_ble_eq_true rfl, Nat.le_of_ble_eq_true rfl⟩) rfl rfl (Nat.le_of_ble_eq_true rfl) dL_law_374 ⟨by show _ ≤ 683427; omega, by show _ ≤ 7051186; omega⟩) ?_
  refine g_isub S dL_law_377 ?_
  refine g_top (y := nI (a3 - b3)) (pk_sub Y.w5) ?_
  refine g_iload S 0 dL_law_378 rfl ?_
  refine g_iload S 2 dL_law_380 rfl ?_
  refine g_imul S dL_law_382 ?_
  refine g_icmp_gt S 412 dL_law_383 (by decide) (fun c_8 => absurd c_8 (by rw [show nI sh * nI k = nI (sh * k) from gI_mul rfl rfl]; exact nI_nlt (by omega) (by omega))) (fun c_8 => ?_)
  refine g_iload S 5 dL_law_386 rfl ?_
  refine g_aload_n S 13 dL_law_388 rfl ?_
  refine g_const S dL_law_389 (v := 4) rfl ?_
  refine g_eq (σ' := σ) (st' := [.int (nI 4), .ref (E.2.2 0), .int (nI a3)]) rfl (by rfl) ?_
  refine g_calli (g_runV S hC (As := [.int (nI 4)]) (rest := [.int (nI a3)]) (k := 0) (by decide) rfl (by decide) rfl (q_cq l hfl E σ 4 (by decide) (v := nI b3) (by exact Y.h3)) (cwV 1 S.2.2.2.2 gL_law_X7_count rfl rfl rfl (by decide +kernel) ⟨Nat.le_of_ble_eq_true rfl, Nat.le_of_ble_eq_true rfl⟩) rfl rfl (Nat.le_of_ble_eq_true rfl) dL_law_390 ⟨by show _ ≤ 683427; omega, by show _ ≤ 7051186; omega⟩) ?_
  refine g_isub S dL_law_393 ?_
  refine g_top (y := nI (a3 - b3)) (pk_sub Y.w5) ?_
  refine g_iload S 0 dL_law_394 rfl ?_
  refine g_iload S 2 dL_law_396 rfl ?_
  refine g_aload_n S 13 dL_law_398 rfl ?_
  refine g_bipush S dL_law_399 (v := 6) rfl ?_
  refine g_eq (σ' := σ) (st' := [.int (nI 6), .ref (E.2.2 0), .int (nI k), .int (nI sh), .int (nI (a3 - b3))]) rfl (by rfl) ?_
  refine g_calli (g_runV S hC (As := [.int (nI 6)]) (rest := [.int (nI k), .int (nI sh), .int (nI (a3 - b3))]) (k := 0) (by decide) rfl (by decide) rfl (q_cq l hfl E σ 6 (by decide) (v := nI b6) (by exact Y.h6)) (cwV 1 S.2.2.2.2 gL_law_X7_count rfl rfl rfl (by decide +kernel) ⟨Nat.le_of_ble_eq_true rfl, Nat.le_of_ble_eq_true rfl⟩) rfl rfl (Nat.le_of_ble_eq_true rfl) dL_law_401 ⟨by show _ ≤ 683427; omega, by show _ ≤ 7051186; omega⟩) ?_
  refine g_iload S 3 dL_law_404 rfl ?_
  refine g_isub S dL_law_406 ?_
  refine g_top (y := nI t) (by rw [pk_sub (by omega)]; congr 1; omega) ?_
  refine g_isub S dL_law_407 ?_
  refine g_top (y := nI (k - t)) (pk_sub Y.w4) ?_
  refine g_imul S dL_law_408 ?_
  refine g_icmp_ge S 414 dL_law_409 (by decide) (fun c_9 => ?_) (fun c_9 => absurd (by rw [show nI sh * nI (k - t) = nI (sh * (k - t)) from gI_mul rfl rfl]; exact nI_le (by omega) (by omega)) c_9)
  refine g_const S dL_law_414 (v := 0) rfl ?_
  refine g_istore S [(15, .int (0 : Int32)), (14, .int (nI sh)), (13, .int (nI (10 * k))), (12, .int (nI k)), (11, .int (nI a6)), (10, .int (nI a5)), (9, .int (nI a3)), (8, .int (nI a2)), (7, .int (nI n)), (6, .int x), (5, .int (nI i)), (4, .int al), (3, .int tk), (2, .ref (E.2.2 29)), (1, .ref (E.2.2 0)), (0, .ref (gSb E))] dL_law_415 (by decide) rfl ?_
  refine g_bipush S dL_law_417 (v := 11) rfl ?_
  refine g_istore S [(16, .int (11 : Int32)), (15, .int (0 : Int32)), (14, .int (nI sh)), (13, .int (nI (10 * k))), (12, .int (nI k)), (11, .int (nI a6)), (10, .int (nI a5)), (9, .int (nI a3)), (8, .int (nI a2)), (7, .int (nI n)), (6, .int x), (5, .int (nI i)), (4, .int al), (3, .int tk), (2, .ref (E.2.2 29)), (1, .ref (E.2.2 0)), (0, .ref (gSb E))] dL_law_419 (by decide) rfl ?_
  refine g_const S dL_law_421 (v := 0) rfl ?_
  refine g_istore S [(17, .int (0 : Int32)), (16, .int (11 : Int32)), (15, .int (0 : Int32)), (14, .int (nI sh)), (13, .int (nI (10 * k))), (12, .int (nI k)), (11, .int (nI a6)), (10, .int (nI a5)), (9, .int (nI a3)), (8, .int (nI a2)), (7, .int (nI n)), (6, .int x), (5, .int (nI i)), (4, .int al), (3, .int tk), (2, .ref (E.2.2 29)), (1, .ref (E.2.2 0)), (0, .ref (gSb E))] dL_law_422 (by decide) rfl ?_
  refine g_lvs [0, 1, 2, 3, 5, 11, 12, 13, 14, 15, 16, 17] (lv' := [(17, .int (0 : Int32)), (16, .int (11 : Int32)), (15, .int (0 : Int32)), (14, .int (nI sh)), (12, .int (nI k)), (6, .int x), (5, .int (nI i)), (4, .int al), (3, .int tk), (2, .ref (E.2.2 29)), (1, .ref (E.2.2 0)), (0, .ref (gSb E))]) rfl ?_
  exact g_wid (by omega) (by omega) ih
end LA
