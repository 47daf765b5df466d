section SA
variable {p : Program} {l : Launch} {e : Env} {R : Room} {s : State} {m : MethodId} {args : Array Value} {below : List Frame} {meth : Method} {c : Code} {Q : State → Prop}
variable {cc : ByteArray} {nL : Nat} {own : String} {E : gT} {σ : gS} {cells slots pc : Nat} {lv : List (Nat × Value)} {rest : List Value} {D B S0 : Nat}
/-- a loop that counts up: what holds of its count, its world, what else it keeps -/
theorem g_loopK {β : Type} (N : Nat) (I : Nat → gT → gS → β → Prop) (Fc Fs : Nat → Nat) (Fl : Nat → gT → β → List (Nat × Value)) (st : List Value)
    (hs : ∀ i E σ b, i < N → I i E σ b → (∀ E' σ' b', I (i + 1) E' σ' b' → gJ p l e R s m args below meth c Q nL E' σ' (Fc (i + 1)) (Fs (i + 1)) pc (Fl (i + 1) E' b') st) → gJ p l e R s m args below meth c Q nL E σ (Fc i) (Fs i) pc (Fl i E b) st)
    (hx : ∀ E σ b, I N E σ b → gJ p l e R s m args below meth c Q nL E σ (Fc N) (Fs N) pc (Fl N E b) st) {b : β} (h0 : I 0 E σ b) : gJ p l e R s m args below meth c Q nL E σ (Fc 0) (Fs 0) pc (Fl 0 E b) st := by
  have key : ∀ d i, i + d = N → ∀ E σ b, I i E σ b → gJ p l e R s m args below meth c Q nL E σ (Fc i) (Fs i) pc (Fl i E b) st := by
    intro d
    induction d with
    | zero => intro i hi E σ b h; obtain rfl : i = N := by omega
              exact hx E σ b h
    | succ d ih => intro i hi E σ b h; exact hs i E σ b (by omega) h (fun E' σ' b' h' => ih (i + 1) (by omega) E' σ' b' h')
  exact key N 0 (by omega) E σ b h0
abbrev sameR : Room := { frames := 9, cells := 260, slots := 1700, locals := 200 }
def gSC (p : Program) (l : Launch) (s : State) (m : MethodId) (args : Array Value) (c : Code) (E : gT) (σ : gS) (D B S0 : Nat) : Prop := CallFix p m c cX8_isSame 5 s args wsX8_isSame RX8 ∧ gC E s ∧ l.stackTraces = false ∧ INV E D B S0 σ
theorem tell_cnt (hR : RQ E σ σ) {i : Nat} (hi : i < 9) : sX6_tell_r σ 1 i = cntF σ i := by
  unfold sX6_tell_r
  rcases (show i = 0 ∨ i = 1 ∨ i = 2 ∨ i = 3 ∨ i = 4 ∨ i = 5 ∨ i = 6 ∨ i = 7 ∨ i = 8 by omega) with rfl | rfl | rfl | rfl | rfl | rfl | rfl | rfl | rfl
  · exact hR.day
  · exact hR.roots
  · exact hR.beans
  · exact hR.chic
  · exact hR.coff
  · exact hR.served
  · exact hR.thin
  · exact hR.share
  · exact hR.patrol
/-- two that are alike one number are the same -/
theorem mean_same {x r1 r2 : UInt64} (hx : FP.Core.dIsNaN x = false) (h1 : alike64 r1 x = true) (h2 : alike64 r2 x = true) : Op.cmpValue (FP.dcmp r1 r2) .l = 0 := by
  have hx2 : ¬ isNaN64 x = true := fun z => by
    have : FP.Core.dIsNaN x = true := by
      rw [FP.Core.isNaN_bits, ← Nat.and_two_pow_sub_one_eq_mod]
      exact isNaN64_iff.mp z
    rw [hx] at this
    exact absurd this (by decide)
  unfold alike64 at h1 h2
  simp only [Bool.or_eq_true, decide_eq_true_eq, Bool.and_eq_true] at h1 h2
  obtain rfl : r1 = x := h1.resolve_right (fun z => hx2 z.2)
  obtain rfl : r2 = r1 := h2.resolve_right (fun z => hx2 z.2)
  have h3 : FP.dcmp r2 r2 = some .eq := FP.Core.dcmp_self ((FP.Core.notNaN_iff r2).mp hx)
  rw [h3]
  rfl
theorem ddiv_num {x n : Int32} (hn : ¬ n = 0) : FP.Core.dIsNaN (FP.ddiv (FP.i2d x) (FP.i2d n)) = false :=
  FP.Core.ddiv_out ((FP.Core.notNaN_iff _).mpr (FP.Core.i2d_fin x).ne_nan) (FP.Core.i2d_fin n) (fun z => FP.Core.i2d_ne_zero hn ((FP.Core.zero_bits2 _).mp z))
theorem g_zretD {Ts : List Cond} {d0 : Drawn} {σ' : gS} (hd0 : s.drawn.sameBut d0 lw_cs) (S : CallFix p m c cc nL s args Ts own) (hr : meth.sig.returnType = some .boolean) (hlocks : meth.locks = false) {r r' : Int32} {mc ms : Nat} (d : decode cc pc = .ok (.ireturn, 1)) (h0 : narrow .boolean (.int r) = .int r) (h1 : r = r') (h2 : σ = σ') (h3 : cells ≤ mc) (h4 : slots ≤ ms) :
    gJ p l e R (s.setDrawn d0) m args below meth c (MQD lw_cs below (gRi E σ' r' s.heap.size) args s mc ms (gA E s.heap.size)) nL E σ cells slots pc lv [.int r] := by
  subst h1; subst h2
  exact fun H locs ls hP hS hl => W.endD hd0 (W.widen h3 h4 (W.zret S.1 S.2.1 hr h0 (fun t ht _ => ⟨⟨r, (), rfl, rfl, by show gP _ _ t.heap; rw [ht]; exact hP⟩, va_S.F (s := s.setDrawn d0) hS ht⟩) hS.2.2 d))
set_option maxRecDepth 100000 in
set_option maxHeartbeats 4000000 in
theorem same_c (C : gSC p l s m args c E σ D B S0) {i : Nat} (hi : i < 9) (hc : cells + 2 ≤ 260) (hs : slots + 15 ≤ 1700) (ih : gJ p l e sameR s m args below meth c Q 5 E σ (cells + 1 + 1) (slots + 6 + 9) 2 [(2, .int (nI (i + 1))), (0, .ref (E.2.2 29)), (1, .ref (E.2.2 0))] []) : gJ p l e sameR s m args below meth c Q 5 E σ cells slots 2 [(2, .int (nI i)), (0, .ref (E.2.2 29)), (1, .ref (E.2.2 0))] [] := by
  obtain ⟨S, hC, hfl, ⟨hN, hR⟩⟩ := id C
  have hb := NB.of hC
  have hok := hN.1.1
  refine g_iload_n S 0 dX8_isSame_2 rfl ?_
  refine g_bipush S dX8_isSame_3 (v := 9) rfl ?_
  refine g_icmp_ge S 29 dX8_isSame_5 (by decide) (fun c_1 => absurd c_1 (nI_ge hi (by decide))) (fun c_1 => ?_)
  refine g_aload_n S 2 dX8_isSame_8 rfl ?_
  refine g_iload_n S 0 dX8_isSame_9 rfl ?_
  refine g_calli (g_runV S hC (As := [.int (nI i)]) (rest := []) (k := 0) (by decide) rfl (by decide) rfl (q_count l hfl E σ i hi) (cwV 1 S.2.2.2.2 gX8_isSame_X7_count rfl rfl rfl (by decide +kernel) ⟨Nat.le_of_ble_eq_true rfl, Nat.le_of_ble_eq_true rfl⟩) rfl rfl (Nat.le_of_ble_eq_true rfl) dX8_isSame_10 ⟨by show _ ≤ 260; omega, by show _ ≤ 1700; omega⟩) ?_
  refine g_aload_n S 1 dX8_isSame_13 rfl ?_
  refine g_iload_n S 0 dX8_isSame_14 rfl ?_
  refine g_calli (g_runV S hC (As := [.int (nI i)]) (rest := [.int (sX6_tell_r σ 1 i)]) (k := 29) (by decide) rfl (by decide) rfl (kX8_counted l E σ i hi) (cwV 1 S.2.2.2.2 gX8_isSame_X8_counted rfl rfl rfl (by decide +kernel) ⟨Nat.le_of_ble_eq_true rfl, Nat.le_of_ble_eq_true rfl⟩) rfl rfl (Nat.le_of_ble_eq_true rfl) dX8_isSame_15 ⟨by show _ ≤ 260; omega, by show _ ≤ 1700; omega⟩) ?_
  refine g_icmp_eq S 23 dX8_isSame_18 (by decide) (fun c_2 => ?_) (fun c_2 => absurd (tell_cnt hR hi) c_2)
  refine g_iinc S [(2, .int (nI (i + 1))), (0, .ref (E.2.2 29)), (1, .ref (E.2.2 0))] 0 (nI (i + 1)) dX8_isSame_23 rfl (by exact nI_1 i) (by decide) rfl ?_
  refine g_goto S 2 dX8_isSame_26 (by decide) ?_
  refine g_lvs [0, 1, 2] (lv' := [(2, .int (nI (i + 1))), (0, .ref (E.2.2 29)), (1, .ref (E.2.2 0))]) rfl ?_
  exact ih
set_option maxRecDepth 100000 in
set_option maxHeartbeats 4000000 in
theorem same_about_w (C : gSC p l s m args c E σ D B S0) {v : Int32} {k w : Nat} (hk : k < gNo E 0) (hw : w < 3) (hc : cells + 2 ≤ 260) (hs : slots + 12 ≤ 1700) (ih : gJ p l e sameR s m args below meth c Q 5 E σ (cells + 2) (slots + 12) 45 [(4, .int (nI (w + 1))), (3, .int (nI k)), (0, .ref (E.2.2 29)), (1, .ref (E.2.2 0)), (2, .int v)] []) : gJ p l e sameR s m args below meth c Q 5 E σ cells slots 45 [(4, .int (nI w)), (3, .int (nI k)), (0, .ref (E.2.2 29)), (1, .ref (E.2.2 0)), (2, .int v)] [] := by
  have hiX8 : ∀ w ∈ wsX80, w ∈ wsX8_isSame := by decide +kernel
  obtain ⟨S, hC, hfl, ⟨hN, hR⟩⟩ := id C
  have hb := NB.of hC
  have hok := hN.1.1
  refine g_iload S 0 dX8_isSame_45 rfl ?_
  refine g_const S dX8_isSame_47 (v := 3) rfl ?_
  refine g_icmp_ge S 78 dX8_isSame_48 (by decide) (fun c_1 => absurd c_1 (nI_ge hw (by decide))) (fun c_1 => ?_)
  refine g_aload_n S 3 dX8_isSame_51 rfl ?_
  refine g_iload_n S 1 dX8_isSame_52 rfl ?_
  refine g_iload S 0 dX8_isSame_53 rfl ?_
  refine g_calli (g_runV S hC (As := [.int (nI k), .int (nI w)]) (rest := []) (k := 0) (by decide) rfl (by decide) rfl (q_about l hfl E σ hok k w (by rw [hN.1.2.1]; exact hk) (by omega)) (cwV 2 S.2.2.2.2 gX8_isSame_X7_about rfl rfl rfl (by decide +kernel) ⟨Nat.le_of_ble_eq_true rfl, Nat.le_of_ble_eq_true rfl⟩) rfl rfl (Nat.le_of_ble_eq_true rfl) dX8_isSame_55 ⟨by show _ ≤ 260; omega, by show _ ≤ 1700; omega⟩) ?_
  refine g_aload_n S 2 dX8_isSame_58 rfl ?_
  refine gg7r S hC hiX8 7 32 (by decide) (by decide +kernel) dX8_isSame_59 ?_
  refine g_iload_n S 1 dX8_isSame_62 rfl ?_
  refine g_aaldR S hC 0 rfl (by decide) k rfl (by first | assumption | omega) (36 + k) (by omega) dX8_isSame_63 ?_
  refine g_iload S 0 dX8_isSame_64 rfl ?_
  refine g_ialdR S hC 0 k (by omega) (by decide) (by first | assumption | omega) w rfl (show w < 3 by omega) dX8_isSame_66 ?_
  refine g_icmp_eq S 72 dX8_isSame_67 (by decide) (fun c_2 => ?_) (fun c_2 => absurd (hR.bed hk hw) c_2)
  refine g_iinc S [(4, .int (nI (w + 1))), (3, .int (nI k)), (0, .ref (E.2.2 29)), (1, .ref (E.2.2 0)), (2, .int v)] 0 (nI (w + 1)) dX8_isSame_72 rfl (by exact nI_1 w) (by decide) rfl ?_
  refine g_goto S 45 dX8_isSame_75 (by decide) ?_
  refine g_lvs [0, 1, 2, 3, 4] (lv' := [(4, .int (nI (w + 1))), (3, .int (nI k)), (0, .ref (E.2.2 29)), (1, .ref (E.2.2 0)), (2, .int v)]) rfl ?_
  exact ih
theorem same_about_r (C : gSC p l s m args c E σ D B S0) {v : Int32} {k : Nat} (hk : k < gNo E 0) (hc : cells + 6 ≤ 260) (hs : slots + 36 ≤ 1700) (K : gJ p l e sameR s m args below meth c Q 5 E σ (cells + 2 * 3) (slots + 12 * 3) 45 [(4, .int (nI 3)), (3, .int (nI k)), (0, .ref (E.2.2 29)), (1, .ref (E.2.2 0)), (2, .int v)] []) : gJ p l e sameR s m args below meth c Q 5 E σ cells slots 45 [(4, .int (nI 0)), (3, .int (nI k)), (0, .ref (E.2.2 29)), (1, .ref (E.2.2 0)), (2, .int v)] [] := by
  refine g_loopK (E := E) (σ := σ) 3 (fun _ E' σ' (_ : Unit) => E' = E ∧ σ' = σ) (fun i => cells + 2 * i) (fun i => slots + 12 * i) (fun i _ _ => [(4, .int (nI i)), (3, .int (nI k)), (0, .ref (E.2.2 29)), (1, .ref (E.2.2 0)), (2, .int v)]) [] (fun i E' σ' _ hi hq kk => ?_) (fun E' σ' _ hq => ?_) (b := ()) ⟨rfl, rfl⟩
  · obtain ⟨rfl, rfl⟩ := hq
    exact same_about_w C hk hi (by omega) (by omega) (kk _ _ () ⟨rfl, rfl⟩)
  · obtain ⟨rfl, rfl⟩ := hq
    exact K
set_option maxRecDepth 100000 in
set_option maxHeartbeats 4000000 in
theorem same_about_t (C : gSC p l s m args c E σ D B S0) {v : Int32} {k : Nat} (hk : k < gNo E 0) (hc : cells + 2 ≤ 260) (hs : slots + 12 ≤ 1700) (ih : gJ p l e sameR s m args below meth c Q 5 E σ cells slots 33 [(3, .int (nI (k + 1))), (0, .ref (E.2.2 29)), (1, .ref (E.2.2 0)), (2, .int v)] []) : gJ p l e sameR s m args below meth c Q 5 E σ cells slots 45 [(4, .int (nI 3)), (3, .int (nI k)), (0, .ref (E.2.2 29)), (1, .ref (E.2.2 0)), (2, .int v)] [] := by
  obtain ⟨S, hC, hfl, ⟨hN, hR⟩⟩ := id C
  have hb := NB.of hC
  have hok := hN.1.1
  refine g_iload S 0 dX8_isSame_45 rfl ?_
  refine g_const S dX8_isSame_47 (v := 3) rfl ?_
  refine g_icmp_ge S 78 dX8_isSame_48 (by decide) (fun c_1 => ?_) (fun c_1 => absurd (nI_le (Nat.le_refl _) (by decide)) c_1)
  refine g_iinc S [(3, .int (nI (k + 1))), (4, .int (nI 3)), (0, .ref (E.2.2 29)), (1, .ref (E.2.2 0)), (2, .int v)] 1 (nI (k + 1)) dX8_isSame_78 rfl (by exact nI_1 k) (by decide) rfl ?_
  refine g_goto S 33 dX8_isSame_81 (by decide) ?_
  refine g_lvs [0, 2, 3, 4] (lv' := [(3, .int (nI (k + 1))), (0, .ref (E.2.2 29)), (1, .ref (E.2.2 0)), (2, .int v)]) rfl ?_
  exact ih
set_option maxRecDepth 100000 in
set_option maxHeartbeats 4000000 in
theorem same_about_k (C : gSC p l s m args c E σ D B S0) {v : Int32} {k : Nat} (hk : k < gNo E 0) (hc : cells + 8 ≤ 260) (hs : slots + 48 ≤ 1700) (ih : gJ p l e sameR s m args below meth c Q 5 E σ (cells + 6) (slots + 36) 33 [(3, .int (nI (k + 1))), (0, .ref (E.2.2 29)), (1, .ref (E.2.2 0)), (2, .int v)] []) : gJ p l e sameR s m args below meth c Q 5 E σ cells slots 33 [(3, .int (nI k)), (0, .ref (E.2.2 29)), (1, .ref (E.2.2 0)), (2, .int v)] [] := by
  have hiX8 : ∀ w ∈ wsX80, w ∈ wsX8_isSame := by decide +kernel
  obtain ⟨S, hC, hfl, ⟨hN, hR⟩⟩ := id C
  have hb := NB.of hC
  have hok := hN.1.1
  refine g_iload_n S 0 dX8_isSame_33 rfl ?_
  refine g_aload_n S 1 dX8_isSame_34 rfl ?_
  refine gg7r S hC hiX8 7 32 (by decide) (by decide +kernel) dX8_isSame_35 ?_
  refine g_alenR S hC 0 rfl (by decide) dX8_isSame_38 ?_
  refine g_icmp_ge S 84 dX8_isSame_39 (by decide) (fun c_1 => absurd c_1 (nI_ge hk (gNo_lt hC (by decide)))) (fun c_1 => ?_)
  refine g_const S dX8_isSame_42 (v := 0) rfl ?_
  refine g_istore S [(4, .int (0 : Int32)), (3, .int (nI k)), (0, .ref (E.2.2 29)), (1, .ref (E.2.2 0)), (2, .int v)] dX8_isSame_43 (by decide) rfl ?_
  refine g_lvs [0, 1, 2, 3, 4] (lv' := [(4, .int (0 : Int32)), (3, .int (nI k)), (0, .ref (E.2.2 29)), (1, .ref (E.2.2 0)), (2, .int v)]) rfl ?_
  exact same_about_r C hk (by omega) (by omega) (same_about_t C hk (by omega) (by omega) (g_wid (by omega) (by omega) ih))
theorem same_about_a (C : gSC p l s m args c E σ D B S0) {v : Int32} (hc : cells + 36 ≤ 260) (hs : slots + 216 ≤ 1700) (K : gJ p l e sameR s m args below meth c Q 5 E σ (cells + 24) (slots + 144) 33 [(3, .int (nI (gNo E 0))), (0, .ref (E.2.2 29)), (1, .ref (E.2.2 0)), (2, .int v)] []) : gJ p l e sameR s m args below meth c Q 5 E σ cells slots 33 [(3, .int (nI 0)), (0, .ref (E.2.2 29)), (1, .ref (E.2.2 0)), (2, .int v)] [] := by
  have hb := NB.of C.2.1
  obtain ⟨b0, b1, b2, b3⟩ := hb
  refine g_loopK (E := E) (σ := σ) (gNo E 0) (fun _ E' σ' (_ : Unit) => E' = E ∧ σ' = σ) (fun i => cells + 6 * i) (fun i => slots + 36 * i) (fun k _ _ => [(3, .int (nI k)), (0, .ref (E.2.2 29)), (1, .ref (E.2.2 0)), (2, .int v)]) [] (fun k E' σ' _ hk hq kk => ?_) (fun E' σ' _ hq => ?_) (b := ()) ⟨rfl, rfl⟩
  · obtain ⟨rfl, rfl⟩ := hq
    exact same_about_k C hk (by omega) (by omega) (kk _ _ () ⟨rfl, rfl⟩)
  · obtain ⟨rfl, rfl⟩ := hq
    exact g_wid (by omega) (by omega) K
set_option maxRecDepth 100000 in
set_option maxHeartbeats 4000000 in
theorem same_roast_w (C : gSC p l s m args c E σ D B S0) {v : Int32} {k w : Nat} (hk : k < gNo E 1) (hw : w < 5) (hc : cells + 2 ≤ 260) (hs : slots + 12 ≤ 1700) (ih : gJ p l e sameR s m args below meth c Q 5 E σ (cells + 2) (slots + 12) 98 [(4, .int (nI (w + 1))), (3, .int (nI k)), (0, .ref (E.2.2 29)), (1, .ref (E.2.2 0)), (2, .int v)] []) : gJ p l e sameR s m args below meth c Q 5 E σ cells slots 98 [(4, .int (nI w)), (3, .int (nI k)), (0, .ref (E.2.2 29)), (1, .ref (E.2.2 0)), (2, .int v)] [] := by
  have hiX8 : ∀ w ∈ wsX80, w ∈ wsX8_isSame := by decide +kernel
  obtain ⟨S, hC, hfl, ⟨hN, hR⟩⟩ := id C
  have hb := NB.of hC
  have hok := hN.1.1
  refine g_iload S 0 dX8_isSame_98 rfl ?_
  refine g_const S dX8_isSame_100 (v := 5) rfl ?_
  refine g_icmp_ge S 131 dX8_isSame_101 (by decide) (fun c_1 => absurd c_1 (nI_ge hw (by decide))) (fun c_1 => ?_)
  refine g_aload_n S 3 dX8_isSame_104 rfl ?_
  refine g_iload_n S 1 dX8_isSame_105 rfl ?_
  refine g_iload S 0 dX8_isSame_106 rfl ?_
  refine g_calli (g_runV S hC (As := [.int (nI k), .int (nI w)]) (rest := []) (k := 0) (by decide) rfl (by decide) rfl (q_roast l hfl E σ hok k w (by rw [hN.1.2.2.1]; exact hk) (by omega)) (cwV 2 S.2.2.2.2 gX8_isSame_X7_roast rfl rfl rfl (by decide +kernel) ⟨Nat.le_of_ble_eq_true rfl, Nat.le_of_ble_eq_true rfl⟩) rfl rfl (Nat.le_of_ble_eq_true rfl) dX8_isSame_108 ⟨by show _ ≤ 260; omega, by show _ ≤ 1700; omega⟩) ?_
  refine g_aload_n S 2 dX8_isSame_111 rfl ?_
  refine gg7r S hC hiX8 8 33 (by decide) (by decide +kernel) dX8_isSame_112 ?_
  refine g_iload_n S 1 dX8_isSame_115 rfl ?_
  refine g_aaldR S hC 1 rfl (by decide) k rfl (by first | assumption | omega) (40 + k) (by omega) dX8_isSame_116 ?_
  refine g_iload S 0 dX8_isSame_117 rfl ?_
  refine g_ialdR S hC 1 k (by omega) (by decide) (by first | assumption | omega) w rfl (show w < 5 by omega) dX8_isSame_119 ?_
  refine g_icmp_eq S 125 dX8_isSame_120 (by decide) (fun c_2 => ?_) (fun c_2 => absurd (by unfold sX2_tell_r; rw [if_neg (by omega)]; exact hR.drum hk hw) c_2)
  refine g_iinc S [(4, .int (nI (w + 1))), (3, .int (nI k)), (0, .ref (E.2.2 29)), (1, .ref (E.2.2 0)), (2, .int v)] 0 (nI (w + 1)) dX8_isSame_125 rfl (by exact nI_1 w) (by decide) rfl ?_
  refine g_goto S 98 dX8_isSame_128 (by decide) ?_
  refine g_lvs [0, 1, 2, 3, 4] (lv' := [(4, .int (nI (w + 1))), (3, .int (nI k)), (0, .ref (E.2.2 29)), (1, .ref (E.2.2 0)), (2, .int v)]) rfl ?_
  exact ih
theorem same_roast_r (C : gSC p l s m args c E σ D B S0) {v : Int32} {k : Nat} (hk : k < gNo E 1) (hc : cells + 10 ≤ 260) (hs : slots + 60 ≤ 1700) (K : gJ p l e sameR s m args below meth c Q 5 E σ (cells + 2 * 5) (slots + 12 * 5) 98 [(4, .int (nI 5)), (3, .int (nI k)), (0, .ref (E.2.2 29)), (1, .ref (E.2.2 0)), (2, .int v)] []) : gJ p l e sameR s m args below meth c Q 5 E σ cells slots 98 [(4, .int (nI 0)), (3, .int (nI k)), (0, .ref (E.2.2 29)), (1, .ref (E.2.2 0)), (2, .int v)] [] := by
  refine g_loopK (E := E) (σ := σ) 5 (fun _ E' σ' (_ : Unit) => E' = E ∧ σ' = σ) (fun i => cells + 2 * i) (fun i => slots + 12 * i) (fun i _ _ => [(4, .int (nI i)), (3, .int (nI k)), (0, .ref (E.2.2 29)), (1, .ref (E.2.2 0)), (2, .int v)]) [] (fun i E' σ' _ hi hq kk => ?_) (fun E' σ' _ hq => ?_) (b := ()) ⟨rfl, rfl⟩
  · obtain ⟨rfl, rfl⟩ := hq
    exact same_roast_w C hk hi (by omega) (by omega) (kk _ _ () ⟨rfl, rfl⟩)
  · obtain ⟨rfl, rfl⟩ := hq
    exact K
set_option maxRecDepth 100000 in
set_option maxHeartbeats 4000000 in
theorem same_roast_t (C : gSC p l s m args c E σ D B S0) {v : Int32} {k : Nat} (hk : k < gNo E 1) (hc : cells + 2 ≤ 260) (hs : slots + 12 ≤ 1700) (ih : gJ p l e sameR s m args below meth c Q 5 E σ (cells + 2) (slots + 12) 86 [(3, .int (nI (k + 1))), (0, .ref (E.2.2 29)), (1, .ref (E.2.2 0)), (2, .int v)] []) : gJ p l e sameR s m args below meth c Q 5 E σ cells slots 98 [(4, .int (nI 5)), (3, .int (nI k)), (0, .ref (E.2.2 29)), (1, .ref (E.2.2 0)), (2, .int v)] [] := by
  have hiX8 : ∀ w ∈ wsX80, w ∈ wsX8_isSame := by decide +kernel
  obtain ⟨S, hC, hfl, ⟨hN, hR⟩⟩ := id C
  have hb := NB.of hC
  have hok := hN.1.1
  refine g_iload S 0 dX8_isSame_98 rfl ?_
  refine g_const S dX8_isSame_100 (v := 5) rfl ?_
  refine g_icmp_ge S 131 dX8_isSame_101 (by decide) (fun c_1 => ?_) (fun c_1 => absurd (nI_le (Nat.le_refl _) (by decide)) c_1)
  refine g_aload_n S 3 dX8_isSame_131 rfl ?_
  refine g_iload_n S 1 dX8_isSame_132 rfl ?_
  refine g_const S dX8_isSame_133 (v := 5) rfl ?_
  refine g_eq (σ' := σ) (st' := [.int (nI 5), .int (nI k), .ref (E.2.2 0)]) rfl (by rfl) ?_
  refine g_calli (g_runV S hC (As := [.int (nI k), .int (nI 5)]) (rest := []) (k := 0) (by decide) rfl (by decide) rfl (q_roast l hfl E σ hok k 5 (by rw [hN.1.2.2.1]; exact hk) (by omega)) (cwV 2 S.2.2.2.2 gX8_isSame_X7_roast rfl rfl rfl (by decide +kernel) ⟨Nat.le_of_ble_eq_true rfl, Nat.le_of_ble_eq_true rfl⟩) rfl rfl (Nat.le_of_ble_eq_true rfl) dX8_isSame_134 ⟨by show _ ≤ 260; omega, by show _ ≤ 1700; omega⟩) ?_
  refine g_aload_n S 2 dX8_isSame_137 rfl ?_
  refine gg7r S hC hiX8 8 33 (by decide) (by decide +kernel) dX8_isSame_138 ?_
  refine g_iload_n S 1 dX8_isSame_141 rfl ?_
  refine g_aaldR S hC 1 rfl (by decide) k rfl (by first | assumption | omega) (40 + k) (by omega) dX8_isSame_142 ?_
  refine g_calli (g_runS S hC (As := [.ref (E.2.2 (40 + k))]) (rest := [.int (sX2_tell_r σ (11 + k) 5)]) (kX8_yields l E σ k hk) (va_cwS 1 S.2.2.2.2 gX8_isSame_X8_yields rfl rfl rfl (by decide +kernel) ⟨Nat.le_of_ble_eq_true rfl, Nat.le_of_ble_eq_true rfl⟩) rfl rfl (Nat.le_of_ble_eq_true rfl) dX8_isSame_143 ⟨by show _ ≤ 260; omega, by show _ ≤ 1700; omega⟩) ?_
  refine g_icmp_eq S 151 dX8_isSame_146 (by decide) (fun c_2 => ?_) (fun c_2 => absurd (by unfold sX2_tell_r; rw [if_pos rfl]; exact yields_eq hR hk (hN.2.2.2.2.1 k hk)) c_2)
  refine g_iinc S [(3, .int (nI (k + 1))), (4, .int (nI 5)), (0, .ref (E.2.2 29)), (1, .ref (E.2.2 0)), (2, .int v)] 1 (nI (k + 1)) dX8_isSame_151 rfl (by exact nI_1 k) (by decide) rfl ?_
  refine g_goto S 86 dX8_isSame_154 (by decide) ?_
  refine g_lvs [0, 2, 3, 4] (lv' := [(3, .int (nI (k + 1))), (0, .ref (E.2.2 29)), (1, .ref (E.2.2 0)), (2, .int v)]) rfl ?_
  exact ih
set_option maxRecDepth 100000 in
set_option maxHeartbeats 4000000 in
theorem same_roast_k (C : gSC p l s m args c E σ D B S0) {v : Int32} {k : Nat} (hk : k < gNo E 1) (hc : cells + 12 ≤ 260) (hs : slots + 72 ≤ 1700) (ih : gJ p l e sameR s m args below meth c Q 5 E σ (cells + 12) (slots + 72) 86 [(3, .int (nI (k + 1))), (0, .ref (E.2.2 29)), (1, .ref (E.2.2 0)), (2, .int v)] []) : gJ p l e sameR s m args below meth c Q 5 E σ cells slots 86 [(3, .int (nI k)), (0, .ref (E.2.2 29)), (1, .ref (E.2.2 0)), (2, .int v)] [] := by
  have hiX8 : ∀ w ∈ wsX80, w ∈ wsX8_isSame := by decide +kernel
  obtain ⟨S, hC, hfl, ⟨hN, hR⟩⟩ := id C
  have hb := NB.of hC
  have hok := hN.1.1
  refine g_iload_n S 0 dX8_isSame_86 rfl ?_
  refine g_aload_n S 1 dX8_isSame_87 rfl ?_
  refine gg7r S hC hiX8 8 33 (by decide) (by decide +kernel) dX8_isSame_88 ?_
  refine g_alenR S hC 1 rfl (by decide) dX8_isSame_91 ?_
  refine g_icmp_ge S 157 dX8_isSame_92 (by decide) (fun c_1 => absurd c_1 (nI_ge hk (gNo_lt hC (by decide)))) (fun c_1 => ?_)
  refine g_const S dX8_isSame_95 (v := 0) rfl ?_
  refine g_istore S [(4, .int (0 : Int32)), (3, .int (nI k)), (0, .ref (E.2.2 29)), (1, .ref (E.2.2 0)), (2, .int v)] dX8_isSame_96 (by decide) rfl ?_
  refine g_lvs [0, 1, 2, 3, 4] (lv' := [(4, .int (0 : Int32)), (3, .int (nI k)), (0, .ref (E.2.2 29)), (1, .ref (E.2.2 0)), (2, .int v)]) rfl ?_
  exact same_roast_r C hk (by omega) (by omega) (same_roast_t C hk (by omega) (by omega) (g_wid (by omega) (by omega) ih))
theorem same_roast_a (C : gSC p l s m args c E σ D B S0) {v : Int32} (hc : cells + 60 ≤ 260) (hs : slots + 360 ≤ 1700) (K : gJ p l e sameR s m args below meth c Q 5 E σ (cells + 48) (slots + 288) 86 [(3, .int (nI (gNo E 1))), (0, .ref (E.2.2 29)), (1, .ref (E.2.2 0)), (2, .int v)] []) : gJ p l e sameR s m args below meth c Q 5 E σ cells slots 86 [(3, .int (nI 0)), (0, .ref (E.2.2 29)), (1, .ref (E.2.2 0)), (2, .int v)] [] := by
  have hb := NB.of C.2.1
  obtain ⟨b0, b1, b2, b3⟩ := hb
  refine g_loopK (E := E) (σ := σ) (gNo E 1) (fun _ E' σ' (_ : Unit) => E' = E ∧ σ' = σ) (fun i => cells + 12 * i) (fun i => slots + 72 * i) (fun k _ _ => [(3, .int (nI k)), (0, .ref (E.2.2 29)), (1, .ref (E.2.2 0)), (2, .int v)]) [] (fun k E' σ' _ hk hq kk => ?_) (fun E' σ' _ hq => ?_) (b := ()) ⟨rfl, rfl⟩
  · obtain ⟨rfl, rfl⟩ := hq
    exact same_roast_k C hk (by omega) (by omega) (kk _ _ () ⟨rfl, rfl⟩)
  · obtain ⟨rfl, rfl⟩ := hq
    exact g_wid (by omega) (by omega) K
set_option maxRecDepth 100000 in
set_option maxHeartbeats 4000000 in
theorem same_told_w (C : gSC p l s m args c E σ D B S0) {v : Int32} {k w : Nat} (hk : k < gNo E 2) (hw : w < 5) (hc : cells + 2 ≤ 260) (hs : slots + 12 ≤ 1700) (ih : gJ p l e sameR s m args below meth c Q 5 E σ (cells + 2) (slots + 12) 171 [(4, .int (nI (w + 1))), (3, .int (nI k)), (0, .ref (E.2.2 29)), (1, .ref (E.2.2 0)), (2, .int v)] []) : gJ p l e sameR s m args below meth c Q 5 E σ cells slots 171 [(4, .int (nI w)), (3, .int (nI k)), (0, .ref (E.2.2 29)), (1, .ref (E.2.2 0)), (2, .int v)] [] := by
  have hiX8 : ∀ w ∈ wsX80, w ∈ wsX8_isSame := by decide +kernel
  obtain ⟨S, hC, hfl, ⟨hN, hR⟩⟩ := id C
  have hb := NB.of hC
  have hok := hN.1.1
  refine g_iload S 0 dX8_isSame_171 rfl ?_
  refine g_const S dX8_isSame_173 (v := 5) rfl ?_
  refine g_icmp_ge S 204 dX8_isSame_174 (by decide) (fun c_1 => absurd c_1 (nI_ge hw (by decide))) (fun c_1 => ?_)
  refine g_aload_n S 3 dX8_isSame_177 rfl ?_
  refine g_iload_n S 1 dX8_isSame_178 rfl ?_
  refine g_iload S 0 dX8_isSame_179 rfl ?_
  refine g_calli (g_runV S hC (As := [.int (nI k), .int (nI w)]) (rest := []) (k := 0) (by decide) rfl (by decide) rfl (q_told l hfl E σ hok k w (by rw [hN.1.2.2.2.1]; exact hk) (by omega)) (cwV 2 S.2.2.2.2 gX8_isSame_X7_told rfl rfl rfl (by decide +kernel) ⟨Nat.le_of_ble_eq_true rfl, Nat.le_of_ble_eq_true rfl⟩) rfl rfl (Nat.le_of_ble_eq_true rfl) dX8_isSame_181 ⟨by show _ ≤ 260; omega, by show _ ≤ 1700; omega⟩) ?_
  refine g_aload_n S 2 dX8_isSame_184 rfl ?_
  refine gg7r S hC hiX8 9 34 (by decide) (by decide +kernel) dX8_isSame_185 ?_
  refine g_iload_n S 1 dX8_isSame_188 rfl ?_
  refine g_aaldR S hC 2 rfl (by decide) k rfl (by first | assumption | omega) (44 + k) (by omega) dX8_isSame_189 ?_
  refine g_iload S 0 dX8_isSame_190 rfl ?_
  refine g_ialdR S hC 2 k (by omega) (by decide) (by first | assumption | omega) w rfl (show w < 5 by omega) dX8_isSame_192 ?_
  refine g_icmp_eq S 198 dX8_isSame_193 (by decide) (fun c_2 => ?_) (fun c_2 => absurd (hR.smug hk hw) c_2)
  refine g_iinc S [(4, .int (nI (w + 1))), (3, .int (nI k)), (0, .ref (E.2.2 29)), (1, .ref (E.2.2 0)), (2, .int v)] 0 (nI (w + 1)) dX8_isSame_198 rfl (by exact nI_1 w) (by decide) rfl ?_
  refine g_goto S 171 dX8_isSame_201 (by decide) ?_
  refine g_lvs [0, 1, 2, 3, 4] (lv' := [(4, .int (nI (w + 1))), (3, .int (nI k)), (0, .ref (E.2.2 29)), (1, .ref (E.2.2 0)), (2, .int v)]) rfl ?_
  exact ih
theorem same_told_r (C : gSC p l s m args c E σ D B S0) {v : Int32} {k : Nat} (hk : k < gNo E 2) (hc : cells + 10 ≤ 260) (hs : slots + 60 ≤ 1700) (K : gJ p l e sameR s m args below meth c Q 5 E σ (cells + 2 * 5) (slots + 12 * 5) 171 [(4, .int (nI 5)), (3, .int (nI k)), (0, .ref (E.2.2 29)), (1, .ref (E.2.2 0)), (2, .int v)] []) : gJ p l e sameR s m args below meth c Q 5 E σ cells slots 171 [(4, .int (nI 0)), (3, .int (nI k)), (0, .ref (E.2.2 29)), (1, .ref (E.2.2 0)), (2, .int v)] [] := by
  refine g_loopK (E := E) (σ := σ) 5 (fun _ E' σ' (_ : Unit) => E' = E ∧ σ' = σ) (fun i => cells + 2 * i) (fun i => slots + 12 * i) (fun i _ _ => [(4, .int (nI i)), (3, .int (nI k)), (0, .ref (E.2.2 29)), (1, .ref (E.2.2 0)), (2, .int v)]) [] (fun i E' σ' _ hi hq kk => ?_) (fun E' σ' _ hq => ?_) (b := ()) ⟨rfl, rfl⟩
  · obtain ⟨rfl, rfl⟩ := hq
    exact same_told_w C hk hi (by omega) (by omega) (kk _ _ () ⟨rfl, rfl⟩)
  · obtain ⟨rfl, rfl⟩ := hq
    exact K
set_option maxRecDepth 100000 in
set_option maxHeartbeats 4000000 in
theorem same_told_t (C : gSC p l s m args c E σ D B S0) {v : Int32} {k : Nat} (hk : k < gNo E 2) (hc : cells + 2 ≤ 260) (hs : slots + 12 ≤ 1700) (ih : gJ p l e sameR s m args below meth c Q 5 E σ cells slots 159 [(3, .int (nI (k + 1))), (0, .ref (E.2.2 29)), (1, .ref (E.2.2 0)), (2, .int v)] []) : gJ p l e sameR s m args below meth c Q 5 E σ cells slots 171 [(4, .int (nI 5)), (3, .int (nI k)), (0, .ref (E.2.2 29)), (1, .ref (E.2.2 0)), (2, .int v)] [] := by
  obtain ⟨S, hC, hfl, ⟨hN, hR⟩⟩ := id C
  have hb := NB.of hC
  have hok := hN.1.1
  refine g_iload S 0 dX8_isSame_171 rfl ?_
  refine g_const S dX8_isSame_173 (v := 5) rfl ?_
  refine g_icmp_ge S 204 dX8_isSame_174 (by decide) (fun c_1 => ?_) (fun c_1 => absurd (nI_le (Nat.le_refl _) (by decide)) c_1)
  refine g_iinc S [(3, .int (nI (k + 1))), (4, .int (nI 5)), (0, .ref (E.2.2 29)), (1, .ref (E.2.2 0)), (2, .int v)] 1 (nI (k + 1)) dX8_isSame_204 rfl (by exact nI_1 k) (by decide) rfl ?_
  refine g_goto S 159 dX8_isSame_207 (by decide) ?_
  refine g_lvs [0, 2, 3, 4] (lv' := [(3, .int (nI (k + 1))), (0, .ref (E.2.2 29)), (1, .ref (E.2.2 0)), (2, .int v)]) rfl ?_
  exact ih
set_option maxRecDepth 100000 in
set_option maxHeartbeats 4000000 in
theorem same_told_k (C : gSC p l s m args c E σ D B S0) {v : Int32} {k : Nat} (hk : k < gNo E 2) (hc : cells + 12 ≤ 260) (hs : slots + 72 ≤ 1700) (ih : gJ p l e sameR s m args below meth c Q 5 E σ (cells + 10) (slots + 60) 159 [(3, .int (nI (k + 1))), (0, .ref (E.2.2 29)), (1, .ref (E.2.2 0)), (2, .int v)] []) : gJ p l e sameR s m args below meth c Q 5 E σ cells slots 159 [(3, .int (nI k)), (0, .ref (E.2.2 29)), (1, .ref (E.2.2 0)), (2, .int v)] [] := by
  have hiX8 : ∀ w ∈ wsX80, w ∈ wsX8_isSame := by decide +kernel
  obtain ⟨S, hC, hfl, ⟨hN, hR⟩⟩ := id C
  have hb := NB.of hC
  have hok := hN.1.1
  refine g_iload_n S 0 dX8_isSame_159 rfl ?_
  refine g_aload_n S 1 dX8_isSame_160 rfl ?_
  refine gg7r S hC hiX8 9 34 (by decide) (by decide +kernel) dX8_isSame_161 ?_
  refine g_alenR S hC 2 rfl (by decide) dX8_isSame_164 ?_
  refine g_icmp_ge S 210 dX8_isSame_165 (by decide) (fun c_1 => absurd c_1 (nI_ge hk (gNo_lt hC (by decide)))) (fun c_1 => ?_)
  refine g_const S dX8_isSame_168 (v := 0) rfl ?_
  refine g_istore S [(4, .int (0 : Int32)), (3, .int (nI k)), (0, .ref (E.2.2 29)), (1, .ref (E.2.2 0)), (2, .int v)] dX8_isSame_169 (by decide) rfl ?_
  refine g_lvs [0, 1, 2, 3, 4] (lv' := [(4, .int (0 : Int32)), (3, .int (nI k)), (0, .ref (E.2.2 29)), (1, .ref (E.2.2 0)), (2, .int v)]) rfl ?_
  exact same_told_r C hk (by omega) (by omega) (same_told_t C hk (by omega) (by omega) (g_wid (by omega) (by omega) ih))
theorem same_told_a (C : gSC p l s m args c E σ D B S0) {v : Int32} (hc : cells + 52 ≤ 260) (hs : slots + 312 ≤ 1700) (K : gJ p l e sameR s m args below meth c Q 5 E σ (cells + 40) (slots + 240) 159 [(3, .int (nI (gNo E 2))), (0, .ref (E.2.2 29)), (1, .ref (E.2.2 0)), (2, .int v)] []) : gJ p l e sameR s m args below meth c Q 5 E σ cells slots 159 [(3, .int (nI 0)), (0, .ref (E.2.2 29)), (1, .ref (E.2.2 0)), (2, .int v)] [] := by
  have hb := NB.of C.2.1
  obtain ⟨b0, b1, b2, b3⟩ := hb
  refine g_loopK (E := E) (σ := σ) (gNo E 2) (fun _ E' σ' (_ : Unit) => E' = E ∧ σ' = σ) (fun i => cells + 10 * i) (fun i => slots + 60 * i) (fun k _ _ => [(3, .int (nI k)), (0, .ref (E.2.2 29)), (1, .ref (E.2.2 0)), (2, .int v)]) [] (fun k E' σ' _ hk hq kk => ?_) (fun E' σ' _ hq => ?_) (b := ()) ⟨rfl, rfl⟩
  · obtain ⟨rfl, rfl⟩ := hq
    exact same_told_k C hk (by omega) (by omega) (kk _ _ () ⟨rfl, rfl⟩)
  · obtain ⟨rfl, rfl⟩ := hq
    exact g_wid (by omega) (by omega) K
set_option maxRecDepth 100000 in
set_option maxHeartbeats 4000000 in
theorem same_ration_w (C : gSC p l s m args c E σ D B S0) {k w : Nat} (hk : k < gNo E 3) (hw : w < 5) (hc : cells + 2 ≤ 260) (hs : slots + 12 ≤ 1700) (ih : gJ p l e sameR s m args below meth c Q 5 E σ (cells + 2) (slots + 12) 224 [(4, .int (nI (w + 1))), (3, .int (nI k)), (0, .ref (E.2.2 29)), (1, .ref (E.2.2 0)), (2, .int (sumC σ k))] []) : gJ p l e sameR s m args below meth c Q 5 E σ cells slots 224 [(4, .int (nI w)), (3, .int (nI k)), (0, .ref (E.2.2 29)), (1, .ref (E.2.2 0)), (2, .int (sumC σ k))] [] := by
  have hiX8 : ∀ w ∈ wsX80, w ∈ wsX8_isSame := by decide +kernel
  obtain ⟨S, hC, hfl, ⟨hN, hR⟩⟩ := id C
  have hb := NB.of hC
  have hok := hN.1.1
  refine g_iload S 0 dX8_isSame_224 rfl ?_
  refine g_const S dX8_isSame_226 (v := 5) rfl ?_
  refine g_icmp_ge S 257 dX8_isSame_227 (by decide) (fun c_1 => absurd c_1 (nI_ge hw (by decide))) (fun c_1 => ?_)
  refine g_aload_n S 3 dX8_isSame_230 rfl ?_
  refine g_iload_n S 1 dX8_isSame_231 rfl ?_
  refine g_iload S 0 dX8_isSame_232 rfl ?_
  refine g_calli (g_runV S hC (As := [.int (nI k), .int (nI w)]) (rest := []) (k := 0) (by decide) rfl (by decide) rfl (q_ration l hfl E σ hok k w (by rw [hN.1.2.2.2.2]; exact hk) (by omega)) (cwV 2 S.2.2.2.2 gX8_isSame_X7_ration rfl rfl rfl (by decide +kernel) ⟨Nat.le_of_ble_eq_true rfl, Nat.le_of_ble_eq_true rfl⟩) rfl rfl (Nat.le_of_ble_eq_true rfl) dX8_isSame_234 ⟨by show _ ≤ 260; omega, by show _ ≤ 1700; omega⟩) ?_
  refine g_aload_n S 2 dX8_isSame_237 rfl ?_
  refine gg7r S hC hiX8 10 35 (by decide) (by decide +kernel) dX8_isSame_238 ?_
  refine g_iload_n S 1 dX8_isSame_241 rfl ?_
  refine g_aaldR S hC 3 rfl (by decide) k rfl (by first | assumption | omega) (48 + k) (by omega) dX8_isSame_242 ?_
  refine g_iload S 0 dX8_isSame_243 rfl ?_
  refine g_ialdR S hC 3 k (by omega) (by decide) (by first | assumption | omega) w rfl (show w < 5 by omega) dX8_isSame_245 ?_
  refine g_icmp_eq S 251 dX8_isSame_246 (by decide) (fun c_2 => ?_) (fun c_2 => absurd (hR.card hk hw) c_2)
  refine g_iinc S [(4, .int (nI (w + 1))), (3, .int (nI k)), (0, .ref (E.2.2 29)), (1, .ref (E.2.2 0)), (2, .int (sumC σ k))] 0 (nI (w + 1)) dX8_isSame_251 rfl (by exact nI_1 w) (by decide) rfl ?_
  refine g_goto S 224 dX8_isSame_254 (by decide) ?_
  refine g_lvs [0, 1, 2, 3, 4] (lv' := [(4, .int (nI (w + 1))), (3, .int (nI k)), (0, .ref (E.2.2 29)), (1, .ref (E.2.2 0)), (2, .int (sumC σ k))]) rfl ?_
  exact ih
theorem same_ration_r (C : gSC p l s m args c E σ D B S0) {k : Nat} (hk : k < gNo E 3) (hc : cells + 10 ≤ 260) (hs : slots + 60 ≤ 1700) (K : gJ p l e sameR s m args below meth c Q 5 E σ (cells + 2 * 5) (slots + 12 * 5) 224 [(4, .int (nI 5)), (3, .int (nI k)), (0, .ref (E.2.2 29)), (1, .ref (E.2.2 0)), (2, .int (sumC σ k))] []) : gJ p l e sameR s m args below meth c Q 5 E σ cells slots 224 [(4, .int (nI 0)), (3, .int (nI k)), (0, .ref (E.2.2 29)), (1, .ref (E.2.2 0)), (2, .int (sumC σ k))] [] := by
  refine g_loopK (E := E) (σ := σ) 5 (fun _ E' σ' (_ : Unit) => E' = E ∧ σ' = σ) (fun i => cells + 2 * i) (fun i => slots + 12 * i) (fun i _ _ => [(4, .int (nI i)), (3, .int (nI k)), (0, .ref (E.2.2 29)), (1, .ref (E.2.2 0)), (2, .int (sumC σ k))]) [] (fun i E' σ' _ hi hq kk => ?_) (fun E' σ' _ hq => ?_) (b := ()) ⟨rfl, rfl⟩
  · obtain ⟨rfl, rfl⟩ := hq
    exact same_ration_w C hk hi (by omega) (by omega) (kk _ _ () ⟨rfl, rfl⟩)
  · obtain ⟨rfl, rfl⟩ := hq
    exact K
set_option maxRecDepth 100000 in
set_option maxHeartbeats 4000000 in
theorem same_ration_t (C : gSC p l s m args c E σ D B S0) {k : Nat} (hk : k < gNo E 3) (hc : cells + 2 ≤ 260) (hs : slots + 12 ≤ 1700) (ih : gJ p l e sameR s m args below meth c Q 5 E σ cells slots 212 [(3, .int (nI (k + 1))), (0, .ref (E.2.2 29)), (1, .ref (E.2.2 0)), (2, .int (sumC σ (k + 1)))] []) : gJ p l e sameR s m args below meth c Q 5 E σ cells slots 224 [(4, .int (nI 5)), (3, .int (nI k)), (0, .ref (E.2.2 29)), (1, .ref (E.2.2 0)), (2, .int (sumC σ k))] [] := by
  have hiX8 : ∀ w ∈ wsX80, w ∈ wsX8_isSame := by decide +kernel
  obtain ⟨S, hC, hfl, ⟨hN, hR⟩⟩ := id C
  have hb := NB.of hC
  have hok := hN.1.1
  refine g_iload S 0 dX8_isSame_224 rfl ?_
  refine g_const S dX8_isSame_226 (v := 5) rfl ?_
  refine g_icmp_ge S 257 dX8_isSame_227 (by decide) (fun c_1 => ?_) (fun c_1 => absurd (nI_le (Nat.le_refl _) (by decide)) c_1)
  refine g_iload_n S 4 dX8_isSame_257 rfl ?_
  refine g_aload_n S 2 dX8_isSame_258 rfl ?_
  refine gg7r S hC hiX8 10 35 (by decide) (by decide +kernel) dX8_isSame_259 ?_
  refine g_iload_n S 1 dX8_isSame_262 rfl ?_
  refine g_aaldR S hC 3 rfl (by decide) k rfl (by first | assumption | omega) (48 + k) (by omega) dX8_isSame_263 ?_
  refine g_const S dX8_isSame_264 (v := 3) rfl ?_
  refine g_ialdR S hC 3 k (by omega) (by decide) (by first | assumption | omega) 3 rfl (by decide) dX8_isSame_265 ?_
  refine g_iadd S dX8_isSame_266 ?_
  refine g_top (y := sumC σ (k + 1)) (by rw [← hR.card hk (w := 3) (by decide)]; rfl) ?_
  refine g_istore_n S [(2, .int (sumC σ (k + 1))), (4, .int (nI 5)), (3, .int (nI k)), (0, .ref (E.2.2 29)), (1, .ref (E.2.2 0))] dX8_isSame_267 (by decide) rfl ?_
  refine g_iinc S [(3, .int (nI (k + 1))), (2, .int (sumC σ (k + 1))), (4, .int (nI 5)), (0, .ref (E.2.2 29)), (1, .ref (E.2.2 0))] 2 (nI (k + 1)) dX8_isSame_268 rfl (by exact nI_1 k) (by decide) rfl ?_
  refine g_goto S 212 dX8_isSame_271 (by decide) ?_
  refine g_lvs [0, 3, 4, 1] (lv' := [(3, .int (nI (k + 1))), (0, .ref (E.2.2 29)), (1, .ref (E.2.2 0)), (2, .int (sumC σ (k + 1)))]) rfl ?_
  exact ih
set_option maxRecDepth 100000 in
set_option maxHeartbeats 4000000 in
theorem same_ration_k (C : gSC p l s m args c E σ D B S0) {k : Nat} (hk : k < gNo E 3) (hc : cells + 12 ≤ 260) (hs : slots + 72 ≤ 1700) (ih : gJ p l e sameR s m args below meth c Q 5 E σ (cells + 10) (slots + 60) 212 [(3, .int (nI (k + 1))), (0, .ref (E.2.2 29)), (1, .ref (E.2.2 0)), (2, .int (sumC σ (k + 1)))] []) : gJ p l e sameR s m args below meth c Q 5 E σ cells slots 212 [(3, .int (nI k)), (0, .ref (E.2.2 29)), (1, .ref (E.2.2 0)), (2, .int (sumC σ k))] [] := by
  have hiX8 : ∀ w ∈ wsX80, w ∈ wsX8_isSame := by decide +kernel
  obtain ⟨S, hC, hfl, ⟨hN, hR⟩⟩ := id C
  have hb := NB.of hC
  have hok := hN.1.1
  refine g_iload_n S 0 dX8_isSame_212 rfl ?_
  refine g_aload_n S 1 dX8_isSame_213 rfl ?_
  refine gg7r S hC hiX8 10 35 (by decide) (by decide +kernel) dX8_isSame_214 ?_
  refine g_alenR S hC 3 rfl (by decide) dX8_isSame_217 ?_
  refine g_icmp_ge S 274 dX8_isSame_218 (by decide) (fun c_1 => absurd c_1 (nI_ge hk (gNo_lt hC (by decide)))) (fun c_1 => ?_)
  refine g_const S dX8_isSame_221 (v := 0) rfl ?_
  refine g_istore S [(4, .int (0 : Int32)), (3, .int (nI k)), (0, .ref (E.2.2 29)), (1, .ref (E.2.2 0)), (2, .int (sumC σ k))] dX8_isSame_222 (by decide) rfl ?_
  refine g_lvs [0, 1, 2, 3, 4] (lv' := [(4, .int (0 : Int32)), (3, .int (nI k)), (0, .ref (E.2.2 29)), (1, .ref (E.2.2 0)), (2, .int (sumC σ k))]) rfl ?_
  exact same_ration_r C hk (by omega) (by omega) (same_ration_t C hk (by omega) (by omega) (g_wid (by omega) (by omega) ih))
theorem same_ration_a (C : gSC p l s m args c E σ D B S0) (hc : cells + 112 ≤ 260) (hs : slots + 672 ≤ 1700) (K : gJ p l e sameR s m args below meth c Q 5 E σ (cells + 100) (slots + 600) 212 [(3, .int (nI (gNo E 3))), (0, .ref (E.2.2 29)), (1, .ref (E.2.2 0)), (2, .int (sumC σ (gNo E 3)))] []) : gJ p l e sameR s m args below meth c Q 5 E σ cells slots 212 [(3, .int (nI 0)), (0, .ref (E.2.2 29)), (1, .ref (E.2.2 0)), (2, .int (sumC σ 0))] [] := by
  have hb := NB.of C.2.1
  obtain ⟨b0, b1, b2, b3⟩ := hb
  refine g_loopK (E := E) (σ := σ) (gNo E 3) (fun _ E' σ' (_ : Unit) => E' = E ∧ σ' = σ) (fun i => cells + 10 * i) (fun i => slots + 60 * i) (fun k _ _ => [(3, .int (nI k)), (0, .ref (E.2.2 29)), (1, .ref (E.2.2 0)), (2, .int (sumC σ k))]) [] (fun k E' σ' _ hk hq kk => ?_) (fun E' σ' _ hq => ?_) (b := ()) ⟨rfl, rfl⟩
  · obtain ⟨rfl, rfl⟩ := hq
    exact same_ration_k C hk (by omega) (by omega) (kk _ _ () ⟨rfl, rfl⟩)
  · obtain ⟨rfl, rfl⟩ := hq
    exact g_wid (by omega) (by omega) K
set_option maxRecDepth 100000 in
set_option maxHeartbeats 4000000 in
theorem same_about_x (C : gSC p l s m args c E σ D B S0) {v : Int32} (ih : gJ p l e sameR s m args below meth c Q 5 E σ cells slots 86 [(3, .int (0 : Int32)), (0, .ref (E.2.2 29)), (1, .ref (E.2.2 0)), (2, .int v)] []) : gJ p l e sameR s m args below meth c Q 5 E σ cells slots 33 [(3, .int (nI (gNo E 0))), (0, .ref (E.2.2 29)), (1, .ref (E.2.2 0)), (2, .int v)] [] := by
  have hiX8 : ∀ w ∈ wsX80, w ∈ wsX8_isSame := by decide +kernel
  obtain ⟨S, hC, hfl, ⟨hN, hR⟩⟩ := id C
  have hb := NB.of hC
  have hok := hN.1.1
  refine g_iload_n S 0 dX8_isSame_33 rfl ?_
  refine g_aload_n S 1 dX8_isSame_34 rfl ?_
  refine gg7r S hC hiX8 7 32 (by decide) (by decide +kernel) dX8_isSame_35 ?_
  refine g_alenR S hC 0 rfl (by decide) dX8_isSame_38 ?_
  refine g_icmp_ge S 84 dX8_isSame_39 (by decide) (fun c_1 => ?_) (fun c_1 => absurd (nI_le (Nat.le_refl _) (gNo_lt hC (by decide))) c_1)
  refine g_const S dX8_isSame_84 (v := 0) rfl ?_
  refine g_istore_n S [(3, .int (0 : Int32)), (0, .ref (E.2.2 29)), (1, .ref (E.2.2 0)), (2, .int v)] dX8_isSame_85 (by decide) rfl ?_
  refine g_lvs [0, 1, 2, 3] (lv' := [(3, .int (0 : Int32)), (0, .ref (E.2.2 29)), (1, .ref (E.2.2 0)), (2, .int v)]) rfl ?_
  exact ih
set_option maxRecDepth 100000 in
set_option maxHeartbeats 4000000 in
theorem same_roast_x (C : gSC p l s m args c E σ D B S0) {v : Int32} (ih : gJ p l e sameR s m args below meth c Q 5 E σ cells slots 159 [(3, .int (0 : Int32)), (0, .ref (E.2.2 29)), (1, .ref (E.2.2 0)), (2, .int v)] []) : gJ p l e sameR s m args below meth c Q 5 E σ cells slots 86 [(3, .int (nI (gNo E 1))), (0, .ref (E.2.2 29)), (1, .ref (E.2.2 0)), (2, .int v)] [] := by
  have hiX8 : ∀ w ∈ wsX80, w ∈ wsX8_isSame := by decide +kernel
  obtain ⟨S, hC, hfl, ⟨hN, hR⟩⟩ := id C
  have hb := NB.of hC
  have hok := hN.1.1
  refine g_iload_n S 0 dX8_isSame_86 rfl ?_
  refine g_aload_n S 1 dX8_isSame_87 rfl ?_
  refine gg7r S hC hiX8 8 33 (by decide) (by decide +kernel) dX8_isSame_88 ?_
  refine g_alenR S hC 1 rfl (by decide) dX8_isSame_91 ?_
  refine g_icmp_ge S 157 dX8_isSame_92 (by decide) (fun c_1 => ?_) (fun c_1 => absurd (nI_le (Nat.le_refl _) (gNo_lt hC (by decide))) c_1)
  refine g_const S dX8_isSame_157 (v := 0) rfl ?_
  refine g_istore_n S [(3, .int (0 : Int32)), (0, .ref (E.2.2 29)), (1, .ref (E.2.2 0)), (2, .int v)] dX8_isSame_158 (by decide) rfl ?_
  refine g_lvs [0, 1, 2, 3] (lv' := [(3, .int (0 : Int32)), (0, .ref (E.2.2 29)), (1, .ref (E.2.2 0)), (2, .int v)]) rfl ?_
  exact ih
set_option maxRecDepth 100000 in
set_option maxHeartbeats 4000000 in
theorem same_told_x (C : gSC p l s m args c E σ D B S0) {v : Int32} (ih : gJ p l e sameR s m args below meth c Q 5 E σ cells slots 212 [(3, .int (0 : Int32)), (0, .ref (E.2.2 29)), (1, .ref (E.2.2 0)), (2, .int v)] []) : gJ p l e sameR s m args below meth c Q 5 E σ cells slots 159 [(3, .int (nI (gNo E 2))), (0, .ref (E.2.2 29)), (1, .ref (E.2.2 0)), (2, .int v)] [] := by
  have hiX8 : ∀ w ∈ wsX80, w ∈ wsX8_isSame := by decide +kernel
  obtain ⟨S, hC, hfl, ⟨hN, hR⟩⟩ := id C
  have hb := NB.of hC
  have hok := hN.1.1
  refine g_iload_n S 0 dX8_isSame_159 rfl ?_
  refine g_aload_n S 1 dX8_isSame_160 rfl ?_
  refine gg7r S hC hiX8 9 34 (by decide) (by decide +kernel) dX8_isSame_161 ?_
  refine g_alenR S hC 2 rfl (by decide) dX8_isSame_164 ?_
  refine g_icmp_ge S 210 dX8_isSame_165 (by decide) (fun c_1 => ?_) (fun c_1 => absurd (nI_le (Nat.le_refl _) (gNo_lt hC (by decide))) c_1)
  refine g_const S dX8_isSame_210 (v := 0) rfl ?_
  refine g_istore_n S [(3, .int (0 : Int32)), (0, .ref (E.2.2 29)), (1, .ref (E.2.2 0)), (2, .int v)] dX8_isSame_211 (by decide) rfl ?_
  refine g_lvs [0, 1, 2, 3] (lv' := [(3, .int (0 : Int32)), (0, .ref (E.2.2 29)), (1, .ref (E.2.2 0)), (2, .int v)]) rfl ?_
  exact ih
set_option maxRecDepth 100000 in
set_option maxHeartbeats 4000000 in
theorem same_ration_x (C : gSC p l s m args c E σ D B S0) {v : Int32} (ih : gJ p l e sameR s m args below meth c Q 5 E σ cells slots 274 [(0, .ref (E.2.2 29)), (1, .ref (E.2.2 0)), (2, .int v)] []) : gJ p l e sameR s m args below meth c Q 5 E σ cells slots 212 [(3, .int (nI (gNo E 3))), (0, .ref (E.2.2 29)), (1, .ref (E.2.2 0)), (2, .int v)] [] := by
  have hiX8 : ∀ w ∈ wsX80, w ∈ wsX8_isSame := by decide +kernel
  obtain ⟨S, hC, hfl, ⟨hN, hR⟩⟩ := id C
  have hb := NB.of hC
  have hok := hN.1.1
  refine g_iload_n S 0 dX8_isSame_212 rfl ?_
  refine g_aload_n S 1 dX8_isSame_213 rfl ?_
  refine gg7r S hC hiX8 10 35 (by decide) (by decide +kernel) dX8_isSame_214 ?_
  refine g_alenR S hC 3 rfl (by decide) dX8_isSame_217 ?_
  refine g_icmp_ge S 274 dX8_isSame_218 (by decide) (fun c_1 => ?_) (fun c_1 => absurd (nI_le (Nat.le_refl _) (gNo_lt hC (by decide))) c_1)
  refine g_lvs [1, 2, 3] (lv' := [(0, .ref (E.2.2 29)), (1, .ref (E.2.2 0)), (2, .int v)]) rfl ?_
  exact ih
set_option maxRecDepth 100000 in
set_option maxHeartbeats 4000000 in
theorem same_cx (C : gSC p l s m args c E σ D B S0) (ih : gJ p l e sameR s m args below meth c Q 5 E σ cells slots 33 [(3, .int (0 : Int32)), (0, .ref (E.2.2 29)), (1, .ref (E.2.2 0)), (2, .int (0 : Int32))] []) : gJ p l e sameR s m args below meth c Q 5 E σ cells slots 2 [(2, .int (nI 9)), (0, .ref (E.2.2 29)), (1, .ref (E.2.2 0))] [] := by
  obtain ⟨S, hC, hfl, ⟨hN, hR⟩⟩ := id C
  have hb := NB.of hC
  have hok := hN.1.1
  refine g_iload_n S 0 dX8_isSame_2 rfl ?_
  refine g_bipush S dX8_isSame_3 (v := 9) rfl ?_
  refine g_icmp_ge S 29 dX8_isSame_5 (by decide) (fun c_1 => ?_) (fun c_1 => absurd (by decide) c_1)
  refine g_const S dX8_isSame_29 (v := 0) rfl ?_
  refine g_istore_n S [(2, .int (0 : Int32)), (0, .ref (E.2.2 29)), (1, .ref (E.2.2 0))] dX8_isSame_30 (by decide) rfl ?_
  refine g_const S dX8_isSame_31 (v := 0) rfl ?_
  refine g_istore_n S [(3, .int (0 : Int32)), (2, .int (0 : Int32)), (0, .ref (E.2.2 29)), (1, .ref (E.2.2 0))] dX8_isSame_32 (by decide) rfl ?_
  refine g_lvs [0, 2, 3, 1] (lv' := [(3, .int (0 : Int32)), (0, .ref (E.2.2 29)), (1, .ref (E.2.2 0)), (2, .int (0 : Int32))]) rfl ?_
  exact ih
theorem same_all (C : gSC p l s m args c E σ D B S0) (K : gJ p l e sameR s m args below meth c Q 5 E σ 230 1407 274 [(0, .ref (E.2.2 29)), (1, .ref (E.2.2 0)), (2, .int (sumC σ (gNo E 3)))] []) : gJ p l e sameR s m args below meth c Q 5 E σ 0 0 0 [(0, .ref (E.2.2 29)), (1, .ref (E.2.2 0))] [] := by
  obtain ⟨S, hC, hfl, ⟨hN, hR⟩⟩ := id C
  refine g_const S dX8_isSame_0 (v := 0) rfl ?_
  refine g_istore_n S [(2, .int (0 : Int32)), (0, .ref (E.2.2 29)), (1, .ref (E.2.2 0))] dX8_isSame_1 (by decide) rfl ?_
  refine g_loopK (E := E) (σ := σ) 9 (fun _ E' σ' (_ : Unit) => E' = E ∧ σ' = σ) (fun i => 2 * i) (fun i => 15 * i) (fun i _ _ => [(2, .int (nI i)), (0, .ref (E.2.2 29)), (1, .ref (E.2.2 0))]) [] (fun i E' σ' _ hi hq kk => ?_) (fun E' σ' _ hq => ?_) (b := ()) ⟨rfl, rfl⟩
  · obtain ⟨rfl, rfl⟩ := hq
    exact same_c C hi (by omega) (by omega) (kk _ _ () ⟨rfl, rfl⟩)
  · obtain ⟨rfl, rfl⟩ := hq
    refine same_cx C ?_
    refine same_about_a C (by omega) (by omega) ?_
    refine same_about_x C ?_
    refine g_wid (k := 42) (n := 279) (Nat.le_of_ble_eq_true rfl) (Nat.le_of_ble_eq_true rfl) ?_
    refine same_roast_a C (by omega) (by omega) ?_
    refine same_roast_x C ?_
    refine g_wid (k := 90) (n := 567) (Nat.le_of_ble_eq_true rfl) (Nat.le_of_ble_eq_true rfl) ?_
    refine same_told_a C (by omega) (by omega) ?_
    refine same_told_x C ?_
    refine g_wid (k := 130) (n := 807) (Nat.le_of_ble_eq_true rfl) (Nat.le_of_ble_eq_true rfl) ?_
    refine same_ration_a C (by omega) (by omega) ?_
    refine same_ration_x C ?_
    exact K
set_option maxRecDepth 100000 in
set_option maxHeartbeats 4000000 in
theorem kX8_isSame (l : Launch) (E : gT) (σ : gS) {D B S0 : Nat} (hfl : l.stackTraces = false) (hI : INV E D B S0 σ) : ∀ sz, MetD lw_cs l yX8_isSame wsX8_isSame sameR (gPre E σ sz [.ref (E.2.2 29), .ref (E.2.2 0)]) (gRi E σ 1 sz) 260 1700 (gA E sz) := by
  refine g_metD (Qc := fun sz => gRi E σ 1 sz) (mc := 260) (ms := 1700) (nL := 5) (ret := (some .boolean)) (by decide) rfl (lv := [(0, .ref (E.2.2 29)), (1, .ref (E.2.2 0))]) rfl (Nat.le_of_ble_eq_true rfl) ?_
  intro p e s m below meth c S0 hr hlocks hC0 hd0
  have S := gS_dr S0 s.drawn
  have hC := hC0.dr s.drawn
  have hb := NB.of hC0
  have hiX8 : ∀ w ∈ wsX80, w ∈ wsX8_isSame := by decide +kernel
  refine same_all ⟨S, hC, hfl, hI⟩ ?_
  refine g_aload_n S 1 dX8_isSame_274 rfl ?_
  refine g_calld hd0 (g_runVD S hC (As := []) (rest := []) (k := 0) (by decide) rfl (by decide) rfl (kX7_mean l E σ) (cwV 0 S.2.2.2.2 gX8_isSame_X7_mean rfl rfl rfl (by decide +kernel) ⟨Nat.le_of_ble_eq_true rfl, Nat.le_of_ble_eq_true rfl⟩) rfl rfl (Nat.le_of_ble_eq_true rfl) dX8_isSame_275 ⟨Nat.le_of_ble_eq_true rfl, Nat.le_of_ble_eq_true rfl⟩) (fun r1 d1 hal1 hd1 => ?_)
  have S := gS_dr S0 d1
  have hC := hC0.dr d1
  have hg : σ.1 1 8 = nI (gNo E 3) := by
    have h1 := hI.1.1.1 8 (by decide) (by decide)
    rw [hI.1.1.2.2.2.2] at h1
    exact h1.1
  have hs5 : sumC σ (gNo E 3) = σ.1 6 5 := hI.1.2.2.2.2.2.2.2.1
  refine g_aload_n S 0 dX8_isSame_278 rfl ?_
  refine gg7r S hC hiX8 10 35 (by decide) (by decide +kernel) dX8_isSame_279 ?_
  refine g_alenR S hC 3 rfl (by decide) dX8_isSame_282 ?_
  refine g_if_ne S 290 dX8_isSame_283 (by decide) (fun c1 => ?_) (fun c1 => ?_)
  · refine g_iload_n S 2 dX8_isSame_290 rfl ?_
    refine g_i2d S dX8_isSame_291 ?_
    refine g_aload_n S 0 dX8_isSame_292 rfl ?_
    refine gg7r S hC hiX8 10 35 (by decide) (by decide +kernel) dX8_isSame_293 ?_
    refine g_alenR S hC 3 rfl (by decide) dX8_isSame_296 ?_
    refine g_i2d S dX8_isSame_297 ?_
    refine g_ddiv hd1 S0 dX8_isSame_298 (fun r2 d2 hal2 hd2 => ?_)
    have S := gS_dr S0 d2
    refine g_dcmp S dX8_isSame_299 ?_
    have e1 : sX7_mean_r σ = FP.ddiv (FP.i2d (sumC σ (gNo E 3))) (FP.i2d (nI (gNo E 3))) := by
      unfold sX7_mean_r
      rw [hg, if_neg c1, hs5]
    rw [e1] at hal1
    refine g_if_ne S 307 dX8_isSame_300 (by decide) (fun c2 => absurd (mean_same (ddiv_num c1) hal1 hal2) c2) (fun c2 => ?_)
    refine g_const S dX8_isSame_303 (v := 1) rfl ?_
    refine g_goto S 308 dX8_isSame_304 (by decide) ?_
    exact g_zretD hd2 S0 hr hlocks dX8_isSame_308 rfl rfl rfl (Nat.le_of_ble_eq_true rfl) (Nat.le_of_ble_eq_true rfl)
  · refine g_dconst S dX8_isSame_286 ?_
    refine g_goto S 299 dX8_isSame_287 (by decide) ?_
    refine g_dcmp S dX8_isSame_299 ?_
    have e1 : sX7_mean_r σ = FP.dconst0 := by
      unfold sX7_mean_r
      rw [hg, if_pos c1]
    rw [e1] at hal1
    refine g_if_ne S 307 dX8_isSame_300 (by decide) (fun c2 => absurd (mean_same (by decide +kernel) hal1 (alike64_refl _)) c2) (fun c2 => ?_)
    refine g_const S dX8_isSame_303 (v := 1) rfl ?_
    refine g_goto S 308 dX8_isSame_304 (by decide) ?_
    exact g_zretD hd1 S0 hr hlocks dX8_isSame_308 rfl rfl rfl (Nat.le_of_ble_eq_true rfl) (Nat.le_of_ble_eq_true rfl)
end SA
