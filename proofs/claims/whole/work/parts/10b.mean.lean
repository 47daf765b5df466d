theorem nan_cmp {a b : UInt64} (h : isNaN64 a = true) : Op.cmpValue (FP.dcmp a b) .l = -1 := by
  have h2 : FP.Core.dIsNaN a = true := by
    rw [FP.Core.isNaN_bits, ← Nat.and_two_pow_sub_one_eq_mod]
    exact isNaN64_iff.mp h
  have h3 : FP.dcmp a b = none := (FP.Core.dcmp_none a b).mpr (Or.inl ((FP.Core.dIsNaN_iff a).mp h2))
  rw [h3]
  rfl
theorem mean_fin {r1 r2 x : UInt64} (h1 : alike64 r1 x = true) (h2 : alike64 r2 x = true) : Op.cmpValue (FP.dcmp r1 r2) .l = 0 ∨ (¬ Op.cmpValue (FP.dcmp r1 r1) .l = 0 ∧ ¬ Op.cmpValue (FP.dcmp r2 r2) .l = 0) := by
  unfold alike64 at h1 h2
  simp only [Bool.or_eq_true, decide_eq_true_eq, Bool.and_eq_true] at h1 h2
  have key : isNaN64 r1 = true → isNaN64 r2 = true → Op.cmpValue (FP.dcmp r1 r2) .l = 0 ∨ (¬ Op.cmpValue (FP.dcmp r1 r1) .l = 0 ∧ ¬ Op.cmpValue (FP.dcmp r2 r2) .l = 0) := fun q1 q2 =>
    Or.inr ⟨by rw [nan_cmp q1]; decide, by rw [nan_cmp q2]; decide⟩
  rcases h1 with h1 | ⟨h1, hx⟩
  · rcases h2 with h2 | ⟨h2, hx⟩
    · subst h1; subst h2
      by_cases h : Op.cmpValue (FP.dcmp r2 r2) .l = 0
      · exact Or.inl h
      · exact Or.inr ⟨h, h⟩
    · exact key (by rw [h1]; exact hx) h2
  · rcases h2 with h2 | ⟨h2, _⟩
    · exact key h1 (by rw [h2]; exact hx)
    · exact key h1 h2
section GLM
variable {p : Program} {l : Launch} {e : Env} {s : State} {m : MethodId} {below : List Frame} {meth : Method} {c : Code} {b L : Nat} {xs : Nat → Int32} {E : gT} {σ : gS} {d0 : Drawn} {cells slots j : Nat}
set_option maxRecDepth 100000 in
set_option maxHeartbeats 4000000 in
theorem law_mean (C : gLC p l s m meth c b L xs E) (hd0 : s.drawn.sameBut d0 lw_cs) (hc : cells ≤ 672043) (hs : slots ≤ 7079974) (hmk : mOK σ) (h1 : sX7_mean_r σ = sX8_mean_r σ)
    (kk : ∀ d1 : Drawn, s.drawn.sameBut d1 lw_cs → gLJ p l e s m below meth c b d1 E (sX8_mean_s σ) cells slots 1622 (lvL E b j) []) : gLJ p l e s m below meth c b d0 E σ cells slots 1567 (lvL E b j) [] := by
  unfold gLJ at kk ⊢
  unfold lvL at kk ⊢
  have S := gS_dr C.1 d0
  have hC := C.2.2.2.1.dr d0
  refine g_aload_n S 3 dL_law_1567 rfl ?_
  refine g_calld hd0 (g_runVD S hC (As := []) (rest := []) (k := 0) (by decide) rfl (by decide) rfl (kX7_mean l E σ) (cwV 0 S.2.2.2.2 gL_law_X7_mean rfl rfl rfl (by decide +kernel) ⟨Nat.le_of_ble_eq_true rfl, Nat.le_of_ble_eq_true rfl⟩) rfl rfl (Nat.le_of_ble_eq_true rfl) dL_law_1568 ⟨by show _ ≤ 672043; omega, by show _ ≤ 7079974; omega⟩) (fun r1 d1 hal1 hd1 => ?_)
  have S := gS_dr C.1 d1
  have hC := C.2.2.2.1.dr d1
  refine g_dstore S [(5, .double r1), (4, .int (nI j)), (3, .ref (E.2.2 64)), (2, .ref (E.2.2 57)), (1, .ref (E.2.2 0)), (0, .ref b)] dL_law_1571 (by decide) rfl ?_
  refine g_aload_n S 3 dL_law_1573 rfl ?_
  refine g_calld hd1 (g_runVD S hC (As := []) (rest := []) (k := 57) (by decide) rfl (by decide) rfl (kX8_mean l E σ hmk) (cwV 0 S.2.2.2.2 gL_law_X8_mean rfl rfl rfl (by decide +kernel) ⟨Nat.le_of_ble_eq_true rfl, Nat.le_of_ble_eq_true rfl⟩) rfl rfl (Nat.le_of_ble_eq_true rfl) dL_law_1574 ⟨by show _ ≤ 672043; omega, by show _ ≤ 7079974; omega⟩) (fun r2 d2 hal2 hd2 => ?_)
  rw [h1] at hal1
  have S := gS_dr C.1 d2
  have hC := C.2.2.2.1.dr d2
  refine g_dstore S [(7, .double r2), (5, .double r1), (4, .int (nI j)), (3, .ref (E.2.2 64)), (2, .ref (E.2.2 57)), (1, .ref (E.2.2 0)), (0, .ref b)] dL_law_1577 (by decide) rfl ?_
  refine g_dload S 1 dL_law_1579 rfl ?_
  refine g_dload S 0 dL_law_1581 rfl ?_
  refine g_dcmp S dL_law_1583 ?_
  refine g_if_eq S 1605 dL_law_1584 (by decide) (fun c1 => ?_) (fun c1 => ?_)
  · refine g_goto S 1622 dL_law_1605 (by decide) ?_
    refine g_lvs [2, 3, 4, 5, 6] (lv' := [(4, .int (nI j)), (3, .ref (E.2.2 64)), (2, .ref (E.2.2 57)), (1, .ref (E.2.2 0)), (0, .ref b)]) rfl ?_
    exact kk d2 hd2
  · have hf := (mean_fin hal1 hal2).resolve_left c1
    refine g_dload S 1 dL_law_1587 rfl ?_
    refine g_dload S 1 dL_law_1589 rfl ?_
    refine g_dcmp S dL_law_1591 ?_
    refine g_if_eq S 1603 dL_law_1592 (by decide) (fun c2 => absurd c2 hf.1) (fun c2 => ?_)
    refine g_dload S 0 dL_law_1595 rfl ?_
    refine g_dload S 0 dL_law_1597 rfl ?_
    refine g_dcmp S dL_law_1599 ?_
    refine g_if_ne S 1605 dL_law_1600 (by decide) (fun c3 => ?_) (fun c3 => absurd c3 hf.2)
    refine g_goto S 1622 dL_law_1605 (by decide) ?_
    refine g_lvs [2, 3, 4, 5, 6] (lv' := [(4, .int (nI j)), (3, .ref (E.2.2 64)), (2, .ref (E.2.2 57)), (1, .ref (E.2.2 0)), (0, .ref b)]) rfl ?_
    exact kk d2 hd2
end GLM
