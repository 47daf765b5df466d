/-! what is told, on both sides; calls that tell -/
theorem DR.thr {σ τ F : gS} {t nb nd kd ns nc : Nat} (h : DR σ t τ nb nd kd ns nc) (e : ∀ k f, 57 ≤ k → (k = 57 → f ≠ 0) → F.1 k f = τ.1 k f) : DR σ t F nb nd kd ns nc := by
  have e62 : ∀ f, F.1 62 f = τ.1 62 f := fun f => e 62 f (by omega) (fun q => absurd q (by decide))
  have c57 : ∀ j, 1 ≤ j → F.1 57 j = τ.1 57 j := fun j hj => e 57 j (by omega) (fun _ => by omega)
  refine ⟨h.1.ext (fun k _ _ f => rfl) (fun k h1 h2 f h3 => e k f h1 (fun q => by have := h3 q; omega)), h.2.1.of (fun i _ _ => e62 i), h.2.2.1.of (fun j h1 _ => c57 j h1) (fun d hd => by rw [e62]; exact h.2.2.1.2 d hd), ?_⟩
  unfold NB
  rw [mB_of (c57 1 (by omega)), mB_of (c57 2 (by omega)), mB_of (c57 3 (by omega)), mB_of (c57 4 (by omega))]
  exact h.2.2.2
section TL
variable {σ τ : gS} {t nb nd kd ns nc : Nat}
theorem tell_bed (h : DR σ t τ nb nd kd ns nc) {i w : Nat} (hi : i < nb) (hw : w < 3) : sX0_tell_r σ (t + 6 + i) w = sX8_bedIs_r τ i w := by
  unfold sX0_tell_r sX8_bedIs_r
  by_cases c : w < 2
  · rw [if_pos c]
    exact h.1.bt i w hi c
  · rw [if_neg c, show w = 2 by omega]
    exact h.1.b2 i hi
theorem tell_drum (h : DR σ t τ nb nd kd ns nc) {i w : Nat} (hi : i < nd) (hk : i < kd) (hw : w < 6) : sX2_tell_r σ (t + 10 + i) w = sX8_drumIs_r τ i w := by
  unfold sX2_tell_r sX8_drumIs_r
  by_cases c5 : w = 5
  · rw [if_pos c5, if_neg (by omega), if_pos c5]
    exact h.yield hi hk
  · rw [if_neg c5]
    by_cases c0 : w = 0
    · rw [if_pos c0, c0]
      exact h.1.d0 i hi
    · rw [if_neg c0, if_neg c5]
      have := h.1.dd i (w - 1) hi (by omega) (fun _ => hk)
      rw [show 1 + (w - 1) = w by omega] at this
      exact this
theorem tell_smug (h : DR σ t τ nb nd kd ns nc) {i w : Nat} (hi : i < ns) (hw : w < 5) : sX3_tell_r σ (t + 14 + i) w = sX8_smugglerIs_r τ i w := by
  unfold sX3_tell_r sX8_smugglerIs_r
  by_cases c : w < 2
  · rw [if_pos c]
    exact h.1.st i w hi c
  · rw [if_neg c]
    have := h.1.sd i (w - 2) hi (by omega)
    rw [show 2 + (w - 2) = w by omega] at this
    exact this
theorem tell_card (h : DR σ t τ nb nd kd ns nc) {i w : Nat} (hi : i < nc) (hw : w < 5) : sX1_tell_r σ (t + 18 + i) w = sX8_cardIs_r τ i w := by
  unfold sX1_tell_r sX8_cardIs_r
  by_cases c : w < 2
  · rw [if_pos c]
    exact h.1.ct i w hi c
  · rw [if_neg c]
    have := h.1.cd i (w - 2) hi (by omega)
    rw [show 2 + (w - 2) = w by omega] at this
    exact this
theorem tell_town (h : DR σ t τ nb nd kd ns nc) {w : Nat} (hw : w < 9) : sX6_tell_r σ t w = τ.1 62 w := by
  unfold sX6_tell_r
  rcases (show w = 0 ∨ w = 1 ∨ w = 2 ∨ w = 3 ∨ w = 4 ∨ w = 5 ∨ w = 6 ∨ w = 7 ∨ w = 8 by omega) with rfl | rfl | rfl | rfl | rfl | rfl | rfl | rfl | rfl
  · exact h.1.x9
  · exact h.1.s0
  · exact h.1.s1
  · exact h.1.s2
  · exact h.1.s3
  · exact h.1.s5
  · exact h.1.s6
  · exact h.1.s4
  · exact h.1.x10
/-- the best day of a drum with a load -/
theorem DR.ready (h : DR σ t τ nb nd kd ns nc) {a : Int32} (hi : a.toNatClampNeg < nd) (hk : a.toNatClampNeg < kd) (hn : ¬ τ.1 62 (14 + 4 * a.toNatClampNeg + 1) = -1) : sX2_daysToBest_r σ (t + 10 + a.toNatClampNeg) = (itr (stX8_ready_38 τ a) 61 ((-1 : Int32), (0 : Int32))).1 := by
  have hd4 : a.toNatClampNeg < 4 := Nat.lt_of_lt_of_le hi h.1.1.2.1
  have e1 := h.1.dd a.toNatClampNeg 0 hi (by omega) (by omega)
  have e2 := h.1.dd a.toNatClampNeg 1 hi (by omega) (fun _ => hk)
  have e3 := h.1.dd a.toNatClampNeg 2 hi (by omega) (by omega)
  have e4 := h.1.dd a.toNatClampNeg 3 hi (by omega) (by omega)
  simp only [Nat.reduceAdd, Nat.add_zero] at e1 e2 e3 e4
  obtain ⟨⟨n1, n2⟩, n3, n4⟩ := h.2.1.2.2 a.toNatClampNeg hd4
  have hK := h.2.2.1.2 a.toNatClampNeg hd4
  obtain ⟨hh, g1, g2⟩ := nI_of2 (n := 9) (M := 9) rfl (Int32.not_lt.mpr n1) n2
  obtain ⟨ll, g3, g4⟩ := nI_of2 (n := 24) (M := 24) rfl (Int32.not_lt.mpr n3) n4
  have hn2 : ¬ σ.1 (t + 10 + a.toNatClampNeg) 2 = -1 := by rw [e2]; exact hn
  have key := ready_loop (σ := σ) (τ := τ) (k := t + 10 + a.toNatClampNeg) (l := ll) (h := hh) (kn := (τ.1 62 (14 + 4 * a.toNatClampNeg + 1)).toNatClampNeg) (a := a) (M := τ.1 62 (14 + 4 * a.toNatClampNeg + 2)) g3 g1
    (fun x => by rw [parts_eq (τ := τ) (by rw [e2]; exact hK), if_neg hn2, e2, e3])
    (fun r hr => by
      unfold sX2_levelAfter_r sX2_burnt_r
      rw [if_neg hn2, e1, e2, g2, nI_add]
      rcases hK with q | q | q
      · exact absurd q hn
      · rw [q, if_pos rfl, show (0 : Int32).toNatClampNeg = 0 from rfl, if_pos rfl]
        exact gmin_nI (b := 24) (by omega) (by omega)
      · rw [q, if_neg (by decide), show (1 : Int32).toNatClampNeg = 1 from rfl, if_neg (by decide)]
        exact gmin_nI (b := 15) (by omega) (by omega))
    rfl rfl (by unfold sX8_dr_r; exact g4) (by unfold sX8_dr_r; exact g2) 61 (by omega)
  unfold sX2_daysToBest_r
  rw [e4, g4]
  exact key.1
theorem ready_none {k : Nat} (hn : σ.1 k 2 = -1) : sX2_daysToBest_r σ k = -1 := by
  unfold sX2_daysToBest_r
  refine (itr_inv (stX2_daysToBest_12 σ k) (fun x => x.1 = -1 ∧ x.2.1 = 0) (fun j x hx => ?_) 61 ((-1 : Int32), (0 : Int32), σ.1 k 4) ⟨rfl, rfl⟩).1
  unfold stX2_daysToBest_12 sX2_partsAt_r
  rw [if_pos hn, hx.2, if_pos (by decide)]
  exact ⟨hx.1, rfl⟩
end TL
set_option maxHeartbeats 2000000 in
theorem okv_about : ok_about IV := by
  intro n σ a b hn hI
  have hM := hI.1.2.2.1
  have hR := hI.1.1
  have hN := hI.1.2.1
  have u1 := hM.eq 1 (by omega) (by omega)
  have u2 := hM.eq 2 (by omega) (by omega)
  have u3 := hM.eq 3 (by omega) (by omega)
  have u4 := hM.eq 4 (by omega) (by omega)
  have w1 : σ.1 1 5 = nI (mB σ 1) := (hR.cnt 1 (by omega) (by omega)).trans u1
  have w2 : σ.1 1 6 = nI (mB σ 2) := (hR.cnt 2 (by omega) (by omega)).trans u2
  have w3 : σ.1 1 7 = nI (mB σ 3) := (hR.cnt 3 (by omega) (by omega)).trans u3
  have w4 : σ.1 1 8 = nI (mB σ 4) := (hR.cnt 4 (by omega) (by omega)).trans u4
  have l1 := hM.le1
  have l2 := hM.le2
  have l3 := hM.le3
  have l4 := hM.le4
  have z1 := zv_pred (k := mB σ 1) (by omega)
  have z2 := zv_pred (k := mB σ 2) (by omega)
  have z3 := zv_pred (k := mB σ 3) (by omega)
  have z4 := zv_pred (k := mB σ 4) (by omega)
  have z9 := zv_pred (k := 9) (by omega)
  have zt : ∀ x : Int32, x ≤ 2 ↔ x < 3 := zv_pred (k := 3) (by omega)
  have zf : ∀ x : Int32, x ≤ 4 ↔ x < 5 := zv_pred (k := 5) (by omega)
  have zg : ∀ x : Int32, x ≤ 5 ↔ x < 6 := zv_pred (k := 6) (by omega)
  have zh : ∀ x : Int32, x ≤ 8 ↔ x < 9 := zv_pred (k := 9) (by omega)
  by_cases c1 : 0 ≤ a ∧ a < nI (mB σ 1)
  · skip
    have hi : a.toNatClampNeg < mB σ 1 := zv_clamp (by omega) c1
    by_cases c2 : 0 ≤ b ∧ b < 3
    · skip
      have hw : b.toNatClampNeg < 3 := zv_clamp (k := 3) (by omega) c2
      have hT : sX7_about_t σ a b = 0 := by simp [sX7_about_t, zv_num, zv_idx, w1, w2, w3, w4, sX7_ask_k0_t, sX7_ask_k0_r, sX0_size_r, c1, c2]
      have hr : sL_about_r σ a b = 0 := by simp [sL_about_r, hT]
      have hA : sX7_about_r σ a b = sX0_tell_r σ (1 + 6 + a.toNatClampNeg) b.toNatClampNeg := by simp [sX7_about_r, zv_num, zv_idx, w1, w2, w3, w4, sX7_ask_k0_t, sX7_ask_k0_r, sX0_size_r, c1, c2]
      have hL : sL_about_s σ a b = go σ (vp_updL σ.2 0 (Int32.toInt64 (sX7_about_r σ a b))) := by rw [sL_about_s, if_pos hT]
      have q1 : (sL_about_s σ a b).1 = σ.1 := by rw [hL]; rfl
      have q2 : (sL_about_s σ a b).2 0 = Int32.toInt64 (sX7_about_r σ a b) := by rw [hL]; exact go_out _ _
      rw [hA] at q2
      generalize sL_about_s σ a b = τ at q1 q2 ⊢
      have q3 : ∀ k f, τ.1 k f = σ.1 k f := fun k f => by rw [q1]
      have hF : sX8_about_s τ a b = gu τ 57 0 0 := by simp [sX8_about_s, zv_in, gu_rd, u1, u2, u3, u4, z1, z2, z3, z4, zt, zf, zg, zh, sX8_isDrum_r, sX8_isSmuggler_r, sX8_fail_s, sX8_fail_r, sX8_dr_r, sX8_sm_r, q3, c1, c2]
      have hB : sX8_about_r τ a b = sX8_bedIs_r (gu τ 57 0 0) a.toNatClampNeg b.toNatClampNeg := by simp [sX8_about_r, zv_in, gu_rd, u1, u2, u3, u4, z1, z2, z3, z4, zt, zf, zg, zh, sX8_isDrum_r, sX8_isSmuggler_r, sX8_fail_s, sX8_fail_r, sX8_dr_r, sX8_sm_r, q3, c1, c2]
      have hD : DR σ 1 (gu τ 57 0 0) 4 4 (mB σ 2) 4 10 := hI.1.thr (fun k f h1 h2 => by rw [gu_rd, if_neg (fun z => h2 z.1 z.2), q3])
      refine hI.still (v := 0) q1 (fun k f h => ?_) (by rw [hF, gu_rd, if_pos ⟨rfl, rfl⟩]) hr (fun _ => ?_)
      · rw [hF, gu_rd, if_neg (fun z => h z.1 z.2)]
      · rw [hF, hB]
        refine q2.trans ?_
        rw [tell_bed hD (by omega) hw]
    · skip
      have hT : sX7_about_t σ a b = 3 := by simp [sX7_about_t, zv_num, zv_idx, w1, w2, w3, w4, sX7_ask_k0_t, sX7_ask_k0_r, sX0_size_r, c1, c2]
      have hL : sL_about_s σ a b = σ := by simp [sL_about_s, hT]
      have hr : sL_about_r σ a b = 1 := by simp [sL_about_r, hT]
      have hF : sX8_about_s σ a b = gu (gu σ 57 0 0) 57 0 1 := by simp [sX8_about_s, zv_in, gu_rd, u1, u2, u3, u4, z1, z2, z3, z4, zt, zf, zg, zh, sX8_isDrum_r, sX8_isSmuggler_r, sX8_fail_s, sX8_fail_r, sX8_dr_r, sX8_sm_r, c1, c2]
      exact hI.fails hL (by rw [hL]; exact hF) hr (by decide)
  · skip
    have hT : sX7_about_t σ a b = 3 := by simp [sX7_about_t, zv_num, zv_idx, w1, w2, w3, w4, sX7_ask_k0_t, sX7_ask_k0_r, sX0_size_r, c1]
    have hL : sL_about_s σ a b = σ := by simp [sL_about_s, hT]
    have hr : sL_about_r σ a b = 1 := by simp [sL_about_r, hT]
    have hF : sX8_about_s σ a b = gu (gu σ 57 0 0) 57 0 1 := by simp [sX8_about_s, zv_in, gu_rd, u1, u2, u3, u4, z1, z2, z3, z4, zt, zf, zg, zh, sX8_isDrum_r, sX8_isSmuggler_r, sX8_fail_s, sX8_fail_r, sX8_dr_r, sX8_sm_r, c1]
    exact hI.fails hL (by rw [hL]; exact hF) hr (by decide)
set_option maxHeartbeats 2000000 in
theorem okv_roast : ok_roast IV := by
  intro n σ a b hn hI
  have hM := hI.1.2.2.1
  have hR := hI.1.1
  have hN := hI.1.2.1
  have u1 := hM.eq 1 (by omega) (by omega)
  have u2 := hM.eq 2 (by omega) (by omega)
  have u3 := hM.eq 3 (by omega) (by omega)
  have u4 := hM.eq 4 (by omega) (by omega)
  have w1 : σ.1 1 5 = nI (mB σ 1) := (hR.cnt 1 (by omega) (by omega)).trans u1
  have w2 : σ.1 1 6 = nI (mB σ 2) := (hR.cnt 2 (by omega) (by omega)).trans u2
  have w3 : σ.1 1 7 = nI (mB σ 3) := (hR.cnt 3 (by omega) (by omega)).trans u3
  have w4 : σ.1 1 8 = nI (mB σ 4) := (hR.cnt 4 (by omega) (by omega)).trans u4
  have l1 := hM.le1
  have l2 := hM.le2
  have l3 := hM.le3
  have l4 := hM.le4
  have z1 := zv_pred (k := mB σ 1) (by omega)
  have z2 := zv_pred (k := mB σ 2) (by omega)
  have z3 := zv_pred (k := mB σ 3) (by omega)
  have z4 := zv_pred (k := mB σ 4) (by omega)
  have z9 := zv_pred (k := 9) (by omega)
  have zt : ∀ x : Int32, x ≤ 2 ↔ x < 3 := zv_pred (k := 3) (by omega)
  have zf : ∀ x : Int32, x ≤ 4 ↔ x < 5 := zv_pred (k := 5) (by omega)
  have zg : ∀ x : Int32, x ≤ 5 ↔ x < 6 := zv_pred (k := 6) (by omega)
  have zh : ∀ x : Int32, x ≤ 8 ↔ x < 9 := zv_pred (k := 9) (by omega)
  by_cases c1 : 0 ≤ a ∧ a < nI (mB σ 2)
  · skip
    have hi : a.toNatClampNeg < mB σ 2 := zv_clamp (by omega) c1
    by_cases c2 : 0 ≤ b ∧ b < 6
    · skip
      have hw : b.toNatClampNeg < 6 := zv_clamp (k := 6) (by omega) c2
      have hT : sX7_roast_t σ a b = 0 := by simp [sX7_roast_t, zv_num, zv_idx, w1, w2, w3, w4, sX7_ask_k2_t, sX7_ask_k2_r, sX2_size_r, c1, c2]
      have hr : sL_roast_r σ a b = 0 := by simp [sL_roast_r, hT]
      have hA : sX7_roast_r σ a b = sX2_tell_r σ (1 + 10 + a.toNatClampNeg) b.toNatClampNeg := by simp [sX7_roast_r, zv_num, zv_idx, w1, w2, w3, w4, sX7_ask_k2_t, sX7_ask_k2_r, sX2_size_r, c1, c2]
      have hL : sL_roast_s σ a b = go σ (vp_updL σ.2 0 (Int32.toInt64 (sX7_roast_r σ a b))) := by rw [sL_roast_s, if_pos hT]
      have q1 : (sL_roast_s σ a b).1 = σ.1 := by rw [hL]; rfl
      have q2 : (sL_roast_s σ a b).2 0 = Int32.toInt64 (sX7_roast_r σ a b) := by rw [hL]; exact go_out _ _
      rw [hA] at q2
      generalize sL_roast_s σ a b = τ at q1 q2 ⊢
      have q3 : ∀ k f, τ.1 k f = σ.1 k f := fun k f => by rw [q1]
      have hF : sX8_roast_s τ a b = gu τ 57 0 0 := by simp [sX8_roast_s, zv_in, gu_rd, u1, u2, u3, u4, z1, z2, z3, z4, zt, zf, zg, zh, sX8_isDrum_r, sX8_isSmuggler_r, sX8_fail_s, sX8_fail_r, sX8_dr_r, sX8_sm_r, q3, c1, c2]
      have hB : sX8_roast_r τ a b = sX8_drumIs_r (gu τ 57 0 0) a.toNatClampNeg b.toNatClampNeg := by simp [sX8_roast_r, zv_in, gu_rd, u1, u2, u3, u4, z1, z2, z3, z4, zt, zf, zg, zh, sX8_isDrum_r, sX8_isSmuggler_r, sX8_fail_s, sX8_fail_r, sX8_dr_r, sX8_sm_r, q3, c1, c2]
      have hD : DR σ 1 (gu τ 57 0 0) 4 4 (mB σ 2) 4 10 := hI.1.thr (fun k f h1 h2 => by rw [gu_rd, if_neg (fun z => h2 z.1 z.2), q3])
      refine hI.still (v := 0) q1 (fun k f h => ?_) (by rw [hF, gu_rd, if_pos ⟨rfl, rfl⟩]) hr (fun _ => ?_)
      · rw [hF, gu_rd, if_neg (fun z => h z.1 z.2)]
      · rw [hF, hB]
        refine q2.trans ?_
        rw [tell_drum hD (by omega) (by omega) hw]
    · skip
      have hT : sX7_roast_t σ a b = 3 := by simp [sX7_roast_t, zv_num, zv_idx, w1, w2, w3, w4, sX7_ask_k2_t, sX7_ask_k2_r, sX2_size_r, c1, c2]
      have hL : sL_roast_s σ a b = σ := by simp [sL_roast_s, hT]
      have hr : sL_roast_r σ a b = 1 := by simp [sL_roast_r, hT]
      have hF : sX8_roast_s σ a b = gu (gu σ 57 0 0) 57 0 1 := by simp [sX8_roast_s, zv_in, gu_rd, u1, u2, u3, u4, z1, z2, z3, z4, zt, zf, zg, zh, sX8_isDrum_r, sX8_isSmuggler_r, sX8_fail_s, sX8_fail_r, sX8_dr_r, sX8_sm_r, c1, c2]
      exact hI.fails hL (by rw [hL]; exact hF) hr (by decide)
  · skip
    have hT : sX7_roast_t σ a b = 3 := by simp [sX7_roast_t, zv_num, zv_idx, w1, w2, w3, w4, sX7_ask_k2_t, sX7_ask_k2_r, sX2_size_r, c1]
    have hL : sL_roast_s σ a b = σ := by simp [sL_roast_s, hT]
    have hr : sL_roast_r σ a b = 1 := by simp [sL_roast_r, hT]
    have hF : sX8_roast_s σ a b = gu (gu σ 57 0 0) 57 0 1 := by simp [sX8_roast_s, zv_in, gu_rd, u1, u2, u3, u4, z1, z2, z3, z4, zt, zf, zg, zh, sX8_isDrum_r, sX8_isSmuggler_r, sX8_fail_s, sX8_fail_r, sX8_dr_r, sX8_sm_r, c1]
    exact hI.fails hL (by rw [hL]; exact hF) hr (by decide)
set_option maxHeartbeats 2000000 in
theorem okv_told : ok_told IV := by
  intro n σ a b hn hI
  have hM := hI.1.2.2.1
  have hR := hI.1.1
  have hN := hI.1.2.1
  have u1 := hM.eq 1 (by omega) (by omega)
  have u2 := hM.eq 2 (by omega) (by omega)
  have u3 := hM.eq 3 (by omega) (by omega)
  have u4 := hM.eq 4 (by omega) (by omega)
  have w1 : σ.1 1 5 = nI (mB σ 1) := (hR.cnt 1 (by omega) (by omega)).trans u1
  have w2 : σ.1 1 6 = nI (mB σ 2) := (hR.cnt 2 (by omega) (by omega)).trans u2
  have w3 : σ.1 1 7 = nI (mB σ 3) := (hR.cnt 3 (by omega) (by omega)).trans u3
  have w4 : σ.1 1 8 = nI (mB σ 4) := (hR.cnt 4 (by omega) (by omega)).trans u4
  have l1 := hM.le1
  have l2 := hM.le2
  have l3 := hM.le3
  have l4 := hM.le4
  have z1 := zv_pred (k := mB σ 1) (by omega)
  have z2 := zv_pred (k := mB σ 2) (by omega)
  have z3 := zv_pred (k := mB σ 3) (by omega)
  have z4 := zv_pred (k := mB σ 4) (by omega)
  have z9 := zv_pred (k := 9) (by omega)
  have zt : ∀ x : Int32, x ≤ 2 ↔ x < 3 := zv_pred (k := 3) (by omega)
  have zf : ∀ x : Int32, x ≤ 4 ↔ x < 5 := zv_pred (k := 5) (by omega)
  have zg : ∀ x : Int32, x ≤ 5 ↔ x < 6 := zv_pred (k := 6) (by omega)
  have zh : ∀ x : Int32, x ≤ 8 ↔ x < 9 := zv_pred (k := 9) (by omega)
  by_cases c1 : 0 ≤ a ∧ a < nI (mB σ 3)
  · skip
    have hi : a.toNatClampNeg < mB σ 3 := zv_clamp (by omega) c1
    by_cases c2 : 0 ≤ b ∧ b < 5
    · skip
      have hw : b.toNatClampNeg < 5 := zv_clamp (k := 5) (by omega) c2
      have hT : sX7_told_t σ a b = 0 := by simp [sX7_told_t, zv_num, zv_idx, w1, w2, w3, w4, sX7_ask_k3_t, sX7_ask_k3_r, sX3_size_r, c1, c2]
      have hr : sL_told_r σ a b = 0 := by simp [sL_told_r, hT]
      have hA : sX7_told_r σ a b = sX3_tell_r σ (1 + 14 + a.toNatClampNeg) b.toNatClampNeg := by simp [sX7_told_r, zv_num, zv_idx, w1, w2, w3, w4, sX7_ask_k3_t, sX7_ask_k3_r, sX3_size_r, c1, c2]
      have hL : sL_told_s σ a b = go σ (vp_updL σ.2 0 (Int32.toInt64 (sX7_told_r σ a b))) := by rw [sL_told_s, if_pos hT]
      have q1 : (sL_told_s σ a b).1 = σ.1 := by rw [hL]; rfl
      have q2 : (sL_told_s σ a b).2 0 = Int32.toInt64 (sX7_told_r σ a b) := by rw [hL]; exact go_out _ _
      rw [hA] at q2
      generalize sL_told_s σ a b = τ at q1 q2 ⊢
      have q3 : ∀ k f, τ.1 k f = σ.1 k f := fun k f => by rw [q1]
      have hF : sX8_told_s τ a b = gu τ 57 0 0 := by simp [sX8_told_s, zv_in, gu_rd, u1, u2, u3, u4, z1, z2, z3, z4, zt, zf, zg, zh, sX8_isDrum_r, sX8_isSmuggler_r, sX8_fail_s, sX8_fail_r, sX8_dr_r, sX8_sm_r, q3, c1, c2]
      have hB : sX8_told_r τ a b = sX8_smugglerIs_r (gu τ 57 0 0) a.toNatClampNeg b.toNatClampNeg := by simp [sX8_told_r, zv_in, gu_rd, u1, u2, u3, u4, z1, z2, z3, z4, zt, zf, zg, zh, sX8_isDrum_r, sX8_isSmuggler_r, sX8_fail_s, sX8_fail_r, sX8_dr_r, sX8_sm_r, q3, c1, c2]
      have hD : DR σ 1 (gu τ 57 0 0) 4 4 (mB σ 2) 4 10 := hI.1.thr (fun k f h1 h2 => by rw [gu_rd, if_neg (fun z => h2 z.1 z.2), q3])
      refine hI.still (v := 0) q1 (fun k f h => ?_) (by rw [hF, gu_rd, if_pos ⟨rfl, rfl⟩]) hr (fun _ => ?_)
      · rw [hF, gu_rd, if_neg (fun z => h z.1 z.2)]
      · rw [hF, hB]
        refine q2.trans ?_
        rw [tell_smug hD (by omega) hw]
    · skip
      have hT : sX7_told_t σ a b = 3 := by simp [sX7_told_t, zv_num, zv_idx, w1, w2, w3, w4, sX7_ask_k3_t, sX7_ask_k3_r, sX3_size_r, c1, c2]
      have hL : sL_told_s σ a b = σ := by simp [sL_told_s, hT]
      have hr : sL_told_r σ a b = 1 := by simp [sL_told_r, hT]
      have hF : sX8_told_s σ a b = gu (gu σ 57 0 0) 57 0 1 := by simp [sX8_told_s, zv_in, gu_rd, u1, u2, u3, u4, z1, z2, z3, z4, zt, zf, zg, zh, sX8_isDrum_r, sX8_isSmuggler_r, sX8_fail_s, sX8_fail_r, sX8_dr_r, sX8_sm_r, c1, c2]
      exact hI.fails hL (by rw [hL]; exact hF) hr (by decide)
  · skip
    have hT : sX7_told_t σ a b = 3 := by simp [sX7_told_t, zv_num, zv_idx, w1, w2, w3, w4, sX7_ask_k3_t, sX7_ask_k3_r, sX3_size_r, c1]
    have hL : sL_told_s σ a b = σ := by simp [sL_told_s, hT]
    have hr : sL_told_r σ a b = 1 := by simp [sL_told_r, hT]
    have hF : sX8_told_s σ a b = gu (gu σ 57 0 0) 57 0 1 := by simp [sX8_told_s, zv_in, gu_rd, u1, u2, u3, u4, z1, z2, z3, z4, zt, zf, zg, zh, sX8_isDrum_r, sX8_isSmuggler_r, sX8_fail_s, sX8_fail_r, sX8_dr_r, sX8_sm_r, c1]
    exact hI.fails hL (by rw [hL]; exact hF) hr (by decide)
set_option maxHeartbeats 2000000 in
theorem okv_ration : ok_ration IV := by
  intro n σ a b hn hI
  have hM := hI.1.2.2.1
  have hR := hI.1.1
  have hN := hI.1.2.1
  have u1 := hM.eq 1 (by omega) (by omega)
  have u2 := hM.eq 2 (by omega) (by omega)
  have u3 := hM.eq 3 (by omega) (by omega)
  have u4 := hM.eq 4 (by omega) (by omega)
  have w1 : σ.1 1 5 = nI (mB σ 1) := (hR.cnt 1 (by omega) (by omega)).trans u1
  have w2 : σ.1 1 6 = nI (mB σ 2) := (hR.cnt 2 (by omega) (by omega)).trans u2
  have w3 : σ.1 1 7 = nI (mB σ 3) := (hR.cnt 3 (by omega) (by omega)).trans u3
  have w4 : σ.1 1 8 = nI (mB σ 4) := (hR.cnt 4 (by omega) (by omega)).trans u4
  have l1 := hM.le1
  have l2 := hM.le2
  have l3 := hM.le3
  have l4 := hM.le4
  have z1 := zv_pred (k := mB σ 1) (by omega)
  have z2 := zv_pred (k := mB σ 2) (by omega)
  have z3 := zv_pred (k := mB σ 3) (by omega)
  have z4 := zv_pred (k := mB σ 4) (by omega)
  have z9 := zv_pred (k := 9) (by omega)
  have zt : ∀ x : Int32, x ≤ 2 ↔ x < 3 := zv_pred (k := 3) (by omega)
  have zf : ∀ x : Int32, x ≤ 4 ↔ x < 5 := zv_pred (k := 5) (by omega)
  have zg : ∀ x : Int32, x ≤ 5 ↔ x < 6 := zv_pred (k := 6) (by omega)
  have zh : ∀ x : Int32, x ≤ 8 ↔ x < 9 := zv_pred (k := 9) (by omega)
  by_cases c1 : 0 ≤ a ∧ a < nI (mB σ 4)
  · skip
    have hi : a.toNatClampNeg < mB σ 4 := zv_clamp (by omega) c1
    by_cases c2 : 0 ≤ b ∧ b < 5
    · skip
      have hw : b.toNatClampNeg < 5 := zv_clamp (k := 5) (by omega) c2
      have hT : sX7_ration_t σ a b = 0 := by simp [sX7_ration_t, zv_num, zv_idx, w1, w2, w3, w4, sX7_ask_k1_t, sX7_ask_k1_r, sX1_size_r, c1, c2]
      have hr : sL_ration_r σ a b = 0 := by simp [sL_ration_r, hT]
      have hA : sX7_ration_r σ a b = sX1_tell_r σ (1 + 18 + a.toNatClampNeg) b.toNatClampNeg := by simp [sX7_ration_r, zv_num, zv_idx, w1, w2, w3, w4, sX7_ask_k1_t, sX7_ask_k1_r, sX1_size_r, c1, c2]
      have hL : sL_ration_s σ a b = go σ (vp_updL σ.2 0 (Int32.toInt64 (sX7_ration_r σ a b))) := by rw [sL_ration_s, if_pos hT]
      have q1 : (sL_ration_s σ a b).1 = σ.1 := by rw [hL]; rfl
      have q2 : (sL_ration_s σ a b).2 0 = Int32.toInt64 (sX7_ration_r σ a b) := by rw [hL]; exact go_out _ _
      rw [hA] at q2
      generalize sL_ration_s σ a b = τ at q1 q2 ⊢
      have q3 : ∀ k f, τ.1 k f = σ.1 k f := fun k f => by rw [q1]
      have hF : sX8_ration_s τ a b = gu τ 57 0 0 := by simp [sX8_ration_s, zv_in, gu_rd, u1, u2, u3, u4, z1, z2, z3, z4, zt, zf, zg, zh, sX8_isDrum_r, sX8_isSmuggler_r, sX8_fail_s, sX8_fail_r, sX8_dr_r, sX8_sm_r, q3, c1, c2]
      have hB : sX8_ration_r τ a b = sX8_cardIs_r (gu τ 57 0 0) a.toNatClampNeg b.toNatClampNeg := by simp [sX8_ration_r, zv_in, gu_rd, u1, u2, u3, u4, z1, z2, z3, z4, zt, zf, zg, zh, sX8_isDrum_r, sX8_isSmuggler_r, sX8_fail_s, sX8_fail_r, sX8_dr_r, sX8_sm_r, q3, c1, c2]
      have hD : DR σ 1 (gu τ 57 0 0) 4 4 (mB σ 2) 4 10 := hI.1.thr (fun k f h1 h2 => by rw [gu_rd, if_neg (fun z => h2 z.1 z.2), q3])
      refine hI.still (v := 0) q1 (fun k f h => ?_) (by rw [hF, gu_rd, if_pos ⟨rfl, rfl⟩]) hr (fun _ => ?_)
      · rw [hF, gu_rd, if_neg (fun z => h z.1 z.2)]
      · rw [hF, hB]
        refine q2.trans ?_
        rw [tell_card hD (by omega) hw]
    · skip
      have hT : sX7_ration_t σ a b = 3 := by simp [sX7_ration_t, zv_num, zv_idx, w1, w2, w3, w4, sX7_ask_k1_t, sX7_ask_k1_r, sX1_size_r, c1, c2]
      have hL : sL_ration_s σ a b = σ := by simp [sL_ration_s, hT]
      have hr : sL_ration_r σ a b = 1 := by simp [sL_ration_r, hT]
      have hF : sX8_ration_s σ a b = gu (gu σ 57 0 0) 57 0 1 := by simp [sX8_ration_s, zv_in, gu_rd, u1, u2, u3, u4, z1, z2, z3, z4, zt, zf, zg, zh, sX8_isDrum_r, sX8_isSmuggler_r, sX8_fail_s, sX8_fail_r, sX8_dr_r, sX8_sm_r, c1, c2]
      exact hI.fails hL (by rw [hL]; exact hF) hr (by decide)
  · skip
    have hT : sX7_ration_t σ a b = 3 := by simp [sX7_ration_t, zv_num, zv_idx, w1, w2, w3, w4, sX7_ask_k1_t, sX7_ask_k1_r, sX1_size_r, c1]
    have hL : sL_ration_s σ a b = σ := by simp [sL_ration_s, hT]
    have hr : sL_ration_r σ a b = 1 := by simp [sL_ration_r, hT]
    have hF : sX8_ration_s σ a b = gu (gu σ 57 0 0) 57 0 1 := by simp [sX8_ration_s, zv_in, gu_rd, u1, u2, u3, u4, z1, z2, z3, z4, zt, zf, zg, zh, sX8_isDrum_r, sX8_isSmuggler_r, sX8_fail_s, sX8_fail_r, sX8_dr_r, sX8_sm_r, c1]
    exact hI.fails hL (by rw [hL]; exact hF) hr (by decide)
set_option maxHeartbeats 2000000 in
theorem okv_count : ok_count IV := by
  intro n σ a hn hI
  have hM := hI.1.2.2.1
  have hR := hI.1.1
  have hN := hI.1.2.1
  have u1 := hM.eq 1 (by omega) (by omega)
  have u2 := hM.eq 2 (by omega) (by omega)
  have u3 := hM.eq 3 (by omega) (by omega)
  have u4 := hM.eq 4 (by omega) (by omega)
  have w1 : σ.1 1 5 = nI (mB σ 1) := (hR.cnt 1 (by omega) (by omega)).trans u1
  have w2 : σ.1 1 6 = nI (mB σ 2) := (hR.cnt 2 (by omega) (by omega)).trans u2
  have w3 : σ.1 1 7 = nI (mB σ 3) := (hR.cnt 3 (by omega) (by omega)).trans u3
  have w4 : σ.1 1 8 = nI (mB σ 4) := (hR.cnt 4 (by omega) (by omega)).trans u4
  have l1 := hM.le1
  have l2 := hM.le2
  have l3 := hM.le3
  have l4 := hM.le4
  have z1 := zv_pred (k := mB σ 1) (by omega)
  have z2 := zv_pred (k := mB σ 2) (by omega)
  have z3 := zv_pred (k := mB σ 3) (by omega)
  have z4 := zv_pred (k := mB σ 4) (by omega)
  have z9 := zv_pred (k := 9) (by omega)
  have zt : ∀ x : Int32, x ≤ 2 ↔ x < 3 := zv_pred (k := 3) (by omega)
  have zf : ∀ x : Int32, x ≤ 4 ↔ x < 5 := zv_pred (k := 5) (by omega)
  have zg : ∀ x : Int32, x ≤ 5 ↔ x < 6 := zv_pred (k := 6) (by omega)
  have zh : ∀ x : Int32, x ≤ 8 ↔ x < 9 := zv_pred (k := 9) (by omega)
  by_cases c1 : 0 ≤ a ∧ a < 9
  · skip
    have hw : a.toNatClampNeg < 9 := zv_clamp (k := 9) (by omega) c1
    have hT : sX7_count_t σ a = 0 := by simp [sX7_count_t, zv_num, zv_idx, w1, w2, w3, w4, sX7_ask_k5_t, sX7_ask_k5_r, sX6_size_r, c1]
    have hr : sL_count_r σ a = 0 := by simp [sL_count_r, hT]
    have hA : sX7_count_r σ a = sX6_tell_r σ 1 a.toNatClampNeg := by simp [sX7_count_r, zv_num, zv_idx, w1, w2, w3, w4, sX7_ask_k5_t, sX7_ask_k5_r, sX6_size_r, c1]
    have hL : sL_count_s σ a = go σ (vp_updL σ.2 0 (Int32.toInt64 (sX7_count_r σ a))) := by rw [sL_count_s, if_pos hT]
    have q1 : (sL_count_s σ a).1 = σ.1 := by rw [hL]; rfl
    have q2 : (sL_count_s σ a).2 0 = Int32.toInt64 (sX7_count_r σ a) := by rw [hL]; exact go_out _ _
    rw [hA] at q2
    generalize sL_count_s σ a = τ at q1 q2 ⊢
    have q3 : ∀ k f, τ.1 k f = σ.1 k f := fun k f => by rw [q1]
    have hF : sX8_count_s τ a = gu τ 57 0 0 := by simp [sX8_count_s, zv_in, gu_rd, u1, u2, u3, u4, z1, z2, z3, z4, zt, zf, zg, zh, sX8_isDrum_r, sX8_isSmuggler_r, sX8_fail_s, sX8_fail_r, sX8_dr_r, sX8_sm_r, q3, c1]
    have hB : sX8_count_r τ a = (gu τ 57 0 0).1 62 a.toNatClampNeg := by simp [sX8_count_r, zv_in, gu_rd, u1, u2, u3, u4, z1, z2, z3, z4, zt, zf, zg, zh, sX8_isDrum_r, sX8_isSmuggler_r, sX8_fail_s, sX8_fail_r, sX8_dr_r, sX8_sm_r, q3, c1]
    have hD : DR σ 1 (gu τ 57 0 0) 4 4 (mB σ 2) 4 10 := hI.1.thr (fun k f h1 h2 => by rw [gu_rd, if_neg (fun z => h2 z.1 z.2), q3])
    refine hI.still (v := 0) q1 (fun k f h => ?_) (by rw [hF, gu_rd, if_pos ⟨rfl, rfl⟩]) hr (fun _ => ?_)
    · rw [hF, gu_rd, if_neg (fun z => h z.1 z.2)]
    · rw [hF, hB]
      refine q2.trans ?_
      rw [tell_town hD hw]
  · skip
    have hT : sX7_count_t σ a = 3 := by simp [sX7_count_t, zv_num, zv_idx, w1, w2, w3, w4, sX7_ask_k5_t, sX7_ask_k5_r, sX6_size_r, c1]
    have hL : sL_count_s σ a = σ := by simp [sL_count_s, hT]
    have hr : sL_count_r σ a = 1 := by simp [sL_count_r, hT]
    have hF : sX8_count_s σ a = gu (gu σ 57 0 0) 57 0 1 := by simp [sX8_count_s, zv_in, gu_rd, u1, u2, u3, u4, z1, z2, z3, z4, zt, zf, zg, zh, sX8_isDrum_r, sX8_isSmuggler_r, sX8_fail_s, sX8_fail_r, sX8_dr_r, sX8_sm_r, c1]
    exact hI.fails hL (by rw [hL]; exact hF) hr (by decide)
set_option maxHeartbeats 2000000 in
theorem okv_ready : ok_ready IV := by
  intro n σ a hn hI
  have hM := hI.1.2.2.1
  have hR := hI.1.1
  have hN := hI.1.2.1
  have u1 := hM.eq 1 (by omega) (by omega)
  have u2 := hM.eq 2 (by omega) (by omega)
  have u3 := hM.eq 3 (by omega) (by omega)
  have u4 := hM.eq 4 (by omega) (by omega)
  have w1 : σ.1 1 5 = nI (mB σ 1) := (hR.cnt 1 (by omega) (by omega)).trans u1
  have w2 : σ.1 1 6 = nI (mB σ 2) := (hR.cnt 2 (by omega) (by omega)).trans u2
  have w3 : σ.1 1 7 = nI (mB σ 3) := (hR.cnt 3 (by omega) (by omega)).trans u3
  have w4 : σ.1 1 8 = nI (mB σ 4) := (hR.cnt 4 (by omega) (by omega)).trans u4
  have l1 := hM.le1
  have l2 := hM.le2
  have l3 := hM.le3
  have l4 := hM.le4
  have z1 := zv_pred (k := mB σ 1) (by omega)
  have z2 := zv_pred (k := mB σ 2) (by omega)
  have z3 := zv_pred (k := mB σ 3) (by omega)
  have z4 := zv_pred (k := mB σ 4) (by omega)
  have z9 := zv_pred (k := 9) (by omega)
  have zt : ∀ x : Int32, x ≤ 2 ↔ x < 3 := zv_pred (k := 3) (by omega)
  have zf : ∀ x : Int32, x ≤ 4 ↔ x < 5 := zv_pred (k := 5) (by omega)
  have zg : ∀ x : Int32, x ≤ 5 ↔ x < 6 := zv_pred (k := 6) (by omega)
  have zh : ∀ x : Int32, x ≤ 8 ↔ x < 9 := zv_pred (k := 9) (by omega)
  by_cases c1 : 0 ≤ a ∧ a < nI (mB σ 2)
  · skip
    have hi : a.toNatClampNeg < mB σ 2 := zv_clamp (by omega) c1
    have hT : sX7_ready_t σ a = 0 := by simp [sX7_ready_t, zv_num, zv_idx, w1, w2, w3, w4, c1]
    have hr : sL_ready_r σ a = 0 := by simp [sL_ready_r, hT]
    have hA : sX7_ready_r σ a = sX2_daysToBest_r σ (1 + 10 + a.toNatClampNeg) := by simp [sX7_ready_r, zv_num, zv_idx, w1, w2, w3, w4, c1]
    have hL : sL_ready_s σ a = go σ (vp_updL σ.2 0 (Int32.toInt64 (sX7_ready_r σ a))) := by rw [sL_ready_s, if_pos hT]
    have q1 : (sL_ready_s σ a).1 = σ.1 := by rw [hL]; rfl
    have q2 : (sL_ready_s σ a).2 0 = Int32.toInt64 (sX7_ready_r σ a) := by rw [hL]; exact go_out _ _
    rw [hA] at q2
    generalize sL_ready_s σ a = τ at q1 q2 ⊢
    have q3 : ∀ k f, τ.1 k f = σ.1 k f := fun k f => by rw [q1]
    have hF : sX8_ready_s τ a = gu τ 57 0 0 := by simp [sX8_ready_s, zv_in, gu_rd, u1, u2, u3, u4, z1, z2, z3, z4, zt, zf, zg, zh, sX8_isDrum_r, sX8_isSmuggler_r, sX8_fail_s, sX8_fail_r, sX8_dr_r, sX8_sm_r, q3, c1]
    have hB : sX8_ready_r τ a = if (gu τ 57 0 0).1 62 (14 + 4 * a.toNatClampNeg + 1) = -1 then -1 else (itr (stX8_ready_38 (gu τ 57 0 0) a) 61 ((-1 : Int32), (0 : Int32))).1 := by simp [sX8_ready_r, zv_in, gu_rd, u1, u2, u3, u4, z1, z2, z3, z4, zt, zf, zg, zh, sX8_isDrum_r, sX8_isSmuggler_r, sX8_fail_s, sX8_fail_r, sX8_dr_r, sX8_sm_r, q3, c1]
    have hD : DR σ 1 (gu τ 57 0 0) 4 4 (mB σ 2) 4 10 := hI.1.thr (fun k f h1 h2 => by rw [gu_rd, if_neg (fun z => h2 z.1 z.2), q3])
    refine hI.still (v := 0) q1 (fun k f h => ?_) (by rw [hF, gu_rd, if_pos ⟨rfl, rfl⟩]) hr (fun _ => ?_)
    · rw [hF, gu_rd, if_neg (fun z => h z.1 z.2)]
    · rw [hF, hB]
      refine q2.trans ?_
      have d1 := hD.1.dd a.toNatClampNeg 1 (by omega) (by omega) (by omega)
      by_cases c : (gu τ 57 0 0).1 62 (14 + 4 * a.toNatClampNeg + 1) = -1
      · rw [if_pos c, ready_none (d1.trans c)]
      · rw [if_neg c, hD.ready (by omega) (by omega) c]
  · skip
    have hT : sX7_ready_t σ a = 3 := by simp [sX7_ready_t, zv_num, zv_idx, w1, w2, w3, w4, c1]
    have hL : sL_ready_s σ a = σ := by simp [sL_ready_s, hT]
    have hr : sL_ready_r σ a = 1 := by simp [sL_ready_r, hT]
    have hF : sX8_ready_s σ a = gu (gu σ 57 0 0) 57 0 1 := by simp [sX8_ready_s, zv_in, gu_rd, u1, u2, u3, u4, z1, z2, z3, z4, zt, zf, zg, zh, sX8_isDrum_r, sX8_isSmuggler_r, sX8_fail_s, sX8_fail_r, sX8_dr_r, sX8_sm_r, c1]
    exact hI.fails hL (by rw [hL]; exact hF) hr (by decide)
set_option maxHeartbeats 2000000 in
theorem okv_caught : ok_caught IV := by
  intro n σ a b hn hI
  have hM := hI.1.2.2.1
  have hR := hI.1.1
  have hN := hI.1.2.1
  have u1 := hM.eq 1 (by omega) (by omega)
  have u2 := hM.eq 2 (by omega) (by omega)
  have u3 := hM.eq 3 (by omega) (by omega)
  have u4 := hM.eq 4 (by omega) (by omega)
  have w1 : σ.1 1 5 = nI (mB σ 1) := (hR.cnt 1 (by omega) (by omega)).trans u1
  have w2 : σ.1 1 6 = nI (mB σ 2) := (hR.cnt 2 (by omega) (by omega)).trans u2
  have w3 : σ.1 1 7 = nI (mB σ 3) := (hR.cnt 3 (by omega) (by omega)).trans u3
  have w4 : σ.1 1 8 = nI (mB σ 4) := (hR.cnt 4 (by omega) (by omega)).trans u4
  have l1 := hM.le1
  have l2 := hM.le2
  have l3 := hM.le3
  have l4 := hM.le4
  have z1 := zv_pred (k := mB σ 1) (by omega)
  have z2 := zv_pred (k := mB σ 2) (by omega)
  have z3 := zv_pred (k := mB σ 3) (by omega)
  have z4 := zv_pred (k := mB σ 4) (by omega)
  have z9 := zv_pred (k := 9) (by omega)
  have zt : ∀ x : Int32, x ≤ 2 ↔ x < 3 := zv_pred (k := 3) (by omega)
  have zf : ∀ x : Int32, x ≤ 4 ↔ x < 5 := zv_pred (k := 5) (by omega)
  have zg : ∀ x : Int32, x ≤ 5 ↔ x < 6 := zv_pred (k := 6) (by omega)
  have zh : ∀ x : Int32, x ≤ 8 ↔ x < 9 := zv_pred (k := 9) (by omega)
  by_cases c1 : 0 ≤ a ∧ a < nI (mB σ 3)
  · skip
    have hi : a.toNatClampNeg < mB σ 3 := zv_clamp (by omega) c1
    have d1 : σ.1 (15 + a.toNatClampNeg) 2 = σ.1 62 (30 + 3 * a.toNatClampNeg) := hR.sd a.toNatClampNeg 0 (by omega) (by omega)
    by_cases c2 : 0 ≤ b ∧ b ≤ 60
    · skip
      by_cases c3 : σ.1 62 (30 + 3 * a.toNatClampNeg) = 0
      · skip
        have hT : sX7_caught_t σ a b = 0 := by simp [sX7_caught_t, zv_num, zv_idx, w1, w2, w3, w4, c1, d1, c2, c3]
        have hr : sL_caught_r σ a b = 0 := by simp [sL_caught_r, hT]
        have hA : sX7_caught_r σ a b = sX6_patrolled_r σ 1 (((σ.1 1 9 + b) + sX3_daysToBorder_r σ (1 + 14 + a.toNatClampNeg)) - 1) := by simp [sX7_caught_r, zv_num, zv_idx, w1, w2, w3, w4, c1, d1, c2, c3]
        have hL : sL_caught_s σ a b = go σ (vp_updL σ.2 0 (if sX7_caught_r σ a b = 0 then (0 : Int64) else 1)) := by rw [sL_caught_s, if_pos hT]
        have q1 : (sL_caught_s σ a b).1 = σ.1 := by rw [hL]; rfl
        have q2 : (sL_caught_s σ a b).2 0 = if sX7_caught_r σ a b = 0 then (0 : Int64) else 1 := by rw [hL]; exact go_out _ _
        rw [hA] at q2
        generalize sL_caught_s σ a b = τ at q1 q2 ⊢
        have q3 : ∀ k f, τ.1 k f = σ.1 k f := fun k f => by rw [q1]
        have hF : sX8_caught_s τ a b = gu τ 57 0 0 := by simp [sX8_caught_s, zv_in, gu_rd, u1, u2, u3, u4, z1, z2, z3, z4, zt, zf, zg, zh, sX8_isDrum_r, sX8_isSmuggler_r, sX8_fail_s, sX8_fail_r, sX8_dr_r, sX8_sm_r, q3, c1, d1, c2, c3]
        have hB : sX8_caught_r τ a b = sX8_isPatrol_r (gu τ 57 0 0) (((((gu τ 57 0 0).1 62 0 + b) + (gu τ 57 0 0).1 60 (2 * a.toNatClampNeg)) - ((gu τ 57 0 0).1 60 (2 * a.toNatClampNeg)) / 2) - 1) := by simp [sX8_caught_r, zv_in, gu_rd, u1, u2, u3, u4, z1, z2, z3, z4, zt, zf, zg, zh, sX8_isDrum_r, sX8_isSmuggler_r, sX8_fail_s, sX8_fail_r, sX8_dr_r, sX8_sm_r, q3, c1, d1, c2, c3]
        have hD : DR σ 1 (gu τ 57 0 0) 4 4 (mB σ 2) 4 10 := hI.1.thr (fun k f h1 h2 => by rw [gu_rd, if_neg (fun z => h2 z.1 z.2), q3])
        refine hI.still (v := 0) q1 (fun k f h => ?_) (by rw [hF, gu_rd, if_pos ⟨rfl, rfl⟩]) hr (fun _ => ?_)
        · rw [hF, gu_rd, if_neg (fun z => h z.1 z.2)]
        · rw [hF, hB]
          refine q2.trans ?_
          rw [hD.1.patrol, hD.1.x9]
          have e0 := hD.1.st a.toNatClampNeg 0 (by omega) (by omega)
          simp only [Nat.add_zero] at e0
          unfold sX3_daysToBorder_r
          rw [e0]
          generalize (gu τ 57 0 0).1 60 (2 * a.toNatClampNeg) / 2 = H
          rw [show (gu τ 57 0 0).1 62 0 + b + ((gu τ 57 0 0).1 60 (2 * a.toNatClampNeg) - H) - 1 = (gu τ 57 0 0).1 62 0 + b + (gu τ 57 0 0).1 60 (2 * a.toNatClampNeg) - H - 1 by grind]
      · skip
        have hT : sX7_caught_t σ a b = 2 := by simp [sX7_caught_t, zv_num, zv_idx, w1, w2, w3, w4, c1, d1, c2, c3]
        have hL : sL_caught_s σ a b = σ := by simp [sL_caught_s, hT]
        have hr : sL_caught_r σ a b = 3 := by simp [sL_caught_r, hT]
        have hF : sX8_caught_s σ a b = gu σ 57 0 3 := by simp [sX8_caught_s, zv_in, gu_rd, u1, u2, u3, u4, z1, z2, z3, z4, zt, zf, zg, zh, sX8_isDrum_r, sX8_isSmuggler_r, sX8_fail_s, sX8_fail_r, sX8_dr_r, sX8_sm_r, c1, d1, c2, c3]
        exact hI.still (v := 3) (by rw [hL]) (fun k f h => by rw [hL, hF, gu_rd, if_neg (fun z => h z.1 z.2)]) (by rw [hL, hF, gu_rd, if_pos ⟨rfl, rfl⟩]) hr (fun q => absurd q (by decide))
    · skip
      have hT : sX7_caught_t σ a b = 1 := by simp [sX7_caught_t, zv_num, zv_idx, w1, w2, w3, w4, c1, d1, c2]
      have hL : sL_caught_s σ a b = σ := by simp [sL_caught_s, hT]
      have hr : sL_caught_r σ a b = 2 := by simp [sL_caught_r, hT]
      have hF : sX8_caught_s σ a b = gu σ 57 0 2 := by simp [sX8_caught_s, zv_in, gu_rd, u1, u2, u3, u4, z1, z2, z3, z4, zt, zf, zg, zh, sX8_isDrum_r, sX8_isSmuggler_r, sX8_fail_s, sX8_fail_r, sX8_dr_r, sX8_sm_r, c1, d1, c2]
      exact hI.still (v := 2) (by rw [hL]) (fun k f h => by rw [hL, hF, gu_rd, if_neg (fun z => h z.1 z.2)]) (by rw [hL, hF, gu_rd, if_pos ⟨rfl, rfl⟩]) hr (fun q => absurd q (by decide))
  · skip
    have hT : sX7_caught_t σ a b = 3 := by simp [sX7_caught_t, zv_num, zv_idx, w1, w2, w3, w4, c1]
    have hL : sL_caught_s σ a b = σ := by simp [sL_caught_s, hT]
    have hr : sL_caught_r σ a b = 1 := by simp [sL_caught_r, hT]
    have hF : sX8_caught_s σ a b = gu σ 57 0 1 := by simp [sX8_caught_s, zv_in, gu_rd, u1, u2, u3, u4, z1, z2, z3, z4, zt, zf, zg, zh, sX8_isDrum_r, sX8_isSmuggler_r, sX8_fail_s, sX8_fail_r, sX8_dr_r, sX8_sm_r, c1]
    exact hI.still (v := 1) (by rw [hL]) (fun k f h => by rw [hL, hF, gu_rd, if_neg (fun z => h z.1 z.2)]) (by rw [hL, hF, gu_rd, if_pos ⟨rfl, rfl⟩]) hr (fun q => absurd q (by decide))
