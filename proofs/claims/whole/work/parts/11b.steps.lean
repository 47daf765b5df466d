section RS
variable {σ τ : gS} {t nb nd kd ns nc : Nat}
theorem RE.serve (h : RE σ t τ nb nd kd ns nc) {j : Nat} (hj : j < nc) : sX1_serveOne_r σ (t + 18 + j) (t + 5) = sX8_serve_r τ j ∧ RE (sX1_serveOne_s σ (t + 18 + j) (t + 5)) t (sX8_serve_s τ j) nb nd kd ns nc := by
  have hj10 : j < 10 := Nat.lt_of_lt_of_le hj h.1.2.2.2
  have eL := h.cd j 0 hj (by omega)
  have eG := h.cd j 1 hj (by omega)
  have eR := h.cd j 2 hj (by omega)
  have eP := h.ct j 1 hj (by omega)
  have e2 := h.s2
  have e3 := h.s3
  have e4 := h.s4
  have e5 := h.s5
  have e6 := h.s6
  simp only [Nat.add_zero, Nat.reduceAdd] at eL eG eR eP
  unfold sX1_serveOne_r sX1_serveOne_s sX4_canMix_r sX4_coffeeOfPortion_r sX8_serve_r sX8_serve_s sX8_ca_r
  simp only [eL, eP, e4, e3, e2, Nat.add_zero]
  by_cases c1 : τ.1 62 (42 + 3 * j) = 0
  · rw [if_pos c1, if_pos c1, if_pos c1, if_pos c1]
    exact ⟨rfl, h⟩
  rw [if_neg c1, if_neg c1, if_neg c1, if_neg c1]
  generalize hc : gmin (τ.1 62 7) (τ.1 62 4) = c
  by_cases c2 : τ.1 62 3 < 10 - c
  · have c2' : ¬ (10 - c ≤ τ.1 62 3) := Int32.not_le.mpr c2
    simp only [if_pos c2, if_neg c2', if_true]
    exact ⟨trivial, h⟩
  have c2' : 10 - c ≤ τ.1 62 3 := Int32.not_lt.mp c2
  simp only [if_neg c2, if_pos c2', show ¬ ((1 : Int32) = 0) by decide, if_false]
  by_cases c3 : τ.1 61 (2 * j + 1) ≤ c
  · simp only [if_pos c3]
    refine ⟨by split <;> rfl, ?_⟩
    have key : ∀ v6 : Int32, RE (gu (gu (gu (gu (gu (gu σ (t + 5) 3 (τ.1 62 4 - c)) (t + 5) 2 (τ.1 62 3 - (10 - c))) (t + 5) 5 (τ.1 62 5 + 1)) (t + 5) 6 v6) (t + 18 + j) 2 (τ.1 62 (42 + 3 * j) - 1)) (t + 18 + j) 3 (τ.1 62 (42 + 3 * j + 1) + 1)) t
        (gu (gu (gu (gu (gu (gu τ 62 4 (τ.1 62 4 - c)) 62 3 (τ.1 62 3 - (10 - c))) 62 5 (τ.1 62 5 + 1)) 62 6 v6) 62 (42 + 3 * j) (τ.1 62 (42 + 3 * j) - 1)) 62 (42 + 3 * j + 1) (τ.1 62 (42 + 3 * j + 1) + 1)) nb nd kd ns nc := fun v6 =>
      (((((h.put PW.s3).put PW.s2).put PW.s5).put PW.s6).put (PW.cd hj10 (w := 0) (by omega))).put (PW.cd hj10 (w := 1) (by omega))
    unfold sX4_servePortion_s sX8_moreCard_s
    simp only [e4, e3, e2, e5, e6]
    have n1 : ¬ (t + 18 + j = t + 5) := by omega
    have m1 : (-1 : Int32) = -1 := rfl
    by_cases c4 : τ.1 62 7 ≤ c
    · refine (key (τ.1 62 6)).ext (fun k h1 h2 f => ?_) (fun k h1 h2 f h3 => ?_)
      · simp only [if_pos c4]
        simp only [gu]
        grind
      · simp only [gu]
        grind
    · refine (key (τ.1 62 6 + 1)).ext (fun k h1 h2 f => ?_) (fun k h1 h2 f h3 => ?_)
      · simp only [if_neg c4]
        simp only [gu]
        grind
      · simp only [gu]
        grind
  · simp only [if_neg c3]
    refine ⟨trivial, ?_⟩
    unfold sX8_moreCard_s
    rw [eR]
    exact h.put (PW.cd hj10 (w := 2) (by omega))
/-- a portion more is a portion served -/
theorem one_served {k q : Nat} (hk : k ≠ q) : (sX1_serveOne_s σ k q).1 q 5 = σ.1 q 5 + sX1_serveOne_r σ k q := by
  unfold sX1_serveOne_s sX1_serveOne_r
  have z : ∀ x : Int32, x + 0 = x := fun x => by simp
  split
  · rw [z]
  · split
    · rw [z]
    · split
      · unfold sX4_servePortion_s
        split <;> (simp only [gu]; grind)
      · simp only [gu]
        grind
theorem bX1_one (k q : Nat) : sX1_serveOne_r σ k q = 0 ∨ sX1_serveOne_r σ k q = 1 := by
  unfold sX1_serveOne_r
  repeat' split
  all_goals first | exact Or.inl rfl | exact Or.inr rfl
theorem day_served {k q : Nat} (hk : k ≠ q) : (sX1_serveDay_s σ k q).1 q 5 = σ.1 q 5 + sX1_serveDay_r σ k q := by
  have a1 := one_served (σ := σ) hk
  have a2 := one_served (σ := sX1_serveOne_s σ k q) hk
  have b1 := bX1_one (σ := σ) k q
  have b2 := bX1_one (σ := sX1_serveOne_s σ k q) k q
  unfold sX1_serveDay_s sX1_serveDay_r
  dsimp only
  by_cases c1 : sX1_serveOne_r σ k q = 0
  · rw [if_pos c1, if_pos c1, a1, c1]
  · rw [if_neg c1, if_neg c1]
    have c1' := b1.resolve_left c1
    by_cases c2 : sX1_serveOne_r (sX1_serveOne_s σ k q) k q = 0
    · rw [if_pos c2, if_pos c2, a2, a1, c1', c2]
      simp
    · rw [if_neg c2, if_neg c2, a2, a1, c1', b2.resolve_left c2, Int32.add_assoc]
      rfl
theorem RE.serveDay (h : RE σ t τ nb nd kd ns nc) {j : Nat} (hj : j < nc) : RE (sX1_serveDay_s σ (t + 18 + j) (t + 5)) t (if sX8_serve_r τ j = 0 then sX8_serve_s τ j else sX8_serve_s (sX8_serve_s τ j) j) nb nd kd ns nc := by
  obtain ⟨r1, h1⟩ := h.serve hj
  obtain ⟨r2, h2⟩ := h1.serve hj
  unfold sX1_serveDay_s
  dsimp only
  rw [r1]
  split
  · exact h1
  · split <;> exact h2
theorem RE.card (h : RE σ t τ nb nd kd ns nc) {j : Nat} (hj : j < nc) (p : Int32) : RE (stX6_serve_4 t j (σ, p)).1 t (stX8_dayOn_146 j τ) nb nd kd ns nc ∧ (stX6_serve_4 t j (σ, p)).2 - p = (stX6_serve_4 t j (σ, p)).1.1 (t + 5) 5 - σ.1 (t + 5) 5 := by
  have hj10 : j < 10 := Nat.lt_of_lt_of_le hj h.1.2.2.2
  have eD := h.x9
  have eA := h.ct j 0 hj (by omega)
  simp only [Nat.add_zero] at eA
  have n1 : t + 18 + j ≠ t + 5 := by omega
  have sub : ∀ x y z : Int32, y = z + x → p + x - p = y - z := fun x y z e => by rw [e, Int32.add_comm p x, Int32.add_sub_cancel, Int32.add_comm z x, Int32.add_sub_cancel]
  unfold stX6_serve_4 stX8_dayOn_146
  simp only [eD]
  split
  · have h1 : RE (sX1_renew_s σ (t + 18 + j)) t (gu τ 62 (42 + 3 * j + 0) (τ.1 61 (2 * j))) nb nd kd ns nc := by
      unfold sX1_renew_s
      dsimp only
      rw [eA]
      exact h.put (PW.cd hj10 (w := 0) (by omega))
    refine ⟨?_, ?_⟩
    · have h2 := h1.serveDay hj
      dsimp only
      split
      · rename_i c
        rw [if_pos c] at h2
        exact h2
      · rename_i c
        rw [if_neg c] at h2
        split <;> exact h2
    · refine sub _ _ _ ?_
      rw [day_served n1]
      congr 1
      unfold sX1_renew_s
      simp only [gu]
      grind
  · refine ⟨?_, sub _ _ _ (day_served n1)⟩
    have h2 := h.serveDay hj
    dsimp only
    split
    · rename_i c
      rw [if_pos c] at h2
      exact h2
    · rename_i c
      rw [if_neg c] at h2
      split <;> exact h2
theorem RE.bed (h : RE σ t τ nb nd kd ns nc) {j : Nat} (hj : j < nb) : RE (stX6_grow_2 t j σ) t (stX8_dayOn_90 j τ) nb nd kd ns nc := by
  have hj4 : j < 4 := Nat.lt_of_lt_of_le hj h.1.1
  have e0 := h.bt j 0 hj (by omega)
  have e1 := h.bt j 1 hj (by omega)
  have e2 := h.b2 j hj
  simp only [Nat.add_zero] at e0
  unfold stX6_grow_2 stX8_dayOn_90 sX0_grow_s
  dsimp only
  rw [e0, e1, e2, gmin_comm]
  exact h.put (PW.b2 hj4)
theorem RE.drum (h : RE σ t τ nb nd kd ns nc) {j : Nat} (hj : j < nd) (hk : j < kd) (h01 : τ.1 62 (14 + 4 * j + 1) = -1 ∨ τ.1 62 (14 + 4 * j + 1) = 0 ∨ τ.1 62 (14 + 4 * j + 1) = 1) (hz : τ.1 62 (14 + 4 * j + 1) = -1 → τ.1 62 (14 + 4 * j + 3) = 0) : RE (stX6_warm_2 t j σ) t (stX8_dayOn_32 j τ) nb nd kd ns nc := by
  have hj4 : j < 4 := Nat.lt_of_lt_of_le hj h.1.2.1
  have e1 := h.dd j 0 hj (by omega) (by omega)
  have e2 := h.dd j 1 hj (by omega) (by omega)
  have e4 := h.dd j 3 hj (by omega) (by omega)
  simp only [Nat.add_zero, Nat.reduceAdd] at e1 e2 e4
  unfold stX6_warm_2 stX8_dayOn_32 sX2_warm_s sX2_levelAfter_r sX2_burnt_r sX8_dr_r sX8_letDrum_s
  simp only [e1, e2, e4, Nat.add_zero]
  by_cases c1 : τ.1 62 (14 + 4 * j + 1) = -1
  · rw [if_pos c1, if_pos c1]
    refine (h.put (v := 0) (PW.dd hj4 (w := 3) (by omega))).ext (fun k h1 h2 f => rfl) (fun k h1 h2 f h3 => ?_)
    simp only [gu]
    have := hz c1
    grind
  · rw [if_neg c1, if_neg c1, gmin_comm]
    have e9 : (if τ.1 62 (14 + 4 * j + 1) = 0 then (24 : Int32) else 15) = (if (τ.1 62 (14 + 4 * j + 1)).toNatClampNeg = 0 then 24 else 15) := by
      rcases h01 with q | q | q
      · exact absurd q c1
      · rw [q]; rfl
      · rw [q]; rfl
    rw [e9]
    exact h.put (PW.dd hj4 (w := 3) (by omega))
end RS
