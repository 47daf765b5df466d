/-! days of the class's town and of the reference go together -/
def NB (τ : gS) (nb nd kd ns nc : Nat) : Prop := mB τ 1 ≤ nb ∧ mB τ 2 ≤ nd ∧ mB τ 2 ≤ kd ∧ mB τ 3 ≤ ns ∧ mB τ 4 ≤ nc
theorem NB.of {τ τ' : gS} {nb nd kd ns nc : Nat} (h : NB τ nb nd kd ns nc) (e : τ'.1 57 = τ.1 57) : NB τ' nb nd kd ns nc := by
  unfold NB mB at *
  rw [e]
  exact h
def DR (σ : gS) (t : Nat) (τ : gS) (nb nd kd ns nc : Nat) : Prop := RE σ t τ nb nd kd ns nc ∧ NI τ ∧ mOK τ ∧ NB τ nb nd kd ns nc
section LV
variable {σ τ : gS} {t nb nd kd ns nc : Nat}
theorem DR.cnt (h : DR σ t τ nb nd kd ns nc) {q : Nat} (h1 : 1 ≤ q) (h2 : q ≤ 4) : tB σ t (4 + q) = mB τ q := by
  unfold tB mB
  rw [h.1.cnt q h1 h2]
theorem DR.travel (h : DR σ t τ nb nd kd ns nc) : DR (sX6_travel_s σ t) t (itr stX8_dayOn_2 (mB τ 3) τ) nb nd kd ns nc := by
  have hn := h.2.2.2.2.2.2.1
  have hl := h.2.2.1.le3
  unfold sX6_travel_s
  rw [h.cnt (q := 3) (by omega) (by omega)]
  refine itr_rel (fun x y => DR x t y nb nd kd ns nc) (stX6_travel_2 t) stX8_dayOn_2 (mB τ 3) ?_ σ τ h
  intro j x y hj k
  exact ⟨k.1.smug (by omega) (k.2.1.1 j (by omega)), k.2.1.goOn (by omega), okstX8_dayOn_2 (by omega) k.2.2.1, k.2.2.2.of fstX8_dayOn_2⟩
theorem DR.warm (h : DR σ t τ nb nd kd ns nc) : DR (sX6_warm_s σ t) t (itr stX8_dayOn_32 (mB τ 2) τ) nb nd kd ns nc := by
  have hn := h.2.2.2.2.1
  have hk := h.2.2.2.2.2.1
  have hl := h.2.2.1.le2
  unfold sX6_warm_s
  rw [h.cnt (q := 2) (by omega) (by omega)]
  refine itr_rel (fun x y => DR x t y nb nd kd ns nc) (stX6_warm_2 t) stX8_dayOn_32 (mB τ 2) ?_ σ τ h
  intro j x y hj k
  exact ⟨k.1.drum (by omega) (by omega) (k.2.2.1.2 j (by omega)) (k.2.1.2.1 j (by omega)), k.2.1.drum (by omega), okstX8_dayOn_32 (by omega) k.2.2.1, k.2.2.2.of fstX8_dayOn_32⟩
theorem DR.grow (h : DR σ t τ nb nd kd ns nc) : DR (sX6_grow_s σ t) t (itr stX8_dayOn_90 (mB τ 1) τ) nb nd kd ns nc := by
  have hn := h.2.2.2.1
  have hl := h.2.2.1.le1
  unfold sX6_grow_s
  rw [h.cnt (q := 1) (by omega) (by omega)]
  refine itr_rel (fun x y => DR x t y nb nd kd ns nc) (stX6_grow_2 t) stX8_dayOn_90 (mB τ 1) ?_ σ τ h
  intro j x y hj k
  exact ⟨k.1.bed (by omega), k.2.1.bed (by omega), okstX8_dayOn_90 (by omega) k.2.2.1, k.2.2.2.of fstX8_dayOn_90⟩
theorem i32_acc {a p y z s : Int32} (h1 : a - p = y - z) (h2 : p = z - s) : a = y - s := by grind
theorem DR.serve (h : DR σ t τ nb nd kd ns nc) : DR (sX6_serve_s σ t) t (itr stX8_dayOn_146 (mB τ 4) τ) nb nd kd ns nc ∧ sX6_serve_r σ t = (sX6_serve_s σ t).1 (t + 5) 5 - σ.1 (t + 5) 5 := by
  have hn := h.2.2.2.2.2.2.2
  have hl := h.2.2.1.le4
  unfold sX6_serve_s sX6_serve_r
  rw [h.cnt (q := 4) (by omega) (by omega)]
  refine itr_rel (fun (x : gS × Int32) y => DR x.1 t y nb nd kd ns nc ∧ x.2 = x.1.1 (t + 5) 5 - σ.1 (t + 5) 5) (stX6_serve_4 t) stX8_dayOn_146 (mB τ 4) ?_ (σ, (0 : Int32)) τ ⟨h, by simp⟩
  rintro j ⟨x1, x2⟩ y hj ⟨k1, k2⟩
  obtain ⟨q1, q2⟩ := k1.1.card (j := j) (by omega) x2
  exact ⟨⟨q1, k1.2.1.card, okstX8_dayOn_146 (by omega) k1.2.2.1, k1.2.2.2.of fstX8_dayOn_146⟩, i32_acc q2 k2⟩
theorem DR.put {k j k' j' : Nat} {v : Int32} (h : DR σ t τ nb nd kd ns nc) (p : PW t k j 62 j') (hj : j' < 14 ∨ 42 ≤ j') : DR (gu σ k j v) t (gu τ 62 j' v) nb nd kd ns nc :=
  ⟨h.1.put p, h.2.1.of (fun i h1 h2 => by rw [gu_at, if_neg (by omega)]), mOK.now rfl (fun d _ => by omega) h.2.2.1, h.2.2.2.of (gu_ne (by decide))⟩
/-- served is the same number on both sides, and only serving moves it -/
theorem r5_2 (n : Nat) (x : gS) : (itr stX8_dayOn_2 n x).1 62 5 = x.1 62 5 := itr_keep _ (fun y : gS => y.1 62 5) (fun j y => by
  unfold stX8_dayOn_2 sX8_goOn_s sX8_letSmuggler_s
  dsimp only
  repeat' split
  all_goals first | rfl | (simp only [gu]; try grind)) n x
theorem r5_32 (n : Nat) (x : gS) : (itr stX8_dayOn_32 n x).1 62 5 = x.1 62 5 := itr_keep _ (fun y : gS => y.1 62 5) (fun j y => by
  unfold stX8_dayOn_32 sX8_letDrum_s
  dsimp only
  repeat' split
  all_goals first | rfl | (simp only [gu]; try grind)) n x
theorem r5_90 (n : Nat) (x : gS) : (itr stX8_dayOn_90 n x).1 62 5 = x.1 62 5 := itr_keep _ (fun y : gS => y.1 62 5) (fun j y => by
  unfold stX8_dayOn_90
  dsimp only
  simp only [gu]
  try grind) n x
theorem DR.day (h : DR σ t τ nb nd kd ns nc) (d j : Nat) (p : Int32) : DR (stX6_live_4 t d j (σ, p)).1 t (sX8_dayOn_s τ) nb nd kd ns nc ∧ (stX6_live_4 t d j (σ, p)).2 - p = (stX6_live_4 t d j (σ, p)).1.1 (t + 5) 5 - σ.1 (t + 5) 5 := by
  have h1 := h.travel
  have c2 : mB (itr stX8_dayOn_2 (mB τ 3) τ) 2 = mB τ 2 := by unfold mB; rw [itr_keep _ (fun y : gS => y.1 57) (fun j x => fstX8_dayOn_2) _ τ]
  have h2 := h1.warm
  rw [c2] at h2
  have c1 : mB (itr stX8_dayOn_32 (mB τ 2) (itr stX8_dayOn_2 (mB τ 3) τ)) 1 = mB τ 1 := by unfold mB; rw [itr_keep _ (fun y : gS => y.1 57) (fun j x => fstX8_dayOn_32), itr_keep _ (fun y : gS => y.1 57) (fun j x => fstX8_dayOn_2)]
  have h3 := h2.grow
  rw [c1] at h3
  have c4 : mB (itr stX8_dayOn_90 (mB τ 1) (itr stX8_dayOn_32 (mB τ 2) (itr stX8_dayOn_2 (mB τ 3) τ))) 4 = mB τ 4 := by unfold mB; rw [itr_keep _ (fun y : gS => y.1 57) (fun j x => fstX8_dayOn_90), itr_keep _ (fun y : gS => y.1 57) (fun j x => fstX8_dayOn_32), itr_keep _ (fun y : gS => y.1 57) (fun j x => fstX8_dayOn_2)]
  obtain ⟨h4, q4⟩ := h3.serve
  rw [c4] at h4
  have e3 : (sX6_grow_s (sX6_warm_s (sX6_travel_s σ t) t) t).1 (t + 5) 5 = σ.1 (t + 5) 5 := by rw [h3.1.s5, r5_90, r5_32, r5_2, h.1.s5]
  unfold stX6_live_4 sX8_dayOn_s
  dsimp only
  refine ⟨?_, ?_⟩
  · rw [h4.1.x9]
    exact h4.put (k' := 62) PW.x9 (by omega)
  · rw [q4, e3, gu_ne (by omega)]
    grind
theorem DR.live (h : DR σ t τ nb nd kd ns nc) (d : Nat) : DR (sX6_live_s σ t d) t (sX8_daysOn_s τ d) nb nd kd ns nc ∧ sX6_live_r σ t d = (sX6_live_s σ t d).1 (t + 5) 5 - σ.1 (t + 5) 5 := by
  unfold sX6_live_s sX6_live_r sX8_daysOn_s
  refine itr_rel (fun (x : gS × Int32) y => DR x.1 t y nb nd kd ns nc ∧ x.2 = x.1.1 (t + 5) 5 - σ.1 (t + 5) 5) (stX6_live_4 t d) (stX8_daysOn_2 d) d ?_ (σ, (0 : Int32)) τ ⟨h, by simp⟩
  rintro j ⟨x1, x2⟩ y hj ⟨k1, k2⟩
  have k1 : DR x1 t y nb nd kd ns nc := k1
  have k2 : x2 = x1.1 (t + 5) 5 - σ.1 (t + 5) 5 := k2
  obtain ⟨q1, q2⟩ := k1.day d j x2
  have e : stX8_daysOn_2 d j y = sX8_dayOn_s y := rfl
  simp only [e]
  exact ⟨q1, i32_acc q2 k2⟩
end LV
