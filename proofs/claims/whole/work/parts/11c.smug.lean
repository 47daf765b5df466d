theorem i32_pred {x : Int32} (h : 1 ≤ x) : (x - 1).toInt = x.toInt - 1 := by
  have h1 : (1 : Int) ≤ x.toInt := Int32.le_iff_toInt_le.mp h
  have h2 : x.toInt < 2 ^ 31 := x.toInt_lt
  rw [Int32.toInt_sub, Int.bmod_def]
  show (if (x.toInt - 1) % ((2 ^ 32 : Nat) : Int) < (((2 ^ 32 : Nat) : Int) + 1) / 2 then (x.toInt - 1) % ((2 ^ 32 : Nat) : Int) else (x.toInt - 1) % ((2 ^ 32 : Nat) : Int) - ((2 ^ 32 : Nat) : Int)) = _
  split <;> omega
theorem i32_pred0 {x : Int32} (h : 1 ≤ x) : (x - 1 ≤ 0) ↔ x - 1 = 0 := by
  have h1 : (1 : Int) ≤ x.toInt := Int32.le_iff_toInt_le.mp h
  have e := i32_pred h
  constructor
  · intro q
    have q : (x - 1).toInt ≤ 0 := Int32.le_iff_toInt_le.mp q
    exact Int32.toInt_inj.mp (by rw [show (0 : Int32).toInt = 0 from rfl]; omega)
  · intro q
    rw [q]
    exact Int32.le_refl _
section TR
variable {σ τ : gS}
theorem travel_A {k : Nat} {p : Int32} (h1 : σ.1 k 2 = 1) (h2 : σ.1 k 3 - 1 = σ.1 k 0 / 2) (h3 : ¬ p = 0) : sX3_travel_r σ k p = 0 ∧ sX3_travel_s σ k p = gu (gu (gu (gu σ k 3 (σ.1 k 3 - 1)) k 2 2) k 3 10) k 4 (σ.1 k 4 + 1) := by
  have e1 : ∀ j, j ≠ 3 → (gu σ k 3 (σ.1 k 3 - 1)).1 k j = σ.1 k j := fun j hj => by rw [gu_at, if_neg hj]
  have e2 : (gu σ k 3 (σ.1 k 3 - 1)).1 k 3 = σ.1 k 3 - 1 := by rw [gu_at, if_pos rfl]
  have e3 : (gu (gu (gu (gu σ k 3 (σ.1 k 3 - 1)) k 2 2) k 3 10) k 4 (σ.1 k 4 + 1)).1 k 3 = 10 := by rw [gu_at, if_neg (by decide), gu_at, if_pos rfl]
  have e4 : (gu (gu (gu σ k 3 (σ.1 k 3 - 1)) k 2 2) k 3 10).1 k 4 = σ.1 k 4 := by rw [gu_at, if_neg (by decide), gu_at, if_neg (by decide), gu_at, if_neg (by decide)]
  have n0 : ¬ σ.1 k 2 = 0 := by rw [h1]; decide
  unfold sX3_travel_r sX3_travel_s
  dsimp only
  rw [if_neg n0, if_neg n0, e1 2 (by decide), e1 0 (by decide), e2, if_pos h1, if_pos h1, if_pos h2, if_pos h2, if_neg h3, if_neg h3, e4, e3, if_neg (by decide), if_neg (by decide)]
  exact ⟨rfl, rfl⟩
theorem travel_B {k : Nat} {p : Int32} (h0 : ¬ σ.1 k 2 = 0) (h1 : ¬ (σ.1 k 2 = 1 ∧ σ.1 k 3 - 1 = σ.1 k 0 / 2 ∧ ¬ p = 0)) : sX3_travel_r σ k p = (if σ.1 k 3 - 1 ≤ 0 then (if σ.1 k 2 = 1 then σ.1 k 1 else 0) else 0) ∧ sX3_travel_s σ k p = (if σ.1 k 3 - 1 ≤ 0 then gu (gu σ k 3 (σ.1 k 3 - 1)) k 2 0 else gu σ k 3 (σ.1 k 3 - 1)) := by
  have e1 : ∀ j, j ≠ 3 → (gu σ k 3 (σ.1 k 3 - 1)).1 k j = σ.1 k j := fun j hj => by rw [gu_at, if_neg hj]
  have e2 : (gu σ k 3 (σ.1 k 3 - 1)).1 k 3 = σ.1 k 3 - 1 := by rw [gu_at, if_pos rfl]
  have ec : sX3_comeHome_s (gu σ k 3 (σ.1 k 3 - 1)) k = gu (gu σ k 3 (σ.1 k 3 - 1)) k 2 0 := by
    unfold sX3_comeHome_s
    split <;> rfl
  have er : sX3_comeHome_r (gu σ k 3 (σ.1 k 3 - 1)) k = if σ.1 k 2 = 1 then σ.1 k 1 else 0 := by
    unfold sX3_comeHome_r
    rw [e1 2 (by decide), e1 1 (by decide)]
  unfold sX3_travel_r sX3_travel_s
  dsimp only
  rw [if_neg h0, if_neg h0, e1 2 (by decide), e1 0 (by decide), e2, ec, er]
  by_cases c1 : σ.1 k 2 = 1
  · by_cases c2 : σ.1 k 3 - 1 = σ.1 k 0 / 2
    · have c3 : p = 0 := Decidable.byContradiction fun c3 => h1 ⟨c1, c2, c3⟩
      constructor <;> simp only [if_pos c1, if_pos c2, if_pos c3]
    · constructor <;> simp only [if_pos c1, if_neg c2]
  · constructor <;> simp only [if_neg c1]
theorem goOn_A {j : Nat} (h1 : τ.1 62 (30 + 3 * j) = 1) (h2 : τ.1 62 (30 + 3 * j + 1) - 1 = τ.1 60 (2 * j) / 2) (h3 : ¬ sX8_isPatrol_r τ (τ.1 62 0) = 0) : sX8_goOn_s τ j = gu (gu (gu τ 62 (30 + 3 * j) 2) 62 (30 + 3 * j + 1) 10) 62 (30 + 3 * j + 2) (τ.1 62 (30 + 3 * j + 2) + 1) := by
  have e4 : (gu (gu τ 62 (30 + 3 * j) 2) 62 (30 + 3 * j + 1) 10).1 62 (30 + 3 * j + 2) = τ.1 62 (30 + 3 * j + 2) := by rw [gu_at, if_neg (by omega), gu_at, if_neg (by omega)]
  unfold sX8_goOn_s sX8_sm_r sX8_letSmuggler_s
  dsimp only [Nat.add_zero]
  rw [if_pos h1, if_pos h2, if_neg h3, e4]
theorem goOn_B {j : Nat} (h1 : ¬ (τ.1 62 (30 + 3 * j) = 1 ∧ τ.1 62 (30 + 3 * j + 1) - 1 = τ.1 60 (2 * j) / 2 ∧ ¬ sX8_isPatrol_r τ (τ.1 62 0) = 0)) : sX8_goOn_s τ j = (if τ.1 62 (30 + 3 * j + 1) - 1 = 0 then (if τ.1 62 (30 + 3 * j) = 1 then gu (gu (gu τ 62 (30 + 3 * j) 0) 62 (30 + 3 * j + 1) (τ.1 62 (30 + 3 * j + 1) - 1)) 62 2 (τ.1 62 2 + τ.1 60 (2 * j + 1)) else gu (gu τ 62 (30 + 3 * j) 0) 62 (30 + 3 * j + 1) (τ.1 62 (30 + 3 * j + 1) - 1)) else gu (gu τ 62 (30 + 3 * j) (τ.1 62 (30 + 3 * j))) 62 (30 + 3 * j + 1) (τ.1 62 (30 + 3 * j + 1) - 1)) := by
  have e4 : ∀ a b : Int32, (gu (gu τ 62 (30 + 3 * j) a) 62 (30 + 3 * j + 1) b).1 62 2 = τ.1 62 2 := fun a b => by rw [gu_at, if_neg (by omega), gu_at, if_neg (by omega)]
  have e5 : ∀ a b : Int32, (gu (gu τ 62 (30 + 3 * j) a) 62 (30 + 3 * j + 1) b).1 60 = τ.1 60 := fun a b => by rw [gu_ne (by decide), gu_ne (by decide)]
  unfold sX8_goOn_s sX8_sm_r sX8_letSmuggler_s
  dsimp only [Nat.add_zero]
  simp only [e4, e5]
  by_cases c1 : τ.1 62 (30 + 3 * j) = 1
  · by_cases c2 : τ.1 62 (30 + 3 * j + 1) - 1 = τ.1 60 (2 * j) / 2
    · have c3 : sX8_isPatrol_r τ (τ.1 62 0) = 0 := Decidable.byContradiction fun c3 => h1 ⟨c1, c2, c3⟩
      simp only [if_pos c1, if_pos c2, if_pos c3]
      split <;> rfl
    · simp only [if_pos c1, if_neg c2]
      split <;> rfl
  · simp only [if_neg c1]
    split <;> rfl
variable {t nb nd kd ns nc : Nat}
theorem RE.patrol (h : RE σ t τ nb nd kd ns nc) (a : Int32) : sX6_patrolled_r σ t a = sX8_isPatrol_r τ a := by
  unfold sX6_patrolled_r sX8_isPatrol_r
  rw [h.x10]
theorem RE.smug (h : RE σ t τ nb nd kd ns nc) {j : Nat} (hj : j < ns) (hl : τ.1 62 (30 + 3 * j) = 0 ∨ 1 ≤ τ.1 62 (30 + 3 * j + 1)) : RE (stX6_travel_2 t j σ) t (stX8_dayOn_2 j τ) nb nd kd ns nc := by
  have hj4 : j < 4 := Nat.lt_of_lt_of_le hj h.1.2.2.1
  have eW := h.st j 0 hj (by omega)
  have eC := h.st j 1 hj (by omega)
  have e2 := h.sd j 0 hj (by omega)
  have e3 := h.sd j 1 hj (by omega)
  have e4 := h.sd j 2 hj (by omega)
  have eB := h.s1
  simp only [Nat.add_zero, Nat.reduceAdd] at eW eC e2 e3 e4
  have eP : sX6_patrolled_r σ t (σ.1 t 9) = sX8_isPatrol_r τ (τ.1 62 0) := by rw [h.x9]; exact h.patrol _
  have z : ∀ x : Int32, x + 0 = x := fun x => by simp
  have n1 : t + 14 + j ≠ t + 5 := by omega
  unfold stX6_travel_2 stX8_dayOn_2 sX8_sm_r sX4_add_s
  dsimp only [Nat.add_zero]
  rw [eP, if_neg (show ¬ ((1 : Int32) = 0) by decide)]
  by_cases c0 : τ.1 62 (30 + 3 * j) = 0
  · rw [if_pos c0]
    have a1 : sX3_travel_s σ (t + 14 + j) (sX8_isPatrol_r τ (τ.1 62 0)) = σ := by unfold sX3_travel_s; rw [e2, if_pos c0]
    have a2 : sX3_travel_r σ (t + 14 + j) (sX8_isPatrol_r τ (τ.1 62 0)) = 0 := by unfold sX3_travel_r; rw [e2, if_pos c0]
    rw [a1, a2, z]
    refine h.ext (fun k h1 h2 f => ?_) (fun k h1 h2 f h3 => rfl)
    simp only [gu]
    grind
  rw [if_neg c0]
  have hl := hl.resolve_left c0
  have hL := i32_pred0 hl
  have b0 : ¬ σ.1 (t + 14 + j) 2 = 0 := by rw [e2]; exact c0
  by_cases cA : τ.1 62 (30 + 3 * j) = 1 ∧ τ.1 62 (30 + 3 * j + 1) - 1 = τ.1 60 (2 * j) / 2 ∧ ¬ sX8_isPatrol_r τ (τ.1 62 0) = 0
  · obtain ⟨c1, c2, c3⟩ := cA
    obtain ⟨r1, r2⟩ := travel_A (σ := σ) (k := t + 14 + j) (p := sX8_isPatrol_r τ (τ.1 62 0)) (by rw [e2]; exact c1) (by rw [e3, eW]; exact c2) c3
    rw [r1, r2, goOn_A c1 c2 c3, z, e4]
    refine (((h.put (v := 2) (PW.sd hj4 (w := 0) (by omega))).put (v := 10) (PW.sd hj4 (w := 1) (by omega))).put (v := τ.1 62 (30 + 3 * j + 2) + 1) (PW.sd hj4 (w := 2) (by omega))).ext (fun k h1 h2 f => ?_) (fun k h1 h2 f h3 => rfl)
    simp only [gu]
    grind
  · have cA' : ¬ (σ.1 (t + 14 + j) 2 = 1 ∧ σ.1 (t + 14 + j) 3 - 1 = σ.1 (t + 14 + j) 0 / 2 ∧ ¬ sX8_isPatrol_r τ (τ.1 62 0) = 0) := by rw [e2, e3, eW]; exact cA
    obtain ⟨r1, r2⟩ := travel_B (σ := σ) (k := t + 14 + j) b0 cA'
    rw [r1, r2, goOn_B cA, e2, e3, eC]
    by_cases c5 : τ.1 62 (30 + 3 * j + 1) - 1 = 0
    · have c6 := hL.mpr c5
      simp only [if_pos c5, if_pos c6]
      have key := fun v : Int32 => (((h.put (v := 0) (PW.sd hj4 (w := 0) (by omega))).put (v := τ.1 62 (30 + 3 * j + 1) - 1) (PW.sd hj4 (w := 1) (by omega))).put (v := v) PW.s1)
      by_cases c1 : τ.1 62 (30 + 3 * j) = 1
      · simp only [if_pos c1]
        refine (key (τ.1 62 2 + τ.1 60 (2 * j + 1))).ext (fun k h1 h2 f => ?_) (fun k h1 h2 f h3 => rfl)
        simp only [gu]
        grind
      · simp only [if_neg c1, z]
        refine (key (τ.1 62 2)).ext (fun k h1 h2 f => ?_) (fun k h1 h2 f h3 => ?_)
        · simp only [gu]
          grind
        · simp only [gu]
          grind
    · have c6 : ¬ (τ.1 62 (30 + 3 * j + 1) - 1 ≤ 0) := fun q => c5 (hL.mp q)
      simp only [if_neg c5, if_neg c6, z]
      refine (h.put (v := τ.1 62 (30 + 3 * j + 1) - 1) (PW.sd hj4 (w := 1) (by omega))).ext (fun k h1 h2 f => ?_) (fun k h1 h2 f h3 => ?_)
      · simp only [gu]
        grind
      · simp only [gu]
        grind
end TR
