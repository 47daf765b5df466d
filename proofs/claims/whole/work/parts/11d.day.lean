/-! numbers that a day keeps within bounds -/
def NI (τ : gS) : Prop := (∀ s, s < 4 → τ.1 62 (30 + 3 * s) = 0 ∨ 1 ≤ τ.1 62 (30 + 3 * s + 1)) ∧ (∀ d, d < 4 → τ.1 62 (14 + 4 * d + 1) = -1 → τ.1 62 (14 + 4 * d + 3) = 0) ∧
  (∀ d, d < 4 → (0 ≤ τ.1 62 (14 + 4 * d) ∧ τ.1 62 (14 + 4 * d) ≤ 9) ∧ (0 ≤ τ.1 62 (14 + 4 * d + 3) ∧ τ.1 62 (14 + 4 * d + 3) ≤ 24))
theorem NI.of {τ τ' : gS} (h : NI τ) (e : ∀ i, 14 ≤ i → i < 42 → τ'.1 62 i = τ.1 62 i) : NI τ' := by
  refine ⟨fun s hs => ?_, fun d hd => ?_, fun d hd => ?_⟩
  · rw [e _ (by omega) (by omega), e _ (by omega) (by omega)]
    exact h.1 s hs
  · rw [e _ (by omega) (by omega), e _ (by omega) (by omega)]
    exact h.2.1 d hd
  · rw [e _ (by omega) (by omega), e _ (by omega) (by omega)]
    exact h.2.2 d hd
theorem i32_pos {x : Int32} (h : 1 ≤ x) (h2 : ¬ x - 1 = 0) : 1 ≤ x - 1 := by
  have h1 : (1 : Int) ≤ x.toInt := Int32.le_iff_toInt_le.mp h
  have e := i32_pred h
  have n : ¬ (x - 1).toInt = 0 := fun q => h2 (Int32.toInt_inj.mp q)
  exact Int32.le_iff_toInt_le.mpr (by rw [show (1 : Int32).toInt = 1 from rfl]; omega)
theorem i32_warm {l h b : Int32} (h1 : 0 ≤ l) (h2 : l ≤ 24) (h3 : 0 ≤ h) (h4 : h ≤ 9) (hb : b = 24 ∨ b = 15) : 0 ≤ gmin b (l + h) ∧ gmin b (l + h) ≤ 24 := by
  have q1 : (0 : Int) ≤ l.toInt := Int32.le_iff_toInt_le.mp h1
  have q2 : l.toInt ≤ 24 := Int32.le_iff_toInt_le.mp h2
  have q3 : (0 : Int) ≤ h.toInt := Int32.le_iff_toInt_le.mp h3
  have q4 : h.toInt ≤ 9 := Int32.le_iff_toInt_le.mp h4
  have e : (l + h).toInt = l.toInt + h.toInt := by
    rw [Int32.toInt_add, Int.bmod_def]
    show (if (l.toInt + h.toInt) % ((2 ^ 32 : Nat) : Int) < (((2 ^ 32 : Nat) : Int) + 1) / 2 then (l.toInt + h.toInt) % ((2 ^ 32 : Nat) : Int) else (l.toInt + h.toInt) % ((2 ^ 32 : Nat) : Int) - ((2 ^ 32 : Nat) : Int)) = _
    split <;> omega
  have z0 : (0 : Int32).toInt = 0 := rfl
  have z24 : (24 : Int32).toInt = 24 := rfl
  have z15 : (15 : Int32).toInt = 15 := rfl
  unfold gmin
  simp only [Int32.le_iff_toInt_le, Int32.lt_iff_toInt_lt] at *
  rcases hb with rfl | rfl
  · split <;> constructor <;> omega
  · split <;> constructor <;> omega
section DD
variable {σ τ : gS} {t nb nd kd ns nc : Nat}
theorem NI.goOn {j : Nat} (hj : j < 4) (h : NI τ) : NI (stX8_dayOn_2 j τ) := by
  unfold stX8_dayOn_2 sX8_sm_r
  dsimp only [Nat.add_zero]
  by_cases c0 : τ.1 62 (30 + 3 * j) = 0
  · rw [if_pos c0]
    exact h
  rw [if_neg c0]
  have hl := (h.1 j hj).resolve_left c0
  by_cases cA : τ.1 62 (30 + 3 * j) = 1 ∧ τ.1 62 (30 + 3 * j + 1) - 1 = τ.1 60 (2 * j) / 2 ∧ ¬ sX8_isPatrol_r τ (τ.1 62 0) = 0
  · rw [goOn_A cA.1 cA.2.1 cA.2.2]
    refine ⟨fun s hs => ?_, fun d hd => ?_, fun d hd => ?_⟩
    · have := h.1 s hs
      by_cases q : s = j
      · subst q
        right
        rw [gu_at, if_neg (by omega), gu_at, if_pos rfl]
        decide
      · simp only [gu]
        grind
    · have := h.2.1 d hd
      simp only [gu]
      grind
    · have := h.2.2 d hd
      simp only [gu]
      grind
  · rw [goOn_B cA]
    have hp := i32_pos hl
    generalize τ.1 62 (30 + 3 * j + 1) - 1 = L at hp
    refine ⟨fun s hs => ?_, fun d hd => ?_, fun d hd => ?_⟩
    · have := h.1 s hs
      split
      · split <;> (simp only [gu]; grind)
      · simp only [gu]
        grind
    · have := h.2.1 d hd
      split
      · split <;> (simp only [gu]; grind)
      · simp only [gu]
        grind
    · have := h.2.2 d hd
      split
      · split <;> (simp only [gu]; grind)
      · simp only [gu]
        grind
theorem NI.drum {j : Nat} (hj : j < 4) (h : NI τ) : NI (stX8_dayOn_32 j τ) := by
  unfold stX8_dayOn_32 sX8_dr_r sX8_letDrum_s
  dsimp only [Nat.add_zero]
  by_cases c0 : τ.1 62 (14 + 4 * j + 1) = -1
  · rw [if_pos c0]
    exact h
  rw [if_neg c0]
  have hw := h.2.2 j hj
  have hg := i32_warm hw.2.1 hw.2.2 hw.1.1 hw.1.2 (b := if (τ.1 62 (14 + 4 * j + 1)).toNatClampNeg = 0 then 24 else 15) (by split <;> simp)
  generalize gmin (if (τ.1 62 (14 + 4 * j + 1)).toNatClampNeg = 0 then 24 else 15) (τ.1 62 (14 + 4 * j + 3) + τ.1 62 (14 + 4 * j)) = g at hg
  refine ⟨fun s hs => ?_, fun d hd => ?_, fun d hd => ?_⟩
  · have := h.1 s hs
    simp only [gu]
    grind
  · have := h.2.1 d hd
    simp only [gu]
    grind
  · have := h.2.2 d hd
    simp only [gu]
    grind
theorem NI.bed {j : Nat} (hj : j < 4) (h : NI τ) : NI (stX8_dayOn_90 j τ) := by
  refine h.of (fun i h1 h2 => ?_)
  unfold stX8_dayOn_90
  dsimp only
  rw [gu_at, if_neg (by omega)]
theorem serve_at {j i : Nat} (h1 : 7 ≤ i) (h2 : i < 42) : (sX8_serve_s τ j).1 62 i = τ.1 62 i := by
  unfold sX8_serve_s sX8_moreCard_s
  dsimp only
  repeat' split
  all_goals first | rfl | (simp only [gu]; try grind)
theorem card_at {j i : Nat} (h1 : 7 ≤ i) (h2 : i < 42) : (stX8_dayOn_146 j τ).1 62 i = τ.1 62 i := by
  unfold stX8_dayOn_146
  dsimp only
  repeat' split
  all_goals (simp only [serve_at h1 h2, gu]; try grind)
theorem NI.card {j : Nat} (h : NI τ) : NI (stX8_dayOn_146 j τ) := h.of (fun i h1 h2 => card_at (by omega) h2)
end DD
