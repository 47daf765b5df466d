/-! the trial becomes the town: what lies there then -/
theorem itr_copy (f : Nat → gS → gS) (B A w : Nat) (h : ∀ j x, A + j < B → (∀ q, q < w → (f j x).1 (B + j) q = x.1 (A + j) q) ∧ ∀ k, k ≠ B + j → (f j x).1 k = x.1 k) : ∀ n x, A + n ≤ B → (∀ i q, i < n → q < w → (itr f n x).1 (B + i) q = x.1 (A + i) q) ∧ (∀ k, k < B ∨ B + n ≤ k → (itr f n x).1 k = x.1 k)
  | 0, x, _ => ⟨fun i q hi => absurd hi (Nat.not_lt_zero i), fun k _ => rfl⟩
  | n + 1, x, hn => by
    obtain ⟨a1, a2⟩ := itr_copy f B A w h n x (by omega)
    obtain ⟨b1, b2⟩ := h n (itr f n x) (by omega)
    refine ⟨fun i q hi hq => ?_, fun k hk => ?_⟩
    · show (f n (itr f n x)).1 (B + i) q = _
      by_cases c : i = n
      · subst c
        rw [b1 q hq, a2 (A + i) (by omega)]
      · rw [b2 (B + i) (by omega)]
        exact a1 i q (by omega) hq
    · show (f n (itr f n x)).1 k = _
      rw [b2 k (by omega)]
      exact a2 k (by omega)
theorem cp_37 (n : Nat) (x : gS) (hn : n ≤ 4) : (∀ i q, i < n → q < 3 → (itr stX6_become_37 n x).1 (35 + i) q = x.1 (7 + i) q) ∧ (∀ k, k < 35 ∨ 35 + n ≤ k → (itr stX6_become_37 n x).1 k = x.1 k) := itr_copy stX6_become_37 35 7 3 (fun j x hj => by
  unfold stX6_become_37 sX0_become_s
  dsimp only
  refine ⟨fun q hq => ?_, fun k hk => funext fun q => ?_⟩
  · rw [show 29 + 6 + j = 35 + j by omega, show 1 + 6 + j = 7 + j by omega]
    simp only [gu]
    grind
  · simp only [gu]
    grind) n x (by omega)
theorem cp_76 (n : Nat) (x : gS) (hn : n ≤ 4) : (∀ i q, i < n → q < 5 → (itr stX6_become_76 n x).1 (39 + i) q = x.1 (11 + i) q) ∧ (∀ k, k < 39 ∨ 39 + n ≤ k → (itr stX6_become_76 n x).1 k = x.1 k) := itr_copy stX6_become_76 39 11 5 (fun j x hj => by
  unfold stX6_become_76 sX2_become_s
  dsimp only
  refine ⟨fun q hq => ?_, fun k hk => funext fun q => ?_⟩
  · rw [show 29 + 10 + j = 39 + j by omega, show 1 + 10 + j = 11 + j by omega]
    simp only [gu]
    grind
  · simp only [gu]
    grind) n x (by omega)
theorem cp_115 (n : Nat) (x : gS) (hn : n ≤ 4) : (∀ i q, i < n → q < 5 → (itr stX6_become_115 n x).1 (43 + i) q = x.1 (15 + i) q) ∧ (∀ k, k < 43 ∨ 43 + n ≤ k → (itr stX6_become_115 n x).1 k = x.1 k) := itr_copy stX6_become_115 43 15 5 (fun j x hj => by
  unfold stX6_become_115 sX3_become_s
  dsimp only
  refine ⟨fun q hq => ?_, fun k hk => funext fun q => ?_⟩
  · rw [show 29 + 14 + j = 43 + j by omega, show 1 + 14 + j = 15 + j by omega]
    simp only [gu]
    grind
  · simp only [gu]
    grind) n x (by omega)
theorem cp_154 (n : Nat) (x : gS) (hn : n ≤ 10) : (∀ i q, i < n → q < 5 → (itr stX6_become_154 n x).1 (47 + i) q = x.1 (19 + i) q) ∧ (∀ k, k < 47 ∨ 47 + n ≤ k → (itr stX6_become_154 n x).1 k = x.1 k) := itr_copy stX6_become_154 47 19 5 (fun j x hj => by
  unfold stX6_become_154 sX1_become_s
  dsimp only
  refine ⟨fun q hq => ?_, fun k hk => funext fun q => ?_⟩
  · rw [show 29 + 18 + j = 47 + j by omega, show 1 + 18 + j = 19 + j by omega]
    simp only [gu]
    grind
  · simp only [gu]
    grind) n x (by omega)
/-- where the trial's numbers come from -/
theorem become_at {σ : gS} (h : tOK σ 1) : ((∀ q, 5 ≤ q → q ≤ 10 → (sX6_become_s σ).1 29 q = σ.1 1 q) ∧ (∀ q, q < 7 → (sX6_become_s σ).1 34 q = σ.1 6 q)) ∧
    (∀ i q, i < tB σ 1 5 → q < 3 → (sX6_become_s σ).1 (35 + i) q = σ.1 (7 + i) q) ∧ (∀ i q, i < tB σ 1 6 → q < 5 → (sX6_become_s σ).1 (39 + i) q = σ.1 (11 + i) q) ∧
    (∀ i q, i < tB σ 1 7 → q < 5 → (sX6_become_s σ).1 (43 + i) q = σ.1 (15 + i) q) ∧ (∀ i q, i < tB σ 1 8 → q < 5 → (sX6_become_s σ).1 (47 + i) q = σ.1 (19 + i) q) := by
  have l5 := h.le5
  have l6 := h.le6
  have l7 := h.le7
  have l8 := h.le8
  unfold sX6_become_s
  dsimp only
  generalize hS4 : gu (sX4_become_s (gu (gu σ 29 9 (σ.1 1 9)) 29 10 ((gu σ 29 9 (σ.1 1 9)).1 1 10)) 34 6) 29 5 ((sX4_become_s (gu (gu σ 29 9 (σ.1 1 9)) 29 10 ((gu σ 29 9 (σ.1 1 9)).1 1 10)) 34 6).1 1 5) = S4
  have f4 : ∀ k, k ≠ 29 → k ≠ 34 → S4.1 k = σ.1 k := fun k h1 h2 => by
    subst hS4
    unfold sX4_become_s
    dsimp only
    funext q
    simp only [gu]
    grind
  have g4 : (∀ q, q < 7 → S4.1 34 q = σ.1 6 q) ∧ S4.1 29 9 = σ.1 1 9 ∧ S4.1 29 10 = σ.1 1 10 ∧ S4.1 29 5 = σ.1 1 5 := by
    subst hS4
    unfold sX4_become_s
    dsimp only
    refine ⟨fun q hq => ?_, ?_, ?_, ?_⟩ <;> (simp only [gu]; grind)
  obtain ⟨a1, a2⟩ := cp_37 (tB σ 1 5) S4 l5
  generalize itr stX6_become_37 (tB σ 1 5) S4 = S5 at a1 a2 ⊢
  have a3 : ∀ k, k ≠ 29 → (gu S5 29 6 (S5.1 1 6)).1 k = S5.1 k := fun k hk => gu_ne hk
  have a4 : ∀ q, (gu S5 29 6 (S5.1 1 6)).1 29 q = if q = 6 then S5.1 1 6 else S5.1 29 q := fun q => gu_at q
  obtain ⟨b1, b2⟩ := cp_76 (tB σ 1 6) (gu S5 29 6 (S5.1 1 6)) l6
  generalize itr stX6_become_76 (tB σ 1 6) (gu S5 29 6 (S5.1 1 6)) = S7 at b1 b2 ⊢
  have b3 : ∀ k, k ≠ 29 → (gu S7 29 7 (S7.1 1 7)).1 k = S7.1 k := fun k hk => gu_ne hk
  have b4 : ∀ q, (gu S7 29 7 (S7.1 1 7)).1 29 q = if q = 7 then S7.1 1 7 else S7.1 29 q := fun q => gu_at q
  obtain ⟨c1, c2⟩ := cp_115 (tB σ 1 7) (gu S7 29 7 (S7.1 1 7)) l7
  generalize itr stX6_become_115 (tB σ 1 7) (gu S7 29 7 (S7.1 1 7)) = S9 at c1 c2 ⊢
  have c3 : ∀ k, k ≠ 29 → (gu S9 29 8 (S9.1 1 8)).1 k = S9.1 k := fun k hk => gu_ne hk
  have c4 : ∀ q, (gu S9 29 8 (S9.1 1 8)).1 29 q = if q = 8 then S9.1 1 8 else S9.1 29 q := fun q => gu_at q
  obtain ⟨d1, d2⟩ := cp_154 (tB σ 1 8) (gu S9 29 8 (S9.1 1 8)) l8
  generalize itr stX6_become_154 (tB σ 1 8) (gu S9 29 8 (S9.1 1 8)) = S11 at d1 d2 ⊢
  have e1 : ∀ k, k < 29 → S5.1 k = σ.1 k := fun k hk => (a2 k (by omega)).trans (f4 k (by omega) (by omega))
  have e2 : ∀ k, k < 29 → S7.1 k = σ.1 k := fun k hk => (b2 k (by omega)).trans ((a3 k (by omega)).trans (e1 k hk))
  have e3 : ∀ k, k < 29 → S9.1 k = σ.1 k := fun k hk => (c2 k (by omega)).trans ((b3 k (by omega)).trans (e2 k hk))
  refine ⟨⟨fun q h1 h2 => ?_, fun q hq => ?_⟩, fun i q hi hq => ?_, fun i q hi hq => ?_, fun i q hi hq => ?_, fun i q hi hq => ?_⟩
  · rw [d2 29 (by omega), c4, c2 29 (by omega), b4, b2 29 (by omega), a4, a2 29 (by omega), e3 1 (by omega), e2 1 (by omega), e1 1 (by omega)]
    obtain ⟨_, g1, g2, g3⟩ := g4
    rcases (show q = 5 ∨ q = 6 ∨ q = 7 ∨ q = 8 ∨ q = 9 ∨ q = 10 by omega) with rfl | rfl | rfl | rfl | rfl | rfl <;> simp [g1, g2, g3]
  · rw [d2 34 (by omega), c3 34 (by omega), c2 34 (by omega), b3 34 (by omega), b2 34 (by omega), a3 34 (by omega), a2 34 (by omega)]
    exact g4.1 q hq
  · rw [d2 (35 + i) (by omega), c3 (35 + i) (by omega), c2 (35 + i) (by omega), b3 (35 + i) (by omega), b2 (35 + i) (by omega), a3 (35 + i) (by omega), a1 i q hi hq, f4 (7 + i) (by omega) (by omega)]
  · rw [d2 (39 + i) (by omega), c3 (39 + i) (by omega), c2 (39 + i) (by omega), b3 (39 + i) (by omega), b1 i q hi hq, a3 (11 + i) (by omega), e1 (11 + i) (by omega)]
  · rw [d2 (43 + i) (by omega), c3 (43 + i) (by omega), c1 i q hi hq, b3 (15 + i) (by omega), e2 (15 + i) (by omega)]
  · rw [d1 i q hi hq, c3 (19 + i) (by omega), e3 (19 + i) (by omega)]
