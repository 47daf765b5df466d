/-! the class's town at base t and the reference's rows hold the same numbers -/
theorem gu_pair {σ τ : gS} {k j k' j' a b a' b' : Nat} {v : Int32} (hi : (a = k ∧ b = j) ↔ (a' = k' ∧ b' = j')) (h : σ.1 a b = τ.1 a' b') : (gu σ k j v).1 a b = (gu τ k' j' v).1 a' b' := by
  simp only [gu]
  by_cases q : a = k ∧ b = j
  · rw [if_pos q, if_pos (hi.mp q)]
  · rw [if_neg q, if_neg (fun z => q (hi.mpr z))]
    exact h
def RE (σ : gS) (t : Nat) (τ : gS) (nb nd kd ns nc : Nat) : Prop :=
  (nb ≤ 4 ∧ nd ≤ 4 ∧ ns ≤ 4 ∧ nc ≤ 10) ∧ (∀ q, 1 ≤ q → q ≤ 4 → σ.1 (t) (4 + q) = τ.1 57 (q)) ∧ (σ.1 (t) (9) = τ.1 62 (0)) ∧ (σ.1 (t) (10) = τ.1 62 (8)) ∧ (σ.1 (t + 5) (0) = τ.1 62 (1)) ∧ (σ.1 (t + 5) (1) = τ.1 62 (2)) ∧ (σ.1 (t + 5) (2) = τ.1 62 (3)) ∧ (σ.1 (t + 5) (3) = τ.1 62 (4)) ∧ (σ.1 (t + 5) (4) = τ.1 62 (7)) ∧ (σ.1 (t + 5) (5) = τ.1 62 (5)) ∧ (σ.1 (t + 5) (6) = τ.1 62 (6)) ∧ (∀ i w, i < nb → w < 2 → σ.1 (t + 6 + i) (w) = τ.1 58 (2 * i + w)) ∧ (∀ i, i < nb → σ.1 (t + 6 + i) (2) = τ.1 62 (10 + i)) ∧ (∀ i, i < nd → σ.1 (t + 10 + i) (0) = τ.1 59 (i)) ∧ (∀ i w, i < nd → w < 4 → (w = 1 → i < kd) → σ.1 (t + 10 + i) (1 + w) = τ.1 62 (14 + 4 * i + w)) ∧ (∀ i w, i < ns → w < 2 → σ.1 (t + 14 + i) (w) = τ.1 60 (2 * i + w)) ∧ (∀ i w, i < ns → w < 3 → σ.1 (t + 14 + i) (2 + w) = τ.1 62 (30 + 3 * i + w)) ∧ (∀ i w, i < nc → w < 2 → σ.1 (t + 18 + i) (w) = τ.1 61 (2 * i + w)) ∧ (∀ i w, i < nc → w < 3 → σ.1 (t + 18 + i) (2 + w) = τ.1 62 (42 + 3 * i + w))
/-- a pair of cells that belong together -/
def PW (t k j k' j' : Nat) : Prop :=
  True ∧ (∀ q, 1 ≤ q → q ≤ 4 → ((t = k ∧ 4 + q = j) ↔ (57 = k' ∧ q = j'))) ∧ (((t = k ∧ 9 = j) ↔ (62 = k' ∧ 0 = j'))) ∧ (((t = k ∧ 10 = j) ↔ (62 = k' ∧ 8 = j'))) ∧ (((t + 5 = k ∧ 0 = j) ↔ (62 = k' ∧ 1 = j'))) ∧ (((t + 5 = k ∧ 1 = j) ↔ (62 = k' ∧ 2 = j'))) ∧ (((t + 5 = k ∧ 2 = j) ↔ (62 = k' ∧ 3 = j'))) ∧ (((t + 5 = k ∧ 3 = j) ↔ (62 = k' ∧ 4 = j'))) ∧ (((t + 5 = k ∧ 4 = j) ↔ (62 = k' ∧ 7 = j'))) ∧ (((t + 5 = k ∧ 5 = j) ↔ (62 = k' ∧ 5 = j'))) ∧ (((t + 5 = k ∧ 6 = j) ↔ (62 = k' ∧ 6 = j'))) ∧ (∀ i w, i < 4 → w < 2 → ((t + 6 + i = k ∧ w = j) ↔ (58 = k' ∧ 2 * i + w = j'))) ∧ (∀ i, i < 4 → ((t + 6 + i = k ∧ 2 = j) ↔ (62 = k' ∧ 10 + i = j'))) ∧ (∀ i, i < 4 → ((t + 10 + i = k ∧ 0 = j) ↔ (59 = k' ∧ i = j'))) ∧ (∀ i w, i < 4 → w < 4 → ((t + 10 + i = k ∧ 1 + w = j) ↔ (62 = k' ∧ 14 + 4 * i + w = j'))) ∧ (∀ i w, i < 4 → w < 2 → ((t + 14 + i = k ∧ w = j) ↔ (60 = k' ∧ 2 * i + w = j'))) ∧ (∀ i w, i < 4 → w < 3 → ((t + 14 + i = k ∧ 2 + w = j) ↔ (62 = k' ∧ 30 + 3 * i + w = j'))) ∧ (∀ i w, i < 10 → w < 2 → ((t + 18 + i = k ∧ w = j) ↔ (61 = k' ∧ 2 * i + w = j'))) ∧ (∀ i w, i < 10 → w < 3 → ((t + 18 + i = k ∧ 2 + w = j) ↔ (62 = k' ∧ 42 + 3 * i + w = j')))
section RE
variable {σ τ σ2 τ2 : gS} {t nb nd kd ns nc : Nat}
theorem RE.cnt (h : RE σ t τ nb nd kd ns nc) (q : Nat) (h0 : 1 ≤ q) (h1 : q ≤ 4) : σ.1 (t) (4 + q) = τ.1 57 (q) := h.2.1 q h0 h1
theorem RE.x9 (h : RE σ t τ nb nd kd ns nc) : σ.1 (t) (9) = τ.1 62 (0) := h.2.2.1
theorem RE.x10 (h : RE σ t τ nb nd kd ns nc) : σ.1 (t) (10) = τ.1 62 (8) := h.2.2.2.1
theorem RE.s0 (h : RE σ t τ nb nd kd ns nc) : σ.1 (t + 5) (0) = τ.1 62 (1) := h.2.2.2.2.1
theorem RE.s1 (h : RE σ t τ nb nd kd ns nc) : σ.1 (t + 5) (1) = τ.1 62 (2) := h.2.2.2.2.2.1
theorem RE.s2 (h : RE σ t τ nb nd kd ns nc) : σ.1 (t + 5) (2) = τ.1 62 (3) := h.2.2.2.2.2.2.1
theorem RE.s3 (h : RE σ t τ nb nd kd ns nc) : σ.1 (t + 5) (3) = τ.1 62 (4) := h.2.2.2.2.2.2.2.1
theorem RE.s4 (h : RE σ t τ nb nd kd ns nc) : σ.1 (t + 5) (4) = τ.1 62 (7) := h.2.2.2.2.2.2.2.2.1
theorem RE.s5 (h : RE σ t τ nb nd kd ns nc) : σ.1 (t + 5) (5) = τ.1 62 (5) := h.2.2.2.2.2.2.2.2.2.1
theorem RE.s6 (h : RE σ t τ nb nd kd ns nc) : σ.1 (t + 5) (6) = τ.1 62 (6) := h.2.2.2.2.2.2.2.2.2.2.1
theorem RE.bt (h : RE σ t τ nb nd kd ns nc) (i : Nat) (w : Nat) (h0 : i < nb) (h1 : w < 2) : σ.1 (t + 6 + i) (w) = τ.1 58 (2 * i + w) := h.2.2.2.2.2.2.2.2.2.2.2.1 i w h0 h1
theorem RE.b2 (h : RE σ t τ nb nd kd ns nc) (i : Nat) (h0 : i < nb) : σ.1 (t + 6 + i) (2) = τ.1 62 (10 + i) := h.2.2.2.2.2.2.2.2.2.2.2.2.1 i h0
theorem RE.d0 (h : RE σ t τ nb nd kd ns nc) (i : Nat) (h0 : i < nd) : σ.1 (t + 10 + i) (0) = τ.1 59 (i) := h.2.2.2.2.2.2.2.2.2.2.2.2.2.1 i h0
theorem RE.dd (h : RE σ t τ nb nd kd ns nc) (i : Nat) (w : Nat) (h0 : i < nd) (h1 : w < 4) (h2 : (w = 1 → i < kd)) : σ.1 (t + 10 + i) (1 + w) = τ.1 62 (14 + 4 * i + w) := h.2.2.2.2.2.2.2.2.2.2.2.2.2.2.1 i w h0 h1 h2
theorem RE.st (h : RE σ t τ nb nd kd ns nc) (i : Nat) (w : Nat) (h0 : i < ns) (h1 : w < 2) : σ.1 (t + 14 + i) (w) = τ.1 60 (2 * i + w) := h.2.2.2.2.2.2.2.2.2.2.2.2.2.2.2.1 i w h0 h1
theorem RE.sd (h : RE σ t τ nb nd kd ns nc) (i : Nat) (w : Nat) (h0 : i < ns) (h1 : w < 3) : σ.1 (t + 14 + i) (2 + w) = τ.1 62 (30 + 3 * i + w) := h.2.2.2.2.2.2.2.2.2.2.2.2.2.2.2.2.1 i w h0 h1
theorem RE.ct (h : RE σ t τ nb nd kd ns nc) (i : Nat) (w : Nat) (h0 : i < nc) (h1 : w < 2) : σ.1 (t + 18 + i) (w) = τ.1 61 (2 * i + w) := h.2.2.2.2.2.2.2.2.2.2.2.2.2.2.2.2.2.1 i w h0 h1
theorem RE.cd (h : RE σ t τ nb nd kd ns nc) (i : Nat) (w : Nat) (h0 : i < nc) (h1 : w < 3) : σ.1 (t + 18 + i) (2 + w) = τ.1 62 (42 + 3 * i + w) := h.2.2.2.2.2.2.2.2.2.2.2.2.2.2.2.2.2.2 i w h0 h1
theorem RE.put {k j k' j' : Nat} {v : Int32} (h : RE σ t τ nb nd kd ns nc) (p : PW t k j k' j') : RE (gu σ k j v) t (gu τ k' j' v) nb nd kd ns nc := by
  obtain ⟨⟨z1, z2, z3, z4⟩, _⟩ := id h
  exact ⟨h.1, fun q h0 h1 => gu_pair (p.2.1 q (by omega) (by omega)) (h.2.1 q h0 h1), gu_pair (p.2.2.1) (h.2.2.1), gu_pair (p.2.2.2.1) (h.2.2.2.1), gu_pair (p.2.2.2.2.1) (h.2.2.2.2.1), gu_pair (p.2.2.2.2.2.1) (h.2.2.2.2.2.1), gu_pair (p.2.2.2.2.2.2.1) (h.2.2.2.2.2.2.1), gu_pair (p.2.2.2.2.2.2.2.1) (h.2.2.2.2.2.2.2.1), gu_pair (p.2.2.2.2.2.2.2.2.1) (h.2.2.2.2.2.2.2.2.1), gu_pair (p.2.2.2.2.2.2.2.2.2.1) (h.2.2.2.2.2.2.2.2.2.1), gu_pair (p.2.2.2.2.2.2.2.2.2.2.1) (h.2.2.2.2.2.2.2.2.2.2.1), fun i w h0 h1 => gu_pair (p.2.2.2.2.2.2.2.2.2.2.2.1 i w (by omega) (by omega)) (h.2.2.2.2.2.2.2.2.2.2.2.1 i w h0 h1), fun i h0 => gu_pair (p.2.2.2.2.2.2.2.2.2.2.2.2.1 i (by omega)) (h.2.2.2.2.2.2.2.2.2.2.2.2.1 i h0), fun i h0 => gu_pair (p.2.2.2.2.2.2.2.2.2.2.2.2.2.1 i (by omega)) (h.2.2.2.2.2.2.2.2.2.2.2.2.2.1 i h0), fun i w h0 h1 h2 => gu_pair (p.2.2.2.2.2.2.2.2.2.2.2.2.2.2.1 i w (by omega) (by omega)) (h.2.2.2.2.2.2.2.2.2.2.2.2.2.2.1 i w h0 h1 h2), fun i w h0 h1 => gu_pair (p.2.2.2.2.2.2.2.2.2.2.2.2.2.2.2.1 i w (by omega) (by omega)) (h.2.2.2.2.2.2.2.2.2.2.2.2.2.2.2.1 i w h0 h1), fun i w h0 h1 => gu_pair (p.2.2.2.2.2.2.2.2.2.2.2.2.2.2.2.2.1 i w (by omega) (by omega)) (h.2.2.2.2.2.2.2.2.2.2.2.2.2.2.2.2.1 i w h0 h1), fun i w h0 h1 => gu_pair (p.2.2.2.2.2.2.2.2.2.2.2.2.2.2.2.2.2.1 i w (by omega) (by omega)) (h.2.2.2.2.2.2.2.2.2.2.2.2.2.2.2.2.2.1 i w h0 h1), fun i w h0 h1 => gu_pair (p.2.2.2.2.2.2.2.2.2.2.2.2.2.2.2.2.2.2 i w (by omega) (by omega)) (h.2.2.2.2.2.2.2.2.2.2.2.2.2.2.2.2.2.2 i w h0 h1)⟩
theorem RE.ext (h : RE σ t τ nb nd kd ns nc) (e1 : ∀ k, t ≤ k → k < t + 28 → ∀ f, σ2.1 k f = σ.1 k f) (e2 : ∀ k, 57 ≤ k → k ≤ 62 → ∀ f, (k = 57 → 1 ≤ f ∧ f ≤ 4) → τ2.1 k f = τ.1 k f) : RE σ2 t τ2 nb nd kd ns nc := by
  obtain ⟨⟨z1, z2, z3, z4⟩, _⟩ := id h
  exact ⟨h.1, fun q h0 h1 => (e1 _ (by omega) (by omega) _).trans ((h.2.1 q h0 h1).trans (e2 _ (by omega) (by omega) _ (by omega)).symm), (e1 _ (by omega) (by omega) _).trans ((h.2.2.1).trans (e2 _ (by omega) (by omega) _ (by omega)).symm), (e1 _ (by omega) (by omega) _).trans ((h.2.2.2.1).trans (e2 _ (by omega) (by omega) _ (by omega)).symm), (e1 _ (by omega) (by omega) _).trans ((h.2.2.2.2.1).trans (e2 _ (by omega) (by omega) _ (by omega)).symm), (e1 _ (by omega) (by omega) _).trans ((h.2.2.2.2.2.1).trans (e2 _ (by omega) (by omega) _ (by omega)).symm), (e1 _ (by omega) (by omega) _).trans ((h.2.2.2.2.2.2.1).trans (e2 _ (by omega) (by omega) _ (by omega)).symm), (e1 _ (by omega) (by omega) _).trans ((h.2.2.2.2.2.2.2.1).trans (e2 _ (by omega) (by omega) _ (by omega)).symm), (e1 _ (by omega) (by omega) _).trans ((h.2.2.2.2.2.2.2.2.1).trans (e2 _ (by omega) (by omega) _ (by omega)).symm), (e1 _ (by omega) (by omega) _).trans ((h.2.2.2.2.2.2.2.2.2.1).trans (e2 _ (by omega) (by omega) _ (by omega)).symm), (e1 _ (by omega) (by omega) _).trans ((h.2.2.2.2.2.2.2.2.2.2.1).trans (e2 _ (by omega) (by omega) _ (by omega)).symm), fun i w h0 h1 => (e1 _ (by omega) (by omega) _).trans ((h.2.2.2.2.2.2.2.2.2.2.2.1 i w h0 h1).trans (e2 _ (by omega) (by omega) _ (by omega)).symm), fun i h0 => (e1 _ (by omega) (by omega) _).trans ((h.2.2.2.2.2.2.2.2.2.2.2.2.1 i h0).trans (e2 _ (by omega) (by omega) _ (by omega)).symm), fun i h0 => (e1 _ (by omega) (by omega) _).trans ((h.2.2.2.2.2.2.2.2.2.2.2.2.2.1 i h0).trans (e2 _ (by omega) (by omega) _ (by omega)).symm), fun i w h0 h1 h2 => (e1 _ (by omega) (by omega) _).trans ((h.2.2.2.2.2.2.2.2.2.2.2.2.2.2.1 i w h0 h1 h2).trans (e2 _ (by omega) (by omega) _ (by omega)).symm), fun i w h0 h1 => (e1 _ (by omega) (by omega) _).trans ((h.2.2.2.2.2.2.2.2.2.2.2.2.2.2.2.1 i w h0 h1).trans (e2 _ (by omega) (by omega) _ (by omega)).symm), fun i w h0 h1 => (e1 _ (by omega) (by omega) _).trans ((h.2.2.2.2.2.2.2.2.2.2.2.2.2.2.2.2.1 i w h0 h1).trans (e2 _ (by omega) (by omega) _ (by omega)).symm), fun i w h0 h1 => (e1 _ (by omega) (by omega) _).trans ((h.2.2.2.2.2.2.2.2.2.2.2.2.2.2.2.2.2.1 i w h0 h1).trans (e2 _ (by omega) (by omega) _ (by omega)).symm), fun i w h0 h1 => (e1 _ (by omega) (by omega) _).trans ((h.2.2.2.2.2.2.2.2.2.2.2.2.2.2.2.2.2.2 i w h0 h1).trans (e2 _ (by omega) (by omega) _ (by omega)).symm)⟩
theorem PW.x9 {t : Nat}  : PW t (t) (9) 62 (0) := by
  unfold PW
  refine ⟨trivial, ?_, ?_, ?_, ?_, ?_, ?_, ?_, ?_, ?_, ?_, ?_, ?_, ?_, ?_, ?_, ?_, ?_, ?_⟩ <;> intros <;> omega
theorem PW.x10 {t : Nat}  : PW t (t) (10) 62 (8) := by
  unfold PW
  refine ⟨trivial, ?_, ?_, ?_, ?_, ?_, ?_, ?_, ?_, ?_, ?_, ?_, ?_, ?_, ?_, ?_, ?_, ?_, ?_⟩ <;> intros <;> omega
theorem PW.s0 {t : Nat}  : PW t (t + 5) (0) 62 (1) := by
  unfold PW
  refine ⟨trivial, ?_, ?_, ?_, ?_, ?_, ?_, ?_, ?_, ?_, ?_, ?_, ?_, ?_, ?_, ?_, ?_, ?_, ?_⟩ <;> intros <;> omega
theorem PW.s1 {t : Nat}  : PW t (t + 5) (1) 62 (2) := by
  unfold PW
  refine ⟨trivial, ?_, ?_, ?_, ?_, ?_, ?_, ?_, ?_, ?_, ?_, ?_, ?_, ?_, ?_, ?_, ?_, ?_, ?_⟩ <;> intros <;> omega
theorem PW.s2 {t : Nat}  : PW t (t + 5) (2) 62 (3) := by
  unfold PW
  refine ⟨trivial, ?_, ?_, ?_, ?_, ?_, ?_, ?_, ?_, ?_, ?_, ?_, ?_, ?_, ?_, ?_, ?_, ?_, ?_⟩ <;> intros <;> omega
theorem PW.s3 {t : Nat}  : PW t (t + 5) (3) 62 (4) := by
  unfold PW
  refine ⟨trivial, ?_, ?_, ?_, ?_, ?_, ?_, ?_, ?_, ?_, ?_, ?_, ?_, ?_, ?_, ?_, ?_, ?_, ?_⟩ <;> intros <;> omega
theorem PW.s4 {t : Nat}  : PW t (t + 5) (4) 62 (7) := by
  unfold PW
  refine ⟨trivial, ?_, ?_, ?_, ?_, ?_, ?_, ?_, ?_, ?_, ?_, ?_, ?_, ?_, ?_, ?_, ?_, ?_, ?_⟩ <;> intros <;> omega
theorem PW.s5 {t : Nat}  : PW t (t + 5) (5) 62 (5) := by
  unfold PW
  refine ⟨trivial, ?_, ?_, ?_, ?_, ?_, ?_, ?_, ?_, ?_, ?_, ?_, ?_, ?_, ?_, ?_, ?_, ?_, ?_⟩ <;> intros <;> omega
theorem PW.s6 {t : Nat}  : PW t (t + 5) (6) 62 (6) := by
  unfold PW
  refine ⟨trivial, ?_, ?_, ?_, ?_, ?_, ?_, ?_, ?_, ?_, ?_, ?_, ?_, ?_, ?_, ?_, ?_, ?_, ?_⟩ <;> intros <;> omega
theorem PW.cnt {t : Nat} {q : Nat} (h1 : 1 ≤ q) (h2 : q ≤ 4) : PW t (t) (4 + q) 57 (q) := by
  unfold PW
  refine ⟨trivial, ?_, ?_, ?_, ?_, ?_, ?_, ?_, ?_, ?_, ?_, ?_, ?_, ?_, ?_, ?_, ?_, ?_, ?_⟩ <;> intros <;> omega
theorem PW.bt {t : Nat} {i w : Nat} (h1 : i < 4) (h2 : w < 2) : PW t (t + 6 + i) (w) 58 (2 * i + w) := by
  unfold PW
  refine ⟨trivial, ?_, ?_, ?_, ?_, ?_, ?_, ?_, ?_, ?_, ?_, ?_, ?_, ?_, ?_, ?_, ?_, ?_, ?_⟩ <;> intros <;> omega
theorem PW.b2 {t : Nat} {i : Nat} (h1 : i < 4) : PW t (t + 6 + i) (2) 62 (10 + i) := by
  unfold PW
  refine ⟨trivial, ?_, ?_, ?_, ?_, ?_, ?_, ?_, ?_, ?_, ?_, ?_, ?_, ?_, ?_, ?_, ?_, ?_, ?_⟩ <;> intros <;> omega
theorem PW.d0 {t : Nat} {i : Nat} (h1 : i < 4) : PW t (t + 10 + i) (0) 59 (i) := by
  unfold PW
  refine ⟨trivial, ?_, ?_, ?_, ?_, ?_, ?_, ?_, ?_, ?_, ?_, ?_, ?_, ?_, ?_, ?_, ?_, ?_, ?_⟩ <;> intros <;> omega
theorem PW.dd {t : Nat} {i w : Nat} (h1 : i < 4) (h2 : w < 4) : PW t (t + 10 + i) (1 + w) 62 (14 + 4 * i + w) := by
  unfold PW
  refine ⟨trivial, ?_, ?_, ?_, ?_, ?_, ?_, ?_, ?_, ?_, ?_, ?_, ?_, ?_, ?_, ?_, ?_, ?_, ?_⟩ <;> intros <;> omega
theorem PW.st {t : Nat} {i w : Nat} (h1 : i < 4) (h2 : w < 2) : PW t (t + 14 + i) (w) 60 (2 * i + w) := by
  unfold PW
  refine ⟨trivial, ?_, ?_, ?_, ?_, ?_, ?_, ?_, ?_, ?_, ?_, ?_, ?_, ?_, ?_, ?_, ?_, ?_, ?_⟩ <;> intros <;> omega
theorem PW.sd {t : Nat} {i w : Nat} (h1 : i < 4) (h2 : w < 3) : PW t (t + 14 + i) (2 + w) 62 (30 + 3 * i + w) := by
  unfold PW
  refine ⟨trivial, ?_, ?_, ?_, ?_, ?_, ?_, ?_, ?_, ?_, ?_, ?_, ?_, ?_, ?_, ?_, ?_, ?_, ?_⟩ <;> intros <;> omega
theorem PW.ct {t : Nat} {i w : Nat} (h1 : i < 10) (h2 : w < 2) : PW t (t + 18 + i) (w) 61 (2 * i + w) := by
  unfold PW
  refine ⟨trivial, ?_, ?_, ?_, ?_, ?_, ?_, ?_, ?_, ?_, ?_, ?_, ?_, ?_, ?_, ?_, ?_, ?_, ?_⟩ <;> intros <;> omega
theorem PW.cd {t : Nat} {i w : Nat} (h1 : i < 10) (h2 : w < 3) : PW t (t + 18 + i) (2 + w) 62 (42 + 3 * i + w) := by
  unfold PW
  refine ⟨trivial, ?_, ?_, ?_, ?_, ?_, ?_, ?_, ?_, ?_, ?_, ?_, ?_, ?_, ?_, ?_, ?_, ?_, ?_⟩ <;> intros <;> omega
end RE
theorem gmin_comm (x y : Int32) : gmin x y = gmin y x := by
  unfold gmin
  split <;> split <;> first | rfl | skip
  · rename_i a b
    exact (Int32.lt_irrefl (Int32.lt_trans a b)).elim
  · rename_i a b
    exact Int32.le_antisymm (Int32.not_lt.mp a) (Int32.not_lt.mp b)
theorem itr_rel {α β : Type} (R : α → β → Prop) (f : Nat → α → α) (g : Nat → β → β) : ∀ (n : Nat) (_ : ∀ j x y, j < n → R x y → R (f j x) (g j y)) (x : α) (y : β), R x y → R (itr f n x) (itr g n y)
  | 0, _, _, _, h => h
  | n + 1, k, x, y, h => k n _ _ (Nat.lt_succ_self n) (itr_rel R f g n (fun j x y hj => k j x y (Nat.lt_succ_of_lt hj)) x y h)
