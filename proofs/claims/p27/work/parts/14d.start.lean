/-! the world once Sim stands: no rows yet -/
theorem n_row {D : va_G} {cl : List vw_C} {q n : Nat} {c : ClassId} {f g : Nat → Option Nat} {H : Heap} (h : va_at D cl (q, .inl (c, n, .inr (.inr (.inr (.inr f))))) H) (e : ∀ j, j < n → f j = g j) : va_at D cl (q, .inl (c, n, .inr (.inr (.inr (.inr g))))) H := by
  have e1 : (Array.ofFn (n := n) fun j => va_rf (f j.val)) = Array.ofFn (n := n) fun j => va_rf (g j.val) := by
    congr 1
    funext j
    rw [e j.1 j.2]
  have e2 : vp_cell c (n, .inr (.inr (.inr (.inr f)))) = vp_cell c (n, .inr (.inr (.inr (.inr g)))) := by
    rw [vp_cell_q, vp_cell_q]
    unfold arrV
    rw [e1]
  show H[q]? = some (vp_cell c (n, .inr (.inr (.inr (.inr g)))))
  rw [← e2]
  exact h
abbrev nW (q : Nat) (a b r : Nat → Nat) (c : Nat → ClassId) (c0 c1 : ClassId) : va_W := nR q a b c ++ nM r c0 c1
abbrev nE (D : va_G) (n0 q : Nat) (a b r : Nat → Nat) (c : Nat → ClassId) (c0 c1 : ClassId) (sb L : Nat) (xs : Nat → Int32) : gT :=
  ((D, fun k => if k = 100 then n0 else if k = 101 then b 0 else if k = 102 then sb else if k = 103 then L else 0, [], xs), fun i => [c0, c1, c 0, c 1, c 2, c 3].getD i 0, fun k => if k = 0 then q else if k < 29 then a (k - 1) else if k < 36 then r (k - 29) else b (k - 30))
def nF : Nat → Nat → Int32 := fun k => if k = 6 then (fun j => if j = 4 then 5 else 0) else if (11 ≤ k ∧ k < 15) ∨ (40 ≤ k ∧ k < 44) then (fun j => if j = 2 then -1 else 0) else if k = 29 then (fun j => if j = 5 then 5 else 0) else fun _ => 0
def nS : gS := (nF, fun _ => 0)
def nIx (k : Nat) : Nat := if k < 29 then k else if k < 36 then 28 + k else k - 1
section NH
variable {D : va_G} {n0 q sb L : Nat} {a b r : Nat → Nat} {c : Nat → ClassId} {c0 c1 : ClassId} {xs : Nat → Int32} {H : Heap}
set_option maxRecDepth 100000 in
theorem n_adr : ∀ k, k < 58 → ∃ e, (nW q a b r c c0 c1)[nIx k]? = some ((nE D n0 q a b r c c0 c1 sb L xs).2.2 k, e) := by
  intro k hk
  match k, hk with
  | 0, _ => exact ⟨_, rfl⟩
  | 1, _ => exact ⟨_, rfl⟩
  | 2, _ => exact ⟨_, rfl⟩
  | 3, _ => exact ⟨_, rfl⟩
  | 4, _ => exact ⟨_, rfl⟩
  | 5, _ => exact ⟨_, rfl⟩
  | 6, _ => exact ⟨_, rfl⟩
  | 7, _ => exact ⟨_, rfl⟩
  | 8, _ => exact ⟨_, rfl⟩
  | 9, _ => exact ⟨_, rfl⟩
  | 10, _ => exact ⟨_, rfl⟩
  | 11, _ => exact ⟨_, rfl⟩
  | 12, _ => exact ⟨_, rfl⟩
  | 13, _ => exact ⟨_, rfl⟩
  | 14, _ => exact ⟨_, rfl⟩
  | 15, _ => exact ⟨_, rfl⟩
  | 16, _ => exact ⟨_, rfl⟩
  | 17, _ => exact ⟨_, rfl⟩
  | 18, _ => exact ⟨_, rfl⟩
  | 19, _ => exact ⟨_, rfl⟩
  | 20, _ => exact ⟨_, rfl⟩
  | 21, _ => exact ⟨_, rfl⟩
  | 22, _ => exact ⟨_, rfl⟩
  | 23, _ => exact ⟨_, rfl⟩
  | 24, _ => exact ⟨_, rfl⟩
  | 25, _ => exact ⟨_, rfl⟩
  | 26, _ => exact ⟨_, rfl⟩
  | 27, _ => exact ⟨_, rfl⟩
  | 28, _ => exact ⟨_, rfl⟩
  | 29, _ => exact ⟨_, rfl⟩
  | 30, _ => exact ⟨_, rfl⟩
  | 31, _ => exact ⟨_, rfl⟩
  | 32, _ => exact ⟨_, rfl⟩
  | 33, _ => exact ⟨_, rfl⟩
  | 34, _ => exact ⟨_, rfl⟩
  | 35, _ => exact ⟨_, rfl⟩
  | 36, _ => exact ⟨_, rfl⟩
  | 37, _ => exact ⟨_, rfl⟩
  | 38, _ => exact ⟨_, rfl⟩
  | 39, _ => exact ⟨_, rfl⟩
  | 40, _ => exact ⟨_, rfl⟩
  | 41, _ => exact ⟨_, rfl⟩
  | 42, _ => exact ⟨_, rfl⟩
  | 43, _ => exact ⟨_, rfl⟩
  | 44, _ => exact ⟨_, rfl⟩
  | 45, _ => exact ⟨_, rfl⟩
  | 46, _ => exact ⟨_, rfl⟩
  | 47, _ => exact ⟨_, rfl⟩
  | 48, _ => exact ⟨_, rfl⟩
  | 49, _ => exact ⟨_, rfl⟩
  | 50, _ => exact ⟨_, rfl⟩
  | 51, _ => exact ⟨_, rfl⟩
  | 52, _ => exact ⟨_, rfl⟩
  | 53, _ => exact ⟨_, rfl⟩
  | 54, _ => exact ⟨_, rfl⟩
  | 55, _ => exact ⟨_, rfl⟩
  | 56, _ => exact ⟨_, rfl⟩
  | 57, _ => exact ⟨_, rfl⟩
  | k + 58, h => exact absurd h (by omega)
set_option maxRecDepth 100000 in
set_option maxHeartbeats 4000000 in
theorem n_gl (hP : va_P D vwCl (nW q a b r c c0 c1) H) : va_P D vwCl (gl (nE D n0 q a b r c c0 c1 sb L xs) nS) H := by
  intro k x hk
  have hlt : k < 58 := by have := (List.getElem?_eq_some_iff.mp hk).1; rwa [gl_len] at this
  rw [gl_at hlt] at hk
  cases hk
  match k, hlt with
  | 0, _ => exact hP 0 _ rfl
  | 1, _ => exact hP 1 _ rfl
  | 2, _ => exact n_row (hP 2 _ rfl) (fun j hj => by match j, hj with | 0, _ => rfl | 1, _ => rfl | 2, _ => rfl | 3, _ => rfl | j + 4, h => exact absurd h (by omega))
  | 3, _ => exact n_row (hP 3 _ rfl) (fun j hj => by match j, hj with | 0, _ => rfl | 1, _ => rfl | 2, _ => rfl | 3, _ => rfl | j + 4, h => exact absurd h (by omega))
  | 4, _ => exact n_row (hP 4 _ rfl) (fun j hj => by match j, hj with | 0, _ => rfl | 1, _ => rfl | 2, _ => rfl | 3, _ => rfl | j + 4, h => exact absurd h (by omega))
  | 5, _ => exact n_row (hP 5 _ rfl) (fun j hj => by match j, hj with | 0, _ => rfl | 1, _ => rfl | 2, _ => rfl | 3, _ => rfl | 4, _ => rfl | 5, _ => rfl | 6, _ => rfl | 7, _ => rfl | 8, _ => rfl | 9, _ => rfl | j + 10, h => exact absurd h (by omega))
  | 6, _ => exact hP 6 _ rfl
  | 7, _ => exact hP 7 _ rfl
  | 8, _ => exact hP 8 _ rfl
  | 9, _ => exact hP 9 _ rfl
  | 10, _ => exact hP 10 _ rfl
  | 11, _ => exact hP 11 _ rfl
  | 12, _ => exact hP 12 _ rfl
  | 13, _ => exact hP 13 _ rfl
  | 14, _ => exact hP 14 _ rfl
  | 15, _ => exact hP 15 _ rfl
  | 16, _ => exact hP 16 _ rfl
  | 17, _ => exact hP 17 _ rfl
  | 18, _ => exact hP 18 _ rfl
  | 19, _ => exact hP 19 _ rfl
  | 20, _ => exact hP 20 _ rfl
  | 21, _ => exact hP 21 _ rfl
  | 22, _ => exact hP 22 _ rfl
  | 23, _ => exact hP 23 _ rfl
  | 24, _ => exact hP 24 _ rfl
  | 25, _ => exact hP 25 _ rfl
  | 26, _ => exact hP 26 _ rfl
  | 27, _ => exact hP 27 _ rfl
  | 28, _ => exact hP 28 _ rfl
  | 29, _ => exact hP 57 _ rfl
  | 30, _ => exact hP 58 _ rfl
  | 31, _ => exact hP 59 _ rfl
  | 32, _ => exact n_row (hP 60 _ rfl) (fun j hj => absurd hj (Nat.not_lt_zero j))
  | 33, _ => exact n_row (hP 61 _ rfl) (fun j hj => absurd hj (Nat.not_lt_zero j))
  | 34, _ => exact n_row (hP 62 _ rfl) (fun j hj => absurd hj (Nat.not_lt_zero j))
  | 35, _ => exact n_row (hP 63 _ rfl) (fun j hj => absurd hj (Nat.not_lt_zero j))
  | 36, _ => exact hP 35 _ rfl
  | 37, _ => exact hP 36 _ rfl
  | 38, _ => exact hP 37 _ rfl
  | 39, _ => exact hP 38 _ rfl
  | 40, _ => exact hP 39 _ rfl
  | 41, _ => exact hP 40 _ rfl
  | 42, _ => exact hP 41 _ rfl
  | 43, _ => exact hP 42 _ rfl
  | 44, _ => exact hP 43 _ rfl
  | 45, _ => exact hP 44 _ rfl
  | 46, _ => exact hP 45 _ rfl
  | 47, _ => exact hP 46 _ rfl
  | 48, _ => exact hP 47 _ rfl
  | 49, _ => exact hP 48 _ rfl
  | 50, _ => exact hP 49 _ rfl
  | 51, _ => exact hP 50 _ rfl
  | 52, _ => exact hP 51 _ rfl
  | 53, _ => exact hP 52 _ rfl
  | 54, _ => exact hP 53 _ rfl
  | 55, _ => exact hP 54 _ rfl
  | 56, _ => exact hP 55 _ rfl
  | 57, _ => exact hP 56 _ rfl
  | k + 58, h => exact absurd h (by omega)
theorem n_gP (hP : va_P D vwCl (nW q a b r c c0 c1) H) (hD : va_D (fun x : Nat => n0 ≤ x) (nW q a b r c c0 c1)) : gP (nE D n0 q a b r c c0 c1 sb L xs) nS H := by
  refine ⟨n_gl hP, fun i j p x hi hj e => ?_, fun k p hk => ?_⟩
  · have hi2 : i < 58 := by have := (List.getElem?_eq_some_iff.mp hi).1; rwa [gl_len] at this
    have hj2 : j < 58 := by have := (List.getElem?_eq_some_iff.mp hj).1; rwa [gl_len] at this
    rw [gl_at hi2] at hi
    rw [gl_at hj2] at hj
    cases hi
    cases hj
    obtain ⟨e1, h1⟩ := n_adr (D := D) (n0 := n0) (q := q) (a := a) (b := b) (r := r) (c := c) (c0 := c0) (c1 := c1) (sb := sb) (L := L) (xs := xs) i hi2
    obtain ⟨e2, h2⟩ := n_adr (D := D) (n0 := n0) (q := q) (a := a) (b := b) (r := r) (c := c) (c0 := c0) (c1 := c1) (sb := sb) (L := L) (xs := xs) j hj2
    have := hD.1 _ _ _ _ h1 h2 e
    unfold nIx at this
    split at this <;> split at this <;> (try split at this) <;> (try split at this) <;> omega
  · have hi2 : k < 58 := by have := (List.getElem?_eq_some_iff.mp hk).1; rwa [gl_len] at this
    rw [gl_at hi2] at hk
    cases hk
    obtain ⟨e1, h1⟩ := n_adr (D := D) (n0 := n0) (q := q) (a := a) (b := b) (r := r) (c := c) (c0 := c0) (c1 := c1) (sb := sb) (L := L) (xs := xs) k hi2
    have h3 := hD.2 _ _ h1
    exact h3
theorem n_inv : INV (nE D n0 q a b r c c0 c1 sb L xs) 0 0 0 nS := by
  have g0 : ∀ o, o < 4 → gNo (nE D n0 q a b r c c0 c1 sb L xs) o = 0 := fun o ho => by
    rcases (show o = 0 ∨ o = 1 ∨ o = 2 ∨ o = 3 by omega) with rfl | rfl | rfl | rfl <;> rfl
  have z : ∀ k j, nF k j = 0 → num nS k j 0 := fun k j h => (num.of (x := 0) (b := 0) (τ := nS) h (Nat.le_refl _) (by decide)).1
  refine ⟨⟨⟨?_, ?_, ?_, ?_, ?_⟩, ⟨z _ _ rfl, ⟨(z _ _ rfl).1, Nat.le_trans (z _ _ rfl).2 (Nat.zero_le _)⟩⟩, ⟨z _ _ rfl, z _ _ rfl, z _ _ rfl, z _ _ rfl, (num.of (x := 5) (τ := nS) rfl (by decide) (by decide)).1, z _ _ rfl, z _ _ rfl⟩, fun i hi => ?_, fun i hi => ?_, fun i hi => ?_, fun i hi => ?_, ?_, ⟨?_, ?_, ?_, ?_⟩⟩, ?_⟩
  · intro j h1 h2
    rcases (show j = 5 ∨ j = 6 ∨ j = 7 ∨ j = 8 by omega) with rfl | rfl | rfl | rfl <;> exact ⟨by decide +kernel, by decide +kernel⟩
  · rw [g0 0 (by decide)]; decide +kernel
  · rw [g0 1 (by decide)]; decide +kernel
  · rw [g0 2 (by decide)]; decide +kernel
  · rw [g0 3 (by decide)]; decide +kernel
  · rw [g0 0 (by decide)] at hi; exact absurd hi (Nat.not_lt_zero _)
  · rw [g0 1 (by decide)] at hi; exact absurd hi (Nat.not_lt_zero _)
  · rw [g0 2 (by decide)] at hi; exact absurd hi (Nat.not_lt_zero _)
  · rw [g0 3 (by decide)] at hi; exact absurd hi (Nat.not_lt_zero _)
  · rw [g0 3 (by decide)]; rfl
  · intro i hi _
    have h : ∀ i, i < 4 → nF (7 + i) 2 = 0 := by decide +kernel
    exact h i hi
  · intro i hi _
    have h : ∀ i, i < 4 → nF (11 + i) 2 = -1 ∧ nF (11 + i) 3 = 0 ∧ nF (11 + i) 4 = 0 := by decide +kernel
    exact h i hi
  · intro i hi _
    have h : ∀ i, i < 4 → nF (15 + i) 2 = 0 ∧ nF (15 + i) 3 = 0 ∧ nF (15 + i) 4 = 0 := by decide +kernel
    exact h i hi
  · intro i hi _
    have h : ∀ i, i < 10 → nF (19 + i) 3 = 0 ∧ nF (19 + i) 4 = 0 := by decide +kernel
    exact h i hi
  · intro k j k' j' hp
    rcases hp with ⟨rfl, rfl, h⟩ | ⟨rfl, h⟩ | ⟨rfl, rfl, h⟩
    · rcases h with ⟨rfl, rfl⟩ | ⟨rfl, rfl⟩ <;> rfl
    · rcases h with ⟨rfl, h, rfl⟩ | ⟨rfl, h1, h2, h⟩ | ⟨rfl, h⟩
      · rcases (show j' = 0 ∨ j' = 1 by omega) with rfl | rfl <;> rfl
      · rcases (show (j = 2 ∧ j' = 0) ∨ (j = 3 ∧ j' = 1) by omega) with ⟨rfl, rfl⟩ | ⟨rfl, rfl⟩ <;> rfl
      · rcases h with ⟨rfl, rfl⟩ | ⟨rfl, rfl⟩ | ⟨rfl, rfl⟩ <;> rfl
    · rw [g0 0 (by decide), g0 1 (by decide), g0 2 (by decide), g0 3 (by decide)] at h
      omega
end NH
