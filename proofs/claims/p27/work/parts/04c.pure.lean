/-! pure facts of the walks: counts of a town, loops that keep a thing -/
def tB (σ : gS) (t j : Nat) : Nat := (σ.1 t j).toNatClampNeg
/-- a town's four counts are what they may be -/
def tOK (σ : gS) (t : Nat) : Prop := ∀ j, 5 ≤ j → j ≤ 8 → σ.1 t j = nI (tB σ t j) ∧ tB σ t j ≤ (if j = 8 then 10 else 4)
theorem tOK.eq {σ : gS} {t : Nat} (h : tOK σ t) (j : Nat) (h1 : 5 ≤ j) (h2 : j ≤ 8) : σ.1 t j = nI (tB σ t j) := (h j h1 h2).1
theorem tOK.le5 {σ : gS} {t : Nat} (h : tOK σ t) : tB σ t 5 ≤ 4 := (h 5 (by omega) (by omega)).2
theorem tOK.le6 {σ : gS} {t : Nat} (h : tOK σ t) : tB σ t 6 ≤ 4 := (h 6 (by omega) (by omega)).2
theorem tOK.le7 {σ : gS} {t : Nat} (h : tOK σ t) : tB σ t 7 ≤ 4 := (h 7 (by omega) (by omega)).2
theorem tOK.le8 {σ : gS} {t : Nat} (h : tOK σ t) : tB σ t 8 ≤ 10 := (h 8 (by omega) (by omega)).2
theorem tOK.of {σ σ' : gS} {t : Nat} (h : tOK σ t) (e : ∀ j, 5 ≤ j → j ≤ 8 → σ'.1 t j = σ.1 t j) : tOK σ' t := by
  intro j h1 h2
  unfold tB
  rw [e j h1 h2]
  exact h j h1 h2
theorem itr_keep {α β : Type} (f : Nat → α → α) (g : α → β) (h : ∀ j x, g (f j x) = g x) : ∀ n x, g (itr f n x) = g x
  | 0, _ => rfl
  | n + 1, x => (h n _).trans (itr_keep f g h n x)
theorem itr_inv {α : Type} (f : Nat → α → α) (I : α → Prop) (h : ∀ j x, I x → I (f j x)) : ∀ n x, I x → I (itr f n x)
  | 0, _, hx => hx
  | n + 1, x, hx => h n _ (itr_inv f I h n x hx)
