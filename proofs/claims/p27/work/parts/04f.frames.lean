/-! what a town's days, and the copy into the trial, leave alone -/
theorem itr_keepB {α β : Type} (f : Nat → α → α) (g : α → β) : ∀ n (_ : ∀ j x, j < n → g (f j x) = g x) x, g (itr f n x) = g x
  | 0, _, _ => rfl
  | n + 1, h, x => (h n _ (Nat.lt_succ_self n)).trans (itr_keepB f g n (fun j x hj => h j x (Nat.lt_succ_of_lt hj)) x)
theorem foX6_travel {σ : gS} {t x : Nat} (h : tOK σ t) (hx : x < t ∨ t + 28 ≤ x) : (sX6_travel_s σ t).1 x = σ.1 x := by
  unfold sX6_travel_s
  refine itr_keepB _ (fun y : gS => y.1 x) _ (fun j y hj => ?_) σ
  have := h.le7
  unfold stX6_travel_2
  dsimp only
  rw [fX4_add _ _ _ _ _ (by omega), fX3_travel _ _ _ _ (by omega)]
theorem foX6_warm {σ : gS} {t x : Nat} (h : tOK σ t) (hx : x < t ∨ t + 28 ≤ x) : (sX6_warm_s σ t).1 x = σ.1 x := by
  unfold sX6_warm_s
  refine itr_keepB _ (fun y : gS => y.1 x) _ (fun j y hj => ?_) σ
  have := h.le6
  unfold stX6_warm_2
  dsimp only
  rw [fX2_warm _ _ _ (by omega)]
theorem foX6_grow {σ : gS} {t x : Nat} (h : tOK σ t) (hx : x < t ∨ t + 28 ≤ x) : (sX6_grow_s σ t).1 x = σ.1 x := by
  unfold sX6_grow_s
  refine itr_keepB _ (fun y : gS => y.1 x) _ (fun j y hj => ?_) σ
  have := h.le5
  unfold stX6_grow_2
  dsimp only
  rw [fX0_grow _ _ _ (by omega)]
theorem foX6_serve {σ : gS} {t x : Nat} (h : tOK σ t) (hx : x < t ∨ t + 28 ≤ x) : (sX6_serve_s σ t).1 x = σ.1 x := by
  unfold sX6_serve_s
  refine itr_keepB _ (fun y : gS × Int32 => y.1.1 x) _ (fun j y hj => ?_) (σ, (0 : Int32))
  have := h.le8
  unfold stX6_serve_4
  dsimp only
  split
  · dsimp only
    rw [fX1_serveDay _ _ _ _ (by omega) (by omega), fX1_renew _ _ _ (by omega)]
  · dsimp only
    rw [fX1_serveDay _ _ _ _ (by omega) (by omega)]
theorem foX6_live {σ : gS} {t x d : Nat} (ht : gTw t) (h : tOK σ t) (hx : x < t ∨ t + 28 ≤ x) : (sX6_live_s σ t d).1 x = σ.1 x := by
  unfold sX6_live_s
  refine (itr_inv _ (fun y : gS × Int32 => tOK y.1 t ∧ y.1.1 x = σ.1 x) (fun j y hy => ⟨okstX6_live_4 ht hy.1, ?_⟩) d (σ, (0 : Int32)) ⟨h, rfl⟩).2
  obtain ⟨h1, h2⟩ := hy
  unfold stX6_live_4
  dsimp only
  have o1 := okX6_travel ht h1
  have o2 := okX6_warm ht o1
  have o3 := okX6_grow ht o2
  rw [gu_ne (by omega), foX6_serve o3 hx, foX6_grow o2 hx, foX6_warm o1 hx, foX6_travel h1 hx]
  exact h2
