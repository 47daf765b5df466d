/-! what a town's days, and the copy into the trial, leave alone -/
theorem itr_keepB {α β : Type} (f : Nat → α → α) (g : α → β) : ∀ n (_ : ∀ j x, j < n → g (f j x) = g x) x, g (itr f n x) = g x
  | 0, _, _ => rfl
  | n + 1, h, x => (h n _ (Nat.lt_succ_self n)).trans (itr_keepB f g n (fun j x hj => h j x (Nat.lt_succ_of_lt hj)) x)
theorem foX6_travel {σ : gS} {t x : Nat} (h : tOK σ t) (hx : x < t ∨ t + 28 ≤ x) : (sX6_travel_s σ t).1 x = σ.1 x := by
  unfold sX6_travel_s
  refine itr_keepB _ (fun y : gS => y.1 x) _ (fun j y hj => ?_) σ
  have := h.le7
  unfold stX6_travel_2
  dsimp only
  rw [fX4_add _ _ _ _ _ (by omega), fX3_travel _ _ _ _ (by omega)]
theorem foX6_warm {σ : gS} {t x : Nat} (h : tOK σ t) (hx : x < t ∨ t + 28 ≤ x) : (sX6_warm_s σ t).1 x = σ.1 x := by
  unfold sX6_warm_s
  refine itr_keepB _ (fun y : gS => y.1 x) _ (fun j y hj => ?_) σ
  have := h.le6
  unfold stX6_warm_2
  dsimp only
  rw [fX2_warm _ _ _ (by omega)]
theorem foX6_grow {σ : gS} {t x : Nat} (h : tOK σ t) (hx : x < t ∨ t + 28 ≤ x) : (sX6_grow_s σ t).1 x = σ.1 x := by
  unfold sX6_grow_s
  refine itr_keepB _ (fun y : gS => y.1 x) _ (fun j y hj => ?_) σ
  have := h.le5
  unfold stX6_grow_2
  dsimp only
  rw [fX0_grow _ _ _ (by omega)]
theorem foX6_serve {σ : gS} {t x : Nat} (h : tOK σ t) (hx : x < t ∨ t + 28 ≤ x) : (sX6_serve_s σ t).1 x = σ.1 x := by
  unfold sX6_serve_s
  refine itr_keepB _ (fun y : gS × Int32 => y.1.1 x) _ (fun j y hj => ?_) (σ, (0 : Int32))
  have := h.le8
  unfold stX6_serve_4
  dsimp only
  split
  · dsimp only
    rw [fX1_serveDay _ _ _ _ (by omega) (by omega), fX1_renew _ _ _ (by omega)]
  · dsimp only
    rw [fX1_serveDay _ _ _ _ (by omega) (by omega)]
theorem foX6_live {σ : gS} {t x d : Nat} (ht : gTw t) (h : tOK σ t) (hx : x < t ∨ t + 28 ≤ x) : (sX6_live_s σ t d).1 x = σ.1 x := by
  unfold sX6_live_s
  refine (itr_inv _ (fun y : gS × Int32 => tOK y.1 t ∧ y.1.1 x = σ.1 x) (fun j y hy => ⟨okstX6_live_4 ht hy.1, ?_⟩) d (σ, (0 : Int32)) ⟨h, rfl⟩).2
  obtain ⟨h1, h2⟩ := hy
  unfold stX6_live_4
  dsimp only
  have o1 := okX6_travel ht h1
  have o2 := okX6_warm ht o1
  have o3 := okX6_grow ht o2
  rw [gu_ne (by omega), foX6_serve o3 hx, foX6_grow o2 hx, foX6_warm o1 hx, foX6_travel h1 hx]
  exact h2
theorem foX6_become {σ : gS} {x : Nat} (h : tOK σ 1) (hx : x < 29 ∨ 57 ≤ x) : (sX6_become_s σ).1 x = σ.1 x := by
  have h5 := h.le5
  have h6 := h.le6
  have h7 := h.le7
  have h8 := h.le8
  have b5 : ∀ τ : gS, (itr stX6_become_37 (tB σ 1 5) τ).1 x = τ.1 x := fun τ => itr_keepB _ (fun y : gS => y.1 x) _ (fun j y hj => by
    unfold stX6_become_37; dsimp only; rw [fX0_become _ _ _ _ (by omega)]) τ
  have b6 : ∀ τ : gS, (itr stX6_become_76 (tB σ 1 6) τ).1 x = τ.1 x := fun τ => itr_keepB _ (fun y : gS => y.1 x) _ (fun j y hj => by
    unfold stX6_become_76; dsimp only; rw [fX2_become _ _ _ _ (by omega)]) τ
  have b7 : ∀ τ : gS, (itr stX6_become_115 (tB σ 1 7) τ).1 x = τ.1 x := fun τ => itr_keepB _ (fun y : gS => y.1 x) _ (fun j y hj => by
    unfold stX6_become_115; dsimp only; rw [fX3_become _ _ _ _ (by omega)]) τ
  have b8 : ∀ τ : gS, (itr stX6_become_154 (tB σ 1 8) τ).1 x = τ.1 x := fun τ => itr_keepB _ (fun y : gS => y.1 x) _ (fun j y hj => by
    unfold stX6_become_154; dsimp only; rw [fX1_become _ _ _ _ (by omega)]) τ
  have g29 : x ≠ 29 := by omega
  unfold sX6_become_s
  dsimp only
  simp only [b5, b6, b7, b8, gu_ne g29]
  rw [fX4_become _ _ _ _ (by omega)]
  simp only [gu_ne g29]
theorem okX6_become {σ : gS} (h : tOK σ 1) : tOK (sX6_become_s σ) 29 := by
  have b5 : ∀ n (τ : gS), (itr stX6_become_37 n τ).1 29 = τ.1 29 := fun n τ => itr_keep _ (fun y : gS => y.1 29) (fun j y => by
    unfold stX6_become_37; dsimp only; rw [fX0_become _ _ _ _ (by omega)]) n τ
  have b6 : ∀ n (τ : gS), (itr stX6_become_76 n τ).1 29 = τ.1 29 := fun n τ => itr_keep _ (fun y : gS => y.1 29) (fun j y => by
    unfold stX6_become_76; dsimp only; rw [fX2_become _ _ _ _ (by omega)]) n τ
  have b7 : ∀ n (τ : gS), (itr stX6_become_115 n τ).1 29 = τ.1 29 := fun n τ => itr_keep _ (fun y : gS => y.1 29) (fun j y => by
    unfold stX6_become_115; dsimp only; rw [fX3_become _ _ _ _ (by omega)]) n τ
  have b8 : ∀ n (τ : gS), (itr stX6_become_154 n τ).1 29 = τ.1 29 := fun n τ => itr_keep _ (fun y : gS => y.1 29) (fun j y => by
    unfold stX6_become_154; dsimp only; rw [fX1_become _ _ _ _ (by omega)]) n τ
  have c5 : ∀ n (τ : gS), (itr stX6_become_37 n τ).1 1 = τ.1 1 := fun n τ => itr_keep _ (fun y : gS => y.1 1) (fun j y => by
    unfold stX6_become_37; dsimp only; rw [fX0_become _ _ _ _ (by omega)]) n τ
  have c6 : ∀ n (τ : gS), (itr stX6_become_76 n τ).1 1 = τ.1 1 := fun n τ => itr_keep _ (fun y : gS => y.1 1) (fun j y => by
    unfold stX6_become_76; dsimp only; rw [fX2_become _ _ _ _ (by omega)]) n τ
  have c7 : ∀ n (τ : gS), (itr stX6_become_115 n τ).1 1 = τ.1 1 := fun n τ => itr_keep _ (fun y : gS => y.1 1) (fun j y => by
    unfold stX6_become_115; dsimp only; rw [fX3_become _ _ _ _ (by omega)]) n τ
  have f4 : ∀ τ : gS, (sX4_become_s τ 34 6).1 29 = τ.1 29 := fun τ => fX4_become _ _ _ _ (by decide)
  have f41 : ∀ τ : gS, (sX4_become_s τ 34 6).1 1 = τ.1 1 := fun τ => fX4_become _ _ _ _ (by decide)
  have n1 : ∀ (τ : gS) (j : Nat) (v : Int32), (gu τ 29 j v).1 1 = τ.1 1 := fun τ j v => gu_ne (by decide)
  have key : ∀ j, 5 ≤ j → j ≤ 8 → (sX6_become_s σ).1 29 j = σ.1 1 j := by
    intro j h1 h2
    unfold sX6_become_s
    dsimp only
    rcases (show j = 5 ∨ j = 6 ∨ j = 7 ∨ j = 8 by omega) with rfl | rfl | rfl | rfl <;>
      simp [b5, b6, b7, b8, c5, c6, c7, f4, f41, gu_at, n1]
  intro j h1 h2
  unfold tB
  rw [key j h1 h2]
  exact h j h1 h2
theorem in_nm {x : Int32} {lo hi : Nat} (hh : hi < 2 ^ 31) (hl : lo ≤ hi) (h1 : ¬ x < nI lo) (h2 : x ≤ nI hi) : (lo ≤ x.toNatClampNeg ∧ x.toNatClampNeg ≤ hi) ∧ x = nI x.toNatClampNeg := by
  have e1 := Int32.not_lt.mp h1
  rw [Int32.le_iff_toInt_le, nI_toInt (by omega)] at e1 h2
  have e3 : x.toNatClampNeg = x.toInt.toNat := rfl
  have e4 : x = nI x.toInt.toNat := by
    apply Int32.toInt_inj.mp
    rw [nI_toInt (by omega)]
    omega
  rw [e3]
  exact ⟨by omega, e4⟩
