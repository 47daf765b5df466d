/-! what a drum gives: the same on both sides -/
theorem parts_eq {σ τ : gS} {k : Nat} {a : Int32} (hK : σ.1 k 2 = -1 ∨ σ.1 k 2 = 0 ∨ σ.1 k 2 = 1) : sX2_partsAt_r σ k a = if σ.1 k 2 = -1 then 0 else sX8_yields_r τ (σ.1 k 2).toNatClampNeg (σ.1 k 3) a := by
  unfold sX2_partsAt_r sX2_done_r sX2_burnt_r sX8_yields_r
  rcases hK with q | q | q
  · rw [q]
    rfl
  · rw [q]
    simp only [show ¬ ((0 : Int32) = -1) by decide, show (0 : Int32).toNatClampNeg = 0 from rfl, if_true, if_false]
  · rw [q]
    simp only [show ¬ ((1 : Int32) = -1) by decide, show ¬ ((1 : Int32) = 0) by decide, show (1 : Int32).toNatClampNeg = 1 from rfl, show ¬ ((1 : Nat) = 0) by decide, if_false]
theorem DR.yield {σ τ : gS} {t nb nd kd ns nc : Nat} (h : DR σ t τ nb nd kd ns nc) {d : Nat} (hd : d < nd) (hk : d < kd) : sX2_partsAt_r σ (t + 10 + d) (σ.1 (t + 10 + d) 4) = sX8_yieldOf_r τ d := by
  have hd4 : d < 4 := Nat.lt_of_lt_of_le hd h.1.1.2.1
  have e2 := h.1.dd d 1 hd (by omega) (fun _ => hk)
  have e3 := h.1.dd d 2 hd (by omega) (by omega)
  have e4 := h.1.dd d 3 hd (by omega) (by omega)
  simp only [Nat.reduceAdd] at e2 e3 e4
  rw [parts_eq (τ := τ) (by rw [e2]; exact h.2.2.1.2 d hd4), e2, e3, e4]
  rfl
