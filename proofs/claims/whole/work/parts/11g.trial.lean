section TRI
variable {σ τ : gS} {kd : Nat}
theorem DR.tOK1 {t nb nd ns nc : Nat} (h : DR σ t τ nb nd kd ns nc) : tOK σ t := by
  intro j h1 h2
  obtain ⟨q, rfl⟩ : ∃ q, j = 4 + q := ⟨j - 4, by omega⟩
  have hc := h.1.cnt q (by omega) (by omega)
  have hm := h.2.2.1.1 q (by omega) (by omega)
  rw [h.cnt (by omega) (by omega), hc]
  refine ⟨hm.1, Nat.le_trans hm.2 ?_⟩
  split <;> split <;> omega
theorem DR.become (h : DR σ 1 τ 4 4 kd 4 10) : DR (sX6_become_s σ) 29 τ (mB τ 1) (mB τ 2) (mB τ 2) (mB τ 3) (mB τ 4) := by
  obtain ⟨⟨w1, w2⟩, w3, w4, w5, w6⟩ := become_at h.tOK1
  have n1 : tB σ 1 5 = mB τ 1 := h.cnt (q := 1) (by omega) (by omega)
  have n2 : tB σ 1 6 = mB τ 2 := h.cnt (q := 2) (by omega) (by omega)
  have n3 : tB σ 1 7 = mB τ 3 := h.cnt (q := 3) (by omega) (by omega)
  have n4 : tB σ 1 8 = mB τ 4 := h.cnt (q := 4) (by omega) (by omega)
  have l1 := h.2.2.1.le1
  have l2 := h.2.2.1.le2
  have l3 := h.2.2.1.le3
  have l4 := h.2.2.1.le4
  have lk := h.2.2.2.2.2.1
  have hR := h.1
  rw [n1] at w3
  rw [n2] at w4
  rw [n3] at w5
  rw [n4] at w6
  refine ⟨⟨⟨l1, l2, l3, l4⟩, fun q h1 h2 => (w1 (4 + q) (by omega) (by omega)).trans (hR.cnt q h1 h2), (w1 9 (by omega) (by omega)).trans hR.x9, (w1 10 (by omega) (by omega)).trans hR.x10,
    (w2 0 (by omega)).trans hR.s0, (w2 1 (by omega)).trans hR.s1, (w2 2 (by omega)).trans hR.s2, (w2 3 (by omega)).trans hR.s3, (w2 4 (by omega)).trans hR.s4, (w2 5 (by omega)).trans hR.s5, (w2 6 (by omega)).trans hR.s6,
    fun i w h1 h2 => (w3 i w h1 (by omega)).trans (hR.bt i w (by omega) h2), fun i h1 => (w3 i 2 h1 (by omega)).trans (hR.b2 i (by omega)),
    fun i h1 => (w4 i 0 h1 (by omega)).trans (hR.d0 i (by omega)), fun i w h1 h2 h3 => (w4 i (1 + w) h1 (by omega)).trans (hR.dd i w (by omega) h2 (fun _ => by omega)),
    fun i w h1 h2 => (w5 i w h1 (by omega)).trans (hR.st i w (by omega) h2), fun i w h1 h2 => (w5 i (2 + w) h1 (by omega)).trans (hR.sd i w (by omega) h2),
    fun i w h1 h2 => (w6 i w h1 (by omega)).trans (hR.ct i w (by omega) h2), fun i w h1 h2 => (w6 i (2 + w) h1 (by omega)).trans (hR.cd i w (by omega) h2)⟩, h.2.1, h.2.2.1, ⟨Nat.le_refl _, Nat.le_refl _, Nat.le_refl _, Nat.le_refl _, Nat.le_refl _⟩⟩
end TRI
