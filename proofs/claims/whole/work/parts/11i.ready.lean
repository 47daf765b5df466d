/-! the best day of a drum: the class warms it day by day up to burnt, the reference goes on -/
theorem gmin_nI {a b : Nat} (ha : a < 2 ^ 31) (hb : b < 2 ^ 31) : gmin (nI a) (nI b) = nI (min a b) := by
  unfold gmin
  split <;> rename_i c <;> rw [Int32.lt_iff_toInt_lt, nI_toInt ha, nI_toInt hb] at c
  · rw [Nat.min_eq_right (by omega)]
  · rw [Nat.min_eq_left (by omega)]
theorem yields_big {τ : gS} {kn r : Nat} {a : Int32} (h : (if kn = 0 then 24 else 15) ≤ r) (hr : r < 2 ^ 31) : sX8_yields_r τ kn a (nI r) = 0 := by
  unfold sX8_yields_r
  by_cases q : kn = 0
  · simp only [if_pos q] at h ⊢
    have c : ¬ nI r < (24 : Int32) := by
      rw [Int32.lt_iff_toInt_lt, nI_toInt hr, show (24 : Int32).toInt = 24 from rfl]
      omega
    rw [if_neg c]
    split <;> rfl
  · simp only [if_neg q] at h ⊢
    have c : ¬ nI r < (15 : Int32) := by
      rw [Int32.lt_iff_toInt_lt, nI_toInt hr, show (15 : Int32).toInt = 15 from rfl]
      omega
    rw [if_neg c]
    split <;> rfl
theorem ready_loop {σ τ : gS} {k l h kn : Nat} {a M : Int32} (hl : l ≤ 24) (hh : h ≤ 9) (hY : ∀ x, sX2_partsAt_r σ k x = sX8_yields_r τ kn M x) (hA : ∀ r, r ≤ 24 → sX2_levelAfter_r σ k (nI r) = nI (min (r + h) (if kn = 0 then 24 else 15)))
    (r1 : (sX8_dr_r τ a.toNatClampNeg 1).toNatClampNeg = kn) (r2 : sX8_dr_r τ a.toNatClampNeg 2 = M) (r3 : sX8_dr_r τ a.toNatClampNeg 3 = nI l) (r0 : sX8_dr_r τ a.toNatClampNeg 0 = nI h) :
    ∀ n, n ≤ 61 → (itr (stX2_daysToBest_12 σ k) n ((-1 : Int32), (0 : Int32), nI l)).1 = (itr (stX8_ready_38 τ a) n ((-1 : Int32), (0 : Int32))).1 ∧ (itr (stX2_daysToBest_12 σ k) n ((-1 : Int32), (0 : Int32), nI l)).2.1 = (itr (stX8_ready_38 τ a) n ((-1 : Int32), (0 : Int32))).2 ∧
      ∃ r, (itr (stX2_daysToBest_12 σ k) n ((-1 : Int32), (0 : Int32), nI l)).2.2 = nI r ∧ r ≤ 24 ∧ (r = l + n * h ∨ ((if kn = 0 then 24 else 15) ≤ r ∧ (if kn = 0 then 24 else 15) ≤ l + n * h)) := by
  intro n
  induction n with
  | zero => intro _; exact ⟨rfl, rfl, l, rfl, hl, Or.inl (by omega)⟩
  | succ n ih =>
    intro hn
    obtain ⟨i1, i2, r, i3, i4, i5⟩ := ih (by omega)
    rw [itr.eq_2, itr.eq_2]
    generalize itr (stX2_daysToBest_12 σ k) n ((-1 : Int32), (0 : Int32), nI l) = x at i1 i2 i3 ⊢
    generalize itr (stX8_ready_38 τ a) n ((-1 : Int32), (0 : Int32)) = y at i1 i2 ⊢
    have hnh : n * h ≤ 60 * 9 := Nat.mul_le_mul (by omega) hh
    have hs : (n + 1) * h = n * h + h := Nat.succ_mul n h
    have eY : sX8_yields_r τ kn M (nI l + nI n * nI h) = sX8_yields_r τ kn M (nI r) := by
      rw [pk_mul, nI_add]
      rcases i5 with q | ⟨q1, q2⟩
      · rw [q]
      · rw [yields_big q1 (by omega), yields_big q2 (by omega)]
    unfold stX2_daysToBest_12 stX8_ready_38
    rw [r1, r2, r3, r0, eY, hY, i3, hA r i4, i2]
    have tail : ∃ r', nI (min (r + h) (if kn = 0 then 24 else 15)) = nI r' ∧ r' ≤ 24 ∧ (r' = l + (n + 1) * h ∨ ((if kn = 0 then 24 else 15) ≤ r' ∧ (if kn = 0 then 24 else 15) ≤ l + (n + 1) * h)) := by
      refine ⟨min (r + h) (if kn = 0 then 24 else 15), rfl, ?_⟩
      have hB : (if kn = 0 then 24 else 15) ≤ 24 := by split <;> omega
      generalize (if kn = 0 then 24 else 15) = B at hB i5 ⊢
      omega
    by_cases c : y.2 < sX8_yields_r τ kn M (nI r)
    · have c' : ¬ (sX8_yields_r τ kn M (nI r) ≤ y.2) := Int32.not_le.mpr c
      rw [if_pos c, if_neg c']
      exact ⟨rfl, rfl, tail⟩
    · have c' : sX8_yields_r τ kn M (nI r) ≤ y.2 := Int32.not_lt.mp c
      rw [if_neg c, if_pos c']
      exact ⟨i1, rfl, tail⟩
