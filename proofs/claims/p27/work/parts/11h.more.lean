section MO
variable {E : gT} {τ ρ σ : gS} {D B S : Nat}
theorem parts_at {k : Nat} {a : Int32} (e : σ.1 k = τ.1 k) : sX2_partsAt_r σ k a = sX2_partsAt_r τ k a := by
  unfold sX2_partsAt_r sX2_done_r sX2_burnt_r
  rw [e]
/-- what a load yields -/
theorem parts_num {d : Nat} (h : DGi σ d) : ∃ y, y ≤ 320 ∧ sX2_partsAt_r σ (11 + d) (σ.1 (11 + d) 4) = nI y := by
  obtain ⟨⟨g0, g02⟩, g1, g2⟩ := h
  have l0 := g0.2
  unfold sX2_partsAt_r sX2_done_r sX2_burnt_r
  rcases g2 with ⟨c, _⟩ | ⟨c, m, m1, l⟩
  · rw [if_pos c]
    exact ⟨0, by decide, rfl⟩
  · have hm := m.2
    have hl := l.2
    rcases c with c | c
    · rw [if_pos c] at hl
      simp only [c, if_true, show ¬ ((0 : Int32) = -1) by decide, if_false]
      by_cases c1 : σ.1 (11 + d) 4 < 12
      · rw [if_pos c1]
        exact ⟨0, by decide, rfl⟩
      · rw [if_neg c1]
        by_cases c2 : σ.1 (11 + d) 4 < 24
        · rw [if_pos c2]
          have hl12 : 12 ≤ cv σ (11 + d) 4 := by
            rw [l.1] at c1
            exact Nat.le_of_not_lt (fun z => c1 ((nI_ltI (b := 12) (by omega) (by decide)).mpr z))
          have b1 : cv σ (11 + d) 3 * 6 * (24 - cv σ (11 + d) 4) ≤ 40 * 6 * 12 := Nat.mul_le_mul (Nat.mul_le_mul_right 6 (by omega)) (by omega)
          refine ⟨cv σ (11 + d) 3 * 6 * (24 - cv σ (11 + d) 4) / 12, Nat.le_trans (Nat.div_le_div_right b1) (by decide), ?_⟩
          rw [m.1, l.1, show (24 : Int32) - nI (cv σ (11 + d) 4) = nI (24 - cv σ (11 + d) 4) from pk_sub (a := 24) hl, show (6 : Int32) = nI 6 from rfl, pk_mul, pk_mul, show (24 : Int32) - 12 = nI 12 from by decide]
          exact pk_div (by omega) (by decide) (by decide)
        · rw [if_neg c2]
          exact ⟨0, by decide, rfl⟩
    · have n0 : ¬ σ.1 (11 + d) 2 = 0 := by rw [c]; decide
      rw [if_neg n0] at hl
      simp only [c, show ¬ ((1 : Int32) = -1) by decide, if_false, show ¬ ((1 : Int32) = 0) by decide]
      by_cases c1 : σ.1 (11 + d) 4 < 8
      · rw [if_pos c1]
        exact ⟨0, by decide, rfl⟩
      · rw [if_neg c1]
        by_cases c2 : σ.1 (11 + d) 4 < 15
        · rw [if_pos c2]
          have hl8 : 8 ≤ cv σ (11 + d) 4 := by
            rw [l.1] at c1
            exact Nat.le_of_not_lt (fun z => c1 ((nI_ltI (b := 8) (by omega) (by decide)).mpr z))
          have b1 : cv σ (11 + d) 3 * 8 * (15 - cv σ (11 + d) 4) ≤ 40 * 8 * 7 := Nat.mul_le_mul (Nat.mul_le_mul_right 8 (by omega)) (by omega)
          refine ⟨cv σ (11 + d) 3 * 8 * (15 - cv σ (11 + d) 4) / 7, Nat.le_trans (Nat.div_le_div_right b1) (by decide), ?_⟩
          rw [m.1, l.1, show (15 : Int32) - nI (cv σ (11 + d) 4) = nI (15 - cv σ (11 + d) 4) from pk_sub (a := 15) hl, show (8 : Int32) = nI 8 from rfl, pk_mul, pk_mul, show (15 : Int32) - nI 8 = nI 7 from by decide]
          exact pk_div (by omega) (by decide) (by decide)
        · rw [if_neg c2]
          exact ⟨0, by decide, rfl⟩
theorem roasted_at {kd : Nat} {v : Int32} (hk : kd < 2) : sX4_addRoasted_s σ 6 (nI kd) v = gu σ 6 (kd + 2) (σ.1 6 (kd + 2) + v) := by
  unfold sX4_addRoasted_s
  rcases (show kd = 0 ∨ kd = 1 by omega) with rfl | rfl
  · rw [if_pos (by decide)]
  · rw [if_neg (by decide)]
theorem inv_take (h : INV E D B S σ) (hb : NB E) (hB : B + 1000 < 2 ^ 29) {d kd : Nat} (hd : d < gNo E 1) (hk : kd < 2) (ek : σ.1 (11 + d) 2 = nI kd) : INV E D (B + 320) S (sX2_fill_s (sX4_addRoasted_s (gu (gu (gu (gu σ 31 kd (σ.1 31 kd + sX8_yields_r σ d)) (40 + d) 2 (-1)) (40 + d) 3 0) (40 + d) 4 0) 6 ((gu (gu (gu (gu σ 31 kd (σ.1 31 kd + sX8_yields_r σ d)) (40 + d) 2 (-1)) (40 + d) 3 0) (40 + d) 4 0).1 (11 + d) 2) (sX2_partsAt_r (gu (gu (gu (gu σ 31 kd (σ.1 31 kd + sX8_yields_r σ d)) (40 + d) 2 (-1)) (40 + d) 3 0) (40 + d) 4 0) (11 + d) ((gu (gu (gu (gu σ 31 kd (σ.1 31 kd + sX8_yields_r σ d)) (40 + d) 2 (-1)) (40 + d) 3 0) (40 + d) 4 0).1 (11 + d) 4))) (11 + d) (-1) 0) := by
  obtain ⟨b0, b1, b2, b3⟩ := id hb
  have hd4 : d < 4 := by omega
  have hdg := h.1.2.2.2.2.1 d hd
  have hy := yields_eq h.2 hd hdg
  obtain ⟨y, hy1, hy2⟩ := parts_num hdg
  have hyn : sX8_yields_r σ d = nI y := hy.symm.trans hy2
  rw [hyn]
  have e31 := h.2.parts hk
  have s0 : num σ 6 (kd + 2) B := by
    rcases (show kd = 0 ∨ kd = 1 by omega) with rfl | rfl
    · exact h.1.2.2.1.2.2.1
    · exact h.1.2.2.1.2.2.2.1
  have ls := s0.2
  have e0 : σ.1 6 (kd + 2) + nI y = nI (cv σ 6 (kd + 2) + y) := by rw [s0.1, nI_add]
  have hZ : ∃ Z : gS, Z = gu (gu (gu (gu σ 31 kd (σ.1 31 kd + nI y)) (40 + d) 2 (-1)) (40 + d) 3 0) (40 + d) 4 0 := ⟨_, rfl⟩
  obtain ⟨Z, hZ⟩ := hZ
  rw [← hZ]
  have z11 : Z.1 (11 + d) = σ.1 (11 + d) := by rw [hZ, gu_ne (by omega), gu_ne (by omega), gu_ne (by omega), gu_ne (by omega)]
  have z6 : Z.1 6 = σ.1 6 := by rw [hZ, gu_ne (by omega), gu_ne (by omega), gu_ne (by omega), gu_ne (by omega)]
  rw [parts_at z11, z11, ek, hy2, roasted_at hk, z6, e0]
  have hN1 := h.1.stock (B' := B + 320) hb (w := kd + 2) (x := cv σ 6 (kd + 2) + y) (by omega) (by omega) (by omega) (by omega)
  have hN := hN1.empty hb hd
  have p : ∀ w, w < 5 → PW E (11 + d) w (40 + d) w := fun w hw => by unfold PW; omega
  have hR := (((h.2.put hb (show PW E 6 (kd + 2) 31 kd by unfold PW; omega) (v := nI (cv σ 6 (kd + 2) + y))).put hb (p 2 (by omega)) (v := -1)).put hb (p 3 (by omega)) (v := 0)).put hb (p 4 (by omega)) (v := 0)
  rw [fill_at] at hN ⊢
  refine INV.lh hN hR hb ?_ ?_
  · refine (((LO.put ?_ rfl).put rfl).put rfl).put rfl
    rw [hZ]
    exact (((LO.rf.skip (by decide)).skip (by omega)).skip (by omega)).skip (by omega)
  · refine HI.skip (HI.skip (HI.skip (HI.skip ?_ (by decide)) (by omega)) (by omega)) (by omega)
    rw [hZ]
    exact (((HI.rf.put (by rw [← e31]; exact e0)).put rfl).put rfl).put rfl
theorem inv_days (h : INV E D B S σ) (hb : NB E) (n : Nat) (hn : n ≤ 4) (hD : D + 4 < 4999) (hB : B + 1000 < 2 ^ 29) (hS : S + 110 < 2 ^ 30) : INV E (D + 4) (B + 480) (S + 80) (sX6_live_s (sX8_behind_s σ n E) 1 n) ∧ sX6_live_r (sX8_behind_s σ n E) 1 n = (sX6_live_s (sX8_behind_s σ n E) 1 n).1 29 3 - σ.1 29 3 := by
  have hlo : ∀ k, k < 29 → (sX8_behind_s σ n E).1 k = σ.1 k := fun k hk => loBehind hk
  have hN := h.1.to hlo hb
  have hR := h.2.to hlo (fun _ _ _ => rfl) hb
  obtain ⟨v, q, ⟨k, t, r1, r2, r3, r4, r5⟩, _⟩ := hN.live hR hb n (by omega) (by omega) (by omega)
  have hok := hN.1.1
  generalize hX : sX6_live_s (sX8_behind_s σ n E) 1 n = X at v q r3 r5 ⊢
  have hi : ∀ x, 29 ≤ x → X.1 x = (sX8_behind_s σ n E).1 x := fun x hx => by
    rw [← hX]
    exact foX6_live gT1 hok (Or.inr (by omega))
  have hRX : RQ E X X := q.to (fun _ _ => rfl) (fun k hk _ => hi k hk) hb
  refine ⟨⟨v.le (by omega) (by omega) (by omega), hRX⟩, ?_⟩
  rw [r1, ← hRX.served, r5, hlo 6 (by decide), ← h.2.served]
  grind
end MO
