section GW
variable {E : gT} {τ σ : gS} {D B S : Nat}
theorem gmv_n {o a q k : Nat} (h : k ≠ o) : gNo (gmv E o a q) k = gNo E k := if_neg h
theorem gmv_n0 {o a q : Nat} : gNo (gmv E o a q) o = gNo E o + 1 := if_pos rfl
theorem NB.mv {o a q : Nat} (h : NB E) (hn : gqR o (gNo E o)) : NB (gmv E o a q) := by
  obtain ⟨b0, b1, b2, b3⟩ := h
  unfold NB
  rcases hn with ⟨rfl, h⟩ | ⟨rfl, h⟩ | ⟨rfl, h⟩ | ⟨rfl, h⟩
  · rw [gmv_n0, gmv_n (by decide), gmv_n (by decide), gmv_n (by decide)]; omega
  · rw [gmv_n0, gmv_n (by decide), gmv_n (by decide), gmv_n (by decide)]; omega
  · rw [gmv_n0, gmv_n (by decide), gmv_n (by decide), gmv_n (by decide)]; omega
  · rw [gmv_n0, gmv_n (by decide), gmv_n (by decide), gmv_n (by decide)]; omega
theorem AR.mv0 {o a q : Nat} (hX : gXs E = []) (hb : NB E) (hn : gqR o (gNo E o)) : (gmv E o a q).1.1 = E.1.1 ∧ (gmv E o a q).2.1 = E.2.1 ∧ (∀ k, 4 < k → (gmv E o a q).1.2.1 k = E.1.2.1 k) ∧ (gmv E o a q).1.2.2.2 = E.1.2.2.2 ∧ gXs (gmv E o a q) = [] ∧ (∀ k, k < 32 → (gmv E o a q).2.2 k = E.2.2 k) ∧ NB (gmv E o a q) :=
  ⟨rfl, rfl, fun k hk => gmv_hi hk (by rcases hn with h | h | h | h <;> omega), rfl, hX, fun k hk => gmv_lo hk, hb.mv hn⟩
theorem PW.c {k j k' j' : Nat} (h : PW E k j k' j') (hb : NB E) : k < 29 ∧ 29 ≤ k' ∧ (k = 1 → j = 9 ∨ j = 10) ∧ (k' = k + 29 ∨ k' < 32) := by
  obtain ⟨b0, b1, b2, b3⟩ := hb
  rcases h with ⟨h1, h2, h3⟩ | ⟨h1, h2⟩ | ⟨h1, h2, h3⟩
  · omega
  · rcases h2 with h2 | h2 | h2 <;> omega
  · rcases h3 with h3 | h3 | h3 | h3 <;> omega
/-- what a row taken in leaves as it was -/
def GR (E : gT) (o n : Nat) (σ τ : gS) : Prop := (∀ k, k < 29 → k ≠ 7 + 4 * o + n → k ≠ 1 → τ.1 k = σ.1 k) ∧ (∀ j, j ≠ 5 + o → τ.1 1 j = σ.1 1 j) ∧ τ.1 1 (5 + o) = nI (n + 1) ∧ (∀ k, 29 ≤ k → k ≠ 36 + 4 * o + n → τ.1 k = σ.1 k) ∧ gNo E o = n ∧ ∀ j, j < (if o = 0 then 3 else 5) → τ.1 (7 + 4 * o + n) j = τ.1 (36 + 4 * o + n) j
theorem INV.grow0 {n a q : Nat} (h : INV E D B S σ) (hb : NB E) (hn : n < 4) (hg : GR E 0 n σ τ) (hrow : BGi τ n) : INV (gmv E 0 a q) D B S τ := by
  obtain ⟨g1, g2, g3, g4, g5, g6⟩ := hg
  obtain ⟨⟨⟨c1, c2, c3, c4, c5⟩, ⟨h2, h3⟩, h4, h5, h6, h7, h8, h9, u1, u2, u3, u4⟩, hR⟩ := h
  obtain ⟨b0, b1, b2, b3⟩ := id hb
  have n0 : gNo (gmv E 0 a q) 0 = n + 1 := by rw [gmv_n0, g5]
  have n2 : gNo (gmv E 0 a q) 1 = gNo E 1 := gmv_n (by decide)
  have n3 : gNo (gmv E 0 a q) 2 = gNo E 2 := gmv_n (by decide)
  have n4 : gNo (gmv E 0 a q) 3 = gNo E 3 := gmv_n (by decide)
  have tb : ∀ j, j ≠ 5 → tB τ 1 j = tB σ 1 j := fun j hj => by unfold tB; rw [g2 j hj]
  have tn : tB τ 1 5 = n + 1 := by unfold tB; rw [g3]; exact nI_clamp (by omega)
  refine ⟨⟨⟨fun j a1 a2 => ?_, by rw [n0, tn], by rw [n2, tb 6 (by decide), c3], by rw [n3, tb 7 (by decide), c4], by rw [n4, tb 8 (by decide), c5]⟩, ⟨h2.eq (g2 9 (by decide)), h3.eq (g2 10 (by decide))⟩, h4.at (g1 6 (by decide) (by omega) (by decide)), fun i hi => ?_, fun i hi => ?_, fun i hi => ?_, fun i hi => ?_, ?_, ⟨fun i x y => ?_, fun i x y => ?_, fun i x y => ?_, fun i x y => ?_⟩⟩, fun k j k' j' hp => ?_⟩
  · by_cases cj : j = 5
    · subst cj
      rw [g3, tn]
      exact ⟨rfl, by simp; omega⟩
    · rw [g2 j cj, tb j cj]
      exact c1 j a1 a2
  · rw [n0] at hi
    by_cases ci : i = n
    · subst ci
      exact hrow
    · exact (h5 i (by omega)).at (g1 _ (by omega) (by omega) (by omega))
  · rw [n2] at hi
    exact (h6 i hi).at (g1 _ (by omega) (by omega) (by omega))
  · rw [n3] at hi
    exact (h7 i hi).at (g1 _ (by omega) (by omega) (by omega))
  · rw [n4] at hi
    exact (h8 i hi).at (g1 _ (by omega) (by omega) (by omega))
  · rw [n4, sumC_at (τ := σ) (fun i hi => by rw [g1 _ (by omega) (by omega) (by omega)]), h9, g1 6 (by decide) (by omega) (by decide)]
  · rw [n0] at y
    rw [g1 _ (by omega) (by omega) (by omega)]
    exact u1 i x (by omega)
  · rw [n2] at y
    rw [g1 _ (by omega) (by omega) (by omega)]
    exact u2 i x (by omega)
  · rw [n3] at y
    rw [g1 _ (by omega) (by omega) (by omega)]
    exact u3 i x (by omega)
  · rw [n4] at y
    rw [g1 _ (by omega) (by omega) (by omega)]
    exact u4 i x (by omega)
  · obtain ⟨p1, p2, p3, p4⟩ := PW.c hp (hb.mv (by unfold gqR; omega))
    by_cases ck : k = 7 + n
    · have hj : j' = j ∧ k' = k + 29 ∧ j < 3 := by
        rcases hp with ⟨x1, _⟩ | ⟨x1, _⟩ | ⟨x1, x2, x3⟩
        · omega
        · omega
        · refine ⟨x1, x2, ?_⟩
          rcases x3 with ⟨x, y, z⟩ | ⟨x, y, z⟩ | ⟨x, y, z⟩ | ⟨x, y, z⟩ <;> omega
      obtain ⟨rfl, rfl, hj⟩ := hj
      subst ck
      exact (g6 j' hj).trans (by rw [show 36 + 4 * 0 + n = 7 + n + 29 from by omega])
    · have hp0 : PW E k j k' j' := by
        rcases hp with x1 | x1 | ⟨x1, x2, x3⟩
        · exact Or.inl x1
        · exact Or.inr (Or.inl x1)
        · refine Or.inr (Or.inr ⟨x1, x2, ?_⟩)
          rcases x3 with ⟨x, y, z⟩ | ⟨x, y, z⟩ | ⟨x, y, z⟩ | ⟨x, y, z⟩
          · exact Or.inl ⟨x, by omega, z⟩
          · exact Or.inr (Or.inl ⟨x, by omega, z⟩)
          · exact Or.inr (Or.inr (Or.inl ⟨x, by omega, z⟩))
          · exact Or.inr (Or.inr (Or.inr ⟨x, by omega, z⟩))
      have e1 : τ.1 k j = σ.1 k j := by
        by_cases k1 : k = 1
        · have hj : j ≠ 5 := by have := p3 k1; omega
          rw [k1]
          exact g2 j hj
        · rw [g1 k p1 (by omega) k1]
      have e2 : τ.1 k' j' = σ.1 k' j' := by rw [g4 k' p2 (by omega)]
      rw [e1, e2]
      exact hR k j k' j' hp0
theorem INV.grow1 {n a q : Nat} (h : INV E D B S σ) (hb : NB E) (hn : n < 4) (hg : GR E 1 n σ τ) (hrow : DGi τ n) : INV (gmv E 1 a q) D B S τ := by
  obtain ⟨g1, g2, g3, g4, g5, g6⟩ := hg
  obtain ⟨⟨⟨c1, c2, c3, c4, c5⟩, ⟨h2, h3⟩, h4, h5, h6, h7, h8, h9, u1, u2, u3, u4⟩, hR⟩ := h
  obtain ⟨b0, b1, b2, b3⟩ := id hb
  have n0 : gNo (gmv E 1 a q) 1 = n + 1 := by rw [gmv_n0, g5]
  have n1 : gNo (gmv E 1 a q) 0 = gNo E 0 := gmv_n (by decide)
  have n3 : gNo (gmv E 1 a q) 2 = gNo E 2 := gmv_n (by decide)
  have n4 : gNo (gmv E 1 a q) 3 = gNo E 3 := gmv_n (by decide)
  have tb : ∀ j, j ≠ 6 → tB τ 1 j = tB σ 1 j := fun j hj => by unfold tB; rw [g2 j hj]
  have tn : tB τ 1 6 = n + 1 := by unfold tB; rw [g3]; exact nI_clamp (by omega)
  refine ⟨⟨⟨fun j a1 a2 => ?_, by rw [n1, tb 5 (by decide), c2], by rw [n0, tn], by rw [n3, tb 7 (by decide), c4], by rw [n4, tb 8 (by decide), c5]⟩, ⟨h2.eq (g2 9 (by decide)), h3.eq (g2 10 (by decide))⟩, h4.at (g1 6 (by decide) (by omega) (by decide)), fun i hi => ?_, fun i hi => ?_, fun i hi => ?_, fun i hi => ?_, ?_, ⟨fun i x y => ?_, fun i x y => ?_, fun i x y => ?_, fun i x y => ?_⟩⟩, fun k j k' j' hp => ?_⟩
  · by_cases cj : j = 6
    · subst cj
      rw [g3, tn]
      exact ⟨rfl, by simp; omega⟩
    · rw [g2 j cj, tb j cj]
      exact c1 j a1 a2
  · rw [n1] at hi
    exact (h5 i hi).at (g1 _ (by omega) (by omega) (by omega))
  · rw [n0] at hi
    by_cases ci : i = n
    · subst ci
      exact hrow
    · exact (h6 i (by omega)).at (g1 _ (by omega) (by omega) (by omega))
  · rw [n3] at hi
    exact (h7 i hi).at (g1 _ (by omega) (by omega) (by omega))
  · rw [n4] at hi
    exact (h8 i hi).at (g1 _ (by omega) (by omega) (by omega))
  · rw [n4, sumC_at (τ := σ) (fun i hi => by rw [g1 _ (by omega) (by omega) (by omega)]), h9, g1 6 (by decide) (by omega) (by decide)]
  · rw [n1] at y
    rw [g1 _ (by omega) (by omega) (by omega)]
    exact u1 i x (by omega)
  · rw [n0] at y
    rw [g1 _ (by omega) (by omega) (by omega)]
    exact u2 i x (by omega)
  · rw [n3] at y
    rw [g1 _ (by omega) (by omega) (by omega)]
    exact u3 i x (by omega)
  · rw [n4] at y
    rw [g1 _ (by omega) (by omega) (by omega)]
    exact u4 i x (by omega)
  · obtain ⟨p1, p2, p3, p4⟩ := PW.c hp (hb.mv (by unfold gqR; omega))
    by_cases ck : k = 11 + n
    · have hj : j' = j ∧ k' = k + 29 ∧ j < 5 := by
        rcases hp with ⟨x1, _⟩ | ⟨x1, _⟩ | ⟨x1, x2, x3⟩
        · omega
        · omega
        · refine ⟨x1, x2, ?_⟩
          rcases x3 with ⟨x, y, z⟩ | ⟨x, y, z⟩ | ⟨x, y, z⟩ | ⟨x, y, z⟩ <;> omega
      obtain ⟨rfl, rfl, hj⟩ := hj
      subst ck
      exact (g6 j' hj).trans (by rw [show 36 + 4 * 1 + n = 11 + n + 29 from by omega])
    · have hp0 : PW E k j k' j' := by
        rcases hp with x1 | x1 | ⟨x1, x2, x3⟩
        · exact Or.inl x1
        · exact Or.inr (Or.inl x1)
        · refine Or.inr (Or.inr ⟨x1, x2, ?_⟩)
          rcases x3 with ⟨x, y, z⟩ | ⟨x, y, z⟩ | ⟨x, y, z⟩ | ⟨x, y, z⟩
          · exact Or.inl ⟨x, by omega, z⟩
          · exact Or.inr (Or.inl ⟨x, by omega, z⟩)
          · exact Or.inr (Or.inr (Or.inl ⟨x, by omega, z⟩))
          · exact Or.inr (Or.inr (Or.inr ⟨x, by omega, z⟩))
      have e1 : τ.1 k j = σ.1 k j := by
        by_cases k1 : k = 1
        · have hj : j ≠ 6 := by have := p3 k1; omega
          rw [k1]
          exact g2 j hj
        · rw [g1 k p1 (by omega) k1]
      have e2 : τ.1 k' j' = σ.1 k' j' := by rw [g4 k' p2 (by omega)]
      rw [e1, e2]
      exact hR k j k' j' hp0
theorem INV.grow2 {n a q : Nat} (h : INV E D B S σ) (hb : NB E) (hn : n < 4) (hg : GR E 2 n σ τ) (hrow : SGi τ n) : INV (gmv E 2 a q) D B S τ := by
  obtain ⟨g1, g2, g3, g4, g5, g6⟩ := hg
  obtain ⟨⟨⟨c1, c2, c3, c4, c5⟩, ⟨h2, h3⟩, h4, h5, h6, h7, h8, h9, u1, u2, u3, u4⟩, hR⟩ := h
  obtain ⟨b0, b1, b2, b3⟩ := id hb
  have n0 : gNo (gmv E 2 a q) 2 = n + 1 := by rw [gmv_n0, g5]
  have n1 : gNo (gmv E 2 a q) 0 = gNo E 0 := gmv_n (by decide)
  have n2 : gNo (gmv E 2 a q) 1 = gNo E 1 := gmv_n (by decide)
  have n4 : gNo (gmv E 2 a q) 3 = gNo E 3 := gmv_n (by decide)
  have tb : ∀ j, j ≠ 7 → tB τ 1 j = tB σ 1 j := fun j hj => by unfold tB; rw [g2 j hj]
  have tn : tB τ 1 7 = n + 1 := by unfold tB; rw [g3]; exact nI_clamp (by omega)
  refine ⟨⟨⟨fun j a1 a2 => ?_, by rw [n1, tb 5 (by decide), c2], by rw [n2, tb 6 (by decide), c3], by rw [n0, tn], by rw [n4, tb 8 (by decide), c5]⟩, ⟨h2.eq (g2 9 (by decide)), h3.eq (g2 10 (by decide))⟩, h4.at (g1 6 (by decide) (by omega) (by decide)), fun i hi => ?_, fun i hi => ?_, fun i hi => ?_, fun i hi => ?_, ?_, ⟨fun i x y => ?_, fun i x y => ?_, fun i x y => ?_, fun i x y => ?_⟩⟩, fun k j k' j' hp => ?_⟩
  · by_cases cj : j = 7
    · subst cj
      rw [g3, tn]
      exact ⟨rfl, by simp; omega⟩
    · rw [g2 j cj, tb j cj]
      exact c1 j a1 a2
  · rw [n1] at hi
    exact (h5 i hi).at (g1 _ (by omega) (by omega) (by omega))
  · rw [n2] at hi
    exact (h6 i hi).at (g1 _ (by omega) (by omega) (by omega))
  · rw [n0] at hi
    by_cases ci : i = n
    · subst ci
      exact hrow
    · exact (h7 i (by omega)).at (g1 _ (by omega) (by omega) (by omega))
  · rw [n4] at hi
    exact (h8 i hi).at (g1 _ (by omega) (by omega) (by omega))
  · rw [n4, sumC_at (τ := σ) (fun i hi => by rw [g1 _ (by omega) (by omega) (by omega)]), h9, g1 6 (by decide) (by omega) (by decide)]
  · rw [n1] at y
    rw [g1 _ (by omega) (by omega) (by omega)]
    exact u1 i x (by omega)
  · rw [n2] at y
    rw [g1 _ (by omega) (by omega) (by omega)]
    exact u2 i x (by omega)
  · rw [n0] at y
    rw [g1 _ (by omega) (by omega) (by omega)]
    exact u3 i x (by omega)
  · rw [n4] at y
    rw [g1 _ (by omega) (by omega) (by omega)]
    exact u4 i x (by omega)
  · obtain ⟨p1, p2, p3, p4⟩ := PW.c hp (hb.mv (by unfold gqR; omega))
    by_cases ck : k = 15 + n
    · have hj : j' = j ∧ k' = k + 29 ∧ j < 5 := by
        rcases hp with ⟨x1, _⟩ | ⟨x1, _⟩ | ⟨x1, x2, x3⟩
        · omega
        · omega
        · refine ⟨x1, x2, ?_⟩
          rcases x3 with ⟨x, y, z⟩ | ⟨x, y, z⟩ | ⟨x, y, z⟩ | ⟨x, y, z⟩ <;> omega
      obtain ⟨rfl, rfl, hj⟩ := hj
      subst ck
      exact (g6 j' hj).trans (by rw [show 36 + 4 * 2 + n = 15 + n + 29 from by omega])
    · have hp0 : PW E k j k' j' := by
        rcases hp with x1 | x1 | ⟨x1, x2, x3⟩
        · exact Or.inl x1
        · exact Or.inr (Or.inl x1)
        · refine Or.inr (Or.inr ⟨x1, x2, ?_⟩)
          rcases x3 with ⟨x, y, z⟩ | ⟨x, y, z⟩ | ⟨x, y, z⟩ | ⟨x, y, z⟩
          · exact Or.inl ⟨x, by omega, z⟩
          · exact Or.inr (Or.inl ⟨x, by omega, z⟩)
          · exact Or.inr (Or.inr (Or.inl ⟨x, by omega, z⟩))
          · exact Or.inr (Or.inr (Or.inr ⟨x, by omega, z⟩))
      have e1 : τ.1 k j = σ.1 k j := by
        by_cases k1 : k = 1
        · have hj : j ≠ 7 := by have := p3 k1; omega
          rw [k1]
          exact g2 j hj
        · rw [g1 k p1 (by omega) k1]
      have e2 : τ.1 k' j' = σ.1 k' j' := by rw [g4 k' p2 (by omega)]
      rw [e1, e2]
      exact hR k j k' j' hp0
theorem INV.grow3 {n a q : Nat} (h : INV E D B S σ) (hb : NB E) (hn : n < 10) (hg : GR E 3 n σ τ) (hrow : CGi τ n ∧ τ.1 (19 + n) 3 = 0) : INV (gmv E 3 a q) D B S τ := by
  obtain ⟨g1, g2, g3, g4, g5, g6⟩ := hg
  obtain ⟨⟨⟨c1, c2, c3, c4, c5⟩, ⟨h2, h3⟩, h4, h5, h6, h7, h8, h9, u1, u2, u3, u4⟩, hR⟩ := h
  obtain ⟨b0, b1, b2, b3⟩ := id hb
  have n0 : gNo (gmv E 3 a q) 3 = n + 1 := by rw [gmv_n0, g5]
  have n1 : gNo (gmv E 3 a q) 0 = gNo E 0 := gmv_n (by decide)
  have n2 : gNo (gmv E 3 a q) 1 = gNo E 1 := gmv_n (by decide)
  have n3 : gNo (gmv E 3 a q) 2 = gNo E 2 := gmv_n (by decide)
  have tb : ∀ j, j ≠ 8 → tB τ 1 j = tB σ 1 j := fun j hj => by unfold tB; rw [g2 j hj]
  have tn : tB τ 1 8 = n + 1 := by unfold tB; rw [g3]; exact nI_clamp (by omega)
  refine ⟨⟨⟨fun j a1 a2 => ?_, by rw [n1, tb 5 (by decide), c2], by rw [n2, tb 6 (by decide), c3], by rw [n3, tb 7 (by decide), c4], by rw [n0, tn]⟩, ⟨h2.eq (g2 9 (by decide)), h3.eq (g2 10 (by decide))⟩, h4.at (g1 6 (by decide) (by omega) (by decide)), fun i hi => ?_, fun i hi => ?_, fun i hi => ?_, fun i hi => ?_, ?_, ⟨fun i x y => ?_, fun i x y => ?_, fun i x y => ?_, fun i x y => ?_⟩⟩, fun k j k' j' hp => ?_⟩
  · by_cases cj : j = 8
    · subst cj
      rw [g3, tn]
      exact ⟨rfl, by simp; omega⟩
    · rw [g2 j cj, tb j cj]
      exact c1 j a1 a2
  · rw [n1] at hi
    exact (h5 i hi).at (g1 _ (by omega) (by omega) (by omega))
  · rw [n2] at hi
    exact (h6 i hi).at (g1 _ (by omega) (by omega) (by omega))
  · rw [n3] at hi
    exact (h7 i hi).at (g1 _ (by omega) (by omega) (by omega))
  · rw [n0] at hi
    by_cases ci : i = n
    · subst ci
      exact hrow.1
    · exact (h8 i (by omega)).at (g1 _ (by omega) (by omega) (by omega))
  · rw [n0]
    have e : sumC τ (n + 1) = sumC τ n + τ.1 (19 + n) 3 := rfl
    rw [e, hrow.2, i32_add0, sumC_at (τ := σ) (fun i hi => by rw [g1 _ (by omega) (by omega) (by omega)]), ← g5, h9, g1 6 (by decide) (by omega) (by decide)]
  · rw [n1] at y
    rw [g1 _ (by omega) (by omega) (by omega)]
    exact u1 i x (by omega)
  · rw [n2] at y
    rw [g1 _ (by omega) (by omega) (by omega)]
    exact u2 i x (by omega)
  · rw [n3] at y
    rw [g1 _ (by omega) (by omega) (by omega)]
    exact u3 i x (by omega)
  · rw [n0] at y
    rw [g1 _ (by omega) (by omega) (by omega)]
    exact u4 i x (by omega)
  · obtain ⟨p1, p2, p3, p4⟩ := PW.c hp (hb.mv (by unfold gqR; omega))
    by_cases ck : k = 19 + n
    · have hj : j' = j ∧ k' = k + 29 ∧ j < 5 := by
        rcases hp with ⟨x1, _⟩ | ⟨x1, _⟩ | ⟨x1, x2, x3⟩
        · omega
        · omega
        · refine ⟨x1, x2, ?_⟩
          rcases x3 with ⟨x, y, z⟩ | ⟨x, y, z⟩ | ⟨x, y, z⟩ | ⟨x, y, z⟩ <;> omega
      obtain ⟨rfl, rfl, hj⟩ := hj
      subst ck
      exact (g6 j' hj).trans (by rw [show 36 + 4 * 3 + n = 19 + n + 29 from by omega])
    · have hp0 : PW E k j k' j' := by
        rcases hp with x1 | x1 | ⟨x1, x2, x3⟩
        · exact Or.inl x1
        · exact Or.inr (Or.inl x1)
        · refine Or.inr (Or.inr ⟨x1, x2, ?_⟩)
          rcases x3 with ⟨x, y, z⟩ | ⟨x, y, z⟩ | ⟨x, y, z⟩ | ⟨x, y, z⟩
          · exact Or.inl ⟨x, by omega, z⟩
          · exact Or.inr (Or.inl ⟨x, by omega, z⟩)
          · exact Or.inr (Or.inr (Or.inl ⟨x, by omega, z⟩))
          · exact Or.inr (Or.inr (Or.inr ⟨x, by omega, z⟩))
      have e1 : τ.1 k j = σ.1 k j := by
        by_cases k1 : k = 1
        · have hj : j ≠ 8 := by have := p3 k1; omega
          rw [k1]
          exact g2 j hj
        · rw [g1 k p1 (by omega) k1]
      have e2 : τ.1 k' j' = σ.1 k' j' := by rw [g4 k' p2 (by omega)]
      rw [e1, e2]
      exact hR k j k' j' hp0
theorem inv_bed2 {n a q x y : Nat} (h : INV E D B S σ) (hb : NB E) (hn : gNo E 0 = n) (hn4 : n < 4) (hx : x ≤ 9) (hy : y ≤ 99) : INV (gmv E 0 a q) D B S (gu (gu (gu (gwr σ (36 + n) (upd (upd (upd (fun _ => 0) 0 (nI x)) 1 (nI y)) 2 (0))) (7 + n) 0 (nI x)) (7 + n) 1 (nI y)) 1 5 (nI (n + 1))) := by
  obtain ⟨u1, u2, u3, u4⟩ := h.1.2.2.2.2.2.2.2.2
  have z2 := u1 n hn4 (by omega)
  generalize hX : gu (gu (gu (gwr σ (36 + n) (upd (upd (upd (fun _ => 0) 0 (nI x)) 1 (nI y)) 2 (0))) (7 + n) 0 (nI x)) (7 + n) 1 (nI y)) 1 5 (nI (n + 1)) = X
  have e1 : ∀ k, k < 29 → k ≠ 7 + n → k ≠ 1 → X.1 k = σ.1 k := fun k hk h1 h2 => by rw [← hX, gu_ne h2, gu_ne h1, gu_ne h1, gwr_ne (by omega)]
  have e2 : ∀ j, j ≠ 5 → X.1 1 j = σ.1 1 j := fun j hj => by rw [← hX, gu_at, if_neg hj, gu_ne (by omega), gu_ne (by omega), gwr_ne (by omega)]
  have e3 : X.1 1 5 = nI (n + 1) := by rw [← hX, gu_at, if_pos rfl]
  have e4 : ∀ k, 29 ≤ k → k ≠ 36 + n → X.1 k = σ.1 k := fun k hk h1 => by rw [← hX, gu_ne (by omega), gu_ne (by omega), gu_ne (by omega), gwr_ne h1]
  have eS : X.1 (36 + n) = upd (upd (upd (fun _ => 0) 0 (nI x)) 1 (nI y)) 2 (0) := by rw [← hX, gu_ne (by omega), gu_ne (by omega), gu_ne (by omega), gwr_at]
  have c0 : X.1 (7 + n) 0 = nI x := by rw [← hX, gu_ne (by omega), gu_at, if_neg (by decide), gu_at, if_pos rfl]
  have c1 : X.1 (7 + n) 1 = nI y := by rw [← hX, gu_ne (by omega), gu_at, if_pos rfl]
  have c2 : X.1 (7 + n) 2 = 0 := by rw [← hX, gu_ne (by omega), gu_at, if_neg (by decide), gu_at, if_neg (by decide), gwr_ne (by omega), z2]
  have g : GR E 0 n σ X := by
    refine ⟨fun k h1 h2 h3 => e1 k h1 (by omega) h3, e2, e3, fun k h1 h2 => e4 k h1 (by omega), hn, fun j hj => ?_⟩
    show X.1 (7 + n) j = X.1 (36 + n) j
    have hj : j < 3 := by simpa using hj
    rw [eS]
    rcases (show j = 0 ∨ j = 1 ∨ j = 2 by omega) with rfl | rfl | rfl
    · rw [c0]; simp [upd]
    · rw [c1]; simp [upd]
    · rw [c2]; simp [upd]
  have n0 := num.of (b := 9) c0 hx (by decide)
  have n1 := num.of (b := 99) c1 hy (by decide)
  exact INV.grow0 h hb hn4 g ⟨n0.1, n1.1, (num.of (x := 0) c2 (Nat.zero_le _) (by rw [n1.2]; omega)).1⟩
theorem inv_drum2 {n a q x y : Nat} (h : INV E D B S σ) (hb : NB E) (hn : gNo E 1 = n) (hn4 : n < 4) (hx1 : 1 ≤ x) (hx : x ≤ 40) (hy : y ≤ 9) : INV (gmv E 1 a q) D B S (gu (gu (gu (gwr σ (40 + n) (upd (upd (upd (upd (upd (fun _ => 0) 0 (nI x)) 1 (nI y)) 2 (-1)) 3 (0)) 4 (0))) (11 + n) 0 (nI x)) (11 + n) 1 (nI y)) 1 6 (nI (n + 1))) := by
  obtain ⟨u1, u2, u3, u4⟩ := h.1.2.2.2.2.2.2.2.2
  obtain ⟨z2, z3, z4⟩ := u2 n hn4 (by omega)
  generalize hX : gu (gu (gu (gwr σ (40 + n) (upd (upd (upd (upd (upd (fun _ => 0) 0 (nI x)) 1 (nI y)) 2 (-1)) 3 (0)) 4 (0))) (11 + n) 0 (nI x)) (11 + n) 1 (nI y)) 1 6 (nI (n + 1)) = X
  have e1 : ∀ k, k < 29 → k ≠ 11 + n → k ≠ 1 → X.1 k = σ.1 k := fun k hk h1 h2 => by rw [← hX, gu_ne h2, gu_ne h1, gu_ne h1, gwr_ne (by omega)]
  have e2 : ∀ j, j ≠ 6 → X.1 1 j = σ.1 1 j := fun j hj => by rw [← hX, gu_at, if_neg hj, gu_ne (by omega), gu_ne (by omega), gwr_ne (by omega)]
  have e3 : X.1 1 6 = nI (n + 1) := by rw [← hX, gu_at, if_pos rfl]
  have e4 : ∀ k, 29 ≤ k → k ≠ 40 + n → X.1 k = σ.1 k := fun k hk h1 => by rw [← hX, gu_ne (by omega), gu_ne (by omega), gu_ne (by omega), gwr_ne h1]
  have eS : X.1 (40 + n) = upd (upd (upd (upd (upd (fun _ => 0) 0 (nI x)) 1 (nI y)) 2 (-1)) 3 (0)) 4 (0) := by rw [← hX, gu_ne (by omega), gu_ne (by omega), gu_ne (by omega), gwr_at]
  have c0 : X.1 (11 + n) 0 = nI x := by rw [← hX, gu_ne (by omega), gu_at, if_neg (by decide), gu_at, if_pos rfl]
  have c1 : X.1 (11 + n) 1 = nI y := by rw [← hX, gu_ne (by omega), gu_at, if_pos rfl]
  have c2 : X.1 (11 + n) 2 = -1 := by rw [← hX, gu_ne (by omega), gu_at, if_neg (by decide), gu_at, if_neg (by decide), gwr_ne (by omega), z2]
  have c3 : X.1 (11 + n) 3 = 0 := by rw [← hX, gu_ne (by omega), gu_at, if_neg (by decide), gu_at, if_neg (by decide), gwr_ne (by omega), z3]
  have c4 : X.1 (11 + n) 4 = 0 := by rw [← hX, gu_ne (by omega), gu_at, if_neg (by decide), gu_at, if_neg (by decide), gwr_ne (by omega), z4]
  have g : GR E 1 n σ X := by
    refine ⟨fun k h1 h2 h3 => e1 k h1 (by omega) h3, e2, e3, fun k h1 h2 => e4 k h1 (by omega), hn, fun j hj => ?_⟩
    show X.1 (11 + n) j = X.1 (40 + n) j
    have hj : j < 5 := by simpa using hj
    rw [eS]
    rcases (show j = 0 ∨ j = 1 ∨ j = 2 ∨ j = 3 ∨ j = 4 by omega) with rfl | rfl | rfl | rfl | rfl
    · rw [c0]; simp [upd]
    · rw [c1]; simp [upd]
    · rw [c2]; simp [upd]
    · rw [c3]; simp [upd]
    · rw [c4]; simp [upd]
  have n0 := num.of (b := 40) c0 hx (by decide)
  have n1 := num.of (b := 9) c1 hy (by decide)
  exact INV.grow1 h hb hn4 g ⟨⟨n0.1, by rw [n0.2]; exact hx1⟩, n1.1, Or.inl ⟨c2, c3, c4⟩⟩
theorem inv_smug2 {n a q x y : Nat} (h : INV E D B S σ) (hb : NB E) (hn : gNo E 2 = n) (hn4 : n < 4) (hx1 : 2 ≤ x) (hx : x ≤ 14) (hy : y ≤ 30) : INV (gmv E 2 a q) D B S (gu (gu (gu (gwr σ (44 + n) (upd (upd (upd (upd (upd (fun _ => 0) 0 (nI x)) 1 (nI y)) 2 (0)) 3 (0)) 4 (0))) (15 + n) 0 (nI x)) (15 + n) 1 (nI y)) 1 7 (nI (n + 1))) := by
  obtain ⟨u1, u2, u3, u4⟩ := h.1.2.2.2.2.2.2.2.2
  obtain ⟨z2, z3, z4⟩ := u3 n hn4 (by omega)
  generalize hX : gu (gu (gu (gwr σ (44 + n) (upd (upd (upd (upd (upd (fun _ => 0) 0 (nI x)) 1 (nI y)) 2 (0)) 3 (0)) 4 (0))) (15 + n) 0 (nI x)) (15 + n) 1 (nI y)) 1 7 (nI (n + 1)) = X
  have e1 : ∀ k, k < 29 → k ≠ 15 + n → k ≠ 1 → X.1 k = σ.1 k := fun k hk h1 h2 => by rw [← hX, gu_ne h2, gu_ne h1, gu_ne h1, gwr_ne (by omega)]
  have e2 : ∀ j, j ≠ 7 → X.1 1 j = σ.1 1 j := fun j hj => by rw [← hX, gu_at, if_neg hj, gu_ne (by omega), gu_ne (by omega), gwr_ne (by omega)]
  have e3 : X.1 1 7 = nI (n + 1) := by rw [← hX, gu_at, if_pos rfl]
  have e4 : ∀ k, 29 ≤ k → k ≠ 44 + n → X.1 k = σ.1 k := fun k hk h1 => by rw [← hX, gu_ne (by omega), gu_ne (by omega), gu_ne (by omega), gwr_ne h1]
  have eS : X.1 (44 + n) = upd (upd (upd (upd (upd (fun _ => 0) 0 (nI x)) 1 (nI y)) 2 (0)) 3 (0)) 4 (0) := by rw [← hX, gu_ne (by omega), gu_ne (by omega), gu_ne (by omega), gwr_at]
  have c0 : X.1 (15 + n) 0 = nI x := by rw [← hX, gu_ne (by omega), gu_at, if_neg (by decide), gu_at, if_pos rfl]
  have c1 : X.1 (15 + n) 1 = nI y := by rw [← hX, gu_ne (by omega), gu_at, if_pos rfl]
  have c2 : X.1 (15 + n) 2 = 0 := by rw [← hX, gu_ne (by omega), gu_at, if_neg (by decide), gu_at, if_neg (by decide), gwr_ne (by omega), z2]
  have c3 : X.1 (15 + n) 3 = 0 := by rw [← hX, gu_ne (by omega), gu_at, if_neg (by decide), gu_at, if_neg (by decide), gwr_ne (by omega), z3]
  have c4 : X.1 (15 + n) 4 = 0 := by rw [← hX, gu_ne (by omega), gu_at, if_neg (by decide), gu_at, if_neg (by decide), gwr_ne (by omega), z4]
  have g : GR E 2 n σ X := by
    refine ⟨fun k h1 h2 h3 => e1 k h1 (by omega) h3, e2, e3, fun k h1 h2 => e4 k h1 (by omega), hn, fun j hj => ?_⟩
    show X.1 (15 + n) j = X.1 (44 + n) j
    have hj : j < 5 := by simpa using hj
    rw [eS]
    rcases (show j = 0 ∨ j = 1 ∨ j = 2 ∨ j = 3 ∨ j = 4 by omega) with rfl | rfl | rfl | rfl | rfl
    · rw [c0]; simp [upd]
    · rw [c1]; simp [upd]
    · rw [c2]; simp [upd]
    · rw [c3]; simp [upd]
    · rw [c4]; simp [upd]
  have n0 := num.of (b := 14) c0 hx (by decide)
  have n1 := num.of (b := 30) c1 hy (by decide)
  exact INV.grow2 h hb hn4 g ⟨⟨n0.1, by rw [n0.2]; exact hx1⟩, n1.1, Or.inl ⟨c2, c3⟩⟩
theorem inv_card2 {n a q x y : Nat} (h : INV E D B S σ) (hb : NB E) (hn : gNo E 3 = n) (hn4 : n < 10) (hx : x ≤ 9) (hy : y ≤ 10) : INV (gmv E 3 a q) D B S (gu (gu (gu (gu (gwr σ (48 + n) (upd (upd (upd (upd (upd (fun _ => 0) 0 (nI x)) 1 (nI y)) 2 (nI x)) 3 (0)) 4 (0))) (19 + n) 0 (nI x)) (19 + n) 1 (nI y)) (19 + n) 2 (nI x)) 1 8 (nI (n + 1))) := by
  obtain ⟨u1, u2, u3, u4⟩ := h.1.2.2.2.2.2.2.2.2
  obtain ⟨z3, z4⟩ := u4 n hn4 (by omega)
  generalize hX : gu (gu (gu (gu (gwr σ (48 + n) (upd (upd (upd (upd (upd (fun _ => 0) 0 (nI x)) 1 (nI y)) 2 (nI x)) 3 (0)) 4 (0))) (19 + n) 0 (nI x)) (19 + n) 1 (nI y)) (19 + n) 2 (nI x)) 1 8 (nI (n + 1)) = X
  have e1 : ∀ k, k < 29 → k ≠ 19 + n → k ≠ 1 → X.1 k = σ.1 k := fun k hk h1 h2 => by rw [← hX, gu_ne h2, gu_ne h1, gu_ne h1, gu_ne h1, gwr_ne (by omega)]
  have e2 : ∀ j, j ≠ 8 → X.1 1 j = σ.1 1 j := fun j hj => by rw [← hX, gu_at, if_neg hj, gu_ne (by omega), gu_ne (by omega), gu_ne (by omega), gwr_ne (by omega)]
  have e3 : X.1 1 8 = nI (n + 1) := by rw [← hX, gu_at, if_pos rfl]
  have e4 : ∀ k, 29 ≤ k → k ≠ 48 + n → X.1 k = σ.1 k := fun k hk h1 => by rw [← hX, gu_ne (by omega), gu_ne (by omega), gu_ne (by omega), gu_ne (by omega), gwr_ne h1]
  have eS : X.1 (48 + n) = upd (upd (upd (upd (upd (fun _ => 0) 0 (nI x)) 1 (nI y)) 2 (nI x)) 3 (0)) 4 (0) := by rw [← hX, gu_ne (by omega), gu_ne (by omega), gu_ne (by omega), gu_ne (by omega), gwr_at]
  have c0 : X.1 (19 + n) 0 = nI x := by rw [← hX, gu_ne (by omega), gu_at, if_neg (by decide), gu_at, if_neg (by decide), gu_at, if_pos rfl]
  have c1 : X.1 (19 + n) 1 = nI y := by rw [← hX, gu_ne (by omega), gu_at, if_neg (by decide), gu_at, if_pos rfl]
  have c2 : X.1 (19 + n) 2 = nI x := by rw [← hX, gu_ne (by omega), gu_at, if_pos rfl]
  have c3 : X.1 (19 + n) 3 = 0 := by rw [← hX, gu_ne (by omega), gu_at, if_neg (by decide), gu_at, if_neg (by decide), gu_at, if_neg (by decide), gwr_ne (by omega), z3]
  have c4 : X.1 (19 + n) 4 = 0 := by rw [← hX, gu_ne (by omega), gu_at, if_neg (by decide), gu_at, if_neg (by decide), gu_at, if_neg (by decide), gwr_ne (by omega), z4]
  have g : GR E 3 n σ X := by
    refine ⟨fun k h1 h2 h3 => e1 k h1 (by omega) h3, e2, e3, fun k h1 h2 => e4 k h1 (by omega), hn, fun j hj => ?_⟩
    show X.1 (19 + n) j = X.1 (48 + n) j
    have hj : j < 5 := by simpa using hj
    rw [eS]
    rcases (show j = 0 ∨ j = 1 ∨ j = 2 ∨ j = 3 ∨ j = 4 by omega) with rfl | rfl | rfl | rfl | rfl
    · rw [c0]; simp [upd]
    · rw [c1]; simp [upd]
    · rw [c2]; simp [upd]
    · rw [c3]; simp [upd]
    · rw [c4]; simp [upd]
  have n0 := num.of (b := 9) c0 hx (by decide)
  have n1 := num.of (b := 10) c1 hy (by decide)
  exact INV.grow3 h hb hn4 g ⟨⟨n0.1, n1.1, (num.of (b := cv X (19 + n) 0) (x := x) c2 (by rw [n0.2]; exact Nat.le_refl _) (by rw [n0.2]; omega)).1⟩, c3⟩
end GW
