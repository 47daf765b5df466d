section DY
variable {E : gT} {τ ρ : gS} {D B S : Nat}
/-- the smugglers' part of a day -/
theorem NV.travel (h : NV E D B S τ) (hR : RQ E τ ρ) (hb : NB E) (hB : B + 120 < 2 ^ 29) (hD : D ≤ 4999) : NV E D (B + 120) S (sX6_travel_s τ 1) ∧ RQ E (sX6_travel_s τ 1) (itr stX8_pass_10 (gNo E 2) ρ) ∧ (∀ w, w ≠ 1 → (sX6_travel_s τ 1).1 6 w = τ.1 6 w) ∧ (∀ k, k ≠ 6 → (k < 15 ∨ 19 ≤ k) → (sX6_travel_s τ 1).1 k = τ.1 k) := by
  obtain ⟨h1, ⟨h2, h3⟩, ⟨s0, s1, s2, s3, s4, s5, s6⟩, h5, h6, h7, h8, h9, h10⟩ := h
  obtain ⟨b0, b1, b2, b3⟩ := id hb
  unfold sX6_travel_s
  rw [h1.2.2.2.1]
  have key := itr_relN (stX6_travel_2 1) stX8_pass_10 (fun j x y => ((∀ i, i < gNo E 2 → SGi x i) ∧ num x 6 1 (B + 30 * j) ∧ (∀ w, w ≠ 1 → x.1 6 w = τ.1 6 w) ∧ (∀ k, k ≠ 6 → (k < 15 ∨ 15 + gNo E 2 ≤ k) → x.1 k = τ.1 k)) ∧ RQ E x y) (gNo E 2) (fun j x y hj hx => ?_) τ ρ ⟨⟨h7, s1, fun _ _ => rfl, fun _ _ _ => rfl⟩, hR⟩
  · obtain ⟨⟨k1, k2, k3, k4⟩, k5⟩ := key
    refine ⟨⟨h1.at (fun j _ _ => by rw [k4 1 (by decide) (by omega)]), ⟨h2.eq (by rw [k4 1 (by decide) (by omega)]), h3.eq (by rw [k4 1 (by decide) (by omega)])⟩, ⟨(s0.eq (k3 0 (by decide))).le (by omega), k2.le (by omega), (s2.eq (k3 2 (by decide))).le (by omega), (s3.eq (k3 3 (by decide))).le (by omega), s4.eq (k3 4 (by decide)), s5.eq (k3 5 (by decide)), s6.eq (k3 6 (by decide))⟩, fun i hi => (h5 i hi).at (k4 _ (by omega) (by omega)), fun i hi => (h6 i hi).at (k4 _ (by omega) (by omega)), k1, fun i hi => (h8 i hi).at (k4 _ (by omega) (by omega)), ?_, ?_⟩, k5, k3, fun k hk h => k4 k hk (by omega)⟩
    · rw [sumC_at (τ := τ) (fun i hi => by rw [k4 (19 + i) (by omega) (by omega)]), h9, k3 5 (by decide)]
    · obtain ⟨u1, u2, u3, u4⟩ := h10
      refine ⟨fun i a b => ?_, fun i a b => ?_, fun i a b => ?_, fun i a b => ?_⟩
      · rw [k4 _ (by omega) (by omega)]; exact u1 i a b
      · rw [k4 _ (by omega) (by omega)]; exact u2 i a b
      · rw [k4 _ (by omega) (by omega)]; exact u3 i a b
      · rw [k4 _ (by omega) (by omega)]; exact u4 i a b
  · obtain ⟨⟨k1, k2, k3, k4⟩, k5⟩ := hx
    have hs := k1 j hj
    obtain ⟨g1, g2, g3⟩ := hs.day k2 (by omega)
    have e1 : x.1 1 = τ.1 1 := k4 1 (by decide) (by omega)
    refine ⟨⟨fun i hi => ?_, g2.le (by omega), fun w hw => (g3 w hw).trans (k3 w hw), fun k hk h => (travel_fr (by omega) hk).trans (k4 k hk h)⟩, k5.smugStep hb hj ?_ (h3.eq (by rw [e1])) ((h2.eq (by rw [e1])).le hD)⟩
    · by_cases c : i = j
      · subst c; exact g1
      · exact (k1 i hi).at (travel_fr (by omega) (by omega))
    · rcases hs.2.2 with ⟨z, _⟩ | ⟨_, l, l1⟩ | ⟨_, l, l1⟩
      · exact Or.inl z
      · have := l.2
        have := hs.1.1.2
        exact Or.inr (by rw [l.1]; exact nI_le (a := 1) l1 (by omega))
      · have := l.2
        exact Or.inr (by rw [l.1]; exact nI_le (a := 1) l1 (by omega))
/-- the drums' -/
theorem NV.warm (h : NV E D B S τ) (hR : RQ E τ ρ) (hb : NB E) : NV E D B S (sX6_warm_s τ 1) ∧ RQ E (sX6_warm_s τ 1) (itr stX8_pass_145 (gNo E 1) ρ) ∧ (∀ k, (k < 11 ∨ 15 ≤ k) → (sX6_warm_s τ 1).1 k = τ.1 k) := by
  obtain ⟨h1, ⟨h2, h3⟩, h4, h5, h6, h7, h8, h9, h10⟩ := h
  obtain ⟨b0, b1, b2, b3⟩ := id hb
  unfold sX6_warm_s
  rw [h1.2.2.1]
  have key := itr_relN (stX6_warm_2 1) stX8_pass_145 (fun j x y => ((∀ i, i < gNo E 1 → DGi x i) ∧ (∀ k, (k < 11 ∨ 11 + gNo E 1 ≤ k) → x.1 k = τ.1 k)) ∧ RQ E x y) (gNo E 1) (fun j x y hj hx => ?_) τ ρ ⟨⟨h6, fun _ _ => rfl⟩, hR⟩
  · obtain ⟨⟨k1, k4⟩, k5⟩ := key
    refine ⟨⟨h1.at (fun j _ _ => by rw [k4 1 (by omega)]), ⟨h2.eq (by rw [k4 1 (by omega)]), h3.eq (by rw [k4 1 (by omega)])⟩, h4.at (k4 6 (by omega)), fun i hi => (h5 i hi).at (k4 _ (by omega)), k1, fun i hi => (h7 i hi).at (k4 _ (by omega)), fun i hi => (h8 i hi).at (k4 _ (by omega)), ?_, ?_⟩, k5, fun k h => k4 k (by omega)⟩
    · rw [sumC_at (τ := τ) (fun i hi => by rw [k4 (19 + i) (by omega)]), h9, k4 6 (by omega)]
    · obtain ⟨u1, u2, u3, u4⟩ := h10
      refine ⟨fun i a b => ?_, fun i a b => ?_, fun i a b => ?_, fun i a b => ?_⟩
      · rw [k4 _ (by omega)]; exact u1 i a b
      · rw [k4 _ (by omega)]; exact u2 i a b
      · rw [k4 _ (by omega)]; exact u3 i a b
      · rw [k4 _ (by omega)]; exact u4 i a b
  · obtain ⟨⟨k1, k4⟩, k5⟩ := hx
    have hs := k1 j hj
    refine ⟨⟨fun i hi => ?_, fun k h => (warm_fr (by omega)).trans (k4 k h)⟩, k5.drumStep hb hj ?_⟩
    · by_cases c : i = j
      · subst c; exact hs.day
      · exact (k1 i hi).at (warm_fr (by omega))
    · rcases hs.2.2 with ⟨z, _, l⟩ | ⟨z, _⟩
      · exact Or.inl ⟨z, l⟩
      · refine Or.inr ?_
        rcases z with z | z <;> (rw [z]; decide)
/-- the beds' -/
theorem NV.grow (h : NV E D B S τ) (hR : RQ E τ ρ) (hb : NB E) : NV E D B S (sX6_grow_s τ 1) ∧ RQ E (sX6_grow_s τ 1) (itr stX8_pass_220 (gNo E 0) ρ) ∧ (∀ k, (k < 7 ∨ 11 ≤ k) → (sX6_grow_s τ 1).1 k = τ.1 k) := by
  obtain ⟨h1, ⟨h2, h3⟩, h4, h5, h6, h7, h8, h9, h10⟩ := h
  obtain ⟨b0, b1, b2, b3⟩ := id hb
  unfold sX6_grow_s
  rw [h1.2.1]
  have key := itr_relN (stX6_grow_2 1) stX8_pass_220 (fun j x y => ((∀ i, i < gNo E 0 → BGi x i) ∧ (∀ k, (k < 7 ∨ 7 + gNo E 0 ≤ k) → x.1 k = τ.1 k)) ∧ RQ E x y) (gNo E 0) (fun j x y hj hx => ?_) τ ρ ⟨⟨h5, fun _ _ => rfl⟩, hR⟩
  · obtain ⟨⟨k1, k4⟩, k5⟩ := key
    refine ⟨⟨h1.at (fun j _ _ => by rw [k4 1 (by omega)]), ⟨h2.eq (by rw [k4 1 (by omega)]), h3.eq (by rw [k4 1 (by omega)])⟩, h4.at (k4 6 (by omega)), k1, fun i hi => (h6 i hi).at (k4 _ (by omega)), fun i hi => (h7 i hi).at (k4 _ (by omega)), fun i hi => (h8 i hi).at (k4 _ (by omega)), ?_, ?_⟩, k5, fun k h => k4 k (by omega)⟩
    · rw [sumC_at (τ := τ) (fun i hi => by rw [k4 (19 + i) (by omega)]), h9, k4 6 (by omega)]
    · obtain ⟨u1, u2, u3, u4⟩ := h10
      refine ⟨fun i a b => ?_, fun i a b => ?_, fun i a b => ?_, fun i a b => ?_⟩
      · rw [k4 _ (by omega)]; exact u1 i a b
      · rw [k4 _ (by omega)]; exact u2 i a b
      · rw [k4 _ (by omega)]; exact u3 i a b
      · rw [k4 _ (by omega)]; exact u4 i a b
  · obtain ⟨⟨k1, k4⟩, k5⟩ := hx
    have hs := k1 j hj
    refine ⟨⟨fun i hi => ?_, fun k h => (grow_fr (by omega)).trans (k4 k h)⟩, k5.bedStep hb hj⟩
    by_cases c : i = j
    · subst c; exact hs.day
    · exact (k1 i hi).at (grow_fr (by omega))
/-- what a while of serving comes to -/
def SV (E : gT) (τ τ' : gS) (m : Nat) (r : Int32) : Prop := ∃ k t, r = nI k ∧ k ≤ m ∧ DS τ τ' k t ∧ ((∀ i, i < gNo E 3 → cv τ 6 4 < cv τ (19 + i) 1) → k = 0) ∧ τ'.1 6 5 = τ.1 6 5 + nI k
/-- the cards' -/
theorem NV.serve (h : NV E D B S τ) (hR : RQ E τ ρ) (hb : NB E) (hB : B < 2 ^ 29) (hS : S + 30 < 2 ^ 30) : NV E D B (S + 20) (sX6_serve_s τ 1) ∧ RQ E (sX6_serve_s τ 1) (itr stX8_pass_282 (gNo E 3) ρ) ∧ SV E τ (sX6_serve_s τ 1) 20 (sX6_serve_r τ 1) ∧ (∀ i, i < gNo E 3 → (sX6_serve_s τ 1).1 (19 + i) 1 = τ.1 (19 + i) 1) := by
  obtain ⟨h1, ⟨h2, h3⟩, h4, h5, h6, h7, h8, h9, h10⟩ := h
  obtain ⟨b0, b1, b2, b3⟩ := id hb
  unfold sX6_serve_s sX6_serve_r
  rw [h1.2.2.2.2]
  have key := itr_relN (stX6_serve_4 1) stX8_pass_282 (fun j (x : gS × Int32) y => ((∀ i, i < gNo E 3 → CGi x.1 i) ∧ STi x.1 B (S + 2 * j) ∧ (sumC x.1 (gNo E 3) = x.1.1 6 5) ∧ (∀ i, i < gNo E 3 → x.1.1 (19 + i) 1 = τ.1 (19 + i) 1) ∧ SV E τ x.1 (2 * j) x.2 ∧ (∀ k, k ≠ 6 → (k < 19 ∨ 19 + gNo E 3 ≤ k) → x.1.1 k = τ.1 k)) ∧ RQ E x.1 y) (gNo E 3) (fun j x y hj hx => ?_) (τ, (0 : Int32)) ρ ⟨⟨h8, h4, h9, fun _ _ => rfl, ⟨0, 0, rfl, Nat.zero_le _, DS.rf, fun _ => rfl, (i32_add0 _).symm⟩, fun _ _ _ => rfl⟩, hR⟩
  · generalize itr (stX6_serve_4 1) (gNo E 3) (τ, (0 : Int32)) = x at key
    obtain ⟨⟨k1, k2, k3, k4, k5, k6⟩, k7⟩ := key
    have e1 := k6 1 (by decide) (by omega)
    refine ⟨⟨h1.at (fun j _ _ => by rw [e1]), ⟨h2.eq (by rw [e1]), h3.eq (by rw [e1])⟩, ?_, fun i hi => (h5 i hi).at (k6 _ (by omega) (by omega)), fun i hi => (h6 i hi).at (k6 _ (by omega) (by omega)), fun i hi => (h7 i hi).at (k6 _ (by omega) (by omega)), k1, k3, ?_⟩, k7, ?_, k4⟩
    · obtain ⟨s0, s1, s2, s3, s4, s5, s6⟩ := k2
      exact ⟨s0, s1, s2, s3, s4, s5.le (by omega), s6.le (by omega)⟩
    · obtain ⟨u1, u2, u3, u4⟩ := h10
      refine ⟨fun i a b => ?_, fun i a b => ?_, fun i a b => ?_, fun i a b => ?_⟩
      · rw [k6 _ (by omega) (by omega)]; exact u1 i a b
      · rw [k6 _ (by omega) (by omega)]; exact u2 i a b
      · rw [k6 _ (by omega) (by omega)]; exact u3 i a b
      · rw [k6 _ (by omega) (by omega)]; exact u4 i a b
    · obtain ⟨k, t, r1, r2, r3⟩ := k5
      exact ⟨k, t, r1, by omega, r3⟩
  · obtain ⟨x1, x2⟩ := x
    obtain ⟨⟨k1, k2, k3, k4, k5, k6⟩, k7⟩ := hx
    dsimp only at k1 k2 k3 k4 k5 k6 k7 ⊢
    have hs := k1 j hj
    obtain ⟨k, t, r, a1, a2, a3, a4, a5, a6, a7, a8, a9⟩ := card_st k2 hB (by omega) hs x2
    obtain ⟨k', t', r1, r2, r3, r4, r5⟩ := k5
    have hl := hs.1.2
    refine ⟨⟨fun i hi => ?_, ?_, ?_, fun i hi => ?_, ⟨k' + k, t' + t, ?_, by omega, r3.trans a2, fun z => ?_, ?_⟩, fun q hq h => (a9 q hq (by omega)).trans (k6 q hq h)⟩, k7.cardStep hb hj (hs.2.2.le hl) hs.1 x2⟩
    · by_cases c : i = j
      · subst c; exact a4
      · exact (k1 i hi).at (a9 _ (by omega) (by omega))
    · obtain ⟨s0, s1, s2, s3, s4, s5, s6⟩ := a3
      exact ⟨s0, s1, s2, s3, s4, s5.le (by omega), s6.le (by omega)⟩
    · rw [sumC_put hj (fun i _ hne => by rw [a9 _ (by omega) (by omega)]) a6, k3, a7]
    · by_cases c : i = j
      · subst c; exact a8.trans (k4 i hi)
      · rw [a9 _ (by omega) (by omega)]; exact k4 i hi
    · rw [r, r1, nI_add]
    · have z1 := r4 z
      have z2 := a5 (by rw [cv_eq r3.2.2.2, cv_eq (k4 j hj)]; exact z j hj)
      omega
    · rw [a7, r5, Int32.add_assoc, nI_add]
/-- a day -/
theorem NV.day (h : NV E D B S τ) (hR : RQ E τ ρ) (hb : NB E) (hB : B + 120 < 2 ^ 29) (hS : S + 30 < 2 ^ 30) (hD : D < 4999) (d j : Nat) (p : Int32) : NV E (D + 1) (B + 120) (S + 20) (stX6_live_4 1 d j (τ, p)).1 ∧ RQ E (stX6_live_4 1 d j (τ, p)).1 (sX8_pass_s ρ E) ∧ (∃ r, (stX6_live_4 1 d j (τ, p)).2 = p + r ∧ SV E τ (stX6_live_4 1 d j (τ, p)).1 20 r) ∧ (∀ i, i < gNo E 3 → (stX6_live_4 1 d j (τ, p)).1.1 (19 + i) 1 = τ.1 (19 + i) 1) := by
  obtain ⟨v1, q1, w1, f1⟩ := h.travel hR hb hB (by omega)
  obtain ⟨v2, q2, f2⟩ := v1.warm q1 hb
  obtain ⟨v3, q3, f3⟩ := v2.grow q2 hb
  obtain ⟨v4, q4, s4, c4⟩ := v3.serve q3 hb (by omega) hS
  obtain ⟨b0, b1, b2, b3⟩ := id hb
  have e6 : ∀ w, 2 ≤ w → (sX6_grow_s (sX6_warm_s (sX6_travel_s τ 1) 1) 1).1 6 w = τ.1 6 w := fun w hw => by
    rw [f3 6 (by omega), f2 6 (by omega), w1 w (by omega)]
  have ec : ∀ i, (sX6_grow_s (sX6_warm_s (sX6_travel_s τ 1) 1) 1).1 (19 + i) = τ.1 (19 + i) := fun i => by
    rw [f3 _ (by omega), f2 _ (by omega), f1 _ (by omega) (by omega)]
  unfold stX6_live_4 sX8_pass_s
  dsimp only
  generalize hX : sX6_serve_s (sX6_grow_s (sX6_warm_s (sX6_travel_s τ 1) 1) 1) 1 = X at v4 q4 s4 c4
  have n : ∀ k, k ≠ 1 → (gu X 1 9 (X.1 1 9 + 1)).1 k = X.1 k := fun k hk => gu_ne hk
  obtain ⟨h1, ⟨h2, h3⟩, h4, h5, h6, h7, h8, h9, h10⟩ := v4
  have hd := h2.2
  refine ⟨⟨h1.at (fun j _ hj => by rw [gu_at, if_neg (by omega)]), ⟨(num.of (x := cv X 1 9 + 1) (by rw [gu_at, if_pos rfl, h2.1, nI_1]) (by omega) (by omega)).1, h3.eq (by rw [gu_at, if_neg (by decide)])⟩, h4.at (n 6 (by decide)), fun i hi => (h5 i hi).at (n _ (by omega)), fun i hi => (h6 i hi).at (n _ (by omega)), fun i hi => (h7 i hi).at (n _ (by omega)), fun i hi => (h8 i hi).at (n _ (by omega)), ?_, h10.at (fun k _ _ => n k (by omega))⟩, ?_, ⟨_, rfl, ?_⟩, fun i hi => ?_⟩
  · rw [sumC_at (τ := X) (fun i hi => by rw [n (19 + i) (by omega)]), h9, n 6 (by decide)]
  · rw [q4.day]
    exact q4.put hb (by unfold PW; omega)
  · obtain ⟨k, t, r1, r2, r3, r4, r5⟩ := s4
    refine ⟨k, t, r1, r2, (r3.pre e6).post (fun w _ => by rw [n 6 (by decide)]), fun z => r4 (fun i hi => ?_), ?_⟩
    · rw [cv_eq (e6 4 (by decide)), cv_eq (congrFun (ec i) 1)]
      exact z i hi
    · rw [n 6 (by decide), r5, e6 5 (by decide)]
  · rw [n _ (by omega), c4 i hi, ec i]
theorem SV.trans {τ1 τ2 : gS} {m m2 : Nat} {r r2 : Int32} (h : SV E τ τ1 m r) (h2 : SV E τ1 τ2 m2 r2) (hc : ∀ i, i < gNo E 3 → τ1.1 (19 + i) 1 = τ.1 (19 + i) 1) : SV E τ τ2 (m + m2) (r + r2) := by
  obtain ⟨k, t, a1, a2, a3, a4, a5⟩ := h
  obtain ⟨k2, t2, b1, b2, b3, b4, b5⟩ := h2
  refine ⟨k + k2, t + t2, by rw [a1, b1, nI_add], by omega, a3.trans b3, fun z => ?_, by rw [b5, a5, Int32.add_assoc, nI_add]⟩
  have z1 := a4 z
  have z2 := b4 (fun i hi => by rw [cv_eq a3.2.2.2, cv_eq (hc i hi)]; exact z i hi)
  omega
/-- days -/
def LV (E : gT) (D B S : Nat) (τ : gS) (j : Nat) (x : gS × Int32) (y : gS) : Prop :=
  NV E (D + j) (B + 120 * j) (S + 20 * j) x.1 ∧ RQ E x.1 y ∧ SV E τ x.1 (20 * j) x.2 ∧ ∀ i, i < gNo E 3 → x.1.1 (19 + i) 1 = τ.1 (19 + i) 1
theorem LV.step {j d : Nat} {x1 : gS} {x2 : Int32} {y : gS} (h : LV E D B S τ j (x1, x2) y) (hb : NB E) (hB : B + 120 * j + 120 < 2 ^ 29) (hS : S + 20 * j + 30 < 2 ^ 30) (hD : D + j < 4999) : LV E D B S τ (j + 1) (stX6_live_4 1 d j (x1, x2)) (sX8_pass_s y E) := by
  obtain ⟨k1, k2, k3, k4⟩ := h
  have q := k1.day k2 hb hB hS hD d j x2
  generalize stX6_live_4 1 d j (x1, x2) = z at q
  obtain ⟨z1, z2⟩ := z
  obtain ⟨g1, g2, ⟨r, g3, g4⟩, g5⟩ := q
  dsimp only at g1 g2 g3 g4 g5 k1 k2 k3 k4
  subst g3
  have g6 := k3.trans g4 k4
  refine ⟨g1.le (by omega) (by omega) (by omega), g2, ?_, fun i hi => (g5 i hi).trans (k4 i hi)⟩
  rw [show 20 * (j + 1) = 20 * j + 20 by omega]
  exact g6
theorem NV.liveL (h : NV E D B S τ) (hR : RQ E τ ρ) (hb : NB E) (d : Nat) (hB : B + 120 * d + 120 < 2 ^ 29) (hS : S + 20 * d + 30 < 2 ^ 30) (hD : D + d < 4999) : LV E D B S τ d (itr (stX6_live_4 1 d) d (τ, (0 : Int32))) (itr (stX8_behind_2 d E) d ρ) := by
  have h0 : LV E D B S τ 0 (τ, (0 : Int32)) ρ := ⟨h.le (by omega) (by omega) (by omega), hR, ⟨0, 0, rfl, Nat.zero_le _, DS.rf, fun _ => rfl, (i32_add0 _).symm⟩, fun _ _ => rfl⟩
  exact itr_relN (stX6_live_4 1 d) (stX8_behind_2 d E) (LV E D B S τ) d (fun j x y hj hx => by
    obtain ⟨x1, x2⟩ := x
    exact hx.step hb (by omega) (by omega) (by omega)) (τ, (0 : Int32)) ρ h0
theorem NV.live (h : NV E D B S τ) (hR : RQ E τ ρ) (hb : NB E) (d : Nat) (hB : B + 120 * d + 120 < 2 ^ 29) (hS : S + 20 * d + 30 < 2 ^ 30) (hD : D + d < 4999) : NV E (D + d) (B + 120 * d) (S + 20 * d) (sX6_live_s τ 1 d) ∧ RQ E (sX6_live_s τ 1 d) (sX8_behind_s ρ d E) ∧ SV E τ (sX6_live_s τ 1 d) (20 * d) (sX6_live_r τ 1 d) ∧ (∀ i, i < gNo E 3 → (sX6_live_s τ 1 d).1 (19 + i) 1 = τ.1 (19 + i) 1) :=
  h.liveL hR hb d hB hS hD
/-! Sim's days leave the class's town alone -/
theorem lo10 {j x : Nat} (hx : x < 29) : (stX8_pass_10 j ρ).1 x = ρ.1 x := by
  unfold stX8_pass_10
  (try dsimp only)
  (repeat' split)
  all_goals (first | rfl | (simp only [gu_ne (show x ≠ 44 + j by omega), gu_ne (show x ≠ 30 by omega)]))
theorem lo145 {j x : Nat} (hx : x < 29) : (stX8_pass_145 j ρ).1 x = ρ.1 x := by
  unfold stX8_pass_145
  split
  · rfl
  · exact gu_ne (by omega)
theorem lo220 {j x : Nat} (hx : x < 29) : (stX8_pass_220 j ρ).1 x = ρ.1 x := gu_ne (by omega)
theorem loP {k x : Nat} {c : Int32} (hx : x < 29) (hk : 29 ≤ k) : (pts ρ k c).1 x = ρ.1 x := by
  unfold pts
  dsimp only
  rw [gu_ne (by omega), gu_ne (by omega), gu_ne (by omega), gu_ne (by omega), gu_ne (by omega), gu_ne (by omega)]
theorem lo2 {k x : Nat} (hx : x < 29) (hk : 29 ≤ k) : (it2 ρ k).1 x = ρ.1 x := by
  unfold it2
  split
  · rfl
  · split
    · split
      · exact loP hx hk
      · exact gu_ne (by omega)
    · rfl
theorem lo1 {k x : Nat} (hx : x < 29) (hk : 29 ≤ k) : (it1 ρ k).1 x = ρ.1 x := by
  unfold it1
  split
  · rfl
  · split
    · split
      · exact (lo2 hx hk).trans (loP hx hk)
      · exact gu_ne (by omega)
    · rfl
theorem lo282 {j x : Nat} (hx : x < 29) : (stX8_pass_282 j ρ).1 x = ρ.1 x := by
  rw [pass282]
  split
  · rw [lo1 hx (by omega), gu_ne (by omega)]
  · exact lo1 hx (by omega)
theorem loPass {x : Nat} (hx : x < 29) : (sX8_pass_s ρ E).1 x = ρ.1 x := by
  unfold sX8_pass_s
  dsimp only
  rw [gu_ne (by omega)]
  rw [itr_keep stX8_pass_282 (fun y : gS => y.1 x) (fun j y => lo282 hx)]
  rw [itr_keep stX8_pass_220 (fun y : gS => y.1 x) (fun j y => lo220 hx)]
  rw [itr_keep stX8_pass_145 (fun y : gS => y.1 x) (fun j y => lo145 hx)]
  rw [itr_keep stX8_pass_10 (fun y : gS => y.1 x) (fun j y => lo10 hx)]
theorem loBehind {x d : Nat} (hx : x < 29) : (sX8_behind_s ρ d E).1 x = ρ.1 x := by
  unfold sX8_behind_s
  exact itr_keep _ (fun y : gS => y.1 x) (fun j y => by unfold stX8_behind_2; exact loPass hx) d ρ
end DY
