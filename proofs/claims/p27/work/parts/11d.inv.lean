/-! what holds of the class's town at all times -/
def BGi (τ : gS) (i : Nat) : Prop := num τ (7 + i) 0 9 ∧ num τ (7 + i) 1 99 ∧ num τ (7 + i) 2 (cv τ (7 + i) 1)
def DGi (τ : gS) (i : Nat) : Prop := (num τ (11 + i) 0 40 ∧ 1 ≤ cv τ (11 + i) 0) ∧ num τ (11 + i) 1 9 ∧ ((τ.1 (11 + i) 2 = -1 ∧ τ.1 (11 + i) 3 = 0 ∧ τ.1 (11 + i) 4 = 0) ∨ ((τ.1 (11 + i) 2 = 0 ∨ τ.1 (11 + i) 2 = 1) ∧ num τ (11 + i) 3 (cv τ (11 + i) 0) ∧ 1 ≤ cv τ (11 + i) 3 ∧ num τ (11 + i) 4 (if τ.1 (11 + i) 2 = 0 then 24 else 15)))
def SGi (τ : gS) (i : Nat) : Prop := (num τ (15 + i) 0 14 ∧ 2 ≤ cv τ (15 + i) 0) ∧ num τ (15 + i) 1 30 ∧ ((τ.1 (15 + i) 2 = 0 ∧ τ.1 (15 + i) 3 = 0) ∨ (τ.1 (15 + i) 2 = 1 ∧ num τ (15 + i) 3 (cv τ (15 + i) 0) ∧ 1 ≤ cv τ (15 + i) 3) ∨ (τ.1 (15 + i) 2 = 2 ∧ num τ (15 + i) 3 10 ∧ 1 ≤ cv τ (15 + i) 3))
def CGi (τ : gS) (i : Nat) : Prop := num τ (19 + i) 0 9 ∧ num τ (19 + i) 1 10 ∧ num τ (19 + i) 2 (cv τ (19 + i) 0)
def sumC (τ : gS) (n : Nat) : Int32 := itr (fun i (a : Int32) => a + τ.1 (19 + i) 3) n 0
/-- the store: bounds B of stocks, S of portions -/
def STi (τ : gS) (B S : Nat) : Prop := num τ 6 0 B ∧ num τ 6 1 B ∧ num τ 6 2 B ∧ num τ 6 3 B ∧ num τ 6 4 10 ∧ num τ 6 5 S ∧ num τ 6 6 S
/-- what isn't there yet -/
def UNi (E : gT) (τ : gS) : Prop := (∀ i, i < 4 → gNo E 0 ≤ i → τ.1 (7 + i) 2 = 0) ∧ (∀ i, i < 4 → gNo E 1 ≤ i → τ.1 (11 + i) 2 = -1 ∧ τ.1 (11 + i) 3 = 0 ∧ τ.1 (11 + i) 4 = 0) ∧ (∀ i, i < 4 → gNo E 2 ≤ i → τ.1 (15 + i) 2 = 0 ∧ τ.1 (15 + i) 3 = 0 ∧ τ.1 (15 + i) 4 = 0) ∧ (∀ i, i < 10 → gNo E 3 ≤ i → τ.1 (19 + i) 3 = 0 ∧ τ.1 (19 + i) 4 = 0)
def CNi (E : gT) (τ : gS) : Prop := tOK τ 1 ∧ tB τ 1 5 = gNo E 0 ∧ tB τ 1 6 = gNo E 1 ∧ tB τ 1 7 = gNo E 2 ∧ tB τ 1 8 = gNo E 3
/-- all of it: at most D days, stocks B, portions S -/
def NV (E : gT) (D B S : Nat) (τ : gS) : Prop :=
  CNi E τ ∧ (num τ 1 9 D ∧ num τ 1 10 127) ∧ STi τ B S ∧ (∀ i, i < gNo E 0 → BGi τ i) ∧ (∀ i, i < gNo E 1 → DGi τ i) ∧ (∀ i, i < gNo E 2 → SGi τ i) ∧ (∀ i, i < gNo E 3 → CGi τ i) ∧ sumC τ (gNo E 3) = τ.1 6 5 ∧ UNi E τ
section NVS
variable {E : gT} {τ τ' : gS} {D B S : Nat}
theorem BGi.at {i : Nat} (h : BGi τ i) (e : τ'.1 (7 + i) = τ.1 (7 + i)) : BGi τ' i := by
  unfold BGi at h ⊢
  rw [cv_eq (congrFun e 1)]
  exact ⟨h.1.eq (congrFun e 0), h.2.1.eq (congrFun e 1), h.2.2.eq (congrFun e 2)⟩
theorem DGi.at {i : Nat} (h : DGi τ i) (e : τ'.1 (11 + i) = τ.1 (11 + i)) : DGi τ' i := by
  unfold DGi num cv at h ⊢
  rw [e]
  exact h
theorem SGi.at {i : Nat} (h : SGi τ i) (e : τ'.1 (15 + i) = τ.1 (15 + i)) : SGi τ' i := by
  unfold SGi num cv at h ⊢
  rw [e]
  exact h
theorem CGi.at {i : Nat} (h : CGi τ i) (e : τ'.1 (19 + i) = τ.1 (19 + i)) : CGi τ' i := by
  unfold CGi num cv at h ⊢
  rw [e]
  exact h
theorem STi.at (h : STi τ B S) (e : τ'.1 6 = τ.1 6) : STi τ' B S := by
  unfold STi num cv at h ⊢
  rw [e]
  exact h
theorem CNi.at (h : CNi E τ) (e : ∀ j, 5 ≤ j → j ≤ 8 → τ'.1 1 j = τ.1 1 j) : CNi E τ' := by
  obtain ⟨h1, h2, h3, h4, h5⟩ := h
  unfold CNi
  have eB : ∀ j, 5 ≤ j → j ≤ 8 → tB τ' 1 j = tB τ 1 j := fun j a b => by unfold tB; rw [e j a b]
  rw [eB 5 (by decide) (by decide), eB 6 (by decide) (by decide), eB 7 (by decide) (by decide), eB 8 (by decide) (by decide)]
  exact ⟨h1.of e, h2, h3, h4, h5⟩
theorem sumC_at {n : Nat} (e : ∀ i, i < n → τ'.1 (19 + i) 3 = τ.1 (19 + i) 3) : sumC τ' n = sumC τ n := by
  unfold sumC
  refine itr_rel (fun x y => x = y) _ _ n (fun j x y hj h => ?_) 0 0 rfl
  rw [h, e j hj]
theorem sumC_put {n j : Nat} (hj : j < n) {x : Int32} (e : ∀ i, i < n → i ≠ j → τ'.1 (19 + i) 3 = τ.1 (19 + i) 3) (ej : τ'.1 (19 + j) 3 = τ.1 (19 + j) 3 + x) : sumC τ' n = sumC τ n + x := by
  induction n with
  | zero => omega
  | succ n ih =>
    have s1 : sumC τ' (n + 1) = sumC τ' n + τ'.1 (19 + n) 3 := rfl
    have s2 : sumC τ (n + 1) = sumC τ n + τ.1 (19 + n) 3 := rfl
    rw [s1, s2]
    by_cases c : n = j
    · subst c
      rw [sumC_at (τ := τ) (fun i hi => e i (by omega) (by omega)), ej]
      grind
    · rw [ih (by omega) (fun i hi => e i (by omega)), e n (by omega) c]
      grind
theorem UNi.at (h : UNi E τ) (e : ∀ k, 7 ≤ k → k < 29 → τ'.1 k = τ.1 k) : UNi E τ' := by
  obtain ⟨h1, h2, h3, h4⟩ := h
  refine ⟨fun i a b => ?_, fun i a b => ?_, fun i a b => ?_, fun i a b => ?_⟩
  · rw [e _ (by omega) (by omega)]; exact h1 i a b
  · rw [e _ (by omega) (by omega)]; exact h2 i a b
  · rw [e _ (by omega) (by omega)]; exact h3 i a b
  · rw [e _ (by omega) (by omega)]; exact h4 i a b
/-- the rows behind the town's are free -/
theorem NV.to (h : NV E D B S τ) (e : ∀ k, k < 29 → τ'.1 k = τ.1 k) (hb : NB E) : NV E D B S τ' := by
  obtain ⟨b0, b1, b2, b3⟩ := hb
  obtain ⟨h1, ⟨h2, h3⟩, h4, h5, h6, h7, h8, h9, h10⟩ := h
  refine ⟨h1.at (fun j _ _ => by rw [e 1 (by decide)]), ⟨h2.eq (by rw [e 1 (by decide)]), h3.eq (by rw [e 1 (by decide)])⟩, h4.at (e 6 (by decide)), fun i hi => (h5 i hi).at (e _ (by omega)), fun i hi => (h6 i hi).at (e _ (by omega)), fun i hi => (h7 i hi).at (e _ (by omega)), fun i hi => (h8 i hi).at (e _ (by omega)), ?_, h10.at (fun k _ hk => e k hk)⟩
  rw [sumC_at (τ := τ) (fun i hi => by rw [e _ (by omega)]), h9, e 6 (by decide)]
theorem NV.le {D' B' S' : Nat} (h : NV E D B S τ) (hD : D ≤ D') (hB : B ≤ B') (hS : S ≤ S') : NV E D' B' S' τ := by
  obtain ⟨h1, ⟨h2, h3⟩, ⟨s0, s1, s2, s3, s4, s5, s6⟩, h5⟩ := h
  exact ⟨h1, ⟨h2.le hD, h3⟩, ⟨s0.le hB, s1.le hB, s2.le hB, s3.le hB, s4, s5.le hS, s6.le hS⟩, h5⟩
/-! a smuggler's day -/
theorem nI_sub1 {x : Nat} (h : 1 ≤ x) : nI x - 1 = nI (x - 1) := pk_sub (b := 1) h
theorem travel_fr {j k : Nat} (hk : k ≠ 15 + j) (h6 : k ≠ 6) : (stX6_travel_2 1 j τ).1 k = τ.1 k := by
  unfold stX6_travel_2
  dsimp only
  rw [fX4_add _ _ _ _ _ (by omega), fX3_travel _ _ _ _ (by omega)]
theorem add_beans {X : gS} {b : Int32} : sX4_add_s X 6 1 b = gu X 6 1 (X.1 6 1 + b) := by
  unfold sX4_add_s
  rw [if_neg (by decide)]
theorem SGi.day {j : Nat} (h : SGi τ j) (hB : num τ 6 1 B) (hB2 : B < 2 ^ 30) : SGi (stX6_travel_2 1 j τ) j ∧ num (stX6_travel_2 1 j τ) 6 1 (B + 30) ∧ ∀ w, w ≠ 1 → (stX6_travel_2 1 j τ).1 6 w = τ.1 6 w := by
  obtain ⟨⟨h0, h02⟩, h1, h2⟩ := h
  have hw := h0.2
  have hB3 := hB.2
  unfold stX6_travel_2
  rw [show 1 + 14 + j = 15 + j by omega, show 1 + 5 = 6 from rfl]
  dsimp only
  generalize sX6_patrolled_r τ 1 (τ.1 1 9) = q
  rw [add_beans]
  have n6 : (15 + j) ≠ 6 := by omega
  have fr : ∀ X : gS, ∀ b : Int32, (gu X 6 1 b).1 (15 + j) = X.1 (15 + j) := fun X b => gu_ne n6
  have e6 : (sX3_travel_s τ (15 + j) q).1 6 = τ.1 6 := fX3_travel _ _ _ _ (Ne.symm n6)
  have key : ∀ X : gS, ∀ b : Nat, X.1 6 = τ.1 6 → b ≤ 30 → num (gu X 6 1 (X.1 6 1 + nI b)) 6 1 (B + 30) ∧ ∀ w, w ≠ 1 → (gu X 6 1 (X.1 6 1 + nI b)).1 6 w = τ.1 6 w := fun X b hX hb => by
    refine ⟨(num.of (x := cv τ 6 1 + b) (by rw [gu_at, if_pos rfl, hX, hB.1, nI_add]) (by omega) (by omega)).1, fun w hw => by rw [gu_at, if_neg hw, hX]⟩
  -- rows of a smuggler behind a day
  have row0 : ∀ X : gS, X.1 (15 + j) 0 = τ.1 (15 + j) 0 → num X (15 + j) 0 14 ∧ cv X (15 + j) 0 = cv τ (15 + j) 0 := fun X e => ⟨h0.eq e, cv_eq e⟩
  rcases h2 with ⟨c0, l0⟩ | h2
  · have a1 : sX3_travel_s τ (15 + j) q = τ := by unfold sX3_travel_s; rw [if_pos c0]
    have a2 : sX3_travel_r τ (15 + j) q = 0 := by unfold sX3_travel_r; rw [if_pos c0]
    rw [a1, a2]
    obtain ⟨k1, k2⟩ := key τ 0 rfl (by omega)
    refine ⟨?_, k1, k2⟩
    refine SGi.at (τ := τ) ⟨⟨h0, h02⟩, h1, Or.inl ⟨c0, l0⟩⟩ (fr _ _)
  · have hL : ∃ L, num τ (15 + j) 3 L ∧ L ≤ 14 ∧ 1 ≤ cv τ (15 + j) 3 ∧ ¬ τ.1 (15 + j) 2 = 0 ∧ (τ.1 (15 + j) 2 = 1 → L ≤ cv τ (15 + j) 0) ∧ (τ.1 (15 + j) 2 = 2 → L ≤ 10) ∧ (τ.1 (15 + j) 2 = 1 ∨ τ.1 (15 + j) 2 = 2) := by
      rcases h2 with ⟨c, l, l1⟩ | ⟨c, l, l1⟩
      · exact ⟨_, l, hw, l1, by rw [c]; decide, fun _ => Nat.le_refl _, fun z => absurd (c.symm.trans z) (by decide), Or.inl c⟩
      · exact ⟨_, l, by omega, l1, by rw [c]; decide, fun z => absurd (c.symm.trans z) (by decide), fun _ => Nat.le_refl _, Or.inr c⟩
    obtain ⟨L, l, lw, l1, c0, cA, cH, cw⟩ := hL
    have ll := l.2
    have el : τ.1 (15 + j) 3 - 1 = nI (cv τ (15 + j) 3 - 1) := by rw [l.1, nI_sub1 l1]
    by_cases c1 : τ.1 (15 + j) 2 = 1 ∧ τ.1 (15 + j) 3 - 1 = τ.1 (15 + j) 0 / 2 ∧ ¬ q = 0
    · obtain ⟨a2, a1⟩ := travel_A c1.1 c1.2.1 c1.2.2
      rw [a1] at e6
      rw [a1, a2]
      obtain ⟨k1, k2⟩ := key _ 0 e6 (by omega)
      refine ⟨?_, k1, k2⟩
      generalize hX : gu (gu (gu (gu τ (15 + j) 3 (τ.1 (15 + j) 3 - 1)) (15 + j) 2 2) (15 + j) 3 10) (15 + j) 4 (τ.1 (15 + j) 4 + 1) = X
      have x0 : X.1 (15 + j) 0 = τ.1 (15 + j) 0 := by rw [← hX]; simp [gu]
      have x1 : X.1 (15 + j) 1 = τ.1 (15 + j) 1 := by rw [← hX]; simp [gu]
      have x2 : X.1 (15 + j) 2 = 2 := by rw [← hX]; simp [gu]
      have x3 : X.1 (15 + j) 3 = nI 10 := by rw [← hX]; simp [gu]; rfl
      have x3' := num.of (b := 10) x3 (Nat.le_refl _) (by decide)
      refine SGi.at (τ := X) ⟨⟨h0.eq x0, by rw [cv_eq x0]; exact h02⟩, h1.eq x1, Or.inr (Or.inr ⟨x2, x3'.1, by rw [x3'.2]; decide⟩)⟩ (fr _ _)
    · obtain ⟨a2, a1⟩ := travel_B c0 c1
      have hz := le0 (x := cv τ (15 + j) 3 - 1) (by omega)
      by_cases c2 : τ.1 (15 + j) 3 - 1 ≤ 0
      · rw [if_pos c2] at a1 a2
        rw [a1] at e6
        rw [a1, a2]
        have hb : ∃ b : Nat, b ≤ 30 ∧ (if τ.1 (15 + j) 2 = 1 then τ.1 (15 + j) 1 else 0) = nI b := by
          split
          · exact ⟨_, h1.2, h1.1⟩
          · exact ⟨0, by omega, rfl⟩
        obtain ⟨b, hb1, hb2⟩ := hb
        rw [hb2]
        obtain ⟨k1, k2⟩ := key _ b e6 hb1
        refine ⟨?_, k1, k2⟩
        have z0 : τ.1 (15 + j) 3 - 1 = 0 := by rw [el] at c2 ⊢; exact hz.mp c2
        generalize hX : gu (gu τ (15 + j) 3 (τ.1 (15 + j) 3 - 1)) (15 + j) 2 0 = X
        have x0 : X.1 (15 + j) 0 = τ.1 (15 + j) 0 := by rw [← hX]; simp [gu]
        have x1 : X.1 (15 + j) 1 = τ.1 (15 + j) 1 := by rw [← hX]; simp [gu]
        have x2 : X.1 (15 + j) 2 = 0 := by rw [← hX]; simp [gu]
        have x3 : X.1 (15 + j) 3 = 0 := by rw [← hX, z0]; simp [gu]
        exact SGi.at (τ := X) ⟨⟨h0.eq x0, by rw [cv_eq x0]; exact h02⟩, h1.eq x1, Or.inl ⟨x2, x3⟩⟩ (fr _ _)
      · rw [if_neg c2] at a1 a2
        rw [a1] at e6
        rw [a1, a2]
        obtain ⟨k1, k2⟩ := key _ 0 e6 (by omega)
        refine ⟨?_, k1, k2⟩
        have z0 : 1 ≤ cv τ (15 + j) 3 - 1 := Nat.pos_of_ne_zero (fun z => c2 (by rw [el, z]; decide))
        generalize hX : gu τ (15 + j) 3 (τ.1 (15 + j) 3 - 1) = X
        have x0 : X.1 (15 + j) 0 = τ.1 (15 + j) 0 := by rw [← hX]; simp [gu]
        have x1 : X.1 (15 + j) 1 = τ.1 (15 + j) 1 := by rw [← hX]; simp [gu]
        have x2 : X.1 (15 + j) 2 = τ.1 (15 + j) 2 := by rw [← hX]; simp [gu]
        have x3 : X.1 (15 + j) 3 = nI (cv τ (15 + j) 3 - 1) := by rw [← hX, el]; simp [gu]
        have y0 := cv_eq x0
        refine SGi.at (τ := X) ⟨⟨h0.eq x0, by rw [y0]; exact h02⟩, h1.eq x1, Or.inr ?_⟩ (fr _ _)
        rcases cw with cw | cw
        · have := cA cw
          have x3' := num.of (b := cv X (15 + j) 0) x3 (by omega) (by omega)
          exact Or.inl ⟨x2.trans cw, x3'.1, by rw [x3'.2]; exact z0⟩
        · have := cH cw
          have x3' := num.of (b := 10) x3 (by omega) (by omega)
          exact Or.inr ⟨x2.trans cw, x3'.1, by rw [x3'.2]; exact z0⟩
/-! a drum's, a bed's -/
theorem warm_fr {j k : Nat} (hk : k ≠ 11 + j) : (stX6_warm_2 1 j τ).1 k = τ.1 k := by
  unfold stX6_warm_2
  dsimp only
  rw [fX2_warm _ _ _ (by omega)]
theorem grow_fr {j k : Nat} (hk : k ≠ 7 + j) : (stX6_grow_2 1 j τ).1 k = τ.1 k := by
  unfold stX6_grow_2
  dsimp only
  rw [fX0_grow _ _ _ (by omega)]
theorem gmin_nI {a b : Nat} (ha : a < 2 ^ 31) (hb : b < 2 ^ 31) : gmin (nI a) (nI b) = nI (min a b) := by
  rw [gmin_le]
  by_cases c : a ≤ b
  · rw [if_pos ((nI_leI ha hb).mpr c), Nat.min_eq_left c]
  · rw [if_neg (fun z => c ((nI_leI ha hb).mp z)), Nat.min_eq_right (by omega)]
theorem DGi.day {j : Nat} (h : DGi τ j) : DGi (stX6_warm_2 1 j τ) j := by
  obtain ⟨⟨h0, h02⟩, h1, h2⟩ := h
  have hb1 := h1.2
  unfold stX6_warm_2 sX2_warm_s sX2_levelAfter_r sX2_burnt_r
  rw [show 1 + 10 + j = 11 + j by omega]
  dsimp only
  have x0 : ∀ v w, w ≠ 4 → (gu τ (11 + j) 4 v).1 (11 + j) w = τ.1 (11 + j) w := fun v w hw => by rw [gu_at, if_neg hw]
  rcases h2 with ⟨c, m0, l0⟩ | ⟨c, m1, m2, l⟩
  · rw [if_pos c, gu_id l0.symm]
    exact ⟨⟨h0, h02⟩, h1, Or.inl ⟨c, m0, l0⟩⟩
  · have n1 : ¬ τ.1 (11 + j) 2 = -1 := by rcases c with c | c <;> (rw [c]; decide)
    rw [if_neg n1]
    have hv : ∀ N : Nat, N ≤ 24 → cv τ (11 + j) 4 ≤ N → gmin (τ.1 (11 + j) 4 + τ.1 (11 + j) 1) (nI N) = nI (min (cv τ (11 + j) 4 + cv τ (11 + j) 1) N) := fun N hN hl => by
      rw [l.1, h1.1, nI_add, gmin_nI (by omega) (by omega)]
    have hf : ∀ N : Nat, N ≤ 24 → (if τ.1 (11 + j) 2 = 0 then 24 else 15) = N → ∀ v, v = nI (min (cv τ (11 + j) 4 + cv τ (11 + j) 1) N) → DGi (gu τ (11 + j) 4 v) j := fun N hN hk v hv => by
      have e4 : (gu τ (11 + j) 4 v).1 (11 + j) 4 = nI (min (cv τ (11 + j) 4 + cv τ (11 + j) 1) N) := by rw [gu_at, if_pos rfl, hv]
      have e2 := x0 v 2 (by decide)
      refine ⟨⟨h0.eq (x0 v 0 (by decide)), by rw [cv_eq (x0 v 0 (by decide))]; exact h02⟩, h1.eq (x0 v 1 (by decide)), Or.inr ⟨by rw [e2]; exact c, ?_, ?_, ?_⟩⟩
      · rw [cv_eq (x0 v 0 (by decide))]
        exact m1.eq (x0 v 3 (by decide))
      · rw [cv_eq (x0 v 3 (by decide))]
        exact m2
      · rw [e2, hk]
        exact (num.of e4 (Nat.min_le_right _ _) (by omega)).1
    have hl := l.2
    by_cases c0 : τ.1 (11 + j) 2 = 0
    · rw [if_pos c0]
      rw [if_pos c0] at hl
      exact hf 24 (by omega) (if_pos c0) _ (hv 24 (by omega) hl)
    · rw [if_neg c0]
      rw [if_neg c0] at hl
      exact hf 15 (by omega) (if_neg c0) _ (hv 15 (by omega) hl)
theorem BGi.day {j : Nat} (h : BGi τ j) : BGi (stX6_grow_2 1 j τ) j := by
  obtain ⟨h0, h1, h2⟩ := h
  have b0 := h0.2
  have b1 := h1.2
  have b2 := h2.2
  unfold stX6_grow_2 sX0_grow_s
  rw [show 1 + 6 + j = 7 + j by omega]
  dsimp only
  have e : gmin (τ.1 (7 + j) 2 + τ.1 (7 + j) 0) (τ.1 (7 + j) 1) = nI (min (cv τ (7 + j) 2 + cv τ (7 + j) 0) (cv τ (7 + j) 1)) := by
    rw [h2.1, h0.1, h1.1, nI_add, gmin_nI (by omega) (by omega)]
  rw [e]
  generalize hX : gu τ (7 + j) 2 (nI (min (cv τ (7 + j) 2 + cv τ (7 + j) 0) (cv τ (7 + j) 1))) = X
  have x0 : X.1 (7 + j) 0 = τ.1 (7 + j) 0 := by rw [← hX, gu_at, if_neg (by decide)]
  have x1 : X.1 (7 + j) 1 = τ.1 (7 + j) 1 := by rw [← hX, gu_at, if_neg (by decide)]
  have x2 : X.1 (7 + j) 2 = nI (min (cv τ (7 + j) 2 + cv τ (7 + j) 0) (cv τ (7 + j) 1)) := by rw [← hX, gu_at, if_pos rfl]
  refine ⟨h0.eq x0, h1.eq x1, ?_⟩
  rw [cv_eq x1]
  exact (num.of x2 (Nat.min_le_right _ _) (by omega)).1
end NVS
