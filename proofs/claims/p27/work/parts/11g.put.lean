/-! what the law's acts come to -/
def INV (E : gT) (D B S : Nat) (σ : gS) : Prop := NV E D B S σ ∧ RQ E σ σ
section IV
variable {E : gT} {τ τ' ρ σ : gS} {D B S : Nat}
theorem INV.le {D' B' S' : Nat} (h : INV E D B S σ) (hD : D ≤ D') (hB : B ≤ B') (hS : S ≤ S') : INV E D' B' S' σ := ⟨h.1.le hD hB hS, h.2⟩
theorem INV.mk {X Y : gS} (hN : NV E D B S X) (hR : RQ E X Y) (hb : NB E) (h1 : ∀ k, k < 29 → σ.1 k = X.1 k) (h2 : ∀ k, 29 ≤ k → k < 58 → σ.1 k = Y.1 k) : INV E D B S σ := ⟨hN.to h1 hb, hR.to h1 h2 hb⟩
/-- the class's part is that of X, Sim's that of Y -/
def LO (σ X : gS) : Prop := ∀ k, k < 29 → σ.1 k = X.1 k
def HI (σ X : gS) : Prop := ∀ k, 29 ≤ k → σ.1 k = X.1 k
theorem LO.rf : LO σ σ := fun _ _ => rfl
theorem HI.rf : HI σ σ := fun _ _ => rfl
theorem LO.put {X : gS} (h : LO σ X) {k j : Nat} {v w : Int32} (e : v = w) : LO (gu σ k j v) (gu X k j w) := fun a ha => by
  subst e
  funext b
  simp only [gu]
  rw [h a ha]
theorem LO.skip {X : gS} (h : LO σ X) {k j : Nat} {v : Int32} (hk : 29 ≤ k) : LO (gu σ k j v) X := fun a ha => (gu_ne (by omega)).trans (h a ha)
theorem HI.put {X : gS} (h : HI σ X) {k j : Nat} {v w : Int32} (e : v = w) : HI (gu σ k j v) (gu X k j w) := fun a ha => by
  subst e
  funext b
  simp only [gu]
  rw [h a ha]
theorem HI.skip {X : gS} (h : HI σ X) {k j : Nat} {v : Int32} (hk : k < 29) : HI (gu σ k j v) X := fun a ha => (gu_ne (by omega)).trans (h a ha)
theorem INV.lh {X Y : gS} (hN : NV E D B S X) (hR : RQ E X Y) (hb : NB E) (h1 : LO σ X) (h2 : HI σ Y) : INV E D B S σ := INV.mk hN hR hb h1 (fun k a _ => h2 k a)
theorem RQ.stock (h : RQ E τ ρ) {k : Nat} (hk : k < 2) : τ.1 6 k = ρ.1 30 k := h 6 k 30 k (by unfold PW; omega)
theorem RQ.parts (h : RQ E τ ρ) {k : Nat} (hk : k < 2) : τ.1 6 (k + 2) = ρ.1 31 k := h 6 (k + 2) 31 k (by unfold PW; omega)
/-! one row of the class's town put anew -/
theorem NV.bedRow (h : NV E D B S τ) (hb : NB E) {i : Nat} (hi : i < gNo E 0) (e : ∀ k, k ≠ 7 + i → τ'.1 k = τ.1 k) (hd : BGi τ' i) : NV E D B S τ' := by
  obtain ⟨b0, b1, b2, b3⟩ := hb
  obtain ⟨h1, ⟨h2, h3⟩, h4, h5, h6, h7, h8, h9, u1, u2, u3, u4⟩ := h
  refine ⟨h1.at (fun j _ _ => by rw [e 1 (by omega)]), ⟨h2.eq (by rw [e 1 (by omega)]), h3.eq (by rw [e 1 (by omega)])⟩, h4.at (e 6 (by omega)), fun q hq => ?_, fun q hq => (h6 q hq).at (e _ (by omega)), fun q hq => (h7 q hq).at (e _ (by omega)), fun q hq => (h8 q hq).at (e _ (by omega)), ?_, fun q a b => ?_, fun q a b => ?_, fun q a b => ?_, fun q a b => ?_⟩
  · by_cases c : q = i
    · subst c; exact hd
    · exact (h5 q hq).at (e _ (by omega))
  · rw [sumC_at (τ := τ) (fun q hq => by rw [e (19 + q) (by omega)]), h9, e 6 (by omega)]
  · rw [e _ (by omega)]; exact u1 q a b
  · rw [e _ (by omega)]; exact u2 q a b
  · rw [e _ (by omega)]; exact u3 q a b
  · rw [e _ (by omega)]; exact u4 q a b
theorem NV.drumRow (h : NV E D B S τ) (hb : NB E) {i : Nat} (hi : i < gNo E 1) (e : ∀ k, k ≠ 11 + i → τ'.1 k = τ.1 k) (hd : DGi τ' i) : NV E D B S τ' := by
  obtain ⟨b0, b1, b2, b3⟩ := hb
  obtain ⟨h1, ⟨h2, h3⟩, h4, h5, h6, h7, h8, h9, u1, u2, u3, u4⟩ := h
  refine ⟨h1.at (fun j _ _ => by rw [e 1 (by omega)]), ⟨h2.eq (by rw [e 1 (by omega)]), h3.eq (by rw [e 1 (by omega)])⟩, h4.at (e 6 (by omega)), fun q hq => (h5 q hq).at (e _ (by omega)), fun q hq => ?_, fun q hq => (h7 q hq).at (e _ (by omega)), fun q hq => (h8 q hq).at (e _ (by omega)), ?_, fun q a b => ?_, fun q a b => ?_, fun q a b => ?_, fun q a b => ?_⟩
  · by_cases c : q = i
    · subst c; exact hd
    · exact (h6 q hq).at (e _ (by omega))
  · rw [sumC_at (τ := τ) (fun q hq => by rw [e (19 + q) (by omega)]), h9, e 6 (by omega)]
  · rw [e _ (by omega)]; exact u1 q a b
  · rw [e _ (by omega)]; exact u2 q a b
  · rw [e _ (by omega)]; exact u3 q a b
  · rw [e _ (by omega)]; exact u4 q a b
theorem NV.smugRow (h : NV E D B S τ) (hb : NB E) {i : Nat} (hi : i < gNo E 2) (e : ∀ k, k ≠ 15 + i → τ'.1 k = τ.1 k) (hd : SGi τ' i) : NV E D B S τ' := by
  obtain ⟨b0, b1, b2, b3⟩ := hb
  obtain ⟨h1, ⟨h2, h3⟩, h4, h5, h6, h7, h8, h9, u1, u2, u3, u4⟩ := h
  refine ⟨h1.at (fun j _ _ => by rw [e 1 (by omega)]), ⟨h2.eq (by rw [e 1 (by omega)]), h3.eq (by rw [e 1 (by omega)])⟩, h4.at (e 6 (by omega)), fun q hq => (h5 q hq).at (e _ (by omega)), fun q hq => (h6 q hq).at (e _ (by omega)), fun q hq => ?_, fun q hq => (h8 q hq).at (e _ (by omega)), ?_, fun q a b => ?_, fun q a b => ?_, fun q a b => ?_, fun q a b => ?_⟩
  · by_cases c : q = i
    · subst c; exact hd
    · exact (h7 q hq).at (e _ (by omega))
  · rw [sumC_at (τ := τ) (fun q hq => by rw [e (19 + q) (by omega)]), h9, e 6 (by omega)]
  · rw [e _ (by omega)]; exact u1 q a b
  · rw [e _ (by omega)]; exact u2 q a b
  · rw [e _ (by omega)]; exact u3 q a b
  · rw [e _ (by omega)]; exact u4 q a b
theorem NV.storeRow {B' : Nat} (h : NV E D B S τ) (hb : NB E) (e : ∀ k, k ≠ 6 → τ'.1 k = τ.1 k) (hs : STi τ' B' S) (h5' : τ'.1 6 5 = τ.1 6 5) : NV E D B' S τ' := by
  obtain ⟨b0, b1, b2, b3⟩ := hb
  obtain ⟨h1, ⟨h2, h3⟩, h4, h5, h6, h7, h8, h9, h10⟩ := h
  refine ⟨h1.at (fun j _ _ => by rw [e 1 (by omega)]), ⟨h2.eq (by rw [e 1 (by omega)]), h3.eq (by rw [e 1 (by omega)])⟩, hs, fun q hq => (h5 q hq).at (e _ (by omega)), fun q hq => (h6 q hq).at (e _ (by omega)), fun q hq => (h7 q hq).at (e _ (by omega)), fun q hq => (h8 q hq).at (e _ (by omega)), ?_, h10.at (fun k _ _ => e k (by omega))⟩
  rw [sumC_at (τ := τ) (fun q hq => by rw [e (19 + q) (by omega)]), h9, h5']
theorem NV.patrol (h : NV E D B S τ) (hb : NB E) {p : Nat} (hp : p ≤ 127) : NV E D B S (gu τ 1 10 (nI p)) := by
  obtain ⟨b0, b1, b2, b3⟩ := hb
  obtain ⟨h1, ⟨h2, h3⟩, h4, h5, h6, h7, h8, h9, h10⟩ := h
  have e : ∀ k, k ≠ 1 → (gu τ 1 10 (nI p)).1 k = τ.1 k := fun k hk => gu_ne hk
  refine ⟨h1.at (fun j _ hj => by rw [gu_at, if_neg (by omega)]), ⟨h2.eq (by rw [gu_at, if_neg (by decide)]), (num.of (x := p) (by rw [gu_at, if_pos rfl]) hp (by omega)).1⟩, h4.at (e 6 (by omega)), fun q hq => (h5 q hq).at (e _ (by omega)), fun q hq => (h6 q hq).at (e _ (by omega)), fun q hq => (h7 q hq).at (e _ (by omega)), fun q hq => (h8 q hq).at (e _ (by omega)), ?_, h10.at (fun k _ _ => e k (by omega))⟩
  rw [sumC_at (τ := τ) (fun q hq => by rw [e (19 + q) (by omega)]), h9, e 6 (by omega)]
theorem NV.share (h : NV E D B S τ) (hb : NB E) {p : Nat} (hp : p ≤ 10) : NV E D B S (gu τ 6 4 (nI p)) := by
  obtain ⟨s0, s1, s2, s3, s4, s5, s6⟩ := id h.2.2.1
  have f : ∀ w, w ≠ 4 → (gu τ 6 4 (nI p)).1 6 w = τ.1 6 w := fun w hw => by rw [gu_at, if_neg hw]
  exact h.storeRow hb (fun k hk => gu_ne hk) ⟨s0.eq (f 0 (by decide)), s1.eq (f 1 (by decide)), s2.eq (f 2 (by decide)), s3.eq (f 3 (by decide)), (num.of (x := p) (by rw [gu_at, if_pos rfl]) hp (by omega)).1, s5.eq (f 5 (by decide)), s6.eq (f 6 (by decide))⟩ (f 5 (by decide))
/-- a stock put -/
theorem NV.stock {B' : Nat} (h : NV E D B S τ) (hb : NB E) {w x : Nat} (hw : w < 4) (hx : x ≤ B') (hB : B ≤ B') (hB2 : B' < 2 ^ 31) : NV E D B' S (gu τ 6 w (nI x)) := by
  obtain ⟨s0, s1, s2, s3, s4, s5, s6⟩ := id h.2.2.1
  have f : ∀ y, y ≠ w → (gu τ 6 w (nI x)).1 6 y = τ.1 6 y := fun y hy => by rw [gu_at, if_neg hy]
  have g : ∀ y, y < 4 → num τ 6 y B → num (gu τ 6 w (nI x)) 6 y B' := fun y _ hn => by
    by_cases c : y = w
    · subst c
      exact (num.of (x := x) (by rw [gu_at, if_pos rfl]) hx hB2).1
    · exact (hn.eq (f y c)).le hB
  exact h.storeRow hb (fun k hk => gu_ne hk) ⟨g 0 (by decide) s0, g 1 (by decide) s1, g 2 (by decide) s2, g 3 (by decide) s3, s4.eq (f 4 (by omega)), s5.eq (f 5 (by omega)), s6.eq (f 6 (by omega))⟩ (f 5 (by omega))
theorem NV.heat (h : NV E D B S τ) (hb : NB E) {i v : Nat} (hi : i < gNo E 1) (hv : v ≤ 9) : NV E D B S (gu τ (11 + i) 1 (nI v)) := by
  refine h.drumRow hb hi (fun k hk => gu_ne hk) ?_
  have f : ∀ w, w ≠ 1 → (gu τ (11 + i) 1 (nI v)).1 (11 + i) w = τ.1 (11 + i) w := fun w hw => by rw [gu_at, if_neg hw]
  obtain ⟨⟨h0, h02⟩, h1, h2⟩ := h.2.2.2.2.1 i hi
  unfold DGi
  rw [f 2 (by decide), f 3 (by decide), f 4 (by decide), cv_eq (f 0 (by decide)), cv_eq (f 3 (by decide))]
  refine ⟨⟨h0.eq (f 0 (by decide)), h02⟩, (num.of (x := v) (by rw [gu_at, if_pos rfl]) hv (by omega)).1, ?_⟩
  rcases h2 with z | ⟨z1, z2, z3, z4⟩
  · exact Or.inl z
  · exact Or.inr ⟨z1, z2.eq (f 3 (by decide)), z3, z4.eq (f 4 (by decide))⟩
theorem NV.roots (h : NV E D B S τ) (hb : NB E) {i x : Nat} (hi : i < gNo E 0) (hx : x ≤ cv τ (7 + i) 1) : NV E D B S (gu τ (7 + i) 2 (nI x)) := by
  refine h.bedRow hb hi (fun k hk => gu_ne hk) ?_
  have f : ∀ w, w ≠ 2 → (gu τ (7 + i) 2 (nI x)).1 (7 + i) w = τ.1 (7 + i) w := fun w hw => by rw [gu_at, if_neg hw]
  obtain ⟨h0, h1, h2⟩ := h.2.2.2.1 i hi
  have := h1.2
  unfold BGi
  rw [cv_eq (f 1 (by decide))]
  exact ⟨h0.eq (f 0 (by decide)), h1.eq (f 1 (by decide)), (num.of (x := x) (by rw [gu_at, if_pos rfl]) hx (by omega)).1⟩
theorem fill_at {k : Nat} {a b : Int32} : sX2_fill_s τ k a b = gu (gu (gu τ k 2 a) k 3 b) k 4 0 := rfl
theorem NV.fill (h : NV E D B S τ) (hb : NB E) {i k x : Nat} (hi : i < gNo E 1) (hk : k < 2) (h1 : 1 ≤ x) (hx : x ≤ cv τ (11 + i) 0) : NV E D B S (sX2_fill_s τ (11 + i) (nI k) (nI x)) := by
  rw [fill_at]
  refine h.drumRow hb hi (fun k hk => by rw [gu_ne hk, gu_ne hk, gu_ne hk]) ?_
  generalize hX : gu (gu (gu τ (11 + i) 2 (nI k)) (11 + i) 3 (nI x)) (11 + i) 4 0 = X
  obtain ⟨⟨g0, g02⟩, g1, g2⟩ := h.2.2.2.2.1 i hi
  have := g0.2
  have f0 : X.1 (11 + i) 0 = τ.1 (11 + i) 0 := by rw [← hX]; simp [gu]
  have f1 : X.1 (11 + i) 1 = τ.1 (11 + i) 1 := by rw [← hX]; simp [gu]
  have f2 : X.1 (11 + i) 2 = nI k := by rw [← hX]; simp [gu]
  have f3 : X.1 (11 + i) 3 = nI x := by rw [← hX]; simp [gu]
  have f4 : X.1 (11 + i) 4 = nI 0 := by rw [← hX]; simp [gu]; rfl
  have n3 := num.of (b := cv τ (11 + i) 0) f3 hx (by omega)
  have n4 := num.of (b := if X.1 (11 + i) 2 = 0 then 24 else 15) f4 (Nat.zero_le _) (by split <;> decide)
  refine ⟨⟨g0.eq f0, by rw [cv_eq f0]; exact g02⟩, g1.eq f1, Or.inr ⟨?_, by rw [cv_eq f0]; exact n3.1, by rw [n3.2]; exact h1, n4.1⟩⟩
  rw [f2]
  rcases (show k = 0 ∨ k = 1 by omega) with rfl | rfl
  · exact Or.inl rfl
  · exact Or.inr rfl
theorem NV.empty (h : NV E D B S τ) (hb : NB E) {i : Nat} (hi : i < gNo E 1) : NV E D B S (sX2_fill_s τ (11 + i) (-1) 0) := by
  rw [fill_at]
  refine h.drumRow hb hi (fun k hk => by rw [gu_ne hk, gu_ne hk, gu_ne hk]) ?_
  generalize hX : gu (gu (gu τ (11 + i) 2 (-1)) (11 + i) 3 0) (11 + i) 4 0 = X
  obtain ⟨⟨g0, g02⟩, g1, g2⟩ := h.2.2.2.2.1 i hi
  have f0 : X.1 (11 + i) 0 = τ.1 (11 + i) 0 := by rw [← hX]; simp [gu]
  have f1 : X.1 (11 + i) 1 = τ.1 (11 + i) 1 := by rw [← hX]; simp [gu]
  have f2 : X.1 (11 + i) 2 = -1 := by rw [← hX]; simp [gu]
  have f3 : X.1 (11 + i) 3 = 0 := by rw [← hX]; simp [gu]
  have f4 : X.1 (11 + i) 4 = 0 := by rw [← hX]; simp [gu]
  exact ⟨⟨g0.eq f0, by rw [cv_eq f0]; exact g02⟩, g1.eq f1, Or.inl ⟨f2, f3, f4⟩⟩
theorem setOut_at {k : Nat} : sX3_setOut_s τ k = gu (gu τ k 2 1) k 3 (τ.1 k 0) := by
  unfold sX3_setOut_s
  dsimp only
  rw [gu_at, if_neg (by decide)]
theorem NV.setOut (h : NV E D B S τ) (hb : NB E) {i : Nat} (hi : i < gNo E 2) : NV E D B S (gu (gu τ (15 + i) 2 1) (15 + i) 3 (τ.1 (15 + i) 0)) := by
  refine h.smugRow hb hi (fun k hk => by rw [gu_ne hk, gu_ne hk]) ?_
  generalize hX : gu (gu τ (15 + i) 2 1) (15 + i) 3 (τ.1 (15 + i) 0) = X
  obtain ⟨⟨g0, g02⟩, g1, g2⟩ := h.2.2.2.2.2.1 i hi
  have f0 : X.1 (15 + i) 0 = τ.1 (15 + i) 0 := by rw [← hX]; simp [gu]
  have f1 : X.1 (15 + i) 1 = τ.1 (15 + i) 1 := by rw [← hX]; simp [gu]
  have f2 : X.1 (15 + i) 2 = 1 := by rw [← hX]; simp [gu]
  have f3 : X.1 (15 + i) 3 = τ.1 (15 + i) 0 := by rw [← hX]; simp [gu]
  refine ⟨⟨g0.eq f0, by rw [cv_eq f0]; exact g02⟩, g1.eq f1, Or.inr (Or.inl ⟨f2, ?_, by rw [cv_eq f3]; omega⟩)⟩
  unfold num
  rw [f3, cv_eq f3, cv_eq f0]
  exact ⟨g0.1, Nat.le_refl _⟩
/-! the acts, one by one -/
theorem inv_patrol (h : INV E D B S σ) (hb : NB E) {b : Nat} (hp : b ≤ 127) : INV E D B S (gu (gu σ 29 6 (nI b)) 1 10 (nI b)) :=
  INV.lh (h.1.patrol hb hp) (h.2.put hb (show PW E 1 10 29 6 by unfold PW; omega)) hb ((LO.rf.skip (by decide)).put rfl) ((HI.rf.put rfl).skip (by decide))
theorem inv_share (h : INV E D B S σ) (hb : NB E) {b : Nat} (hp : b ≤ 10) : INV E D B S (gu (gu σ 29 5 (nI b)) 6 4 (nI b)) :=
  INV.lh (h.1.share hb hp) (h.2.put hb (show PW E 6 4 29 5 by unfold PW; omega)) hb ((LO.rf.skip (by decide)).put rfl) ((HI.rf.put rfl).skip (by decide))
theorem inv_heat (h : INV E D B S σ) (hb : NB E) {d v : Nat} (hd : d < gNo E 1) (hv : v ≤ 9) : INV E D B S (gu (gu σ (40 + d) 1 (nI v)) (11 + d) 1 (nI v)) := by
  obtain ⟨b0, b1, b2, b3⟩ := id hb
  exact INV.lh (h.1.heat hb hd hv) (h.2.put hb (show PW E (11 + d) 1 (40 + d) 1 by unfold PW; omega)) hb ((LO.rf.skip (by omega)).put rfl) ((HI.rf.put rfl).skip (by omega))
theorem inv_dig (h : INV E D B S σ) (hb : NB E) (hB : B + 99 < 2 ^ 31) {b m : Nat} (hd : b < gNo E 0) (hm : m ≤ cv σ (7 + b) 2) (hm2 : m ≤ 99) : INV E D (B + 99) S (gu (gu (gu (gu σ (36 + b) 2 (σ.1 (36 + b) 2 - nI m)) 30 0 (σ.1 30 0 + nI m)) (7 + b) 2 (σ.1 (7 + b) 2 - nI m)) 6 0 (σ.1 6 0 + nI m)) := by
  obtain ⟨b0, b1, b2, b3⟩ := id hb
  obtain ⟨g0, g1, g2⟩ := h.1.2.2.2.1 b hd
  have s0 := h.1.2.2.1.1
  have l2 := g2.2
  have ls := s0.2
  have e2 : σ.1 (7 + b) 2 - nI m = nI (cv σ (7 + b) 2 - m) := by rw [g2.1]; exact pk_sub hm
  have e0 : σ.1 6 0 + nI m = nI (cv σ 6 0 + m) := by rw [s0.1, nI_add]
  have r2 := h.2.bed hd (w := 2) (by omega)
  have r0 := h.2.roots
  have hN := (h.1.roots hb hd (x := cv σ (7 + b) 2 - m) (by omega)).stock (B' := B + 99) hb (w := 0) (x := cv σ 6 0 + m) (by decide) (by omega) (by omega) hB
  have hR := (h.2.put hb (show PW E (7 + b) 2 (36 + b) 2 by unfold PW; omega) (v := nI (cv σ (7 + b) 2 - m))).put hb (show PW E 6 0 30 0 by unfold PW; omega) (v := nI (cv σ 6 0 + m))
  refine INV.lh hN hR hb ?_ ?_
  · exact (((LO.rf.skip (by omega)).skip (by decide)).put e2).put e0
  · refine HI.skip (HI.skip ((HI.rf.put ?_).put ?_) (by omega)) (by decide)
    · rw [← r2]; exact e2
    · rw [← r0]; exact e0
theorem inv_give (h : INV E D B S σ) (hb : NB E) (hB : B + 99 < 2 ^ 31) {k m : Nat} (hk : k < 2) (hm2 : m ≤ 99) : INV E D (B + 99) S (gu (gu σ 30 k (σ.1 30 k + nI m)) 6 k (σ.1 6 k + nI m)) := by
  have s0 : num σ 6 k B := by
    rcases (show k = 0 ∨ k = 1 by omega) with rfl | rfl
    · exact h.1.2.2.1.1
    · exact h.1.2.2.1.2.1
  have ls := s0.2
  have e0 : σ.1 6 k + nI m = nI (cv σ 6 k + m) := by rw [s0.1, nI_add]
  have r0 := h.2.stock hk
  have hN := h.1.stock (B' := B + 99) hb (w := k) (x := cv σ 6 k + m) (by omega) (by omega) (by omega) hB
  have hR := h.2.put hb (show PW E 6 k 30 k by unfold PW; omega) (v := nI (cv σ 6 k + m))
  refine INV.lh hN hR hb ((LO.rf.skip (by decide)).put e0) (HI.skip (HI.rf.put ?_) (by decide))
  rw [← r0]; exact e0
theorem inv_load (h : INV E D B S σ) (hb : NB E) (hB : B < 2 ^ 30) {d k m : Nat} (hd : d < gNo E 1) (hk : k < 2) (h1 : 1 ≤ m) (hm : m ≤ cv σ (11 + d) 0) (hst : m ≤ cv σ 6 k) : INV E D B S (sX2_fill_s (gu (gu (gu (gu (gu σ (40 + d) 2 (nI k)) (40 + d) 3 (nI m)) (40 + d) 4 0) 30 k (σ.1 30 k - nI m)) 6 k (σ.1 6 k + -nI m)) (11 + d) (nI k) (nI m)) := by
  obtain ⟨b0, b1, b2, b3⟩ := id hb
  have s0 : num σ 6 k B := by
    rcases (show k = 0 ∨ k = 1 by omega) with rfl | rfl
    · exact h.1.2.2.1.1
    · exact h.1.2.2.1.2.1
  have ls := s0.2
  have e0 : σ.1 6 k - nI m = nI (cv σ 6 k - m) := by rw [s0.1]; exact pk_sub hst
  have e1 : σ.1 6 k + -nI m = nI (cv σ 6 k - m) := by rw [← e0, Int32.sub_eq_add_neg]
  have r0 := h.2.stock hk
  have hN1 := h.1.stock (B' := B) hb (w := k) (x := cv σ 6 k - m) (by omega) (by omega) (by omega) (by omega)
  have hN := hN1.fill hb hd hk h1 (by rw [cv_eq (show (gu σ 6 k (nI (cv σ 6 k - m))).1 (11 + d) 0 = σ.1 (11 + d) 0 by rw [gu_ne (by omega)])]; exact hm)
  have p : ∀ w, w < 5 → PW E (11 + d) w (40 + d) w := fun w hw => by unfold PW; omega
  have hR := (((h.2.put hb (show PW E 6 k 30 k by unfold PW; omega) (v := nI (cv σ 6 k - m))).put hb (p 2 (by omega)) (v := nI k)).put hb (p 3 (by omega)) (v := nI m)).put hb (p 4 (by omega)) (v := 0)
  rw [fill_at] at hN ⊢
  refine INV.lh hN hR hb ?_ ?_
  · exact ((((((((LO.rf.skip (by omega)).skip (by omega)).skip (by omega)).skip (by decide)).put e1).put rfl).put rfl).put rfl)
  · rw [gu_comm (k := 40 + d) (a := 30) (Or.inl (by omega)), gu_comm (k := 40 + d) (a := 30) (Or.inl (by omega)), gu_comm (k := 40 + d) (a := 30) (Or.inl (by omega))]
    refine HI.skip (HI.skip (HI.skip (HI.skip ((((HI.rf.put ?_).put rfl).put rfl).put rfl) (by decide)) (by omega)) (by omega)) (by omega)
    rw [← r0]; exact e0
theorem inv_send (h : INV E D B S σ) (hb : NB E) {d : Nat} (hd : d < gNo E 2) : INV E D B S (gu (gu (gu (gu σ (44 + d) 2 1) (44 + d) 3 (σ.1 (44 + d) 0)) (15 + d) 2 1) (15 + d) 3 (σ.1 (15 + d) 0)) := by
  obtain ⟨b0, b1, b2, b3⟩ := id hb
  have p : ∀ w, w < 5 → PW E (15 + d) w (44 + d) w := fun w hw => by unfold PW; omega
  have r0 := h.2.smug hd (w := 0) (by omega)
  refine INV.lh (h.1.setOut hb hd) ((h.2.put hb (p 2 (by omega)) (v := 1)).put hb (p 3 (by omega)) (v := σ.1 (15 + d) 0)) hb ?_ ?_
  · exact (((LO.rf.skip (by omega)).skip (by omega)).put rfl).put rfl
  · exact HI.skip (HI.skip ((HI.rf.put rfl).put r0.symm) (by omega)) (by omega)
/-- a load's yield, both ways; at most 320 parts -/
theorem yields_eq (h : RQ E τ ρ) {d : Nat} (hd : d < gNo E 1) (hg : DGi τ d) : sX2_partsAt_r τ (11 + d) (τ.1 (11 + d) 4) = sX8_yields_r ρ d := by
  have r2 := h.drum hd (w := 2) (by omega)
  have r3 := h.drum hd (w := 3) (by omega)
  have r4 := h.drum hd (w := 4) (by omega)
  unfold sX2_partsAt_r sX8_yields_r sX2_done_r sX2_burnt_r sX8_burnt_r
  rw [← r2, ← r3, ← r4]
  have sub : ∀ N : Nat, N ≤ 24 → num τ (11 + d) 4 N → ((nI N - τ.1 (11 + d) 4 ≤ 0) ↔ ¬ τ.1 (11 + d) 4 < nI N) := fun N hN hn => by
    have := hn.2
    rw [hn.1, pk_sub hn.2, nI_ltI (by omega) (by omega)]
    rw [show (0 : Int32) = nI 0 from rfl, nI_leI (by omega) (by omega)]
    omega
  rcases hg.2.2 with ⟨c, _⟩ | ⟨c, _, _, l⟩
  · rw [if_pos c, if_neg (by rw [c]; decide)]
  · rcases c with c | c
    · rw [if_pos c] at l
      have hs := sub 24 (by decide) l
      have hs : ((24 : Int32) - τ.1 (11 + d) 4 ≤ 0) ↔ ¬ τ.1 (11 + d) 4 < 24 := hs
      simp only [c, if_true, show ¬ ((0 : Int32) = -1) by decide, if_false, show (0 : Int32) ≤ 0 by decide]
      by_cases c1 : τ.1 (11 + d) 4 < 12
      · rw [if_pos c1, if_neg (Int32.not_le.mpr c1)]
        split <;> rfl
      · rw [if_neg c1, if_pos (Int32.not_lt.mp c1)]
        by_cases c2 : τ.1 (11 + d) 4 < 24
        · rw [if_pos c2, if_neg (fun z => (hs.mp z) c2)]
          rfl
        · rw [if_neg c2, if_pos (hs.mpr c2)]
    · have n0 : ¬ τ.1 (11 + d) 2 = 0 := by rw [c]; decide
      rw [if_neg n0] at l
      have hs := sub 15 (by decide) l
      have hs : ((15 : Int32) - τ.1 (11 + d) 4 ≤ 0) ↔ ¬ τ.1 (11 + d) 4 < 15 := hs
      simp only [c, show ¬ ((1 : Int32) = -1) by decide, if_false, show (0 : Int32) ≤ 1 by decide, if_true, show ¬ ((1 : Int32) = 0) by decide]
      by_cases c1 : τ.1 (11 + d) 4 < 8
      · rw [if_pos c1, if_neg (Int32.not_le.mpr c1)]
        split <;> rfl
      · rw [if_neg c1, if_pos (Int32.not_lt.mp c1)]
        by_cases c2 : τ.1 (11 + d) 4 < 15
        · rw [if_pos c2, if_neg (fun z => (hs.mp z) c2)]
          rfl
        · rw [if_neg c2, if_pos (hs.mpr c2)]
end IV
