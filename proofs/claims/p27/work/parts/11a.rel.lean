/-! the class's town in τ and the law's Sim in ρ say the same: place and field against place and field -/
def PW (E : gT) (k j k' j' : Nat) : Prop :=
  (k = 1 ∧ k' = 29 ∧ ((j = 9 ∧ j' = 0) ∨ (j = 10 ∧ j' = 6))) ∨
  (k = 6 ∧ ((k' = 30 ∧ j < 2 ∧ j' = j) ∨ (k' = 31 ∧ 2 ≤ j ∧ j < 4 ∧ j = j' + 2) ∨ (k' = 29 ∧ ((j = 4 ∧ j' = 5) ∨ (j = 5 ∧ j' = 3) ∨ (j = 6 ∧ j' = 4))))) ∨
  (j' = j ∧ k' = k + 29 ∧ ((7 ≤ k ∧ k < 7 + gNo E 0 ∧ j < 3) ∨ (11 ≤ k ∧ k < 11 + gNo E 1 ∧ j < 5) ∨ (15 ≤ k ∧ k < 15 + gNo E 2 ∧ j < 5) ∨ (19 ≤ k ∧ k < 19 + gNo E 3 ∧ j < 5)))
def RQ (E : gT) (τ ρ : gS) : Prop := ∀ k j k' j', PW E k j k' j' → τ.1 k j = ρ.1 k' j'
/-- how many rows there may be -/
def NB (E : gT) : Prop := gNo E 0 ≤ 4 ∧ gNo E 1 ≤ 4 ∧ gNo E 2 ≤ 4 ∧ gNo E 3 ≤ 10
theorem NB.of {E : gT} {s : State} (h : gC E s) : NB E := ⟨h.2.1.2.1, h.2.1.2.2.1, h.2.1.2.2.2.1, h.2.1.2.2.2.2.1⟩
section RQS
variable {E : gT} {τ ρ : gS}
theorem RQ.day (h : RQ E τ ρ) : τ.1 1 9 = ρ.1 29 0 := h 1 9 29 0 (by unfold PW; omega)
theorem RQ.patrol (h : RQ E τ ρ) : τ.1 1 10 = ρ.1 29 6 := h 1 10 29 6 (by unfold PW; omega)
theorem RQ.roots (h : RQ E τ ρ) : τ.1 6 0 = ρ.1 30 0 := h 6 0 30 0 (by unfold PW; omega)
theorem RQ.beans (h : RQ E τ ρ) : τ.1 6 1 = ρ.1 30 1 := h 6 1 30 1 (by unfold PW; omega)
theorem RQ.chic (h : RQ E τ ρ) : τ.1 6 2 = ρ.1 31 0 := h 6 2 31 0 (by unfold PW; omega)
theorem RQ.coff (h : RQ E τ ρ) : τ.1 6 3 = ρ.1 31 1 := h 6 3 31 1 (by unfold PW; omega)
theorem RQ.share (h : RQ E τ ρ) : τ.1 6 4 = ρ.1 29 5 := h 6 4 29 5 (by unfold PW; omega)
theorem RQ.served (h : RQ E τ ρ) : τ.1 6 5 = ρ.1 29 3 := h 6 5 29 3 (by unfold PW; omega)
theorem RQ.thin (h : RQ E τ ρ) : τ.1 6 6 = ρ.1 29 4 := h 6 6 29 4 (by unfold PW; omega)
theorem RQ.bed (h : RQ E τ ρ) {i w : Nat} (hi : i < gNo E 0) (hw : w < 3) : τ.1 (7 + i) w = ρ.1 (36 + i) w := h _ _ _ _ (by unfold PW; omega)
theorem RQ.drum (h : RQ E τ ρ) {i w : Nat} (hi : i < gNo E 1) (hw : w < 5) : τ.1 (11 + i) w = ρ.1 (40 + i) w := h _ _ _ _ (by unfold PW; omega)
theorem RQ.smug (h : RQ E τ ρ) {i w : Nat} (hi : i < gNo E 2) (hw : w < 5) : τ.1 (15 + i) w = ρ.1 (44 + i) w := h _ _ _ _ (by unfold PW; omega)
theorem RQ.card (h : RQ E τ ρ) {i w : Nat} (hi : i < gNo E 3) (hw : w < 5) : τ.1 (19 + i) w = ρ.1 (48 + i) w := h _ _ _ _ (by unfold PW; omega)
theorem PW.inj {k j k' j' a b a' b' : Nat} (h : PW E k j k' j') (h2 : PW E a b a' b') (hb : NB E) : (a = k ∧ b = j) ↔ (a' = k' ∧ b' = j') := by
  obtain ⟨b0, b1, b2, b3⟩ := hb
  unfold PW at h h2
  constructor
  · rintro ⟨rfl, rfl⟩
    omega
  · rintro ⟨rfl, rfl⟩
    omega
/-- the same number put at both -/
theorem RQ.put (h : RQ E τ ρ) (hb : NB E) {k j k' j' : Nat} {v : Int32} (p : PW E k j k' j') : RQ E (gu τ k j v) (gu ρ k' j' v) := by
  intro a b a' b' h2
  have e := p.inj h2 hb
  simp only [gu]
  by_cases c : a = k ∧ b = j
  · rw [if_pos c, if_pos (e.mp c)]
  · rw [if_neg c, if_neg (fun z => c (e.mpr z))]
    exact h a b a' b' h2
/-- what isn't told of may be put on one side -/
theorem RQ.left (h : RQ E τ ρ) {k j : Nat} {v : Int32} (p : ∀ a b, ¬ PW E k j a b) : RQ E (gu τ k j v) ρ := by
  intro a b a' b' h2
  simp only [gu]
  rw [if_neg (fun z => p a' b' (by rw [← z.1, ← z.2]; exact h2))]
  exact h a b a' b' h2
/-- a Sim that is the same where it tells -/
theorem RQ.to (h : RQ E τ ρ) {τ' ρ' : gS} (h1 : ∀ k, k < 29 → τ'.1 k = τ.1 k) (h2 : ∀ k, 29 ≤ k → k < 58 → ρ'.1 k = ρ.1 k) (hb : NB E) : RQ E τ' ρ' := by
  intro a b a' b' hp
  have hl : a < 29 ∧ 29 ≤ a' ∧ a' < 58 := by
    obtain ⟨b0, b1, b2, b3⟩ := hb
    unfold PW at hp
    omega
  rw [h1 a hl.1, h2 a' hl.2.1 hl.2.2]
  exact h a b a' b' hp
end RQS
theorem gu_id {σ : gS} {k j : Nat} {v : Int32} (h : v = σ.1 k j) : gu σ k j v = σ := by
  subst h
  refine Prod.ext ?_ rfl
  funext a b
  simp only [gu]
  split
  · rename_i c
    rw [c.1, c.2]
  · rfl
theorem gu_comm {σ : gS} {k j a b : Nat} {v w : Int32} (h : k ≠ a ∨ j ≠ b) : gu (gu σ k j v) a b w = gu (gu σ a b w) k j v := by
  refine Prod.ext ?_ rfl
  funext x y
  simp only [gu]
  by_cases c : x = a ∧ y = b
  · rw [if_pos c, if_neg (fun z => by omega), if_pos c]
  · rw [if_neg c]
    by_cases c2 : x = k ∧ y = j
    · rw [if_pos c2, if_pos c2]
    · rw [if_neg c2, if_neg c2, if_neg c]
theorem itr_rel {α β : Type} (R : α → β → Prop) (f : Nat → α → α) (g : Nat → β → β) : ∀ (n : Nat), (∀ j x y, j < n → R x y → R (f j x) (g j y)) → ∀ x y, R x y → R (itr f n x) (itr g n y)
  | 0, _, _, _, h => h
  | n + 1, hs, x, y, h => hs n _ _ (Nat.lt_succ_self n) (itr_rel R f g n (fun j x y hj => hs j x y (Nat.lt_succ_of_lt hj)) x y h)
theorem itr_invB {α : Type} (f : Nat → α → α) (I : α → Prop) : ∀ (n : Nat), (∀ j x, j < n → I x → I (f j x)) → ∀ x, I x → I (itr f n x)
  | 0, _, _, h => h
  | n + 1, hs, x, h => hs n _ (Nat.lt_succ_self n) (itr_invB f I n (fun j x hj => hs j x (Nat.lt_succ_of_lt hj)) x h)
theorem i32_add0 (x : Int32) : x + 0 = x := by simp
/-! numbers of the table as natural ones -/
def cv (τ : gS) (k j : Nat) : Nat := (τ.1 k j).toNatClampNeg
def num (τ : gS) (k j b : Nat) : Prop := τ.1 k j = nI (cv τ k j) ∧ cv τ k j ≤ b
theorem num.of {τ : gS} {k j b x : Nat} (h : τ.1 k j = nI x) (hx : x ≤ b) (hb : b < 2 ^ 31) : num τ k j b ∧ cv τ k j = x := by
  have e : cv τ k j = x := by
    unfold cv
    rw [h, nI_clamp (by omega)]
  exact ⟨⟨by rw [e]; exact h, by omega⟩, e⟩
theorem num.le {τ : gS} {k j a b : Nat} (h : num τ k j a) (hab : a ≤ b) : num τ k j b := ⟨h.1, Nat.le_trans h.2 hab⟩
theorem cv_eq {τ τ' : gS} {k j k' j' : Nat} (h : τ'.1 k' j' = τ.1 k j) : cv τ' k' j' = cv τ k j := by
  unfold cv
  rw [h]
theorem num.eq {τ τ' : gS} {k j k' j' b : Nat} (hn : num τ k j b) (h : τ'.1 k' j' = τ.1 k j) : num τ' k' j' b := by
  unfold num
  rw [cv_eq h, h]
  exact hn
