/-! the invariant of the law's loop; conditions on both sides; calls that change nothing -/
theorem zv_num (σ : gS) (a b n : Int32) : sX7_checkNumber_t σ a b n = if b ≤ a ∧ a ≤ n then 0 else 1 := by
  unfold sX7_checkNumber_t
  by_cases c : a < b
  · rw [if_pos c, if_neg (fun q => absurd c (Int32.not_lt.mpr q.1))]
  · have h := Int32.not_lt.mp c
    rw [if_neg c]
    by_cases d : a ≤ n
    · rw [if_pos d, if_pos ⟨h, d⟩]
    · rw [if_neg d, if_neg (fun q => d q.2)]
theorem zv_in (σ : gS) (a b n : Int32) : sX8_isIn_r σ a b n = if b ≤ a ∧ a ≤ n then 1 else 0 := by
  unfold sX8_isIn_r
  by_cases c : a < b
  · rw [if_pos c, if_neg (fun q => absurd c (Int32.not_lt.mpr q.1))]
  · have h := Int32.not_lt.mp c
    rw [if_neg c]
    by_cases d : n < a
    · rw [if_pos d, if_neg (fun q => absurd d (Int32.not_lt.mpr q.2))]
    · rw [if_neg d, if_pos ⟨h, Int32.not_lt.mp d⟩]
theorem zv_idx (σ : gS) (a b : Int32) : sX7_checkIndex_t σ a b = if 0 ≤ a ∧ a < b then 0 else 3 := by
  unfold sX7_checkIndex_t
  by_cases c : a < 0
  · rw [if_pos c, if_neg (fun q => absurd c (Int32.not_lt.mpr q.1))]
  · have h := Int32.not_lt.mp c
    rw [if_neg c]
    by_cases d : a < b
    · rw [if_pos d, if_pos ⟨h, d⟩]
    · rw [if_neg d, if_neg (fun q => d q.2)]
theorem zv_pred {k : Nat} (hk : k ≤ 100) (a : Int32) : a ≤ nI k - 1 ↔ a < nI k := by
  have e1 : (nI k - 1).toInt = (k : Int) - 1 := pk_sub_toInt (b := 1) (by omega) (by omega)
  rw [Int32.le_iff_toInt_le, Int32.lt_iff_toInt_lt, e1, nI_toInt (by omega)]
  omega
theorem zv_clamp {a : Int32} {k : Nat} (hk : k ≤ 100) (h : 0 ≤ a ∧ a < nI k) : a.toNatClampNeg < k := by
  have q0 : (0 : Int) ≤ a.toInt := Int32.le_iff_toInt_le.mp h.1
  have q1 : a.toInt < (nI k).toInt := Int32.lt_iff_toInt_lt.mp h.2
  rw [nI_toInt (by omega)] at q1
  show a.toInt.toNat < k
  omega
theorem gu_rd (σ : gS) (k j a b : Nat) (v : Int32) : (gu σ k j v).1 a b = if a = k ∧ b = j then v else σ.1 a b := rfl
theorem mOK.cls {σ τ : gS} (h : mOK σ) (e : ∀ k, 57 ≤ k → ∀ f, τ.1 k f = σ.1 k f) : mOK τ :=
  h.of (fun j _ _ => e 57 (by omega) j) (fun d hd => by rw [e 62 (by omega)]; exact h.2 d hd)
theorem mB_of {σ F : gS} {q : Nat} (e : F.1 57 q = σ.1 57 q) : mB F q = mB σ q := by unfold mB; rw [e]
theorem zv_itr {α : Type} (f g : Nat → α → α) (n : Nat) (h : ∀ j x, j < n → f j x = g j x) (x : α) : itr f n x = itr g n x :=
  itr_rel Eq f g n (fun j x y hj e => by subst e; exact h j x hj) x x rfl
/-- what is not hired yet; the ways of those who are -/
def ZI (σ : gS) : Prop := (∀ d, mB σ 2 ≤ d → d < 4 → σ.1 (1 + 10 + d) 2 = -1 ∧ σ.1 62 (14 + 4 * d + 3) = 0) ∧
  (∀ c, mB σ 4 ≤ c → c < 10 → σ.1 62 (42 + 3 * c) = 0 ∧ σ.1 62 (42 + 3 * c + 1) = 0) ∧ (∀ s, s < mB σ 3 → 1 ≤ σ.1 60 (2 * s))
/-- portions served: few enough, and the cards' sum -/
def SI (n : Nat) (σ : gS) : Prop := (0 ≤ (σ.1 62 5).toInt ∧ (σ.1 62 5).toInt ≤ 1200 * (n : Int)) ∧ itr (stX8_mean_9 σ) (mB σ 4) (0 : Int32) = σ.1 62 5
def IV (n : Nat) (σ : gS) : Prop := DR σ 1 σ 4 4 (mB σ 2) 4 10 ∧ ZI σ ∧ SI n σ
theorem SI.of {n m : Nat} {σ F : gS} (h : SI n σ) (hm : n ≤ m) (hl : mB σ 4 ≤ 10) (e4 : F.1 57 4 = σ.1 57 4) (e5 : F.1 62 5 = σ.1 62 5) (eC : ∀ c, c < 10 → F.1 62 (42 + 3 * c + 1) = σ.1 62 (42 + 3 * c + 1)) : SI m F := by
  refine ⟨⟨by rw [e5]; exact h.1.1, by rw [e5]; have := h.1.2; omega⟩, ?_⟩
  rw [e5, mB_of e4, ← h.2]
  refine zv_itr _ _ _ (fun j x hj => ?_) _
  unfold stX8_mean_9 sX8_ca_r
  rw [eC j (by omega)]
theorem IV.mk {n : Nat} {F : gS} (hR : RE F 1 F 4 4 (mB F 2) 4 10) (hN : NI F) (hM : mOK F) (hZ : ZI F) (hS : SI n F) : IV n F :=
  ⟨⟨hR, hN, hM, hM.le1, hM.le2, Nat.le_refl _, hM.le3, hM.le4⟩, hZ, hS⟩
/-- a call that hires nobody and serves nothing -/
theorem IV.chg {n : Nat} {σ F : gS} (h : IV n σ) (c57 : ∀ j, 1 ≤ j → F.1 57 j = σ.1 57 j) (hR : RE F 1 F 4 4 (mB σ 2) 4 10) (hN : NI F) (hl : lOK F 62)
    (hz1 : ∀ d, mB σ 2 ≤ d → d < 4 → F.1 (1 + 10 + d) 2 = -1 ∧ F.1 62 (14 + 4 * d + 3) = 0) (hz2 : ∀ i, 42 ≤ i → F.1 62 i = σ.1 62 i) (e60 : ∀ j, F.1 60 j = σ.1 60 j) (e5 : F.1 62 5 = σ.1 62 5) : IV (n + 1) F := by
  have e2 : mB F 2 = mB σ 2 := mB_of (c57 2 (by omega))
  have e3 : mB F 3 = mB σ 3 := mB_of (c57 3 (by omega))
  have e4 : mB F 4 = mB σ 4 := mB_of (c57 4 (by omega))
  refine IV.mk (by rw [e2]; exact hR) hN (h.1.2.2.1.of (fun j h1 _ => c57 j h1) hl) ⟨fun d h1 h2 => hz1 d (by omega) h2, fun c h1 h2 => ?_, fun s hs => ?_⟩
    (h.2.2.of (by omega) h.1.2.2.1.le4 (c57 4 (by omega)) e5 (fun c _ => hz2 _ (by omega)))
  · rw [hz2 _ (by omega), hz2 _ (by omega)]
    exact h.2.1.2.1 c (by omega) h2
  · rw [e60]
    exact h.2.1.2.2 s (by omega)
theorem IV.same {n : Nat} {σ F : gS} (h : IV n σ) (e1 : ∀ k, 1 ≤ k → k < 29 → ∀ f, F.1 k f = σ.1 k f) (e2 : ∀ k, 57 ≤ k → k ≤ 62 → ∀ f, (k = 57 → 1 ≤ f) → F.1 k f = σ.1 k f) : IV (n + 1) F := by
  have e62 : ∀ f, F.1 62 f = σ.1 62 f := fun f => e2 62 (by omega) (by omega) f (fun q => absurd q (by decide))
  refine h.chg (fun j hj => e2 57 (by omega) (by omega) j (fun _ => hj)) (h.1.1.ext (fun k h1 h2 f => e1 k h1 (by omega) f) (fun k h1 h2 f h3 => e2 k h1 h2 f (fun q => (h3 q).1)))
    (h.1.2.1.of (fun i _ _ => e62 i)) (fun d hd => by rw [e62]; exact h.1.2.2.1.2 d hd) (fun d h1 h2 => ?_) (fun i _ => e62 i) (fun j => e2 60 (by omega) (by omega) j (fun q => absurd q (by decide))) (e62 5)
  rw [e1 _ (by omega) (by omega), e62]
  exact h.2.1.1 d h1 h2
/-- a call that changes nothing -/
theorem IV.still {n : Nat} {σ τ F : gS} {rL v : Int32} {P : Prop} (h : IV n σ) (e1 : τ.1 = σ.1) (eF : ∀ k f, (k = 57 → f ≠ 0) → F.1 k f = τ.1 k f) (ev : F.1 57 0 = v) (er : rL = v) (hP : v = 0 → P) :
    tOK σ 1 ∧ mOK τ ∧ F.1 57 0 = rL ∧ (rL = 0 → P) ∧ IV (n + 1) F := by
  subst er
  refine ⟨h.1.tOK1, h.1.2.2.1.cls (fun k _ f => by rw [e1]), ev, hP, h.same (fun k h1 h2 f => ?_) (fun k h1 h2 f h3 => ?_)⟩
  · rw [eF k f (fun q => by omega), e1]
  · rw [eF k f (fun q => by have := h3 q; omega), e1]
theorem IV.fails {n : Nat} {σ τ F : gS} {rL v : Int32} {P : Prop} (h : IV n σ) (e1 : τ = σ) (eF : F = gu (gu σ 57 0 0) 57 0 v) (er : rL = v) (hv : ¬ v = 0) :
    tOK σ 1 ∧ mOK τ ∧ F.1 57 0 = rL ∧ (rL = 0 → P) ∧ IV (n + 1) F := by
  subst e1
  subst eF
  refine h.still rfl (fun k f q => ?_) (by rw [gu_rd, if_pos ⟨rfl, rfl⟩]) er (fun q => absurd q hv)
  have : ¬ (k = 57 ∧ f = 0) := fun z => q z.1 z.2
  rw [gu_rd, if_neg this, gu_rd, if_neg this]
theorem mOK.cnt {S F : gS} (o : mOK S) {q : Nat} (h1 : 1 ≤ q) (h2 : q ≤ 4) (hq : mB S q < if q = 4 then 10 else 4) (e : F.1 57 q = nI (mB S q + 1)) (e2 : ∀ j, 1 ≤ j → j ≠ q → F.1 57 j = S.1 57 j) (k : lOK F 62) : mOK F ∧ mB F q = mB S q + 1 := by
  have hb : (if q = 4 then 10 else 4) ≤ 10 := by split <;> omega
  have c : mB F q = mB S q + 1 := by
    unfold mB at *
    rw [e]
    exact nI_clamp (by omega)
  refine ⟨⟨fun j a1 a2 => ?_, k⟩, c⟩
  by_cases d : j = q
  · subst d
    rw [c]
    exact ⟨e, by omega⟩
  · rw [mB_of (e2 j a1 d), e2 j a1 d]
    exact o.1 j a1 a2
theorem zv_01 {a : Int32} (h : 0 ≤ a ∧ a < 2) : (a = 0 ∧ a.toNatClampNeg = 0) ∨ (a = 1 ∧ a.toNatClampNeg = 1) := by
  have q0 : (0 : Int) ≤ a.toInt := Int32.le_iff_toInt_le.mp h.1
  have q1 : a.toInt < 2 := Int32.lt_iff_toInt_lt.mp h.2
  rcases (show a.toInt = 0 ∨ a.toInt = 1 by omega) with q | q
  · have e : a = 0 := Int32.toInt_inj.mp q
    exact Or.inl ⟨e, by rw [e]; rfl⟩
  · have e : a = 1 := Int32.toInt_inj.mp q
    exact Or.inr ⟨e, by rw [e]; rfl⟩
theorem yieldOf_of {σ F : gS} {d : Nat} (e : ∀ f, F.1 62 f = σ.1 62 f) : sX8_yieldOf_r F d = sX8_yieldOf_r σ d := by
  unfold sX8_yieldOf_r sX8_dr_r sX8_yields_r
  simp only [e]
theorem RE.more {σ τ : gS} {t nb nd kd ns nc : Nat} (h : RE σ t τ nb nd kd ns nc) (e : σ.1 (t + 10 + kd) (1 + 1) = τ.1 62 (14 + 4 * kd + 1)) : RE σ t τ nb nd (kd + 1) ns nc := by
  unfold RE at h ⊢
  obtain ⟨a1, a2, a3, a4, a5, a6, a7, a8, a9, a10, a11, a12, a13, a14, a15, a16⟩ := h
  refine ⟨a1, a2, a3, a4, a5, a6, a7, a8, a9, a10, a11, a12, a13, a14, fun i w h0 h1 h2 => ?_, a16⟩
  by_cases c : i = kd ∧ w = 1
  · rw [c.1, c.2]
    exact e
  · exact a15 i w h0 h1 (fun q => by have := h2 q; omega)
theorem go_out (S : gS) (v : Int64) : (go S (vp_updL S.2 0 v)).2 0 = v := by
  show vp_updL S.2 0 v 0 = v
  exact pk_uLs
