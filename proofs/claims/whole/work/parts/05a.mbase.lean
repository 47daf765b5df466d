/-! the reference's numbers: its counts, what its drums may hold -/
def mB (σ : gS) (j : Nat) : Nat := (σ.1 57 j).toNatClampNeg
def lOK (σ : gS) (p : Nat) : Prop := ∀ d, d < 4 → σ.1 p (14 + 4 * d + 1) = -1 ∨ σ.1 p (14 + 4 * d + 1) = 0 ∨ σ.1 p (14 + 4 * d + 1) = 1
def mOK (σ : gS) : Prop := (∀ j, 1 ≤ j → j ≤ 4 → σ.1 57 j = nI (mB σ j) ∧ mB σ j ≤ (if j = 4 then 10 else 4)) ∧ lOK σ 62
theorem mOK.eq {σ : gS} (h : mOK σ) (j : Nat) (h1 : 1 ≤ j) (h2 : j ≤ 4) : σ.1 57 j = nI (mB σ j) := (h.1 j h1 h2).1
theorem mOK.le1 {σ : gS} (h : mOK σ) : mB σ 1 ≤ 4 := (h.1 1 (by omega) (by omega)).2
theorem mOK.le2 {σ : gS} (h : mOK σ) : mB σ 2 ≤ 4 := (h.1 2 (by omega) (by omega)).2
theorem mOK.le3 {σ : gS} (h : mOK σ) : mB σ 3 ≤ 4 := (h.1 3 (by omega) (by omega)).2
theorem mOK.le4 {σ : gS} (h : mOK σ) : mB σ 4 ≤ 10 := (h.1 4 (by omega) (by omega)).2
theorem mOK.of {σ σ' : gS} (h : mOK σ) (e : ∀ j, 1 ≤ j → j ≤ 4 → σ'.1 57 j = σ.1 57 j) (k : lOK σ' 62) : mOK σ' := by
  refine ⟨fun j h1 h2 => ?_, k⟩
  unfold mB
  rw [e j h1 h2]
  exact h.1 j h1 h2
theorem kq_0 {σ : gS} : ∀ i, 1 ≤ i → σ.1 57 i = σ.1 57 i := fun _ _ => rfl
theorem kq_p0 {σ S S' : gS} {v : Int32} (h : S' = gu S 57 0 v) (q : ∀ i, 1 ≤ i → S.1 57 i = σ.1 57 i) : ∀ i, 1 ≤ i → S'.1 57 i = σ.1 57 i := by
  intro i hi
  rw [h, gu_at, if_neg (by omega)]
  exact q i hi
theorem kq_pr {σ S S' : gS} {k n : Nat} {v : Int32} (h : S' = gu S k n v) (hk : 57 ≠ k) (q : ∀ i, 1 ≤ i → S.1 57 i = σ.1 57 i) : ∀ i, 1 ≤ i → S'.1 57 i = σ.1 57 i := by
  intro i hi
  rw [h, gu_ne hk]
  exact q i hi
theorem kq_c {σ S S' T : gS} (h : S' = T) (hc : ∀ i, 1 ≤ i → T.1 57 i = S.1 57 i) (q : ∀ i, 1 ≤ i → S.1 57 i = σ.1 57 i) : ∀ i, 1 ≤ i → S'.1 57 i = σ.1 57 i := by
  intro i hi
  rw [h]
  exact (hc i hi).trans (q i hi)
theorem mOK.p0 {S S' : gS} {v : Int32} (h : S' = gu S 57 0 v) (o : mOK S) : mOK S' := by
  subst h
  exact o.of (fun j h1 _ => by rw [gu_at, if_neg (by omega)]) (fun d hd => by rw [gu_ne (by decide)]; exact o.2 d hd)
theorem mOK.now {S S' : gS} {n : Nat} {v : Int32} (h : S' = gu S 62 n v) (hn : ∀ d, d < 4 → n ≠ 14 + 4 * d + 1) (o : mOK S) : mOK S' := by
  subst h
  refine o.of (fun j h1 _ => by rw [gu_ne (by decide)]) (fun d hd => ?_)
  rw [gu_at, if_neg (fun q => hn d hd q.symm)]
  exact o.2 d hd
theorem mOK.row {S S' : gS} {k n : Nat} {v : Int32} (h : S' = gu S k n v) (hk : 57 ≠ k) (hk2 : 62 ≠ k) (o : mOK S) : mOK S' := by
  subst h
  exact o.of (fun j h1 _ => by rw [gu_ne hk]) (fun d hd => by rw [gu_ne hk2]; exact o.2 d hd)
theorem mcnt {x : Int32} {k m : Nat} (h : x = nI k) (hk : k ≤ m) (h2 : ¬ x = nI m) : k < m := by
  rcases Nat.lt_trichotomy k m with q | q | q
  · exact q
  · exact absurd (by rw [h, q]) h2
  · omega
/-- a drum's load, where it isn't empty -/
theorem lk_nat {σ : gS} {p d : Nat} (h : lOK σ p) (hd : d < 4) (hn : ¬ σ.1 p (14 + 4 * d + 1) = -1) : (σ.1 p (14 + 4 * d + 1)).toNatClampNeg < 2 ∧ σ.1 p (14 + 4 * d + 1) = nI (σ.1 p (14 + 4 * d + 1)).toNatClampNeg := by
  rcases h d hd with q | q | q
  · exact absurd q hn
  · rw [q]; exact ⟨by decide, by decide⟩
  · rw [q]; exact ⟨by decide, by decide⟩
theorem itr_invB {α : Type} (f : Nat → α → α) (I : α → Prop) : ∀ n (_ : ∀ j x, j < n → I x → I (f j x)) x, I x → I (itr f n x)
  | 0, _, _, hx => hx
  | n + 1, h, x, hx => h n _ (Nat.lt_succ_self n) (itr_invB f I n (fun j x hj => h j x (Nat.lt_succ_of_lt hj)) x hx)
theorem gI_add {x y : Int32} {m n : Nat} (h1 : x = nI m) (h2 : y = nI n) : x + y = nI (m + n) := by rw [h1, h2, nI_add]
theorem gI_mul {x y : Int32} {m n : Nat} (h1 : x = nI m) (h2 : y = nI n) : x * y = nI (m * n) := by rw [h1, h2, pk_mul]
