theorem itr_invN {α : Type} (f : Nat → α → α) (I : Nat → α → Prop) : ∀ (n : Nat), (∀ j x, j < n → I j x → I (j + 1) (f j x)) → ∀ x, I 0 x → I n (itr f n x)
  | 0, _, _, h => h
  | n + 1, hs, x, h => hs n _ (Nat.lt_succ_self n) (itr_invN f I n (fun j x hj => hs j x (Nat.lt_succ_of_lt hj)) x h)
theorem itr_relN {α β : Type} (f : Nat → α → α) (g : Nat → β → β) (R : Nat → α → β → Prop) : ∀ (n : Nat), (∀ j x y, j < n → R j x y → R (j + 1) (f j x) (g j y)) → ∀ x y, R 0 x y → R n (itr f n x) (itr g n y)
  | 0, _, _, _, h => h
  | n + 1, hs, x, y, h => hs n _ _ (Nat.lt_succ_self n) (itr_relN f g R n (fun j x y hj => hs j x y (Nat.lt_succ_of_lt hj)) x y h)
/-- between two towns k portions were served, t of them thinned -/
def DS (τ τ' : gS) (k t : Nat) : Prop :=
  (cv τ' 6 5 = cv τ 6 5 + k ∧ cv τ' 6 6 = cv τ 6 6 + t ∧ t ≤ k) ∧ (cv τ 6 2 + cv τ 6 3 = cv τ' 6 2 + cv τ' 6 3 + 10 * k ∧ cv τ' 6 2 ≤ cv τ 6 2 ∧ cv τ' 6 3 ≤ cv τ 6 3) ∧ (cv τ 6 3 ≤ cv τ' 6 3 + cv τ 6 4 * k ∧ cv τ' 6 3 + cv τ 6 4 * k ≤ cv τ 6 3 + cv τ 6 4 * t) ∧ τ'.1 6 4 = τ.1 6 4
section DSS
variable {E : gT} {τ τ' τ'' : gS} {D B S : Nat}
theorem DS.rf : DS τ τ 0 0 := by
  unfold DS
  refine ⟨⟨rfl, rfl, Nat.le_refl _⟩, ⟨rfl, Nat.le_refl _, Nat.le_refl _⟩, ⟨by omega, by omega⟩, rfl⟩
theorem DS.trans {k t k2 t2 : Nat} (h : DS τ τ' k t) (h2 : DS τ' τ'' k2 t2) : DS τ τ'' (k + k2) (t + t2) := by
  obtain ⟨⟨a1, a2, a3⟩, ⟨a4, a5, a6⟩, ⟨a7, a8⟩, a9⟩ := h
  obtain ⟨⟨b1, b2, b3⟩, ⟨b4, b5, b6⟩, ⟨b7, b8⟩, b9⟩ := h2
  rw [cv_eq a9] at b7 b8
  refine ⟨⟨by omega, by omega, by omega⟩, ⟨by omega, by omega, by omega⟩, ?_, b9.trans a9⟩
  rw [Nat.mul_add, Nat.mul_add]
  omega
/-- where the store's parts are the same -/
theorem DS.pre {k t : Nat} (h : DS τ' τ'' k t) (e : ∀ w, 2 ≤ w → τ'.1 6 w = τ.1 6 w) : DS τ τ'' k t := by
  unfold DS at h ⊢
  rw [cv_eq (e 2 (by decide)), cv_eq (e 3 (by decide)), cv_eq (e 4 (by decide)), cv_eq (e 5 (by decide)), cv_eq (e 6 (by decide)), e 4 (by decide)] at h
  exact h
theorem DS.post {k t : Nat} (h : DS τ τ' k t) (e : ∀ w, 2 ≤ w → τ''.1 6 w = τ'.1 6 w) : DS τ τ'' k t := by
  unfold DS at h ⊢
  rw [cv_eq (e 2 (by decide)), cv_eq (e 3 (by decide)), cv_eq (e 5 (by decide)), cv_eq (e 6 (by decide)), e 4 (by decide)]
  exact h
/-- a portion for the card j, or none -/
def OneP (τ τ' : gS) (j B S m k t : Nat) : Prop :=
  k ≤ m ∧ DS τ τ' k t ∧ STi τ' B (S + k) ∧ CGi τ' j ∧ (cv τ 6 4 < cv τ (19 + j) 1 → k = 0) ∧ τ'.1 (19 + j) 3 = τ.1 (19 + j) 3 + nI k ∧ τ'.1 6 5 = τ.1 6 5 + nI k ∧ τ'.1 (19 + j) 1 = τ.1 (19 + j) 1 ∧ ∀ x, x ≠ 6 → x ≠ 19 + j → τ'.1 x = τ.1 x
theorem one_fr {j x : Nat} (h6 : x ≠ 6) (hk : x ≠ 19 + j) : (sX1_serveOne_s τ (19 + j) 6).1 x = τ.1 x := by
  unfold sX1_serveOne_s
  split
  · rfl
  · split
    · rfl
    · split
      · dsimp only
        rw [gu_ne hk, gu_ne hk, fX4_servePortion _ _ _ _ h6]
      · dsimp only
        rw [gu_ne hk]
theorem one_st {j : Nat} (hs : STi τ B S) (hB : B < 2 ^ 29) (hS : S + 1 < 2 ^ 30) (hc : CGi τ j) : ∃ k t, sX1_serveOne_r τ (19 + j) 6 = nI k ∧ OneP τ (sX1_serveOne_s τ (19 + j) 6) j B S 1 k t := by
  have none : ∀ τ1 : gS, τ1.1 6 = τ.1 6 → (∀ w, w ≠ 4 → τ1.1 (19 + j) w = τ.1 (19 + j) w) → (∀ x, x ≠ 6 → x ≠ 19 + j → τ1.1 x = τ.1 x) → OneP τ τ1 j B S 1 0 0 := fun τ1 e6 er ef => by
    refine ⟨by omega, DS.rf.post (fun w _ => by rw [e6]), hs.at e6, ?_, fun _ => rfl, ?_, ?_, er 1 (by decide), ef⟩
    · unfold CGi at hc ⊢
      rw [cv_eq (er 0 (by decide))]
      exact ⟨hc.1.eq (er 0 (by decide)), hc.2.1.eq (er 1 (by decide)), hc.2.2.eq (er 2 (by decide))⟩
    · rw [er 3 (by decide)]
      exact (i32_add0 _).symm
    · rw [e6]
      exact (i32_add0 _).symm
  obtain ⟨s0, s1, s2, s3, s4, s5, s6⟩ := id hs
  obtain ⟨c0, c1, c2⟩ := id hc
  have l2 := s2.2
  have l3 := s3.2
  have l4 := s4.2
  have l5 := s5.2
  have l6 := s6.2
  have m0 := c0.2
  have m1 := c1.2
  have m2 := c2.2
  have n6 : 19 + j ≠ 6 := by omega
  have ec : sX4_coffeeOfPortion_r τ 6 = nI (min (cv τ 6 4) (cv τ 6 3)) := by
    unfold sX4_coffeeOfPortion_r
    rw [s4.1, s3.1]
    exact gmin_nI (by omega) (by omega)
  have fr : ∀ x, x ≠ 6 → x ≠ 19 + j → (sX1_serveOne_s τ (19 + j) 6).1 x = τ.1 x := fun x h6 hk => one_fr h6 hk
  generalize hcN : min (cv τ 6 4) (cv τ 6 3) = N at ec
  have hN4 : N ≤ cv τ 6 4 := by omega
  have hN3 : N ≤ cv τ 6 3 := by omega
  have e10 : (10 : Int32) - nI N = nI (10 - N) := pk_sub (a := 10) (by omega)
  revert fr
  unfold sX1_serveOne_r sX1_serveOne_s sX4_canMix_r
  dsimp only
  rw [ec, e10]
  intro fr
  by_cases d1 : τ.1 (19 + j) 2 = 0
  · simp only [if_pos d1] at fr ⊢
    exact ⟨0, 0, rfl, none τ rfl (fun _ _ => rfl) (fun _ _ _ => rfl)⟩
  · simp only [if_neg d1] at fr ⊢
    by_cases d2 : τ.1 6 2 < nI (10 - N)
    · simp only [if_pos d2, if_true] at fr ⊢
      exact ⟨0, 0, rfl, none τ rfl (fun _ _ => rfl) (fun _ _ _ => rfl)⟩
    · simp only [if_neg d2, show ¬ ((1 : Int32) = 0) by decide, if_false] at fr ⊢
      have d2' : 10 - N ≤ cv τ 6 2 := by
        rw [s2.1] at d2
        exact Nat.le_of_not_lt (fun z => d2 ((nI_ltI (by omega) (by omega)).mpr z))
      by_cases d3 : τ.1 (19 + j) 1 ≤ nI N
      · simp only [if_pos d3] at fr ⊢
        have d3' : cv τ (19 + j) 1 ≤ N := by
          rw [c1.1] at d3
          exact (nI_leI (by omega) (by omega)).mp d3
        have x1 : 1 ≤ cv τ (19 + j) 2 := Nat.pos_of_ne_zero (fun z => d1 (by rw [c2.1, z]; rfl))
        rw [one_pts n6] at fr ⊢
        rw [e10] at fr ⊢
        revert fr
        generalize hX : gu (gu (gu (gu (gu (gu τ 6 3 (τ.1 6 3 - nI N)) 6 2 (τ.1 6 2 - nI (10 - N))) (19 + j) 2 (τ.1 (19 + j) 2 - 1)) (19 + j) 3 (τ.1 (19 + j) 3 + 1)) 6 5 (τ.1 6 5 + 1)) 6 6 (τ.1 6 6 + (if τ.1 6 4 ≤ nI N then 0 else 1)) = X
        intro fr
        have p0 : X.1 6 0 = τ.1 6 0 := by rw [← hX]; simp only [gu]; grind
        have p1 : X.1 6 1 = τ.1 6 1 := by rw [← hX]; simp only [gu]; grind
        have p4 : X.1 6 4 = τ.1 6 4 := by rw [← hX]; simp only [gu]; grind
        have p2 : X.1 6 2 = nI (cv τ 6 2 - (10 - N)) := by
          have : X.1 6 2 = τ.1 6 2 - nI (10 - N) := by rw [← hX]; simp only [gu]; grind
          rw [this, s2.1]
          exact pk_sub d2'
        have p3 : X.1 6 3 = nI (cv τ 6 3 - N) := by
          have : X.1 6 3 = τ.1 6 3 - nI N := by rw [← hX]; simp only [gu]; grind
          rw [this, s3.1]
          exact pk_sub hN3
        have p5' : X.1 6 5 = τ.1 6 5 + 1 := by rw [← hX]; simp only [gu]; grind
        have p5 : X.1 6 5 = nI (cv τ 6 5 + 1) := by rw [p5', s5.1, nI_1]
        have ht : ∃ t, t ≤ 1 ∧ (if τ.1 6 4 ≤ nI N then (0 : Int32) else 1) = nI t ∧ (t = 0 → N = cv τ 6 4) := by
          by_cases z : τ.1 6 4 ≤ nI N
          · refine ⟨0, by omega, by rw [if_pos z]; rfl, fun _ => ?_⟩
            rw [s4.1] at z
            have := (nI_leI (by omega) (by omega)).mp z
            omega
          · exact ⟨1, by omega, by rw [if_neg z]; rfl, fun w => absurd w (by decide)⟩
        obtain ⟨t, t1, et, t0⟩ := ht
        have p6 : X.1 6 6 = nI (cv τ 6 6 + t) := by
          have : X.1 6 6 = τ.1 6 6 + (if τ.1 6 4 ≤ nI N then 0 else 1) := by rw [← hX]; simp only [gu]; grind
          rw [this, et, s6.1, nI_add]
        have q0 : X.1 (19 + j) 0 = τ.1 (19 + j) 0 := by rw [← hX]; simp only [gu]; grind
        have q1 : X.1 (19 + j) 1 = τ.1 (19 + j) 1 := by rw [← hX]; simp only [gu]; grind
        have q2 : X.1 (19 + j) 2 = nI (cv τ (19 + j) 2 - 1) := by
          have : X.1 (19 + j) 2 = τ.1 (19 + j) 2 - 1 := by rw [← hX]; simp only [gu]; grind
          rw [this, c2.1, nI_sub1 x1]
        have q3 : X.1 (19 + j) 3 = τ.1 (19 + j) 3 + 1 := by rw [← hX]; simp only [gu]; grind
        have k2 := num.of (b := B) p2 (by omega) (by omega)
        have k3 := num.of (b := B) p3 (by omega) (by omega)
        have k5 := num.of (b := S + 1) p5 (by omega) (by omega)
        have k6 := num.of (b := S + 1) p6 (by omega) (by omega)
        refine ⟨1, t, rfl, ⟨by omega, ⟨⟨k5.2, k6.2, t1⟩, ⟨?_, ?_, ?_⟩, ⟨?_, ?_⟩, p4⟩, ⟨s0.eq p0, s1.eq p1, k2.1, k3.1, s4.eq p4, k5.1, k6.1⟩, ⟨c0.eq q0, c1.eq q1, ?_⟩, fun z => ?_, q3, p5', q1, fr⟩⟩
        · rw [k2.2, k3.2]; omega
        · rw [k2.2]; omega
        · rw [k3.2]; omega
        · rw [k3.2]; omega
        · rw [k3.2]
          rcases (show t = 0 ∨ t = 1 by omega) with rfl | rfl
          · have := t0 rfl
            omega
          · omega
        · rw [cv_eq q0]
          exact (num.of q2 (by omega) (by omega)).1
        · omega
      · simp only [if_neg d3] at fr ⊢
        exact ⟨0, 0, rfl, none _ (gu_ne (Ne.symm n6)) (fun w hw => by rw [gu_at, if_neg hw]) fr⟩
theorem OneP.trans {j m m2 k t k2 t2 : Nat} (h : OneP τ τ' j B S m k t) (h2 : OneP τ' τ'' j B (S + k) m2 k2 t2) : OneP τ τ'' j B S (m + m2) (k + k2) (t + t2) := by
  obtain ⟨a1, a2, a3, a4, a5, a6, a7, a8, a9⟩ := h
  obtain ⟨b1, b2, b3, b4, b5, b6, b7, b8, b9⟩ := h2
  refine ⟨by omega, a2.trans b2, by rw [← Nat.add_assoc]; exact b3, b4, fun z => ?_, ?_, ?_, b8.trans a8, fun x h6 hk => (b9 x h6 hk).trans (a9 x h6 hk)⟩
  · have := a5 z
    have := b5 (by rw [cv_eq a2.2.2.2, cv_eq a8]; exact z)
    omega
  · rw [b6, a6, Int32.add_assoc, nI_add]
  · rw [b7, a7, Int32.add_assoc, nI_add]
theorem day_st {j : Nat} (hs : STi τ B S) (hB : B < 2 ^ 29) (hS : S + 2 < 2 ^ 30) (hc : CGi τ j) : ∃ k t, sX1_serveDay_r τ (19 + j) 6 = nI k ∧ OneP τ (sX1_serveDay_s τ (19 + j) 6) j B S 2 k t := by
  obtain ⟨k, t, r1, o1⟩ := one_st hs hB (by omega) hc
  have hk := o1.1
  obtain ⟨k2, t2, r2, o2⟩ := one_st o1.2.2.1 hB (by omega) o1.2.2.2.1
  have hk2 := o2.1
  unfold sX1_serveDay_r sX1_serveDay_s
  dsimp only
  rw [r1, r2]
  by_cases c : nI k = 0
  · rw [if_pos c, if_pos c]
    have k0 : k = 0 := (nI_eq (b := 0) (by omega) (by decide)).mp c
    subst k0
    obtain ⟨q1, q2⟩ := o1
    exact ⟨0, t, rfl, by omega, q2⟩
  · rw [if_neg c, if_neg c]
    have k1 : k = 1 := by
      rcases (show k = 0 ∨ k = 1 by omega) with rfl | rfl
      · exact absurd rfl c
      · rfl
    refine ⟨k + k2, t + t2, ?_, ?_⟩
    · subst k1
      split
      · rename_i z
        have : k2 = 0 := (nI_eq (b := 0) (by omega) (by decide)).mp z
        subst this
        rfl
      · rename_i z
        rcases (show k2 = 0 ∨ k2 = 1 by omega) with rfl | rfl
        · exact absurd rfl z
        · rfl
    · split <;> exact o1.trans o2
theorem card_st {j : Nat} (hs : STi τ B S) (hB : B < 2 ^ 29) (hS : S + 2 < 2 ^ 30) (hc : CGi τ j) (p : Int32) : ∃ k t, (stX6_serve_4 1 j (τ, p)).2 = p + nI k ∧ OneP τ (stX6_serve_4 1 j (τ, p)).1 j B S 2 k t := by
  unfold stX6_serve_4
  rw [show 1 + 18 + j = 19 + j by omega, show 1 + 5 = 6 from rfl]
  dsimp only
  split
  · dsimp only
    have n6 : 6 ≠ 19 + j := by omega
    have e6 : (sX1_renew_s τ (19 + j)).1 6 = τ.1 6 := fX1_renew _ _ _ n6
    have er : ∀ w, w ≠ 2 → (sX1_renew_s τ (19 + j)).1 (19 + j) w = τ.1 (19 + j) w := fun w hw => by
      unfold sX1_renew_s
      rw [gu_at, if_neg hw]
    have e2 : (sX1_renew_s τ (19 + j)).1 (19 + j) 2 = τ.1 (19 + j) 0 := by
      unfold sX1_renew_s
      rw [gu_at, if_pos rfl]
    have hc1 : CGi (sX1_renew_s τ (19 + j)) j := by
      obtain ⟨c0, c1, c2⟩ := hc
      unfold CGi
      rw [cv_eq (er 0 (by decide))]
      refine ⟨c0.eq (er 0 (by decide)), c1.eq (er 1 (by decide)), ?_⟩
      unfold num
      rw [e2, cv_eq e2]
      exact ⟨c0.1, Nat.le_refl _⟩
    obtain ⟨k, t, r, a1, a2, a3, a4, a5, a6, a7, a8, a9⟩ := day_st (hs.at e6) hB hS hc1
    refine ⟨k, t, by rw [r], a1, a2.pre (fun w _ => by rw [e6]), a3, a4, fun z => a5 (by rw [cv_eq (congrFun e6 4), cv_eq (er 1 (by decide))]; exact z), by rw [a6, er 3 (by decide)], by rw [a7, e6], a8.trans (er 1 (by decide)), fun x h6 hk => (a9 x h6 hk).trans (fX1_renew _ _ _ hk)⟩
  · obtain ⟨k, t, r, h⟩ := day_st hs hB hS hc
    exact ⟨k, t, by rw [r], h⟩
end DSS
