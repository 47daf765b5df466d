/-! days: what they leave alone, how many portions they serve -/
section UN
variable {σ τ : gS} {t : Nat}
/-- drums that are not hired stay as they are -/
theorem fd_live {x d : Nat} (ht : gTw t) (h : tOK σ t) (hx : t + 10 + tB σ t 6 ≤ x) (hx2 : x < t + 14) : (sX6_live_s σ t d).1 x = σ.1 x := by
  have p1 : ∀ y : gS, tOK y t → (sX6_travel_s y t).1 x = y.1 x := fun y hy => by
    unfold sX6_travel_s
    refine itr_keepB _ (fun z : gS => z.1 x) _ (fun j z hj => ?_) y
    unfold stX6_travel_2
    dsimp only
    rw [fX4_add _ _ _ _ _ (by omega), fX3_travel _ _ _ _ (by omega)]
  have p2 : ∀ y : gS, tB y t 6 = tB σ t 6 → (sX6_warm_s y t).1 x = y.1 x := fun y hy => by
    unfold sX6_warm_s
    refine itr_keepB _ (fun z : gS => z.1 x) _ (fun j z hj => ?_) y
    unfold stX6_warm_2
    dsimp only
    rw [fX2_warm _ _ _ (by omega)]
  have p3 : ∀ y : gS, tOK y t → (sX6_grow_s y t).1 x = y.1 x := fun y hy => by
    unfold sX6_grow_s
    refine itr_keepB _ (fun z : gS => z.1 x) _ (fun j z hj => ?_) y
    have := hy.le5
    unfold stX6_grow_2
    dsimp only
    rw [fX0_grow _ _ _ (by omega)]
  have p4 : ∀ y : gS, tOK y t → (sX6_serve_s y t).1 x = y.1 x := fun y hy => by
    unfold sX6_serve_s
    refine itr_keepB _ (fun z : gS × Int32 => z.1.1 x) _ (fun j z hj => ?_) (y, (0 : Int32))
    unfold stX6_serve_4
    dsimp only
    split
    · dsimp only
      rw [fX1_serveDay _ _ _ _ (by omega) (by omega), fX1_renew _ _ _ (by omega)]
    · dsimp only
      rw [fX1_serveDay _ _ _ _ (by omega) (by omega)]
  unfold sX6_live_s
  refine (itr_inv _ (fun y : gS × Int32 => (tOK y.1 t ∧ tB y.1 t 6 = tB σ t 6) ∧ y.1.1 x = σ.1 x) (fun j y hy => ⟨⟨okstX6_live_4 ht hy.1.1, ?_⟩, ?_⟩) d (σ, (0 : Int32)) ⟨⟨h, rfl⟩, rfl⟩).2
  · obtain ⟨⟨h1, h2⟩, h3⟩ := hy
    unfold stX6_live_4
    dsimp only
    unfold tB at h2 ⊢
    rw [gu_at, if_neg (by omega), frX6_serve, frX6_grow, frX6_warm, frX6_travel]
    exact h2
  · obtain ⟨⟨h1, h2⟩, h3⟩ := hy
    unfold stX6_live_4
    dsimp only
    have o1 := okX6_travel ht h1
    have o2 := okX6_warm ht o1
    have o3 := okX6_grow ht o2
    have e6 : tB (sX6_travel_s y.1 t) t 6 = tB σ t 6 := by
      unfold tB at h2 ⊢
      rw [frX6_travel]
      exact h2
    rw [gu_ne (by omega), p4 _ o3, p3 _ o2, p2 _ e6, p1 _ h1]
    exact h3
/-- how many portions days serve -/
theorem serve_le (h : tOK σ t) : ∃ s, s ≤ 20 ∧ sX6_serve_r σ t = nI s := by
  have key : ∀ n, ∃ s, s ≤ 2 * n ∧ (itr (stX6_serve_4 t) n (σ, (0 : Int32))).2 = nI s := by
    intro n
    induction n with
    | zero => exact ⟨0, Nat.le_refl _, rfl⟩
    | succ n ih =>
      obtain ⟨s, h1, h2⟩ := ih
      rw [itr.eq_2]
      generalize itr (stX6_serve_4 t) n (σ, (0 : Int32)) = y at h2 ⊢
      have d3 : ∀ (z : gS) (k q : Nat), ∃ u, u ≤ 2 ∧ sX1_serveDay_r z k q = nI u := fun z k q => by
        unfold sX1_serveDay_r
        dsimp only
        split
        · exact ⟨0, by omega, rfl⟩
        · split
          · exact ⟨1, by omega, rfl⟩
          · exact ⟨2, by omega, rfl⟩
      unfold stX6_serve_4
      dsimp only
      split
      · obtain ⟨u, g1, g2⟩ := d3 (sX1_renew_s y.1 (t + 18 + n)) (t + 18 + n) (t + 5)
        exact ⟨s + u, by omega, by dsimp only; rw [h2, g2, nI_add]⟩
      · obtain ⟨u, g1, g2⟩ := d3 y.1 (t + 18 + n) (t + 5)
        exact ⟨s + u, by omega, by dsimp only; rw [h2, g2, nI_add]⟩
  obtain ⟨s, h1, h2⟩ := key (tB σ t 8)
  have := h.le8
  exact ⟨s, by omega, by unfold sX6_serve_r; exact h2⟩
theorem live_le (ht : gTw t) (h : tOK σ t) (d : Nat) : ∃ s, s ≤ 20 * d ∧ sX6_live_r σ t d = nI s := by
  have key : ∀ n, tOK (itr (stX6_live_4 t d) n (σ, (0 : Int32))).1 t ∧ ∃ s, s ≤ 20 * n ∧ (itr (stX6_live_4 t d) n (σ, (0 : Int32))).2 = nI s := by
    intro n
    induction n with
    | zero => exact ⟨h, 0, Nat.le_refl _, rfl⟩
    | succ n ih =>
      obtain ⟨h0, s, h1, h2⟩ := ih
      rw [itr.eq_2]
      generalize itr (stX6_live_4 t d) n (σ, (0 : Int32)) = y at h0 h2 ⊢
      refine ⟨okstX6_live_4 ht h0, ?_⟩
      have o3 := okX6_grow ht (okX6_warm ht (okX6_travel ht h0))
      obtain ⟨u, g1, g2⟩ := serve_le o3
      unfold stX6_live_4
      exact ⟨s + u, by omega, by dsimp only; rw [h2, g2, nI_add]⟩
  unfold sX6_live_r
  exact (key d).2
/-! the reference's days -/
theorem un_2 {j i : Nat} (hj : j < 4) (h1 : i ≠ 2) (h2 : i < 30 ∨ 42 ≤ i) : (stX8_dayOn_2 j τ).1 62 i = τ.1 62 i := by
  unfold stX8_dayOn_2 sX8_goOn_s sX8_letSmuggler_s
  dsimp only
  repeat' split
  all_goals first | rfl | (simp only [gu]; try grind)
theorem un_32 {j i : Nat} (h1 : i ≠ 14 + 4 * j + 3) : (stX8_dayOn_32 j τ).1 62 i = τ.1 62 i := by
  unfold stX8_dayOn_32 sX8_letDrum_s
  dsimp only
  split
  · rfl
  · rw [gu_rd, if_neg (by omega)]
theorem un_90 {j i : Nat} (h1 : i ≠ 10 + j) : (stX8_dayOn_90 j τ).1 62 i = τ.1 62 i := by
  unfold stX8_dayOn_90
  dsimp only
  rw [gu_rd, if_neg (by omega)]
theorem un_serve {j i : Nat} (h1 : 7 ≤ i) (h2 : i < 42 + 3 * j ∨ 42 + 3 * j + 2 < i) : (sX8_serve_s τ j).1 62 i = τ.1 62 i := by
  unfold sX8_serve_s sX8_moreCard_s
  dsimp only
  repeat' split
  all_goals first | rfl | (simp only [gu]; try grind)
theorem un_146 {j i : Nat} (h1 : 7 ≤ i) (h2 : i < 42 + 3 * j ∨ 42 + 3 * j + 2 < i) : (stX8_dayOn_146 j τ).1 62 i = τ.1 62 i := by
  unfold stX8_dayOn_146
  dsimp only
  repeat' split
  all_goals (simp only [un_serve h1 h2, gu]; try grind)
/-- where a day writes nothing -/
def UN (τ : gS) (i : Nat) : Prop := 7 ≤ i ∧ (i < 10 ∨ (14 ≤ i ∧ i < 30) ∨ 42 ≤ i) ∧ (∀ j, j < mB τ 2 → i ≠ 14 + 4 * j + 3) ∧ (∀ j, j < mB τ 4 → i < 42 + 3 * j ∨ 42 + 3 * j + 2 < i)
theorem un_day {i : Nat} (hM : mOK τ) (h : UN τ i) : (sX8_dayOn_s τ).1 62 i = τ.1 62 i := by
  obtain ⟨h1, h2, h3, h4⟩ := h
  have l1 := hM.le1
  have l3 := hM.le3
  unfold sX8_dayOn_s
  dsimp only
  rw [gu_rd, if_neg (by omega)]
  rw [itr_keepB stX8_dayOn_146 (fun y : gS => y.1 62 i) (mB τ 4) (fun j x hj => un_146 h1 (h4 j hj)),
    itr_keepB stX8_dayOn_90 (fun y : gS => y.1 62 i) (mB τ 1) (fun j x hj => un_90 (by omega)),
    itr_keepB stX8_dayOn_32 (fun y : gS => y.1 62 i) (mB τ 2) (fun j x hj => un_32 (h3 j hj)),
    itr_keepB stX8_dayOn_2 (fun y : gS => y.1 62 i) (mB τ 3) (fun j x hj => un_2 (by omega) (by omega) (by omega))]
theorem UN.of {y : gS} {i : Nat} (e : y.1 57 = τ.1 57) (h : UN τ i) : UN y i := by
  unfold UN at *
  rw [mB_of (congrFun e 2), mB_of (congrFun e 4)]
  exact h
theorem un_days {i : Nat} (hM : mOK τ) (h : UN τ i) (d : Nat) : (sX8_daysOn_s τ d).1 62 i = τ.1 62 i := by
  unfold sX8_daysOn_s
  refine (itr_inv (stX8_daysOn_2 d) (fun y : gS => (mOK y ∧ y.1 57 = τ.1 57) ∧ y.1 62 i = τ.1 62 i) (fun j y hy => ?_) d τ ⟨⟨hM, rfl⟩, rfl⟩).2
  obtain ⟨⟨q1, q2⟩, q3⟩ := hy
  have e : stX8_daysOn_2 d j y = sX8_dayOn_s y := rfl
  rw [e]
  exact ⟨⟨okX8_dayOn q1, (fX8_dayOn y 57 (by decide)).trans q2⟩, (un_day q1 (h.of q2)).trans q3⟩
theorem d2_serve (x : gS) (j : Nat) : (sX8_serve_s x j).2 = x.2 := by
  unfold sX8_serve_s sX8_moreCard_s
  dsimp only
  repeat' split
  all_goals rfl
theorem d2_day (x : gS) : (sX8_dayOn_s x).2 = x.2 := by
  have a1 : ∀ n (y : gS), (itr stX8_dayOn_2 n y).2 = y.2 := fun n y => itr_keep _ (fun z : gS => z.2) (fun j z => by
    unfold stX8_dayOn_2 sX8_goOn_s sX8_letSmuggler_s
    dsimp only
    repeat' split
    all_goals rfl) n y
  have a2 : ∀ n (y : gS), (itr stX8_dayOn_32 n y).2 = y.2 := fun n y => itr_keep _ (fun z : gS => z.2) (fun j z => by
    unfold stX8_dayOn_32 sX8_letDrum_s
    dsimp only
    split <;> rfl) n y
  have a3 : ∀ n (y : gS), (itr stX8_dayOn_90 n y).2 = y.2 := fun n y => itr_keep stX8_dayOn_90 (fun z : gS => z.2) (fun j z => rfl) n y
  have a4 : ∀ n (y : gS), (itr stX8_dayOn_146 n y).2 = y.2 := fun n y => itr_keep _ (fun z : gS => z.2) (fun j z => by
    unfold stX8_dayOn_146
    dsimp only
    repeat' split
    all_goals simp only [d2_serve, gu]) n y
  unfold sX8_dayOn_s
  dsimp only
  show (itr stX8_dayOn_146 _ _).2 = _
  rw [a4, a3, a2, a1]
theorem d2_days (x : gS) (d : Nat) : (sX8_daysOn_s x d).2 = x.2 := by
  unfold sX8_daysOn_s
  exact itr_keep _ (fun z : gS => z.2) (fun j z => d2_day z) d x
/-! the cards' sum -/
theorem sum_add {F : gS} {n j : Nat} {v : Int32} (e : ∀ i, i < n → F.1 62 (42 + 3 * i + 1) = τ.1 62 (42 + 3 * i + 1) + if i = j then v else 0) : ∀ m, m ≤ n → itr (stX8_mean_9 F) m (0 : Int32) = itr (stX8_mean_9 τ) m (0 : Int32) + if j < m then v else 0 := by
  intro m
  induction m with
  | zero => intro _; rw [itr.eq_1, itr.eq_1, if_neg (by omega)]; rfl
  | succ m ih =>
    intro hm
    rw [itr.eq_2, itr.eq_2]
    have i1 := ih (by omega)
    have i2 := e m (by omega)
    unfold stX8_mean_9 sX8_ca_r at *
    rw [i1, i2]
    by_cases c : m = j
    · rw [if_pos c, if_neg (show ¬ j < m by omega), if_pos (show j < m + 1 by omega)]
      grind
    · rw [if_neg c]
      by_cases c2 : j < m
      · rw [if_pos c2, if_pos (show j < m + 1 by omega)]
        grind
      · rw [if_neg c2, if_neg (show ¬ j < m + 1 by omega)]
        grind
def QS (τ : gS) (n : Nat) : Int32 := itr (stX8_mean_9 τ) n (0 : Int32) - τ.1 62 5
theorem QS.of {F : gS} {n : Nat} (e5 : F.1 62 5 = τ.1 62 5) (e : ∀ i, i < n → F.1 62 (42 + 3 * i + 1) = τ.1 62 (42 + 3 * i + 1)) : QS F n = QS τ n := by
  unfold QS
  rw [e5, zv_itr (stX8_mean_9 F) (stX8_mean_9 τ) n (fun j x hj => by unfold stX8_mean_9 sX8_ca_r; rw [e j hj])]
theorem QS.serve {n j : Nat} (hj : j < n) : QS (sX8_serve_s τ j) n = QS τ n := by
  have hs : ((sX8_serve_s τ j).1 62 5 = τ.1 62 5 ∧ ∀ i, i < n → (sX8_serve_s τ j).1 62 (42 + 3 * i + 1) = τ.1 62 (42 + 3 * i + 1)) ∨
      ((sX8_serve_s τ j).1 62 5 = τ.1 62 5 + 1 ∧ ∀ i, i < n → (sX8_serve_s τ j).1 62 (42 + 3 * i + 1) = τ.1 62 (42 + 3 * i + 1) + if i = j then 1 else 0) := by
    unfold sX8_serve_s sX8_moreCard_s
    dsimp only
    split
    · exact Or.inl ⟨rfl, fun i hi => rfl⟩
    · split
      · split
        · right
          split
          · refine ⟨?_, fun i hi => ?_⟩ <;> (simp only [gu]; grind)
          · refine ⟨?_, fun i hi => ?_⟩ <;> (simp only [gu]; grind)
        · left
          refine ⟨?_, fun i hi => ?_⟩ <;> (simp only [gu]; grind)
      · exact Or.inl ⟨rfl, fun i hi => rfl⟩
  rcases hs with ⟨h1, h2⟩ | ⟨h1, h2⟩
  · exact QS.of h1 h2
  · unfold QS
    rw [h1, sum_add h2 n (Nat.le_refl _), if_pos hj]
    grind
theorem QS.card {n j : Nat} (hj : j < n) : QS (stX8_dayOn_146 j τ) n = QS τ n := by
  unfold stX8_dayOn_146
  dsimp only
  have e : QS (gu τ 62 (42 + 3 * j + 0) (τ.1 61 (2 * j))) n = QS τ n := QS.of (by rw [gu_rd, if_neg (by omega)]) (fun i hi => by rw [gu_rd, if_neg (by omega)])
  repeat' split
  all_goals simp only [QS.serve hj, e]
theorem QS.gu0 (x : gS) (v : Int32) (n : Nat) : QS (gu x 62 0 v) n = QS x n := QS.of (by rw [gu_rd, if_neg (by omega)]) (fun i hi => by rw [gu_rd, if_neg (by omega)])
theorem QS.day {n : Nat} (hM : mOK τ) (hn : mB τ 4 = n) : QS (sX8_dayOn_s τ) n = QS τ n := by
  subst hn
  have l1 := hM.le1
  have l2 := hM.le2
  have l3 := hM.le3
  unfold sX8_dayOn_s
  dsimp only
  rw [QS.gu0]
  rw [itr_keepB stX8_dayOn_146 (fun y : gS => QS y (mB τ 4)) (mB τ 4) (fun j x hj => QS.card hj),
    itr_keepB stX8_dayOn_90 (fun y : gS => QS y (mB τ 4)) (mB τ 1) (fun j x hj => QS.of (un_90 (by omega)) (fun i hi => un_90 (by omega))),
    itr_keepB stX8_dayOn_32 (fun y : gS => QS y (mB τ 4)) (mB τ 2) (fun j x hj => QS.of (un_32 (by omega)) (fun i hi => un_32 (by omega))),
    itr_keepB stX8_dayOn_2 (fun y : gS => QS y (mB τ 4)) (mB τ 3) (fun j x hj => QS.of (un_2 (by omega) (by omega) (by omega)) (fun i hi => un_2 (by omega) (by omega) (by omega)))]
theorem QS.days {n : Nat} (hM : mOK τ) (hn : mB τ 4 = n) (d : Nat) : QS (sX8_daysOn_s τ d) n = QS τ n := by
  unfold sX8_daysOn_s
  refine (itr_inv (stX8_daysOn_2 d) (fun y : gS => (mOK y ∧ y.1 57 = τ.1 57) ∧ QS y n = QS τ n) (fun j y hy => ?_) d τ ⟨⟨hM, rfl⟩, rfl⟩).2
  obtain ⟨⟨q1, q2⟩, q3⟩ := hy
  have e : stX8_daysOn_2 d j y = sX8_dayOn_s y := rfl
  rw [e]
  exact ⟨⟨okX8_dayOn q1, (fX8_dayOn y 57 (by decide)).trans q2⟩, (QS.day q1 (by rw [mB_of (congrFun q2 4)]; exact hn)).trans q3⟩
end UN
