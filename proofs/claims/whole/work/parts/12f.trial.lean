/-! what would be: the trial and the reference's own -/
theorem zv_b (b : Int32) : (if b < 1 then (3 : Nat) else if b ≤ 6 then 0 else 3) = if 1 ≤ b ∧ b ≤ 6 then 0 else 3 := by
  by_cases c : b < 1
  · rw [if_pos c, if_neg (fun q => absurd c (Int32.not_lt.mpr q.1))]
  · rw [if_neg c]
    by_cases d : b ≤ 6
    · rw [if_pos d, if_pos ⟨Int32.not_lt.mp c, d⟩]
    · rw [if_neg d, if_neg (fun q => d q.2)]
/-- the reference's keeping: all but row 63 as before -/
theorem keep_at (Y : gS) : (∀ k f, k ≠ 63 → (sX8_keep_s Y).1 k f = Y.1 k f) ∧ (∀ f, f < 72 → (sX8_keep_s Y).1 63 f = (sX8_keep_s Y).1 62 f) := by
  unfold sX8_keep_s gcp
  dsimp only
  refine ⟨fun k f h => by rw [if_neg (fun q => h q.1)], fun f h => by rw [if_pos ⟨rfl, h⟩, if_neg (fun q => absurd q.1 (by decide))]⟩
set_option maxHeartbeats 2000000 in
theorem okv_foresee : ok_foresee IV := by
  intro n σ a b hn hI
  have hM := hI.1.2.2.1
  have hT1 := hI.1.tOK1
  by_cases c1 : 1 ≤ a ∧ a ≤ 60
  · have han : a.toNatClampNeg ≤ 60 := zv_60 (n := 60) rfl c1
    by_cases c2 : 1 ≤ b ∧ b ≤ 6
    · have hbn : b.toNatClampNeg ≤ 6 := zv_60 (n := 6) rfl c2
      have g1 : ¬ b < 1 := Int32.not_lt.mpr c2.1
      have hT : sX7_foresee_t σ a b = 0 := by simp [sX7_foresee_t, zv_num, c1, c2, g1]
      have hr : sL_foresee_r σ a b = 0 := by simp [sL_foresee_r, hT]
      have hS : sX7_foresee_s σ a b = sX6_live_s (sX6_become_s σ) 29 a.toNatClampNeg := by simp [sX7_foresee_s, zv_num, c1, c2, g1]
      have hA : sX7_foresee_r σ a b = sX6_tell_r (sX6_live_s (sX6_become_s σ) 29 a.toNatClampNeg) 29 b.toNatClampNeg := by simp [sX7_foresee_r, zv_num, c1, c2, g1]
      have hL : sL_foresee_s σ a b = go (sX7_foresee_s σ a b) (vp_updL (sX7_foresee_s σ a b).2 0 (Int32.toInt64 (sX7_foresee_r σ a b))) := by rw [sL_foresee_s, if_pos hT]
      have q1 : ∀ k, (sL_foresee_s σ a b).1 k = (sX6_live_s (sX6_become_s σ) 29 a.toNatClampNeg).1 k := fun k => by rw [hL, hS]; rfl
      have q2 : (sL_foresee_s σ a b).2 0 = Int32.toInt64 (sX6_tell_r (sX6_live_s (sX6_become_s σ) 29 a.toNatClampNeg) 29 b.toNatClampNeg) := by rw [hL, hA]; exact go_out _ _
      generalize sL_foresee_s σ a b = τ at q1 q2 ⊢
      have q3 : ∀ k, k < 29 ∨ 57 ≤ k → τ.1 k = σ.1 k := fun k hk => by
        rw [q1, foX6_live (Or.inr rfl) (okX6_become hT1) (by omega)]
        exact foX6_become hT1 hk
      obtain ⟨D0, r0⟩ := hI.start (fun k hk => q3 k (Or.inr hk))
      obtain ⟨k1, k2⟩ := keep_at (gu τ 57 0 0)
      have hF : sX8_foresee_s τ a b = sX8_behind_s (sX8_keep_s (gu τ 57 0 0)) a.toNatClampNeg b.toNatClampNeg := by simp [sX8_foresee_s, zv_in, c1, c2]
      have hB : sX8_foresee_r τ a b = (sX8_daysOn_s (sX8_keep_s (gu τ 57 0 0)) a.toNatClampNeg).1 62 b.toNatClampNeg := by simp [sX8_foresee_r, zv_in, c1, c2, sX8_behind_r]
      have D1 : DR σ 1 (sX8_keep_s (gu τ 57 0 0)) 4 4 (mB σ 2) 4 10 := ⟨D0.1.ext (fun k _ _ f => rfl) (fun k h1 h2 f h3 => k1 k f (by omega)), D0.2.1.of (fun i _ _ => k1 62 i (by decide)), okX8_keep D0.2.2.1, D0.2.2.2.of (fX8_keep _ _ (by decide))⟩
      have D2 := (D1.become.live a.toNatClampNeg).1
      have hb := behind_at (an := a.toNatClampNeg) (wn := b.toNatClampNeg) (okX8_keep D0.2.2.1) k2 (fun f _ => rfl) (fun k f _ => rfl)
      have hb2 := behind_2 (sX8_keep_s (gu τ 57 0 0)) a.toNatClampNeg b.toNatClampNeg
      rw [tell_town D2 (by omega)] at q2
      rw [hF, hB, hr]
      refine ⟨hT1, hM.cls (fun k hk f => by rw [q3 k (Or.inr hk)]), by rw [hb, k1 57 0 (by decide), gu_rd, if_pos ⟨rfl, rfl⟩], fun _ => ?_, hI.same (fun k h1 h2 f => ?_) (fun k h1 h2 f h3 => ?_)⟩
      · rw [hb2]
        exact q2
      · rw [hb, k1 k f (by omega), gu_ne (by omega), q3 k (by omega)]
      · rw [hb, k1 k f (by omega)]
        exact r0 k f h1 (fun q => by have := h3 q; omega)
    · have g := zv_b b
      rw [if_neg c2] at g
      have hT : sX7_foresee_t σ a b = 3 := by simp [sX7_foresee_t, zv_num, c1]; simpa using g
      have hS : sX7_foresee_s σ a b = σ := by
        unfold sX7_foresee_s
        by_cases d : b < 1
        · simp [zv_num, c1, d]
        · have d2 : ¬ b ≤ 6 := fun q => c2 ⟨Int32.not_lt.mp d, q⟩
          simp [zv_num, c1, d, d2]
      have hL : sL_foresee_s σ a b = σ := by simp [sL_foresee_s, hT, hS]
      have hr : sL_foresee_r σ a b = 2 := by simp [sL_foresee_r, hT]
      have hF : sX8_foresee_s σ a b = gu (gu σ 57 0 0) 57 0 2 := by simp [sX8_foresee_s, zv_in, c1, c2, sX8_fail_s]
      exact hI.fails hL (by rw [hL]; exact hF) hr (by decide)
  · have hT : sX7_foresee_t σ a b = 1 := by simp [sX7_foresee_t, zv_num, c1]
    have hL : sL_foresee_s σ a b = σ := by simp [sL_foresee_s, hT, sX7_foresee_s, zv_num, c1]
    have hr : sL_foresee_r σ a b = 1 := by simp [sL_foresee_r, hT]
    have hF : sX8_foresee_s σ a b = gu (gu σ 57 0 0) 57 0 1 := by simp [sX8_foresee_s, zv_in, c1, sX8_fail_s]
    exact hI.fails hL (by rw [hL]; exact hF) hr (by decide)
/-- a share tried: the two trials -/
theorem adv_step {σ K x y : gS} {kd : Nat} {a v : Int32} (hD : DR σ 1 K 4 4 kd 4 10) (h63 : ∀ f, f < 72 → K.1 63 f = K.1 62 f) (hx : ∀ k, k < 29 ∨ 57 ≤ k → x.1 k = σ.1 k) (hy : ∀ k f, y.1 k f = K.1 k f) :
    (∃ s, s ≤ 20 * a.toNatClampNeg ∧ sX6_live_r (gu (sX6_become_s x) 34 4 v) 29 a.toNatClampNeg = nI s ∧ sX8_behind_r (gu y 62 7 v) a.toNatClampNeg 5 = K.1 62 5 + nI s) ∧
      (∀ k, k < 29 ∨ 57 ≤ k → (sX6_live_s (gu (sX6_become_s x) 34 4 v) 29 a.toNatClampNeg).1 k = σ.1 k) ∧ (∀ k f, (sX8_behind_s (gu y 62 7 v) a.toNatClampNeg 5).1 k f = K.1 k f) := by
  have D1 : DR x 1 y 4 4 kd 4 10 := ⟨hD.1.ext (fun k h1 h2 f => by rw [hx k (by omega)]) (fun k _ _ f _ => hy k f), hD.2.1.of (fun i _ _ => hy 62 i), hD.2.2.1.of (fun j _ _ => hy 57 j) (fun d hd => by rw [hy]; exact hD.2.2.1.2 d hd), hD.2.2.2.of (funext fun j => hy 57 j)⟩
  have hT := D1.tOK1
  have D2 := D1.become
  have D3 : DR (gu (sX6_become_s x) 34 4 v) 29 (gu y 62 7 v) (mB y 1) (mB y 2) (mB y 2) (mB y 3) (mB y 4) := D2.put (k := 34) (j := 4) (k' := 62) (v := v) (PW.s4 (t := 29)) (by omega)
  obtain ⟨D4, hr⟩ := D3.live a.toNatClampNeg
  have hM3 := D3.2.2.1
  have hT3 : tOK (gu (sX6_become_s x) 34 4 v) 29 := D3.tOK1
  obtain ⟨s, s1, s2⟩ := live_le (t := 29) (Or.inr rfl) hT3 a.toNatClampNeg
  refine ⟨⟨s, s1, s2, ?_⟩, fun k hk => ?_, ?_⟩
  · have e1 := D4.1.s5
    have e2 := D3.1.s5
    have e3 : (gu y 62 7 v).1 62 5 = K.1 62 5 := by rw [gu_rd, if_neg (by omega), hy]
    unfold sX8_behind_r
    dsimp only
    rw [s2] at hr
    grind
  · rw [foX6_live (Or.inr rfl) hT3 (by omega), gu_ne (by omega), foX6_become hT hk, hx k hk]
  · refine behind_at hM3 (fun f hf => ?_) (fun f hf => ?_) (fun k f hk => ?_)
    · rw [gu_rd, if_neg (by omega), hy, h63 f hf]
    · rw [gu_rd, if_neg (by omega), hy]
    · rw [gu_ne hk, hy]
theorem adv_loop {σ K : gS} {kd S0 : Nat} {a : Int32} (hD : DR σ 1 K 4 4 kd 4 10) (h63 : ∀ f, f < 72 → K.1 63 f = K.1 62 f) (ha : a.toNatClampNeg ≤ 28) (h0 : K.1 62 5 = nI S0) (hS : S0 ≤ 614400) : ∀ n,
    ((∀ k, k < 29 ∨ 57 ≤ k → (itr (stX7_advise_14 a) (n + 1) (σ, (0 : Int32), (-1 : Int32))).1.1 k = σ.1 k) ∧ (∀ k f, (itr (stX8_advise_32 a) (n + 1) (K, (-1 : Int32), (-1 : Int32))).1.1 k f = K.1 k f)) ∧
      (itr (stX7_advise_14 a) (n + 1) (σ, (0 : Int32), (-1 : Int32))).2.1 = (itr (stX8_advise_32 a) (n + 1) (K, (-1 : Int32), (-1 : Int32))).2.1 ∧
      ∃ m, m ≤ 560 ∧ (itr (stX7_advise_14 a) (n + 1) (σ, (0 : Int32), (-1 : Int32))).2.2 = nI m ∧ (itr (stX8_advise_32 a) (n + 1) (K, (-1 : Int32), (-1 : Int32))).2.2 = nI (S0 + m) := by
  intro n
  induction n with
  | zero =>
    obtain ⟨⟨s, s1, s2, s3⟩, r1, r2⟩ := adv_step (x := σ) (y := K) (a := a) (v := nI 0) hD h63 (fun k _ => rfl) (fun k f => rfl)
    rw [h0, nI_add] at s3
    have g1 : ¬ nI s ≤ (-1 : Int32) := by
      rw [Int32.le_iff_toInt_le, nI_toInt (by omega), show (-1 : Int32).toInt = -1 from rfl]
      omega
    have g2 : (-1 : Int32) < nI (S0 + s) := by
      rw [Int32.lt_iff_toInt_lt, nI_toInt (by omega), show (-1 : Int32).toInt = -1 from rfl]
      omega
    rw [itr.eq_2, itr.eq_2, itr.eq_1, itr.eq_1]
    unfold stX7_advise_14 stX8_advise_32
    dsimp only
    rw [s2, s3, if_neg g1, if_pos g2]
    exact ⟨⟨r1, r2⟩, rfl, s, by omega, rfl, rfl⟩
  | succ n ih =>
    have ex : itr (stX7_advise_14 a) (n + 1 + 1) (σ, (0 : Int32), (-1 : Int32)) = stX7_advise_14 a (n + 1) (itr (stX7_advise_14 a) (n + 1) (σ, (0 : Int32), (-1 : Int32))) := rfl
    have ey : itr (stX8_advise_32 a) (n + 1 + 1) (K, (-1 : Int32), (-1 : Int32)) = stX8_advise_32 a (n + 1) (itr (stX8_advise_32 a) (n + 1) (K, (-1 : Int32), (-1 : Int32))) := rfl
    rw [ex, ey]
    clear ex ey
    generalize itr (stX7_advise_14 a) (n + 1) (σ, (0 : Int32), (-1 : Int32)) = x at ih ⊢
    generalize itr (stX8_advise_32 a) (n + 1) (K, (-1 : Int32), (-1 : Int32)) = y at ih ⊢
    obtain ⟨x1, x2, x3⟩ := x
    obtain ⟨y1, y2, y3⟩ := y
    obtain ⟨⟨i1, i2⟩, i3, m, m1, m2, m3⟩ := ih
    dsimp only at i1 i2 i3 m2 m3
    subst m2 m3 i3
    obtain ⟨⟨s, s1, s2, s3⟩, r1, r2⟩ := adv_step (x := x1) (y := y1) (a := a) (v := nI (n + 1)) hD h63 i1 i2
    rw [h0, nI_add] at s3
    unfold stX7_advise_14 stX8_advise_32
    dsimp only
    rw [s2, s3]
    by_cases c : s ≤ m
    · have g1 : nI s ≤ nI m := (nI_leI (by omega) (by omega)).mpr c
      have g2 : ¬ nI (S0 + m) < nI (S0 + s) := fun q => by have := (nI_ltI (by omega) (by omega)).mp q; omega
      rw [if_pos g1, if_neg g2]
      exact ⟨⟨r1, r2⟩, rfl, m, m1, rfl, rfl⟩
    · have g1 : ¬ nI s ≤ nI m := fun q => c ((nI_leI (by omega) (by omega)).mp q)
      have g2 : nI (S0 + m) < nI (S0 + s) := (nI_ltI (by omega) (by omega)).mpr (by omega)
      rw [if_neg g1, if_pos g2]
      exact ⟨⟨r1, r2⟩, rfl, s, by omega, rfl, rfl⟩
theorem adv_11 {σ K : gS} {kd S0 : Nat} {a : Int32} (hD : DR σ 1 K 4 4 kd 4 10) (h63 : ∀ f, f < 72 → K.1 63 f = K.1 62 f) (ha : a.toNatClampNeg ≤ 28) (h0 : K.1 62 5 = nI S0) (hS : S0 ≤ 614400) :
    ((∀ k, k < 29 ∨ 57 ≤ k → (itr (stX7_advise_14 a) 11 (σ, (0 : Int32), (-1 : Int32))).1.1 k = σ.1 k) ∧ (∀ k f, (itr (stX8_advise_32 a) 11 (K, (-1 : Int32), (-1 : Int32))).1.1 k f = K.1 k f)) ∧
      (itr (stX7_advise_14 a) 11 (σ, (0 : Int32), (-1 : Int32))).2.1 = (itr (stX8_advise_32 a) 11 (K, (-1 : Int32), (-1 : Int32))).2.1 := by
  rw [show (11 : Nat) = 10 + 1 from rfl]
  have := adv_loop (a := a) hD h63 ha h0 hS 10
  exact ⟨this.1, this.2.1⟩
theorem adv_2 (a : Int32) (n : Nat) (z : gS × Int32 × Int32) : (itr (stX8_advise_32 a) n z).1.2 = z.1.2 := itr_keep _ (fun y : gS × Int32 × Int32 => y.1.2) (fun j y => by
  unfold stX8_advise_32
  dsimp only
  split <;> exact behind_2 (gu y.1 62 7 (nI j)) a.toNatClampNeg 5) n z
set_option maxHeartbeats 2000000 in
theorem okv_advise : ok_advise IV := by
  intro n σ a hn hI
  have hM := hI.1.2.2.1
  have hT1 := hI.1.tOK1
  by_cases c1 : 1 ≤ a ∧ a ≤ 28
  · have han : a.toNatClampNeg ≤ 28 := zv_60 (n := 28) rfl c1
    have hT : sX7_advise_t σ a = 0 := by simp [sX7_advise_t, zv_num, c1]
    have hr : sL_advise_r σ a = 0 := by simp [sL_advise_r, hT]
    have hS : sX7_advise_s σ a = (itr (stX7_advise_14 a) 11 (σ, (0 : Int32), (-1 : Int32))).1 := by simp [sX7_advise_s, zv_num, c1]
    have hA : sX7_advise_r σ a = (itr (stX7_advise_14 a) 11 (σ, (0 : Int32), (-1 : Int32))).2.1 := by simp [sX7_advise_r, zv_num, c1]
    have hL : sL_advise_s σ a = go (sX7_advise_s σ a) (vp_updL (sX7_advise_s σ a).2 0 (Int32.toInt64 (sX7_advise_r σ a))) := by rw [sL_advise_s, if_pos hT]
    have q1 : ∀ k, (sL_advise_s σ a).1 k = (itr (stX7_advise_14 a) 11 (σ, (0 : Int32), (-1 : Int32))).1.1 k := fun k => by rw [hL, ← hS]; rfl
    have q2 : (sL_advise_s σ a).2 0 = Int32.toInt64 (itr (stX7_advise_14 a) 11 (σ, (0 : Int32), (-1 : Int32))).2.1 := by rw [hL, hA]; exact go_out _ _
    generalize sL_advise_s σ a = τ at q1 q2 ⊢
    obtain ⟨S0, hS0, eS⟩ := nI_of (x := σ.1 62 5) (fun q => by rw [Int32.lt_iff_toInt_lt] at q; have := hI.2.2.1.1; have : (0 : Int32).toInt = 0 := rfl; omega)
    have hS1 : S0 ≤ 614400 := by
      have := hI.2.2.1.2
      rw [eS, nI_toInt hS0] at this
      omega
    -- the class's rows alone
    have hself : ∀ k, k < 29 ∨ 57 ≤ k → τ.1 k = σ.1 k := by
      obtain ⟨k1, k2⟩ := keep_at σ
      have D1 : DR σ 1 (sX8_keep_s σ) 4 4 (mB σ 2) 4 10 := ⟨hI.1.1.ext (fun k _ _ f => rfl) (fun k h1 h2 f h3 => k1 k f (by omega)), hI.1.2.1.of (fun i _ _ => k1 62 i (by decide)), okX8_keep hM, hI.1.2.2.2.of (fX8_keep _ _ (by decide))⟩
      have L := adv_11 (a := a) D1 k2 han (by rw [k1 62 5 (by decide)]; exact eS) hS1
      intro k hk
      rw [q1]
      exact L.1.1 k hk
    obtain ⟨D0, r0⟩ := hI.start (fun k hk => hself k (Or.inr hk))
    obtain ⟨k1, k2⟩ := keep_at (gu τ 57 0 0)
    have D1 : DR σ 1 (sX8_keep_s (gu τ 57 0 0)) 4 4 (mB σ 2) 4 10 := ⟨D0.1.ext (fun k _ _ f => rfl) (fun k h1 h2 f h3 => k1 k f (by omega)), D0.2.1.of (fun i _ _ => k1 62 i (by decide)), okX8_keep D0.2.2.1, D0.2.2.2.of (fX8_keep _ _ (by decide))⟩
    have L := adv_11 (a := a) D1 k2 han (by rw [k1 62 5 (by decide), r0 62 5 (by omega) (fun q => absurd q (by decide))]; exact eS) hS1
    have hF : sX8_advise_s τ a = (itr (stX8_advise_32 a) 11 (sX8_keep_s (gu τ 57 0 0), (-1 : Int32), (-1 : Int32))).1 := by simp [sX8_advise_s, zv_in, c1]
    have hB : sX8_advise_r τ a = (itr (stX8_advise_32 a) 11 (sX8_keep_s (gu τ 57 0 0), (-1 : Int32), (-1 : Int32))).2.1 := by simp [sX8_advise_r, zv_in, c1]
    have e2 := adv_2 a 11 (sX8_keep_s (gu τ 57 0 0), (-1 : Int32), (-1 : Int32))
    rw [hF, hB, hr]
    refine ⟨hT1, hM.cls (fun k hk f => by rw [hself k (Or.inr hk)]), by rw [L.1.2, k1 57 0 (by decide), gu_rd, if_pos ⟨rfl, rfl⟩], fun _ => ?_, hI.same (fun k h1 h2 f => ?_) (fun k h1 h2 f h3 => ?_)⟩
    · rw [e2, ← L.2]
      exact q2
    · rw [L.1.2, k1 k f (by omega), gu_ne (by omega), hself k (by omega)]
    · rw [L.1.2, k1 k f (by omega)]
      exact r0 k f h1 (fun q => by have := h3 q; omega)
  · have hT : sX7_advise_t σ a = 1 := by simp [sX7_advise_t, zv_num, c1]
    have hL : sL_advise_s σ a = σ := by simp [sL_advise_s, hT, sX7_advise_s, zv_num, c1]
    have hr : sL_advise_r σ a = 1 := by simp [sL_advise_r, hT]
    have hF : sX8_advise_s σ a = gu (gu σ 57 0 0) 57 0 1 := by simp [sX8_advise_s, zv_in, c1, sX8_fail_s]
    exact hI.fails hL (by rw [hL]; exact hF) hr (by decide)
theorem okv_all : ok_all IV := ⟨okv_bed, okv_drum, okv_smuggler, okv_card, okv_setPatrol, okv_setShare, okv_setHeat, okv_dig, okv_give, okv_load, okv_take, okv_send, okv_about, okv_roast, okv_told, okv_ration, okv_count, okv_pass, okv_foresee, okv_ready, okv_caught, okv_advise, okv_mean, okv_digest, okv_none⟩
