/-! calls of days, means, sums -/
theorem zv_60 {a : Int32} {n : Nat} {M : Int32} (hM : M.toInt = n) (h : 1 ≤ a ∧ a ≤ M) : a.toNatClampNeg ≤ n := by
  have q1 : a.toInt ≤ M.toInt := Int32.le_iff_toInt_le.mp h.2
  show a.toInt.toNat ≤ n
  omega
/-- what a call of a new day's state keeps -/
theorem IV.start {n : Nat} {σ τ : gS} (hI : IV n σ) (e : ∀ k, 57 ≤ k → τ.1 k = σ.1 k) : DR σ 1 (gu τ 57 0 0) 4 4 (mB σ 2) 4 10 ∧ (∀ k f, 57 ≤ k → (k = 57 → f ≠ 0) → (gu τ 57 0 0).1 k f = σ.1 k f) := by
  have h : ∀ k f, 57 ≤ k → (k = 57 → f ≠ 0) → (gu τ 57 0 0).1 k f = σ.1 k f := fun k f h1 h2 => by rw [gu_rd, if_neg (fun z => h2 z.1 z.2), e k h1]
  exact ⟨hI.1.thr h, h⟩
theorem si_add {x : Int32} {n s : Nat} (h0 : 0 ≤ x.toInt) (h1 : x.toInt ≤ 1200 * (n : Int)) (hn : n < 512) (hs : s ≤ 1200) : 0 ≤ (x + nI s).toInt ∧ (x + nI s).toInt ≤ 1200 * ((n + 1 : Nat) : Int) := by
  obtain ⟨X, hX, rfl⟩ := nI_of (x := x) (fun q => by rw [Int32.lt_iff_toInt_lt] at q; have : (0 : Int32).toInt = 0 := rfl; omega)
  rw [nI_toInt hX] at h0 h1
  rw [nI_add, nI_toInt (by omega)]
  omega
set_option maxHeartbeats 2000000 in
theorem okv_pass : ok_pass IV := by
  intro n σ a hn hI
  have hM := hI.1.2.2.1
  have hT1 := hI.1.tOK1
  by_cases c1 : 1 ≤ a ∧ a ≤ 60
  · have han : a.toNatClampNeg ≤ 60 := zv_60 (n := 60) rfl c1
    have hT : sX7_pass_t σ a = 0 := by simp [sX7_pass_t, zv_num, c1]
    have hr : sL_pass_r σ a = 0 := by simp [sL_pass_r, hT]
    have hS : sX7_pass_s σ a = sX6_live_s σ 1 a.toNatClampNeg := by simp [sX7_pass_s, zv_num, c1]
    have hA : sX7_pass_r σ a = sX6_live_r σ 1 a.toNatClampNeg := by simp [sX7_pass_r, zv_num, c1]
    have hL : sL_pass_s σ a = go (sX7_pass_s σ a) (vp_updL (sX7_pass_s σ a).2 0 (Int32.toInt64 (sX7_pass_r σ a))) := by rw [sL_pass_s, if_pos hT]
    have q1 : ∀ k, (sL_pass_s σ a).1 k = (sX6_live_s σ 1 a.toNatClampNeg).1 k := fun k => by rw [hL, hS]; rfl
    have q2 : (sL_pass_s σ a).2 0 = Int32.toInt64 (sX6_live_r σ 1 a.toNatClampNeg) := by rw [hL, hA]; exact go_out _ _
    generalize sL_pass_s σ a = τ at q1 q2 ⊢
    have q3 : ∀ k, 57 ≤ k → τ.1 k = σ.1 k := fun k hk => by rw [q1]; exact foX6_live (Or.inl rfl) hT1 (by omega)
    obtain ⟨D0, r0⟩ := hI.start q3
    obtain ⟨D1, hr1⟩ := D0.live a.toNatClampNeg
    have hF : sX8_pass_s τ a = sX8_daysOn_s (gu τ 57 0 0) a.toNatClampNeg := by simp [sX8_pass_s, zv_in, c1]
    have hB : sX8_pass_r τ a = (sX8_daysOn_s (gu τ 57 0 0) a.toNatClampNeg).1 62 5 - (gu τ 57 0 0).1 62 5 := by simp [sX8_pass_r, zv_in, c1]
    have hMg := D0.2.2.1
    have e57 := fX8_daysOn (gu τ 57 0 0) a.toNatClampNeg 57 (by decide)
    have eo : ∀ k, k ≠ 62 → (sX8_daysOn_s (gu τ 57 0 0) a.toNatClampNeg).1 k = (gu τ 57 0 0).1 k := fun k hk => fX8_daysOn _ _ k hk
    have hun := fun i (h : UN (gu τ 57 0 0) i) => un_days hMg h a.toNatClampNeg
    have hqs := QS.days hMg rfl a.toNatClampNeg
    have hF2 : (sX8_daysOn_s (gu τ 57 0 0) a.toNatClampNeg).2 = τ.2 := d2_days _ _
    rw [hF, hB, hr]
    generalize sX8_daysOn_s (gu τ 57 0 0) a.toNatClampNeg = F at D1 e57 eo hun hqs hF2 ⊢
    have g57 : ∀ j, 1 ≤ j → (gu τ 57 0 0).1 57 j = σ.1 57 j := fun j hj => r0 57 j (by omega) (fun _ => by omega)
    have f57 : ∀ j, 1 ≤ j → F.1 57 j = σ.1 57 j := fun j hj => by rw [e57]; exact g57 j hj
    have m2 : mB F 2 = mB σ 2 := mB_of (f57 2 (by omega))
    have m3 : mB F 3 = mB σ 3 := mB_of (f57 3 (by omega))
    have m4 : mB F 4 = mB σ 4 := mB_of (f57 4 (by omega))
    have n2 : mB (gu τ 57 0 0) 2 = mB σ 2 := mB_of (g57 2 (by omega))
    have n4 : mB (gu τ 57 0 0) 4 = mB σ 4 := mB_of (g57 4 (by omega))
    have g62 : ∀ f, (gu τ 57 0 0).1 62 f = σ.1 62 f := fun f => r0 62 f (by omega) (fun q => absurd q (by decide))
    have l2 := hM.le2
    have l4 := hM.le4
    have hu1 : ∀ d, mB σ 2 ≤ d → d < 4 → F.1 62 (14 + 4 * d + 3) = σ.1 62 (14 + 4 * d + 3) := fun d h1 h2 => by
      rw [← g62]
      exact hun _ ⟨by omega, by omega, fun j hj => by rw [n2] at hj; omega, fun j hj => by omega⟩
    have hu2 : ∀ c, mB σ 4 ≤ c → c < 10 → F.1 62 (42 + 3 * c) = σ.1 62 (42 + 3 * c) ∧ F.1 62 (42 + 3 * c + 1) = σ.1 62 (42 + 3 * c + 1) := fun c h1 h2 => by
      rw [← g62, ← g62]
      exact ⟨hun _ ⟨by omega, by omega, fun j hj => by rw [n2] at hj; omega, fun j hj => by rw [n4] at hj; omega⟩, hun _ ⟨by omega, by omega, fun j hj => by rw [n2] at hj; omega, fun j hj => by rw [n4] at hj; omega⟩⟩
    have h5 : (sX6_live_s σ 1 a.toNatClampNeg).1 (1 + 5) 5 = F.1 62 5 := D1.1.s5
    have h50 : σ.1 (1 + 5) 5 = (gu τ 57 0 0).1 62 5 := D0.1.s5
    rw [h5, h50] at hr1
    obtain ⟨s, s1, s2⟩ := live_le (t := 1) (Or.inl rfl) hT1 a.toNatClampNeg
    have h55 : F.1 62 5 = σ.1 62 5 + nI s := by
      have := g62 5
      rw [s2] at hr1
      grind
    refine ⟨hT1, hM.cls (fun k hk f => by rw [q3 k hk]), by rw [e57, gu_rd, if_pos ⟨rfl, rfl⟩], fun _ => ?_, ?_⟩
    · rw [← hr1, ← q2, hF2]
    · refine IV.mk ?_ D1.2.1 D1.2.2.1 ⟨fun d h1 h2 => ?_, fun c h1 h2 => ?_, fun s hs => ?_⟩ ⟨?_, ?_⟩
      · rw [m2]
        exact D1.1.ext (fun k h1 h2 f => by rw [eo k (by omega), gu_ne (by omega), q1]) (fun k h1 h2 f h3 => rfl)
      · rw [m2] at h1
        rw [hu1 d h1 h2, eo _ (by omega), gu_ne (by omega), q1, fd_live (t := 1) (Or.inl rfl) hT1 (by rw [hI.1.cnt (q := 2) (by omega) (by omega)]; omega) (by omega)]
        exact (hI.2.1.1 d h1 h2)
      · rw [m4] at h1
        rw [(hu2 c h1 h2).1, (hu2 c h1 h2).2]
        exact hI.2.1.2.1 c h1 h2
      · rw [m3] at hs
        rw [eo 60 (by omega), gu_ne (by omega), q3 60 (by omega)]
        exact hI.2.1.2.2 s hs
      · rw [h55]
        exact si_add hI.2.2.1.1 hI.2.2.1.2 hn (by omega)
      · rw [m4]
        rw [n4] at hqs
        unfold QS at hqs
        have k1 : itr (stX8_mean_9 (gu τ 57 0 0)) (mB σ 4) (0 : Int32) = (gu τ 57 0 0).1 62 5 := by
          rw [g62, ← hI.2.2.2]
          exact zv_itr _ _ _ (fun j x hj => by unfold stX8_mean_9 sX8_ca_r; rw [g62]) _
        grind
  · have hT : sX7_pass_t σ a = 1 := by simp [sX7_pass_t, zv_num, c1]
    have hL : sL_pass_s σ a = σ := by simp [sL_pass_s, hT, sX7_pass_s, zv_num, c1]
    have hr : sL_pass_r σ a = 1 := by simp [sL_pass_r, hT]
    have hF : sX8_pass_s σ a = gu (gu σ 57 0 0) 57 0 1 := by simp [sX8_pass_s, zv_in, c1, sX8_fail_s]
    exact hI.fails hL (by rw [hL]; exact hF) hr (by decide)
/-- what the reference's trial leaves: all of it as before -/
theorem behind_at {K Y : gS} {an wn : Nat} (hM : mOK Y) (h63 : ∀ f, f < 72 → Y.1 63 f = K.1 62 f) (hk : ∀ f, 72 ≤ f → Y.1 62 f = K.1 62 f) (ho : ∀ k f, k ≠ 62 → Y.1 k f = K.1 k f) : ∀ k f, (sX8_behind_s Y an wn).1 k f = K.1 k f := by
  intro k f
  have l2 := hM.le2
  have l4 := hM.le4
  unfold sX8_behind_s sX8_bringBack_s gcp
  dsimp only
  by_cases c : k = 62 ∧ f < 72
  · rw [if_pos c, fX8_daysOn _ _ 63 (by decide), h63 f c.2, c.1]
  · rw [if_neg c]
    by_cases c2 : k = 62
    · subst c2
      have hf : 72 ≤ f := by omega
      rw [un_days hM ⟨by omega, by omega, fun j hj => by omega, fun j hj => by omega⟩, hk f hf]
    · rw [fX8_daysOn _ _ k c2, ho k f c2]
theorem behind_2 (Y : gS) (an wn : Nat) : (sX8_behind_s Y an wn).2 = Y.2 := by
  unfold sX8_behind_s sX8_bringBack_s gcp
  exact d2_days Y an
theorem okv_mean : ok_mean IV := by
  intro n σ hn hI
  have hM := hI.1.2.2.1
  have h4 : σ.1 1 8 = σ.1 57 4 := hI.1.1.cnt 4 (by omega) (by omega)
  have h5 : σ.1 6 5 = σ.1 62 5 := hI.1.1.s5
  have e : itr (stX8_mean_9 (gu σ 57 0 0)) (mB σ 4) (0 : Int32) = σ.1 62 5 := by
    rw [← hI.2.2.2]
    exact zv_itr _ _ _ (fun j x hj => by unfold stX8_mean_9 sX8_ca_r; rw [gu_rd, if_neg (by omega)]) _
  have g : (gu σ 57 0 0).1 57 4 = σ.1 57 4 := by rw [gu_rd, if_neg (by omega)]
  refine ⟨hM, ?_, hI.same (fun k h1 h2 f => ?_) (fun k h1 h2 f h3 => ?_)⟩
  · unfold sX7_mean_r sX8_mean_r
    simp only [e, g, h4, h5]
  · unfold sX8_mean_s
    simp only [ite_self, gu_rd]
    rw [if_neg (by omega)]
  · unfold sX8_mean_s
    simp only [ite_self, gu_rd]
    rw [if_neg (fun z => by have := h3 z.1; omega)]
theorem okv_digest : ok_digest IV := by
  intro n σ hn hI
  have hM := hI.1.2.2.1
  have D : DR σ 1 (gu σ 57 0 0) 4 4 (mB σ 2) 4 10 := hI.1.thr (fun k f h1 h2 => by rw [gu_rd, if_neg (fun z => h2 z.1 z.2)])
  have l1 := hM.le1
  have l2 := hM.le2
  have l3 := hM.le3
  have l4 := hM.le4
  have t1 : tB σ 1 5 = mB σ 1 := hI.1.cnt (q := 1) (by omega) (by omega)
  have t2 : tB σ 1 6 = mB σ 2 := hI.1.cnt (q := 2) (by omega) (by omega)
  have t3 : tB σ 1 7 = mB σ 3 := hI.1.cnt (q := 3) (by omega) (by omega)
  have t4 : tB σ 1 8 = mB σ 4 := hI.1.cnt (q := 4) (by omega) (by omega)
  refine ⟨hI.1.tOK1, hM, ?_, hI.same (fun k h1 h2 f => ?_) (fun k h1 h2 f h3 => ?_)⟩
  · have a0 : sX5_digestOnto_k5_r σ 1 (1723 : Int64) = itr (stX8_digest_11 (gu σ 57 0 0)) 9 (1723 : Int64) := by
      unfold sX5_digestOnto_k5_r
      exact zv_itr _ _ 9 (fun j x hj => by unfold stX5_digestOnto_k5_11 stX8_digest_11; rw [tell_town D hj]) _
    have a1 : ∀ x, itr (stX7_digest_13 σ) (mB σ 1) x = itr (stX8_digest_39 (gu σ 57 0 0)) (mB σ 1) x := fun x => zv_itr _ _ _ (fun j x hj => by
      unfold stX7_digest_13 stX8_digest_39 sX5_digestOnto_k0_r
      exact zv_itr _ _ 3 (fun i y hi => by unfold stX5_digestOnto_k0_11 stX8_digest_50; rw [tell_bed D (by omega) hi]) _) x
    have a2 : ∀ x, itr (stX7_digest_46 σ) (mB σ 2) x = itr (stX8_digest_85 (gu σ 57 0 0)) (mB σ 2) x := fun x => zv_itr _ _ _ (fun j x hj => by
      unfold stX7_digest_46 stX8_digest_85 sX5_digestOnto_k2_r
      exact zv_itr _ _ 6 (fun i y hi => by unfold stX5_digestOnto_k2_11 stX8_digest_96; rw [tell_drum D (by omega) hj hi]) _) x
    have a3 : ∀ x, itr (stX7_digest_79 σ) (mB σ 3) x = itr (stX8_digest_132 (gu σ 57 0 0)) (mB σ 3) x := fun x => zv_itr _ _ _ (fun j x hj => by
      unfold stX7_digest_79 stX8_digest_132 sX5_digestOnto_k3_r
      exact zv_itr _ _ 5 (fun i y hi => by unfold stX5_digestOnto_k3_11 stX8_digest_143; rw [tell_smug D (by omega) hi]) _) x
    have a4 : ∀ x, itr (stX7_digest_112 σ) (mB σ 4) x = itr (stX8_digest_178 (gu σ 57 0 0)) (mB σ 4) x := fun x => zv_itr _ _ _ (fun j x hj => by
      unfold stX7_digest_112 stX8_digest_178 sX5_digestOnto_k1_r
      exact zv_itr _ _ 5 (fun i y hi => by unfold stX5_digestOnto_k1_11 stX8_digest_189; rw [tell_card D (by omega) hi]) _) x
    unfold sX7_digest_r sX8_digest_r
    dsimp only
    rw [t1, t2, t3, t4, a0, a1, a2, a3, a4]
  · unfold sX8_digest_s
    rw [gu_rd, if_neg (by omega)]
  · unfold sX8_digest_s
    rw [gu_rd, if_neg (fun z => by have := h3 z.1; omega)]
theorem okv_none : ok_none IV := fun n σ hn hI => hI.same (fun k h1 h2 f => rfl) (fun k h1 h2 f h3 => rfl)
