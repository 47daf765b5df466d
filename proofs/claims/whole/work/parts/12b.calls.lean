set_option maxHeartbeats 2000000 in
theorem okv_bed : ok_bed IV := by
  intro n σ a b hn hI
  have hM := hI.1.2.2.1
  have hR := hI.1.1
  have hN := hI.1.2.1
  have hZ := hI.2.1
  have u1 := hM.eq 1 (by omega) (by omega)
  have u2 := hM.eq 2 (by omega) (by omega)
  have u3 := hM.eq 3 (by omega) (by omega)
  have u4 := hM.eq 4 (by omega) (by omega)
  have w1 : σ.1 1 5 = nI (mB σ 1) := (hR.cnt 1 (by omega) (by omega)).trans u1
  have w2 : σ.1 1 6 = nI (mB σ 2) := (hR.cnt 2 (by omega) (by omega)).trans u2
  have w3 : σ.1 1 7 = nI (mB σ 3) := (hR.cnt 3 (by omega) (by omega)).trans u3
  have w4 : σ.1 1 8 = nI (mB σ 4) := (hR.cnt 4 (by omega) (by omega)).trans u4
  have l1 := hM.le1
  have l2 := hM.le2
  have l3 := hM.le3
  have l4 := hM.le4
  have z1 := zv_pred (k := mB σ 1) (by omega)
  have z2 := zv_pred (k := mB σ 2) (by omega)
  have z3 := zv_pred (k := mB σ 3) (by omega)
  have z4 := zv_pred (k := mB σ 4) (by omega)
  have t1 : tB σ 1 5 = mB σ 1 := hI.1.cnt (q := 1) (by omega) (by omega)
  have t2 : tB σ 1 6 = mB σ 2 := hI.1.cnt (q := 2) (by omega) (by omega)
  have t3 : tB σ 1 7 = mB σ 3 := hI.1.cnt (q := 3) (by omega) (by omega)
  have t4 : tB σ 1 8 = mB σ 4 := hI.1.cnt (q := 4) (by omega) (by omega)
  by_cases c1 : 0 ≤ a ∧ a ≤ 9
  · skip
    by_cases c2 : 1 ≤ b ∧ b ≤ 99
    · skip
      by_cases c3 : mB σ 1 < 4
      · skip
        have g1 : ¬ (4 : Int32) ≤ nI (mB σ 1) := nI_ge (b := 4) c3 (by omega)
        have g2 : ¬ nI (mB σ 1) = 4 := fun q => by have := (nI_eq (b := 4) (by omega) (by omega)).mp q; omega
        have hT : sX7_bed_t σ a b = 0 := by simp [sX7_bed_t, zv_num, zv_idx, w1, w2, w3, w4, t1, t2, t3, t4, c1, c2, c3, g1, g2]
        have hr : sL_bed_r σ a b = 0 := by simp [sL_bed_r, hT]
        have hS : sX7_bed_s σ a b = (let S1 := sX0_lay_s σ (1 + 6 + (tB σ 1 5)) a b; let S2 := gu S1 1 5 ((S1.1 1 5) + (1 : Int32)); S2) := by simp [sX7_bed_s, zv_num, zv_idx, w1, w2, w3, w4, t1, t2, t3, t4, c1, c2, c3, g1, g2]
        have hA : sX7_bed_r σ a b = (let S1 := sX0_lay_s σ (1 + 6 + (tB σ 1 5)) a b; S1.1 1 5) := by simp [sX7_bed_r, zv_num, zv_idx, w1, w2, w3, w4, t1, t2, t3, t4, c1, c2, c3, g1, g2]
        have hL : sL_bed_s σ a b = go (sX7_bed_s σ a b) (vp_updL (sX7_bed_s σ a b).2 0 (Int32.toInt64 (sX7_bed_r σ a b))) := by rw [sL_bed_s, if_pos hT]
        have q1 : ∀ k f, (sL_bed_s σ a b).1 k f = (let S1 := sX0_lay_s σ (1 + 6 + (tB σ 1 5)) a b; let S2 := gu S1 1 5 ((S1.1 1 5) + (1 : Int32)); S2).1 k f := fun k f => by rw [hL, hS]; rfl
        have q2 : (sL_bed_s σ a b).2 0 = Int32.toInt64 (sX7_bed_r σ a b) := by rw [hL]; exact go_out _ _
        rw [hA] at q2
        generalize sL_bed_s σ a b = τ at q1 q2 ⊢
        try dsimp only at q1 q2
        have q3 : ∀ k f, 57 ≤ k → τ.1 k f = σ.1 k f := fun k f hk => by rw [q1]; (try simp only [gu, sX0_lay_s]); try grind
        have tM : mOK τ := hM.cls (fun k hk f => q3 k f hk)
        have m1 : mB τ 1 = mB σ 1 := mB_of (q3 _ _ (by omega))
        have m2 : mB τ 2 = mB σ 2 := mB_of (q3 _ _ (by omega))
        have m3 : mB τ 3 = mB σ 3 := mB_of (q3 _ _ (by omega))
        have m4 : mB τ 4 = mB σ 4 := mB_of (q3 _ _ (by omega))
        have hF : sX8_bed_s τ a b = (let S1 := gu τ 57 0 (0 : Int32); let S3 := gu S1 58 (2 * (mB τ 1)) a; let S4 := gu S3 58 ((2 * (mB τ 1)) + 1) b; let S5 := gu S4 57 1 ((S4.1 57 1) + (1 : Int32)); S5) := by simp [sX8_bed_s, zv_in, gu_rd, u1, u2, u3, u4, z1, z2, z3, z4, sX8_isDrum_r, sX8_isSmuggler_r, sX8_fail_s, sX8_fail_r, sX8_dr_r, sX8_sm_r, q3, c1, c2, c3, g1, g2]
        have hB : sX8_bed_r τ a b = (let S1 := gu τ 57 0 (0 : Int32); let S3 := gu S1 58 (2 * (mB τ 1)) a; let S4 := gu S3 58 ((2 * (mB τ 1)) + 1) b; let S5 := gu S4 57 1 ((S4.1 57 1) + (1 : Int32)); (S5.1 57 1) - (1 : Int32)) := by simp [sX8_bed_r, zv_in, gu_rd, u1, u2, u3, u4, z1, z2, z3, z4, sX8_isDrum_r, sX8_isSmuggler_r, sX8_fail_s, sX8_fail_r, sX8_dr_r, sX8_sm_r, q3, c1, c2, c3, g1, g2]
        have pF : ∀ k f, (sX8_bed_s τ a b).1 k f = ((let S1 := gu τ 57 0 (0 : Int32); let S3 := gu S1 58 (2 * (mB τ 1)) a; let S4 := gu S3 58 ((2 * (mB τ 1)) + 1) b; let S5 := gu S4 57 1 ((S4.1 57 1) + (1 : Int32)); S5)).1 k f := fun k f => by rw [hF]
        have pF2 : (sX8_bed_s τ a b).2 = τ.2 := by rw [hF]; rfl
        rw [hB, hr]
        generalize sX8_bed_s τ a b = F at pF pF2 ⊢
        try dsimp only at pF ⊢
        try simp only [t1, t2, t3, t4] at q1 q2
        try simp only [m1, m2, m3, m4] at pF ⊢
        have v1 : σ.1 57 1 + 1 = nI (mB σ 1 + 1) := by rw [u1, nI_succ]
        have v2 : σ.1 1 5 + 1 = nI (mB σ 1 + 1) := by rw [w1, nI_succ]
        have x57 := q3 57 1 (by omega)
        refine ⟨hI.1.tOK1, tM, by rw [pF]; (try simp only [gu]); try grind, fun _ => by rw [pF2, q2]; try congr 1; (try simp only [gu, sX0_lay_s]); try grind, ?_⟩
        have e57 : ∀ j, 1 ≤ j → j ≠ 1 → F.1 57 j = σ.1 57 j := fun j h1 h2 => by rw [pF]; have := q3 57 j (by omega); (try simp only [gu]); try grind
        have eL : ∀ k, k < 57 → ∀ f, F.1 k f = τ.1 k f := fun k hk f => by rw [pF]; (try simp only [gu]); try grind
        have e62 : ∀ f, F.1 62 f = σ.1 62 f := fun f => by rw [pF]; have := q3 62 f (by omega); (try simp only [gu]); try grind
        have e60 : ∀ f, F.1 60 f = σ.1 60 f := fun f => by rw [pF]; have := q3 60 f (by omega); (try simp only [gu]); try grind
        obtain ⟨hMF, hc⟩ := hM.cnt (q := 1) (F := F) (by omega) (by omega) (by simp; omega) (by rw [pF]; (try simp only [gu]); try grind) e57 (fun d hd => by rw [e62]; exact hM.2 d hd)
        have m2' : mB F 2 = mB σ 2 := mB_of (e57 2 (by omega) (by omega))
        have m3' : mB F 3 = mB σ 3 := mB_of (e57 3 (by omega) (by omega))
        have m4' : mB F 4 = mB σ 4 := mB_of (e57 4 (by omega) (by omega))
        refine IV.mk ?_ (hN.of (fun i _ _ => e62 i)) hMF ⟨fun d h1 h2 => ?_, fun c h1 h2 => ?_, fun s hs => ?_⟩ (hI.2.2.of (by omega) l4 (e57 4 (by omega) (by omega)) (e62 5) (fun c _ => e62 _))
        · rw [m2']
          refine (((hR.put (v := a) (PW.bt (i := mB σ 1) (w := 0) c3 (by omega))).put (v := b) (PW.bt (i := mB σ 1) (w := 1) c3 (by omega))).put (v := nI (mB σ 1 + 1)) (PW.cnt (q := 1) (by omega) (by omega))).ext (fun k h1 h2 f => ?_) (fun k h1 h2 f h3 => ?_)
          · rw [eL k (by omega), q1]; (try simp only [gu, sX0_lay_s]); try grind
          · rw [pF]; have := q3 k f (by omega); (try simp only [gu]); try grind
        · rw [eL _ (by omega), q1, e62]; have := hZ.1 d (by omega) h2; (try simp only [gu, sX0_lay_s]); try grind
        · rw [e62, e62]; exact hZ.2.1 c (by omega) h2
        · rw [e60]; exact hZ.2.2 s (by omega)
      · skip
        have g0 : mB σ 1 = 4 := by omega
        have g1 : (4 : Int32) ≤ nI (mB σ 1) := by rw [g0]; decide
        have g2 : nI (mB σ 1) = 4 := by rw [g0]; rfl
        have hT : sX7_bed_t σ a b = 2 := by simp [sX7_bed_t, zv_num, zv_idx, w1, w2, w3, w4, t1, t2, t3, t4, c1, c2, c3, g1, g2]
        have hL : sL_bed_s σ a b = σ := by simp [sL_bed_s, hT, sX7_bed_s, zv_num, zv_idx, w1, w2, w3, w4, t1, t2, t3, t4, c1, c2, c3, g1, g2]
        have hr : sL_bed_r σ a b = 2 := by simp [sL_bed_r, hT]
        have hF : sX8_bed_s σ a b = gu (gu σ 57 0 0) 57 0 2 := by simp [sX8_bed_s, zv_in, gu_rd, u1, u2, u3, u4, z1, z2, z3, z4, sX8_isDrum_r, sX8_isSmuggler_r, sX8_fail_s, sX8_fail_r, sX8_dr_r, sX8_sm_r, c1, c2, c3, g1, g2]
        exact hI.fails hL (by rw [hL]; exact hF) hr (by decide)
    · skip
      have hT : sX7_bed_t σ a b = 1 := by simp [sX7_bed_t, zv_num, zv_idx, w1, w2, w3, w4, t1, t2, t3, t4, c1, c2]
      have hL : sL_bed_s σ a b = σ := by simp [sL_bed_s, hT, sX7_bed_s, zv_num, zv_idx, w1, w2, w3, w4, t1, t2, t3, t4, c1, c2]
      have hr : sL_bed_r σ a b = 1 := by simp [sL_bed_r, hT]
      have hF : sX8_bed_s σ a b = gu (gu σ 57 0 0) 57 0 1 := by simp [sX8_bed_s, zv_in, gu_rd, u1, u2, u3, u4, z1, z2, z3, z4, sX8_isDrum_r, sX8_isSmuggler_r, sX8_fail_s, sX8_fail_r, sX8_dr_r, sX8_sm_r, c1, c2]
      exact hI.fails hL (by rw [hL]; exact hF) hr (by decide)
  · skip
    have hT : sX7_bed_t σ a b = 1 := by simp [sX7_bed_t, zv_num, zv_idx, w1, w2, w3, w4, t1, t2, t3, t4, c1]
    have hL : sL_bed_s σ a b = σ := by simp [sL_bed_s, hT, sX7_bed_s, zv_num, zv_idx, w1, w2, w3, w4, t1, t2, t3, t4, c1]
    have hr : sL_bed_r σ a b = 1 := by simp [sL_bed_r, hT]
    have hF : sX8_bed_s σ a b = gu (gu σ 57 0 0) 57 0 1 := by simp [sX8_bed_s, zv_in, gu_rd, u1, u2, u3, u4, z1, z2, z3, z4, sX8_isDrum_r, sX8_isSmuggler_r, sX8_fail_s, sX8_fail_r, sX8_dr_r, sX8_sm_r, c1]
    exact hI.fails hL (by rw [hL]; exact hF) hr (by decide)
set_option maxHeartbeats 2000000 in
theorem okv_drum : ok_drum IV := by
  intro n σ a b hn hI
  have hM := hI.1.2.2.1
  have hR := hI.1.1
  have hN := hI.1.2.1
  have hZ := hI.2.1
  have u1 := hM.eq 1 (by omega) (by omega)
  have u2 := hM.eq 2 (by omega) (by omega)
  have u3 := hM.eq 3 (by omega) (by omega)
  have u4 := hM.eq 4 (by omega) (by omega)
  have w1 : σ.1 1 5 = nI (mB σ 1) := (hR.cnt 1 (by omega) (by omega)).trans u1
  have w2 : σ.1 1 6 = nI (mB σ 2) := (hR.cnt 2 (by omega) (by omega)).trans u2
  have w3 : σ.1 1 7 = nI (mB σ 3) := (hR.cnt 3 (by omega) (by omega)).trans u3
  have w4 : σ.1 1 8 = nI (mB σ 4) := (hR.cnt 4 (by omega) (by omega)).trans u4
  have l1 := hM.le1
  have l2 := hM.le2
  have l3 := hM.le3
  have l4 := hM.le4
  have z1 := zv_pred (k := mB σ 1) (by omega)
  have z2 := zv_pred (k := mB σ 2) (by omega)
  have z3 := zv_pred (k := mB σ 3) (by omega)
  have z4 := zv_pred (k := mB σ 4) (by omega)
  have t1 : tB σ 1 5 = mB σ 1 := hI.1.cnt (q := 1) (by omega) (by omega)
  have t2 : tB σ 1 6 = mB σ 2 := hI.1.cnt (q := 2) (by omega) (by omega)
  have t3 : tB σ 1 7 = mB σ 3 := hI.1.cnt (q := 3) (by omega) (by omega)
  have t4 : tB σ 1 8 = mB σ 4 := hI.1.cnt (q := 4) (by omega) (by omega)
  by_cases c1 : 1 ≤ a ∧ a ≤ 40
  · skip
    by_cases c2 : 0 ≤ b ∧ b ≤ 9
    · skip
      by_cases c3 : mB σ 2 < 4
      · skip
        have g1 : ¬ (4 : Int32) ≤ nI (mB σ 2) := nI_ge (b := 4) c3 (by omega)
        have g2 : ¬ nI (mB σ 2) = 4 := fun q => by have := (nI_eq (b := 4) (by omega) (by omega)).mp q; omega
        have hT : sX7_drum_t σ a b = 0 := by simp [sX7_drum_t, zv_num, zv_idx, w1, w2, w3, w4, t1, t2, t3, t4, c1, c2, c3, g1, g2]
        have hr : sL_drum_r σ a b = 0 := by simp [sL_drum_r, hT]
        have hS : sX7_drum_s σ a b = (let S1 := sX2_install_s σ (1 + 10 + (tB σ 1 6)) a b; let S2 := gu S1 1 6 ((S1.1 1 6) + (1 : Int32)); S2) := by simp [sX7_drum_s, zv_num, zv_idx, w1, w2, w3, w4, t1, t2, t3, t4, c1, c2, c3, g1, g2]
        have hA : sX7_drum_r σ a b = (let S1 := sX2_install_s σ (1 + 10 + (tB σ 1 6)) a b; S1.1 1 6) := by simp [sX7_drum_r, zv_num, zv_idx, w1, w2, w3, w4, t1, t2, t3, t4, c1, c2, c3, g1, g2]
        have hL : sL_drum_s σ a b = go (sX7_drum_s σ a b) (vp_updL (sX7_drum_s σ a b).2 0 (Int32.toInt64 (sX7_drum_r σ a b))) := by rw [sL_drum_s, if_pos hT]
        have q1 : ∀ k f, (sL_drum_s σ a b).1 k f = (let S1 := sX2_install_s σ (1 + 10 + (tB σ 1 6)) a b; let S2 := gu S1 1 6 ((S1.1 1 6) + (1 : Int32)); S2).1 k f := fun k f => by rw [hL, hS]; rfl
        have q2 : (sL_drum_s σ a b).2 0 = Int32.toInt64 (sX7_drum_r σ a b) := by rw [hL]; exact go_out _ _
        rw [hA] at q2
        generalize sL_drum_s σ a b = τ at q1 q2 ⊢
        try dsimp only at q1 q2
        have q3 : ∀ k f, 57 ≤ k → τ.1 k f = σ.1 k f := fun k f hk => by rw [q1]; (try simp only [gu, sX2_install_s]); try grind
        have tM : mOK τ := hM.cls (fun k hk f => q3 k f hk)
        have m1 : mB τ 1 = mB σ 1 := mB_of (q3 _ _ (by omega))
        have m2 : mB τ 2 = mB σ 2 := mB_of (q3 _ _ (by omega))
        have m3 : mB τ 3 = mB σ 3 := mB_of (q3 _ _ (by omega))
        have m4 : mB τ 4 = mB σ 4 := mB_of (q3 _ _ (by omega))
        have hF : sX8_drum_s τ a b = (let S1 := gu τ 57 0 (0 : Int32); let S3 := gu S1 59 (mB τ 2) a; let S4 := sX8_letDrum_s S3 (mB τ 2) 0 b; let S5 := sX8_letDrum_s S4 (mB τ 2) 1 (-1 : Int32); let S6 := gu S5 57 2 ((S5.1 57 2) + (1 : Int32)); S6) := by simp [sX8_drum_s, zv_in, gu_rd, u1, u2, u3, u4, z1, z2, z3, z4, sX8_isDrum_r, sX8_isSmuggler_r, sX8_fail_s, sX8_fail_r, sX8_dr_r, sX8_sm_r, q3, c1, c2, c3, g1, g2]
        have hB : sX8_drum_r τ a b = (let S1 := gu τ 57 0 (0 : Int32); let S3 := gu S1 59 (mB τ 2) a; let S4 := sX8_letDrum_s S3 (mB τ 2) 0 b; let S5 := sX8_letDrum_s S4 (mB τ 2) 1 (-1 : Int32); let S6 := gu S5 57 2 ((S5.1 57 2) + (1 : Int32)); (S6.1 57 2) - (1 : Int32)) := by simp [sX8_drum_r, zv_in, gu_rd, u1, u2, u3, u4, z1, z2, z3, z4, sX8_isDrum_r, sX8_isSmuggler_r, sX8_fail_s, sX8_fail_r, sX8_dr_r, sX8_sm_r, q3, c1, c2, c3, g1, g2]
        have pF : ∀ k f, (sX8_drum_s τ a b).1 k f = ((let S1 := gu τ 57 0 (0 : Int32); let S3 := gu S1 59 (mB τ 2) a; let S4 := sX8_letDrum_s S3 (mB τ 2) 0 b; let S5 := sX8_letDrum_s S4 (mB τ 2) 1 (-1 : Int32); let S6 := gu S5 57 2 ((S5.1 57 2) + (1 : Int32)); S6)).1 k f := fun k f => by rw [hF]
        have pF2 : (sX8_drum_s τ a b).2 = τ.2 := by rw [hF]; rfl
        rw [hB, hr]
        generalize sX8_drum_s τ a b = F at pF pF2 ⊢
        try dsimp only at pF ⊢
        try simp only [t1, t2, t3, t4] at q1 q2
        try simp only [m1, m2, m3, m4] at pF ⊢
        have v1 : σ.1 57 2 + 1 = nI (mB σ 2 + 1) := by rw [u2, nI_succ]
        have v2 : σ.1 1 6 + 1 = nI (mB σ 2 + 1) := by rw [w2, nI_succ]
        have x57 := q3 57 2 (by omega)
        refine ⟨hI.1.tOK1, tM, by rw [pF]; (try simp only [gu, sX8_letDrum_s]); try grind, fun _ => by rw [pF2, q2]; try congr 1; (try simp only [gu, sX2_install_s, sX8_letDrum_s]); try grind, ?_⟩
        have e57 : ∀ j, 1 ≤ j → j ≠ 2 → F.1 57 j = σ.1 57 j := fun j h1 h2 => by rw [pF]; have := q3 57 j (by omega); (try simp only [gu, sX8_letDrum_s]); try grind
        have eL : ∀ k, k < 57 → ∀ f, F.1 k f = τ.1 k f := fun k hk f => by rw [pF]; (try simp only [gu, sX8_letDrum_s]); try grind
        have e62 : ∀ f, F.1 62 f = if f = 14 + 4 * mB σ 2 + 1 then -1 else if f = 14 + 4 * mB σ 2 then b else σ.1 62 f := fun f => by rw [pF]; have := q3 62 f (by omega); (try simp only [gu, sX8_letDrum_s]); try grind
        have e60 : ∀ f, F.1 60 f = σ.1 60 f := fun f => by rw [pF]; have := q3 60 f (by omega); (try simp only [gu, sX8_letDrum_s]); try grind
        obtain ⟨hMF, hc⟩ := hM.cnt (q := 2) (F := F) (by omega) (by omega) (by simp; omega) (by rw [pF]; (try simp only [gu, sX8_letDrum_s]); try grind) e57 (fun d hd => by rw [e62]; have := hM.2 d hd; grind)
        have m3' : mB F 3 = mB σ 3 := mB_of (e57 3 (by omega) (by omega))
        have m4' : mB F 4 = mB σ 4 := mB_of (e57 4 (by omega) (by omega))
        have hz := hZ.1 (mB σ 2) (Nat.le_refl _) c3
        refine IV.mk ?_ ⟨fun s hs => ?_, fun d hd => ?_, fun d hd => ?_⟩ hMF ⟨fun d h1 h2 => ?_, fun c h1 h2 => ?_, fun s hs => ?_⟩ (hI.2.2.of (by omega) l4 (e57 4 (by omega) (by omega)) (by rw [e62]; grind) (fun c _ => by rw [e62]; grind))
        · rw [hc]
          refine (((((hR.put (v := a) (PW.d0 (i := mB σ 2) c3)).put (v := b) (PW.dd (i := mB σ 2) (w := 0) c3 (by omega))).put (v := -1) (PW.dd (i := mB σ 2) (w := 1) c3 (by omega))).put (v := nI (mB σ 2 + 1)) (PW.cnt (q := 2) (by omega) (by omega))).more (by (try simp only [gu]); try grind)).ext (fun k h1 h2 f => ?_) (fun k h1 h2 f h3 => ?_)
          · rw [eL k (by omega), q1]; have := hz.1; (try simp only [gu, sX2_install_s]); try grind
          · rw [pF]; have := q3 k f (by omega); (try simp only [gu, sX8_letDrum_s]); try grind
        · rw [e62, e62]; have := hN.1 s hs; grind
        · rw [e62, e62]; have := hN.2.1 d hd; have := hz.2; grind
        · rw [e62, e62]; have := hN.2.2 d hd; grind
        · rw [eL _ (by omega), q1, e62]; have := hZ.1 d (by omega) h2; (try simp only [gu, sX2_install_s]); try grind
        · rw [e62, e62]; have := hZ.2.1 c (by omega) h2; grind
        · rw [e60]; exact hZ.2.2 s (by omega)
      · skip
        have g0 : mB σ 2 = 4 := by omega
        have g1 : (4 : Int32) ≤ nI (mB σ 2) := by rw [g0]; decide
        have g2 : nI (mB σ 2) = 4 := by rw [g0]; rfl
        have hT : sX7_drum_t σ a b = 2 := by simp [sX7_drum_t, zv_num, zv_idx, w1, w2, w3, w4, t1, t2, t3, t4, c1, c2, c3, g1, g2]
        have hL : sL_drum_s σ a b = σ := by simp [sL_drum_s, hT, sX7_drum_s, zv_num, zv_idx, w1, w2, w3, w4, t1, t2, t3, t4, c1, c2, c3, g1, g2]
        have hr : sL_drum_r σ a b = 2 := by simp [sL_drum_r, hT]
        have hF : sX8_drum_s σ a b = gu (gu σ 57 0 0) 57 0 2 := by simp [sX8_drum_s, zv_in, gu_rd, u1, u2, u3, u4, z1, z2, z3, z4, sX8_isDrum_r, sX8_isSmuggler_r, sX8_fail_s, sX8_fail_r, sX8_dr_r, sX8_sm_r, c1, c2, c3, g1, g2]
        exact hI.fails hL (by rw [hL]; exact hF) hr (by decide)
    · skip
      have hT : sX7_drum_t σ a b = 1 := by simp [sX7_drum_t, zv_num, zv_idx, w1, w2, w3, w4, t1, t2, t3, t4, c1, c2]
      have hL : sL_drum_s σ a b = σ := by simp [sL_drum_s, hT, sX7_drum_s, zv_num, zv_idx, w1, w2, w3, w4, t1, t2, t3, t4, c1, c2]
      have hr : sL_drum_r σ a b = 1 := by simp [sL_drum_r, hT]
      have hF : sX8_drum_s σ a b = gu (gu σ 57 0 0) 57 0 1 := by simp [sX8_drum_s, zv_in, gu_rd, u1, u2, u3, u4, z1, z2, z3, z4, sX8_isDrum_r, sX8_isSmuggler_r, sX8_fail_s, sX8_fail_r, sX8_dr_r, sX8_sm_r, c1, c2]
      exact hI.fails hL (by rw [hL]; exact hF) hr (by decide)
  · skip
    have hT : sX7_drum_t σ a b = 1 := by simp [sX7_drum_t, zv_num, zv_idx, w1, w2, w3, w4, t1, t2, t3, t4, c1]
    have hL : sL_drum_s σ a b = σ := by simp [sL_drum_s, hT, sX7_drum_s, zv_num, zv_idx, w1, w2, w3, w4, t1, t2, t3, t4, c1]
    have hr : sL_drum_r σ a b = 1 := by simp [sL_drum_r, hT]
    have hF : sX8_drum_s σ a b = gu (gu σ 57 0 0) 57 0 1 := by simp [sX8_drum_s, zv_in, gu_rd, u1, u2, u3, u4, z1, z2, z3, z4, sX8_isDrum_r, sX8_isSmuggler_r, sX8_fail_s, sX8_fail_r, sX8_dr_r, sX8_sm_r, c1]
    exact hI.fails hL (by rw [hL]; exact hF) hr (by decide)
set_option maxHeartbeats 2000000 in
theorem okv_smuggler : ok_smuggler IV := by
  intro n σ a b hn hI
  have hM := hI.1.2.2.1
  have hR := hI.1.1
  have hN := hI.1.2.1
  have hZ := hI.2.1
  have u1 := hM.eq 1 (by omega) (by omega)
  have u2 := hM.eq 2 (by omega) (by omega)
  have u3 := hM.eq 3 (by omega) (by omega)
  have u4 := hM.eq 4 (by omega) (by omega)
  have w1 : σ.1 1 5 = nI (mB σ 1) := (hR.cnt 1 (by omega) (by omega)).trans u1
  have w2 : σ.1 1 6 = nI (mB σ 2) := (hR.cnt 2 (by omega) (by omega)).trans u2
  have w3 : σ.1 1 7 = nI (mB σ 3) := (hR.cnt 3 (by omega) (by omega)).trans u3
  have w4 : σ.1 1 8 = nI (mB σ 4) := (hR.cnt 4 (by omega) (by omega)).trans u4
  have l1 := hM.le1
  have l2 := hM.le2
  have l3 := hM.le3
  have l4 := hM.le4
  have z1 := zv_pred (k := mB σ 1) (by omega)
  have z2 := zv_pred (k := mB σ 2) (by omega)
  have z3 := zv_pred (k := mB σ 3) (by omega)
  have z4 := zv_pred (k := mB σ 4) (by omega)
  have t1 : tB σ 1 5 = mB σ 1 := hI.1.cnt (q := 1) (by omega) (by omega)
  have t2 : tB σ 1 6 = mB σ 2 := hI.1.cnt (q := 2) (by omega) (by omega)
  have t3 : tB σ 1 7 = mB σ 3 := hI.1.cnt (q := 3) (by omega) (by omega)
  have t4 : tB σ 1 8 = mB σ 4 := hI.1.cnt (q := 4) (by omega) (by omega)
  by_cases c1 : 2 ≤ a ∧ a ≤ 14
  · skip
    by_cases c2 : 1 ≤ b ∧ b ≤ 30
    · skip
      by_cases c3 : mB σ 3 < 4
      · skip
        have g1 : ¬ (4 : Int32) ≤ nI (mB σ 3) := nI_ge (b := 4) c3 (by omega)
        have g2 : ¬ nI (mB σ 3) = 4 := fun q => by have := (nI_eq (b := 4) (by omega) (by omega)).mp q; omega
        have hT : sX7_smuggler_t σ a b = 0 := by simp [sX7_smuggler_t, zv_num, zv_idx, w1, w2, w3, w4, t1, t2, t3, t4, c1, c2, c3, g1, g2]
        have hr : sL_smuggler_r σ a b = 0 := by simp [sL_smuggler_r, hT]
        have hS : sX7_smuggler_s σ a b = (let S1 := sX3_hire_s σ (1 + 14 + (tB σ 1 7)) a b; let S2 := gu S1 1 7 ((S1.1 1 7) + (1 : Int32)); S2) := by simp [sX7_smuggler_s, zv_num, zv_idx, w1, w2, w3, w4, t1, t2, t3, t4, c1, c2, c3, g1, g2]
        have hA : sX7_smuggler_r σ a b = (let S1 := sX3_hire_s σ (1 + 14 + (tB σ 1 7)) a b; S1.1 1 7) := by simp [sX7_smuggler_r, zv_num, zv_idx, w1, w2, w3, w4, t1, t2, t3, t4, c1, c2, c3, g1, g2]
        have hL : sL_smuggler_s σ a b = go (sX7_smuggler_s σ a b) (vp_updL (sX7_smuggler_s σ a b).2 0 (Int32.toInt64 (sX7_smuggler_r σ a b))) := by rw [sL_smuggler_s, if_pos hT]
        have q1 : ∀ k f, (sL_smuggler_s σ a b).1 k f = (let S1 := sX3_hire_s σ (1 + 14 + (tB σ 1 7)) a b; let S2 := gu S1 1 7 ((S1.1 1 7) + (1 : Int32)); S2).1 k f := fun k f => by rw [hL, hS]; rfl
        have q2 : (sL_smuggler_s σ a b).2 0 = Int32.toInt64 (sX7_smuggler_r σ a b) := by rw [hL]; exact go_out _ _
        rw [hA] at q2
        generalize sL_smuggler_s σ a b = τ at q1 q2 ⊢
        try dsimp only at q1 q2
        have q3 : ∀ k f, 57 ≤ k → τ.1 k f = σ.1 k f := fun k f hk => by rw [q1]; (try simp only [gu, sX3_hire_s]); try grind
        have tM : mOK τ := hM.cls (fun k hk f => q3 k f hk)
        have m1 : mB τ 1 = mB σ 1 := mB_of (q3 _ _ (by omega))
        have m2 : mB τ 2 = mB σ 2 := mB_of (q3 _ _ (by omega))
        have m3 : mB τ 3 = mB σ 3 := mB_of (q3 _ _ (by omega))
        have m4 : mB τ 4 = mB σ 4 := mB_of (q3 _ _ (by omega))
        have hF : sX8_smuggler_s τ a b = (let S1 := gu τ 57 0 (0 : Int32); let S3 := gu S1 60 (2 * (mB τ 3)) a; let S4 := gu S3 60 ((2 * (mB τ 3)) + 1) b; let S5 := gu S4 57 3 ((S4.1 57 3) + (1 : Int32)); S5) := by simp [sX8_smuggler_s, zv_in, gu_rd, u1, u2, u3, u4, z1, z2, z3, z4, sX8_isDrum_r, sX8_isSmuggler_r, sX8_fail_s, sX8_fail_r, sX8_dr_r, sX8_sm_r, q3, c1, c2, c3, g1, g2]
        have hB : sX8_smuggler_r τ a b = (let S1 := gu τ 57 0 (0 : Int32); let S3 := gu S1 60 (2 * (mB τ 3)) a; let S4 := gu S3 60 ((2 * (mB τ 3)) + 1) b; let S5 := gu S4 57 3 ((S4.1 57 3) + (1 : Int32)); (S5.1 57 3) - (1 : Int32)) := by simp [sX8_smuggler_r, zv_in, gu_rd, u1, u2, u3, u4, z1, z2, z3, z4, sX8_isDrum_r, sX8_isSmuggler_r, sX8_fail_s, sX8_fail_r, sX8_dr_r, sX8_sm_r, q3, c1, c2, c3, g1, g2]
        have pF : ∀ k f, (sX8_smuggler_s τ a b).1 k f = ((let S1 := gu τ 57 0 (0 : Int32); let S3 := gu S1 60 (2 * (mB τ 3)) a; let S4 := gu S3 60 ((2 * (mB τ 3)) + 1) b; let S5 := gu S4 57 3 ((S4.1 57 3) + (1 : Int32)); S5)).1 k f := fun k f => by rw [hF]
        have pF2 : (sX8_smuggler_s τ a b).2 = τ.2 := by rw [hF]; rfl
        rw [hB, hr]
        generalize sX8_smuggler_s τ a b = F at pF pF2 ⊢
        try dsimp only at pF ⊢
        try simp only [t1, t2, t3, t4] at q1 q2
        try simp only [m1, m2, m3, m4] at pF ⊢
        have v1 : σ.1 57 3 + 1 = nI (mB σ 3 + 1) := by rw [u3, nI_succ]
        have v2 : σ.1 1 7 + 1 = nI (mB σ 3 + 1) := by rw [w3, nI_succ]
        have x57 := q3 57 3 (by omega)
        refine ⟨hI.1.tOK1, tM, by rw [pF]; (try simp only [gu]); try grind, fun _ => by rw [pF2, q2]; try congr 1; (try simp only [gu, sX3_hire_s]); try grind, ?_⟩
        have e57 : ∀ j, 1 ≤ j → j ≠ 3 → F.1 57 j = σ.1 57 j := fun j h1 h2 => by rw [pF]; have := q3 57 j (by omega); (try simp only [gu]); try grind
        have eL : ∀ k, k < 57 → ∀ f, F.1 k f = τ.1 k f := fun k hk f => by rw [pF]; (try simp only [gu]); try grind
        have e62 : ∀ f, F.1 62 f = σ.1 62 f := fun f => by rw [pF]; have := q3 62 f (by omega); (try simp only [gu]); try grind
        have e60 : ∀ f, F.1 60 f = if f = 2 * mB σ 3 + 1 then b else if f = 2 * mB σ 3 then a else σ.1 60 f := fun f => by rw [pF]; have := q3 60 f (by omega); (try simp only [gu]); try grind
        obtain ⟨hMF, hc⟩ := hM.cnt (q := 3) (F := F) (by omega) (by omega) (by simp; omega) (by rw [pF]; (try simp only [gu]); try grind) e57 (fun d hd => by rw [e62]; exact hM.2 d hd)
        have m2' : mB F 2 = mB σ 2 := mB_of (e57 2 (by omega) (by omega))
        have m4' : mB F 4 = mB σ 4 := mB_of (e57 4 (by omega) (by omega))
        have ha : 1 ≤ a := Int32.le_trans (by decide) c1.1
        refine IV.mk ?_ (hN.of (fun i _ _ => e62 i)) hMF ⟨fun d h1 h2 => ?_, fun c h1 h2 => ?_, fun s hs => ?_⟩ (hI.2.2.of (by omega) l4 (e57 4 (by omega) (by omega)) (e62 5) (fun c _ => e62 _))
        · rw [m2']
          refine (((hR.put (v := a) (PW.st (i := mB σ 3) (w := 0) c3 (by omega))).put (v := b) (PW.st (i := mB σ 3) (w := 1) c3 (by omega))).put (v := nI (mB σ 3 + 1)) (PW.cnt (q := 3) (by omega) (by omega))).ext (fun k h1 h2 f => ?_) (fun k h1 h2 f h3 => ?_)
          · rw [eL k (by omega), q1]; (try simp only [gu, sX3_hire_s]); try grind
          · rw [pF]; have := q3 k f (by omega); (try simp only [gu]); try grind
        · rw [eL _ (by omega), q1, e62]; have := hZ.1 d (by omega) h2; (try simp only [gu, sX3_hire_s]); try grind
        · rw [e62, e62]; exact hZ.2.1 c (by omega) h2
        · rw [e60]; have := hZ.2.2 s; grind
      · skip
        have g0 : mB σ 3 = 4 := by omega
        have g1 : (4 : Int32) ≤ nI (mB σ 3) := by rw [g0]; decide
        have g2 : nI (mB σ 3) = 4 := by rw [g0]; rfl
        have hT : sX7_smuggler_t σ a b = 2 := by simp [sX7_smuggler_t, zv_num, zv_idx, w1, w2, w3, w4, t1, t2, t3, t4, c1, c2, c3, g1, g2]
        have hL : sL_smuggler_s σ a b = σ := by simp [sL_smuggler_s, hT, sX7_smuggler_s, zv_num, zv_idx, w1, w2, w3, w4, t1, t2, t3, t4, c1, c2, c3, g1, g2]
        have hr : sL_smuggler_r σ a b = 2 := by simp [sL_smuggler_r, hT]
        have hF : sX8_smuggler_s σ a b = gu (gu σ 57 0 0) 57 0 2 := by simp [sX8_smuggler_s, zv_in, gu_rd, u1, u2, u3, u4, z1, z2, z3, z4, sX8_isDrum_r, sX8_isSmuggler_r, sX8_fail_s, sX8_fail_r, sX8_dr_r, sX8_sm_r, c1, c2, c3, g1, g2]
        exact hI.fails hL (by rw [hL]; exact hF) hr (by decide)
    · skip
      have hT : sX7_smuggler_t σ a b = 1 := by simp [sX7_smuggler_t, zv_num, zv_idx, w1, w2, w3, w4, t1, t2, t3, t4, c1, c2]
      have hL : sL_smuggler_s σ a b = σ := by simp [sL_smuggler_s, hT, sX7_smuggler_s, zv_num, zv_idx, w1, w2, w3, w4, t1, t2, t3, t4, c1, c2]
      have hr : sL_smuggler_r σ a b = 1 := by simp [sL_smuggler_r, hT]
      have hF : sX8_smuggler_s σ a b = gu (gu σ 57 0 0) 57 0 1 := by simp [sX8_smuggler_s, zv_in, gu_rd, u1, u2, u3, u4, z1, z2, z3, z4, sX8_isDrum_r, sX8_isSmuggler_r, sX8_fail_s, sX8_fail_r, sX8_dr_r, sX8_sm_r, c1, c2]
      exact hI.fails hL (by rw [hL]; exact hF) hr (by decide)
  · skip
    have hT : sX7_smuggler_t σ a b = 1 := by simp [sX7_smuggler_t, zv_num, zv_idx, w1, w2, w3, w4, t1, t2, t3, t4, c1]
    have hL : sL_smuggler_s σ a b = σ := by simp [sL_smuggler_s, hT, sX7_smuggler_s, zv_num, zv_idx, w1, w2, w3, w4, t1, t2, t3, t4, c1]
    have hr : sL_smuggler_r σ a b = 1 := by simp [sL_smuggler_r, hT]
    have hF : sX8_smuggler_s σ a b = gu (gu σ 57 0 0) 57 0 1 := by simp [sX8_smuggler_s, zv_in, gu_rd, u1, u2, u3, u4, z1, z2, z3, z4, sX8_isDrum_r, sX8_isSmuggler_r, sX8_fail_s, sX8_fail_r, sX8_dr_r, sX8_sm_r, c1]
    exact hI.fails hL (by rw [hL]; exact hF) hr (by decide)
set_option maxHeartbeats 2000000 in
theorem okv_card : ok_card IV := by
  intro n σ a b hn hI
  have hM := hI.1.2.2.1
  have hR := hI.1.1
  have hN := hI.1.2.1
  have hZ := hI.2.1
  have u1 := hM.eq 1 (by omega) (by omega)
  have u2 := hM.eq 2 (by omega) (by omega)
  have u3 := hM.eq 3 (by omega) (by omega)
  have u4 := hM.eq 4 (by omega) (by omega)
  have w1 : σ.1 1 5 = nI (mB σ 1) := (hR.cnt 1 (by omega) (by omega)).trans u1
  have w2 : σ.1 1 6 = nI (mB σ 2) := (hR.cnt 2 (by omega) (by omega)).trans u2
  have w3 : σ.1 1 7 = nI (mB σ 3) := (hR.cnt 3 (by omega) (by omega)).trans u3
  have w4 : σ.1 1 8 = nI (mB σ 4) := (hR.cnt 4 (by omega) (by omega)).trans u4
  have l1 := hM.le1
  have l2 := hM.le2
  have l3 := hM.le3
  have l4 := hM.le4
  have z1 := zv_pred (k := mB σ 1) (by omega)
  have z2 := zv_pred (k := mB σ 2) (by omega)
  have z3 := zv_pred (k := mB σ 3) (by omega)
  have z4 := zv_pred (k := mB σ 4) (by omega)
  have t1 : tB σ 1 5 = mB σ 1 := hI.1.cnt (q := 1) (by omega) (by omega)
  have t2 : tB σ 1 6 = mB σ 2 := hI.1.cnt (q := 2) (by omega) (by omega)
  have t3 : tB σ 1 7 = mB σ 3 := hI.1.cnt (q := 3) (by omega) (by omega)
  have t4 : tB σ 1 8 = mB σ 4 := hI.1.cnt (q := 4) (by omega) (by omega)
  by_cases c1 : 1 ≤ a ∧ a ≤ 9
  · skip
    by_cases c2 : 0 ≤ b ∧ b ≤ 10
    · skip
      by_cases c3 : mB σ 4 < 10
      · skip
        have g1 : ¬ (10 : Int32) ≤ nI (mB σ 4) := nI_ge (b := 10) c3 (by omega)
        have g2 : ¬ nI (mB σ 4) = 10 := fun q => by have := (nI_eq (b := 10) (by omega) (by omega)).mp q; omega
        have hT : sX7_card_t σ a b = 0 := by simp [sX7_card_t, zv_num, zv_idx, w1, w2, w3, w4, t1, t2, t3, t4, c1, c2, c3, g1, g2]
        have hr : sL_card_r σ a b = 0 := by simp [sL_card_r, hT]
        have hS : sX7_card_s σ a b = (let S1 := sX1_issue_s σ (1 + 18 + (tB σ 1 8)) a b; let S2 := gu S1 1 8 ((S1.1 1 8) + (1 : Int32)); S2) := by simp [sX7_card_s, zv_num, zv_idx, w1, w2, w3, w4, t1, t2, t3, t4, c1, c2, c3, g1, g2]
        have hA : sX7_card_r σ a b = (let S1 := sX1_issue_s σ (1 + 18 + (tB σ 1 8)) a b; S1.1 1 8) := by simp [sX7_card_r, zv_num, zv_idx, w1, w2, w3, w4, t1, t2, t3, t4, c1, c2, c3, g1, g2]
        have hL : sL_card_s σ a b = go (sX7_card_s σ a b) (vp_updL (sX7_card_s σ a b).2 0 (Int32.toInt64 (sX7_card_r σ a b))) := by rw [sL_card_s, if_pos hT]
        have q1 : ∀ k f, (sL_card_s σ a b).1 k f = (let S1 := sX1_issue_s σ (1 + 18 + (tB σ 1 8)) a b; let S2 := gu S1 1 8 ((S1.1 1 8) + (1 : Int32)); S2).1 k f := fun k f => by rw [hL, hS]; rfl
        have q2 : (sL_card_s σ a b).2 0 = Int32.toInt64 (sX7_card_r σ a b) := by rw [hL]; exact go_out _ _
        rw [hA] at q2
        generalize sL_card_s σ a b = τ at q1 q2 ⊢
        try dsimp only at q1 q2
        have q3 : ∀ k f, 57 ≤ k → τ.1 k f = σ.1 k f := fun k f hk => by rw [q1]; (try simp only [gu, sX1_issue_s]); try grind
        have tM : mOK τ := hM.cls (fun k hk f => q3 k f hk)
        have m1 : mB τ 1 = mB σ 1 := mB_of (q3 _ _ (by omega))
        have m2 : mB τ 2 = mB σ 2 := mB_of (q3 _ _ (by omega))
        have m3 : mB τ 3 = mB σ 3 := mB_of (q3 _ _ (by omega))
        have m4 : mB τ 4 = mB σ 4 := mB_of (q3 _ _ (by omega))
        have hF : sX8_card_s τ a b = (let S1 := gu τ 57 0 (0 : Int32); let S3 := gu S1 61 (2 * (mB τ 4)) a; let S4 := gu S3 61 ((2 * (mB τ 4)) + 1) b; let S5 := sX8_moreCard_s S4 (mB τ 4) 0 a; let S6 := gu S5 57 4 ((S5.1 57 4) + (1 : Int32)); S6) := by simp [sX8_card_s, zv_in, gu_rd, u1, u2, u3, u4, z1, z2, z3, z4, sX8_isDrum_r, sX8_isSmuggler_r, sX8_fail_s, sX8_fail_r, sX8_dr_r, sX8_sm_r, q3, c1, c2, c3, g1, g2]
        have hB : sX8_card_r τ a b = (let S1 := gu τ 57 0 (0 : Int32); let S3 := gu S1 61 (2 * (mB τ 4)) a; let S4 := gu S3 61 ((2 * (mB τ 4)) + 1) b; let S5 := sX8_moreCard_s S4 (mB τ 4) 0 a; let S6 := gu S5 57 4 ((S5.1 57 4) + (1 : Int32)); (S6.1 57 4) - (1 : Int32)) := by simp [sX8_card_r, zv_in, gu_rd, u1, u2, u3, u4, z1, z2, z3, z4, sX8_isDrum_r, sX8_isSmuggler_r, sX8_fail_s, sX8_fail_r, sX8_dr_r, sX8_sm_r, q3, c1, c2, c3, g1, g2]
        have pF : ∀ k f, (sX8_card_s τ a b).1 k f = ((let S1 := gu τ 57 0 (0 : Int32); let S3 := gu S1 61 (2 * (mB τ 4)) a; let S4 := gu S3 61 ((2 * (mB τ 4)) + 1) b; let S5 := sX8_moreCard_s S4 (mB τ 4) 0 a; let S6 := gu S5 57 4 ((S5.1 57 4) + (1 : Int32)); S6)).1 k f := fun k f => by rw [hF]
        have pF2 : (sX8_card_s τ a b).2 = τ.2 := by rw [hF]; rfl
        rw [hB, hr]
        generalize sX8_card_s τ a b = F at pF pF2 ⊢
        try dsimp only at pF ⊢
        try simp only [t1, t2, t3, t4] at q1 q2
        try simp only [m1, m2, m3, m4] at pF ⊢
        have v1 : σ.1 57 4 + 1 = nI (mB σ 4 + 1) := by rw [u4, nI_succ]
        have v2 : σ.1 1 8 + 1 = nI (mB σ 4 + 1) := by rw [w4, nI_succ]
        have x57 := q3 57 4 (by omega)
        refine ⟨hI.1.tOK1, tM, by rw [pF]; (try simp only [gu, sX8_moreCard_s]); try grind, fun _ => by rw [pF2, q2]; try congr 1; (try simp only [gu, sX1_issue_s, sX8_moreCard_s]); try grind, ?_⟩
        have e57 : ∀ j, 1 ≤ j → j ≠ 4 → F.1 57 j = σ.1 57 j := fun j h1 h2 => by rw [pF]; have := q3 57 j (by omega); (try simp only [gu, sX8_moreCard_s]); try grind
        have eL : ∀ k, k < 57 → ∀ f, F.1 k f = τ.1 k f := fun k hk f => by rw [pF]; (try simp only [gu, sX8_moreCard_s]); try grind
        have hz := hZ.2.1 (mB σ 4) (Nat.le_refl _) c3
        have e62 : ∀ f, F.1 62 f = if f = 42 + 3 * mB σ 4 then a else σ.1 62 f := fun f => by rw [pF]; have := q3 62 f (by omega); have := q3 62 (42 + 3 * mB σ 4) (by omega); have := hz.1; (try simp only [gu, sX8_moreCard_s]); try grind
        have e60 : ∀ f, F.1 60 f = σ.1 60 f := fun f => by rw [pF]; have := q3 60 f (by omega); (try simp only [gu, sX8_moreCard_s]); try grind
        obtain ⟨hMF, hc⟩ := hM.cnt (q := 4) (F := F) (by omega) (by omega) (by simpa using c3) (by rw [pF]; (try simp only [gu, sX8_moreCard_s]); try grind) e57 (fun d hd => by rw [e62]; have := hM.2 d hd; grind)
        have m2' : mB F 2 = mB σ 2 := mB_of (e57 2 (by omega) (by omega))
        have m3' : mB F 3 = mB σ 3 := mB_of (e57 3 (by omega) (by omega))
        refine IV.mk ?_ (hN.of (fun i _ h => by rw [e62]; grind)) hMF ⟨fun d h1 h2 => ?_, fun c h1 h2 => ?_, fun s hs => ?_⟩ ⟨⟨by rw [e62]; have := hI.2.2.1.1; grind, by rw [e62]; have := hI.2.2.1.2; grind⟩, ?_⟩
        · rw [m2']
          refine ((((hR.put (v := a) (PW.ct (i := mB σ 4) (w := 0) c3 (by omega))).put (v := b) (PW.ct (i := mB σ 4) (w := 1) c3 (by omega))).put (v := a) (PW.cd (i := mB σ 4) (w := 0) c3 (by omega))).put (v := nI (mB σ 4 + 1)) (PW.cnt (q := 4) (by omega) (by omega))).ext (fun k h1 h2 f => ?_) (fun k h1 h2 f h3 => ?_)
          · rw [eL k (by omega), q1]; (try simp only [gu, sX1_issue_s]); try grind
          · rw [pF]; have := q3 k f (by omega); have := q3 62 (42 + 3 * mB σ 4) (by omega); have := hz.1; (try simp only [gu, sX8_moreCard_s]); try grind
        · rw [eL _ (by omega), q1, e62]; have := hZ.1 d (by omega) h2; (try simp only [gu, sX1_issue_s]); try grind
        · rw [e62, e62]; have := hZ.2.1 c (by omega) h2; grind
        · rw [e60]; exact hZ.2.2 s (by omega)
        · rw [hc, itr.eq_2]
          have g := hI.2.2.2
          rw [zv_itr (stX8_mean_9 F) (stX8_mean_9 σ) (mB σ 4) (fun j x hj => by unfold stX8_mean_9 sX8_ca_r; rw [e62]; grind), g, e62]
          unfold stX8_mean_9 sX8_ca_r
          rw [e62]
          have := hz.2
          grind
      · skip
        have g0 : mB σ 4 = 10 := by omega
        have g1 : (10 : Int32) ≤ nI (mB σ 4) := by rw [g0]; decide
        have g2 : nI (mB σ 4) = 10 := by rw [g0]; rfl
        have hT : sX7_card_t σ a b = 2 := by simp [sX7_card_t, zv_num, zv_idx, w1, w2, w3, w4, t1, t2, t3, t4, c1, c2, c3, g1, g2]
        have hL : sL_card_s σ a b = σ := by simp [sL_card_s, hT, sX7_card_s, zv_num, zv_idx, w1, w2, w3, w4, t1, t2, t3, t4, c1, c2, c3, g1, g2]
        have hr : sL_card_r σ a b = 2 := by simp [sL_card_r, hT]
        have hF : sX8_card_s σ a b = gu (gu σ 57 0 0) 57 0 2 := by simp [sX8_card_s, zv_in, gu_rd, u1, u2, u3, u4, z1, z2, z3, z4, sX8_isDrum_r, sX8_isSmuggler_r, sX8_fail_s, sX8_fail_r, sX8_dr_r, sX8_sm_r, c1, c2, c3, g1, g2]
        exact hI.fails hL (by rw [hL]; exact hF) hr (by decide)
    · skip
      have hT : sX7_card_t σ a b = 1 := by simp [sX7_card_t, zv_num, zv_idx, w1, w2, w3, w4, t1, t2, t3, t4, c1, c2]
      have hL : sL_card_s σ a b = σ := by simp [sL_card_s, hT, sX7_card_s, zv_num, zv_idx, w1, w2, w3, w4, t1, t2, t3, t4, c1, c2]
      have hr : sL_card_r σ a b = 1 := by simp [sL_card_r, hT]
      have hF : sX8_card_s σ a b = gu (gu σ 57 0 0) 57 0 1 := by simp [sX8_card_s, zv_in, gu_rd, u1, u2, u3, u4, z1, z2, z3, z4, sX8_isDrum_r, sX8_isSmuggler_r, sX8_fail_s, sX8_fail_r, sX8_dr_r, sX8_sm_r, c1, c2]
      exact hI.fails hL (by rw [hL]; exact hF) hr (by decide)
  · skip
    have hT : sX7_card_t σ a b = 1 := by simp [sX7_card_t, zv_num, zv_idx, w1, w2, w3, w4, t1, t2, t3, t4, c1]
    have hL : sL_card_s σ a b = σ := by simp [sL_card_s, hT, sX7_card_s, zv_num, zv_idx, w1, w2, w3, w4, t1, t2, t3, t4, c1]
    have hr : sL_card_r σ a b = 1 := by simp [sL_card_r, hT]
    have hF : sX8_card_s σ a b = gu (gu σ 57 0 0) 57 0 1 := by simp [sX8_card_s, zv_in, gu_rd, u1, u2, u3, u4, z1, z2, z3, z4, sX8_isDrum_r, sX8_isSmuggler_r, sX8_fail_s, sX8_fail_r, sX8_dr_r, sX8_sm_r, c1]
    exact hI.fails hL (by rw [hL]; exact hF) hr (by decide)
set_option maxHeartbeats 2000000 in
theorem okv_setPatrol : ok_setPatrol IV := by
  intro n σ a hn hI
  have hM := hI.1.2.2.1
  have hR := hI.1.1
  have hN := hI.1.2.1
  have hZ := hI.2.1
  have u1 := hM.eq 1 (by omega) (by omega)
  have u2 := hM.eq 2 (by omega) (by omega)
  have u3 := hM.eq 3 (by omega) (by omega)
  have u4 := hM.eq 4 (by omega) (by omega)
  have w1 : σ.1 1 5 = nI (mB σ 1) := (hR.cnt 1 (by omega) (by omega)).trans u1
  have w2 : σ.1 1 6 = nI (mB σ 2) := (hR.cnt 2 (by omega) (by omega)).trans u2
  have w3 : σ.1 1 7 = nI (mB σ 3) := (hR.cnt 3 (by omega) (by omega)).trans u3
  have w4 : σ.1 1 8 = nI (mB σ 4) := (hR.cnt 4 (by omega) (by omega)).trans u4
  have l1 := hM.le1
  have l2 := hM.le2
  have l3 := hM.le3
  have l4 := hM.le4
  have z1 := zv_pred (k := mB σ 1) (by omega)
  have z2 := zv_pred (k := mB σ 2) (by omega)
  have z3 := zv_pred (k := mB σ 3) (by omega)
  have z4 := zv_pred (k := mB σ 4) (by omega)
  have t1 : tB σ 1 5 = mB σ 1 := hI.1.cnt (q := 1) (by omega) (by omega)
  have t2 : tB σ 1 6 = mB σ 2 := hI.1.cnt (q := 2) (by omega) (by omega)
  have t3 : tB σ 1 7 = mB σ 3 := hI.1.cnt (q := 3) (by omega) (by omega)
  have t4 : tB σ 1 8 = mB σ 4 := hI.1.cnt (q := 4) (by omega) (by omega)
  by_cases c1 : 0 ≤ a ∧ a ≤ 127
  · skip
    have hT : sX7_setPatrol_t σ a = 0 := by simp [sX7_setPatrol_t, zv_num, zv_idx, w1, w2, w3, w4, t1, t2, t3, t4, sX8_change_s, sX8_change_r, c1]
    have hr : sL_setPatrol_r σ a = 0 := by simp [sL_setPatrol_r, hT]
    have hS : sX7_setPatrol_s σ a = (let S1 := gu σ 1 10 a; S1) := by simp [sX7_setPatrol_s, zv_num, zv_idx, w1, w2, w3, w4, t1, t2, t3, t4, sX8_change_s, sX8_change_r, c1]
    have hA : sX7_setPatrol_r σ a = (σ.1 1 10) := by simp [sX7_setPatrol_r, zv_num, zv_idx, w1, w2, w3, w4, t1, t2, t3, t4, sX8_change_s, sX8_change_r, c1]
    have hL : sL_setPatrol_s σ a = go (sX7_setPatrol_s σ a) (vp_updL (sX7_setPatrol_s σ a).2 0 (Int32.toInt64 (sX7_setPatrol_r σ a))) := by rw [sL_setPatrol_s, if_pos hT]
    have q1 : ∀ k f, (sL_setPatrol_s σ a).1 k f = (let S1 := gu σ 1 10 a; S1).1 k f := fun k f => by rw [hL, hS]; rfl
    have q2 : (sL_setPatrol_s σ a).2 0 = Int32.toInt64 (sX7_setPatrol_r σ a) := by rw [hL]; exact go_out _ _
    rw [hA] at q2
    generalize sL_setPatrol_s σ a = τ at q1 q2 ⊢
    try dsimp only at q1 q2
    have q3 : ∀ k f, 57 ≤ k → τ.1 k f = σ.1 k f := fun k f hk => by rw [q1]; (try simp only [gu]); try grind
    have tM : mOK τ := hM.cls (fun k hk f => q3 k f hk)
    have m1 : mB τ 1 = mB σ 1 := mB_of (q3 _ _ (by omega))
    have m2 : mB τ 2 = mB σ 2 := mB_of (q3 _ _ (by omega))
    have m3 : mB τ 3 = mB σ 3 := mB_of (q3 _ _ (by omega))
    have m4 : mB τ 4 = mB σ 4 := mB_of (q3 _ _ (by omega))
    have hF : sX8_setPatrol_s τ a = gu (gu τ 57 0 0) 62 8 a := by simp [sX8_setPatrol_s, zv_in, gu_rd, u1, u2, u3, u4, z1, z2, z3, z4, sX8_isDrum_r, sX8_isSmuggler_r, sX8_fail_s, sX8_fail_r, sX8_dr_r, sX8_sm_r, q3, sX8_change_s, sX8_change_r, c1]
    have hB : sX8_setPatrol_r τ a = τ.1 62 8 := by simp [sX8_setPatrol_r, zv_in, gu_rd, u1, u2, u3, u4, z1, z2, z3, z4, sX8_isDrum_r, sX8_isSmuggler_r, sX8_fail_s, sX8_fail_r, sX8_dr_r, sX8_sm_r, q3, sX8_change_s, sX8_change_r, c1]
    have pF : ∀ k f, (sX8_setPatrol_s τ a).1 k f = (gu (gu τ 57 0 0) 62 8 a).1 k f := fun k f => by rw [hF]
    have pF2 : (sX8_setPatrol_s τ a).2 = τ.2 := by rw [hF]; rfl
    rw [hB, hr]
    generalize sX8_setPatrol_s τ a = F at pF pF2 ⊢
    try dsimp only at pF ⊢
    try simp only [t1, t2, t3, t4] at q1 q2
    try simp only [m1, m2, m3, m4] at pF ⊢
    have x1 := q3 62 8 (by omega)
    have x2 := hR.x10
    refine ⟨hI.1.tOK1, tM, by rw [pF]; (try simp only [gu]); try grind, fun _ => by rw [pF2, q2]; try congr 1; (try simp only [gu]); try grind, ?_⟩
    have eL : ∀ k, k < 57 → ∀ f, F.1 k f = τ.1 k f := fun k hk f => by rw [pF]; (try simp only [gu]); try grind
    refine hI.chg (fun j hj => by rw [pF]; have := q3 57 j (by omega); (try simp only [gu]); try grind) ((hR.put (v := a) PW.x10).ext (fun k h1 h2 f => ?_) (fun k h1 h2 f h3 => ?_)) ⟨fun s hs => ?_, fun d hd => ?_, fun d hd => ?_⟩ (fun d hd => ?_) (fun d h1 h2 => ?_) (fun i hi => ?_) (fun j => ?_) ?_
    · rw [eL k (by omega), q1]; (try simp only [gu]); try grind
    · rw [pF]; have := q3 k f (by omega); (try simp only [gu]); try grind
    · rw [pF, pF]; have := q3 62 (30 + 3 * s) (by omega); have := q3 62 (30 + 3 * s + 1) (by omega); have := hN.1 s hs; (try simp only [gu]); try grind
    · rw [pF, pF]; have := q3 62 (14 + 4 * d + 1) (by omega); have := q3 62 (14 + 4 * d + 3) (by omega); have := hN.2.1 d hd; (try simp only [gu]); try grind
    · rw [pF, pF]; have := q3 62 (14 + 4 * d) (by omega); have := q3 62 (14 + 4 * d + 3) (by omega); have := hN.2.2 d hd; (try simp only [gu]); try grind
    · rw [pF]; have := q3 62 (14 + 4 * d + 1) (by omega); have := hM.2 d hd; (try simp only [gu]); try grind
    · rw [eL _ (by omega), q1, pF]; have := q3 62 (14 + 4 * d + 3) (by omega); have := hZ.1 d h1 h2; (try simp only [gu]); try grind
    · rw [pF]; have := q3 62 i (by omega); (try simp only [gu]); try grind
    · rw [pF]; have := q3 60 j (by omega); (try simp only [gu]); try grind
    · rw [pF]; have := q3 62 5 (by omega); (try simp only [gu]); try grind
  · skip
    have hT : sX7_setPatrol_t σ a = 1 := by simp [sX7_setPatrol_t, zv_num, zv_idx, w1, w2, w3, w4, t1, t2, t3, t4, sX8_change_s, sX8_change_r, c1]
    have hL : sL_setPatrol_s σ a = σ := by simp [sL_setPatrol_s, hT, sX7_setPatrol_s, zv_num, zv_idx, w1, w2, w3, w4, t1, t2, t3, t4, sX8_change_s, sX8_change_r, c1]
    have hr : sL_setPatrol_r σ a = 1 := by simp [sL_setPatrol_r, hT]
    have hF : sX8_setPatrol_s σ a = gu (gu σ 57 0 0) 57 0 1 := by simp [sX8_setPatrol_s, zv_in, gu_rd, u1, u2, u3, u4, z1, z2, z3, z4, sX8_isDrum_r, sX8_isSmuggler_r, sX8_fail_s, sX8_fail_r, sX8_dr_r, sX8_sm_r, sX8_change_s, sX8_change_r, c1]
    exact hI.fails hL (by rw [hL]; exact hF) hr (by decide)
set_option maxHeartbeats 2000000 in
theorem okv_setShare : ok_setShare IV := by
  intro n σ a hn hI
  have hM := hI.1.2.2.1
  have hR := hI.1.1
  have hN := hI.1.2.1
  have hZ := hI.2.1
  have u1 := hM.eq 1 (by omega) (by omega)
  have u2 := hM.eq 2 (by omega) (by omega)
  have u3 := hM.eq 3 (by omega) (by omega)
  have u4 := hM.eq 4 (by omega) (by omega)
  have w1 : σ.1 1 5 = nI (mB σ 1) := (hR.cnt 1 (by omega) (by omega)).trans u1
  have w2 : σ.1 1 6 = nI (mB σ 2) := (hR.cnt 2 (by omega) (by omega)).trans u2
  have w3 : σ.1 1 7 = nI (mB σ 3) := (hR.cnt 3 (by omega) (by omega)).trans u3
  have w4 : σ.1 1 8 = nI (mB σ 4) := (hR.cnt 4 (by omega) (by omega)).trans u4
  have l1 := hM.le1
  have l2 := hM.le2
  have l3 := hM.le3
  have l4 := hM.le4
  have z1 := zv_pred (k := mB σ 1) (by omega)
  have z2 := zv_pred (k := mB σ 2) (by omega)
  have z3 := zv_pred (k := mB σ 3) (by omega)
  have z4 := zv_pred (k := mB σ 4) (by omega)
  have t1 : tB σ 1 5 = mB σ 1 := hI.1.cnt (q := 1) (by omega) (by omega)
  have t2 : tB σ 1 6 = mB σ 2 := hI.1.cnt (q := 2) (by omega) (by omega)
  have t3 : tB σ 1 7 = mB σ 3 := hI.1.cnt (q := 3) (by omega) (by omega)
  have t4 : tB σ 1 8 = mB σ 4 := hI.1.cnt (q := 4) (by omega) (by omega)
  by_cases c1 : 0 ≤ a ∧ a ≤ 10
  · skip
    have hT : sX7_setShare_t σ a = 0 := by simp [sX7_setShare_t, zv_num, zv_idx, w1, w2, w3, w4, t1, t2, t3, t4, sX8_change_s, sX8_change_r, c1]
    have hr : sL_setShare_r σ a = 0 := by simp [sL_setShare_r, hT]
    have hS : sX7_setShare_s σ a = (let S1 := gu σ 6 4 a; S1) := by simp [sX7_setShare_s, zv_num, zv_idx, w1, w2, w3, w4, t1, t2, t3, t4, sX8_change_s, sX8_change_r, c1]
    have hA : sX7_setShare_r σ a = (σ.1 6 4) := by simp [sX7_setShare_r, zv_num, zv_idx, w1, w2, w3, w4, t1, t2, t3, t4, sX8_change_s, sX8_change_r, c1]
    have hL : sL_setShare_s σ a = go (sX7_setShare_s σ a) (vp_updL (sX7_setShare_s σ a).2 0 (Int32.toInt64 (sX7_setShare_r σ a))) := by rw [sL_setShare_s, if_pos hT]
    have q1 : ∀ k f, (sL_setShare_s σ a).1 k f = (let S1 := gu σ 6 4 a; S1).1 k f := fun k f => by rw [hL, hS]; rfl
    have q2 : (sL_setShare_s σ a).2 0 = Int32.toInt64 (sX7_setShare_r σ a) := by rw [hL]; exact go_out _ _
    rw [hA] at q2
    generalize sL_setShare_s σ a = τ at q1 q2 ⊢
    try dsimp only at q1 q2
    have q3 : ∀ k f, 57 ≤ k → τ.1 k f = σ.1 k f := fun k f hk => by rw [q1]; (try simp only [gu]); try grind
    have tM : mOK τ := hM.cls (fun k hk f => q3 k f hk)
    have m1 : mB τ 1 = mB σ 1 := mB_of (q3 _ _ (by omega))
    have m2 : mB τ 2 = mB σ 2 := mB_of (q3 _ _ (by omega))
    have m3 : mB τ 3 = mB σ 3 := mB_of (q3 _ _ (by omega))
    have m4 : mB τ 4 = mB σ 4 := mB_of (q3 _ _ (by omega))
    have hF : sX8_setShare_s τ a = gu (gu τ 57 0 0) 62 7 a := by simp [sX8_setShare_s, zv_in, gu_rd, u1, u2, u3, u4, z1, z2, z3, z4, sX8_isDrum_r, sX8_isSmuggler_r, sX8_fail_s, sX8_fail_r, sX8_dr_r, sX8_sm_r, q3, sX8_change_s, sX8_change_r, c1]
    have hB : sX8_setShare_r τ a = τ.1 62 7 := by simp [sX8_setShare_r, zv_in, gu_rd, u1, u2, u3, u4, z1, z2, z3, z4, sX8_isDrum_r, sX8_isSmuggler_r, sX8_fail_s, sX8_fail_r, sX8_dr_r, sX8_sm_r, q3, sX8_change_s, sX8_change_r, c1]
    have pF : ∀ k f, (sX8_setShare_s τ a).1 k f = (gu (gu τ 57 0 0) 62 7 a).1 k f := fun k f => by rw [hF]
    have pF2 : (sX8_setShare_s τ a).2 = τ.2 := by rw [hF]; rfl
    rw [hB, hr]
    generalize sX8_setShare_s τ a = F at pF pF2 ⊢
    try dsimp only at pF ⊢
    try simp only [t1, t2, t3, t4] at q1 q2
    try simp only [m1, m2, m3, m4] at pF ⊢
    have x1 := q3 62 7 (by omega)
    have x2 := hR.s4
    refine ⟨hI.1.tOK1, tM, by rw [pF]; (try simp only [gu]); try grind, fun _ => by rw [pF2, q2]; try congr 1; (try simp only [gu]); try grind, ?_⟩
    have eL : ∀ k, k < 57 → ∀ f, F.1 k f = τ.1 k f := fun k hk f => by rw [pF]; (try simp only [gu]); try grind
    refine hI.chg (fun j hj => by rw [pF]; have := q3 57 j (by omega); (try simp only [gu]); try grind) ((hR.put (v := a) PW.s4).ext (fun k h1 h2 f => ?_) (fun k h1 h2 f h3 => ?_)) ⟨fun s hs => ?_, fun d hd => ?_, fun d hd => ?_⟩ (fun d hd => ?_) (fun d h1 h2 => ?_) (fun i hi => ?_) (fun j => ?_) ?_
    · rw [eL k (by omega), q1]; (try simp only [gu]); try grind
    · rw [pF]; have := q3 k f (by omega); (try simp only [gu]); try grind
    · rw [pF, pF]; have := q3 62 (30 + 3 * s) (by omega); have := q3 62 (30 + 3 * s + 1) (by omega); have := hN.1 s hs; (try simp only [gu]); try grind
    · rw [pF, pF]; have := q3 62 (14 + 4 * d + 1) (by omega); have := q3 62 (14 + 4 * d + 3) (by omega); have := hN.2.1 d hd; (try simp only [gu]); try grind
    · rw [pF, pF]; have := q3 62 (14 + 4 * d) (by omega); have := q3 62 (14 + 4 * d + 3) (by omega); have := hN.2.2 d hd; (try simp only [gu]); try grind
    · rw [pF]; have := q3 62 (14 + 4 * d + 1) (by omega); have := hM.2 d hd; (try simp only [gu]); try grind
    · rw [eL _ (by omega), q1, pF]; have := q3 62 (14 + 4 * d + 3) (by omega); have := hZ.1 d h1 h2; (try simp only [gu]); try grind
    · rw [pF]; have := q3 62 i (by omega); (try simp only [gu]); try grind
    · rw [pF]; have := q3 60 j (by omega); (try simp only [gu]); try grind
    · rw [pF]; have := q3 62 5 (by omega); (try simp only [gu]); try grind
  · skip
    have hT : sX7_setShare_t σ a = 1 := by simp [sX7_setShare_t, zv_num, zv_idx, w1, w2, w3, w4, t1, t2, t3, t4, sX8_change_s, sX8_change_r, c1]
    have hL : sL_setShare_s σ a = σ := by simp [sL_setShare_s, hT, sX7_setShare_s, zv_num, zv_idx, w1, w2, w3, w4, t1, t2, t3, t4, sX8_change_s, sX8_change_r, c1]
    have hr : sL_setShare_r σ a = 1 := by simp [sL_setShare_r, hT]
    have hF : sX8_setShare_s σ a = gu (gu σ 57 0 0) 57 0 1 := by simp [sX8_setShare_s, zv_in, gu_rd, u1, u2, u3, u4, z1, z2, z3, z4, sX8_isDrum_r, sX8_isSmuggler_r, sX8_fail_s, sX8_fail_r, sX8_dr_r, sX8_sm_r, sX8_change_s, sX8_change_r, c1]
    exact hI.fails hL (by rw [hL]; exact hF) hr (by decide)
set_option maxHeartbeats 2000000 in
theorem okv_setHeat : ok_setHeat IV := by
  intro n σ a b hn hI
  have hM := hI.1.2.2.1
  have hR := hI.1.1
  have hN := hI.1.2.1
  have hZ := hI.2.1
  have u1 := hM.eq 1 (by omega) (by omega)
  have u2 := hM.eq 2 (by omega) (by omega)
  have u3 := hM.eq 3 (by omega) (by omega)
  have u4 := hM.eq 4 (by omega) (by omega)
  have w1 : σ.1 1 5 = nI (mB σ 1) := (hR.cnt 1 (by omega) (by omega)).trans u1
  have w2 : σ.1 1 6 = nI (mB σ 2) := (hR.cnt 2 (by omega) (by omega)).trans u2
  have w3 : σ.1 1 7 = nI (mB σ 3) := (hR.cnt 3 (by omega) (by omega)).trans u3
  have w4 : σ.1 1 8 = nI (mB σ 4) := (hR.cnt 4 (by omega) (by omega)).trans u4
  have l1 := hM.le1
  have l2 := hM.le2
  have l3 := hM.le3
  have l4 := hM.le4
  have z1 := zv_pred (k := mB σ 1) (by omega)
  have z2 := zv_pred (k := mB σ 2) (by omega)
  have z3 := zv_pred (k := mB σ 3) (by omega)
  have z4 := zv_pred (k := mB σ 4) (by omega)
  have t1 : tB σ 1 5 = mB σ 1 := hI.1.cnt (q := 1) (by omega) (by omega)
  have t2 : tB σ 1 6 = mB σ 2 := hI.1.cnt (q := 2) (by omega) (by omega)
  have t3 : tB σ 1 7 = mB σ 3 := hI.1.cnt (q := 3) (by omega) (by omega)
  have t4 : tB σ 1 8 = mB σ 4 := hI.1.cnt (q := 4) (by omega) (by omega)
  by_cases c1 : 0 ≤ a ∧ a < nI (mB σ 2)
  · skip
    have hi : a.toNatClampNeg < mB σ 2 := zv_clamp (by omega) c1
    by_cases c2 : 0 ≤ b ∧ b ≤ 9
    · skip
      have hT : sX7_setHeat_t σ a b = 0 := by simp [sX7_setHeat_t, zv_num, zv_idx, w1, w2, w3, w4, t1, t2, t3, t4, c1, c2]
      have hr : sL_setHeat_r σ a b = 0 := by simp [sL_setHeat_r, hT]
      have hS : sX7_setHeat_s σ a b = (let S1 := gu σ (1 + 10 + (a.toNatClampNeg)) 1 b; S1) := by simp [sX7_setHeat_s, zv_num, zv_idx, w1, w2, w3, w4, t1, t2, t3, t4, c1, c2]
      have hA : sX7_setHeat_r σ a b = (σ.1 (1 + 10 + (a.toNatClampNeg)) 1) := by simp [sX7_setHeat_r, zv_num, zv_idx, w1, w2, w3, w4, t1, t2, t3, t4, c1, c2]
      have hL : sL_setHeat_s σ a b = go (sX7_setHeat_s σ a b) (vp_updL (sX7_setHeat_s σ a b).2 0 (Int32.toInt64 (sX7_setHeat_r σ a b))) := by rw [sL_setHeat_s, if_pos hT]
      have q1 : ∀ k f, (sL_setHeat_s σ a b).1 k f = (let S1 := gu σ (1 + 10 + (a.toNatClampNeg)) 1 b; S1).1 k f := fun k f => by rw [hL, hS]; rfl
      have q2 : (sL_setHeat_s σ a b).2 0 = Int32.toInt64 (sX7_setHeat_r σ a b) := by rw [hL]; exact go_out _ _
      rw [hA] at q2
      generalize sL_setHeat_s σ a b = τ at q1 q2 ⊢
      try dsimp only at q1 q2
      have q3 : ∀ k f, 57 ≤ k → τ.1 k f = σ.1 k f := fun k f hk => by rw [q1]; (try simp only [gu]); try grind
      have tM : mOK τ := hM.cls (fun k hk f => q3 k f hk)
      have m1 : mB τ 1 = mB σ 1 := mB_of (q3 _ _ (by omega))
      have m2 : mB τ 2 = mB σ 2 := mB_of (q3 _ _ (by omega))
      have m3 : mB τ 3 = mB σ 3 := mB_of (q3 _ _ (by omega))
      have m4 : mB τ 4 = mB σ 4 := mB_of (q3 _ _ (by omega))
      have hF : sX8_setHeat_s τ a b = (let S1 := gu τ 57 0 (0 : Int32); let S2 := sX8_letDrum_s S1 a.toNatClampNeg 0 b; S2) := by simp [sX8_setHeat_s, zv_in, gu_rd, u1, u2, u3, u4, z1, z2, z3, z4, sX8_isDrum_r, sX8_isSmuggler_r, sX8_fail_s, sX8_fail_r, sX8_dr_r, sX8_sm_r, q3, c1, c2]
      have hB : sX8_setHeat_r τ a b = (let S1 := gu τ 57 0 (0 : Int32); sX8_dr_r S1 a.toNatClampNeg 0) := by simp [sX8_setHeat_r, zv_in, gu_rd, u1, u2, u3, u4, z1, z2, z3, z4, sX8_isDrum_r, sX8_isSmuggler_r, sX8_fail_s, sX8_fail_r, sX8_dr_r, sX8_sm_r, q3, c1, c2]
      have pF : ∀ k f, (sX8_setHeat_s τ a b).1 k f = ((let S1 := gu τ 57 0 (0 : Int32); let S2 := sX8_letDrum_s S1 a.toNatClampNeg 0 b; S2)).1 k f := fun k f => by rw [hF]
      have pF2 : (sX8_setHeat_s τ a b).2 = τ.2 := by rw [hF]; rfl
      rw [hB, hr]
      generalize sX8_setHeat_s τ a b = F at pF pF2 ⊢
      try dsimp only at pF ⊢
      try simp only [t1, t2, t3, t4] at q1 q2
      try simp only [m1, m2, m3, m4] at pF ⊢
      have x1 := q3 62 (14 + 4 * a.toNatClampNeg) (by omega)
      have x2 := hR.dd a.toNatClampNeg 0 (by omega) (by omega) (by omega)
      refine ⟨hI.1.tOK1, tM, by rw [pF]; (try simp only [gu, sX8_letDrum_s, sX8_dr_r]); try grind, fun _ => by rw [pF2, q2]; try congr 1; (try simp only [gu, sX8_letDrum_s, sX8_dr_r]); try grind, ?_⟩
      have eL : ∀ k, k < 57 → ∀ f, F.1 k f = τ.1 k f := fun k hk f => by rw [pF]; (try simp only [gu, sX8_letDrum_s, sX8_dr_r]); try grind
      refine hI.chg (fun j hj => by rw [pF]; have := q3 57 j (by omega); (try simp only [gu, sX8_letDrum_s, sX8_dr_r]); try grind) ((hR.put (v := b) (PW.dd (i := a.toNatClampNeg) (w := 0) (by omega) (by omega))).ext (fun k h1 h2 f => ?_) (fun k h1 h2 f h3 => ?_)) ⟨fun s hs => ?_, fun d hd => ?_, fun d hd => ?_⟩ (fun d hd => ?_) (fun d h1 h2 => ?_) (fun i hi => ?_) (fun j => ?_) ?_
      · rw [eL k (by omega), q1]; (try simp only [gu]); try grind
      · rw [pF]; have := q3 k f (by omega); (try simp only [gu, sX8_letDrum_s, sX8_dr_r]); try grind
      · rw [pF, pF]; have := q3 62 (30 + 3 * s) (by omega); have := q3 62 (30 + 3 * s + 1) (by omega); have := hN.1 s hs; (try simp only [gu, sX8_letDrum_s, sX8_dr_r]); try grind
      · rw [pF, pF]; have := q3 62 (14 + 4 * d + 1) (by omega); have := q3 62 (14 + 4 * d + 3) (by omega); have := hN.2.1 d hd; (try simp only [gu, sX8_letDrum_s, sX8_dr_r]); try grind
      · rw [pF, pF]; have := q3 62 (14 + 4 * d) (by omega); have := q3 62 (14 + 4 * d + 3) (by omega); have := hN.2.2 d hd; (try simp only [gu, sX8_letDrum_s, sX8_dr_r]); try grind
      · rw [pF]; have := q3 62 (14 + 4 * d + 1) (by omega); have := hM.2 d hd; (try simp only [gu, sX8_letDrum_s, sX8_dr_r]); try grind
      · rw [eL _ (by omega), q1, pF]; have := q3 62 (14 + 4 * d + 3) (by omega); have := hZ.1 d h1 h2; (try simp only [gu, sX8_letDrum_s, sX8_dr_r]); try grind
      · rw [pF]; have := q3 62 i (by omega); (try simp only [gu, sX8_letDrum_s, sX8_dr_r]); try grind
      · rw [pF]; have := q3 60 j (by omega); (try simp only [gu, sX8_letDrum_s, sX8_dr_r]); try grind
      · rw [pF]; have := q3 62 5 (by omega); (try simp only [gu, sX8_letDrum_s, sX8_dr_r]); try grind
    · skip
      have hT : sX7_setHeat_t σ a b = 1 := by simp [sX7_setHeat_t, zv_num, zv_idx, w1, w2, w3, w4, t1, t2, t3, t4, c1, c2]
      have hL : sL_setHeat_s σ a b = σ := by simp [sL_setHeat_s, hT, sX7_setHeat_s, zv_num, zv_idx, w1, w2, w3, w4, t1, t2, t3, t4, c1, c2]
      have hr : sL_setHeat_r σ a b = 2 := by simp [sL_setHeat_r, hT]
      have hF : sX8_setHeat_s σ a b = gu (gu σ 57 0 0) 57 0 2 := by simp [sX8_setHeat_s, zv_in, gu_rd, u1, u2, u3, u4, z1, z2, z3, z4, sX8_isDrum_r, sX8_isSmuggler_r, sX8_fail_s, sX8_fail_r, sX8_dr_r, sX8_sm_r, c1, c2]
      exact hI.fails hL (by rw [hL]; exact hF) hr (by decide)
  · skip
    have hT : sX7_setHeat_t σ a b = 3 := by simp [sX7_setHeat_t, zv_num, zv_idx, w1, w2, w3, w4, t1, t2, t3, t4, c1]
    have hL : sL_setHeat_s σ a b = σ := by simp [sL_setHeat_s, hT, sX7_setHeat_s, zv_num, zv_idx, w1, w2, w3, w4, t1, t2, t3, t4, c1]
    have hr : sL_setHeat_r σ a b = 1 := by simp [sL_setHeat_r, hT]
    have hF : sX8_setHeat_s σ a b = gu (gu σ 57 0 0) 57 0 1 := by simp [sX8_setHeat_s, zv_in, gu_rd, u1, u2, u3, u4, z1, z2, z3, z4, sX8_isDrum_r, sX8_isSmuggler_r, sX8_fail_s, sX8_fail_r, sX8_dr_r, sX8_sm_r, c1]
    exact hI.fails hL (by rw [hL]; exact hF) hr (by decide)
set_option maxHeartbeats 2000000 in
theorem okv_dig : ok_dig IV := by
  intro n σ a b hn hI
  have hM := hI.1.2.2.1
  have hR := hI.1.1
  have hN := hI.1.2.1
  have hZ := hI.2.1
  have u1 := hM.eq 1 (by omega) (by omega)
  have u2 := hM.eq 2 (by omega) (by omega)
  have u3 := hM.eq 3 (by omega) (by omega)
  have u4 := hM.eq 4 (by omega) (by omega)
  have w1 : σ.1 1 5 = nI (mB σ 1) := (hR.cnt 1 (by omega) (by omega)).trans u1
  have w2 : σ.1 1 6 = nI (mB σ 2) := (hR.cnt 2 (by omega) (by omega)).trans u2
  have w3 : σ.1 1 7 = nI (mB σ 3) := (hR.cnt 3 (by omega) (by omega)).trans u3
  have w4 : σ.1 1 8 = nI (mB σ 4) := (hR.cnt 4 (by omega) (by omega)).trans u4
  have l1 := hM.le1
  have l2 := hM.le2
  have l3 := hM.le3
  have l4 := hM.le4
  have z1 := zv_pred (k := mB σ 1) (by omega)
  have z2 := zv_pred (k := mB σ 2) (by omega)
  have z3 := zv_pred (k := mB σ 3) (by omega)
  have z4 := zv_pred (k := mB σ 4) (by omega)
  have t1 : tB σ 1 5 = mB σ 1 := hI.1.cnt (q := 1) (by omega) (by omega)
  have t2 : tB σ 1 6 = mB σ 2 := hI.1.cnt (q := 2) (by omega) (by omega)
  have t3 : tB σ 1 7 = mB σ 3 := hI.1.cnt (q := 3) (by omega) (by omega)
  have t4 : tB σ 1 8 = mB σ 4 := hI.1.cnt (q := 4) (by omega) (by omega)
  by_cases c1 : 0 ≤ a ∧ a < nI (mB σ 1)
  · skip
    have hi : a.toNatClampNeg < mB σ 1 := zv_clamp (by omega) c1
    have d1 : σ.1 (7 + a.toNatClampNeg) 2 = σ.1 62 (10 + a.toNatClampNeg) := hR.b2 a.toNatClampNeg (by omega)
    by_cases c2 : 1 ≤ b ∧ b ≤ 99
    · skip
      by_cases c3 : b ≤ σ.1 62 (10 + a.toNatClampNeg)
      · skip
        have g3 : ¬ σ.1 62 (10 + a.toNatClampNeg) < b := Int32.not_lt.mpr c3
        have hT : sX7_dig_t σ a b = 0 := by simp [sX7_dig_t, zv_num, zv_idx, w1, w2, w3, w4, t1, t2, t3, t4, c1, d1, c2, c3, g3]
        have hr : sL_dig_r σ a b = 0 := by simp [sL_dig_r, hT]
        have hS : sX7_dig_s σ a b = (let S1 := gu σ (1 + 6 + (a.toNatClampNeg)) 2 ((σ.1 (1 + 6 + (a.toNatClampNeg)) 2) - b); let S2 := sX4_add_s S1 6 (0 : Int32) b; S2) := by simp [sX7_dig_s, zv_num, zv_idx, w1, w2, w3, w4, t1, t2, t3, t4, c1, d1, c2, c3, g3]
        have hA : sX7_dig_r σ a b = (let S1 := gu σ (1 + 6 + (a.toNatClampNeg)) 2 ((σ.1 (1 + 6 + (a.toNatClampNeg)) 2) - b); let S2 := sX4_add_s S1 6 (0 : Int32) b; S2.1 (1 + 6 + (a.toNatClampNeg)) 2) := by simp [sX7_dig_r, zv_num, zv_idx, w1, w2, w3, w4, t1, t2, t3, t4, c1, d1, c2, c3, g3]
        have hL : sL_dig_s σ a b = go (sX7_dig_s σ a b) (vp_updL (sX7_dig_s σ a b).2 0 (Int32.toInt64 (sX7_dig_r σ a b))) := by rw [sL_dig_s, if_pos hT]
        have q1 : ∀ k f, (sL_dig_s σ a b).1 k f = (let S1 := gu σ (1 + 6 + (a.toNatClampNeg)) 2 ((σ.1 (1 + 6 + (a.toNatClampNeg)) 2) - b); let S2 := sX4_add_s S1 6 (0 : Int32) b; S2).1 k f := fun k f => by rw [hL, hS]; rfl
        have q2 : (sL_dig_s σ a b).2 0 = Int32.toInt64 (sX7_dig_r σ a b) := by rw [hL]; exact go_out _ _
        rw [hA] at q2
        generalize sL_dig_s σ a b = τ at q1 q2 ⊢
        try dsimp only at q1 q2
        have q3 : ∀ k f, 57 ≤ k → τ.1 k f = σ.1 k f := fun k f hk => by rw [q1]; (try simp only [gu, sX4_add_s]); try grind
        have tM : mOK τ := hM.cls (fun k hk f => q3 k f hk)
        have m1 : mB τ 1 = mB σ 1 := mB_of (q3 _ _ (by omega))
        have m2 : mB τ 2 = mB σ 2 := mB_of (q3 _ _ (by omega))
        have m3 : mB τ 3 = mB σ 3 := mB_of (q3 _ _ (by omega))
        have m4 : mB τ 4 = mB σ 4 := mB_of (q3 _ _ (by omega))
        have hF : sX8_dig_s τ a b = (let S1 := gu τ 57 0 (0 : Int32); let S2 := gu S1 62 (10 + a.toNatClampNeg) ((S1.1 62 (10 + a.toNatClampNeg)) - b); let S3 := gu S2 62 1 ((S2.1 62 1) + b); S3) := by simp [sX8_dig_s, zv_in, gu_rd, u1, u2, u3, u4, z1, z2, z3, z4, sX8_isDrum_r, sX8_isSmuggler_r, sX8_fail_s, sX8_fail_r, sX8_dr_r, sX8_sm_r, q3, c1, d1, c2, c3, g3]
        have hB : sX8_dig_r τ a b = (let S1 := gu τ 57 0 (0 : Int32); let S2 := gu S1 62 (10 + a.toNatClampNeg) ((S1.1 62 (10 + a.toNatClampNeg)) - b); let S3 := gu S2 62 1 ((S2.1 62 1) + b); S3.1 62 (10 + a.toNatClampNeg)) := by simp [sX8_dig_r, zv_in, gu_rd, u1, u2, u3, u4, z1, z2, z3, z4, sX8_isDrum_r, sX8_isSmuggler_r, sX8_fail_s, sX8_fail_r, sX8_dr_r, sX8_sm_r, q3, c1, d1, c2, c3, g3]
        have pF : ∀ k f, (sX8_dig_s τ a b).1 k f = ((let S1 := gu τ 57 0 (0 : Int32); let S2 := gu S1 62 (10 + a.toNatClampNeg) ((S1.1 62 (10 + a.toNatClampNeg)) - b); let S3 := gu S2 62 1 ((S2.1 62 1) + b); S3)).1 k f := fun k f => by rw [hF]
        have pF2 : (sX8_dig_s τ a b).2 = τ.2 := by rw [hF]; rfl
        rw [hB, hr]
        generalize sX8_dig_s τ a b = F at pF pF2 ⊢
        try dsimp only at pF ⊢
        try simp only [t1, t2, t3, t4] at q1 q2
        try simp only [m1, m2, m3, m4] at pF ⊢
        have x1 := q3 62 (10 + a.toNatClampNeg) (by omega)
        have x3 := q3 62 1 (by omega)
        have x4 : σ.1 6 0 = σ.1 62 1 := hR.s0
        have x5 : σ.1 (1 + 6 + a.toNatClampNeg) 2 = σ.1 62 (10 + a.toNatClampNeg) := d1
        refine ⟨hI.1.tOK1, tM, by rw [pF]; (try simp only [gu]); try grind, fun _ => by rw [pF2, q2]; try congr 1; (try simp only [gu, sX4_add_s]); try grind, ?_⟩
        have eL : ∀ k, k < 57 → ∀ f, F.1 k f = τ.1 k f := fun k hk f => by rw [pF]; (try simp only [gu]); try grind
        refine hI.chg (fun j hj => by rw [pF]; have := q3 57 j (by omega); (try simp only [gu]); try grind) (((hR.put (v := σ.1 62 (10 + a.toNatClampNeg) - b) (PW.b2 (i := a.toNatClampNeg) (by omega))).put (v := σ.1 62 1 + b) PW.s0).ext (fun k h1 h2 f => ?_) (fun k h1 h2 f h3 => ?_)) ⟨fun s hs => ?_, fun d hd => ?_, fun d hd => ?_⟩ (fun d hd => ?_) (fun d h1 h2 => ?_) (fun i hi => ?_) (fun j => ?_) ?_
        · rw [eL k (by omega), q1]; (try simp only [gu, sX4_add_s]); try grind
        · rw [pF]; have := q3 k f (by omega); (try simp only [gu]); try grind
        · rw [pF, pF]; have := q3 62 (30 + 3 * s) (by omega); have := q3 62 (30 + 3 * s + 1) (by omega); have := hN.1 s hs; (try simp only [gu]); try grind
        · rw [pF, pF]; have := q3 62 (14 + 4 * d + 1) (by omega); have := q3 62 (14 + 4 * d + 3) (by omega); have := hN.2.1 d hd; (try simp only [gu]); try grind
        · rw [pF, pF]; have := q3 62 (14 + 4 * d) (by omega); have := q3 62 (14 + 4 * d + 3) (by omega); have := hN.2.2 d hd; (try simp only [gu]); try grind
        · rw [pF]; have := q3 62 (14 + 4 * d + 1) (by omega); have := hM.2 d hd; (try simp only [gu]); try grind
        · rw [eL _ (by omega), q1, pF]; have := q3 62 (14 + 4 * d + 3) (by omega); have := hZ.1 d h1 h2; (try simp only [gu, sX4_add_s]); try grind
        · rw [pF]; have := q3 62 i (by omega); (try simp only [gu]); try grind
        · rw [pF]; have := q3 60 j (by omega); (try simp only [gu]); try grind
        · rw [pF]; have := q3 62 5 (by omega); (try simp only [gu]); try grind
      · skip
        have g3 : σ.1 62 (10 + a.toNatClampNeg) < b := Int32.not_le.mp c3
        have hT : sX7_dig_t σ a b = 2 := by simp [sX7_dig_t, zv_num, zv_idx, w1, w2, w3, w4, t1, t2, t3, t4, c1, d1, c2, c3, g3]
        have hL : sL_dig_s σ a b = σ := by simp [sL_dig_s, hT, sX7_dig_s, zv_num, zv_idx, w1, w2, w3, w4, t1, t2, t3, t4, c1, d1, c2, c3, g3]
        have hr : sL_dig_r σ a b = 3 := by simp [sL_dig_r, hT]
        have hF : sX8_dig_s σ a b = gu (gu σ 57 0 0) 57 0 3 := by simp [sX8_dig_s, zv_in, gu_rd, u1, u2, u3, u4, z1, z2, z3, z4, sX8_isDrum_r, sX8_isSmuggler_r, sX8_fail_s, sX8_fail_r, sX8_dr_r, sX8_sm_r, c1, d1, c2, c3, g3]
        exact hI.fails hL (by rw [hL]; exact hF) hr (by decide)
    · skip
      have hT : sX7_dig_t σ a b = 1 := by simp [sX7_dig_t, zv_num, zv_idx, w1, w2, w3, w4, t1, t2, t3, t4, c1, d1, c2]
      have hL : sL_dig_s σ a b = σ := by simp [sL_dig_s, hT, sX7_dig_s, zv_num, zv_idx, w1, w2, w3, w4, t1, t2, t3, t4, c1, d1, c2]
      have hr : sL_dig_r σ a b = 2 := by simp [sL_dig_r, hT]
      have hF : sX8_dig_s σ a b = gu (gu σ 57 0 0) 57 0 2 := by simp [sX8_dig_s, zv_in, gu_rd, u1, u2, u3, u4, z1, z2, z3, z4, sX8_isDrum_r, sX8_isSmuggler_r, sX8_fail_s, sX8_fail_r, sX8_dr_r, sX8_sm_r, c1, d1, c2]
      exact hI.fails hL (by rw [hL]; exact hF) hr (by decide)
  · skip
    have hT : sX7_dig_t σ a b = 3 := by simp [sX7_dig_t, zv_num, zv_idx, w1, w2, w3, w4, t1, t2, t3, t4, c1]
    have hL : sL_dig_s σ a b = σ := by simp [sL_dig_s, hT, sX7_dig_s, zv_num, zv_idx, w1, w2, w3, w4, t1, t2, t3, t4, c1]
    have hr : sL_dig_r σ a b = 1 := by simp [sL_dig_r, hT]
    have hF : sX8_dig_s σ a b = gu (gu σ 57 0 0) 57 0 1 := by simp [sX8_dig_s, zv_in, gu_rd, u1, u2, u3, u4, z1, z2, z3, z4, sX8_isDrum_r, sX8_isSmuggler_r, sX8_fail_s, sX8_fail_r, sX8_dr_r, sX8_sm_r, c1]
    exact hI.fails hL (by rw [hL]; exact hF) hr (by decide)
set_option maxHeartbeats 2000000 in
theorem okv_give : ok_give IV := by
  intro n σ a b hn hI
  have hM := hI.1.2.2.1
  have hR := hI.1.1
  have hN := hI.1.2.1
  have hZ := hI.2.1
  have u1 := hM.eq 1 (by omega) (by omega)
  have u2 := hM.eq 2 (by omega) (by omega)
  have u3 := hM.eq 3 (by omega) (by omega)
  have u4 := hM.eq 4 (by omega) (by omega)
  have w1 : σ.1 1 5 = nI (mB σ 1) := (hR.cnt 1 (by omega) (by omega)).trans u1
  have w2 : σ.1 1 6 = nI (mB σ 2) := (hR.cnt 2 (by omega) (by omega)).trans u2
  have w3 : σ.1 1 7 = nI (mB σ 3) := (hR.cnt 3 (by omega) (by omega)).trans u3
  have w4 : σ.1 1 8 = nI (mB σ 4) := (hR.cnt 4 (by omega) (by omega)).trans u4
  have l1 := hM.le1
  have l2 := hM.le2
  have l3 := hM.le3
  have l4 := hM.le4
  have z1 := zv_pred (k := mB σ 1) (by omega)
  have z2 := zv_pred (k := mB σ 2) (by omega)
  have z3 := zv_pred (k := mB σ 3) (by omega)
  have z4 := zv_pred (k := mB σ 4) (by omega)
  have t1 : tB σ 1 5 = mB σ 1 := hI.1.cnt (q := 1) (by omega) (by omega)
  have t2 : tB σ 1 6 = mB σ 2 := hI.1.cnt (q := 2) (by omega) (by omega)
  have t3 : tB σ 1 7 = mB σ 3 := hI.1.cnt (q := 3) (by omega) (by omega)
  have t4 : tB σ 1 8 = mB σ 4 := hI.1.cnt (q := 4) (by omega) (by omega)
  have zz : ∀ x : Int32, x ≤ 1 ↔ x < 2 := zv_pred (k := 2) (by omega)
  by_cases c1 : 0 ≤ a ∧ a < 2
  · skip
    have ha : (a = 0 ∧ a.toNatClampNeg = 0) ∨ (a = 1 ∧ a.toNatClampNeg = 1) := zv_01 c1
    by_cases c2 : 1 ≤ b ∧ b ≤ 99
    · skip
      have hT : sX7_give_t σ a b = 0 := by simp [sX7_give_t, zv_num, zv_idx, w1, w2, w3, w4, t1, t2, t3, t4, zz, c1, c2]
      have hr : sL_give_r σ a b = 0 := by simp [sL_give_r, hT]
      have hS : sX7_give_s σ a b = (let S1 := sX4_add_s σ 6 a b; S1) := by simp [sX7_give_s, zv_num, zv_idx, w1, w2, w3, w4, t1, t2, t3, t4, zz, c1, c2]
      have hA : sX7_give_r σ a b = (let S1 := sX4_add_s σ 6 a b; sX4_stock_r S1 6 a) := by simp [sX7_give_r, zv_num, zv_idx, w1, w2, w3, w4, t1, t2, t3, t4, zz, c1, c2]
      have hL : sL_give_s σ a b = go (sX7_give_s σ a b) (vp_updL (sX7_give_s σ a b).2 0 (Int32.toInt64 (sX7_give_r σ a b))) := by rw [sL_give_s, if_pos hT]
      have q1 : ∀ k f, (sL_give_s σ a b).1 k f = (let S1 := sX4_add_s σ 6 a b; S1).1 k f := fun k f => by rw [hL, hS]; rfl
      have q2 : (sL_give_s σ a b).2 0 = Int32.toInt64 (sX7_give_r σ a b) := by rw [hL]; exact go_out _ _
      rw [hA] at q2
      generalize sL_give_s σ a b = τ at q1 q2 ⊢
      try dsimp only at q1 q2
      have q3 : ∀ k f, 57 ≤ k → τ.1 k f = σ.1 k f := fun k f hk => by rw [q1]; (try simp only [gu, sX4_add_s]); try grind
      have tM : mOK τ := hM.cls (fun k hk f => q3 k f hk)
      have m1 : mB τ 1 = mB σ 1 := mB_of (q3 _ _ (by omega))
      have m2 : mB τ 2 = mB σ 2 := mB_of (q3 _ _ (by omega))
      have m3 : mB τ 3 = mB σ 3 := mB_of (q3 _ _ (by omega))
      have m4 : mB τ 4 = mB σ 4 := mB_of (q3 _ _ (by omega))
      have hF : sX8_give_s τ a b = (let S1 := gu τ 57 0 (0 : Int32); let S2 := gu S1 62 (1 + a.toNatClampNeg) ((S1.1 62 (1 + a.toNatClampNeg)) + b); S2) := by simp [sX8_give_s, zv_in, gu_rd, u1, u2, u3, u4, z1, z2, z3, z4, sX8_isDrum_r, sX8_isSmuggler_r, sX8_fail_s, sX8_fail_r, sX8_dr_r, sX8_sm_r, q3, zz, c1, c2]
      have hB : sX8_give_r τ a b = (let S1 := gu τ 57 0 (0 : Int32); let S2 := gu S1 62 (1 + a.toNatClampNeg) ((S1.1 62 (1 + a.toNatClampNeg)) + b); S2.1 62 (1 + a.toNatClampNeg)) := by simp [sX8_give_r, zv_in, gu_rd, u1, u2, u3, u4, z1, z2, z3, z4, sX8_isDrum_r, sX8_isSmuggler_r, sX8_fail_s, sX8_fail_r, sX8_dr_r, sX8_sm_r, q3, zz, c1, c2]
      have pF : ∀ k f, (sX8_give_s τ a b).1 k f = ((let S1 := gu τ 57 0 (0 : Int32); let S2 := gu S1 62 (1 + a.toNatClampNeg) ((S1.1 62 (1 + a.toNatClampNeg)) + b); S2)).1 k f := fun k f => by rw [hF]
      have pF2 : (sX8_give_s τ a b).2 = τ.2 := by rw [hF]; rfl
      rw [hB, hr]
      generalize sX8_give_s τ a b = F at pF pF2 ⊢
      try dsimp only at pF ⊢
      try simp only [t1, t2, t3, t4] at q1 q2
      try simp only [m1, m2, m3, m4] at pF ⊢
      have x1 := q3 62 1 (by omega)
      have x2 := q3 62 2 (by omega)
      have x3 : σ.1 6 0 = σ.1 62 1 := hR.s0
      have x4 : σ.1 6 1 = σ.1 62 2 := hR.s1
      refine ⟨hI.1.tOK1, tM, by rw [pF]; (try simp only [gu]); try grind, fun _ => by rw [pF2, q2]; try congr 1; (try simp only [gu, sX4_add_s, sX4_stock_r]); try grind, ?_⟩
      have eL : ∀ k, k < 57 → ∀ f, F.1 k f = τ.1 k f := fun k hk f => by rw [pF]; (try simp only [gu]); try grind
      rcases ha with hk | hk
      · obtain ⟨hk, hk2⟩ := hk
        refine hI.chg (fun j hj => by rw [pF]; have := q3 57 j (by omega); (try simp only [gu]); try grind) ((hR.put (v := σ.1 62 1 + b) PW.s0).ext (fun k h1 h2 f => ?_) (fun k h1 h2 f h3 => ?_)) ⟨fun s hs => ?_, fun d hd => ?_, fun d hd => ?_⟩ (fun d hd => ?_) (fun d h1 h2 => ?_) (fun i hi => ?_) (fun j => ?_) ?_
        · rw [eL k (by omega), q1]; (try simp only [gu, sX4_add_s]); try grind
        · rw [pF]; have := q3 k f (by omega); (try simp only [gu]); try grind
        · rw [pF, pF]; have := q3 62 (30 + 3 * s) (by omega); have := q3 62 (30 + 3 * s + 1) (by omega); have := hN.1 s hs; (try simp only [gu]); try grind
        · rw [pF, pF]; have := q3 62 (14 + 4 * d + 1) (by omega); have := q3 62 (14 + 4 * d + 3) (by omega); have := hN.2.1 d hd; (try simp only [gu]); try grind
        · rw [pF, pF]; have := q3 62 (14 + 4 * d) (by omega); have := q3 62 (14 + 4 * d + 3) (by omega); have := hN.2.2 d hd; (try simp only [gu]); try grind
        · rw [pF]; have := q3 62 (14 + 4 * d + 1) (by omega); have := hM.2 d hd; (try simp only [gu]); try grind
        · rw [eL _ (by omega), q1, pF]; have := q3 62 (14 + 4 * d + 3) (by omega); have := hZ.1 d h1 h2; (try simp only [gu, sX4_add_s]); try grind
        · rw [pF]; have := q3 62 i (by omega); (try simp only [gu]); try grind
        · rw [pF]; have := q3 60 j (by omega); (try simp only [gu]); try grind
        · rw [pF]; have := q3 62 5 (by omega); (try simp only [gu]); try grind
      · obtain ⟨hk, hk2⟩ := hk
        refine hI.chg (fun j hj => by rw [pF]; have := q3 57 j (by omega); (try simp only [gu]); try grind) ((hR.put (v := σ.1 62 2 + b) PW.s1).ext (fun k h1 h2 f => ?_) (fun k h1 h2 f h3 => ?_)) ⟨fun s hs => ?_, fun d hd => ?_, fun d hd => ?_⟩ (fun d hd => ?_) (fun d h1 h2 => ?_) (fun i hi => ?_) (fun j => ?_) ?_
        · rw [eL k (by omega), q1]; (try simp only [gu, sX4_add_s]); try grind
        · rw [pF]; have := q3 k f (by omega); (try simp only [gu]); try grind
        · rw [pF, pF]; have := q3 62 (30 + 3 * s) (by omega); have := q3 62 (30 + 3 * s + 1) (by omega); have := hN.1 s hs; (try simp only [gu]); try grind
        · rw [pF, pF]; have := q3 62 (14 + 4 * d + 1) (by omega); have := q3 62 (14 + 4 * d + 3) (by omega); have := hN.2.1 d hd; (try simp only [gu]); try grind
        · rw [pF, pF]; have := q3 62 (14 + 4 * d) (by omega); have := q3 62 (14 + 4 * d + 3) (by omega); have := hN.2.2 d hd; (try simp only [gu]); try grind
        · rw [pF]; have := q3 62 (14 + 4 * d + 1) (by omega); have := hM.2 d hd; (try simp only [gu]); try grind
        · rw [eL _ (by omega), q1, pF]; have := q3 62 (14 + 4 * d + 3) (by omega); have := hZ.1 d h1 h2; (try simp only [gu, sX4_add_s]); try grind
        · rw [pF]; have := q3 62 i (by omega); (try simp only [gu]); try grind
        · rw [pF]; have := q3 60 j (by omega); (try simp only [gu]); try grind
        · rw [pF]; have := q3 62 5 (by omega); (try simp only [gu]); try grind
    · skip
      have hT : sX7_give_t σ a b = 1 := by simp [sX7_give_t, zv_num, zv_idx, w1, w2, w3, w4, t1, t2, t3, t4, zz, c1, c2]
      have hL : sL_give_s σ a b = σ := by simp [sL_give_s, hT, sX7_give_s, zv_num, zv_idx, w1, w2, w3, w4, t1, t2, t3, t4, zz, c1, c2]
      have hr : sL_give_r σ a b = 2 := by simp [sL_give_r, hT]
      have hF : sX8_give_s σ a b = gu (gu σ 57 0 0) 57 0 2 := by simp [sX8_give_s, zv_in, gu_rd, u1, u2, u3, u4, z1, z2, z3, z4, sX8_isDrum_r, sX8_isSmuggler_r, sX8_fail_s, sX8_fail_r, sX8_dr_r, sX8_sm_r, zz, c1, c2]
      exact hI.fails hL (by rw [hL]; exact hF) hr (by decide)
  · skip
    have hT : sX7_give_t σ a b = 3 := by simp [sX7_give_t, zv_num, zv_idx, w1, w2, w3, w4, t1, t2, t3, t4, zz, c1]
    have hL : sL_give_s σ a b = σ := by simp [sL_give_s, hT, sX7_give_s, zv_num, zv_idx, w1, w2, w3, w4, t1, t2, t3, t4, zz, c1]
    have hr : sL_give_r σ a b = 1 := by simp [sL_give_r, hT]
    have hF : sX8_give_s σ a b = gu (gu σ 57 0 0) 57 0 1 := by simp [sX8_give_s, zv_in, gu_rd, u1, u2, u3, u4, z1, z2, z3, z4, sX8_isDrum_r, sX8_isSmuggler_r, sX8_fail_s, sX8_fail_r, sX8_dr_r, sX8_sm_r, zz, c1]
    exact hI.fails hL (by rw [hL]; exact hF) hr (by decide)
set_option maxHeartbeats 2000000 in
theorem okv_load : ok_load IV := by
  intro n σ a b n3 hn hI
  have hM := hI.1.2.2.1
  have hR := hI.1.1
  have hN := hI.1.2.1
  have hZ := hI.2.1
  have u1 := hM.eq 1 (by omega) (by omega)
  have u2 := hM.eq 2 (by omega) (by omega)
  have u3 := hM.eq 3 (by omega) (by omega)
  have u4 := hM.eq 4 (by omega) (by omega)
  have w1 : σ.1 1 5 = nI (mB σ 1) := (hR.cnt 1 (by omega) (by omega)).trans u1
  have w2 : σ.1 1 6 = nI (mB σ 2) := (hR.cnt 2 (by omega) (by omega)).trans u2
  have w3 : σ.1 1 7 = nI (mB σ 3) := (hR.cnt 3 (by omega) (by omega)).trans u3
  have w4 : σ.1 1 8 = nI (mB σ 4) := (hR.cnt 4 (by omega) (by omega)).trans u4
  have l1 := hM.le1
  have l2 := hM.le2
  have l3 := hM.le3
  have l4 := hM.le4
  have z1 := zv_pred (k := mB σ 1) (by omega)
  have z2 := zv_pred (k := mB σ 2) (by omega)
  have z3 := zv_pred (k := mB σ 3) (by omega)
  have z4 := zv_pred (k := mB σ 4) (by omega)
  have t1 : tB σ 1 5 = mB σ 1 := hI.1.cnt (q := 1) (by omega) (by omega)
  have t2 : tB σ 1 6 = mB σ 2 := hI.1.cnt (q := 2) (by omega) (by omega)
  have t3 : tB σ 1 7 = mB σ 3 := hI.1.cnt (q := 3) (by omega) (by omega)
  have t4 : tB σ 1 8 = mB σ 4 := hI.1.cnt (q := 4) (by omega) (by omega)
  have zz : ∀ x : Int32, x ≤ 1 ↔ x < 2 := zv_pred (k := 2) (by omega)
  by_cases c1 : 0 ≤ a ∧ a < nI (mB σ 2)
  · skip
    have hi : a.toNatClampNeg < mB σ 2 := zv_clamp (by omega) c1
    have d0 : σ.1 (11 + a.toNatClampNeg) 0 = σ.1 59 a.toNatClampNeg := hR.d0 a.toNatClampNeg (by omega)
    have d1 : σ.1 (11 + a.toNatClampNeg) 2 = σ.1 62 (14 + 4 * a.toNatClampNeg + 1) := hR.dd a.toNatClampNeg 1 (by omega) (by omega) (by omega)
    by_cases c2 : 0 ≤ b ∧ b < 2
    · skip
      have ha : (b = 0 ∧ b.toNatClampNeg = 0) ∨ (b = 1 ∧ b.toNatClampNeg = 1) := zv_01 c2
      have st : sX4_stock_r σ 6 b = σ.1 62 (1 + b.toNatClampNeg) := by
        have x3 : σ.1 6 0 = σ.1 62 1 := hR.s0
        have x4 : σ.1 6 1 = σ.1 62 2 := hR.s1
        unfold sX4_stock_r
        grind
      by_cases c3 : 1 ≤ n3 ∧ n3 ≤ σ.1 59 a.toNatClampNeg
      · skip
        by_cases c4 : σ.1 62 (14 + 4 * a.toNatClampNeg + 1) = -1
        · skip
          by_cases c5 : n3 ≤ σ.1 62 (1 + b.toNatClampNeg)
          · skip
            have g5 : ¬ σ.1 62 (1 + b.toNatClampNeg) < n3 := Int32.not_lt.mpr c5
            have hT : sX7_load_t σ a b n3 = 0 := by simp [sX7_load_t, zv_num, zv_idx, w1, w2, w3, w4, t1, t2, t3, t4, zz, c1, d0, d1, c2, st, c3, c4, c5, g5]
            have hr : sL_load_r σ a b n3 = 0 := by simp [sL_load_r, hT]
            have hS : sX7_load_s σ a b n3 = (let S1 := sX4_add_s σ 6 b (-n3); let S2 := sX2_fill_s S1 (1 + 10 + (a.toNatClampNeg)) b n3; S2) := by simp [sX7_load_s, zv_num, zv_idx, w1, w2, w3, w4, t1, t2, t3, t4, zz, c1, d0, d1, c2, st, c3, c4, c5, g5]
            have hA : sX7_load_r σ a b n3 = (let S1 := sX4_add_s σ 6 b (-n3); let S2 := sX2_fill_s S1 (1 + 10 + (a.toNatClampNeg)) b n3; sX4_stock_r S2 6 b) := by simp [sX7_load_r, zv_num, zv_idx, w1, w2, w3, w4, t1, t2, t3, t4, zz, c1, d0, d1, c2, st, c3, c4, c5, g5]
            have hL : sL_load_s σ a b n3 = go (sX7_load_s σ a b n3) (vp_updL (sX7_load_s σ a b n3).2 0 (Int32.toInt64 (sX7_load_r σ a b n3))) := by rw [sL_load_s, if_pos hT]
            have q1 : ∀ k f, (sL_load_s σ a b n3).1 k f = (let S1 := sX4_add_s σ 6 b (-n3); let S2 := sX2_fill_s S1 (1 + 10 + (a.toNatClampNeg)) b n3; S2).1 k f := fun k f => by rw [hL, hS]; rfl
            have q2 : (sL_load_s σ a b n3).2 0 = Int32.toInt64 (sX7_load_r σ a b n3) := by rw [hL]; exact go_out _ _
            rw [hA] at q2
            generalize sL_load_s σ a b n3 = τ at q1 q2 ⊢
            try dsimp only at q1 q2
            have q3 : ∀ k f, 57 ≤ k → τ.1 k f = σ.1 k f := fun k f hk => by rw [q1]; (try simp only [gu, sX4_add_s, sX2_fill_s]); try grind
            have tM : mOK τ := hM.cls (fun k hk f => q3 k f hk)
            have m1 : mB τ 1 = mB σ 1 := mB_of (q3 _ _ (by omega))
            have m2 : mB τ 2 = mB σ 2 := mB_of (q3 _ _ (by omega))
            have m3 : mB τ 3 = mB σ 3 := mB_of (q3 _ _ (by omega))
            have m4 : mB τ 4 = mB σ 4 := mB_of (q3 _ _ (by omega))
            have hF : sX8_load_s τ a b n3 = (let S1 := gu τ 57 0 (0 : Int32); let S4 := gu S1 62 (1 + b.toNatClampNeg) ((S1.1 62 (1 + b.toNatClampNeg)) - n3); let S5 := sX8_letDrum_s S4 a.toNatClampNeg 1 b; let S6 := sX8_letDrum_s S5 a.toNatClampNeg 2 n3; let S7 := sX8_letDrum_s S6 a.toNatClampNeg 3 (0 : Int32); S7) := by simp [sX8_load_s, zv_in, gu_rd, u1, u2, u3, u4, z1, z2, z3, z4, sX8_isDrum_r, sX8_isSmuggler_r, sX8_fail_s, sX8_fail_r, sX8_dr_r, sX8_sm_r, q3, zz, c1, d0, d1, c2, st, c3, c4, c5, g5]
            have hB : sX8_load_r τ a b n3 = (let S1 := gu τ 57 0 (0 : Int32); let S4 := gu S1 62 (1 + b.toNatClampNeg) ((S1.1 62 (1 + b.toNatClampNeg)) - n3); let S5 := sX8_letDrum_s S4 a.toNatClampNeg 1 b; let S6 := sX8_letDrum_s S5 a.toNatClampNeg 2 n3; let S7 := sX8_letDrum_s S6 a.toNatClampNeg 3 (0 : Int32); S7.1 62 (1 + b.toNatClampNeg)) := by simp [sX8_load_r, zv_in, gu_rd, u1, u2, u3, u4, z1, z2, z3, z4, sX8_isDrum_r, sX8_isSmuggler_r, sX8_fail_s, sX8_fail_r, sX8_dr_r, sX8_sm_r, q3, zz, c1, d0, d1, c2, st, c3, c4, c5, g5]
            have pF : ∀ k f, (sX8_load_s τ a b n3).1 k f = ((let S1 := gu τ 57 0 (0 : Int32); let S4 := gu S1 62 (1 + b.toNatClampNeg) ((S1.1 62 (1 + b.toNatClampNeg)) - n3); let S5 := sX8_letDrum_s S4 a.toNatClampNeg 1 b; let S6 := sX8_letDrum_s S5 a.toNatClampNeg 2 n3; let S7 := sX8_letDrum_s S6 a.toNatClampNeg 3 (0 : Int32); S7)).1 k f := fun k f => by rw [hF]
            have pF2 : (sX8_load_s τ a b n3).2 = τ.2 := by rw [hF]; rfl
            rw [hB, hr]
            generalize sX8_load_s τ a b n3 = F at pF pF2 ⊢
            try dsimp only at pF ⊢
            try simp only [t1, t2, t3, t4] at q1 q2
            try simp only [m1, m2, m3, m4] at pF ⊢
            have x1 := q3 62 1 (by omega)
            have x2 := q3 62 2 (by omega)
            have x3 : σ.1 6 0 = σ.1 62 1 := hR.s0
            have x4 : σ.1 6 1 = σ.1 62 2 := hR.s1
            refine ⟨hI.1.tOK1, tM, by rw [pF]; (try simp only [gu, sX8_letDrum_s]); try grind, fun _ => by rw [pF2, q2]; try congr 1; (try simp only [gu, sX4_add_s, sX2_fill_s, sX8_letDrum_s, sX4_stock_r]); try grind, ?_⟩
            have eL : ∀ k, k < 57 → ∀ f, F.1 k f = τ.1 k f := fun k hk f => by rw [pF]; (try simp only [gu, sX8_letDrum_s]); try grind
            rcases ha with hk | hk
            · obtain ⟨hk, hk2⟩ := hk
              refine hI.chg (fun j hj => by rw [pF]; have := q3 57 j (by omega); (try simp only [gu, sX8_letDrum_s]); try grind) (((((hR.put (v := σ.1 62 1 - n3) PW.s0).put (v := b) (PW.dd (i := a.toNatClampNeg) (w := 1) (by omega) (by omega))).put (v := n3) (PW.dd (i := a.toNatClampNeg) (w := 2) (by omega) (by omega))).put (v := 0) (PW.dd (i := a.toNatClampNeg) (w := 3) (by omega) (by omega))).ext (fun k h1 h2 f => ?_) (fun k h1 h2 f h3 => ?_)) ⟨fun s hs => ?_, fun d hd => ?_, fun d hd => ?_⟩ (fun d hd => ?_) (fun d h1 h2 => ?_) (fun i hi => ?_) (fun j => ?_) ?_
              · rw [eL k (by omega), q1]; (try simp only [gu, sX4_add_s, sX2_fill_s]); try grind
              · rw [pF]; have := q3 k f (by omega); (try simp only [gu, sX8_letDrum_s]); try grind
              · rw [pF, pF]; have := q3 62 (30 + 3 * s) (by omega); have := q3 62 (30 + 3 * s + 1) (by omega); have := hN.1 s hs; (try simp only [gu, sX8_letDrum_s]); try grind
              · rw [pF, pF]; have := q3 62 (14 + 4 * d + 1) (by omega); have := q3 62 (14 + 4 * d + 3) (by omega); have := hN.2.1 d hd; (try simp only [gu, sX8_letDrum_s]); try grind
              · rw [pF, pF]; have := q3 62 (14 + 4 * d) (by omega); have := q3 62 (14 + 4 * d + 3) (by omega); have := hN.2.2 d hd; (try simp only [gu, sX8_letDrum_s]); try grind
              · rw [pF]; have := q3 62 (14 + 4 * d + 1) (by omega); have := hM.2 d hd; (try simp only [gu, sX8_letDrum_s]); try grind
              · rw [eL _ (by omega), q1, pF]; have := q3 62 (14 + 4 * d + 3) (by omega); have := hZ.1 d h1 h2; (try simp only [gu, sX4_add_s, sX2_fill_s, sX8_letDrum_s]); try grind
              · rw [pF]; have := q3 62 i (by omega); (try simp only [gu, sX8_letDrum_s]); try grind
              · rw [pF]; have := q3 60 j (by omega); (try simp only [gu, sX8_letDrum_s]); try grind
              · rw [pF]; have := q3 62 5 (by omega); (try simp only [gu, sX8_letDrum_s]); try grind
            · obtain ⟨hk, hk2⟩ := hk
              refine hI.chg (fun j hj => by rw [pF]; have := q3 57 j (by omega); (try simp only [gu, sX8_letDrum_s]); try grind) (((((hR.put (v := σ.1 62 2 - n3) PW.s1).put (v := b) (PW.dd (i := a.toNatClampNeg) (w := 1) (by omega) (by omega))).put (v := n3) (PW.dd (i := a.toNatClampNeg) (w := 2) (by omega) (by omega))).put (v := 0) (PW.dd (i := a.toNatClampNeg) (w := 3) (by omega) (by omega))).ext (fun k h1 h2 f => ?_) (fun k h1 h2 f h3 => ?_)) ⟨fun s hs => ?_, fun d hd => ?_, fun d hd => ?_⟩ (fun d hd => ?_) (fun d h1 h2 => ?_) (fun i hi => ?_) (fun j => ?_) ?_
              · rw [eL k (by omega), q1]; (try simp only [gu, sX4_add_s, sX2_fill_s]); try grind
              · rw [pF]; have := q3 k f (by omega); (try simp only [gu, sX8_letDrum_s]); try grind
              · rw [pF, pF]; have := q3 62 (30 + 3 * s) (by omega); have := q3 62 (30 + 3 * s + 1) (by omega); have := hN.1 s hs; (try simp only [gu, sX8_letDrum_s]); try grind
              · rw [pF, pF]; have := q3 62 (14 + 4 * d + 1) (by omega); have := q3 62 (14 + 4 * d + 3) (by omega); have := hN.2.1 d hd; (try simp only [gu, sX8_letDrum_s]); try grind
              · rw [pF, pF]; have := q3 62 (14 + 4 * d) (by omega); have := q3 62 (14 + 4 * d + 3) (by omega); have := hN.2.2 d hd; (try simp only [gu, sX8_letDrum_s]); try grind
              · rw [pF]; have := q3 62 (14 + 4 * d + 1) (by omega); have := hM.2 d hd; (try simp only [gu, sX8_letDrum_s]); try grind
              · rw [eL _ (by omega), q1, pF]; have := q3 62 (14 + 4 * d + 3) (by omega); have := hZ.1 d h1 h2; (try simp only [gu, sX4_add_s, sX2_fill_s, sX8_letDrum_s]); try grind
              · rw [pF]; have := q3 62 i (by omega); (try simp only [gu, sX8_letDrum_s]); try grind
              · rw [pF]; have := q3 60 j (by omega); (try simp only [gu, sX8_letDrum_s]); try grind
              · rw [pF]; have := q3 62 5 (by omega); (try simp only [gu, sX8_letDrum_s]); try grind
          · skip
            have g5 : σ.1 62 (1 + b.toNatClampNeg) < n3 := Int32.not_le.mp c5
            have hT : sX7_load_t σ a b n3 = 2 := by simp [sX7_load_t, zv_num, zv_idx, w1, w2, w3, w4, t1, t2, t3, t4, zz, c1, d0, d1, c2, st, c3, c4, c5, g5]
            have hL : sL_load_s σ a b n3 = σ := by simp [sL_load_s, hT, sX7_load_s, zv_num, zv_idx, w1, w2, w3, w4, t1, t2, t3, t4, zz, c1, d0, d1, c2, st, c3, c4, c5, g5]
            have hr : sL_load_r σ a b n3 = 3 := by simp [sL_load_r, hT]
            have hF : sX8_load_s σ a b n3 = gu (gu σ 57 0 0) 57 0 3 := by simp [sX8_load_s, zv_in, gu_rd, u1, u2, u3, u4, z1, z2, z3, z4, sX8_isDrum_r, sX8_isSmuggler_r, sX8_fail_s, sX8_fail_r, sX8_dr_r, sX8_sm_r, zz, c1, d0, d1, c2, st, c3, c4, c5, g5]
            exact hI.fails hL (by rw [hL]; exact hF) hr (by decide)
        · skip
          have hT : sX7_load_t σ a b n3 = 2 := by simp [sX7_load_t, zv_num, zv_idx, w1, w2, w3, w4, t1, t2, t3, t4, zz, c1, d0, d1, c2, st, c3, c4]
          have hL : sL_load_s σ a b n3 = σ := by simp [sL_load_s, hT, sX7_load_s, zv_num, zv_idx, w1, w2, w3, w4, t1, t2, t3, t4, zz, c1, d0, d1, c2, st, c3, c4]
          have hr : sL_load_r σ a b n3 = 3 := by simp [sL_load_r, hT]
          have hF : sX8_load_s σ a b n3 = gu (gu σ 57 0 0) 57 0 3 := by simp [sX8_load_s, zv_in, gu_rd, u1, u2, u3, u4, z1, z2, z3, z4, sX8_isDrum_r, sX8_isSmuggler_r, sX8_fail_s, sX8_fail_r, sX8_dr_r, sX8_sm_r, zz, c1, d0, d1, c2, st, c3, c4]
          exact hI.fails hL (by rw [hL]; exact hF) hr (by decide)
      · skip
        have hT : sX7_load_t σ a b n3 = 1 := by simp [sX7_load_t, zv_num, zv_idx, w1, w2, w3, w4, t1, t2, t3, t4, zz, c1, d0, d1, c2, st, c3]
        have hL : sL_load_s σ a b n3 = σ := by simp [sL_load_s, hT, sX7_load_s, zv_num, zv_idx, w1, w2, w3, w4, t1, t2, t3, t4, zz, c1, d0, d1, c2, st, c3]
        have hr : sL_load_r σ a b n3 = 2 := by simp [sL_load_r, hT]
        have hF : sX8_load_s σ a b n3 = gu (gu σ 57 0 0) 57 0 2 := by simp [sX8_load_s, zv_in, gu_rd, u1, u2, u3, u4, z1, z2, z3, z4, sX8_isDrum_r, sX8_isSmuggler_r, sX8_fail_s, sX8_fail_r, sX8_dr_r, sX8_sm_r, zz, c1, d0, d1, c2, st, c3]
        exact hI.fails hL (by rw [hL]; exact hF) hr (by decide)
    · skip
      have hT : sX7_load_t σ a b n3 = 3 := by simp [sX7_load_t, zv_num, zv_idx, w1, w2, w3, w4, t1, t2, t3, t4, zz, c1, d0, d1, c2]
      have hL : sL_load_s σ a b n3 = σ := by simp [sL_load_s, hT, sX7_load_s, zv_num, zv_idx, w1, w2, w3, w4, t1, t2, t3, t4, zz, c1, d0, d1, c2]
      have hr : sL_load_r σ a b n3 = 1 := by simp [sL_load_r, hT]
      have hF : sX8_load_s σ a b n3 = gu (gu σ 57 0 0) 57 0 1 := by simp [sX8_load_s, zv_in, gu_rd, u1, u2, u3, u4, z1, z2, z3, z4, sX8_isDrum_r, sX8_isSmuggler_r, sX8_fail_s, sX8_fail_r, sX8_dr_r, sX8_sm_r, zz, c1, d0, d1, c2]
      exact hI.fails hL (by rw [hL]; exact hF) hr (by decide)
  · skip
    have hT : sX7_load_t σ a b n3 = 3 := by simp [sX7_load_t, zv_num, zv_idx, w1, w2, w3, w4, t1, t2, t3, t4, zz, c1]
    have hL : sL_load_s σ a b n3 = σ := by simp [sL_load_s, hT, sX7_load_s, zv_num, zv_idx, w1, w2, w3, w4, t1, t2, t3, t4, zz, c1]
    have hr : sL_load_r σ a b n3 = 1 := by simp [sL_load_r, hT]
    have hF : sX8_load_s σ a b n3 = gu (gu σ 57 0 0) 57 0 1 := by simp [sX8_load_s, zv_in, gu_rd, u1, u2, u3, u4, z1, z2, z3, z4, sX8_isDrum_r, sX8_isSmuggler_r, sX8_fail_s, sX8_fail_r, sX8_dr_r, sX8_sm_r, zz, c1]
    exact hI.fails hL (by rw [hL]; exact hF) hr (by decide)
set_option maxHeartbeats 2000000 in
theorem okv_take : ok_take IV := by
  intro n σ a hn hI
  have hM := hI.1.2.2.1
  have hR := hI.1.1
  have hN := hI.1.2.1
  have hZ := hI.2.1
  have u1 := hM.eq 1 (by omega) (by omega)
  have u2 := hM.eq 2 (by omega) (by omega)
  have u3 := hM.eq 3 (by omega) (by omega)
  have u4 := hM.eq 4 (by omega) (by omega)
  have w1 : σ.1 1 5 = nI (mB σ 1) := (hR.cnt 1 (by omega) (by omega)).trans u1
  have w2 : σ.1 1 6 = nI (mB σ 2) := (hR.cnt 2 (by omega) (by omega)).trans u2
  have w3 : σ.1 1 7 = nI (mB σ 3) := (hR.cnt 3 (by omega) (by omega)).trans u3
  have w4 : σ.1 1 8 = nI (mB σ 4) := (hR.cnt 4 (by omega) (by omega)).trans u4
  have l1 := hM.le1
  have l2 := hM.le2
  have l3 := hM.le3
  have l4 := hM.le4
  have z1 := zv_pred (k := mB σ 1) (by omega)
  have z2 := zv_pred (k := mB σ 2) (by omega)
  have z3 := zv_pred (k := mB σ 3) (by omega)
  have z4 := zv_pred (k := mB σ 4) (by omega)
  have t1 : tB σ 1 5 = mB σ 1 := hI.1.cnt (q := 1) (by omega) (by omega)
  have t2 : tB σ 1 6 = mB σ 2 := hI.1.cnt (q := 2) (by omega) (by omega)
  have t3 : tB σ 1 7 = mB σ 3 := hI.1.cnt (q := 3) (by omega) (by omega)
  have t4 : tB σ 1 8 = mB σ 4 := hI.1.cnt (q := 4) (by omega) (by omega)
  by_cases c1 : 0 ≤ a ∧ a < nI (mB σ 2)
  · skip
    have hi : a.toNatClampNeg < mB σ 2 := zv_clamp (by omega) c1
    have d1 : σ.1 (11 + a.toNatClampNeg) 2 = σ.1 62 (14 + 4 * a.toNatClampNeg + 1) := hR.dd a.toNatClampNeg 1 (by omega) (by omega) (by omega)
    by_cases c2 : ¬ σ.1 62 (14 + 4 * a.toNatClampNeg + 1) = -1
    · skip
      have hT : sX7_take_t σ a = 0 := by simp [sX7_take_t, zv_num, zv_idx, w1, w2, w3, w4, t1, t2, t3, t4, c1, d1, c2]
      have hr : sL_take_r σ a = 0 := by simp [sL_take_r, hT]
      have hS : sX7_take_s σ a = (let S1 := sX4_addRoasted_s σ 6 (σ.1 (1 + 10 + (a.toNatClampNeg)) 2) (sX2_partsAt_r σ (1 + 10 + (a.toNatClampNeg)) (σ.1 (1 + 10 + (a.toNatClampNeg)) 4)); let S2 := sX2_fill_s S1 (1 + 10 + (a.toNatClampNeg)) (-1 : Int32) (0 : Int32); S2) := by simp [sX7_take_s, zv_num, zv_idx, w1, w2, w3, w4, t1, t2, t3, t4, c1, d1, c2]
      have hA : sX7_take_r σ a = (sX2_partsAt_r σ (1 + 10 + (a.toNatClampNeg)) (σ.1 (1 + 10 + (a.toNatClampNeg)) 4)) := by simp [sX7_take_r, zv_num, zv_idx, w1, w2, w3, w4, t1, t2, t3, t4, c1, d1, c2]
      have hL : sL_take_s σ a = go (sX7_take_s σ a) (vp_updL (sX7_take_s σ a).2 0 (Int32.toInt64 (sX7_take_r σ a))) := by rw [sL_take_s, if_pos hT]
      have q1 : ∀ k f, (sL_take_s σ a).1 k f = (let S1 := sX4_addRoasted_s σ 6 (σ.1 (1 + 10 + (a.toNatClampNeg)) 2) (sX2_partsAt_r σ (1 + 10 + (a.toNatClampNeg)) (σ.1 (1 + 10 + (a.toNatClampNeg)) 4)); let S2 := sX2_fill_s S1 (1 + 10 + (a.toNatClampNeg)) (-1 : Int32) (0 : Int32); S2).1 k f := fun k f => by rw [hL, hS]; rfl
      have q2 : (sL_take_s σ a).2 0 = Int32.toInt64 (sX7_take_r σ a) := by rw [hL]; exact go_out _ _
      rw [hA] at q2
      generalize sL_take_s σ a = τ at q1 q2 ⊢
      try dsimp only at q1 q2
      have q3 : ∀ k f, 57 ≤ k → τ.1 k f = σ.1 k f := fun k f hk => by rw [q1]; (try simp only [gu, sX4_addRoasted_s, sX2_fill_s]); try grind
      have tM : mOK τ := hM.cls (fun k hk f => q3 k f hk)
      have m1 : mB τ 1 = mB σ 1 := mB_of (q3 _ _ (by omega))
      have m2 : mB τ 2 = mB σ 2 := mB_of (q3 _ _ (by omega))
      have m3 : mB τ 3 = mB σ 3 := mB_of (q3 _ _ (by omega))
      have m4 : mB τ 4 = mB σ 4 := mB_of (q3 _ _ (by omega))
      have hF : sX8_take_s τ a = (let S1 := gu τ 57 0 (0 : Int32); let S2 := gu S1 62 (3 + (sX8_dr_r S1 (a.toNatClampNeg) 1).toNatClampNeg) ((S1.1 62 (3 + (sX8_dr_r S1 (a.toNatClampNeg) 1).toNatClampNeg)) + (sX8_yieldOf_r S1 a.toNatClampNeg)); let S3 := sX8_letDrum_s S2 a.toNatClampNeg 1 (-1 : Int32); let S4 := sX8_letDrum_s S3 a.toNatClampNeg 2 (0 : Int32); let S5 := sX8_letDrum_s S4 a.toNatClampNeg 3 (0 : Int32); S5) := by simp [sX8_take_s, zv_in, gu_rd, u1, u2, u3, u4, z1, z2, z3, z4, sX8_isDrum_r, sX8_isSmuggler_r, sX8_fail_s, sX8_fail_r, sX8_dr_r, sX8_sm_r, q3, c1, d1, c2]
      have hB : sX8_take_r τ a = (let S1 := gu τ 57 0 (0 : Int32); sX8_yieldOf_r S1 a.toNatClampNeg) := by simp [sX8_take_r, zv_in, gu_rd, u1, u2, u3, u4, z1, z2, z3, z4, sX8_isDrum_r, sX8_isSmuggler_r, sX8_fail_s, sX8_fail_r, sX8_dr_r, sX8_sm_r, q3, c1, d1, c2]
      have pF : ∀ k f, (sX8_take_s τ a).1 k f = ((let S1 := gu τ 57 0 (0 : Int32); let S2 := gu S1 62 (3 + (sX8_dr_r S1 (a.toNatClampNeg) 1).toNatClampNeg) ((S1.1 62 (3 + (sX8_dr_r S1 (a.toNatClampNeg) 1).toNatClampNeg)) + (sX8_yieldOf_r S1 a.toNatClampNeg)); let S3 := sX8_letDrum_s S2 a.toNatClampNeg 1 (-1 : Int32); let S4 := sX8_letDrum_s S3 a.toNatClampNeg 2 (0 : Int32); let S5 := sX8_letDrum_s S4 a.toNatClampNeg 3 (0 : Int32); S5)).1 k f := fun k f => by rw [hF]
      have pF2 : (sX8_take_s τ a).2 = τ.2 := by rw [hF]; rfl
      rw [hB, hr]
      generalize sX8_take_s τ a = F at pF pF2 ⊢
      try dsimp only at pF ⊢
      try simp only [t1, t2, t3, t4] at q1 q2
      try simp only [m1, m2, m3, m4] at pF ⊢
      have x1 := q3 62 3 (by omega)
      have x2 := q3 62 4 (by omega)
      have x3 : σ.1 6 2 = σ.1 62 3 := hR.s2
      have x4 : σ.1 6 3 = σ.1 62 4 := hR.s3
      have x5 := q3 62 (14 + 4 * a.toNatClampNeg + 1) (by omega)
      have hy : sX2_partsAt_r σ (1 + 10 + a.toNatClampNeg) (σ.1 (1 + 10 + a.toNatClampNeg) 4) = sX8_yieldOf_r σ a.toNatClampNeg := hI.1.yield (by omega) (by omega)
      have hy2 : sX8_yieldOf_r (gu τ 57 0 0) a.toNatClampNeg = sX8_yieldOf_r σ a.toNatClampNeg := yieldOf_of (fun f => by have := q3 62 f (by omega); (try simp only [gu]); try grind)
      try rw [hy] at q2
      try simp only [hy] at q1
      try simp only [hy2] at pF
      try rw [hy2]
      have d1' : σ.1 (1 + 10 + a.toNatClampNeg) 2 = σ.1 62 (14 + 4 * a.toNatClampNeg + 1) := d1
      have ha : (σ.1 62 (14 + 4 * a.toNatClampNeg + 1) = 0 ∧ (σ.1 62 (14 + 4 * a.toNatClampNeg + 1)).toNatClampNeg = 0) ∨ (σ.1 62 (14 + 4 * a.toNatClampNeg + 1) = 1 ∧ (σ.1 62 (14 + 4 * a.toNatClampNeg + 1)).toNatClampNeg = 1) := by
        rcases hM.2 a.toNatClampNeg (by omega) with h | h | h
        · exact absurd h c2
        · exact Or.inl ⟨h, by rw [h]; rfl⟩
        · exact Or.inr ⟨h, by rw [h]; rfl⟩
      refine ⟨hI.1.tOK1, tM, by rw [pF]; (try simp only [gu, sX8_letDrum_s, sX8_dr_r]); try grind, fun _ => by rw [pF2, q2]; try congr 1; (try simp only [gu, sX4_addRoasted_s, sX2_fill_s, sX8_letDrum_s, sX8_dr_r]); try grind, ?_⟩
      have eL : ∀ k, k < 57 → ∀ f, F.1 k f = τ.1 k f := fun k hk f => by rw [pF]; (try simp only [gu, sX8_letDrum_s, sX8_dr_r]); try grind
      rcases ha with hk | hk
      · obtain ⟨hk, hk2⟩ := hk
        refine hI.chg (fun j hj => by rw [pF]; have := q3 57 j (by omega); (try simp only [gu, sX8_letDrum_s, sX8_dr_r]); try grind) (((((hR.put (v := σ.1 62 3 + sX8_yieldOf_r σ a.toNatClampNeg) PW.s2).put (v := -1) (PW.dd (i := a.toNatClampNeg) (w := 1) (by omega) (by omega))).put (v := 0) (PW.dd (i := a.toNatClampNeg) (w := 2) (by omega) (by omega))).put (v := 0) (PW.dd (i := a.toNatClampNeg) (w := 3) (by omega) (by omega))).ext (fun k h1 h2 f => ?_) (fun k h1 h2 f h3 => ?_)) ⟨fun s hs => ?_, fun d hd => ?_, fun d hd => ?_⟩ (fun d hd => ?_) (fun d h1 h2 => ?_) (fun i hi => ?_) (fun j => ?_) ?_
        · rw [eL k (by omega), q1]; (try simp only [gu, sX4_addRoasted_s, sX2_fill_s]); try grind
        · rw [pF]; have := q3 k f (by omega); (try simp only [gu, sX8_letDrum_s, sX8_dr_r]); try grind
        · rw [pF, pF]; have := q3 62 (30 + 3 * s) (by omega); have := q3 62 (30 + 3 * s + 1) (by omega); have := hN.1 s hs; (try simp only [gu, sX8_letDrum_s, sX8_dr_r]); try grind
        · rw [pF, pF]; have := q3 62 (14 + 4 * d + 1) (by omega); have := q3 62 (14 + 4 * d + 3) (by omega); have := hN.2.1 d hd; (try simp only [gu, sX8_letDrum_s, sX8_dr_r]); try grind
        · rw [pF, pF]; have := q3 62 (14 + 4 * d) (by omega); have := q3 62 (14 + 4 * d + 3) (by omega); have := hN.2.2 d hd; (try simp only [gu, sX8_letDrum_s, sX8_dr_r]); try grind
        · rw [pF]; have := q3 62 (14 + 4 * d + 1) (by omega); have := hM.2 d hd; (try simp only [gu, sX8_letDrum_s, sX8_dr_r]); try grind
        · rw [eL _ (by omega), q1, pF]; have := q3 62 (14 + 4 * d + 3) (by omega); have := hZ.1 d h1 h2; (try simp only [gu, sX4_addRoasted_s, sX2_fill_s, sX8_letDrum_s, sX8_dr_r]); try grind
        · rw [pF]; have := q3 62 i (by omega); (try simp only [gu, sX8_letDrum_s, sX8_dr_r]); try grind
        · rw [pF]; have := q3 60 j (by omega); (try simp only [gu, sX8_letDrum_s, sX8_dr_r]); try grind
        · rw [pF]; have := q3 62 5 (by omega); (try simp only [gu, sX8_letDrum_s, sX8_dr_r]); try grind
      · obtain ⟨hk, hk2⟩ := hk
        refine hI.chg (fun j hj => by rw [pF]; have := q3 57 j (by omega); (try simp only [gu, sX8_letDrum_s, sX8_dr_r]); try grind) (((((hR.put (v := σ.1 62 4 + sX8_yieldOf_r σ a.toNatClampNeg) PW.s3).put (v := -1) (PW.dd (i := a.toNatClampNeg) (w := 1) (by omega) (by omega))).put (v := 0) (PW.dd (i := a.toNatClampNeg) (w := 2) (by omega) (by omega))).put (v := 0) (PW.dd (i := a.toNatClampNeg) (w := 3) (by omega) (by omega))).ext (fun k h1 h2 f => ?_) (fun k h1 h2 f h3 => ?_)) ⟨fun s hs => ?_, fun d hd => ?_, fun d hd => ?_⟩ (fun d hd => ?_) (fun d h1 h2 => ?_) (fun i hi => ?_) (fun j => ?_) ?_
        · rw [eL k (by omega), q1]; (try simp only [gu, sX4_addRoasted_s, sX2_fill_s]); try grind
        · rw [pF]; have := q3 k f (by omega); (try simp only [gu, sX8_letDrum_s, sX8_dr_r]); try grind
        · rw [pF, pF]; have := q3 62 (30 + 3 * s) (by omega); have := q3 62 (30 + 3 * s + 1) (by omega); have := hN.1 s hs; (try simp only [gu, sX8_letDrum_s, sX8_dr_r]); try grind
        · rw [pF, pF]; have := q3 62 (14 + 4 * d + 1) (by omega); have := q3 62 (14 + 4 * d + 3) (by omega); have := hN.2.1 d hd; (try simp only [gu, sX8_letDrum_s, sX8_dr_r]); try grind
        · rw [pF, pF]; have := q3 62 (14 + 4 * d) (by omega); have := q3 62 (14 + 4 * d + 3) (by omega); have := hN.2.2 d hd; (try simp only [gu, sX8_letDrum_s, sX8_dr_r]); try grind
        · rw [pF]; have := q3 62 (14 + 4 * d + 1) (by omega); have := hM.2 d hd; (try simp only [gu, sX8_letDrum_s, sX8_dr_r]); try grind
        · rw [eL _ (by omega), q1, pF]; have := q3 62 (14 + 4 * d + 3) (by omega); have := hZ.1 d h1 h2; (try simp only [gu, sX4_addRoasted_s, sX2_fill_s, sX8_letDrum_s, sX8_dr_r]); try grind
        · rw [pF]; have := q3 62 i (by omega); (try simp only [gu, sX8_letDrum_s, sX8_dr_r]); try grind
        · rw [pF]; have := q3 60 j (by omega); (try simp only [gu, sX8_letDrum_s, sX8_dr_r]); try grind
        · rw [pF]; have := q3 62 5 (by omega); (try simp only [gu, sX8_letDrum_s, sX8_dr_r]); try grind
    · skip
      have g2 := Decidable.not_not.mp c2
      have hT : sX7_take_t σ a = 2 := by simp [sX7_take_t, zv_num, zv_idx, w1, w2, w3, w4, t1, t2, t3, t4, c1, d1, c2, g2]
      have hL : sL_take_s σ a = σ := by simp [sL_take_s, hT, sX7_take_s, zv_num, zv_idx, w1, w2, w3, w4, t1, t2, t3, t4, c1, d1, c2, g2]
      have hr : sL_take_r σ a = 2 := by simp [sL_take_r, hT]
      have hF : sX8_take_s σ a = gu (gu σ 57 0 0) 57 0 2 := by simp [sX8_take_s, zv_in, gu_rd, u1, u2, u3, u4, z1, z2, z3, z4, sX8_isDrum_r, sX8_isSmuggler_r, sX8_fail_s, sX8_fail_r, sX8_dr_r, sX8_sm_r, c1, d1, c2, g2]
      exact hI.fails hL (by rw [hL]; exact hF) hr (by decide)
  · skip
    have hT : sX7_take_t σ a = 3 := by simp [sX7_take_t, zv_num, zv_idx, w1, w2, w3, w4, t1, t2, t3, t4, c1]
    have hL : sL_take_s σ a = σ := by simp [sL_take_s, hT, sX7_take_s, zv_num, zv_idx, w1, w2, w3, w4, t1, t2, t3, t4, c1]
    have hr : sL_take_r σ a = 1 := by simp [sL_take_r, hT]
    have hF : sX8_take_s σ a = gu (gu σ 57 0 0) 57 0 1 := by simp [sX8_take_s, zv_in, gu_rd, u1, u2, u3, u4, z1, z2, z3, z4, sX8_isDrum_r, sX8_isSmuggler_r, sX8_fail_s, sX8_fail_r, sX8_dr_r, sX8_sm_r, c1]
    exact hI.fails hL (by rw [hL]; exact hF) hr (by decide)
set_option maxHeartbeats 2000000 in
theorem okv_send : ok_send IV := by
  intro n σ a hn hI
  have hM := hI.1.2.2.1
  have hR := hI.1.1
  have hN := hI.1.2.1
  have hZ := hI.2.1
  have u1 := hM.eq 1 (by omega) (by omega)
  have u2 := hM.eq 2 (by omega) (by omega)
  have u3 := hM.eq 3 (by omega) (by omega)
  have u4 := hM.eq 4 (by omega) (by omega)
  have w1 : σ.1 1 5 = nI (mB σ 1) := (hR.cnt 1 (by omega) (by omega)).trans u1
  have w2 : σ.1 1 6 = nI (mB σ 2) := (hR.cnt 2 (by omega) (by omega)).trans u2
  have w3 : σ.1 1 7 = nI (mB σ 3) := (hR.cnt 3 (by omega) (by omega)).trans u3
  have w4 : σ.1 1 8 = nI (mB σ 4) := (hR.cnt 4 (by omega) (by omega)).trans u4
  have l1 := hM.le1
  have l2 := hM.le2
  have l3 := hM.le3
  have l4 := hM.le4
  have z1 := zv_pred (k := mB σ 1) (by omega)
  have z2 := zv_pred (k := mB σ 2) (by omega)
  have z3 := zv_pred (k := mB σ 3) (by omega)
  have z4 := zv_pred (k := mB σ 4) (by omega)
  have t1 : tB σ 1 5 = mB σ 1 := hI.1.cnt (q := 1) (by omega) (by omega)
  have t2 : tB σ 1 6 = mB σ 2 := hI.1.cnt (q := 2) (by omega) (by omega)
  have t3 : tB σ 1 7 = mB σ 3 := hI.1.cnt (q := 3) (by omega) (by omega)
  have t4 : tB σ 1 8 = mB σ 4 := hI.1.cnt (q := 4) (by omega) (by omega)
  by_cases c1 : 0 ≤ a ∧ a < nI (mB σ 3)
  · skip
    have hi : a.toNatClampNeg < mB σ 3 := zv_clamp (by omega) c1
    have d1 : σ.1 (15 + a.toNatClampNeg) 2 = σ.1 62 (30 + 3 * a.toNatClampNeg) := hR.sd a.toNatClampNeg 0 (by omega) (by omega)
    by_cases c2 : σ.1 62 (30 + 3 * a.toNatClampNeg) = 0
    · skip
      have hT : sX7_send_t σ a = 0 := by simp [sX7_send_t, zv_num, zv_idx, w1, w2, w3, w4, t1, t2, t3, t4, c1, d1, c2]
      have hr : sL_send_r σ a = 0 := by simp [sL_send_r, hT]
      have hS : sX7_send_s σ a = (let S1 := sX3_setOut_s σ (1 + 14 + (a.toNatClampNeg)); S1) := by simp [sX7_send_s, zv_num, zv_idx, w1, w2, w3, w4, t1, t2, t3, t4, c1, d1, c2]
      have hA : sX7_send_r σ a = (let S1 := sX3_setOut_s σ (1 + 14 + (a.toNatClampNeg)); S1.1 (1 + 14 + (a.toNatClampNeg)) 3) := by simp [sX7_send_r, zv_num, zv_idx, w1, w2, w3, w4, t1, t2, t3, t4, c1, d1, c2]
      have hL : sL_send_s σ a = go (sX7_send_s σ a) (vp_updL (sX7_send_s σ a).2 0 (Int32.toInt64 (sX7_send_r σ a))) := by rw [sL_send_s, if_pos hT]
      have q1 : ∀ k f, (sL_send_s σ a).1 k f = (let S1 := sX3_setOut_s σ (1 + 14 + (a.toNatClampNeg)); S1).1 k f := fun k f => by rw [hL, hS]; rfl
      have q2 : (sL_send_s σ a).2 0 = Int32.toInt64 (sX7_send_r σ a) := by rw [hL]; exact go_out _ _
      rw [hA] at q2
      generalize sL_send_s σ a = τ at q1 q2 ⊢
      try dsimp only at q1 q2
      have q3 : ∀ k f, 57 ≤ k → τ.1 k f = σ.1 k f := fun k f hk => by rw [q1]; (try simp only [gu, sX3_setOut_s]); try grind
      have tM : mOK τ := hM.cls (fun k hk f => q3 k f hk)
      have m1 : mB τ 1 = mB σ 1 := mB_of (q3 _ _ (by omega))
      have m2 : mB τ 2 = mB σ 2 := mB_of (q3 _ _ (by omega))
      have m3 : mB τ 3 = mB σ 3 := mB_of (q3 _ _ (by omega))
      have m4 : mB τ 4 = mB σ 4 := mB_of (q3 _ _ (by omega))
      have hF : sX8_send_s τ a = (let S1 := gu τ 57 0 (0 : Int32); let S2 := sX8_letSmuggler_s S1 a.toNatClampNeg (1 : Int32) (S1.1 60 (2 * a.toNatClampNeg)); S2) := by simp [sX8_send_s, zv_in, gu_rd, u1, u2, u3, u4, z1, z2, z3, z4, sX8_isDrum_r, sX8_isSmuggler_r, sX8_fail_s, sX8_fail_r, sX8_dr_r, sX8_sm_r, q3, c1, d1, c2]
      have hB : sX8_send_r τ a = (let S1 := gu τ 57 0 (0 : Int32); let S2 := sX8_letSmuggler_s S1 a.toNatClampNeg (1 : Int32) (S1.1 60 (2 * a.toNatClampNeg)); sX8_sm_r S2 a.toNatClampNeg 1) := by simp [sX8_send_r, zv_in, gu_rd, u1, u2, u3, u4, z1, z2, z3, z4, sX8_isDrum_r, sX8_isSmuggler_r, sX8_fail_s, sX8_fail_r, sX8_dr_r, sX8_sm_r, q3, c1, d1, c2]
      have pF : ∀ k f, (sX8_send_s τ a).1 k f = ((let S1 := gu τ 57 0 (0 : Int32); let S2 := sX8_letSmuggler_s S1 a.toNatClampNeg (1 : Int32) (S1.1 60 (2 * a.toNatClampNeg)); S2)).1 k f := fun k f => by rw [hF]
      have pF2 : (sX8_send_s τ a).2 = τ.2 := by rw [hF]; rfl
      rw [hB, hr]
      generalize sX8_send_s τ a = F at pF pF2 ⊢
      try dsimp only at pF ⊢
      try simp only [t1, t2, t3, t4] at q1 q2
      try simp only [m1, m2, m3, m4] at pF ⊢
      have x1 := q3 60 (2 * a.toNatClampNeg) (by omega)
      have x2 := hR.st a.toNatClampNeg 0 (by omega) (by omega)
      have x3 := hZ.2.2 a.toNatClampNeg (by omega)
      refine ⟨hI.1.tOK1, tM, by rw [pF]; (try simp only [gu, sX8_letSmuggler_s, sX8_sm_r]); try grind, fun _ => by rw [pF2, q2]; try congr 1; (try simp only [gu, sX3_setOut_s, sX8_letSmuggler_s, sX8_sm_r]); try grind, ?_⟩
      have eL : ∀ k, k < 57 → ∀ f, F.1 k f = τ.1 k f := fun k hk f => by rw [pF]; (try simp only [gu, sX8_letSmuggler_s, sX8_sm_r]); try grind
      refine hI.chg (fun j hj => by rw [pF]; have := q3 57 j (by omega); (try simp only [gu, sX8_letSmuggler_s, sX8_sm_r]); try grind) (((hR.put (v := 1) (PW.sd (i := a.toNatClampNeg) (w := 0) (by omega) (by omega))).put (v := σ.1 60 (2 * a.toNatClampNeg)) (PW.sd (i := a.toNatClampNeg) (w := 1) (by omega) (by omega))).ext (fun k h1 h2 f => ?_) (fun k h1 h2 f h3 => ?_)) ⟨fun s hs => ?_, fun d hd => ?_, fun d hd => ?_⟩ (fun d hd => ?_) (fun d h1 h2 => ?_) (fun i hi => ?_) (fun j => ?_) ?_
      · rw [eL k (by omega), q1]; (try simp only [gu, sX3_setOut_s]); try grind
      · rw [pF]; have := q3 k f (by omega); (try simp only [gu, sX8_letSmuggler_s, sX8_sm_r]); try grind
      · rw [pF, pF]; have := q3 62 (30 + 3 * s) (by omega); have := q3 62 (30 + 3 * s + 1) (by omega); have := hN.1 s hs; (try simp only [gu, sX8_letSmuggler_s, sX8_sm_r]); try grind
      · rw [pF, pF]; have := q3 62 (14 + 4 * d + 1) (by omega); have := q3 62 (14 + 4 * d + 3) (by omega); have := hN.2.1 d hd; (try simp only [gu, sX8_letSmuggler_s, sX8_sm_r]); try grind
      · rw [pF, pF]; have := q3 62 (14 + 4 * d) (by omega); have := q3 62 (14 + 4 * d + 3) (by omega); have := hN.2.2 d hd; (try simp only [gu, sX8_letSmuggler_s, sX8_sm_r]); try grind
      · rw [pF]; have := q3 62 (14 + 4 * d + 1) (by omega); have := hM.2 d hd; (try simp only [gu, sX8_letSmuggler_s, sX8_sm_r]); try grind
      · rw [eL _ (by omega), q1, pF]; have := q3 62 (14 + 4 * d + 3) (by omega); have := hZ.1 d h1 h2; (try simp only [gu, sX3_setOut_s, sX8_letSmuggler_s, sX8_sm_r]); try grind
      · rw [pF]; have := q3 62 i (by omega); (try simp only [gu, sX8_letSmuggler_s, sX8_sm_r]); try grind
      · rw [pF]; have := q3 60 j (by omega); (try simp only [gu, sX8_letSmuggler_s, sX8_sm_r]); try grind
      · rw [pF]; have := q3 62 5 (by omega); (try simp only [gu, sX8_letSmuggler_s, sX8_sm_r]); try grind
    · skip
      have hT : sX7_send_t σ a = 2 := by simp [sX7_send_t, zv_num, zv_idx, w1, w2, w3, w4, t1, t2, t3, t4, c1, d1, c2]
      have hL : sL_send_s σ a = σ := by simp [sL_send_s, hT, sX7_send_s, zv_num, zv_idx, w1, w2, w3, w4, t1, t2, t3, t4, c1, d1, c2]
      have hr : sL_send_r σ a = 2 := by simp [sL_send_r, hT]
      have hF : sX8_send_s σ a = gu (gu σ 57 0 0) 57 0 2 := by simp [sX8_send_s, zv_in, gu_rd, u1, u2, u3, u4, z1, z2, z3, z4, sX8_isDrum_r, sX8_isSmuggler_r, sX8_fail_s, sX8_fail_r, sX8_dr_r, sX8_sm_r, c1, d1, c2]
      exact hI.fails hL (by rw [hL]; exact hF) hr (by decide)
  · skip
    have hT : sX7_send_t σ a = 3 := by simp [sX7_send_t, zv_num, zv_idx, w1, w2, w3, w4, t1, t2, t3, t4, c1]
    have hL : sL_send_s σ a = σ := by simp [sL_send_s, hT, sX7_send_s, zv_num, zv_idx, w1, w2, w3, w4, t1, t2, t3, t4, c1]
    have hr : sL_send_r σ a = 1 := by simp [sL_send_r, hT]
    have hF : sX8_send_s σ a = gu (gu σ 57 0 0) 57 0 1 := by simp [sX8_send_s, zv_in, gu_rd, u1, u2, u3, u4, z1, z2, z3, z4, sX8_isDrum_r, sX8_isSmuggler_r, sX8_fail_s, sX8_fail_r, sX8_dr_r, sX8_sm_r, c1]
    exact hI.fails hL (by rw [hL]; exact hF) hr (by decide)
