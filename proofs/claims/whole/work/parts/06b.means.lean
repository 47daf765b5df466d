def sX7_mean_r (σ : gS) : UInt64 := if σ.1 1 8 = 0 then (FP.dconst0) else (FP.ddiv (FP.i2d (σ.1 6 5)) (FP.i2d (σ.1 1 8)))
set_option maxRecDepth 100000 in
set_option maxHeartbeats 4000000 in
theorem kX7_mean (l : Launch) (E : gT) (σ : gS) : gMd l yX7_mean wsX7_mean ({ frames := 0, cells := 0, slots := 0, locals := 0 }) 0 0 E σ [.ref (E.2.2 0)] (sX7_mean_r σ) σ := by
  refine g_metD (mc := 0) (ms := 0) (nL := 1) (ret := (some .double)) (by decide) rfl (lv := [(0, .ref (E.2.2 0))]) rfl (Nat.le_of_ble_eq_true rfl) ?_
  intro p e s m below meth c S0 hr hlocks hC hd0
  have S := gS_dr S0 s.drawn
  have hC := hC.dr s.drawn
  have hiX4 : ∀ w ∈ wsX40, w ∈ wsX7_mean := by decide +kernel
  have hiX6 : ∀ w ∈ wsX60, w ∈ wsX7_mean := by decide +kernel
  have hiX7 : ∀ w ∈ wsX70, w ∈ wsX7_mean := by decide +kernel
  refine g_aload_n S 0 dX7_mean_0 rfl ?_
  refine gg6 S hC hiX7 0 (by decide) (by decide +kernel) dX7_mean_1 ?_
  refine gg5 S hC hiX6 (by decide) rfl 8 (by decide) (by decide +kernel) dX7_mean_4 ?_
  refine g_if_ne S 12 dX7_mean_7 (by decide) (fun c_1 => ?_) (fun c_1 => ?_)
  · skip
    refine g_aload_n S 0 dX7_mean_12 rfl ?_
    refine gg6 S hC hiX7 0 (by decide) (by decide +kernel) dX7_mean_13 ?_
    refine gg5r S hC hiX6 (by decide) rfl 4 (by decide) (by decide +kernel) dX7_mean_16 ?_
    refine gg4 S hC hiX4 (by decide) rfl 5 (by decide) (by decide +kernel) dX7_mean_19 ?_
    refine g_i2d S dX7_mean_22 ?_
    refine g_aload_n S 0 dX7_mean_23 rfl ?_
    refine gg6 S hC hiX7 0 (by decide) (by decide +kernel) dX7_mean_24 ?_
    refine gg5 S hC hiX6 (by decide) rfl 8 (by decide) (by decide +kernel) dX7_mean_27 ?_
    refine g_i2d S dX7_mean_30 ?_
    refine g_ddiv hd0 S0 dX7_mean_31 (fun r d1 hal hd1 => ?_)
    exact g_dret hd1 S0 hr hlocks dX7_mean_32 (by rw [← show FP.ddiv (FP.i2d (σ.1 6 5)) (FP.i2d (σ.1 1 8)) = sX7_mean_r σ from (by rw [sX7_mean_r, if_neg c_1])]; exact hal) rfl (Nat.le_of_ble_eq_true rfl) (Nat.le_of_ble_eq_true rfl)
  · skip
    refine g_dconst S dX7_mean_10 ?_
    exact g_dret hd0 S0 hr hlocks dX7_mean_11 (by rw [← show FP.dconst0 = sX7_mean_r σ from (by rw [sX7_mean_r, if_pos c_1])]; exact alike64_refl _) rfl (Nat.le_of_ble_eq_true rfl) (Nat.le_of_ble_eq_true rfl)
def stX8_mean_9 (σ : gS) (j : Nat) (τ : Int32) : Int32 := τ + (sX8_ca_r σ j 1)
def sX8_mean_r (σ : gS) : UInt64 := let S1 := gu σ 57 0 (0 : Int32); let D2 := itr (stX8_mean_9 S1) (mB σ 4) (0 : Int32); if S1.1 57 4 = 0 then (FP.dconst0) else (FP.ddiv (FP.i2d D2) (FP.i2d (S1.1 57 4)))
def sX8_mean_s (σ : gS) : gS := let S1 := gu σ 57 0 (0 : Int32); if S1.1 57 4 = 0 then (S1) else (S1)
theorem fX8_mean (σ : gS) (x : Nat) (hx57 : x ≠ 57) : (sX8_mean_s σ).1 x = σ.1 x := by
  unfold sX8_mean_s
  (try dsimp only)
  (repeat' split)
  all_goals (simp [gu_ne, gcp, *])
set_option maxRecDepth 100000 in
set_option maxHeartbeats 4000000 in
theorem kX8_mean (l : Launch) (E : gT) (σ : gS) (hok : mOK σ) : gMd l yX8_mean wsX8_mean ({ frames := 1, cells := 0, slots := 0, locals := 22 }) 0 0 E σ [.ref (E.2.2 57)] (sX8_mean_r σ) (sX8_mean_s σ) := by
  refine g_metD (mc := 0) (ms := 0) (nL := 3) (ret := (some .double)) (by decide) rfl (lv := [(0, .ref (E.2.2 57))]) rfl (Nat.le_of_ble_eq_true rfl) ?_
  intro p e s m below meth c S0 hr hlocks hC hd0
  have S := gS_dr S0 s.drawn
  have hC := hC.dr s.drawn
  have hiX8 : ∀ w ∈ wsX80, w ∈ wsX8_mean := by decide +kernel
  refine g_aload_n S 0 dX8_mean_0 rfl ?_
  refine g_const S dX8_mean_1 (v := 0) rfl ?_
  refine gp7 S hC hiX8 (by decide) rfl 0 (by decide) (by decide +kernel) dX8_mean_2 ?_
  refine g_nm (fun S1 hS1 => ?_)
  have kqS1 := kq_p0 hS1 (kq_0)
  have okS1 := mOK.p0 hS1 (hok)
  refine g_const S dX8_mean_5 (v := 0) rfl ?_
  refine g_istore_n S [(1, .int (0 : Int32)), (0, .ref (E.2.2 57))] dX8_mean_6 (by decide) rfl ?_
  refine g_const S dX8_mean_7 (v := 0) rfl ?_
  refine g_istore_n S [(2, .int (0 : Int32)), (1, .int (0 : Int32)), (0, .ref (E.2.2 57))] dX8_mean_8 (by decide) rfl ?_
  refine g_lvs [0, 1, 2] (lv' := [(2, .int (0 : Int32)), (1, .int (0 : Int32)), (0, .ref (E.2.2 57))]) rfl ?_
  have hle := hok.le4
  refine g_loop (mB σ 4) (fun i9 : Nat => S1) (fun i9 : Nat => [(2, .int (nI i9)), (1, .int (itr (stX8_mean_9 S1) i9 (0 : Int32))), (0, .ref (E.2.2 57))]) [] rfl rfl ?_ ?_
  · intro i9 hi9 ih_i9
    (try dsimp only at ih_i9 ⊢)
    refine g_iload_n S 0 dX8_mean_9 rfl ?_
    refine g_aload_n S 2 dX8_mean_10 rfl ?_
    refine gg7 S hC hiX8 (by decide) rfl 4 (by decide) (by decide +kernel) dX8_mean_11 ?_
    refine g_icmp_ge S 32 dX8_mean_14 (by decide) (fun c_1 => absurd c_1 (by rw [kqS1 4 (by decide), hok.eq 4 (by decide) (by decide)]; exact nI_ge hi9 (by omega))) (fun c_1 => ?_)
    refine g_iload_n S 1 dX8_mean_17 rfl ?_
    refine g_aload_n S 2 dX8_mean_18 rfl ?_
    refine g_iload_n S 0 dX8_mean_19 rfl ?_
    refine g_const S dX8_mean_20 (v := 1) rfl ?_
    refine g_calli (g_runV S hC (As := [.int (nI i9), .int (1 : Int32)]) (rest := [.int (itr (stX8_mean_9 S1) i9 (0 : Int32))]) (k := 57) (by decide) rfl (by decide) rfl (kX8_ca l E S1 (nI i9) i9 rfl (by omega) (1 : Int32) 1 rfl (by decide)) (cwV 2 S.2.2.2.2 gX8_mean_X8_ca rfl rfl rfl (by decide +kernel) ⟨Nat.le_of_ble_eq_true rfl, Nat.le_of_ble_eq_true rfl⟩) rfl rfl (Nat.le_of_ble_eq_true rfl) dX8_mean_21 ⟨Nat.le_of_ble_eq_true rfl, Nat.le_of_ble_eq_true rfl⟩) ?_
    refine g_iadd S dX8_mean_24 ?_
    refine g_istore_n S [(1, .int ((itr (stX8_mean_9 S1) i9 (0 : Int32)) + (sX8_ca_r S1 i9 1))), (2, .int (nI i9)), (0, .ref (E.2.2 57))] dX8_mean_25 (by decide) rfl ?_
    refine g_iinc S [(2, .int (nI (i9 + 1))), (1, .int ((itr (stX8_mean_9 S1) i9 (0 : Int32)) + (sX8_ca_r S1 i9 1))), (0, .ref (E.2.2 57))] 1 (nI (i9 + 1)) dX8_mean_26 rfl (by exact nI_1 i9) (by decide) rfl ?_
    refine g_goto S 9 dX8_mean_29 (by decide) ?_
    refine g_lvs [0, 1, 2] (lv' := [(2, .int (nI (i9 + 1))), (1, .int ((itr (stX8_mean_9 S1) i9 (0 : Int32)) + (sX8_ca_r S1 i9 1))), (0, .ref (E.2.2 57))]) rfl ?_
    exact g_to ih_i9 (by rfl) (by rfl) rfl
  · skip
    (try dsimp only)
    generalize hD2 : itr (stX8_mean_9 S1) (mB σ 4) (0 : Int32) = D2
    refine g_iload_n S 0 dX8_mean_9 rfl ?_
    refine g_aload_n S 2 dX8_mean_10 rfl ?_
    refine gg7 S hC hiX8 (by decide) rfl 4 (by decide) (by decide +kernel) dX8_mean_11 ?_
    refine g_icmp_ge S 32 dX8_mean_14 (by decide) (fun c_2 => ?_) (fun c_2 => absurd (by rw [kqS1 4 (by decide), hok.eq 4 (by decide) (by decide)]; exact nI_le (Nat.le_refl _) (by omega)) c_2)
    refine g_aload_n S 2 dX8_mean_32 rfl ?_
    refine gg7 S hC hiX8 (by decide) rfl 4 (by decide) (by decide +kernel) dX8_mean_33 ?_
    refine g_if_ne S 43 dX8_mean_36 (by decide) (fun c_3 => ?_) (fun c_3 => ?_)
    · skip
      refine g_iload_n S 1 dX8_mean_43 rfl ?_
      refine g_i2d S dX8_mean_44 ?_
      refine g_aload_n S 2 dX8_mean_45 rfl ?_
      refine gg7 S hC hiX8 (by decide) rfl 4 (by decide) (by decide +kernel) dX8_mean_46 ?_
      refine g_i2d S dX8_mean_49 ?_
      refine g_ddiv hd0 S0 dX8_mean_50 (fun r d1 hal hd1 => ?_)
      exact g_dret hd1 S0 hr hlocks dX8_mean_51 (by rw [← show FP.ddiv (FP.i2d D2) (FP.i2d (S1.1 57 4)) = sX8_mean_r σ from (by subst hD2 hS1; unfold sX8_mean_r; (try dsimp only); rw [if_neg c_3])]; exact hal) (by subst hD2 hS1; unfold sX8_mean_s; (try dsimp only); rw [if_neg c_3]) (Nat.le_of_ble_eq_true rfl) (Nat.le_of_ble_eq_true rfl)
    · skip
      refine g_dconst S dX8_mean_39 ?_
      refine g_goto S 51 dX8_mean_40 (by decide) ?_
      exact g_dret hd0 S0 hr hlocks dX8_mean_51 (by rw [← show FP.dconst0 = sX8_mean_r σ from (by subst hD2 hS1; unfold sX8_mean_r; (try dsimp only); rw [if_pos c_3])]; exact alike64_refl _) (by subst hD2 hS1; unfold sX8_mean_s; (try dsimp only); rw [if_pos c_3]) (Nat.le_of_ble_eq_true rfl) (Nat.le_of_ble_eq_true rfl)
