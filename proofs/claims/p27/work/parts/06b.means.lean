def sX7_mean_r (σ : gS) : UInt64 := if σ.1 1 8 = 0 then (FP.dconst0) else (FP.ddiv (FP.i2d (σ.1 6 5)) (FP.i2d (σ.1 1 8)))
set_option maxRecDepth 100000 in
set_option maxHeartbeats 4000000 in
theorem kX7_mean (l : Launch) (E : gT) (σ : gS) : gMd l yX7_mean wsX7_mean ({ frames := 0, cells := 0, slots := 0, locals := 0 }) 0 0 E σ [.ref (E.2.2 0)] (sX7_mean_r σ) σ := by
  refine g_metD (mc := 0) (ms := 0) (nL := 1) (ret := (some .double)) (by decide) rfl (lv := [(0, .ref (E.2.2 0))]) rfl (Nat.le_of_ble_eq_true rfl) ?_
  intro p e s m below meth c S0 hr hlocks hC hd0
  have S := gS_dr S0 s.drawn
  have hC := hC.dr s.drawn
  have hiX4 : ∀ w ∈ wsX40, w ∈ wsX7_mean := by decide +kernel
  have hiX6 : ∀ w ∈ wsX60, w ∈ wsX7_mean := by decide +kernel
  have hiX7 : ∀ w ∈ wsX70, w ∈ wsX7_mean := by decide +kernel
  refine g_aload_n S 0 dX7_mean_0 rfl ?_
  refine gg6 S hC hiX7 (by decide +kernel) dX7_mean_1 ?_
  refine gg5 S hC hiX6 (by decide) rfl 8 (by decide) (by decide +kernel) dX7_mean_4 ?_
  refine g_if_ne S 12 dX7_mean_7 (by decide) (fun c_1 => ?_) (fun c_1 => ?_)
  · skip
    refine g_aload_n S 0 dX7_mean_12 rfl ?_
    refine gg6 S hC hiX7 (by decide +kernel) dX7_mean_13 ?_
    refine gg5r S hC hiX6 (by decide) rfl 4 (by decide) (by decide +kernel) dX7_mean_16 ?_
    refine gg4 S hC hiX4 (by decide) rfl 5 (by decide) (by decide +kernel) dX7_mean_19 ?_
    refine g_i2d S dX7_mean_22 ?_
    refine g_aload_n S 0 dX7_mean_23 rfl ?_
    refine gg6 S hC hiX7 (by decide +kernel) dX7_mean_24 ?_
    refine gg5 S hC hiX6 (by decide) rfl 8 (by decide) (by decide +kernel) dX7_mean_27 ?_
    refine g_i2d S dX7_mean_30 ?_
    refine g_ddiv hd0 S0 dX7_mean_31 (fun r d1 hal hd1 => ?_)
    exact g_dret hd1 S0 hr hlocks dX7_mean_32 (by rw [← show FP.ddiv (FP.i2d (σ.1 6 5)) (FP.i2d (σ.1 1 8)) = sX7_mean_r σ from (by rw [sX7_mean_r, if_neg c_1])]; exact hal) rfl (Nat.le_of_ble_eq_true rfl) (Nat.le_of_ble_eq_true rfl)
  · skip
    refine g_dconst S dX7_mean_10 ?_
    exact g_dret hd0 S0 hr hlocks dX7_mean_11 (by rw [← show FP.dconst0 = sX7_mean_r σ from (by rw [sX7_mean_r, if_pos c_1])]; exact alike64_refl _) rfl (Nat.le_of_ble_eq_true rfl) (Nat.le_of_ble_eq_true rfl)
