def stX2_daysToBest_12 (σ : gS) (k : Nat) (j : Nat) (τ : Int32 × Int32 × Int32) : Int32 × Int32 × Int32 := if sX2_partsAt_r σ k τ.2.2 ≤ τ.2.1 then ((τ.1, τ.2.1, sX2_levelAfter_r σ k τ.2.2)) else ((nI j, sX2_partsAt_r σ k τ.2.2, sX2_levelAfter_r σ k τ.2.2))
def sX2_daysToBest_r (σ : gS) (k : Nat) : Int32 := (itr (stX2_daysToBest_12 σ k) 61 ((-1 : Int32), (0 : Int32), σ.1 k 4)).1
set_option maxRecDepth 100000 in
set_option maxHeartbeats 4000000 in
theorem kX2_daysToBest (l : Launch) (E : gT) (σ : gS) (k : Nat) (hk : k < 65) (hKk : gK k = 2) : gMi l yX2_daysToBest wsX2_daysToBest ({ frames := 2, cells := 0, slots := 0, locals := 45 }) 0 0 E σ [.ref (E.2.2 k)] (sX2_daysToBest_r σ k) σ := by
  refine g_met (mc := 0) (ms := 0) (nL := 6) (ret := (some .int)) (by decide) rfl (lv := [(0, .ref (E.2.2 k))]) rfl (Nat.le_of_ble_eq_true rfl) ?_
  intro p e s m below meth c S hr hlocks hC
  have hiX2 : ∀ w ∈ wsX20, w ∈ wsX2_daysToBest := by decide +kernel
  refine g_const S dX2_daysToBest_0 (v := (-1)) rfl ?_
  refine g_istore_n S [(1, .int (-1 : Int32)), (0, .ref (E.2.2 k))] dX2_daysToBest_1 (by decide) rfl ?_
  refine g_const S dX2_daysToBest_2 (v := 0) rfl ?_
  refine g_istore_n S [(2, .int (0 : Int32)), (1, .int (-1 : Int32)), (0, .ref (E.2.2 k))] dX2_daysToBest_3 (by decide) rfl ?_
  refine g_aload_n S 2 dX2_daysToBest_4 rfl ?_
  refine gg2 S hC hiX2 hk hKk 4 (by decide) (by decide +kernel) dX2_daysToBest_5 ?_
  refine g_istore_n S [(3, .int (σ.1 k 4)), (2, .int (0 : Int32)), (1, .int (-1 : Int32)), (0, .ref (E.2.2 k))] dX2_daysToBest_8 (by decide) rfl ?_
  refine g_const S dX2_daysToBest_9 (v := 0) rfl ?_
  refine g_istore S [(4, .int (0 : Int32)), (3, .int (σ.1 k 4)), (2, .int (0 : Int32)), (1, .int (-1 : Int32)), (0, .ref (E.2.2 k))] dX2_daysToBest_10 (by decide) rfl ?_
  refine g_lvs [0, 1, 2, 3, 4] (lv' := [(4, .int (0 : Int32)), (3, .int (σ.1 k 4)), (2, .int (0 : Int32)), (1, .int (-1 : Int32)), (0, .ref (E.2.2 k))]) rfl ?_
  refine g_loop 61 (fun i12 : Nat => σ) (fun i12 : Nat => [(4, .int (nI i12)), (3, .int ((itr (stX2_daysToBest_12 σ k) i12 ((-1 : Int32), (0 : Int32), σ.1 k 4)).2.2)), (2, .int ((itr (stX2_daysToBest_12 σ k) i12 ((-1 : Int32), (0 : Int32), σ.1 k 4)).2.1)), (1, .int ((itr (stX2_daysToBest_12 σ k) i12 ((-1 : Int32), (0 : Int32), σ.1 k 4)).1)), (0, .ref (E.2.2 k))]) [] rfl rfl ?_ ?_
  · intro i12 hi12 ih_i12
    (try dsimp only at ih_i12 ⊢)
    refine g_iload S 0 dX2_daysToBest_12 rfl ?_
    refine g_bipush S dX2_daysToBest_14 (v := 60) rfl ?_
    refine g_icmp_gt S 50 dX2_daysToBest_16 (by decide) (fun c_1 => absurd c_1 (nI_nlt (a := 60) (b := i12) (by omega) (by omega))) (fun c_1 => ?_)
    refine g_aload_n S 4 dX2_daysToBest_19 rfl ?_
    refine g_iload_n S 1 dX2_daysToBest_20 rfl ?_
    refine g_calli (g_runV S hC (As := [.int ((itr (stX2_daysToBest_12 σ k) i12 ((-1 : Int32), (0 : Int32), σ.1 k 4)).2.2)]) (rest := []) (k := k) hk hKk (by decide) rfl (kX2_partsAt l E σ k hk hKk ((itr (stX2_daysToBest_12 σ k) i12 ((-1 : Int32), (0 : Int32), σ.1 k 4)).2.2)) (cwV 1 S.2.2.2.2 gX2_daysToBest_X2_partsAt rfl rfl rfl (by decide +kernel) ⟨Nat.le_of_ble_eq_true rfl, Nat.le_of_ble_eq_true rfl⟩) rfl rfl (Nat.le_of_ble_eq_true rfl) dX2_daysToBest_21 ⟨Nat.le_of_ble_eq_true rfl, Nat.le_of_ble_eq_true rfl⟩) ?_
    refine g_istore S [(5, .int (sX2_partsAt_r σ k ((itr (stX2_daysToBest_12 σ k) i12 ((-1 : Int32), (0 : Int32), σ.1 k 4)).2.2))), (4, .int (nI i12)), (3, .int ((itr (stX2_daysToBest_12 σ k) i12 ((-1 : Int32), (0 : Int32), σ.1 k 4)).2.2)), (2, .int ((itr (stX2_daysToBest_12 σ k) i12 ((-1 : Int32), (0 : Int32), σ.1 k 4)).2.1)), (1, .int ((itr (stX2_daysToBest_12 σ k) i12 ((-1 : Int32), (0 : Int32), σ.1 k 4)).1)), (0, .ref (E.2.2 k))] dX2_daysToBest_24 (by decide) rfl ?_
    refine g_iload S 0 dX2_daysToBest_26 rfl ?_
    refine g_iload_n S 3 dX2_daysToBest_28 rfl ?_
    refine g_icmp_le S 38 dX2_daysToBest_29 (by decide) (fun c_2 => ?_) (fun c_2 => ?_)
    · skip
      refine g_aload_n S 5 dX2_daysToBest_38 rfl ?_
      refine g_iload_n S 2 dX2_daysToBest_39 rfl ?_
      refine g_calli (g_runV S hC (As := [.int ((itr (stX2_daysToBest_12 σ k) i12 ((-1 : Int32), (0 : Int32), σ.1 k 4)).2.2)]) (rest := []) (k := k) hk hKk (by decide) rfl (kX2_levelAfter l E σ k hk hKk ((itr (stX2_daysToBest_12 σ k) i12 ((-1 : Int32), (0 : Int32), σ.1 k 4)).2.2)) (cwV 1 S.2.2.2.2 gX2_daysToBest_X2_levelAfter rfl rfl rfl (by decide +kernel) ⟨Nat.le_of_ble_eq_true rfl, Nat.le_of_ble_eq_true rfl⟩) rfl rfl (Nat.le_of_ble_eq_true rfl) dX2_daysToBest_40 ⟨Nat.le_of_ble_eq_true rfl, Nat.le_of_ble_eq_true rfl⟩) ?_
      refine g_istore_n S [(3, .int (sX2_levelAfter_r σ k ((itr (stX2_daysToBest_12 σ k) i12 ((-1 : Int32), (0 : Int32), σ.1 k 4)).2.2))), (5, .int (sX2_partsAt_r σ k ((itr (stX2_daysToBest_12 σ k) i12 ((-1 : Int32), (0 : Int32), σ.1 k 4)).2.2))), (4, .int (nI i12)), (2, .int ((itr (stX2_daysToBest_12 σ k) i12 ((-1 : Int32), (0 : Int32), σ.1 k 4)).2.1)), (1, .int ((itr (stX2_daysToBest_12 σ k) i12 ((-1 : Int32), (0 : Int32), σ.1 k 4)).1)), (0, .ref (E.2.2 k))] dX2_daysToBest_43 (by decide) rfl ?_
      refine g_iinc S [(4, .int (nI (i12 + 1))), (3, .int (sX2_levelAfter_r σ k ((itr (stX2_daysToBest_12 σ k) i12 ((-1 : Int32), (0 : Int32), σ.1 k 4)).2.2))), (5, .int (sX2_partsAt_r σ k ((itr (stX2_daysToBest_12 σ k) i12 ((-1 : Int32), (0 : Int32), σ.1 k 4)).2.2))), (2, .int ((itr (stX2_daysToBest_12 σ k) i12 ((-1 : Int32), (0 : Int32), σ.1 k 4)).2.1)), (1, .int ((itr (stX2_daysToBest_12 σ k) i12 ((-1 : Int32), (0 : Int32), σ.1 k 4)).1)), (0, .ref (E.2.2 k))] 2 (nI (i12 + 1)) dX2_daysToBest_44 rfl (by exact nI_1 i12) (by decide) rfl ?_
      refine g_goto S 12 dX2_daysToBest_47 (by decide) ?_
      refine g_lvs [0, 1, 3, 4, 5] (lv' := [(4, .int (nI (i12 + 1))), (3, .int (sX2_levelAfter_r σ k ((itr (stX2_daysToBest_12 σ k) i12 ((-1 : Int32), (0 : Int32), σ.1 k 4)).2.2))), (2, .int ((itr (stX2_daysToBest_12 σ k) i12 ((-1 : Int32), (0 : Int32), σ.1 k 4)).2.1)), (1, .int ((itr (stX2_daysToBest_12 σ k) i12 ((-1 : Int32), (0 : Int32), σ.1 k 4)).1)), (0, .ref (E.2.2 k))]) rfl ?_
      exact g_to ih_i12 (by rfl) (by simp only [itr]; rw [stX2_daysToBest_12]; (try dsimp only); rw [if_pos c_2]) rfl
    · skip
      refine g_iload S 0 dX2_daysToBest_32 rfl ?_
      refine g_istore_n S [(2, .int (sX2_partsAt_r σ k ((itr (stX2_daysToBest_12 σ k) i12 ((-1 : Int32), (0 : Int32), σ.1 k 4)).2.2))), (5, .int (sX2_partsAt_r σ k ((itr (stX2_daysToBest_12 σ k) i12 ((-1 : Int32), (0 : Int32), σ.1 k 4)).2.2))), (4, .int (nI i12)), (3, .int ((itr (stX2_daysToBest_12 σ k) i12 ((-1 : Int32), (0 : Int32), σ.1 k 4)).2.2)), (1, .int ((itr (stX2_daysToBest_12 σ k) i12 ((-1 : Int32), (0 : Int32), σ.1 k 4)).1)), (0, .ref (E.2.2 k))] dX2_daysToBest_34 (by decide) rfl ?_
      refine g_iload S 2 dX2_daysToBest_35 rfl ?_
      refine g_istore_n S [(1, .int (nI i12)), (2, .int (sX2_partsAt_r σ k ((itr (stX2_daysToBest_12 σ k) i12 ((-1 : Int32), (0 : Int32), σ.1 k 4)).2.2))), (5, .int (sX2_partsAt_r σ k ((itr (stX2_daysToBest_12 σ k) i12 ((-1 : Int32), (0 : Int32), σ.1 k 4)).2.2))), (4, .int (nI i12)), (3, .int ((itr (stX2_daysToBest_12 σ k) i12 ((-1 : Int32), (0 : Int32), σ.1 k 4)).2.2)), (0, .ref (E.2.2 k))] dX2_daysToBest_37 (by decide) rfl ?_
      refine g_aload_n S 5 dX2_daysToBest_38 rfl ?_
      refine g_iload_n S 4 dX2_daysToBest_39 rfl ?_
      refine g_calli (g_runV S hC (As := [.int ((itr (stX2_daysToBest_12 σ k) i12 ((-1 : Int32), (0 : Int32), σ.1 k 4)).2.2)]) (rest := []) (k := k) hk hKk (by decide) rfl (kX2_levelAfter l E σ k hk hKk ((itr (stX2_daysToBest_12 σ k) i12 ((-1 : Int32), (0 : Int32), σ.1 k 4)).2.2)) (cwV 1 S.2.2.2.2 gX2_daysToBest_X2_levelAfter rfl rfl rfl (by decide +kernel) ⟨Nat.le_of_ble_eq_true rfl, Nat.le_of_ble_eq_true rfl⟩) rfl rfl (Nat.le_of_ble_eq_true rfl) dX2_daysToBest_40 ⟨Nat.le_of_ble_eq_true rfl, Nat.le_of_ble_eq_true rfl⟩) ?_
      refine g_istore_n S [(3, .int (sX2_levelAfter_r σ k ((itr (stX2_daysToBest_12 σ k) i12 ((-1 : Int32), (0 : Int32), σ.1 k 4)).2.2))), (1, .int (nI i12)), (2, .int (sX2_partsAt_r σ k ((itr (stX2_daysToBest_12 σ k) i12 ((-1 : Int32), (0 : Int32), σ.1 k 4)).2.2))), (5, .int (sX2_partsAt_r σ k ((itr (stX2_daysToBest_12 σ k) i12 ((-1 : Int32), (0 : Int32), σ.1 k 4)).2.2))), (4, .int (nI i12)), (0, .ref (E.2.2 k))] dX2_daysToBest_43 (by decide) rfl ?_
      refine g_iinc S [(4, .int (nI (i12 + 1))), (3, .int (sX2_levelAfter_r σ k ((itr (stX2_daysToBest_12 σ k) i12 ((-1 : Int32), (0 : Int32), σ.1 k 4)).2.2))), (1, .int (nI i12)), (2, .int (sX2_partsAt_r σ k ((itr (stX2_daysToBest_12 σ k) i12 ((-1 : Int32), (0 : Int32), σ.1 k 4)).2.2))), (5, .int (sX2_partsAt_r σ k ((itr (stX2_daysToBest_12 σ k) i12 ((-1 : Int32), (0 : Int32), σ.1 k 4)).2.2))), (0, .ref (E.2.2 k))] 4 (nI (i12 + 1)) dX2_daysToBest_44 rfl (by exact nI_1 i12) (by decide) rfl ?_
      refine g_goto S 12 dX2_daysToBest_47 (by decide) ?_
      refine g_lvs [0, 1, 3, 2, 5] (lv' := [(4, .int (nI (i12 + 1))), (3, .int (sX2_levelAfter_r σ k ((itr (stX2_daysToBest_12 σ k) i12 ((-1 : Int32), (0 : Int32), σ.1 k 4)).2.2))), (2, .int (sX2_partsAt_r σ k ((itr (stX2_daysToBest_12 σ k) i12 ((-1 : Int32), (0 : Int32), σ.1 k 4)).2.2))), (1, .int (nI i12)), (0, .ref (E.2.2 k))]) rfl ?_
      exact g_to ih_i12 (by rfl) (by simp only [itr]; rw [stX2_daysToBest_12]; (try dsimp only); rw [if_neg c_2]) rfl
  · skip
    (try dsimp only)
    refine g_iload S 0 dX2_daysToBest_12 rfl ?_
    refine g_bipush S dX2_daysToBest_14 (v := 60) rfl ?_
    refine g_icmp_gt S 50 dX2_daysToBest_16 (by decide) (fun c_3 => ?_) (fun c_3 => absurd (nI_lt (a := 60) (b := 61) (by omega) (by omega)) c_3)
    refine g_iload_n S 3 dX2_daysToBest_50 rfl ?_
    exact g_iret S hr hlocks dX2_daysToBest_51 rfl rfl (Nat.le_of_ble_eq_true rfl) (Nat.le_of_ble_eq_true rfl)
def stX5_digestOnto_k0_11 (σ : gS) (k : Nat) (d : Int64) (j : Nat) (τ : Int64) : Int64 := (τ * (31 : Int64)) + (Int32.toInt64 (sX0_tell_r σ k j))
def sX5_digestOnto_k0_r (σ : gS) (k : Nat) (d : Int64) : Int64 := (itr (stX5_digestOnto_k0_11 σ k d) 3 d)
set_option maxRecDepth 100000 in
set_option maxHeartbeats 4000000 in
theorem kX5_digestOnto_k0 (l : Launch) (E : gT) (σ : gS) (k : Nat) (hk : k < 65) (hKk : gK k = 0) (d : Int64) : gMl l yX5_digestOnto wsX5_digestOnto ({ frames := 1, cells := 0, slots := 0, locals := 21 }) 0 0 E σ [.ref (E.2.2 k), .long d] (sX5_digestOnto_k0_r σ k d) σ := by
  refine g_met (mc := 0) (ms := 0) (nL := 7) (ret := (some .long)) (by decide) rfl (lv := [(0, .ref (E.2.2 k)), (1, .long d)]) rfl (Nat.le_of_ble_eq_true rfl) ?_
  intro p e s m below meth c S hr hlocks hC
  refine g_lload_n S 1 dX5_digestOnto_0 rfl ?_
  refine g_lstore_n S [(3, .long d), (0, .ref (E.2.2 k)), (1, .long d)] dX5_digestOnto_1 (by decide) rfl ?_
  refine g_aload_n S 1 dX5_digestOnto_2 rfl ?_
  refine g_calli (g_runU S hC (As := []) (rest := []) (k := k) hk hKk (by decide) rfl (kX0_size l E σ k hk hKk) (va_cwA 0 S.2.2.2.2 gX5_digestOnto_X0_size_u7X0 rfl rfl rfl hC.2.2.1.1.1 (by decide +kernel) ⟨Nat.le_of_ble_eq_true rfl, Nat.le_of_ble_eq_true rfl⟩) rfl rfl (Nat.le_of_ble_eq_true rfl) dX5_digestOnto_3 ⟨Nat.le_of_ble_eq_true rfl, Nat.le_of_ble_eq_true rfl⟩) ?_
  refine g_istore S [(5, .int (sX0_size_r σ k)), (3, .long d), (0, .ref (E.2.2 k)), (1, .long d)] dX5_digestOnto_6 (by decide) rfl ?_
  refine g_const S dX5_digestOnto_8 (v := 0) rfl ?_
  refine g_istore S [(6, .int (0 : Int32)), (5, .int (sX0_size_r σ k)), (3, .long d), (0, .ref (E.2.2 k)), (1, .long d)] dX5_digestOnto_9 (by decide) rfl ?_
  refine g_lvs [0, 2, 1, 3] (lv' := [(6, .int (0 : Int32)), (3, .long d), (5, .int (sX0_size_r σ k)), (0, .ref (E.2.2 k))]) rfl ?_
  refine g_loop 3 (fun i11 : Nat => σ) (fun i11 : Nat => [(6, .int (nI i11)), (3, .long (itr (stX5_digestOnto_k0_11 σ k d) i11 d)), (5, .int (sX0_size_r σ k)), (0, .ref (E.2.2 k))]) [] rfl rfl ?_ ?_
  · intro i11 hi11 ih_i11
    (try dsimp only at ih_i11 ⊢)
    refine g_iload S 0 dX5_digestOnto_11 rfl ?_
    refine g_iload S 2 dX5_digestOnto_13 rfl ?_
    refine g_icmp_ge S 38 dX5_digestOnto_15 (by decide) (fun c_1 => absurd c_1 (show ¬ nI 3 ≤ nI i11 from nI_ge hi11 (by omega))) (fun c_1 => ?_)
    refine g_lload_n S 1 dX5_digestOnto_18 rfl ?_
    refine g_ldc2 S (v := 31) (by decide +kernel) dX5_digestOnto_19 ?_
    refine g_lmul S dX5_digestOnto_22 ?_
    refine g_aload_n S 3 dX5_digestOnto_23 rfl ?_
    refine g_iload S 0 dX5_digestOnto_24 rfl ?_
    refine g_calli (g_runU S hC (As := [.int (nI i11)]) (rest := [.long ((itr (stX5_digestOnto_k0_11 σ k d) i11 d) * (31 : Int64))]) (k := k) hk hKk (by decide) rfl (kX0_tell l E σ k hk hKk i11 (by first | decide | omega)) (va_cwA 1 S.2.2.2.2 gX5_digestOnto_X0_tell_u15X0 rfl rfl rfl hC.2.2.1.1.2.1 (by decide +kernel) ⟨Nat.le_of_ble_eq_true rfl, Nat.le_of_ble_eq_true rfl⟩) rfl rfl (Nat.le_of_ble_eq_true rfl) dX5_digestOnto_26 ⟨Nat.le_of_ble_eq_true rfl, Nat.le_of_ble_eq_true rfl⟩) ?_
    refine g_i2l S dX5_digestOnto_29 ?_
    refine g_ladd S dX5_digestOnto_30 ?_
    refine g_lstore_n S [(3, .long (((itr (stX5_digestOnto_k0_11 σ k d) i11 d) * (31 : Int64)) + (Int32.toInt64 (sX0_tell_r σ k i11)))), (6, .int (nI i11)), (5, .int (sX0_size_r σ k)), (0, .ref (E.2.2 k))] dX5_digestOnto_31 (by decide) rfl ?_
    refine g_iinc S [(6, .int (nI (i11 + 1))), (3, .long (((itr (stX5_digestOnto_k0_11 σ k d) i11 d) * (31 : Int64)) + (Int32.toInt64 (sX0_tell_r σ k i11)))), (5, .int (sX0_size_r σ k)), (0, .ref (E.2.2 k))] 1 (nI (i11 + 1)) dX5_digestOnto_32 rfl (by exact nI_1 i11) (by decide) rfl ?_
    refine g_goto S 11 dX5_digestOnto_35 (by decide) ?_
    refine g_lvs [0, 1, 2, 3] (lv' := [(6, .int (nI (i11 + 1))), (3, .long (((itr (stX5_digestOnto_k0_11 σ k d) i11 d) * (31 : Int64)) + (Int32.toInt64 (sX0_tell_r σ k i11)))), (5, .int (sX0_size_r σ k)), (0, .ref (E.2.2 k))]) rfl ?_
    exact g_to ih_i11 (by rfl) (by rw [itr.eq_2]; rfl) rfl
  · skip
    (try dsimp only)
    refine g_iload S 0 dX5_digestOnto_11 rfl ?_
    refine g_iload S 2 dX5_digestOnto_13 rfl ?_
    refine g_icmp_ge S 38 dX5_digestOnto_15 (by decide) (fun c_2 => ?_) (fun c_2 => absurd (show nI 3 ≤ nI 3 from nI_le (Nat.le_refl _) (by omega)) c_2)
    refine g_lload_n S 1 dX5_digestOnto_38 rfl ?_
    exact g_lret S hr hlocks dX5_digestOnto_39 rfl rfl (Nat.le_of_ble_eq_true rfl) (Nat.le_of_ble_eq_true rfl)
def stX5_digestOnto_k1_11 (σ : gS) (k : Nat) (d : Int64) (j : Nat) (τ : Int64) : Int64 := (τ * (31 : Int64)) + (Int32.toInt64 (sX1_tell_r σ k j))
def sX5_digestOnto_k1_r (σ : gS) (k : Nat) (d : Int64) : Int64 := (itr (stX5_digestOnto_k1_11 σ k d) 5 d)
set_option maxRecDepth 100000 in
set_option maxHeartbeats 4000000 in
theorem kX5_digestOnto_k1 (l : Launch) (E : gT) (σ : gS) (k : Nat) (hk : k < 65) (hKk : gK k = 1) (d : Int64) : gMl l yX5_digestOnto wsX5_digestOnto ({ frames := 1, cells := 0, slots := 0, locals := 21 }) 0 0 E σ [.ref (E.2.2 k), .long d] (sX5_digestOnto_k1_r σ k d) σ := by
  refine g_met (mc := 0) (ms := 0) (nL := 7) (ret := (some .long)) (by decide) rfl (lv := [(0, .ref (E.2.2 k)), (1, .long d)]) rfl (Nat.le_of_ble_eq_true rfl) ?_
  intro p e s m below meth c S hr hlocks hC
  refine g_lload_n S 1 dX5_digestOnto_0 rfl ?_
  refine g_lstore_n S [(3, .long d), (0, .ref (E.2.2 k)), (1, .long d)] dX5_digestOnto_1 (by decide) rfl ?_
  refine g_aload_n S 1 dX5_digestOnto_2 rfl ?_
  refine g_calli (g_runU S hC (As := []) (rest := []) (k := k) hk hKk (by decide) rfl (kX1_size l E σ k hk hKk) (va_cwA 0 S.2.2.2.2 gX5_digestOnto_X1_size_u7X1 rfl rfl rfl hC.2.2.1.1.1 (by decide +kernel) ⟨Nat.le_of_ble_eq_true rfl, Nat.le_of_ble_eq_true rfl⟩) rfl rfl (Nat.le_of_ble_eq_true rfl) dX5_digestOnto_3 ⟨Nat.le_of_ble_eq_true rfl, Nat.le_of_ble_eq_true rfl⟩) ?_
  refine g_istore S [(5, .int (sX1_size_r σ k)), (3, .long d), (0, .ref (E.2.2 k)), (1, .long d)] dX5_digestOnto_6 (by decide) rfl ?_
  refine g_const S dX5_digestOnto_8 (v := 0) rfl ?_
  refine g_istore S [(6, .int (0 : Int32)), (5, .int (sX1_size_r σ k)), (3, .long d), (0, .ref (E.2.2 k)), (1, .long d)] dX5_digestOnto_9 (by decide) rfl ?_
  refine g_lvs [0, 2, 1, 3] (lv' := [(6, .int (0 : Int32)), (3, .long d), (5, .int (sX1_size_r σ k)), (0, .ref (E.2.2 k))]) rfl ?_
  refine g_loop 5 (fun i11 : Nat => σ) (fun i11 : Nat => [(6, .int (nI i11)), (3, .long (itr (stX5_digestOnto_k1_11 σ k d) i11 d)), (5, .int (sX1_size_r σ k)), (0, .ref (E.2.2 k))]) [] rfl rfl ?_ ?_
  · intro i11 hi11 ih_i11
    (try dsimp only at ih_i11 ⊢)
    refine g_iload S 0 dX5_digestOnto_11 rfl ?_
    refine g_iload S 2 dX5_digestOnto_13 rfl ?_
    refine g_icmp_ge S 38 dX5_digestOnto_15 (by decide) (fun c_1 => absurd c_1 (show ¬ nI 5 ≤ nI i11 from nI_ge hi11 (by omega))) (fun c_1 => ?_)
    refine g_lload_n S 1 dX5_digestOnto_18 rfl ?_
    refine g_ldc2 S (v := 31) (by decide +kernel) dX5_digestOnto_19 ?_
    refine g_lmul S dX5_digestOnto_22 ?_
    refine g_aload_n S 3 dX5_digestOnto_23 rfl ?_
    refine g_iload S 0 dX5_digestOnto_24 rfl ?_
    refine g_calli (g_runU S hC (As := [.int (nI i11)]) (rest := [.long ((itr (stX5_digestOnto_k1_11 σ k d) i11 d) * (31 : Int64))]) (k := k) hk hKk (by decide) rfl (kX1_tell l E σ k hk hKk i11 (by first | decide | omega)) (va_cwA 1 S.2.2.2.2 gX5_digestOnto_X1_tell_u15X1 rfl rfl rfl hC.2.2.1.1.2.1 (by decide +kernel) ⟨Nat.le_of_ble_eq_true rfl, Nat.le_of_ble_eq_true rfl⟩) rfl rfl (Nat.le_of_ble_eq_true rfl) dX5_digestOnto_26 ⟨Nat.le_of_ble_eq_true rfl, Nat.le_of_ble_eq_true rfl⟩) ?_
    refine g_i2l S dX5_digestOnto_29 ?_
    refine g_ladd S dX5_digestOnto_30 ?_
    refine g_lstore_n S [(3, .long (((itr (stX5_digestOnto_k1_11 σ k d) i11 d) * (31 : Int64)) + (Int32.toInt64 (sX1_tell_r σ k i11)))), (6, .int (nI i11)), (5, .int (sX1_size_r σ k)), (0, .ref (E.2.2 k))] dX5_digestOnto_31 (by decide) rfl ?_
    refine g_iinc S [(6, .int (nI (i11 + 1))), (3, .long (((itr (stX5_digestOnto_k1_11 σ k d) i11 d) * (31 : Int64)) + (Int32.toInt64 (sX1_tell_r σ k i11)))), (5, .int (sX1_size_r σ k)), (0, .ref (E.2.2 k))] 1 (nI (i11 + 1)) dX5_digestOnto_32 rfl (by exact nI_1 i11) (by decide) rfl ?_
    refine g_goto S 11 dX5_digestOnto_35 (by decide) ?_
    refine g_lvs [0, 1, 2, 3] (lv' := [(6, .int (nI (i11 + 1))), (3, .long (((itr (stX5_digestOnto_k1_11 σ k d) i11 d) * (31 : Int64)) + (Int32.toInt64 (sX1_tell_r σ k i11)))), (5, .int (sX1_size_r σ k)), (0, .ref (E.2.2 k))]) rfl ?_
    exact g_to ih_i11 (by rfl) (by rw [itr.eq_2]; rfl) rfl
  · skip
    (try dsimp only)
    refine g_iload S 0 dX5_digestOnto_11 rfl ?_
    refine g_iload S 2 dX5_digestOnto_13 rfl ?_
    refine g_icmp_ge S 38 dX5_digestOnto_15 (by decide) (fun c_2 => ?_) (fun c_2 => absurd (show nI 5 ≤ nI 5 from nI_le (Nat.le_refl _) (by omega)) c_2)
    refine g_lload_n S 1 dX5_digestOnto_38 rfl ?_
    exact g_lret S hr hlocks dX5_digestOnto_39 rfl rfl (Nat.le_of_ble_eq_true rfl) (Nat.le_of_ble_eq_true rfl)
def stX5_digestOnto_k2_11 (σ : gS) (k : Nat) (d : Int64) (j : Nat) (τ : Int64) : Int64 := (τ * (31 : Int64)) + (Int32.toInt64 (sX2_tell_r σ k j))
def sX5_digestOnto_k2_r (σ : gS) (k : Nat) (d : Int64) : Int64 := (itr (stX5_digestOnto_k2_11 σ k d) 6 d)
set_option maxRecDepth 100000 in
set_option maxHeartbeats 4000000 in
theorem kX5_digestOnto_k2 (l : Launch) (E : gT) (σ : gS) (k : Nat) (hk : k < 65) (hKk : gK k = 2) (d : Int64) : gMl l yX5_digestOnto wsX5_digestOnto ({ frames := 3, cells := 0, slots := 0, locals := 63 }) 0 0 E σ [.ref (E.2.2 k), .long d] (sX5_digestOnto_k2_r σ k d) σ := by
  refine g_met (mc := 0) (ms := 0) (nL := 7) (ret := (some .long)) (by decide) rfl (lv := [(0, .ref (E.2.2 k)), (1, .long d)]) rfl (Nat.le_of_ble_eq_true rfl) ?_
  intro p e s m below meth c S hr hlocks hC
  refine g_lload_n S 1 dX5_digestOnto_0 rfl ?_
  refine g_lstore_n S [(3, .long d), (0, .ref (E.2.2 k)), (1, .long d)] dX5_digestOnto_1 (by decide) rfl ?_
  refine g_aload_n S 1 dX5_digestOnto_2 rfl ?_
  refine g_calli (g_runU S hC (As := []) (rest := []) (k := k) hk hKk (by decide) rfl (kX2_size l E σ k hk hKk) (va_cwA 0 S.2.2.2.2 gX5_digestOnto_X2_size_u7X2 rfl rfl rfl hC.2.2.1.1.1 (by decide +kernel) ⟨Nat.le_of_ble_eq_true rfl, Nat.le_of_ble_eq_true rfl⟩) rfl rfl (Nat.le_of_ble_eq_true rfl) dX5_digestOnto_3 ⟨Nat.le_of_ble_eq_true rfl, Nat.le_of_ble_eq_true rfl⟩) ?_
  refine g_istore S [(5, .int (sX2_size_r σ k)), (3, .long d), (0, .ref (E.2.2 k)), (1, .long d)] dX5_digestOnto_6 (by decide) rfl ?_
  refine g_const S dX5_digestOnto_8 (v := 0) rfl ?_
  refine g_istore S [(6, .int (0 : Int32)), (5, .int (sX2_size_r σ k)), (3, .long d), (0, .ref (E.2.2 k)), (1, .long d)] dX5_digestOnto_9 (by decide) rfl ?_
  refine g_lvs [0, 2, 1, 3] (lv' := [(6, .int (0 : Int32)), (3, .long d), (5, .int (sX2_size_r σ k)), (0, .ref (E.2.2 k))]) rfl ?_
  refine g_loop 6 (fun i11 : Nat => σ) (fun i11 : Nat => [(6, .int (nI i11)), (3, .long (itr (stX5_digestOnto_k2_11 σ k d) i11 d)), (5, .int (sX2_size_r σ k)), (0, .ref (E.2.2 k))]) [] rfl rfl ?_ ?_
  · intro i11 hi11 ih_i11
    (try dsimp only at ih_i11 ⊢)
    refine g_iload S 0 dX5_digestOnto_11 rfl ?_
    refine g_iload S 2 dX5_digestOnto_13 rfl ?_
    refine g_icmp_ge S 38 dX5_digestOnto_15 (by decide) (fun c_1 => absurd c_1 (show ¬ nI 6 ≤ nI i11 from nI_ge hi11 (by omega))) (fun c_1 => ?_)
    refine g_lload_n S 1 dX5_digestOnto_18 rfl ?_
    refine g_ldc2 S (v := 31) (by decide +kernel) dX5_digestOnto_19 ?_
    refine g_lmul S dX5_digestOnto_22 ?_
    refine g_aload_n S 3 dX5_digestOnto_23 rfl ?_
    refine g_iload S 0 dX5_digestOnto_24 rfl ?_
    refine g_calli (g_runU S hC (As := [.int (nI i11)]) (rest := [.long ((itr (stX5_digestOnto_k2_11 σ k d) i11 d) * (31 : Int64))]) (k := k) hk hKk (by decide) rfl (kX2_tell l E σ k hk hKk i11 (by first | decide | omega)) (va_cwA 1 S.2.2.2.2 gX5_digestOnto_X2_tell_u15X2 rfl rfl rfl hC.2.2.1.1.2.1 (by decide +kernel) ⟨Nat.le_of_ble_eq_true rfl, Nat.le_of_ble_eq_true rfl⟩) rfl rfl (Nat.le_of_ble_eq_true rfl) dX5_digestOnto_26 ⟨Nat.le_of_ble_eq_true rfl, Nat.le_of_ble_eq_true rfl⟩) ?_
    refine g_i2l S dX5_digestOnto_29 ?_
    refine g_ladd S dX5_digestOnto_30 ?_
    refine g_lstore_n S [(3, .long (((itr (stX5_digestOnto_k2_11 σ k d) i11 d) * (31 : Int64)) + (Int32.toInt64 (sX2_tell_r σ k i11)))), (6, .int (nI i11)), (5, .int (sX2_size_r σ k)), (0, .ref (E.2.2 k))] dX5_digestOnto_31 (by decide) rfl ?_
    refine g_iinc S [(6, .int (nI (i11 + 1))), (3, .long (((itr (stX5_digestOnto_k2_11 σ k d) i11 d) * (31 : Int64)) + (Int32.toInt64 (sX2_tell_r σ k i11)))), (5, .int (sX2_size_r σ k)), (0, .ref (E.2.2 k))] 1 (nI (i11 + 1)) dX5_digestOnto_32 rfl (by exact nI_1 i11) (by decide) rfl ?_
    refine g_goto S 11 dX5_digestOnto_35 (by decide) ?_
    refine g_lvs [0, 1, 2, 3] (lv' := [(6, .int (nI (i11 + 1))), (3, .long (((itr (stX5_digestOnto_k2_11 σ k d) i11 d) * (31 : Int64)) + (Int32.toInt64 (sX2_tell_r σ k i11)))), (5, .int (sX2_size_r σ k)), (0, .ref (E.2.2 k))]) rfl ?_
    exact g_to ih_i11 (by rfl) (by rw [itr.eq_2]; rfl) rfl
  · skip
    (try dsimp only)
    refine g_iload S 0 dX5_digestOnto_11 rfl ?_
    refine g_iload S 2 dX5_digestOnto_13 rfl ?_
    refine g_icmp_ge S 38 dX5_digestOnto_15 (by decide) (fun c_2 => ?_) (fun c_2 => absurd (show nI 6 ≤ nI 6 from nI_le (Nat.le_refl _) (by omega)) c_2)
    refine g_lload_n S 1 dX5_digestOnto_38 rfl ?_
    exact g_lret S hr hlocks dX5_digestOnto_39 rfl rfl (Nat.le_of_ble_eq_true rfl) (Nat.le_of_ble_eq_true rfl)
def stX5_digestOnto_k3_11 (σ : gS) (k : Nat) (d : Int64) (j : Nat) (τ : Int64) : Int64 := (τ * (31 : Int64)) + (Int32.toInt64 (sX3_tell_r σ k j))
def sX5_digestOnto_k3_r (σ : gS) (k : Nat) (d : Int64) : Int64 := (itr (stX5_digestOnto_k3_11 σ k d) 5 d)
set_option maxRecDepth 100000 in
set_option maxHeartbeats 4000000 in
theorem kX5_digestOnto_k3 (l : Launch) (E : gT) (σ : gS) (k : Nat) (hk : k < 65) (hKk : gK k = 3) (d : Int64) : gMl l yX5_digestOnto wsX5_digestOnto ({ frames := 1, cells := 0, slots := 0, locals := 21 }) 0 0 E σ [.ref (E.2.2 k), .long d] (sX5_digestOnto_k3_r σ k d) σ := by
  refine g_met (mc := 0) (ms := 0) (nL := 7) (ret := (some .long)) (by decide) rfl (lv := [(0, .ref (E.2.2 k)), (1, .long d)]) rfl (Nat.le_of_ble_eq_true rfl) ?_
  intro p e s m below meth c S hr hlocks hC
  refine g_lload_n S 1 dX5_digestOnto_0 rfl ?_
  refine g_lstore_n S [(3, .long d), (0, .ref (E.2.2 k)), (1, .long d)] dX5_digestOnto_1 (by decide) rfl ?_
  refine g_aload_n S 1 dX5_digestOnto_2 rfl ?_
  refine g_calli (g_runU S hC (As := []) (rest := []) (k := k) hk hKk (by decide) rfl (kX3_size l E σ k hk hKk) (va_cwA 0 S.2.2.2.2 gX5_digestOnto_X3_size_u7X3 rfl rfl rfl hC.2.2.1.1.1 (by decide +kernel) ⟨Nat.le_of_ble_eq_true rfl, Nat.le_of_ble_eq_true rfl⟩) rfl rfl (Nat.le_of_ble_eq_true rfl) dX5_digestOnto_3 ⟨Nat.le_of_ble_eq_true rfl, Nat.le_of_ble_eq_true rfl⟩) ?_
  refine g_istore S [(5, .int (sX3_size_r σ k)), (3, .long d), (0, .ref (E.2.2 k)), (1, .long d)] dX5_digestOnto_6 (by decide) rfl ?_
  refine g_const S dX5_digestOnto_8 (v := 0) rfl ?_
  refine g_istore S [(6, .int (0 : Int32)), (5, .int (sX3_size_r σ k)), (3, .long d), (0, .ref (E.2.2 k)), (1, .long d)] dX5_digestOnto_9 (by decide) rfl ?_
  refine g_lvs [0, 2, 1, 3] (lv' := [(6, .int (0 : Int32)), (3, .long d), (5, .int (sX3_size_r σ k)), (0, .ref (E.2.2 k))]) rfl ?_
  refine g_loop 5 (fun i11 : Nat => σ) (fun i11 : Nat => [(6, .int (nI i11)), (3, .long (itr (stX5_digestOnto_k3_11 σ k d) i11 d)), (5, .int (sX3_size_r σ k)), (0, .ref (E.2.2 k))]) [] rfl rfl ?_ ?_
  · intro i11 hi11 ih_i11
    (try dsimp only at ih_i11 ⊢)
    refine g_iload S 0 dX5_digestOnto_11 rfl ?_
    refine g_iload S 2 dX5_digestOnto_13 rfl ?_
    refine g_icmp_ge S 38 dX5_digestOnto_15 (by decide) (fun c_1 => absurd c_1 (show ¬ nI 5 ≤ nI i11 from nI_ge hi11 (by omega))) (fun c_1 => ?_)
    refine g_lload_n S 1 dX5_digestOnto_18 rfl ?_
    refine g_ldc2 S (v := 31) (by decide +kernel) dX5_digestOnto_19 ?_
    refine g_lmul S dX5_digestOnto_22 ?_
    refine g_aload_n S 3 dX5_digestOnto_23 rfl ?_
    refine g_iload S 0 dX5_digestOnto_24 rfl ?_
    refine g_calli (g_runU S hC (As := [.int (nI i11)]) (rest := [.long ((itr (stX5_digestOnto_k3_11 σ k d) i11 d) * (31 : Int64))]) (k := k) hk hKk (by decide) rfl (kX3_tell l E σ k hk hKk i11 (by first | decide | omega)) (va_cwA 1 S.2.2.2.2 gX5_digestOnto_X3_tell_u15X3 rfl rfl rfl hC.2.2.1.1.2.1 (by decide +kernel) ⟨Nat.le_of_ble_eq_true rfl, Nat.le_of_ble_eq_true rfl⟩) rfl rfl (Nat.le_of_ble_eq_true rfl) dX5_digestOnto_26 ⟨Nat.le_of_ble_eq_true rfl, Nat.le_of_ble_eq_true rfl⟩) ?_
    refine g_i2l S dX5_digestOnto_29 ?_
    refine g_ladd S dX5_digestOnto_30 ?_
    refine g_lstore_n S [(3, .long (((itr (stX5_digestOnto_k3_11 σ k d) i11 d) * (31 : Int64)) + (Int32.toInt64 (sX3_tell_r σ k i11)))), (6, .int (nI i11)), (5, .int (sX3_size_r σ k)), (0, .ref (E.2.2 k))] dX5_digestOnto_31 (by decide) rfl ?_
    refine g_iinc S [(6, .int (nI (i11 + 1))), (3, .long (((itr (stX5_digestOnto_k3_11 σ k d) i11 d) * (31 : Int64)) + (Int32.toInt64 (sX3_tell_r σ k i11)))), (5, .int (sX3_size_r σ k)), (0, .ref (E.2.2 k))] 1 (nI (i11 + 1)) dX5_digestOnto_32 rfl (by exact nI_1 i11) (by decide) rfl ?_
    refine g_goto S 11 dX5_digestOnto_35 (by decide) ?_
    refine g_lvs [0, 1, 2, 3] (lv' := [(6, .int (nI (i11 + 1))), (3, .long (((itr (stX5_digestOnto_k3_11 σ k d) i11 d) * (31 : Int64)) + (Int32.toInt64 (sX3_tell_r σ k i11)))), (5, .int (sX3_size_r σ k)), (0, .ref (E.2.2 k))]) rfl ?_
    exact g_to ih_i11 (by rfl) (by rw [itr.eq_2]; rfl) rfl
  · skip
    (try dsimp only)
    refine g_iload S 0 dX5_digestOnto_11 rfl ?_
    refine g_iload S 2 dX5_digestOnto_13 rfl ?_
    refine g_icmp_ge S 38 dX5_digestOnto_15 (by decide) (fun c_2 => ?_) (fun c_2 => absurd (show nI 5 ≤ nI 5 from nI_le (Nat.le_refl _) (by omega)) c_2)
    refine g_lload_n S 1 dX5_digestOnto_38 rfl ?_
    exact g_lret S hr hlocks dX5_digestOnto_39 rfl rfl (Nat.le_of_ble_eq_true rfl) (Nat.le_of_ble_eq_true rfl)
def stX5_digestOnto_k5_11 (σ : gS) (t : Nat) (d : Int64) (j : Nat) (τ : Int64) : Int64 := (τ * (31 : Int64)) + (Int32.toInt64 (sX6_tell_r σ t j))
def sX5_digestOnto_k5_r (σ : gS) (t : Nat) (d : Int64) : Int64 := (itr (stX5_digestOnto_k5_11 σ t d) 9 d)
set_option maxRecDepth 100000 in
set_option maxHeartbeats 4000000 in
theorem kX5_digestOnto_k5 (l : Launch) (E : gT) (σ : gS) (t : Nat) (ht : gTw t) (d : Int64) : gMl l yX5_digestOnto wsX5_digestOnto ({ frames := 1, cells := 0, slots := 0, locals := 21 }) 0 0 E σ [.ref (E.2.2 t), .long d] (sX5_digestOnto_k5_r σ t d) σ := by
  refine g_met (mc := 0) (ms := 0) (nL := 7) (ret := (some .long)) (by decide) rfl (lv := [(0, .ref (E.2.2 t)), (1, .long d)]) rfl (Nat.le_of_ble_eq_true rfl) ?_
  intro p e s m below meth c S hr hlocks hC
  refine g_lload_n S 1 dX5_digestOnto_0 rfl ?_
  refine g_lstore_n S [(3, .long d), (0, .ref (E.2.2 t)), (1, .long d)] dX5_digestOnto_1 (by decide) rfl ?_
  refine g_aload_n S 1 dX5_digestOnto_2 rfl ?_
  refine g_calli (g_runU S hC (As := []) (rest := []) (k := t) (ht.lt (j := 0) (by decide)) ht.town (by decide) rfl (kX6_size l E σ t ht) (va_cwA 0 S.2.2.2.2 gX5_digestOnto_X6_size_u7X6 rfl rfl rfl hC.2.2.1.1.1 (by decide +kernel) ⟨Nat.le_of_ble_eq_true rfl, Nat.le_of_ble_eq_true rfl⟩) rfl rfl (Nat.le_of_ble_eq_true rfl) dX5_digestOnto_3 ⟨Nat.le_of_ble_eq_true rfl, Nat.le_of_ble_eq_true rfl⟩) ?_
  refine g_istore S [(5, .int (sX6_size_r σ t)), (3, .long d), (0, .ref (E.2.2 t)), (1, .long d)] dX5_digestOnto_6 (by decide) rfl ?_
  refine g_const S dX5_digestOnto_8 (v := 0) rfl ?_
  refine g_istore S [(6, .int (0 : Int32)), (5, .int (sX6_size_r σ t)), (3, .long d), (0, .ref (E.2.2 t)), (1, .long d)] dX5_digestOnto_9 (by decide) rfl ?_
  refine g_lvs [0, 2, 1, 3] (lv' := [(6, .int (0 : Int32)), (3, .long d), (5, .int (sX6_size_r σ t)), (0, .ref (E.2.2 t))]) rfl ?_
  refine g_loop 9 (fun i11 : Nat => σ) (fun i11 : Nat => [(6, .int (nI i11)), (3, .long (itr (stX5_digestOnto_k5_11 σ t d) i11 d)), (5, .int (sX6_size_r σ t)), (0, .ref (E.2.2 t))]) [] rfl rfl ?_ ?_
  · intro i11 hi11 ih_i11
    (try dsimp only at ih_i11 ⊢)
    refine g_iload S 0 dX5_digestOnto_11 rfl ?_
    refine g_iload S 2 dX5_digestOnto_13 rfl ?_
    refine g_icmp_ge S 38 dX5_digestOnto_15 (by decide) (fun c_1 => absurd c_1 (show ¬ nI 9 ≤ nI i11 from nI_ge hi11 (by omega))) (fun c_1 => ?_)
    refine g_lload_n S 1 dX5_digestOnto_18 rfl ?_
    refine g_ldc2 S (v := 31) (by decide +kernel) dX5_digestOnto_19 ?_
    refine g_lmul S dX5_digestOnto_22 ?_
    refine g_aload_n S 3 dX5_digestOnto_23 rfl ?_
    refine g_iload S 0 dX5_digestOnto_24 rfl ?_
    refine g_calli (g_runU S hC (As := [.int (nI i11)]) (rest := [.long ((itr (stX5_digestOnto_k5_11 σ t d) i11 d) * (31 : Int64))]) (k := t) (ht.lt (j := 0) (by decide)) ht.town (by decide) rfl (kX6_tell l E σ t ht i11 (by first | decide | omega)) (va_cwA 1 S.2.2.2.2 gX5_digestOnto_X6_tell_u15X6 rfl rfl rfl hC.2.2.1.1.2.1 (by decide +kernel) ⟨Nat.le_of_ble_eq_true rfl, Nat.le_of_ble_eq_true rfl⟩) rfl rfl (Nat.le_of_ble_eq_true rfl) dX5_digestOnto_26 ⟨Nat.le_of_ble_eq_true rfl, Nat.le_of_ble_eq_true rfl⟩) ?_
    refine g_i2l S dX5_digestOnto_29 ?_
    refine g_ladd S dX5_digestOnto_30 ?_
    refine g_lstore_n S [(3, .long (((itr (stX5_digestOnto_k5_11 σ t d) i11 d) * (31 : Int64)) + (Int32.toInt64 (sX6_tell_r σ t i11)))), (6, .int (nI i11)), (5, .int (sX6_size_r σ t)), (0, .ref (E.2.2 t))] dX5_digestOnto_31 (by decide) rfl ?_
    refine g_iinc S [(6, .int (nI (i11 + 1))), (3, .long (((itr (stX5_digestOnto_k5_11 σ t d) i11 d) * (31 : Int64)) + (Int32.toInt64 (sX6_tell_r σ t i11)))), (5, .int (sX6_size_r σ t)), (0, .ref (E.2.2 t))] 1 (nI (i11 + 1)) dX5_digestOnto_32 rfl (by exact nI_1 i11) (by decide) rfl ?_
    refine g_goto S 11 dX5_digestOnto_35 (by decide) ?_
    refine g_lvs [0, 1, 2, 3] (lv' := [(6, .int (nI (i11 + 1))), (3, .long (((itr (stX5_digestOnto_k5_11 σ t d) i11 d) * (31 : Int64)) + (Int32.toInt64 (sX6_tell_r σ t i11)))), (5, .int (sX6_size_r σ t)), (0, .ref (E.2.2 t))]) rfl ?_
    exact g_to ih_i11 (by rfl) (by rw [itr.eq_2]; rfl) rfl
  · skip
    (try dsimp only)
    refine g_iload S 0 dX5_digestOnto_11 rfl ?_
    refine g_iload S 2 dX5_digestOnto_13 rfl ?_
    refine g_icmp_ge S 38 dX5_digestOnto_15 (by decide) (fun c_2 => ?_) (fun c_2 => absurd (show nI 9 ≤ nI 9 from nI_le (Nat.le_refl _) (by omega)) c_2)
    refine g_lload_n S 1 dX5_digestOnto_38 rfl ?_
    exact g_lret S hr hlocks dX5_digestOnto_39 rfl rfl (Nat.le_of_ble_eq_true rfl) (Nat.le_of_ble_eq_true rfl)
def stX6_become_37  (j : Nat) (τ : gS) : gS := let S4701 := sX0_become_s τ (29 + 6 + j) (1 + 6 + j); S4701
def stX6_become_76  (j : Nat) (τ : gS) : gS := let S8601 := sX2_become_s τ (29 + 10 + j) (1 + 10 + j); S8601
def stX6_become_115  (j : Nat) (τ : gS) : gS := let S12501 := sX3_become_s τ (29 + 14 + j) (1 + 14 + j); S12501
def stX6_become_154  (j : Nat) (τ : gS) : gS := let S16401 := sX1_become_s τ (29 + 18 + j) (1 + 18 + j); S16401
def sX6_become_s (σ : gS) : gS := let S1 := gu σ 29 9 (σ.1 1 9); let S2 := gu S1 29 10 (S1.1 1 10); let S3 := sX4_become_s S2 34 6; let S4 := gu S3 29 5 (S3.1 1 5); let S6 := gu (itr (stX6_become_37) (tB σ 1 5) S4) 29 6 ((itr (stX6_become_37) (tB σ 1 5) S4).1 1 6); let S8 := gu (itr (stX6_become_76) (tB σ 1 6) S6) 29 7 ((itr (stX6_become_76) (tB σ 1 6) S6).1 1 7); let S10 := gu (itr (stX6_become_115) (tB σ 1 7) S8) 29 8 ((itr (stX6_become_115) (tB σ 1 7) S8).1 1 8); (itr (stX6_become_154) (tB σ 1 8) S10)
set_option maxRecDepth 100000 in
set_option maxHeartbeats 4000000 in
theorem kX6_become (l : Launch) (E : gT) (σ : gS) (hok : tOK σ 1) : gMv l yX6_become wsX6_become ({ frames := 1, cells := 0, slots := 0, locals := 21 }) 0 0 E σ [.ref (E.2.2 29), .ref (E.2.2 1)] (sX6_become_s σ) := by
  refine g_met (mc := 0) (ms := 0) (nL := 3) (ret := none) (by decide) rfl (lv := [(0, .ref (E.2.2 29)), (1, .ref (E.2.2 1))]) rfl (Nat.le_of_ble_eq_true rfl) ?_
  intro p e s m below meth c S hr hlocks hC
  have hiX6 : ∀ w ∈ wsX60, w ∈ wsX6_become := by decide +kernel
  refine g_aload_n S 0 dX6_become_0 rfl ?_
  refine g_aload_n S 1 dX6_become_1 rfl ?_
  refine gg5 S hC hiX6 (by decide) rfl 9 (by decide) (by decide +kernel) dX6_become_2 ?_
  refine gp5 S hC hiX6 (by decide) rfl 9 (by decide) (by decide +kernel) dX6_become_5 ?_
  refine g_nm (fun S1 hS1 => ?_)
  have hkS1 : S1.1 1 = σ.1 1 := by rw [hS1]; exact (gu_ne (by decide)).trans (rfl)
  refine g_aload_n S 0 dX6_become_8 rfl ?_
  refine g_aload_n S 1 dX6_become_9 rfl ?_
  refine gg5 S hC hiX6 (by decide) rfl 10 (by decide) (by decide +kernel) dX6_become_10 ?_
  refine gp5 S hC hiX6 (by decide) rfl 10 (by decide) (by decide +kernel) dX6_become_13 ?_
  refine g_nm (fun S2 hS2 => ?_)
  have hkS2 : S2.1 1 = σ.1 1 := by rw [hS2]; exact (gu_ne (by decide)).trans (hkS1)
  refine g_aload_n S 0 dX6_become_16 rfl ?_
  refine gg5r S hC hiX6 (by decide) rfl 4 (by decide) (by decide +kernel) dX6_become_17 ?_
  refine g_aload_n S 1 dX6_become_20 rfl ?_
  refine gg5r S hC hiX6 (by decide) rfl 4 (by decide) (by decide +kernel) dX6_become_21 ?_
  refine g_callv (g_runV S hC (As := [.ref (E.2.2 6)]) (rest := []) (k := 34) (by decide) rfl (by decide) rfl (kX4_become l E S2 34 (by decide) rfl 6 (by decide) rfl) (cwV 1 S.2.2.2.2 gX6_become_X4_become rfl rfl rfl (by decide +kernel) ⟨Nat.le_of_ble_eq_true rfl, Nat.le_of_ble_eq_true rfl⟩) rfl rfl (Nat.le_of_ble_eq_true rfl) dX6_become_24 ⟨Nat.le_of_ble_eq_true rfl, Nat.le_of_ble_eq_true rfl⟩) ?_
  refine g_nm (fun S3 hS3 => ?_)
  have hkS3 : S3.1 1 = σ.1 1 := by rw [hS3, fX4_become _ _ _ _ (by omega) ]; exact hkS2
  refine g_aload_n S 0 dX6_become_27 rfl ?_
  refine g_aload_n S 1 dX6_become_28 rfl ?_
  refine gg5 S hC hiX6 (by decide) rfl 5 (by decide) (by decide +kernel) dX6_become_29 ?_
  refine gp5 S hC hiX6 (by decide) rfl 5 (by decide) (by decide +kernel) dX6_become_32 ?_
  refine g_nm (fun S4 hS4 => ?_)
  have hkS4 : S4.1 1 = σ.1 1 := by rw [hS4]; exact (gu_ne (by decide)).trans (hkS3)
  refine g_const S dX6_become_35 (v := 0) rfl ?_
  refine g_istore_n S [(2, .int (0 : Int32)), (0, .ref (E.2.2 29)), (1, .ref (E.2.2 1))] dX6_become_36 (by decide) rfl ?_
  refine g_lvs [0, 1, 2] (lv' := [(2, .int (0 : Int32)), (0, .ref (E.2.2 29)), (1, .ref (E.2.2 1))]) rfl ?_
  have hfr37 : ∀ i, (itr (stX6_become_37) i S4).1 29 = S4.1 29 := fun i => itr_keep _ (fun x : gS => x.1 29) (by intro j x; unfold stX6_become_37; (try dsimp only); rw [fX0_become _ _ _ _ (by omega)]) i S4
  have hkp37 : ∀ i, (itr (stX6_become_37) i S4).1 1 = S4.1 1 := fun i => itr_keep _ (fun x : gS => x.1 1) (by intro j x; unfold stX6_become_37; (try dsimp only); rw [fX0_become _ _ _ _ (by omega)]) i S4
  have hle37 := hok.le5
  refine g_loop (tB σ 1 5) (fun i37 : Nat => (itr (stX6_become_37) i37 S4)) (fun i37 : Nat => [(2, .int (nI i37)), (0, .ref (E.2.2 29)), (1, .ref (E.2.2 1))]) [] rfl rfl ?_ ?_
  · intro i37 hi37 ih_i37
    (try dsimp only at ih_i37 ⊢)
    refine g_iload_n S 0 dX6_become_37 rfl ?_
    refine g_aload_n S 1 dX6_become_38 rfl ?_
    refine gg5 S hC hiX6 (by decide) rfl 5 (by decide) (by decide +kernel) dX6_become_39 ?_
    refine g_icmp_ge S 66 dX6_become_42 (by decide) (fun c_1 => absurd c_1 (by rw [congrFun (hfr37 i37) 5, hS4, gu_at, if_pos rfl, congrFun hkS3 5, hok.eq 5 (by decide) (by decide)]; exact nI_ge hi37 (by omega))) (fun c_1 => ?_)
    refine g_aload_n S 1 dX6_become_45 rfl ?_
    refine gg5r S hC hiX6 (by decide) rfl 0 (by decide) (by decide +kernel) dX6_become_46 ?_
    refine g_iload_n S 0 dX6_become_49 rfl ?_
    refine ga10 S hC (by decide) rfl i37 rfl (by show i37 < _; first | omega | (unfold gLen; simp; omega)) (29 + 6 + i37) (by omega) dX6_become_50 ?_
    refine g_aload_n S 2 dX6_become_51 rfl ?_
    refine gg5r S hC hiX6 (by decide) rfl 0 (by decide) (by decide +kernel) dX6_become_52 ?_
    refine g_iload_n S 0 dX6_become_55 rfl ?_
    refine ga10 S hC (by decide) rfl i37 rfl (by show i37 < _; first | omega | (unfold gLen; simp; omega)) (1 + 6 + i37) (by omega) dX6_become_56 ?_
    refine g_callv (g_runV S hC (As := [.ref (E.2.2 (1 + 6 + i37))]) (rest := []) (k := 29 + 6 + i37) (gT29.lt2 (a := 6) (by omega)) (gT29.bed (by omega)) (by decide) rfl (kX0_become l E (itr (stX6_become_37) i37 S4) (29 + 6 + i37) (gT29.lt2 (a := 6) (by omega)) (gT29.bed (by omega)) (1 + 6 + i37) (gT1.lt2 (a := 6) (by omega)) (gT1.bed (by omega))) (cwV 1 S.2.2.2.2 gX6_become_X0_become rfl rfl rfl (by decide +kernel) ⟨Nat.le_of_ble_eq_true rfl, Nat.le_of_ble_eq_true rfl⟩) rfl rfl (Nat.le_of_ble_eq_true rfl) dX6_become_57 ⟨Nat.le_of_ble_eq_true rfl, Nat.le_of_ble_eq_true rfl⟩) ?_
    refine g_nm (fun S5 hS5 => ?_)
    have hkS5 : S5.1 1 = σ.1 1 := by rw [hS5, fX0_become _ _ _ _ (by omega) ]; exact ((hkp37 i37).trans hkS4)
    refine g_iinc S [(2, .int (nI (i37 + 1))), (0, .ref (E.2.2 29)), (1, .ref (E.2.2 1))] 0 (nI (i37 + 1)) dX6_become_60 rfl (by exact nI_1 i37) (by decide) rfl ?_
    refine g_goto S 37 dX6_become_63 (by decide) ?_
    refine g_lvs [0, 1, 2] (lv' := [(2, .int (nI (i37 + 1))), (0, .ref (E.2.2 29)), (1, .ref (E.2.2 1))]) rfl ?_
    exact g_to ih_i37 (by subst hS5; rfl) (by subst hS5; rfl) rfl
  · skip
    (try dsimp only)
    refine g_iload_n S 0 dX6_become_37 rfl ?_
    refine g_aload_n S 1 dX6_become_38 rfl ?_
    refine gg5 S hC hiX6 (by decide) rfl 5 (by decide) (by decide +kernel) dX6_become_39 ?_
    refine g_icmp_ge S 66 dX6_become_42 (by decide) (fun c_2 => ?_) (fun c_2 => absurd (by rw [congrFun (hfr37 (tB σ 1 5)) 5, hS4, gu_at, if_pos rfl, congrFun hkS3 5, hok.eq 5 (by decide) (by decide)]; exact nI_le (Nat.le_refl _) (by omega)) c_2)
    refine g_aload_n S 1 dX6_become_66 rfl ?_
    refine g_aload_n S 2 dX6_become_67 rfl ?_
    refine gg5 S hC hiX6 (by decide) rfl 6 (by decide) (by decide +kernel) dX6_become_68 ?_
    refine gp5 S hC hiX6 (by decide) rfl 6 (by decide) (by decide +kernel) dX6_become_71 ?_
    refine g_nm (fun S6 hS6 => ?_)
    have hkS6 : S6.1 1 = σ.1 1 := by rw [hS6]; exact (gu_ne (by decide)).trans (((hkp37 (tB σ 1 5)).trans hkS4))
    refine g_const S dX6_become_74 (v := 0) rfl ?_
    refine g_istore_n S [(2, .int (0 : Int32)), (0, .ref (E.2.2 29)), (1, .ref (E.2.2 1))] dX6_become_75 (by decide) rfl ?_
    refine g_lvs [0, 1, 2] (lv' := [(2, .int (0 : Int32)), (0, .ref (E.2.2 29)), (1, .ref (E.2.2 1))]) rfl ?_
    have hfr76 : ∀ i, (itr (stX6_become_76) i S6).1 29 = S6.1 29 := fun i => itr_keep _ (fun x : gS => x.1 29) (by intro j x; unfold stX6_become_76; (try dsimp only); rw [fX2_become _ _ _ _ (by omega)]) i S6
    have hkp76 : ∀ i, (itr (stX6_become_76) i S6).1 1 = S6.1 1 := fun i => itr_keep _ (fun x : gS => x.1 1) (by intro j x; unfold stX6_become_76; (try dsimp only); rw [fX2_become _ _ _ _ (by omega)]) i S6
    have hle76 := hok.le6
    refine g_loop (tB σ 1 6) (fun i76 : Nat => (itr (stX6_become_76) i76 S6)) (fun i76 : Nat => [(2, .int (nI i76)), (0, .ref (E.2.2 29)), (1, .ref (E.2.2 1))]) [] rfl rfl ?_ ?_
    · intro i76 hi76 ih_i76
      (try dsimp only at ih_i76 ⊢)
      refine g_iload_n S 0 dX6_become_76 rfl ?_
      refine g_aload_n S 1 dX6_become_77 rfl ?_
      refine gg5 S hC hiX6 (by decide) rfl 6 (by decide) (by decide +kernel) dX6_become_78 ?_
      refine g_icmp_ge S 105 dX6_become_81 (by decide) (fun c_3 => absurd c_3 (by rw [congrFun (hfr76 i76) 6, hS6, gu_at, if_pos rfl, congrFun ((hkp37 (tB σ 1 5)).trans hkS4) 6, hok.eq 6 (by decide) (by decide)]; exact nI_ge hi76 (by omega))) (fun c_3 => ?_)
      refine g_aload_n S 1 dX6_become_84 rfl ?_
      refine gg5r S hC hiX6 (by decide) rfl 1 (by decide) (by decide +kernel) dX6_become_85 ?_
      refine g_iload_n S 0 dX6_become_88 rfl ?_
      refine ga11 S hC (by decide) rfl i76 rfl (by show i76 < _; first | omega | (unfold gLen; simp; omega)) (29 + 10 + i76) (by omega) dX6_become_89 ?_
      refine g_aload_n S 2 dX6_become_90 rfl ?_
      refine gg5r S hC hiX6 (by decide) rfl 1 (by decide) (by decide +kernel) dX6_become_91 ?_
      refine g_iload_n S 0 dX6_become_94 rfl ?_
      refine ga11 S hC (by decide) rfl i76 rfl (by show i76 < _; first | omega | (unfold gLen; simp; omega)) (1 + 10 + i76) (by omega) dX6_become_95 ?_
      refine g_callv (g_runV S hC (As := [.ref (E.2.2 (1 + 10 + i76))]) (rest := []) (k := 29 + 10 + i76) (gT29.lt2 (a := 10) (by omega)) (gT29.drum (by omega)) (by decide) rfl (kX2_become l E (itr (stX6_become_76) i76 S6) (29 + 10 + i76) (gT29.lt2 (a := 10) (by omega)) (gT29.drum (by omega)) (1 + 10 + i76) (gT1.lt2 (a := 10) (by omega)) (gT1.drum (by omega))) (cwV 1 S.2.2.2.2 gX6_become_X2_become rfl rfl rfl (by decide +kernel) ⟨Nat.le_of_ble_eq_true rfl, Nat.le_of_ble_eq_true rfl⟩) rfl rfl (Nat.le_of_ble_eq_true rfl) dX6_become_96 ⟨Nat.le_of_ble_eq_true rfl, Nat.le_of_ble_eq_true rfl⟩) ?_
      refine g_nm (fun S7 hS7 => ?_)
      have hkS7 : S7.1 1 = σ.1 1 := by rw [hS7, fX2_become _ _ _ _ (by omega) ]; exact ((hkp76 i76).trans hkS6)
      refine g_iinc S [(2, .int (nI (i76 + 1))), (0, .ref (E.2.2 29)), (1, .ref (E.2.2 1))] 0 (nI (i76 + 1)) dX6_become_99 rfl (by exact nI_1 i76) (by decide) rfl ?_
      refine g_goto S 76 dX6_become_102 (by decide) ?_
      refine g_lvs [0, 1, 2] (lv' := [(2, .int (nI (i76 + 1))), (0, .ref (E.2.2 29)), (1, .ref (E.2.2 1))]) rfl ?_
      exact g_to ih_i76 (by subst hS7; rfl) (by subst hS7; rfl) rfl
    · skip
      (try dsimp only)
      refine g_iload_n S 0 dX6_become_76 rfl ?_
      refine g_aload_n S 1 dX6_become_77 rfl ?_
      refine gg5 S hC hiX6 (by decide) rfl 6 (by decide) (by decide +kernel) dX6_become_78 ?_
      refine g_icmp_ge S 105 dX6_become_81 (by decide) (fun c_4 => ?_) (fun c_4 => absurd (by rw [congrFun (hfr76 (tB σ 1 6)) 6, hS6, gu_at, if_pos rfl, congrFun ((hkp37 (tB σ 1 5)).trans hkS4) 6, hok.eq 6 (by decide) (by decide)]; exact nI_le (Nat.le_refl _) (by omega)) c_4)
      refine g_aload_n S 1 dX6_become_105 rfl ?_
      refine g_aload_n S 2 dX6_become_106 rfl ?_
      refine gg5 S hC hiX6 (by decide) rfl 7 (by decide) (by decide +kernel) dX6_become_107 ?_
      refine gp5 S hC hiX6 (by decide) rfl 7 (by decide) (by decide +kernel) dX6_become_110 ?_
      refine g_nm (fun S8 hS8 => ?_)
      have hkS8 : S8.1 1 = σ.1 1 := by rw [hS8]; exact (gu_ne (by decide)).trans (((hkp76 (tB σ 1 6)).trans hkS6))
      refine g_const S dX6_become_113 (v := 0) rfl ?_
      refine g_istore_n S [(2, .int (0 : Int32)), (0, .ref (E.2.2 29)), (1, .ref (E.2.2 1))] dX6_become_114 (by decide) rfl ?_
      refine g_lvs [0, 1, 2] (lv' := [(2, .int (0 : Int32)), (0, .ref (E.2.2 29)), (1, .ref (E.2.2 1))]) rfl ?_
      have hfr115 : ∀ i, (itr (stX6_become_115) i S8).1 29 = S8.1 29 := fun i => itr_keep _ (fun x : gS => x.1 29) (by intro j x; unfold stX6_become_115; (try dsimp only); rw [fX3_become _ _ _ _ (by omega)]) i S8
      have hkp115 : ∀ i, (itr (stX6_become_115) i S8).1 1 = S8.1 1 := fun i => itr_keep _ (fun x : gS => x.1 1) (by intro j x; unfold stX6_become_115; (try dsimp only); rw [fX3_become _ _ _ _ (by omega)]) i S8
      have hle115 := hok.le7
      refine g_loop (tB σ 1 7) (fun i115 : Nat => (itr (stX6_become_115) i115 S8)) (fun i115 : Nat => [(2, .int (nI i115)), (0, .ref (E.2.2 29)), (1, .ref (E.2.2 1))]) [] rfl rfl ?_ ?_
      · intro i115 hi115 ih_i115
        (try dsimp only at ih_i115 ⊢)
        refine g_iload_n S 0 dX6_become_115 rfl ?_
        refine g_aload_n S 1 dX6_become_116 rfl ?_
        refine gg5 S hC hiX6 (by decide) rfl 7 (by decide) (by decide +kernel) dX6_become_117 ?_
        refine g_icmp_ge S 144 dX6_become_120 (by decide) (fun c_5 => absurd c_5 (by rw [congrFun (hfr115 i115) 7, hS8, gu_at, if_pos rfl, congrFun ((hkp76 (tB σ 1 6)).trans hkS6) 7, hok.eq 7 (by decide) (by decide)]; exact nI_ge hi115 (by omega))) (fun c_5 => ?_)
        refine g_aload_n S 1 dX6_become_123 rfl ?_
        refine gg5r S hC hiX6 (by decide) rfl 2 (by decide) (by decide +kernel) dX6_become_124 ?_
        refine g_iload_n S 0 dX6_become_127 rfl ?_
        refine ga12 S hC (by decide) rfl i115 rfl (by show i115 < _; first | omega | (unfold gLen; simp; omega)) (29 + 14 + i115) (by omega) dX6_become_128 ?_
        refine g_aload_n S 2 dX6_become_129 rfl ?_
        refine gg5r S hC hiX6 (by decide) rfl 2 (by decide) (by decide +kernel) dX6_become_130 ?_
        refine g_iload_n S 0 dX6_become_133 rfl ?_
        refine ga12 S hC (by decide) rfl i115 rfl (by show i115 < _; first | omega | (unfold gLen; simp; omega)) (1 + 14 + i115) (by omega) dX6_become_134 ?_
        refine g_callv (g_runV S hC (As := [.ref (E.2.2 (1 + 14 + i115))]) (rest := []) (k := 29 + 14 + i115) (gT29.lt2 (a := 14) (by omega)) (gT29.smug (by omega)) (by decide) rfl (kX3_become l E (itr (stX6_become_115) i115 S8) (29 + 14 + i115) (gT29.lt2 (a := 14) (by omega)) (gT29.smug (by omega)) (1 + 14 + i115) (gT1.lt2 (a := 14) (by omega)) (gT1.smug (by omega))) (cwV 1 S.2.2.2.2 gX6_become_X3_become rfl rfl rfl (by decide +kernel) ⟨Nat.le_of_ble_eq_true rfl, Nat.le_of_ble_eq_true rfl⟩) rfl rfl (Nat.le_of_ble_eq_true rfl) dX6_become_135 ⟨Nat.le_of_ble_eq_true rfl, Nat.le_of_ble_eq_true rfl⟩) ?_
        refine g_nm (fun S9 hS9 => ?_)
        have hkS9 : S9.1 1 = σ.1 1 := by rw [hS9, fX3_become _ _ _ _ (by omega) ]; exact ((hkp115 i115).trans hkS8)
        refine g_iinc S [(2, .int (nI (i115 + 1))), (0, .ref (E.2.2 29)), (1, .ref (E.2.2 1))] 0 (nI (i115 + 1)) dX6_become_138 rfl (by exact nI_1 i115) (by decide) rfl ?_
        refine g_goto S 115 dX6_become_141 (by decide) ?_
        refine g_lvs [0, 1, 2] (lv' := [(2, .int (nI (i115 + 1))), (0, .ref (E.2.2 29)), (1, .ref (E.2.2 1))]) rfl ?_
        exact g_to ih_i115 (by subst hS9; rfl) (by subst hS9; rfl) rfl
      · skip
        (try dsimp only)
        refine g_iload_n S 0 dX6_become_115 rfl ?_
        refine g_aload_n S 1 dX6_become_116 rfl ?_
        refine gg5 S hC hiX6 (by decide) rfl 7 (by decide) (by decide +kernel) dX6_become_117 ?_
        refine g_icmp_ge S 144 dX6_become_120 (by decide) (fun c_6 => ?_) (fun c_6 => absurd (by rw [congrFun (hfr115 (tB σ 1 7)) 7, hS8, gu_at, if_pos rfl, congrFun ((hkp76 (tB σ 1 6)).trans hkS6) 7, hok.eq 7 (by decide) (by decide)]; exact nI_le (Nat.le_refl _) (by omega)) c_6)
        refine g_aload_n S 1 dX6_become_144 rfl ?_
        refine g_aload_n S 2 dX6_become_145 rfl ?_
        refine gg5 S hC hiX6 (by decide) rfl 8 (by decide) (by decide +kernel) dX6_become_146 ?_
        refine gp5 S hC hiX6 (by decide) rfl 8 (by decide) (by decide +kernel) dX6_become_149 ?_
        refine g_nm (fun S10 hS10 => ?_)
        have hkS10 : S10.1 1 = σ.1 1 := by rw [hS10]; exact (gu_ne (by decide)).trans (((hkp115 (tB σ 1 7)).trans hkS8))
        refine g_const S dX6_become_152 (v := 0) rfl ?_
        refine g_istore_n S [(2, .int (0 : Int32)), (0, .ref (E.2.2 29)), (1, .ref (E.2.2 1))] dX6_become_153 (by decide) rfl ?_
        refine g_lvs [0, 1, 2] (lv' := [(2, .int (0 : Int32)), (0, .ref (E.2.2 29)), (1, .ref (E.2.2 1))]) rfl ?_
        have hfr154 : ∀ i, (itr (stX6_become_154) i S10).1 29 = S10.1 29 := fun i => itr_keep _ (fun x : gS => x.1 29) (by intro j x; unfold stX6_become_154; (try dsimp only); rw [fX1_become _ _ _ _ (by omega)]) i S10
        have hkp154 : ∀ i, (itr (stX6_become_154) i S10).1 1 = S10.1 1 := fun i => itr_keep _ (fun x : gS => x.1 1) (by intro j x; unfold stX6_become_154; (try dsimp only); rw [fX1_become _ _ _ _ (by omega)]) i S10
        have hle154 := hok.le8
        refine g_loop (tB σ 1 8) (fun i154 : Nat => (itr (stX6_become_154) i154 S10)) (fun i154 : Nat => [(2, .int (nI i154)), (0, .ref (E.2.2 29)), (1, .ref (E.2.2 1))]) [] rfl rfl ?_ ?_
        · intro i154 hi154 ih_i154
          (try dsimp only at ih_i154 ⊢)
          refine g_iload_n S 0 dX6_become_154 rfl ?_
          refine g_aload_n S 1 dX6_become_155 rfl ?_
          refine gg5 S hC hiX6 (by decide) rfl 8 (by decide) (by decide +kernel) dX6_become_156 ?_
          refine g_icmp_ge S 183 dX6_become_159 (by decide) (fun c_7 => absurd c_7 (by rw [congrFun (hfr154 i154) 8, hS10, gu_at, if_pos rfl, congrFun ((hkp115 (tB σ 1 7)).trans hkS8) 8, hok.eq 8 (by decide) (by decide)]; exact nI_ge hi154 (by omega))) (fun c_7 => ?_)
          refine g_aload_n S 1 dX6_become_162 rfl ?_
          refine gg5r S hC hiX6 (by decide) rfl 3 (by decide) (by decide +kernel) dX6_become_163 ?_
          refine g_iload_n S 0 dX6_become_166 rfl ?_
          refine ga13 S hC (by decide) rfl i154 rfl (by show i154 < _; first | omega | (unfold gLen; simp; omega)) (29 + 18 + i154) (by omega) dX6_become_167 ?_
          refine g_aload_n S 2 dX6_become_168 rfl ?_
          refine gg5r S hC hiX6 (by decide) rfl 3 (by decide) (by decide +kernel) dX6_become_169 ?_
          refine g_iload_n S 0 dX6_become_172 rfl ?_
          refine ga13 S hC (by decide) rfl i154 rfl (by show i154 < _; first | omega | (unfold gLen; simp; omega)) (1 + 18 + i154) (by omega) dX6_become_173 ?_
          refine g_callv (g_runV S hC (As := [.ref (E.2.2 (1 + 18 + i154))]) (rest := []) (k := 29 + 18 + i154) (gT29.lt2 (a := 18) (by omega)) (gT29.card (by omega)) (by decide) rfl (kX1_become l E (itr (stX6_become_154) i154 S10) (29 + 18 + i154) (gT29.lt2 (a := 18) (by omega)) (gT29.card (by omega)) (1 + 18 + i154) (gT1.lt2 (a := 18) (by omega)) (gT1.card (by omega))) (cwV 1 S.2.2.2.2 gX6_become_X1_become rfl rfl rfl (by decide +kernel) ⟨Nat.le_of_ble_eq_true rfl, Nat.le_of_ble_eq_true rfl⟩) rfl rfl (Nat.le_of_ble_eq_true rfl) dX6_become_174 ⟨Nat.le_of_ble_eq_true rfl, Nat.le_of_ble_eq_true rfl⟩) ?_
          refine g_nm (fun S11 hS11 => ?_)
          have hkS11 : S11.1 1 = σ.1 1 := by rw [hS11, fX1_become _ _ _ _ (by omega) ]; exact ((hkp154 i154).trans hkS10)
          refine g_iinc S [(2, .int (nI (i154 + 1))), (0, .ref (E.2.2 29)), (1, .ref (E.2.2 1))] 0 (nI (i154 + 1)) dX6_become_177 rfl (by exact nI_1 i154) (by decide) rfl ?_
          refine g_goto S 154 dX6_become_180 (by decide) ?_
          refine g_lvs [0, 1, 2] (lv' := [(2, .int (nI (i154 + 1))), (0, .ref (E.2.2 29)), (1, .ref (E.2.2 1))]) rfl ?_
          exact g_to ih_i154 (by subst hS11; rfl) (by subst hS11; rfl) rfl
        · skip
          (try dsimp only)
          refine g_iload_n S 0 dX6_become_154 rfl ?_
          refine g_aload_n S 1 dX6_become_155 rfl ?_
          refine gg5 S hC hiX6 (by decide) rfl 8 (by decide) (by decide +kernel) dX6_become_156 ?_
          refine g_icmp_ge S 183 dX6_become_159 (by decide) (fun c_8 => ?_) (fun c_8 => absurd (by rw [congrFun (hfr154 (tB σ 1 8)) 8, hS10, gu_at, if_pos rfl, congrFun ((hkp115 (tB σ 1 7)).trans hkS8) 8, hok.eq 8 (by decide) (by decide)]; exact nI_le (Nat.le_refl _) (by omega)) c_8)
          exact g_vret S hr hlocks dX6_become_183 (by subst hS10 hS8 hS6 hS4 hS3 hS2 hS1; rfl) (Nat.le_of_ble_eq_true rfl) (Nat.le_of_ble_eq_true rfl)
