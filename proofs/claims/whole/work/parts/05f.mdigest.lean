def stX8_digest_11 (σ : gS) (j11 : Nat) (τ : Int64) : Int64 := (τ * (31 : Int64)) + (Int32.toInt64 (σ.1 62 j11))
def stX8_digest_50 (σ : gS) (j39 : Nat) (j50 : Nat) (τ : Int64) : Int64 := (τ * (31 : Int64)) + (Int32.toInt64 (sX8_bedIs_r σ j39 j50))
def stX8_digest_39 (σ : gS) (j39 : Nat) (τ : Int64) : Int64 := let D4901 := itr (stX8_digest_50 σ j39) 3 τ; D4901
def stX8_digest_96 (σ : gS) (j85 : Nat) (j96 : Nat) (τ : Int64) : Int64 := (τ * (31 : Int64)) + (Int32.toInt64 (sX8_drumIs_r σ j85 j96))
def stX8_digest_85 (σ : gS) (j85 : Nat) (τ : Int64) : Int64 := let D9501 := itr (stX8_digest_96 σ j85) 6 τ; D9501
def stX8_digest_143 (σ : gS) (j132 : Nat) (j143 : Nat) (τ : Int64) : Int64 := (τ * (31 : Int64)) + (Int32.toInt64 (sX8_smugglerIs_r σ j132 j143))
def stX8_digest_132 (σ : gS) (j132 : Nat) (τ : Int64) : Int64 := let D14201 := itr (stX8_digest_143 σ j132) 5 τ; D14201
def stX8_digest_189 (σ : gS) (j178 : Nat) (j189 : Nat) (τ : Int64) : Int64 := (τ * (31 : Int64)) + (Int32.toInt64 (sX8_cardIs_r σ j178 j189))
def stX8_digest_178 (σ : gS) (j178 : Nat) (τ : Int64) : Int64 := let D18801 := itr (stX8_digest_189 σ j178) 5 τ; D18801
def sX8_digest_r (σ : gS) : Int64 := let S1 := gu σ 57 0 (0 : Int32); let D2 := itr (stX8_digest_11 S1) 9 (1723 : Int64); let D4 := itr (stX8_digest_39 S1) (mB σ 1) D2; let D6 := itr (stX8_digest_85 S1) (mB σ 2) D4; let D8 := itr (stX8_digest_132 S1) (mB σ 3) D6; let D10 := itr (stX8_digest_178 S1) (mB σ 4) D8; D10
def sX8_digest_s (σ : gS) : gS := let S1 := gu σ 57 0 (0 : Int32); S1
theorem fX8_digest (σ : gS) (x : Nat) (hx57 : x ≠ 57) : (sX8_digest_s σ).1 x = σ.1 x := by
  unfold sX8_digest_s
  (try dsimp only)
  (repeat' split)
  all_goals (simp [gu_ne, gcp, *])
set_option maxRecDepth 100000 in
set_option maxHeartbeats 4000000 in
theorem kX8_digest (l : Launch) (E : gT) (σ : gS) (hok : mOK σ) : gMl l yX8_digest wsX8_digest ({ frames := 3, cells := 0, slots := 0, locals := 65 }) 0 0 E σ [.ref (E.2.2 57)] (sX8_digest_r σ) (sX8_digest_s σ) := by
  refine g_met (mc := 0) (ms := 0) (nL := 5) (ret := (some .long)) (by decide) rfl (lv := [(0, .ref (E.2.2 57))]) rfl (Nat.le_of_ble_eq_true rfl) ?_
  intro p e s m below meth c S hr hlocks hC
  have hiX8 : ∀ w ∈ wsX80, w ∈ wsX8_digest := by decide +kernel
  refine g_aload_n S 0 dX8_digest_0 rfl ?_
  refine g_const S dX8_digest_1 (v := 0) rfl ?_
  refine gp7 S hC hiX8 (by decide) rfl 0 (by decide) (by decide +kernel) dX8_digest_2 ?_
  refine g_nm (fun S1 hS1 => ?_)
  have kqS1 := kq_p0 hS1 (kq_0)
  have okS1 := mOK.p0 hS1 (hok)
  refine g_ldc2 S (v := 1723) (by decide +kernel) dX8_digest_5 ?_
  refine g_lstore_n S [(1, .long (1723 : Int64)), (0, .ref (E.2.2 57))] dX8_digest_8 (by decide) rfl ?_
  refine g_const S dX8_digest_9 (v := 0) rfl ?_
  refine g_istore_n S [(3, .int (0 : Int32)), (1, .long (1723 : Int64)), (0, .ref (E.2.2 57))] dX8_digest_10 (by decide) rfl ?_
  refine g_lvs [0, 1, 2] (lv' := [(3, .int (0 : Int32)), (1, .long (1723 : Int64)), (0, .ref (E.2.2 57))]) rfl ?_
  refine g_loop 9 (fun i11 : Nat => S1) (fun i11 : Nat => [(3, .int (nI i11)), (1, .long (itr (stX8_digest_11 S1) i11 (1723 : Int64))), (0, .ref (E.2.2 57))]) [] rfl (by rw [itr.eq_1]; rfl) ?_ ?_
  · intro i11 hi11 ih_i11
    (try dsimp only at ih_i11 ⊢)
    refine g_iload_n S 0 dX8_digest_11 rfl ?_
    refine g_bipush S dX8_digest_12 (v := 9) rfl ?_
    refine g_icmp_ge S 37 dX8_digest_14 (by decide) (fun c_1 => absurd c_1 (nI_ge (b := 9) hi11 (by omega))) (fun c_1 => ?_)
    refine g_lload_n S 1 dX8_digest_17 rfl ?_
    refine g_ldc2 S (v := 31) (by decide +kernel) dX8_digest_18 ?_
    refine g_lmul S dX8_digest_21 ?_
    refine g_aload_n S 2 dX8_digest_22 rfl ?_
    refine gg7r S hC hiX8 (by decide) rfl 9 (by decide) (by decide +kernel) dX8_digest_23 ?_
    refine g_iload_n S 0 dX8_digest_26 rfl ?_
    refine g_iald S hC (by decide) rfl i11 rfl (show i11 < 72 by omega) (by decide) dX8_digest_27 ?_
    refine g_i2l S dX8_digest_28 ?_
    refine g_ladd S dX8_digest_29 ?_
    refine g_lstore_n S [(1, .long (((itr (stX8_digest_11 S1) i11 (1723 : Int64)) * (31 : Int64)) + (Int32.toInt64 (S1.1 62 i11)))), (3, .int (nI i11)), (0, .ref (E.2.2 57))] dX8_digest_30 (by decide) rfl ?_
    refine g_iinc S [(3, .int (nI (i11 + 1))), (1, .long (((itr (stX8_digest_11 S1) i11 (1723 : Int64)) * (31 : Int64)) + (Int32.toInt64 (S1.1 62 i11)))), (0, .ref (E.2.2 57))] 1 (nI (i11 + 1)) dX8_digest_31 rfl (by exact nI_1 i11) (by decide) rfl ?_
    refine g_goto S 11 dX8_digest_34 (by decide) ?_
    refine g_lvs [0, 1, 2] (lv' := [(3, .int (nI (i11 + 1))), (1, .long (((itr (stX8_digest_11 S1) i11 (1723 : Int64)) * (31 : Int64)) + (Int32.toInt64 (S1.1 62 i11)))), (0, .ref (E.2.2 57))]) rfl ?_
    exact g_to ih_i11 (by rfl) (by rw [itr.eq_2]; rfl) rfl
  · skip
    (try dsimp only)
    generalize hD2 : itr (stX8_digest_11 S1) 9 (1723 : Int64) = D2
    refine g_iload_n S 0 dX8_digest_11 rfl ?_
    refine g_bipush S dX8_digest_12 (v := 9) rfl ?_
    refine g_icmp_ge S 37 dX8_digest_14 (by decide) (fun c_2 => ?_) (fun c_2 => absurd (nI_le (a := 9) (b := 9) (Nat.le_refl _) (by omega)) c_2)
    refine g_const S dX8_digest_37 (v := 0) rfl ?_
    refine g_istore_n S [(3, .int (0 : Int32)), (1, .long D2), (0, .ref (E.2.2 57))] dX8_digest_38 (by decide) rfl ?_
    refine g_lvs [0, 1, 2] (lv' := [(3, .int (0 : Int32)), (1, .long D2), (0, .ref (E.2.2 57))]) rfl ?_
    have hle39 := hok.le1
    refine g_loop (mB σ 1) (fun i39 : Nat => S1) (fun i39 : Nat => [(3, .int (nI i39)), (1, .long (itr (stX8_digest_39 S1) i39 D2)), (0, .ref (E.2.2 57))]) [] rfl (by rw [itr.eq_1]; rfl) ?_ ?_
    · intro i39 hi39 ih_i39
      (try dsimp only at ih_i39 ⊢)
      refine g_iload_n S 0 dX8_digest_39 rfl ?_
      refine g_aload_n S 2 dX8_digest_40 rfl ?_
      refine gg7 S hC hiX8 (by decide) rfl 1 (by decide) (by decide +kernel) dX8_digest_41 ?_
      refine g_icmp_ge S 83 dX8_digest_44 (by decide) (fun c_3 => absurd c_3 (by rw [kqS1 1 (by decide), hok.eq 1 (by decide) (by decide)]; exact nI_ge hi39 (by omega))) (fun c_3 => ?_)
      refine g_const S dX8_digest_47 (v := 0) rfl ?_
      refine g_istore S [(4, .int (0 : Int32)), (3, .int (nI i39)), (1, .long (itr (stX8_digest_39 S1) i39 D2)), (0, .ref (E.2.2 57))] dX8_digest_48 (by decide) rfl ?_
      refine g_lvs [0, 2, 1, 3] (lv' := [(4, .int (0 : Int32)), (1, .long (itr (stX8_digest_39 S1) i39 D2)), (3, .int (nI i39)), (0, .ref (E.2.2 57))]) rfl ?_
      refine g_loop 3 (fun i50 : Nat => S1) (fun i50 : Nat => [(4, .int (nI i50)), (1, .long (itr (stX8_digest_50 S1 i39) i50 (itr (stX8_digest_39 S1) i39 D2))), (3, .int (nI i39)), (0, .ref (E.2.2 57))]) [] rfl (by rw [itr.eq_1]; rfl) ?_ ?_
      · intro i50 hi50 ih_i50
        (try dsimp only at ih_i50 ⊢)
        refine g_iload S 0 dX8_digest_50 rfl ?_
        refine g_const S dX8_digest_52 (v := 3) rfl ?_
        refine g_icmp_ge S 77 dX8_digest_53 (by decide) (fun c_4 => absurd c_4 (nI_ge (b := 3) hi50 (by omega))) (fun c_4 => ?_)
        refine g_lload_n S 1 dX8_digest_56 rfl ?_
        refine g_ldc2 S (v := 31) (by decide +kernel) dX8_digest_57 ?_
        refine g_lmul S dX8_digest_60 ?_
        refine g_aload_n S 3 dX8_digest_61 rfl ?_
        refine g_iload_n S 2 dX8_digest_62 rfl ?_
        refine g_iload S 0 dX8_digest_63 rfl ?_
        refine g_calli (g_runV S hC (As := [.int (nI i39), .int (nI i50)]) (rest := [.long ((itr (stX8_digest_50 S1 i39) i50 (itr (stX8_digest_39 S1) i39 D2)) * (31 : Int64))]) (k := 57) (by decide) rfl (by decide) rfl (kX8_bedIs l E S1 (nI i39) i39 rfl (by omega) (nI i50) i50 rfl (by omega)) (cwV 2 S.2.2.2.2 gX8_digest_X8_bedIs rfl rfl rfl (by decide +kernel) ⟨Nat.le_of_ble_eq_true rfl, Nat.le_of_ble_eq_true rfl⟩) rfl rfl (Nat.le_of_ble_eq_true rfl) dX8_digest_65 ⟨Nat.le_of_ble_eq_true rfl, Nat.le_of_ble_eq_true rfl⟩) ?_
        refine g_i2l S dX8_digest_68 ?_
        refine g_ladd S dX8_digest_69 ?_
        refine g_lstore_n S [(1, .long (((itr (stX8_digest_50 S1 i39) i50 (itr (stX8_digest_39 S1) i39 D2)) * (31 : Int64)) + (Int32.toInt64 (sX8_bedIs_r S1 i39 i50)))), (4, .int (nI i50)), (3, .int (nI i39)), (0, .ref (E.2.2 57))] dX8_digest_70 (by decide) rfl ?_
        refine g_iinc S [(4, .int (nI (i50 + 1))), (1, .long (((itr (stX8_digest_50 S1 i39) i50 (itr (stX8_digest_39 S1) i39 D2)) * (31 : Int64)) + (Int32.toInt64 (sX8_bedIs_r S1 i39 i50)))), (3, .int (nI i39)), (0, .ref (E.2.2 57))] 1 (nI (i50 + 1)) dX8_digest_71 rfl (by exact nI_1 i50) (by decide) rfl ?_
        refine g_goto S 50 dX8_digest_74 (by decide) ?_
        refine g_lvs [0, 1, 2, 3] (lv' := [(4, .int (nI (i50 + 1))), (1, .long (((itr (stX8_digest_50 S1 i39) i50 (itr (stX8_digest_39 S1) i39 D2)) * (31 : Int64)) + (Int32.toInt64 (sX8_bedIs_r S1 i39 i50)))), (3, .int (nI i39)), (0, .ref (E.2.2 57))]) rfl ?_
        exact g_to ih_i50 (by rfl) (by rw [itr.eq_2]; rfl) rfl
      · skip
        (try dsimp only)
        generalize hD3 : itr (stX8_digest_50 S1 i39) 3 (itr (stX8_digest_39 S1) i39 D2) = D3
        refine g_iload S 0 dX8_digest_50 rfl ?_
        refine g_const S dX8_digest_52 (v := 3) rfl ?_
        refine g_icmp_ge S 77 dX8_digest_53 (by decide) (fun c_5 => ?_) (fun c_5 => absurd (nI_le (a := 3) (b := 3) (Nat.le_refl _) (by omega)) c_5)
        refine g_iinc S [(3, .int (nI (i39 + 1))), (4, .int (nI 3)), (1, .long D3), (0, .ref (E.2.2 57))] 2 (nI (i39 + 1)) dX8_digest_77 rfl (by exact nI_1 i39) (by decide) rfl ?_
        refine g_goto S 39 dX8_digest_80 (by decide) ?_
        refine g_lvs [0, 2, 3] (lv' := [(3, .int (nI (i39 + 1))), (1, .long D3), (0, .ref (E.2.2 57))]) rfl ?_
        exact g_to ih_i39 (by subst hD3; rfl) (by (first | rw [hD3] | rw [← hD3] | skip); rw [itr.eq_2]; rfl) rfl
    · skip
      (try dsimp only)
      generalize hD4 : itr (stX8_digest_39 S1) (mB σ 1) D2 = D4
      refine g_iload_n S 0 dX8_digest_39 rfl ?_
      refine g_aload_n S 2 dX8_digest_40 rfl ?_
      refine gg7 S hC hiX8 (by decide) rfl 1 (by decide) (by decide +kernel) dX8_digest_41 ?_
      refine g_icmp_ge S 83 dX8_digest_44 (by decide) (fun c_6 => ?_) (fun c_6 => absurd (by rw [kqS1 1 (by decide), hok.eq 1 (by decide) (by decide)]; exact nI_le (Nat.le_refl _) (by omega)) c_6)
      refine g_const S dX8_digest_83 (v := 0) rfl ?_
      refine g_istore_n S [(3, .int (0 : Int32)), (1, .long D4), (0, .ref (E.2.2 57))] dX8_digest_84 (by decide) rfl ?_
      refine g_lvs [0, 1, 2] (lv' := [(3, .int (0 : Int32)), (1, .long D4), (0, .ref (E.2.2 57))]) rfl ?_
      have hle85 := hok.le2
      refine g_loop (mB σ 2) (fun i85 : Nat => S1) (fun i85 : Nat => [(3, .int (nI i85)), (1, .long (itr (stX8_digest_85 S1) i85 D4)), (0, .ref (E.2.2 57))]) [] rfl (by rw [itr.eq_1]; rfl) ?_ ?_
      · intro i85 hi85 ih_i85
        (try dsimp only at ih_i85 ⊢)
        refine g_iload_n S 0 dX8_digest_85 rfl ?_
        refine g_aload_n S 2 dX8_digest_86 rfl ?_
        refine gg7 S hC hiX8 (by decide) rfl 2 (by decide) (by decide +kernel) dX8_digest_87 ?_
        refine g_icmp_ge S 130 dX8_digest_90 (by decide) (fun c_7 => absurd c_7 (by rw [kqS1 2 (by decide), hok.eq 2 (by decide) (by decide)]; exact nI_ge hi85 (by omega))) (fun c_7 => ?_)
        refine g_const S dX8_digest_93 (v := 0) rfl ?_
        refine g_istore S [(4, .int (0 : Int32)), (3, .int (nI i85)), (1, .long (itr (stX8_digest_85 S1) i85 D4)), (0, .ref (E.2.2 57))] dX8_digest_94 (by decide) rfl ?_
        refine g_lvs [0, 2, 1, 3] (lv' := [(4, .int (0 : Int32)), (1, .long (itr (stX8_digest_85 S1) i85 D4)), (3, .int (nI i85)), (0, .ref (E.2.2 57))]) rfl ?_
        refine g_loop 6 (fun i96 : Nat => S1) (fun i96 : Nat => [(4, .int (nI i96)), (1, .long (itr (stX8_digest_96 S1 i85) i96 (itr (stX8_digest_85 S1) i85 D4))), (3, .int (nI i85)), (0, .ref (E.2.2 57))]) [] rfl (by rw [itr.eq_1]; rfl) ?_ ?_
        · intro i96 hi96 ih_i96
          (try dsimp only at ih_i96 ⊢)
          refine g_iload S 0 dX8_digest_96 rfl ?_
          refine g_bipush S dX8_digest_98 (v := 6) rfl ?_
          refine g_icmp_ge S 124 dX8_digest_100 (by decide) (fun c_8 => absurd c_8 (nI_ge (b := 6) hi96 (by omega))) (fun c_8 => ?_)
          refine g_lload_n S 1 dX8_digest_103 rfl ?_
          refine g_ldc2 S (v := 31) (by decide +kernel) dX8_digest_104 ?_
          refine g_lmul S dX8_digest_107 ?_
          refine g_aload_n S 3 dX8_digest_108 rfl ?_
          refine g_iload_n S 2 dX8_digest_109 rfl ?_
          refine g_iload S 0 dX8_digest_110 rfl ?_
          refine g_calli (g_runV S hC (As := [.int (nI i85), .int (nI i96)]) (rest := [.long ((itr (stX8_digest_96 S1 i85) i96 (itr (stX8_digest_85 S1) i85 D4)) * (31 : Int64))]) (k := 57) (by decide) rfl (by decide) rfl (kX8_drumIs l E S1 (nI i85) i85 rfl (by omega) (nI i96) i96 rfl (by omega) okS1) (cwV 2 S.2.2.2.2 gX8_digest_X8_drumIs rfl rfl rfl (by decide +kernel) ⟨Nat.le_of_ble_eq_true rfl, Nat.le_of_ble_eq_true rfl⟩) rfl rfl (Nat.le_of_ble_eq_true rfl) dX8_digest_112 ⟨Nat.le_of_ble_eq_true rfl, Nat.le_of_ble_eq_true rfl⟩) ?_
          refine g_i2l S dX8_digest_115 ?_
          refine g_ladd S dX8_digest_116 ?_
          refine g_lstore_n S [(1, .long (((itr (stX8_digest_96 S1 i85) i96 (itr (stX8_digest_85 S1) i85 D4)) * (31 : Int64)) + (Int32.toInt64 (sX8_drumIs_r S1 i85 i96)))), (4, .int (nI i96)), (3, .int (nI i85)), (0, .ref (E.2.2 57))] dX8_digest_117 (by decide) rfl ?_
          refine g_iinc S [(4, .int (nI (i96 + 1))), (1, .long (((itr (stX8_digest_96 S1 i85) i96 (itr (stX8_digest_85 S1) i85 D4)) * (31 : Int64)) + (Int32.toInt64 (sX8_drumIs_r S1 i85 i96)))), (3, .int (nI i85)), (0, .ref (E.2.2 57))] 1 (nI (i96 + 1)) dX8_digest_118 rfl (by exact nI_1 i96) (by decide) rfl ?_
          refine g_goto S 96 dX8_digest_121 (by decide) ?_
          refine g_lvs [0, 1, 2, 3] (lv' := [(4, .int (nI (i96 + 1))), (1, .long (((itr (stX8_digest_96 S1 i85) i96 (itr (stX8_digest_85 S1) i85 D4)) * (31 : Int64)) + (Int32.toInt64 (sX8_drumIs_r S1 i85 i96)))), (3, .int (nI i85)), (0, .ref (E.2.2 57))]) rfl ?_
          exact g_to ih_i96 (by rfl) (by rw [itr.eq_2]; rfl) rfl
        · skip
          (try dsimp only)
          generalize hD5 : itr (stX8_digest_96 S1 i85) 6 (itr (stX8_digest_85 S1) i85 D4) = D5
          refine g_iload S 0 dX8_digest_96 rfl ?_
          refine g_bipush S dX8_digest_98 (v := 6) rfl ?_
          refine g_icmp_ge S 124 dX8_digest_100 (by decide) (fun c_9 => ?_) (fun c_9 => absurd (nI_le (a := 6) (b := 6) (Nat.le_refl _) (by omega)) c_9)
          refine g_iinc S [(3, .int (nI (i85 + 1))), (4, .int (nI 6)), (1, .long D5), (0, .ref (E.2.2 57))] 2 (nI (i85 + 1)) dX8_digest_124 rfl (by exact nI_1 i85) (by decide) rfl ?_
          refine g_goto S 85 dX8_digest_127 (by decide) ?_
          refine g_lvs [0, 2, 3] (lv' := [(3, .int (nI (i85 + 1))), (1, .long D5), (0, .ref (E.2.2 57))]) rfl ?_
          exact g_to ih_i85 (by subst hD5; rfl) (by (first | rw [hD5] | rw [← hD5] | skip); rw [itr.eq_2]; rfl) rfl
      · skip
        (try dsimp only)
        generalize hD6 : itr (stX8_digest_85 S1) (mB σ 2) D4 = D6
        refine g_iload_n S 0 dX8_digest_85 rfl ?_
        refine g_aload_n S 2 dX8_digest_86 rfl ?_
        refine gg7 S hC hiX8 (by decide) rfl 2 (by decide) (by decide +kernel) dX8_digest_87 ?_
        refine g_icmp_ge S 130 dX8_digest_90 (by decide) (fun c_10 => ?_) (fun c_10 => absurd (by rw [kqS1 2 (by decide), hok.eq 2 (by decide) (by decide)]; exact nI_le (Nat.le_refl _) (by omega)) c_10)
        refine g_const S dX8_digest_130 (v := 0) rfl ?_
        refine g_istore_n S [(3, .int (0 : Int32)), (1, .long D6), (0, .ref (E.2.2 57))] dX8_digest_131 (by decide) rfl ?_
        refine g_lvs [0, 1, 2] (lv' := [(3, .int (0 : Int32)), (1, .long D6), (0, .ref (E.2.2 57))]) rfl ?_
        have hle132 := hok.le3
        refine g_loop (mB σ 3) (fun i132 : Nat => S1) (fun i132 : Nat => [(3, .int (nI i132)), (1, .long (itr (stX8_digest_132 S1) i132 D6)), (0, .ref (E.2.2 57))]) [] rfl (by rw [itr.eq_1]; rfl) ?_ ?_
        · intro i132 hi132 ih_i132
          (try dsimp only at ih_i132 ⊢)
          refine g_iload_n S 0 dX8_digest_132 rfl ?_
          refine g_aload_n S 2 dX8_digest_133 rfl ?_
          refine gg7 S hC hiX8 (by decide) rfl 3 (by decide) (by decide +kernel) dX8_digest_134 ?_
          refine g_icmp_ge S 176 dX8_digest_137 (by decide) (fun c_11 => absurd c_11 (by rw [kqS1 3 (by decide), hok.eq 3 (by decide) (by decide)]; exact nI_ge hi132 (by omega))) (fun c_11 => ?_)
          refine g_const S dX8_digest_140 (v := 0) rfl ?_
          refine g_istore S [(4, .int (0 : Int32)), (3, .int (nI i132)), (1, .long (itr (stX8_digest_132 S1) i132 D6)), (0, .ref (E.2.2 57))] dX8_digest_141 (by decide) rfl ?_
          refine g_lvs [0, 2, 1, 3] (lv' := [(4, .int (0 : Int32)), (1, .long (itr (stX8_digest_132 S1) i132 D6)), (3, .int (nI i132)), (0, .ref (E.2.2 57))]) rfl ?_
          refine g_loop 5 (fun i143 : Nat => S1) (fun i143 : Nat => [(4, .int (nI i143)), (1, .long (itr (stX8_digest_143 S1 i132) i143 (itr (stX8_digest_132 S1) i132 D6))), (3, .int (nI i132)), (0, .ref (E.2.2 57))]) [] rfl (by rw [itr.eq_1]; rfl) ?_ ?_
          · intro i143 hi143 ih_i143
            (try dsimp only at ih_i143 ⊢)
            refine g_iload S 0 dX8_digest_143 rfl ?_
            refine g_const S dX8_digest_145 (v := 5) rfl ?_
            refine g_icmp_ge S 170 dX8_digest_146 (by decide) (fun c_12 => absurd c_12 (nI_ge (b := 5) hi143 (by omega))) (fun c_12 => ?_)
            refine g_lload_n S 1 dX8_digest_149 rfl ?_
            refine g_ldc2 S (v := 31) (by decide +kernel) dX8_digest_150 ?_
            refine g_lmul S dX8_digest_153 ?_
            refine g_aload_n S 3 dX8_digest_154 rfl ?_
            refine g_iload_n S 2 dX8_digest_155 rfl ?_
            refine g_iload S 0 dX8_digest_156 rfl ?_
            refine g_calli (g_runV S hC (As := [.int (nI i132), .int (nI i143)]) (rest := [.long ((itr (stX8_digest_143 S1 i132) i143 (itr (stX8_digest_132 S1) i132 D6)) * (31 : Int64))]) (k := 57) (by decide) rfl (by decide) rfl (kX8_smugglerIs l E S1 (nI i132) i132 rfl (by omega) (nI i143) i143 rfl (by omega)) (cwV 2 S.2.2.2.2 gX8_digest_X8_smugglerIs rfl rfl rfl (by decide +kernel) ⟨Nat.le_of_ble_eq_true rfl, Nat.le_of_ble_eq_true rfl⟩) rfl rfl (Nat.le_of_ble_eq_true rfl) dX8_digest_158 ⟨Nat.le_of_ble_eq_true rfl, Nat.le_of_ble_eq_true rfl⟩) ?_
            refine g_i2l S dX8_digest_161 ?_
            refine g_ladd S dX8_digest_162 ?_
            refine g_lstore_n S [(1, .long (((itr (stX8_digest_143 S1 i132) i143 (itr (stX8_digest_132 S1) i132 D6)) * (31 : Int64)) + (Int32.toInt64 (sX8_smugglerIs_r S1 i132 i143)))), (4, .int (nI i143)), (3, .int (nI i132)), (0, .ref (E.2.2 57))] dX8_digest_163 (by decide) rfl ?_
            refine g_iinc S [(4, .int (nI (i143 + 1))), (1, .long (((itr (stX8_digest_143 S1 i132) i143 (itr (stX8_digest_132 S1) i132 D6)) * (31 : Int64)) + (Int32.toInt64 (sX8_smugglerIs_r S1 i132 i143)))), (3, .int (nI i132)), (0, .ref (E.2.2 57))] 1 (nI (i143 + 1)) dX8_digest_164 rfl (by exact nI_1 i143) (by decide) rfl ?_
            refine g_goto S 143 dX8_digest_167 (by decide) ?_
            refine g_lvs [0, 1, 2, 3] (lv' := [(4, .int (nI (i143 + 1))), (1, .long (((itr (stX8_digest_143 S1 i132) i143 (itr (stX8_digest_132 S1) i132 D6)) * (31 : Int64)) + (Int32.toInt64 (sX8_smugglerIs_r S1 i132 i143)))), (3, .int (nI i132)), (0, .ref (E.2.2 57))]) rfl ?_
            exact g_to ih_i143 (by rfl) (by rw [itr.eq_2]; rfl) rfl
          · skip
            (try dsimp only)
            generalize hD7 : itr (stX8_digest_143 S1 i132) 5 (itr (stX8_digest_132 S1) i132 D6) = D7
            refine g_iload S 0 dX8_digest_143 rfl ?_
            refine g_const S dX8_digest_145 (v := 5) rfl ?_
            refine g_icmp_ge S 170 dX8_digest_146 (by decide) (fun c_13 => ?_) (fun c_13 => absurd (nI_le (a := 5) (b := 5) (Nat.le_refl _) (by omega)) c_13)
            refine g_iinc S [(3, .int (nI (i132 + 1))), (4, .int (nI 5)), (1, .long D7), (0, .ref (E.2.2 57))] 2 (nI (i132 + 1)) dX8_digest_170 rfl (by exact nI_1 i132) (by decide) rfl ?_
            refine g_goto S 132 dX8_digest_173 (by decide) ?_
            refine g_lvs [0, 2, 3] (lv' := [(3, .int (nI (i132 + 1))), (1, .long D7), (0, .ref (E.2.2 57))]) rfl ?_
            exact g_to ih_i132 (by subst hD7; rfl) (by (first | rw [hD7] | rw [← hD7] | skip); rw [itr.eq_2]; rfl) rfl
        · skip
          (try dsimp only)
          generalize hD8 : itr (stX8_digest_132 S1) (mB σ 3) D6 = D8
          refine g_iload_n S 0 dX8_digest_132 rfl ?_
          refine g_aload_n S 2 dX8_digest_133 rfl ?_
          refine gg7 S hC hiX8 (by decide) rfl 3 (by decide) (by decide +kernel) dX8_digest_134 ?_
          refine g_icmp_ge S 176 dX8_digest_137 (by decide) (fun c_14 => ?_) (fun c_14 => absurd (by rw [kqS1 3 (by decide), hok.eq 3 (by decide) (by decide)]; exact nI_le (Nat.le_refl _) (by omega)) c_14)
          refine g_const S dX8_digest_176 (v := 0) rfl ?_
          refine g_istore_n S [(3, .int (0 : Int32)), (1, .long D8), (0, .ref (E.2.2 57))] dX8_digest_177 (by decide) rfl ?_
          refine g_lvs [0, 1, 2] (lv' := [(3, .int (0 : Int32)), (1, .long D8), (0, .ref (E.2.2 57))]) rfl ?_
          have hle178 := hok.le4
          refine g_loop (mB σ 4) (fun i178 : Nat => S1) (fun i178 : Nat => [(3, .int (nI i178)), (1, .long (itr (stX8_digest_178 S1) i178 D8)), (0, .ref (E.2.2 57))]) [] rfl (by rw [itr.eq_1]; rfl) ?_ ?_
          · intro i178 hi178 ih_i178
            (try dsimp only at ih_i178 ⊢)
            refine g_iload_n S 0 dX8_digest_178 rfl ?_
            refine g_aload_n S 2 dX8_digest_179 rfl ?_
            refine gg7 S hC hiX8 (by decide) rfl 4 (by decide) (by decide +kernel) dX8_digest_180 ?_
            refine g_icmp_ge S 222 dX8_digest_183 (by decide) (fun c_15 => absurd c_15 (by rw [kqS1 4 (by decide), hok.eq 4 (by decide) (by decide)]; exact nI_ge hi178 (by omega))) (fun c_15 => ?_)
            refine g_const S dX8_digest_186 (v := 0) rfl ?_
            refine g_istore S [(4, .int (0 : Int32)), (3, .int (nI i178)), (1, .long (itr (stX8_digest_178 S1) i178 D8)), (0, .ref (E.2.2 57))] dX8_digest_187 (by decide) rfl ?_
            refine g_lvs [0, 2, 1, 3] (lv' := [(4, .int (0 : Int32)), (1, .long (itr (stX8_digest_178 S1) i178 D8)), (3, .int (nI i178)), (0, .ref (E.2.2 57))]) rfl ?_
            refine g_loop 5 (fun i189 : Nat => S1) (fun i189 : Nat => [(4, .int (nI i189)), (1, .long (itr (stX8_digest_189 S1 i178) i189 (itr (stX8_digest_178 S1) i178 D8))), (3, .int (nI i178)), (0, .ref (E.2.2 57))]) [] rfl (by rw [itr.eq_1]; rfl) ?_ ?_
            · intro i189 hi189 ih_i189
              (try dsimp only at ih_i189 ⊢)
              refine g_iload S 0 dX8_digest_189 rfl ?_
              refine g_const S dX8_digest_191 (v := 5) rfl ?_
              refine g_icmp_ge S 216 dX8_digest_192 (by decide) (fun c_16 => absurd c_16 (nI_ge (b := 5) hi189 (by omega))) (fun c_16 => ?_)
              refine g_lload_n S 1 dX8_digest_195 rfl ?_
              refine g_ldc2 S (v := 31) (by decide +kernel) dX8_digest_196 ?_
              refine g_lmul S dX8_digest_199 ?_
              refine g_aload_n S 3 dX8_digest_200 rfl ?_
              refine g_iload_n S 2 dX8_digest_201 rfl ?_
              refine g_iload S 0 dX8_digest_202 rfl ?_
              refine g_calli (g_runV S hC (As := [.int (nI i178), .int (nI i189)]) (rest := [.long ((itr (stX8_digest_189 S1 i178) i189 (itr (stX8_digest_178 S1) i178 D8)) * (31 : Int64))]) (k := 57) (by decide) rfl (by decide) rfl (kX8_cardIs l E S1 (nI i178) i178 rfl (by omega) (nI i189) i189 rfl (by omega)) (cwV 2 S.2.2.2.2 gX8_digest_X8_cardIs rfl rfl rfl (by decide +kernel) ⟨Nat.le_of_ble_eq_true rfl, Nat.le_of_ble_eq_true rfl⟩) rfl rfl (Nat.le_of_ble_eq_true rfl) dX8_digest_204 ⟨Nat.le_of_ble_eq_true rfl, Nat.le_of_ble_eq_true rfl⟩) ?_
              refine g_i2l S dX8_digest_207 ?_
              refine g_ladd S dX8_digest_208 ?_
              refine g_lstore_n S [(1, .long (((itr (stX8_digest_189 S1 i178) i189 (itr (stX8_digest_178 S1) i178 D8)) * (31 : Int64)) + (Int32.toInt64 (sX8_cardIs_r S1 i178 i189)))), (4, .int (nI i189)), (3, .int (nI i178)), (0, .ref (E.2.2 57))] dX8_digest_209 (by decide) rfl ?_
              refine g_iinc S [(4, .int (nI (i189 + 1))), (1, .long (((itr (stX8_digest_189 S1 i178) i189 (itr (stX8_digest_178 S1) i178 D8)) * (31 : Int64)) + (Int32.toInt64 (sX8_cardIs_r S1 i178 i189)))), (3, .int (nI i178)), (0, .ref (E.2.2 57))] 1 (nI (i189 + 1)) dX8_digest_210 rfl (by exact nI_1 i189) (by decide) rfl ?_
              refine g_goto S 189 dX8_digest_213 (by decide) ?_
              refine g_lvs [0, 1, 2, 3] (lv' := [(4, .int (nI (i189 + 1))), (1, .long (((itr (stX8_digest_189 S1 i178) i189 (itr (stX8_digest_178 S1) i178 D8)) * (31 : Int64)) + (Int32.toInt64 (sX8_cardIs_r S1 i178 i189)))), (3, .int (nI i178)), (0, .ref (E.2.2 57))]) rfl ?_
              exact g_to ih_i189 (by rfl) (by rw [itr.eq_2]; rfl) rfl
            · skip
              (try dsimp only)
              generalize hD9 : itr (stX8_digest_189 S1 i178) 5 (itr (stX8_digest_178 S1) i178 D8) = D9
              refine g_iload S 0 dX8_digest_189 rfl ?_
              refine g_const S dX8_digest_191 (v := 5) rfl ?_
              refine g_icmp_ge S 216 dX8_digest_192 (by decide) (fun c_17 => ?_) (fun c_17 => absurd (nI_le (a := 5) (b := 5) (Nat.le_refl _) (by omega)) c_17)
              refine g_iinc S [(3, .int (nI (i178 + 1))), (4, .int (nI 5)), (1, .long D9), (0, .ref (E.2.2 57))] 2 (nI (i178 + 1)) dX8_digest_216 rfl (by exact nI_1 i178) (by decide) rfl ?_
              refine g_goto S 178 dX8_digest_219 (by decide) ?_
              refine g_lvs [0, 2, 3] (lv' := [(3, .int (nI (i178 + 1))), (1, .long D9), (0, .ref (E.2.2 57))]) rfl ?_
              exact g_to ih_i178 (by subst hD9; rfl) (by (first | rw [hD9] | rw [← hD9] | skip); rw [itr.eq_2]; rfl) rfl
          · skip
            (try dsimp only)
            generalize hD10 : itr (stX8_digest_178 S1) (mB σ 4) D8 = D10
            refine g_iload_n S 0 dX8_digest_178 rfl ?_
            refine g_aload_n S 2 dX8_digest_179 rfl ?_
            refine gg7 S hC hiX8 (by decide) rfl 4 (by decide) (by decide +kernel) dX8_digest_180 ?_
            refine g_icmp_ge S 222 dX8_digest_183 (by decide) (fun c_18 => ?_) (fun c_18 => absurd (by rw [kqS1 4 (by decide), hok.eq 4 (by decide) (by decide)]; exact nI_le (Nat.le_refl _) (by omega)) c_18)
            refine g_lload_n S 1 dX8_digest_222 rfl ?_
            exact g_lret S hr hlocks dX8_digest_223 (by subst hD10 hD8 hD6 hD4 hD2 hS1; rfl) (by subst hD10 hD8 hD6 hD4 hD2 hS1; rfl) (Nat.le_of_ble_eq_true rfl) (Nat.le_of_ble_eq_true rfl)
