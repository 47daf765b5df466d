def stX7_digest_13 (σ : gS) (j : Nat) (τ : Int64) : Int64 := let D2301 := sX5_digestOnto_k0_r σ (1 + 6 + j) τ; D2301
def stX7_digest_46 (σ : gS) (j : Nat) (τ : Int64) : Int64 := let D5601 := sX5_digestOnto_k2_r σ (1 + 10 + j) τ; D5601
def stX7_digest_79 (σ : gS) (j : Nat) (τ : Int64) : Int64 := let D8901 := sX5_digestOnto_k3_r σ (1 + 14 + j) τ; D8901
def stX7_digest_112 (σ : gS) (j : Nat) (τ : Int64) : Int64 := let D12201 := sX5_digestOnto_k1_r σ (1 + 18 + j) τ; D12201
def sX7_digest_r (σ : gS) : Int64 := let D1 := sX5_digestOnto_k5_r σ 1 (1723 : Int64); let D3 := itr (stX7_digest_13 σ) (tB σ 1 5) D1; let D5 := itr (stX7_digest_46 σ) (tB σ 1 6) D3; let D7 := itr (stX7_digest_79 σ) (tB σ 1 7) D5; let D9 := itr (stX7_digest_112 σ) (tB σ 1 8) D7; D9
set_option maxRecDepth 100000 in
set_option maxHeartbeats 4000000 in
theorem kX7_digest (l : Launch) (E : gT) (σ : gS) (hok : tOK σ 1) : gMl l yX7_digest wsX7_digest ({ frames := 4, cells := 0, slots := 0, locals := 89 }) 0 0 E σ [.ref (E.2.2 0)] (sX7_digest_r σ) σ := by
  refine g_met (mc := 0) (ms := 0) (nL := 4) (ret := (some .long)) (by decide) rfl (lv := [(0, .ref (E.2.2 0))]) rfl (Nat.le_of_ble_eq_true rfl) ?_
  intro p e s m below meth c S hr hlocks hC
  have hiX6 : ∀ w ∈ wsX60, w ∈ wsX7_digest := by decide +kernel
  have hiX7 : ∀ w ∈ wsX70, w ∈ wsX7_digest := by decide +kernel
  refine g_aload_n S 0 dX7_digest_0 rfl ?_
  refine gg6 S hC hiX7 0 (by decide) (by decide +kernel) dX7_digest_1 ?_
  refine g_ldc2 S (v := 1723) (by decide +kernel) dX7_digest_4 ?_
  refine g_calll (g_runU S hC (As := [.long (1723 : Int64)]) (rest := []) (k := 1) (by decide) rfl (by decide) rfl (kX5_digestOnto_k5 l E σ 1 gT1 (1723 : Int64)) (va_cwU 1 S.2.2.2.2 gX7_digest_X5_digestOnto_u172X6 rfl rfl rfl rfl (by decide +kernel) ⟨Nat.le_of_ble_eq_true rfl, Nat.le_of_ble_eq_true rfl⟩) rfl rfl (Nat.le_of_ble_eq_true rfl) dX7_digest_7 ⟨Nat.le_of_ble_eq_true rfl, Nat.le_of_ble_eq_true rfl⟩) ?_
  refine g_nl (fun D1 hD1 => ?_)
  refine g_lstore_n S [(1, .long D1), (0, .ref (E.2.2 0))] dX7_digest_10 (by decide) rfl ?_
  refine g_const S dX7_digest_11 (v := 0) rfl ?_
  refine g_istore_n S [(3, .int (0 : Int32)), (1, .long D1), (0, .ref (E.2.2 0))] dX7_digest_12 (by decide) rfl ?_
  refine g_lvs [0, 1, 2] (lv' := [(3, .int (0 : Int32)), (1, .long D1), (0, .ref (E.2.2 0))]) rfl ?_
  have hle13 := hok.le5
  refine g_loop (tB σ 1 5) (fun i13 : Nat => σ) (fun i13 : Nat => [(3, .int (nI i13)), (1, .long (itr (stX7_digest_13 σ) i13 D1)), (0, .ref (E.2.2 0))]) [] rfl (by rw [itr.eq_1]; rfl) ?_ ?_
  · intro i13 hi13 ih_i13
    (try dsimp only at ih_i13 ⊢)
    refine g_iload_n S 0 dX7_digest_13 rfl ?_
    refine g_aload_n S 2 dX7_digest_14 rfl ?_
    refine gg6 S hC hiX7 0 (by decide) (by decide +kernel) dX7_digest_15 ?_
    refine gg5 S hC hiX6 (by decide) rfl 5 (by decide) (by decide +kernel) dX7_digest_18 ?_
    refine g_icmp_ge S 44 dX7_digest_21 (by decide) (fun c_1 => absurd c_1 (by rw [hok.eq 5 (by decide) (by decide)]; exact nI_ge hi13 (by omega))) (fun c_1 => ?_)
    refine g_aload_n S 2 dX7_digest_24 rfl ?_
    refine gg6 S hC hiX7 0 (by decide) (by decide +kernel) dX7_digest_25 ?_
    refine gg5r S hC hiX6 (by decide) rfl 0 (by decide) (by decide +kernel) dX7_digest_28 ?_
    refine g_iload_n S 0 dX7_digest_31 rfl ?_
    refine ga10 S hC (by decide) rfl i13 rfl (by show i13 < _; first | omega | (unfold gLen; simp; omega)) (1 + 6 + i13) (by omega) dX7_digest_32 ?_
    refine g_lload_n S 1 dX7_digest_33 rfl ?_
    refine g_calll (g_runU S hC (As := [.long (itr (stX7_digest_13 σ) i13 D1)]) (rest := []) (k := 1 + 6 + i13) (gT1.lt2 (a := 6) (by omega)) (gT1.bed (by omega)) (by decide) rfl (kX5_digestOnto_k0 l E σ (1 + 6 + i13) (gT1.lt2 (a := 6) (by omega)) (gT1.bed (by omega)) (itr (stX7_digest_13 σ) i13 D1)) (va_cwU 1 S.2.2.2.2 gX7_digest_X5_digestOnto_u176X0 rfl rfl rfl rfl (by decide +kernel) ⟨Nat.le_of_ble_eq_true rfl, Nat.le_of_ble_eq_true rfl⟩) rfl rfl (Nat.le_of_ble_eq_true rfl) dX7_digest_34 ⟨Nat.le_of_ble_eq_true rfl, Nat.le_of_ble_eq_true rfl⟩) ?_
    refine g_nl (fun D2 hD2 => ?_)
    refine g_lstore_n S [(1, .long D2), (3, .int (nI i13)), (0, .ref (E.2.2 0))] dX7_digest_37 (by decide) rfl ?_
    refine g_iinc S [(3, .int (nI (i13 + 1))), (1, .long D2), (0, .ref (E.2.2 0))] 1 (nI (i13 + 1)) dX7_digest_38 rfl (by exact nI_1 i13) (by decide) rfl ?_
    refine g_goto S 13 dX7_digest_41 (by decide) ?_
    refine g_lvs [0, 1, 2] (lv' := [(3, .int (nI (i13 + 1))), (1, .long D2), (0, .ref (E.2.2 0))]) rfl ?_
    exact g_to ih_i13 (by subst hD2; rfl) (by (first | rw [hD2] | rw [← hD2] | skip); rw [itr.eq_2]; rfl) rfl
  · skip
    (try dsimp only)
    generalize hD3 : itr (stX7_digest_13 σ) (tB σ 1 5) D1 = D3
    refine g_iload_n S 0 dX7_digest_13 rfl ?_
    refine g_aload_n S 2 dX7_digest_14 rfl ?_
    refine gg6 S hC hiX7 0 (by decide) (by decide +kernel) dX7_digest_15 ?_
    refine gg5 S hC hiX6 (by decide) rfl 5 (by decide) (by decide +kernel) dX7_digest_18 ?_
    refine g_icmp_ge S 44 dX7_digest_21 (by decide) (fun c_2 => ?_) (fun c_2 => absurd (by rw [hok.eq 5 (by decide) (by decide)]; exact nI_le (Nat.le_refl _) (by omega)) c_2)
    refine g_const S dX7_digest_44 (v := 0) rfl ?_
    refine g_istore_n S [(3, .int (0 : Int32)), (1, .long D3), (0, .ref (E.2.2 0))] dX7_digest_45 (by decide) rfl ?_
    refine g_lvs [0, 1, 2] (lv' := [(3, .int (0 : Int32)), (1, .long D3), (0, .ref (E.2.2 0))]) rfl ?_
    have hle46 := hok.le6
    refine g_loop (tB σ 1 6) (fun i46 : Nat => σ) (fun i46 : Nat => [(3, .int (nI i46)), (1, .long (itr (stX7_digest_46 σ) i46 D3)), (0, .ref (E.2.2 0))]) [] rfl (by rw [itr.eq_1]; rfl) ?_ ?_
    · intro i46 hi46 ih_i46
      (try dsimp only at ih_i46 ⊢)
      refine g_iload_n S 0 dX7_digest_46 rfl ?_
      refine g_aload_n S 2 dX7_digest_47 rfl ?_
      refine gg6 S hC hiX7 0 (by decide) (by decide +kernel) dX7_digest_48 ?_
      refine gg5 S hC hiX6 (by decide) rfl 6 (by decide) (by decide +kernel) dX7_digest_51 ?_
      refine g_icmp_ge S 77 dX7_digest_54 (by decide) (fun c_3 => absurd c_3 (by rw [hok.eq 6 (by decide) (by decide)]; exact nI_ge hi46 (by omega))) (fun c_3 => ?_)
      refine g_aload_n S 2 dX7_digest_57 rfl ?_
      refine gg6 S hC hiX7 0 (by decide) (by decide +kernel) dX7_digest_58 ?_
      refine gg5r S hC hiX6 (by decide) rfl 1 (by decide) (by decide +kernel) dX7_digest_61 ?_
      refine g_iload_n S 0 dX7_digest_64 rfl ?_
      refine ga11 S hC (by decide) rfl i46 rfl (by show i46 < _; first | omega | (unfold gLen; simp; omega)) (1 + 10 + i46) (by omega) dX7_digest_65 ?_
      refine g_lload_n S 1 dX7_digest_66 rfl ?_
      refine g_calll (g_runU S hC (As := [.long (itr (stX7_digest_46 σ) i46 D3)]) (rest := []) (k := 1 + 10 + i46) (gT1.lt2 (a := 10) (by omega)) (gT1.drum (by omega)) (by decide) rfl (kX5_digestOnto_k2 l E σ (1 + 10 + i46) (gT1.lt2 (a := 10) (by omega)) (gT1.drum (by omega)) (itr (stX7_digest_46 σ) i46 D3)) (va_cwU 1 S.2.2.2.2 gX7_digest_X5_digestOnto_u177X2 rfl rfl rfl rfl (by decide +kernel) ⟨Nat.le_of_ble_eq_true rfl, Nat.le_of_ble_eq_true rfl⟩) rfl rfl (Nat.le_of_ble_eq_true rfl) dX7_digest_67 ⟨Nat.le_of_ble_eq_true rfl, Nat.le_of_ble_eq_true rfl⟩) ?_
      refine g_nl (fun D4 hD4 => ?_)
      refine g_lstore_n S [(1, .long D4), (3, .int (nI i46)), (0, .ref (E.2.2 0))] dX7_digest_70 (by decide) rfl ?_
      refine g_iinc S [(3, .int (nI (i46 + 1))), (1, .long D4), (0, .ref (E.2.2 0))] 1 (nI (i46 + 1)) dX7_digest_71 rfl (by exact nI_1 i46) (by decide) rfl ?_
      refine g_goto S 46 dX7_digest_74 (by decide) ?_
      refine g_lvs [0, 1, 2] (lv' := [(3, .int (nI (i46 + 1))), (1, .long D4), (0, .ref (E.2.2 0))]) rfl ?_
      exact g_to ih_i46 (by subst hD4; rfl) (by (first | rw [hD4] | rw [← hD4] | skip); rw [itr.eq_2]; rfl) rfl
    · skip
      (try dsimp only)
      generalize hD5 : itr (stX7_digest_46 σ) (tB σ 1 6) D3 = D5
      refine g_iload_n S 0 dX7_digest_46 rfl ?_
      refine g_aload_n S 2 dX7_digest_47 rfl ?_
      refine gg6 S hC hiX7 0 (by decide) (by decide +kernel) dX7_digest_48 ?_
      refine gg5 S hC hiX6 (by decide) rfl 6 (by decide) (by decide +kernel) dX7_digest_51 ?_
      refine g_icmp_ge S 77 dX7_digest_54 (by decide) (fun c_4 => ?_) (fun c_4 => absurd (by rw [hok.eq 6 (by decide) (by decide)]; exact nI_le (Nat.le_refl _) (by omega)) c_4)
      refine g_const S dX7_digest_77 (v := 0) rfl ?_
      refine g_istore_n S [(3, .int (0 : Int32)), (1, .long D5), (0, .ref (E.2.2 0))] dX7_digest_78 (by decide) rfl ?_
      refine g_lvs [0, 1, 2] (lv' := [(3, .int (0 : Int32)), (1, .long D5), (0, .ref (E.2.2 0))]) rfl ?_
      have hle79 := hok.le7
      refine g_loop (tB σ 1 7) (fun i79 : Nat => σ) (fun i79 : Nat => [(3, .int (nI i79)), (1, .long (itr (stX7_digest_79 σ) i79 D5)), (0, .ref (E.2.2 0))]) [] rfl (by rw [itr.eq_1]; rfl) ?_ ?_
      · intro i79 hi79 ih_i79
        (try dsimp only at ih_i79 ⊢)
        refine g_iload_n S 0 dX7_digest_79 rfl ?_
        refine g_aload_n S 2 dX7_digest_80 rfl ?_
        refine gg6 S hC hiX7 0 (by decide) (by decide +kernel) dX7_digest_81 ?_
        refine gg5 S hC hiX6 (by decide) rfl 7 (by decide) (by decide +kernel) dX7_digest_84 ?_
        refine g_icmp_ge S 110 dX7_digest_87 (by decide) (fun c_5 => absurd c_5 (by rw [hok.eq 7 (by decide) (by decide)]; exact nI_ge hi79 (by omega))) (fun c_5 => ?_)
        refine g_aload_n S 2 dX7_digest_90 rfl ?_
        refine gg6 S hC hiX7 0 (by decide) (by decide +kernel) dX7_digest_91 ?_
        refine gg5r S hC hiX6 (by decide) rfl 2 (by decide) (by decide +kernel) dX7_digest_94 ?_
        refine g_iload_n S 0 dX7_digest_97 rfl ?_
        refine ga12 S hC (by decide) rfl i79 rfl (by show i79 < _; first | omega | (unfold gLen; simp; omega)) (1 + 14 + i79) (by omega) dX7_digest_98 ?_
        refine g_lload_n S 1 dX7_digest_99 rfl ?_
        refine g_calll (g_runU S hC (As := [.long (itr (stX7_digest_79 σ) i79 D5)]) (rest := []) (k := 1 + 14 + i79) (gT1.lt2 (a := 14) (by omega)) (gT1.smug (by omega)) (by decide) rfl (kX5_digestOnto_k3 l E σ (1 + 14 + i79) (gT1.lt2 (a := 14) (by omega)) (gT1.smug (by omega)) (itr (stX7_digest_79 σ) i79 D5)) (va_cwU 1 S.2.2.2.2 gX7_digest_X5_digestOnto_u178X3 rfl rfl rfl rfl (by decide +kernel) ⟨Nat.le_of_ble_eq_true rfl, Nat.le_of_ble_eq_true rfl⟩) rfl rfl (Nat.le_of_ble_eq_true rfl) dX7_digest_100 ⟨Nat.le_of_ble_eq_true rfl, Nat.le_of_ble_eq_true rfl⟩) ?_
        refine g_nl (fun D6 hD6 => ?_)
        refine g_lstore_n S [(1, .long D6), (3, .int (nI i79)), (0, .ref (E.2.2 0))] dX7_digest_103 (by decide) rfl ?_
        refine g_iinc S [(3, .int (nI (i79 + 1))), (1, .long D6), (0, .ref (E.2.2 0))] 1 (nI (i79 + 1)) dX7_digest_104 rfl (by exact nI_1 i79) (by decide) rfl ?_
        refine g_goto S 79 dX7_digest_107 (by decide) ?_
        refine g_lvs [0, 1, 2] (lv' := [(3, .int (nI (i79 + 1))), (1, .long D6), (0, .ref (E.2.2 0))]) rfl ?_
        exact g_to ih_i79 (by subst hD6; rfl) (by (first | rw [hD6] | rw [← hD6] | skip); rw [itr.eq_2]; rfl) rfl
      · skip
        (try dsimp only)
        generalize hD7 : itr (stX7_digest_79 σ) (tB σ 1 7) D5 = D7
        refine g_iload_n S 0 dX7_digest_79 rfl ?_
        refine g_aload_n S 2 dX7_digest_80 rfl ?_
        refine gg6 S hC hiX7 0 (by decide) (by decide +kernel) dX7_digest_81 ?_
        refine gg5 S hC hiX6 (by decide) rfl 7 (by decide) (by decide +kernel) dX7_digest_84 ?_
        refine g_icmp_ge S 110 dX7_digest_87 (by decide) (fun c_6 => ?_) (fun c_6 => absurd (by rw [hok.eq 7 (by decide) (by decide)]; exact nI_le (Nat.le_refl _) (by omega)) c_6)
        refine g_const S dX7_digest_110 (v := 0) rfl ?_
        refine g_istore_n S [(3, .int (0 : Int32)), (1, .long D7), (0, .ref (E.2.2 0))] dX7_digest_111 (by decide) rfl ?_
        refine g_lvs [0, 1, 2] (lv' := [(3, .int (0 : Int32)), (1, .long D7), (0, .ref (E.2.2 0))]) rfl ?_
        have hle112 := hok.le8
        refine g_loop (tB σ 1 8) (fun i112 : Nat => σ) (fun i112 : Nat => [(3, .int (nI i112)), (1, .long (itr (stX7_digest_112 σ) i112 D7)), (0, .ref (E.2.2 0))]) [] rfl (by rw [itr.eq_1]; rfl) ?_ ?_
        · intro i112 hi112 ih_i112
          (try dsimp only at ih_i112 ⊢)
          refine g_iload_n S 0 dX7_digest_112 rfl ?_
          refine g_aload_n S 2 dX7_digest_113 rfl ?_
          refine gg6 S hC hiX7 0 (by decide) (by decide +kernel) dX7_digest_114 ?_
          refine gg5 S hC hiX6 (by decide) rfl 8 (by decide) (by decide +kernel) dX7_digest_117 ?_
          refine g_icmp_ge S 143 dX7_digest_120 (by decide) (fun c_7 => absurd c_7 (by rw [hok.eq 8 (by decide) (by decide)]; exact nI_ge hi112 (by omega))) (fun c_7 => ?_)
          refine g_aload_n S 2 dX7_digest_123 rfl ?_
          refine gg6 S hC hiX7 0 (by decide) (by decide +kernel) dX7_digest_124 ?_
          refine gg5r S hC hiX6 (by decide) rfl 3 (by decide) (by decide +kernel) dX7_digest_127 ?_
          refine g_iload_n S 0 dX7_digest_130 rfl ?_
          refine ga13 S hC (by decide) rfl i112 rfl (by show i112 < _; first | omega | (unfold gLen; simp; omega)) (1 + 18 + i112) (by omega) dX7_digest_131 ?_
          refine g_lload_n S 1 dX7_digest_132 rfl ?_
          refine g_calll (g_runU S hC (As := [.long (itr (stX7_digest_112 σ) i112 D7)]) (rest := []) (k := 1 + 18 + i112) (gT1.lt2 (a := 18) (by omega)) (gT1.card (by omega)) (by decide) rfl (kX5_digestOnto_k1 l E σ (1 + 18 + i112) (gT1.lt2 (a := 18) (by omega)) (gT1.card (by omega)) (itr (stX7_digest_112 σ) i112 D7)) (va_cwU 1 S.2.2.2.2 gX7_digest_X5_digestOnto_u179X1 rfl rfl rfl rfl (by decide +kernel) ⟨Nat.le_of_ble_eq_true rfl, Nat.le_of_ble_eq_true rfl⟩) rfl rfl (Nat.le_of_ble_eq_true rfl) dX7_digest_133 ⟨Nat.le_of_ble_eq_true rfl, Nat.le_of_ble_eq_true rfl⟩) ?_
          refine g_nl (fun D8 hD8 => ?_)
          refine g_lstore_n S [(1, .long D8), (3, .int (nI i112)), (0, .ref (E.2.2 0))] dX7_digest_136 (by decide) rfl ?_
          refine g_iinc S [(3, .int (nI (i112 + 1))), (1, .long D8), (0, .ref (E.2.2 0))] 1 (nI (i112 + 1)) dX7_digest_137 rfl (by exact nI_1 i112) (by decide) rfl ?_
          refine g_goto S 112 dX7_digest_140 (by decide) ?_
          refine g_lvs [0, 1, 2] (lv' := [(3, .int (nI (i112 + 1))), (1, .long D8), (0, .ref (E.2.2 0))]) rfl ?_
          exact g_to ih_i112 (by subst hD8; rfl) (by (first | rw [hD8] | rw [← hD8] | skip); rw [itr.eq_2]; rfl) rfl
        · skip
          (try dsimp only)
          generalize hD9 : itr (stX7_digest_112 σ) (tB σ 1 8) D7 = D9
          refine g_iload_n S 0 dX7_digest_112 rfl ?_
          refine g_aload_n S 2 dX7_digest_113 rfl ?_
          refine gg6 S hC hiX7 0 (by decide) (by decide +kernel) dX7_digest_114 ?_
          refine gg5 S hC hiX6 (by decide) rfl 8 (by decide) (by decide +kernel) dX7_digest_117 ?_
          refine g_icmp_ge S 143 dX7_digest_120 (by decide) (fun c_8 => ?_) (fun c_8 => absurd (by rw [hok.eq 8 (by decide) (by decide)]; exact nI_le (Nat.le_refl _) (by omega)) c_8)
          refine g_lload_n S 1 dX7_digest_143 rfl ?_
          exact g_lret S hr hlocks dX7_digest_144 (by subst hD9 hD7 hD5 hD3 hD1; rfl) (by subst hD9 hD7 hD5 hD3 hD1; rfl) (Nat.le_of_ble_eq_true rfl) (Nat.le_of_ble_eq_true rfl)
