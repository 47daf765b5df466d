def sX8_isPatrol_r (σ : gS) (a : Int32) : Int32 := if ((σ.1 62 8) >>> ((a - a / (7 : Int32) * (7 : Int32)) &&& 31)) &&& (1 : Int32) = (1 : Int32) then ((1 : Int32)) else ((0 : Int32))
theorem bX8_isPatrol (σ : gS) (a : Int32) : sX8_isPatrol_r σ a = 0 ∨ sX8_isPatrol_r σ a = 1 := by
  unfold sX8_isPatrol_r
  repeat' split
  all_goals first | exact Or.inl rfl | exact Or.inr rfl
set_option maxRecDepth 100000 in
set_option maxHeartbeats 4000000 in
theorem kX8_isPatrol (l : Launch) (E : gT) (σ : gS) (a : Int32) : gMi l yX8_isPatrol wsX8_isPatrol ({ frames := 0, cells := 0, slots := 0, locals := 0 }) 0 0 E σ [.ref (E.2.2 57), .int a] (sX8_isPatrol_r σ a) σ := by
  refine g_met (mc := 0) (ms := 0) (nL := 2) (ret := (some .boolean)) (by decide) rfl (lv := [(0, .ref (E.2.2 57)), (1, .int a)]) rfl (Nat.le_of_ble_eq_true rfl) ?_
  intro p e s m below meth c S hr hlocks hC
  have hiX8 : ∀ w ∈ wsX80, w ∈ wsX8_isPatrol := by decide +kernel
  refine g_aload_n S 0 dX8_isPatrol_0 rfl ?_
  refine gg7r S hC hiX8 (by decide) rfl 9 (by decide) (by decide +kernel) dX8_isPatrol_1 ?_
  refine g_bipush S dX8_isPatrol_4 (v := 8) rfl ?_
  refine g_iald S hC (by decide) rfl 8 rfl (by decide) (by decide) dX8_isPatrol_6 ?_
  refine g_iload_n S 1 dX8_isPatrol_7 rfl ?_
  refine g_bipush S dX8_isPatrol_8 (v := 7) rfl ?_
  refine g_irem S dX8_isPatrol_10 (by decide) ?_
  refine g_ishr S dX8_isPatrol_11 ?_
  refine g_const S dX8_isPatrol_12 (v := 1) rfl ?_
  refine g_iand S dX8_isPatrol_13 ?_
  refine g_const S dX8_isPatrol_14 (v := 1) rfl ?_
  refine g_icmp_ne S 22 dX8_isPatrol_15 (by decide) (fun c_1 => ?_) (fun c_1 => ?_)
  · skip
    refine g_const S dX8_isPatrol_22 (v := 0) rfl ?_
    exact g_zret S hr hlocks dX8_isPatrol_23 rfl (by rw [sX8_isPatrol_r, if_neg c_1]) rfl (Nat.le_of_ble_eq_true rfl) (Nat.le_of_ble_eq_true rfl)
  · skip
    refine g_const S dX8_isPatrol_18 (v := 1) rfl ?_
    refine g_goto S 23 dX8_isPatrol_19 (by decide) ?_
    exact g_zret S hr hlocks dX8_isPatrol_23 rfl (by rw [sX8_isPatrol_r, if_pos c_1]) rfl (Nat.le_of_ble_eq_true rfl) (Nat.le_of_ble_eq_true rfl)
def sX8_goOn_s (σ : gS) (dn : Nat) : gS := if sX8_sm_r σ dn 0 = (1 : Int32) then (if (sX8_sm_r σ dn 1) - (1 : Int32) = (σ.1 60 (2 * dn)) / (2 : Int32) then (if sX8_isPatrol_r σ (σ.1 62 0) = 0 then (if (sX8_sm_r σ dn 1) - (1 : Int32) = 0 then (let S11 := sX8_letSmuggler_s σ dn (0 : Int32) ((sX8_sm_r σ dn 1) - (1 : Int32)); if (sX8_sm_r σ dn 1) - (1 : Int32) = 0 then (if sX8_sm_r σ dn 0 = (1 : Int32) then (let S12 := gu S11 62 2 ((S11.1 62 2) + (S11.1 60 ((2 * dn) + 1))); S12) else (S11)) else (S11)) else (let S9 := sX8_letSmuggler_s σ dn (sX8_sm_r σ dn 0) ((sX8_sm_r σ dn 1) - (1 : Int32)); if (sX8_sm_r σ dn 1) - (1 : Int32) = 0 then (if sX8_sm_r σ dn 0 = (1 : Int32) then (let S10 := gu S9 62 2 ((S9.1 62 2) + (S9.1 60 ((2 * dn) + 1))); S10) else (S9)) else (S9))) else (let S13 := sX8_letSmuggler_s σ dn (2 : Int32) (10 : Int32); let S14 := gu S13 62 ((30 + (3 * dn)) + 2) ((S13.1 62 ((30 + (3 * dn)) + 2)) + (1 : Int32)); S14)) else (if (sX8_sm_r σ dn 1) - (1 : Int32) = 0 then (let S7 := sX8_letSmuggler_s σ dn (0 : Int32) ((sX8_sm_r σ dn 1) - (1 : Int32)); if (sX8_sm_r σ dn 1) - (1 : Int32) = 0 then (if sX8_sm_r σ dn 0 = (1 : Int32) then (let S8 := gu S7 62 2 ((S7.1 62 2) + (S7.1 60 ((2 * dn) + 1))); S8) else (S7)) else (S7)) else (let S5 := sX8_letSmuggler_s σ dn (sX8_sm_r σ dn 0) ((sX8_sm_r σ dn 1) - (1 : Int32)); if (sX8_sm_r σ dn 1) - (1 : Int32) = 0 then (if sX8_sm_r σ dn 0 = (1 : Int32) then (let S6 := gu S5 62 2 ((S5.1 62 2) + (S5.1 60 ((2 * dn) + 1))); S6) else (S5)) else (S5)))) else (if (sX8_sm_r σ dn 1) - (1 : Int32) = 0 then (let S3 := sX8_letSmuggler_s σ dn (0 : Int32) ((sX8_sm_r σ dn 1) - (1 : Int32)); if (sX8_sm_r σ dn 1) - (1 : Int32) = 0 then (if sX8_sm_r σ dn 0 = (1 : Int32) then (let S4 := gu S3 62 2 ((S3.1 62 2) + (S3.1 60 ((2 * dn) + 1))); S4) else (S3)) else (S3)) else (let S1 := sX8_letSmuggler_s σ dn (sX8_sm_r σ dn 0) ((sX8_sm_r σ dn 1) - (1 : Int32)); if (sX8_sm_r σ dn 1) - (1 : Int32) = 0 then (if sX8_sm_r σ dn 0 = (1 : Int32) then (let S2 := gu S1 62 2 ((S1.1 62 2) + (S1.1 60 ((2 * dn) + 1))); S2) else (S1)) else (S1)))
theorem fX8_goOn (σ : gS) (dn : Nat) (x : Nat) (hx62 : x ≠ 62) : (sX8_goOn_s σ dn).1 x = σ.1 x := by
  unfold sX8_goOn_s
  (try dsimp only)
  (repeat' split)
  all_goals (simp [gu_ne, gcp, fX8_letSmuggler, *])
set_option maxRecDepth 100000 in
set_option maxHeartbeats 4000000 in
theorem kX8_goOn (l : Launch) (E : gT) (σ : gS) (d : Int32) (dn : Nat) (hd : d = nI dn) (hdn : dn < 4) : gMv l yX8_goOn wsX8_goOn ({ frames := 1, cells := 0, slots := 0, locals := 23 }) 0 0 E σ [.ref (E.2.2 57), .int d] (sX8_goOn_s σ dn) := by
  refine g_met (mc := 0) (ms := 0) (nL := 4) (ret := none) (by decide) rfl (lv := [(0, .ref (E.2.2 57)), (1, .int d)]) rfl (Nat.le_of_ble_eq_true rfl) ?_
  intro p e s m below meth c S hr hlocks hC
  have hiX8 : ∀ w ∈ wsX80, w ∈ wsX8_goOn := by decide +kernel
  refine g_aload_n S 0 dX8_goOn_0 rfl ?_
  refine g_iload_n S 1 dX8_goOn_1 rfl ?_
  refine g_const S dX8_goOn_2 (v := 0) rfl ?_
  refine g_calli (g_runV S hC (As := [.int d, .int (0 : Int32)]) (rest := []) (k := 57) (by decide) rfl (by decide) rfl (kX8_sm l E σ d dn hd (by omega) (0 : Int32) 0 rfl (by decide)) (cwV 2 S.2.2.2.2 gX8_goOn_X8_sm rfl rfl rfl (by decide +kernel) ⟨Nat.le_of_ble_eq_true rfl, Nat.le_of_ble_eq_true rfl⟩) rfl rfl (Nat.le_of_ble_eq_true rfl) dX8_goOn_3 ⟨Nat.le_of_ble_eq_true rfl, Nat.le_of_ble_eq_true rfl⟩) ?_
  refine g_istore_n S [(2, .int (sX8_sm_r σ dn 0)), (0, .ref (E.2.2 57)), (1, .int d)] dX8_goOn_6 (by decide) rfl ?_
  refine g_aload_n S 1 dX8_goOn_7 rfl ?_
  refine g_iload_n S 2 dX8_goOn_8 rfl ?_
  refine g_const S dX8_goOn_9 (v := 1) rfl ?_
  refine g_calli (g_runV S hC (As := [.int d, .int (1 : Int32)]) (rest := []) (k := 57) (by decide) rfl (by decide) rfl (kX8_sm l E σ d dn hd (by omega) (1 : Int32) 1 rfl (by decide)) (cwV 2 S.2.2.2.2 gX8_goOn_X8_sm rfl rfl rfl (by decide +kernel) ⟨Nat.le_of_ble_eq_true rfl, Nat.le_of_ble_eq_true rfl⟩) rfl rfl (Nat.le_of_ble_eq_true rfl) dX8_goOn_10 ⟨Nat.le_of_ble_eq_true rfl, Nat.le_of_ble_eq_true rfl⟩) ?_
  refine g_const S dX8_goOn_13 (v := 1) rfl ?_
  refine g_isub S dX8_goOn_14 ?_
  refine g_istore_n S [(3, .int ((sX8_sm_r σ dn 1) - (1 : Int32))), (2, .int (sX8_sm_r σ dn 0)), (0, .ref (E.2.2 57)), (1, .int d)] dX8_goOn_15 (by decide) rfl ?_
  refine g_iload_n S 1 dX8_goOn_16 rfl ?_
  refine g_const S dX8_goOn_17 (v := 1) rfl ?_
  refine g_icmp_ne S 74 dX8_goOn_18 (by decide) (fun c_1 => ?_) (fun c_1 => ?_)
  · skip
    refine g_aload_n S 2 dX8_goOn_74 rfl ?_
    refine g_iload_n S 3 dX8_goOn_75 rfl ?_
    refine g_iload_n S 0 dX8_goOn_76 rfl ?_
    refine g_if_ne S 84 dX8_goOn_77 (by decide) (fun c_2 => ?_) (fun c_2 => ?_)
    · skip
      refine g_iload_n S 1 dX8_goOn_84 rfl ?_
      refine g_iload_n S 0 dX8_goOn_85 rfl ?_
      refine g_callv (g_runV S hC (As := [.int d, .int (sX8_sm_r σ dn 0), .int ((sX8_sm_r σ dn 1) - (1 : Int32))]) (rest := []) (k := 57) (by decide) rfl (by decide) rfl (kX8_letSmuggler l E σ d dn hd (by omega) (sX8_sm_r σ dn 0) ((sX8_sm_r σ dn 1) - (1 : Int32))) (cwV 3 S.2.2.2.2 gX8_goOn_X8_letSmuggler rfl rfl rfl (by decide +kernel) ⟨Nat.le_of_ble_eq_true rfl, Nat.le_of_ble_eq_true rfl⟩) rfl rfl (Nat.le_of_ble_eq_true rfl) dX8_goOn_86 ⟨Nat.le_of_ble_eq_true rfl, Nat.le_of_ble_eq_true rfl⟩) ?_
      refine g_nm (fun S1 hS1 => ?_)
      refine g_iload_n S 0 dX8_goOn_89 rfl ?_
      refine g_if_ne S 117 dX8_goOn_90 (by decide) (fun c_3 => ?_) (fun c_3 => ?_)
      · skip
        exact g_vret S hr hlocks dX8_goOn_117 (by subst hS1; unfold sX8_goOn_s; (try dsimp only); rw [if_neg c_1, if_neg c_2, if_neg c_3]) (Nat.le_of_ble_eq_true rfl) (Nat.le_of_ble_eq_true rfl)
      · skip
        refine g_iload_n S 1 dX8_goOn_93 rfl ?_
        refine g_const S dX8_goOn_94 (v := 1) rfl ?_
        refine g_icmp_ne S 117 dX8_goOn_95 (by decide) (fun c_4 => ?_) (fun c_4 => ?_)
        · skip
          exact g_vret S hr hlocks dX8_goOn_117 (by subst hS1; unfold sX8_goOn_s; (try dsimp only); rw [if_neg c_1, if_neg c_2, if_pos c_3, if_neg c_4]) (Nat.le_of_ble_eq_true rfl) (Nat.le_of_ble_eq_true rfl)
        · skip
          refine g_aload_n S 2 dX8_goOn_98 rfl ?_
          refine gg7r S hC hiX8 (by decide) rfl 9 (by decide) (by decide +kernel) dX8_goOn_99 ?_
          refine g_const S dX8_goOn_102 (v := 2) rfl ?_
          refine g_dup2 S dX8_goOn_103 rfl rfl ?_
          refine g_iald S hC (by decide) rfl 2 rfl (by decide) (by decide) dX8_goOn_104 ?_
          refine g_aload_n S 2 dX8_goOn_105 rfl ?_
          refine gg7r S hC hiX8 (by decide) rfl 7 (by decide) (by decide +kernel) dX8_goOn_106 ?_
          refine g_const S dX8_goOn_109 (v := 2) rfl ?_
          refine g_iload_n S 3 dX8_goOn_110 rfl ?_
          refine g_imul S dX8_goOn_111 ?_
          refine g_const S dX8_goOn_112 (v := 1) rfl ?_
          refine g_iadd S dX8_goOn_113 ?_
          refine g_iald S hC (by decide) rfl ((2 * dn) + 1) (gI_add (gI_mul rfl hd) rfl) (show (2 * dn) + 1 < 8 by omega) (by decide) dX8_goOn_114 ?_
          refine g_iadd S dX8_goOn_115 ?_
          refine g_iast S hC (by decide) rfl 2 rfl (by decide) (by decide) dX8_goOn_116 ?_
          refine g_nm (fun S2 hS2 => ?_)
          exact g_vret S hr hlocks dX8_goOn_117 (by subst hS2 hS1; unfold sX8_goOn_s; (try dsimp only); rw [if_neg c_1, if_neg c_2, if_pos c_3, if_pos c_4]) (Nat.le_of_ble_eq_true rfl) (Nat.le_of_ble_eq_true rfl)
    · skip
      refine g_const S dX8_goOn_80 (v := 0) rfl ?_
      refine g_goto S 85 dX8_goOn_81 (by decide) ?_
      refine g_iload_n S 0 dX8_goOn_85 rfl ?_
      refine g_callv (g_runV S hC (As := [.int d, .int (0 : Int32), .int ((sX8_sm_r σ dn 1) - (1 : Int32))]) (rest := []) (k := 57) (by decide) rfl (by decide) rfl (kX8_letSmuggler l E σ d dn hd (by omega) (0 : Int32) ((sX8_sm_r σ dn 1) - (1 : Int32))) (cwV 3 S.2.2.2.2 gX8_goOn_X8_letSmuggler rfl rfl rfl (by decide +kernel) ⟨Nat.le_of_ble_eq_true rfl, Nat.le_of_ble_eq_true rfl⟩) rfl rfl (Nat.le_of_ble_eq_true rfl) dX8_goOn_86 ⟨Nat.le_of_ble_eq_true rfl, Nat.le_of_ble_eq_true rfl⟩) ?_
      refine g_nm (fun S3 hS3 => ?_)
      refine g_iload_n S 0 dX8_goOn_89 rfl ?_
      refine g_if_ne S 117 dX8_goOn_90 (by decide) (fun c_5 => ?_) (fun c_5 => ?_)
      · skip
        exact g_vret S hr hlocks dX8_goOn_117 (by subst hS3; unfold sX8_goOn_s; (try dsimp only); rw [if_neg c_1, if_pos c_2, if_neg c_5]) (Nat.le_of_ble_eq_true rfl) (Nat.le_of_ble_eq_true rfl)
      · skip
        refine g_iload_n S 1 dX8_goOn_93 rfl ?_
        refine g_const S dX8_goOn_94 (v := 1) rfl ?_
        refine g_icmp_ne S 117 dX8_goOn_95 (by decide) (fun c_6 => ?_) (fun c_6 => ?_)
        · skip
          exact g_vret S hr hlocks dX8_goOn_117 (by subst hS3; unfold sX8_goOn_s; (try dsimp only); rw [if_neg c_1, if_pos c_2, if_pos c_5, if_neg c_6]) (Nat.le_of_ble_eq_true rfl) (Nat.le_of_ble_eq_true rfl)
        · skip
          refine g_aload_n S 2 dX8_goOn_98 rfl ?_
          refine gg7r S hC hiX8 (by decide) rfl 9 (by decide) (by decide +kernel) dX8_goOn_99 ?_
          refine g_const S dX8_goOn_102 (v := 2) rfl ?_
          refine g_dup2 S dX8_goOn_103 rfl rfl ?_
          refine g_iald S hC (by decide) rfl 2 rfl (by decide) (by decide) dX8_goOn_104 ?_
          refine g_aload_n S 2 dX8_goOn_105 rfl ?_
          refine gg7r S hC hiX8 (by decide) rfl 7 (by decide) (by decide +kernel) dX8_goOn_106 ?_
          refine g_const S dX8_goOn_109 (v := 2) rfl ?_
          refine g_iload_n S 3 dX8_goOn_110 rfl ?_
          refine g_imul S dX8_goOn_111 ?_
          refine g_const S dX8_goOn_112 (v := 1) rfl ?_
          refine g_iadd S dX8_goOn_113 ?_
          refine g_iald S hC (by decide) rfl ((2 * dn) + 1) (gI_add (gI_mul rfl hd) rfl) (show (2 * dn) + 1 < 8 by omega) (by decide) dX8_goOn_114 ?_
          refine g_iadd S dX8_goOn_115 ?_
          refine g_iast S hC (by decide) rfl 2 rfl (by decide) (by decide) dX8_goOn_116 ?_
          refine g_nm (fun S4 hS4 => ?_)
          exact g_vret S hr hlocks dX8_goOn_117 (by subst hS4 hS3; unfold sX8_goOn_s; (try dsimp only); rw [if_neg c_1, if_pos c_2, if_pos c_5, if_pos c_6]) (Nat.le_of_ble_eq_true rfl) (Nat.le_of_ble_eq_true rfl)
  · skip
    refine g_iload_n S 0 dX8_goOn_21 rfl ?_
    refine g_aload_n S 2 dX8_goOn_22 rfl ?_
    refine gg7r S hC hiX8 (by decide) rfl 7 (by decide) (by decide +kernel) dX8_goOn_23 ?_
    refine g_const S dX8_goOn_26 (v := 2) rfl ?_
    refine g_iload_n S 3 dX8_goOn_27 rfl ?_
    refine g_imul S dX8_goOn_28 ?_
    refine g_iald S hC (by decide) rfl (2 * dn) (gI_mul rfl hd) (show 2 * dn < 8 by omega) (by decide) dX8_goOn_29 ?_
    refine g_const S dX8_goOn_30 (v := 2) rfl ?_
    refine g_idiv S dX8_goOn_31 (by decide) ?_
    refine g_icmp_ne S 74 dX8_goOn_32 (by decide) (fun c_7 => ?_) (fun c_7 => ?_)
    · skip
      refine g_aload_n S 2 dX8_goOn_74 rfl ?_
      refine g_iload_n S 3 dX8_goOn_75 rfl ?_
      refine g_iload_n S 0 dX8_goOn_76 rfl ?_
      refine g_if_ne S 84 dX8_goOn_77 (by decide) (fun c_8 => ?_) (fun c_8 => ?_)
      · skip
        refine g_iload_n S 1 dX8_goOn_84 rfl ?_
        refine g_iload_n S 0 dX8_goOn_85 rfl ?_
        refine g_callv (g_runV S hC (As := [.int d, .int (sX8_sm_r σ dn 0), .int ((sX8_sm_r σ dn 1) - (1 : Int32))]) (rest := []) (k := 57) (by decide) rfl (by decide) rfl (kX8_letSmuggler l E σ d dn hd (by omega) (sX8_sm_r σ dn 0) ((sX8_sm_r σ dn 1) - (1 : Int32))) (cwV 3 S.2.2.2.2 gX8_goOn_X8_letSmuggler rfl rfl rfl (by decide +kernel) ⟨Nat.le_of_ble_eq_true rfl, Nat.le_of_ble_eq_true rfl⟩) rfl rfl (Nat.le_of_ble_eq_true rfl) dX8_goOn_86 ⟨Nat.le_of_ble_eq_true rfl, Nat.le_of_ble_eq_true rfl⟩) ?_
        refine g_nm (fun S5 hS5 => ?_)
        refine g_iload_n S 0 dX8_goOn_89 rfl ?_
        refine g_if_ne S 117 dX8_goOn_90 (by decide) (fun c_9 => ?_) (fun c_9 => ?_)
        · skip
          exact g_vret S hr hlocks dX8_goOn_117 (by subst hS5; unfold sX8_goOn_s; (try dsimp only); rw [if_pos c_1, if_neg c_7, if_neg c_8, if_neg c_9]) (Nat.le_of_ble_eq_true rfl) (Nat.le_of_ble_eq_true rfl)
        · skip
          refine g_iload_n S 1 dX8_goOn_93 rfl ?_
          refine g_const S dX8_goOn_94 (v := 1) rfl ?_
          refine g_icmp_ne S 117 dX8_goOn_95 (by decide) (fun c_10 => ?_) (fun c_10 => ?_)
          · skip
            exact g_vret S hr hlocks dX8_goOn_117 (by subst hS5; unfold sX8_goOn_s; (try dsimp only); rw [if_pos c_1, if_neg c_7, if_neg c_8, if_pos c_9, if_neg c_10]) (Nat.le_of_ble_eq_true rfl) (Nat.le_of_ble_eq_true rfl)
          · skip
            refine g_aload_n S 2 dX8_goOn_98 rfl ?_
            refine gg7r S hC hiX8 (by decide) rfl 9 (by decide) (by decide +kernel) dX8_goOn_99 ?_
            refine g_const S dX8_goOn_102 (v := 2) rfl ?_
            refine g_dup2 S dX8_goOn_103 rfl rfl ?_
            refine g_iald S hC (by decide) rfl 2 rfl (by decide) (by decide) dX8_goOn_104 ?_
            refine g_aload_n S 2 dX8_goOn_105 rfl ?_
            refine gg7r S hC hiX8 (by decide) rfl 7 (by decide) (by decide +kernel) dX8_goOn_106 ?_
            refine g_const S dX8_goOn_109 (v := 2) rfl ?_
            refine g_iload_n S 3 dX8_goOn_110 rfl ?_
            refine g_imul S dX8_goOn_111 ?_
            refine g_const S dX8_goOn_112 (v := 1) rfl ?_
            refine g_iadd S dX8_goOn_113 ?_
            refine g_iald S hC (by decide) rfl ((2 * dn) + 1) (gI_add (gI_mul rfl hd) rfl) (show (2 * dn) + 1 < 8 by omega) (by decide) dX8_goOn_114 ?_
            refine g_iadd S dX8_goOn_115 ?_
            refine g_iast S hC (by decide) rfl 2 rfl (by decide) (by decide) dX8_goOn_116 ?_
            refine g_nm (fun S6 hS6 => ?_)
            exact g_vret S hr hlocks dX8_goOn_117 (by subst hS6 hS5; unfold sX8_goOn_s; (try dsimp only); rw [if_pos c_1, if_neg c_7, if_neg c_8, if_pos c_9, if_pos c_10]) (Nat.le_of_ble_eq_true rfl) (Nat.le_of_ble_eq_true rfl)
      · skip
        refine g_const S dX8_goOn_80 (v := 0) rfl ?_
        refine g_goto S 85 dX8_goOn_81 (by decide) ?_
        refine g_iload_n S 0 dX8_goOn_85 rfl ?_
        refine g_callv (g_runV S hC (As := [.int d, .int (0 : Int32), .int ((sX8_sm_r σ dn 1) - (1 : Int32))]) (rest := []) (k := 57) (by decide) rfl (by decide) rfl (kX8_letSmuggler l E σ d dn hd (by omega) (0 : Int32) ((sX8_sm_r σ dn 1) - (1 : Int32))) (cwV 3 S.2.2.2.2 gX8_goOn_X8_letSmuggler rfl rfl rfl (by decide +kernel) ⟨Nat.le_of_ble_eq_true rfl, Nat.le_of_ble_eq_true rfl⟩) rfl rfl (Nat.le_of_ble_eq_true rfl) dX8_goOn_86 ⟨Nat.le_of_ble_eq_true rfl, Nat.le_of_ble_eq_true rfl⟩) ?_
        refine g_nm (fun S7 hS7 => ?_)
        refine g_iload_n S 0 dX8_goOn_89 rfl ?_
        refine g_if_ne S 117 dX8_goOn_90 (by decide) (fun c_11 => ?_) (fun c_11 => ?_)
        · skip
          exact g_vret S hr hlocks dX8_goOn_117 (by subst hS7; unfold sX8_goOn_s; (try dsimp only); rw [if_pos c_1, if_neg c_7, if_pos c_8, if_neg c_11]) (Nat.le_of_ble_eq_true rfl) (Nat.le_of_ble_eq_true rfl)
        · skip
          refine g_iload_n S 1 dX8_goOn_93 rfl ?_
          refine g_const S dX8_goOn_94 (v := 1) rfl ?_
          refine g_icmp_ne S 117 dX8_goOn_95 (by decide) (fun c_12 => ?_) (fun c_12 => ?_)
          · skip
            exact g_vret S hr hlocks dX8_goOn_117 (by subst hS7; unfold sX8_goOn_s; (try dsimp only); rw [if_pos c_1, if_neg c_7, if_pos c_8, if_pos c_11, if_neg c_12]) (Nat.le_of_ble_eq_true rfl) (Nat.le_of_ble_eq_true rfl)
          · skip
            refine g_aload_n S 2 dX8_goOn_98 rfl ?_
            refine gg7r S hC hiX8 (by decide) rfl 9 (by decide) (by decide +kernel) dX8_goOn_99 ?_
            refine g_const S dX8_goOn_102 (v := 2) rfl ?_
            refine g_dup2 S dX8_goOn_103 rfl rfl ?_
            refine g_iald S hC (by decide) rfl 2 rfl (by decide) (by decide) dX8_goOn_104 ?_
            refine g_aload_n S 2 dX8_goOn_105 rfl ?_
            refine gg7r S hC hiX8 (by decide) rfl 7 (by decide) (by decide +kernel) dX8_goOn_106 ?_
            refine g_const S dX8_goOn_109 (v := 2) rfl ?_
            refine g_iload_n S 3 dX8_goOn_110 rfl ?_
            refine g_imul S dX8_goOn_111 ?_
            refine g_const S dX8_goOn_112 (v := 1) rfl ?_
            refine g_iadd S dX8_goOn_113 ?_
            refine g_iald S hC (by decide) rfl ((2 * dn) + 1) (gI_add (gI_mul rfl hd) rfl) (show (2 * dn) + 1 < 8 by omega) (by decide) dX8_goOn_114 ?_
            refine g_iadd S dX8_goOn_115 ?_
            refine g_iast S hC (by decide) rfl 2 rfl (by decide) (by decide) dX8_goOn_116 ?_
            refine g_nm (fun S8 hS8 => ?_)
            exact g_vret S hr hlocks dX8_goOn_117 (by subst hS8 hS7; unfold sX8_goOn_s; (try dsimp only); rw [if_pos c_1, if_neg c_7, if_pos c_8, if_pos c_11, if_pos c_12]) (Nat.le_of_ble_eq_true rfl) (Nat.le_of_ble_eq_true rfl)
    · skip
      refine g_aload_n S 2 dX8_goOn_35 rfl ?_
      refine g_aload_n S 2 dX8_goOn_36 rfl ?_
      refine gg7r S hC hiX8 (by decide) rfl 9 (by decide) (by decide +kernel) dX8_goOn_37 ?_
      refine g_const S dX8_goOn_40 (v := 0) rfl ?_
      refine g_iald S hC (by decide) rfl 0 rfl (by decide) (by decide) dX8_goOn_41 ?_
      refine g_calli (g_runV S hC (As := [.int (σ.1 62 0)]) (rest := []) (k := 57) (by decide) rfl (by decide) rfl (kX8_isPatrol l E σ (σ.1 62 0)) (cwV 1 S.2.2.2.2 gX8_goOn_X8_isPatrol rfl rfl rfl (by decide +kernel) ⟨Nat.le_of_ble_eq_true rfl, Nat.le_of_ble_eq_true rfl⟩) rfl rfl (Nat.le_of_ble_eq_true rfl) dX8_goOn_42 ⟨Nat.le_of_ble_eq_true rfl, Nat.le_of_ble_eq_true rfl⟩) ?_
      refine g_if_eq S 74 dX8_goOn_45 (by decide) (fun c_13 => ?_) (fun c_13 => ?_)
      · skip
        refine g_aload_n S 2 dX8_goOn_74 rfl ?_
        refine g_iload_n S 3 dX8_goOn_75 rfl ?_
        refine g_iload_n S 0 dX8_goOn_76 rfl ?_
        refine g_if_ne S 84 dX8_goOn_77 (by decide) (fun c_14 => ?_) (fun c_14 => ?_)
        · skip
          refine g_iload_n S 1 dX8_goOn_84 rfl ?_
          refine g_iload_n S 0 dX8_goOn_85 rfl ?_
          refine g_callv (g_runV S hC (As := [.int d, .int (sX8_sm_r σ dn 0), .int ((sX8_sm_r σ dn 1) - (1 : Int32))]) (rest := []) (k := 57) (by decide) rfl (by decide) rfl (kX8_letSmuggler l E σ d dn hd (by omega) (sX8_sm_r σ dn 0) ((sX8_sm_r σ dn 1) - (1 : Int32))) (cwV 3 S.2.2.2.2 gX8_goOn_X8_letSmuggler rfl rfl rfl (by decide +kernel) ⟨Nat.le_of_ble_eq_true rfl, Nat.le_of_ble_eq_true rfl⟩) rfl rfl (Nat.le_of_ble_eq_true rfl) dX8_goOn_86 ⟨Nat.le_of_ble_eq_true rfl, Nat.le_of_ble_eq_true rfl⟩) ?_
          refine g_nm (fun S9 hS9 => ?_)
          refine g_iload_n S 0 dX8_goOn_89 rfl ?_
          refine g_if_ne S 117 dX8_goOn_90 (by decide) (fun c_15 => ?_) (fun c_15 => ?_)
          · skip
            exact g_vret S hr hlocks dX8_goOn_117 (by subst hS9; unfold sX8_goOn_s; (try dsimp only); rw [if_pos c_1, if_pos c_7, if_pos c_13, if_neg c_14, if_neg c_15]) (Nat.le_of_ble_eq_true rfl) (Nat.le_of_ble_eq_true rfl)
          · skip
            refine g_iload_n S 1 dX8_goOn_93 rfl ?_
            refine g_const S dX8_goOn_94 (v := 1) rfl ?_
            refine g_icmp_ne S 117 dX8_goOn_95 (by decide) (fun c_16 => ?_) (fun c_16 => ?_)
            · skip
              exact g_vret S hr hlocks dX8_goOn_117 (by subst hS9; unfold sX8_goOn_s; (try dsimp only); rw [if_pos c_1, if_pos c_7, if_pos c_13, if_neg c_14, if_pos c_15, if_neg c_16]) (Nat.le_of_ble_eq_true rfl) (Nat.le_of_ble_eq_true rfl)
            · skip
              refine g_aload_n S 2 dX8_goOn_98 rfl ?_
              refine gg7r S hC hiX8 (by decide) rfl 9 (by decide) (by decide +kernel) dX8_goOn_99 ?_
              refine g_const S dX8_goOn_102 (v := 2) rfl ?_
              refine g_dup2 S dX8_goOn_103 rfl rfl ?_
              refine g_iald S hC (by decide) rfl 2 rfl (by decide) (by decide) dX8_goOn_104 ?_
              refine g_aload_n S 2 dX8_goOn_105 rfl ?_
              refine gg7r S hC hiX8 (by decide) rfl 7 (by decide) (by decide +kernel) dX8_goOn_106 ?_
              refine g_const S dX8_goOn_109 (v := 2) rfl ?_
              refine g_iload_n S 3 dX8_goOn_110 rfl ?_
              refine g_imul S dX8_goOn_111 ?_
              refine g_const S dX8_goOn_112 (v := 1) rfl ?_
              refine g_iadd S dX8_goOn_113 ?_
              refine g_iald S hC (by decide) rfl ((2 * dn) + 1) (gI_add (gI_mul rfl hd) rfl) (show (2 * dn) + 1 < 8 by omega) (by decide) dX8_goOn_114 ?_
              refine g_iadd S dX8_goOn_115 ?_
              refine g_iast S hC (by decide) rfl 2 rfl (by decide) (by decide) dX8_goOn_116 ?_
              refine g_nm (fun S10 hS10 => ?_)
              exact g_vret S hr hlocks dX8_goOn_117 (by subst hS10 hS9; unfold sX8_goOn_s; (try dsimp only); rw [if_pos c_1, if_pos c_7, if_pos c_13, if_neg c_14, if_pos c_15, if_pos c_16]) (Nat.le_of_ble_eq_true rfl) (Nat.le_of_ble_eq_true rfl)
        · skip
          refine g_const S dX8_goOn_80 (v := 0) rfl ?_
          refine g_goto S 85 dX8_goOn_81 (by decide) ?_
          refine g_iload_n S 0 dX8_goOn_85 rfl ?_
          refine g_callv (g_runV S hC (As := [.int d, .int (0 : Int32), .int ((sX8_sm_r σ dn 1) - (1 : Int32))]) (rest := []) (k := 57) (by decide) rfl (by decide) rfl (kX8_letSmuggler l E σ d dn hd (by omega) (0 : Int32) ((sX8_sm_r σ dn 1) - (1 : Int32))) (cwV 3 S.2.2.2.2 gX8_goOn_X8_letSmuggler rfl rfl rfl (by decide +kernel) ⟨Nat.le_of_ble_eq_true rfl, Nat.le_of_ble_eq_true rfl⟩) rfl rfl (Nat.le_of_ble_eq_true rfl) dX8_goOn_86 ⟨Nat.le_of_ble_eq_true rfl, Nat.le_of_ble_eq_true rfl⟩) ?_
          refine g_nm (fun S11 hS11 => ?_)
          refine g_iload_n S 0 dX8_goOn_89 rfl ?_
          refine g_if_ne S 117 dX8_goOn_90 (by decide) (fun c_17 => ?_) (fun c_17 => ?_)
          · skip
            exact g_vret S hr hlocks dX8_goOn_117 (by subst hS11; unfold sX8_goOn_s; (try dsimp only); rw [if_pos c_1, if_pos c_7, if_pos c_13, if_pos c_14, if_neg c_17]) (Nat.le_of_ble_eq_true rfl) (Nat.le_of_ble_eq_true rfl)
          · skip
            refine g_iload_n S 1 dX8_goOn_93 rfl ?_
            refine g_const S dX8_goOn_94 (v := 1) rfl ?_
            refine g_icmp_ne S 117 dX8_goOn_95 (by decide) (fun c_18 => ?_) (fun c_18 => ?_)
            · skip
              exact g_vret S hr hlocks dX8_goOn_117 (by subst hS11; unfold sX8_goOn_s; (try dsimp only); rw [if_pos c_1, if_pos c_7, if_pos c_13, if_pos c_14, if_pos c_17, if_neg c_18]) (Nat.le_of_ble_eq_true rfl) (Nat.le_of_ble_eq_true rfl)
            · skip
              refine g_aload_n S 2 dX8_goOn_98 rfl ?_
              refine gg7r S hC hiX8 (by decide) rfl 9 (by decide) (by decide +kernel) dX8_goOn_99 ?_
              refine g_const S dX8_goOn_102 (v := 2) rfl ?_
              refine g_dup2 S dX8_goOn_103 rfl rfl ?_
              refine g_iald S hC (by decide) rfl 2 rfl (by decide) (by decide) dX8_goOn_104 ?_
              refine g_aload_n S 2 dX8_goOn_105 rfl ?_
              refine gg7r S hC hiX8 (by decide) rfl 7 (by decide) (by decide +kernel) dX8_goOn_106 ?_
              refine g_const S dX8_goOn_109 (v := 2) rfl ?_
              refine g_iload_n S 3 dX8_goOn_110 rfl ?_
              refine g_imul S dX8_goOn_111 ?_
              refine g_const S dX8_goOn_112 (v := 1) rfl ?_
              refine g_iadd S dX8_goOn_113 ?_
              refine g_iald S hC (by decide) rfl ((2 * dn) + 1) (gI_add (gI_mul rfl hd) rfl) (show (2 * dn) + 1 < 8 by omega) (by decide) dX8_goOn_114 ?_
              refine g_iadd S dX8_goOn_115 ?_
              refine g_iast S hC (by decide) rfl 2 rfl (by decide) (by decide) dX8_goOn_116 ?_
              refine g_nm (fun S12 hS12 => ?_)
              exact g_vret S hr hlocks dX8_goOn_117 (by subst hS12 hS11; unfold sX8_goOn_s; (try dsimp only); rw [if_pos c_1, if_pos c_7, if_pos c_13, if_pos c_14, if_pos c_17, if_pos c_18]) (Nat.le_of_ble_eq_true rfl) (Nat.le_of_ble_eq_true rfl)
      · skip
        refine g_aload_n S 2 dX8_goOn_48 rfl ?_
        refine g_iload_n S 3 dX8_goOn_49 rfl ?_
        refine g_const S dX8_goOn_50 (v := 2) rfl ?_
        refine g_bipush S dX8_goOn_51 (v := 10) rfl ?_
        refine g_callv (g_runV S hC (As := [.int d, .int (2 : Int32), .int (10 : Int32)]) (rest := []) (k := 57) (by decide) rfl (by decide) rfl (kX8_letSmuggler l E σ d dn hd (by omega) (2 : Int32) (10 : Int32)) (cwV 3 S.2.2.2.2 gX8_goOn_X8_letSmuggler rfl rfl rfl (by decide +kernel) ⟨Nat.le_of_ble_eq_true rfl, Nat.le_of_ble_eq_true rfl⟩) rfl rfl (Nat.le_of_ble_eq_true rfl) dX8_goOn_53 ⟨Nat.le_of_ble_eq_true rfl, Nat.le_of_ble_eq_true rfl⟩) ?_
        refine g_nm (fun S13 hS13 => ?_)
        refine g_aload_n S 2 dX8_goOn_56 rfl ?_
        refine gg7r S hC hiX8 (by decide) rfl 9 (by decide) (by decide +kernel) dX8_goOn_57 ?_
        refine g_bipush S dX8_goOn_60 (v := 30) rfl ?_
        refine g_const S dX8_goOn_62 (v := 3) rfl ?_
        refine g_iload_n S 3 dX8_goOn_63 rfl ?_
        refine g_imul S dX8_goOn_64 ?_
        refine g_iadd S dX8_goOn_65 ?_
        refine g_const S dX8_goOn_66 (v := 2) rfl ?_
        refine g_iadd S dX8_goOn_67 ?_
        refine g_dup2 S dX8_goOn_68 rfl rfl ?_
        refine g_iald S hC (by decide) rfl ((30 + (3 * dn)) + 2) (gI_add (gI_add rfl (gI_mul rfl hd)) rfl) (show (30 + (3 * dn)) + 2 < 72 by omega) (by decide) dX8_goOn_69 ?_
        refine g_const S dX8_goOn_70 (v := 1) rfl ?_
        refine g_iadd S dX8_goOn_71 ?_
        refine g_iast S hC (by decide) rfl ((30 + (3 * dn)) + 2) (gI_add (gI_add rfl (gI_mul rfl hd)) rfl) (show (30 + (3 * dn)) + 2 < 72 by omega) (by decide) dX8_goOn_72 ?_
        refine g_nm (fun S14 hS14 => ?_)
        exact g_vret S hr hlocks dX8_goOn_73 (by subst hS14 hS13; unfold sX8_goOn_s; (try dsimp only); rw [if_pos c_1, if_pos c_7, if_neg c_13]) (Nat.le_of_ble_eq_true rfl) (Nat.le_of_ble_eq_true rfl)
theorem okX8_goOn {σ : gS} {d : Nat} (hd : d < 4) (h : mOK σ) : mOK (sX8_goOn_s σ d) := by
  unfold sX8_goOn_s
  (try dsimp only)
  (repeat' split)
  all_goals first
    | exact okX8_letSmuggler h
    | exact mOK.now rfl (fun d2 _ => by omega) (okX8_letSmuggler h)
def sX8_serve_r (σ : gS) (dn : Nat) : Int32 := if sX8_ca_r σ dn 0 = 0 then ((0 : Int32)) else (if (10 : Int32) - (gmin (σ.1 62 7) (σ.1 62 4)) ≤ σ.1 62 3 then (if σ.1 61 ((2 * dn) + 1) ≤ gmin (σ.1 62 7) (σ.1 62 4) then (let S1 := gu σ 62 4 ((σ.1 62 4) - (gmin (σ.1 62 7) (σ.1 62 4))); let S2 := gu S1 62 3 ((S1.1 62 3) - ((10 : Int32) - (gmin (σ.1 62 7) (σ.1 62 4)))); let S3 := gu S2 62 5 ((S2.1 62 5) + (1 : Int32)); if S3.1 62 7 ≤ gmin (σ.1 62 7) (σ.1 62 4) then ((1 : Int32)) else ((1 : Int32))) else ((0 : Int32))) else ((0 : Int32)))
def sX8_serve_s (σ : gS) (dn : Nat) : gS := if sX8_ca_r σ dn 0 = 0 then (σ) else (if (10 : Int32) - (gmin (σ.1 62 7) (σ.1 62 4)) ≤ σ.1 62 3 then (if σ.1 61 ((2 * dn) + 1) ≤ gmin (σ.1 62 7) (σ.1 62 4) then (let S1 := gu σ 62 4 ((σ.1 62 4) - (gmin (σ.1 62 7) (σ.1 62 4))); let S2 := gu S1 62 3 ((S1.1 62 3) - ((10 : Int32) - (gmin (σ.1 62 7) (σ.1 62 4)))); let S3 := gu S2 62 5 ((S2.1 62 5) + (1 : Int32)); if S3.1 62 7 ≤ gmin (σ.1 62 7) (σ.1 62 4) then (let S4 := gu S3 62 6 ((S3.1 62 6) + (0 : Int32)); let S5 := sX8_moreCard_s S4 dn 0 (-1 : Int32); let S6 := sX8_moreCard_s S5 dn 1 (1 : Int32); S6) else (let S7 := gu S3 62 6 ((S3.1 62 6) + (1 : Int32)); let S8 := sX8_moreCard_s S7 dn 0 (-1 : Int32); let S9 := sX8_moreCard_s S8 dn 1 (1 : Int32); S9)) else (let S10 := sX8_moreCard_s σ dn 2 (1 : Int32); S10)) else (σ))
theorem bX8_serve (σ : gS) (dn : Nat) : sX8_serve_r σ dn = 0 ∨ sX8_serve_r σ dn = 1 := by
  unfold sX8_serve_r
  (try dsimp only)
  repeat' split
  all_goals first | exact Or.inl rfl | exact Or.inr rfl
theorem fX8_serve (σ : gS) (dn : Nat) (x : Nat) (hx62 : x ≠ 62) : (sX8_serve_s σ dn).1 x = σ.1 x := by
  unfold sX8_serve_s
  (try dsimp only)
  (repeat' split)
  all_goals (simp [gu_ne, gcp, fX8_moreCard, *])
set_option maxRecDepth 100000 in
set_option maxHeartbeats 4000000 in
theorem kX8_serve (l : Launch) (E : gT) (σ : gS) (d : Int32) (dn : Nat) (hd : d = nI dn) (hdn : dn < 10) : gMi l yX8_serve wsX8_serve ({ frames := 1, cells := 0, slots := 0, locals := 24 }) 0 0 E σ [.ref (E.2.2 57), .int d] (sX8_serve_r σ dn) (sX8_serve_s σ dn) := by
  refine g_met (mc := 0) (ms := 0) (nL := 3) (ret := (some .boolean)) (by decide) rfl (lv := [(0, .ref (E.2.2 57)), (1, .int d)]) rfl (Nat.le_of_ble_eq_true rfl) ?_
  intro p e s m below meth c S hr hlocks hC
  have hiX8 : ∀ w ∈ wsX80, w ∈ wsX8_serve := by decide +kernel
  refine g_aload_n S 0 dX8_serve_0 rfl ?_
  refine gg7r S hC hiX8 (by decide) rfl 9 (by decide) (by decide +kernel) dX8_serve_1 ?_
  refine g_bipush S dX8_serve_4 (v := 7) rfl ?_
  refine g_iald S hC (by decide) rfl 7 rfl (by decide) (by decide) dX8_serve_6 ?_
  refine g_aload_n S 0 dX8_serve_7 rfl ?_
  refine gg7r S hC hiX8 (by decide) rfl 9 (by decide) (by decide +kernel) dX8_serve_8 ?_
  refine g_const S dX8_serve_11 (v := 4) rfl ?_
  refine g_iald S hC (by decide) rfl 4 rfl (by decide) (by decide) dX8_serve_12 ?_
  refine g_mn S (by decide +kernel) (by decide +kernel) (by decide +kernel) (by decide +kernel) (Nat.le_of_ble_eq_true rfl) (Nat.le_of_ble_eq_true rfl) (Nat.le_of_ble_eq_true rfl) (Nat.le_of_ble_eq_true rfl) dX8_serve_13 ?_
  refine g_istore_n S [(2, .int (gmin (σ.1 62 7) (σ.1 62 4))), (0, .ref (E.2.2 57)), (1, .int d)] dX8_serve_16 (by decide) rfl ?_
  refine g_aload_n S 1 dX8_serve_17 rfl ?_
  refine g_iload_n S 2 dX8_serve_18 rfl ?_
  refine g_const S dX8_serve_19 (v := 0) rfl ?_
  refine g_calli (g_runV S hC (As := [.int d, .int (0 : Int32)]) (rest := []) (k := 57) (by decide) rfl (by decide) rfl (kX8_ca l E σ d dn hd (by omega) (0 : Int32) 0 rfl (by decide)) (cwV 2 S.2.2.2.2 gX8_serve_X8_ca rfl rfl rfl (by decide +kernel) ⟨Nat.le_of_ble_eq_true rfl, Nat.le_of_ble_eq_true rfl⟩) rfl rfl (Nat.le_of_ble_eq_true rfl) dX8_serve_20 ⟨Nat.le_of_ble_eq_true rfl, Nat.le_of_ble_eq_true rfl⟩) ?_
  refine g_if_eq S 39 dX8_serve_23 (by decide) (fun c_1 => ?_) (fun c_1 => ?_)
  · skip
    refine g_const S dX8_serve_39 (v := 0) rfl ?_
    exact g_zret S hr hlocks dX8_serve_40 rfl (by rw [sX8_serve_r, if_pos c_1]) (by rw [sX8_serve_s, if_pos c_1]) (Nat.le_of_ble_eq_true rfl) (Nat.le_of_ble_eq_true rfl)
  · skip
    refine g_aload_n S 1 dX8_serve_26 rfl ?_
    refine gg7r S hC hiX8 (by decide) rfl 9 (by decide) (by decide +kernel) dX8_serve_27 ?_
    refine g_const S dX8_serve_30 (v := 3) rfl ?_
    refine g_iald S hC (by decide) rfl 3 rfl (by decide) (by decide) dX8_serve_31 ?_
    refine g_bipush S dX8_serve_32 (v := 10) rfl ?_
    refine g_iload_n S 0 dX8_serve_34 rfl ?_
    refine g_isub S dX8_serve_35 ?_
    refine g_icmp_ge S 41 dX8_serve_36 (by decide) (fun c_2 => ?_) (fun c_2 => ?_)
    · skip
      refine g_iload_n S 0 dX8_serve_41 rfl ?_
      refine g_aload_n S 1 dX8_serve_42 rfl ?_
      refine gg7r S hC hiX8 (by decide) rfl 8 (by decide) (by decide +kernel) dX8_serve_43 ?_
      refine g_const S dX8_serve_46 (v := 2) rfl ?_
      refine g_iload_n S 2 dX8_serve_47 rfl ?_
      refine g_imul S dX8_serve_48 ?_
      refine g_const S dX8_serve_49 (v := 1) rfl ?_
      refine g_iadd S dX8_serve_50 ?_
      refine g_iald S hC (by decide) rfl ((2 * dn) + 1) (gI_add (gI_mul rfl hd) rfl) (show (2 * dn) + 1 < 20 by omega) (by decide) dX8_serve_51 ?_
      refine g_icmp_ge S 64 dX8_serve_52 (by decide) (fun c_3 => ?_) (fun c_3 => ?_)
      · skip
        refine g_aload_n S 1 dX8_serve_64 rfl ?_
        refine gg7r S hC hiX8 (by decide) rfl 9 (by decide) (by decide +kernel) dX8_serve_65 ?_
        refine g_const S dX8_serve_68 (v := 4) rfl ?_
        refine g_dup2 S dX8_serve_69 rfl rfl ?_
        refine g_iald S hC (by decide) rfl 4 rfl (by decide) (by decide) dX8_serve_70 ?_
        refine g_iload_n S 0 dX8_serve_71 rfl ?_
        refine g_isub S dX8_serve_72 ?_
        refine g_iast S hC (by decide) rfl 4 rfl (by decide) (by decide) dX8_serve_73 ?_
        refine g_nm (fun S1 hS1 => ?_)
        refine g_aload_n S 1 dX8_serve_74 rfl ?_
        refine gg7r S hC hiX8 (by decide) rfl 9 (by decide) (by decide +kernel) dX8_serve_75 ?_
        refine g_const S dX8_serve_78 (v := 3) rfl ?_
        refine g_dup2 S dX8_serve_79 rfl rfl ?_
        refine g_iald S hC (by decide) rfl 3 rfl (by decide) (by decide) dX8_serve_80 ?_
        refine g_bipush S dX8_serve_81 (v := 10) rfl ?_
        refine g_iload_n S 0 dX8_serve_83 rfl ?_
        refine g_isub S dX8_serve_84 ?_
        refine g_isub S dX8_serve_85 ?_
        refine g_iast S hC (by decide) rfl 3 rfl (by decide) (by decide) dX8_serve_86 ?_
        refine g_nm (fun S2 hS2 => ?_)
        refine g_aload_n S 1 dX8_serve_87 rfl ?_
        refine gg7r S hC hiX8 (by decide) rfl 9 (by decide) (by decide +kernel) dX8_serve_88 ?_
        refine g_const S dX8_serve_91 (v := 5) rfl ?_
        refine g_dup2 S dX8_serve_92 rfl rfl ?_
        refine g_iald S hC (by decide) rfl 5 rfl (by decide) (by decide) dX8_serve_93 ?_
        refine g_const S dX8_serve_94 (v := 1) rfl ?_
        refine g_iadd S dX8_serve_95 ?_
        refine g_iast S hC (by decide) rfl 5 rfl (by decide) (by decide) dX8_serve_96 ?_
        refine g_nm (fun S3 hS3 => ?_)
        refine g_aload_n S 1 dX8_serve_97 rfl ?_
        refine gg7r S hC hiX8 (by decide) rfl 9 (by decide) (by decide +kernel) dX8_serve_98 ?_
        refine g_bipush S dX8_serve_101 (v := 6) rfl ?_
        refine g_dup2 S dX8_serve_103 rfl rfl ?_
        refine g_iald S hC (by decide) rfl 6 rfl (by decide) (by decide) dX8_serve_104 ?_
        refine g_iload_n S 0 dX8_serve_105 rfl ?_
        refine g_aload_n S 1 dX8_serve_106 rfl ?_
        refine gg7r S hC hiX8 (by decide) rfl 9 (by decide) (by decide +kernel) dX8_serve_107 ?_
        refine g_bipush S dX8_serve_110 (v := 7) rfl ?_
        refine g_iald S hC (by decide) rfl 7 rfl (by decide) (by decide) dX8_serve_112 ?_
        refine g_icmp_ge S 120 dX8_serve_113 (by decide) (fun c_4 => ?_) (fun c_4 => ?_)
        · skip
          refine g_const S dX8_serve_120 (v := 0) rfl ?_
          refine g_iadd S dX8_serve_121 ?_
          refine g_iast S hC (by decide) rfl 6 rfl (by decide) (by decide) dX8_serve_122 ?_
          refine g_nm (fun S4 hS4 => ?_)
          refine g_aload_n S 1 dX8_serve_123 rfl ?_
          refine g_iload_n S 2 dX8_serve_124 rfl ?_
          refine g_const S dX8_serve_125 (v := 0) rfl ?_
          refine g_const S dX8_serve_126 (v := (-1)) rfl ?_
          refine g_callv (g_runV S hC (As := [.int d, .int (0 : Int32), .int (-1 : Int32)]) (rest := []) (k := 57) (by decide) rfl (by decide) rfl (kX8_moreCard l E S4 d dn hd (by omega) (0 : Int32) 0 rfl (by decide) (-1 : Int32)) (cwV 3 S.2.2.2.2 gX8_serve_X8_moreCard rfl rfl rfl (by decide +kernel) ⟨Nat.le_of_ble_eq_true rfl, Nat.le_of_ble_eq_true rfl⟩) rfl rfl (Nat.le_of_ble_eq_true rfl) dX8_serve_127 ⟨Nat.le_of_ble_eq_true rfl, Nat.le_of_ble_eq_true rfl⟩) ?_
          refine g_nm (fun S5 hS5 => ?_)
          refine g_aload_n S 1 dX8_serve_130 rfl ?_
          refine g_iload_n S 2 dX8_serve_131 rfl ?_
          refine g_const S dX8_serve_132 (v := 1) rfl ?_
          refine g_const S dX8_serve_133 (v := 1) rfl ?_
          refine g_callv (g_runV S hC (As := [.int d, .int (1 : Int32), .int (1 : Int32)]) (rest := []) (k := 57) (by decide) rfl (by decide) rfl (kX8_moreCard l E S5 d dn hd (by omega) (1 : Int32) 1 rfl (by decide) (1 : Int32)) (cwV 3 S.2.2.2.2 gX8_serve_X8_moreCard rfl rfl rfl (by decide +kernel) ⟨Nat.le_of_ble_eq_true rfl, Nat.le_of_ble_eq_true rfl⟩) rfl rfl (Nat.le_of_ble_eq_true rfl) dX8_serve_134 ⟨Nat.le_of_ble_eq_true rfl, Nat.le_of_ble_eq_true rfl⟩) ?_
          refine g_nm (fun S6 hS6 => ?_)
          refine g_const S dX8_serve_137 (v := 1) rfl ?_
          exact g_zret S hr hlocks dX8_serve_138 rfl (by subst hS6 hS5 hS4 hS3 hS2 hS1; unfold sX8_serve_r; (try dsimp only); rw [if_neg c_1, if_pos c_2, if_pos c_3, if_pos c_4]) (by subst hS6 hS5 hS4 hS3 hS2 hS1; unfold sX8_serve_s; (try dsimp only); rw [if_neg c_1, if_pos c_2, if_pos c_3, if_pos c_4]) (Nat.le_of_ble_eq_true rfl) (Nat.le_of_ble_eq_true rfl)
        · skip
          refine g_const S dX8_serve_116 (v := 1) rfl ?_
          refine g_goto S 121 dX8_serve_117 (by decide) ?_
          refine g_iadd S dX8_serve_121 ?_
          refine g_iast S hC (by decide) rfl 6 rfl (by decide) (by decide) dX8_serve_122 ?_
          refine g_nm (fun S7 hS7 => ?_)
          refine g_aload_n S 1 dX8_serve_123 rfl ?_
          refine g_iload_n S 2 dX8_serve_124 rfl ?_
          refine g_const S dX8_serve_125 (v := 0) rfl ?_
          refine g_const S dX8_serve_126 (v := (-1)) rfl ?_
          refine g_callv (g_runV S hC (As := [.int d, .int (0 : Int32), .int (-1 : Int32)]) (rest := []) (k := 57) (by decide) rfl (by decide) rfl (kX8_moreCard l E S7 d dn hd (by omega) (0 : Int32) 0 rfl (by decide) (-1 : Int32)) (cwV 3 S.2.2.2.2 gX8_serve_X8_moreCard rfl rfl rfl (by decide +kernel) ⟨Nat.le_of_ble_eq_true rfl, Nat.le_of_ble_eq_true rfl⟩) rfl rfl (Nat.le_of_ble_eq_true rfl) dX8_serve_127 ⟨Nat.le_of_ble_eq_true rfl, Nat.le_of_ble_eq_true rfl⟩) ?_
          refine g_nm (fun S8 hS8 => ?_)
          refine g_aload_n S 1 dX8_serve_130 rfl ?_
          refine g_iload_n S 2 dX8_serve_131 rfl ?_
          refine g_const S dX8_serve_132 (v := 1) rfl ?_
          refine g_const S dX8_serve_133 (v := 1) rfl ?_
          refine g_callv (g_runV S hC (As := [.int d, .int (1 : Int32), .int (1 : Int32)]) (rest := []) (k := 57) (by decide) rfl (by decide) rfl (kX8_moreCard l E S8 d dn hd (by omega) (1 : Int32) 1 rfl (by decide) (1 : Int32)) (cwV 3 S.2.2.2.2 gX8_serve_X8_moreCard rfl rfl rfl (by decide +kernel) ⟨Nat.le_of_ble_eq_true rfl, Nat.le_of_ble_eq_true rfl⟩) rfl rfl (Nat.le_of_ble_eq_true rfl) dX8_serve_134 ⟨Nat.le_of_ble_eq_true rfl, Nat.le_of_ble_eq_true rfl⟩) ?_
          refine g_nm (fun S9 hS9 => ?_)
          refine g_const S dX8_serve_137 (v := 1) rfl ?_
          exact g_zret S hr hlocks dX8_serve_138 rfl (by subst hS9 hS8 hS7 hS3 hS2 hS1; unfold sX8_serve_r; (try dsimp only); rw [if_neg c_1, if_pos c_2, if_pos c_3, if_neg c_4]) (by subst hS9 hS8 hS7 hS3 hS2 hS1; unfold sX8_serve_s; (try dsimp only); rw [if_neg c_1, if_pos c_2, if_pos c_3, if_neg c_4]) (Nat.le_of_ble_eq_true rfl) (Nat.le_of_ble_eq_true rfl)
      · skip
        refine g_aload_n S 1 dX8_serve_55 rfl ?_
        refine g_iload_n S 2 dX8_serve_56 rfl ?_
        refine g_const S dX8_serve_57 (v := 2) rfl ?_
        refine g_const S dX8_serve_58 (v := 1) rfl ?_
        refine g_callv (g_runV S hC (As := [.int d, .int (2 : Int32), .int (1 : Int32)]) (rest := []) (k := 57) (by decide) rfl (by decide) rfl (kX8_moreCard l E σ d dn hd (by omega) (2 : Int32) 2 rfl (by decide) (1 : Int32)) (cwV 3 S.2.2.2.2 gX8_serve_X8_moreCard rfl rfl rfl (by decide +kernel) ⟨Nat.le_of_ble_eq_true rfl, Nat.le_of_ble_eq_true rfl⟩) rfl rfl (Nat.le_of_ble_eq_true rfl) dX8_serve_59 ⟨Nat.le_of_ble_eq_true rfl, Nat.le_of_ble_eq_true rfl⟩) ?_
        refine g_nm (fun S10 hS10 => ?_)
        refine g_const S dX8_serve_62 (v := 0) rfl ?_
        exact g_zret S hr hlocks dX8_serve_63 rfl (by subst hS10; unfold sX8_serve_r; (try dsimp only); rw [if_neg c_1, if_pos c_2, if_neg c_3]) (by subst hS10; unfold sX8_serve_s; (try dsimp only); rw [if_neg c_1, if_pos c_2, if_neg c_3]) (Nat.le_of_ble_eq_true rfl) (Nat.le_of_ble_eq_true rfl)
    · skip
      refine g_const S dX8_serve_39 (v := 0) rfl ?_
      exact g_zret S hr hlocks dX8_serve_40 rfl (by rw [sX8_serve_r, if_neg c_1, if_neg c_2]) (by rw [sX8_serve_s, if_neg c_1, if_neg c_2]) (Nat.le_of_ble_eq_true rfl) (Nat.le_of_ble_eq_true rfl)
theorem okX8_serve {σ : gS} {d : Nat} (h : mOK σ) : mOK (sX8_serve_s σ d) := by
  unfold sX8_serve_s
  (try dsimp only)
  (repeat' split)
  all_goals first
    | exact h
    | exact okX8_moreCard h
    | exact okX8_moreCard (okX8_moreCard (mOK.now rfl (fun d2 _ => by omega) (mOK.now rfl (fun d2 _ => by omega) (mOK.now rfl (fun d2 _ => by omega) (mOK.now rfl (fun d2 _ => by omega) h)))))
def stX8_dayOn_2  (j : Nat) (τ : gS) : gS := if sX8_sm_r τ j 0 = 0 then (τ) else (let S1201 := sX8_goOn_s τ j; S1201)
theorem fstX8_dayOn_2 {j : Nat} {x : gS} : (stX8_dayOn_2 j x).1 57 = x.1 57 := by
  unfold stX8_dayOn_2
  (try dsimp only)
  split
  · rfl
  · rw [fX8_goOn _ _ _ (by decide)]
theorem okstX8_dayOn_2 {j : Nat} {x : gS} (hj : j < 4) (h : mOK x) : mOK (stX8_dayOn_2 j x) := by
  unfold stX8_dayOn_2
  (try dsimp only)
  split
  · exact h
  · exact okX8_goOn hj h
def stX8_dayOn_32  (j : Nat) (τ : gS) : gS := if sX8_dr_r τ j 1 = (-1 : Int32) then (τ) else (let S4201 := sX8_letDrum_s τ j 3 (gmin (if (sX8_dr_r τ j 1).toNatClampNeg = 0 then 24 else 15) ((sX8_dr_r τ j 3) + (sX8_dr_r τ j 0))); S4201)
theorem fstX8_dayOn_32 {j : Nat} {x : gS} : (stX8_dayOn_32 j x).1 57 = x.1 57 := by
  unfold stX8_dayOn_32
  (try dsimp only)
  split
  · rfl
  · rw [fX8_letDrum _ _ _ _ _ (by decide)]
theorem okstX8_dayOn_32 {j : Nat} {x : gS} (hj : j < 4) (h : mOK x) : mOK (stX8_dayOn_32 j x) := by
  unfold stX8_dayOn_32
  (try dsimp only)
  split
  · exact h
  · exact okX8_letDrum (by decide) (by decide) h
def stX8_dayOn_90  (j : Nat) (τ : gS) : gS := let S10001 := gu τ 62 (10 + j) (gmin (τ.1 58 ((2 * j) + 1)) ((τ.1 62 (10 + j)) + (τ.1 58 (2 * j)))); S10001
theorem fstX8_dayOn_90 {j : Nat} {x : gS} : (stX8_dayOn_90 j x).1 57 = x.1 57 := by
  unfold stX8_dayOn_90
  (try dsimp only)
  rw [gu_ne (by decide)]
theorem okstX8_dayOn_90 {j : Nat} {x : gS} (hj : j < 4) (h : mOK x) : mOK (stX8_dayOn_90 j x) := by
  unfold stX8_dayOn_90
  (try dsimp only)
  exact mOK.now rfl (fun d2 _ => by omega) h
def stX8_dayOn_146  (j : Nat) (τ : gS) : gS := if (τ.1 62 0) - (τ.1 62 0) / (7 : Int32) * (7 : Int32) = 0 then (let S15603 := gu τ 62 ((42 + (3 * j)) + 0) (τ.1 61 (2 * j)); let S15604 := sX8_serve_s S15603 j; if sX8_serve_r S15603 j = 0 then (S15604) else (let S15605 := sX8_serve_s S15604 j; if sX8_serve_r S15604 j = 0 then (S15605) else (S15605))) else (let S15601 := sX8_serve_s τ j; if sX8_serve_r τ j = 0 then (S15601) else (let S15602 := sX8_serve_s S15601 j; if sX8_serve_r S15601 j = 0 then (S15602) else (S15602)))
theorem fstX8_dayOn_146 {j : Nat} {x : gS} : (stX8_dayOn_146 j x).1 57 = x.1 57 := by
  unfold stX8_dayOn_146
  (try dsimp only)
  (repeat' split)
  all_goals (simp [fX8_serve, gu_ne])
theorem okstX8_dayOn_146 {j : Nat} {x : gS} (hj : j < 10) (h : mOK x) : mOK (stX8_dayOn_146 j x) := by
  unfold stX8_dayOn_146
  (try dsimp only)
  (repeat' split)
  all_goals first
    | exact okX8_serve (okX8_serve (mOK.now rfl (fun d2 _ => by omega) h))
    | exact okX8_serve (mOK.now rfl (fun d2 _ => by omega) h)
    | exact okX8_serve (okX8_serve h)
    | exact okX8_serve h
def sX8_dayOn_s (σ : gS) : gS := let S2 := (itr (stX8_dayOn_2) (mB σ 3) σ); let S4 := (itr (stX8_dayOn_32) (mB σ 2) S2); let S6 := (itr (stX8_dayOn_90) (mB σ 1) S4); let S12 := (itr (stX8_dayOn_146) (mB σ 4) S6); let S13 := gu S12 62 0 ((S12.1 62 0) + (1 : Int32)); S13
set_option maxRecDepth 100000 in
set_option maxHeartbeats 4000000 in
theorem kX8_dayOn (l : Launch) (E : gT) (σ : gS) (hok : mOK σ) : gMv l yX8_dayOn wsX8_dayOn ({ frames := 2, cells := 0, slots := 0, locals := 46 }) 0 0 E σ [.ref (E.2.2 57)] (sX8_dayOn_s σ) := by
  refine g_met (mc := 0) (ms := 0) (nL := 3) (ret := none) (by decide) rfl (lv := [(0, .ref (E.2.2 57))]) rfl (Nat.le_of_ble_eq_true rfl) ?_
  intro p e s m below meth c S hr hlocks hC
  have hiX8 : ∀ w ∈ wsX80, w ∈ wsX8_dayOn := by decide +kernel
  refine g_const S dX8_dayOn_0 (v := 0) rfl ?_
  refine g_istore_n S [(1, .int (0 : Int32)), (0, .ref (E.2.2 57))] dX8_dayOn_1 (by decide) rfl ?_
  refine g_lvs [0, 1] (lv' := [(1, .int (0 : Int32)), (0, .ref (E.2.2 57))]) rfl ?_
  have hkq2 : ∀ n i, 1 ≤ i → (itr (stX8_dayOn_2) n σ).1 57 i = σ.1 57 i := fun n i hi => congrFun (itr_keep _ (fun x : gS => x.1 57) (fun j x => fstX8_dayOn_2) n σ) i
  have hle2 := hok.le3
  have hok2 : ∀ n, n ≤ mB σ 3 → mOK (itr (stX8_dayOn_2) n σ) := fun n hn => itr_invB _ mOK n (fun j x hj h => okstX8_dayOn_2 (by omega) h) σ (hok)
  refine g_loop (mB σ 3) (fun i2 : Nat => (itr (stX8_dayOn_2) i2 σ)) (fun i2 : Nat => [(1, .int (nI i2)), (0, .ref (E.2.2 57))]) [] rfl rfl ?_ ?_
  · intro i2 hi2 ih_i2
    (try dsimp only at ih_i2 ⊢)
    refine g_iload_n S 0 dX8_dayOn_2 rfl ?_
    refine g_aload_n S 1 dX8_dayOn_3 rfl ?_
    refine gg7 S hC hiX8 (by decide) rfl 3 (by decide) (by decide +kernel) dX8_dayOn_4 ?_
    refine g_icmp_ge S 30 dX8_dayOn_7 (by decide) (fun c_1 => absurd c_1 (by rw [hkq2 i2 3 (by decide), kq_0 3 (by decide), hok.eq 3 (by decide) (by decide)]; exact nI_ge hi2 (by omega))) (fun c_1 => ?_)
    refine g_aload_n S 1 dX8_dayOn_10 rfl ?_
    refine g_iload_n S 0 dX8_dayOn_11 rfl ?_
    refine g_const S dX8_dayOn_12 (v := 0) rfl ?_
    refine g_calli (g_runV S hC (As := [.int (nI i2), .int (0 : Int32)]) (rest := []) (k := 57) (by decide) rfl (by decide) rfl (kX8_sm l E (itr (stX8_dayOn_2) i2 σ) (nI i2) i2 rfl (by omega) (0 : Int32) 0 rfl (by decide)) (cwV 2 S.2.2.2.2 gX8_dayOn_X8_sm rfl rfl rfl (by decide +kernel) ⟨Nat.le_of_ble_eq_true rfl, Nat.le_of_ble_eq_true rfl⟩) rfl rfl (Nat.le_of_ble_eq_true rfl) dX8_dayOn_13 ⟨Nat.le_of_ble_eq_true rfl, Nat.le_of_ble_eq_true rfl⟩) ?_
    refine g_if_eq S 24 dX8_dayOn_16 (by decide) (fun c_2 => ?_) (fun c_2 => ?_)
    · skip
      refine g_iinc S [(1, .int (nI (i2 + 1))), (0, .ref (E.2.2 57))] 0 (nI (i2 + 1)) dX8_dayOn_24 rfl (by exact nI_1 i2) (by decide) rfl ?_
      refine g_goto S 2 dX8_dayOn_27 (by decide) ?_
      refine g_lvs [0, 1] (lv' := [(1, .int (nI (i2 + 1))), (0, .ref (E.2.2 57))]) rfl ?_
      exact g_to ih_i2 (by simp only [itr]; rw [stX8_dayOn_2]; (try dsimp only); rw [if_pos c_2]) (by rfl) rfl
    · skip
      refine g_aload_n S 1 dX8_dayOn_19 rfl ?_
      refine g_iload_n S 0 dX8_dayOn_20 rfl ?_
      refine g_callv (g_runV S hC (As := [.int (nI i2)]) (rest := []) (k := 57) (by decide) rfl (by decide) rfl (kX8_goOn l E (itr (stX8_dayOn_2) i2 σ) (nI i2) i2 rfl (by omega)) (cwV 1 S.2.2.2.2 gX8_dayOn_X8_goOn rfl rfl rfl (by decide +kernel) ⟨Nat.le_of_ble_eq_true rfl, Nat.le_of_ble_eq_true rfl⟩) rfl rfl (Nat.le_of_ble_eq_true rfl) dX8_dayOn_21 ⟨Nat.le_of_ble_eq_true rfl, Nat.le_of_ble_eq_true rfl⟩) ?_
      refine g_nm (fun S1 hS1 => ?_)
      have kqS1 := kq_c hS1 (fun i hi => congrFun (fX8_goOn _ _ 57 (by decide) ) i) (((fun i hi => (hkq2 i2 i hi).trans ((kq_0) i hi))))
      have okS1 : mOK S1 := by rw [hS1]; exact okX8_goOn (by omega) ((hok2 i2 (by omega)))
      refine g_iinc S [(1, .int (nI (i2 + 1))), (0, .ref (E.2.2 57))] 0 (nI (i2 + 1)) dX8_dayOn_24 rfl (by exact nI_1 i2) (by decide) rfl ?_
      refine g_goto S 2 dX8_dayOn_27 (by decide) ?_
      refine g_lvs [0, 1] (lv' := [(1, .int (nI (i2 + 1))), (0, .ref (E.2.2 57))]) rfl ?_
      exact g_to ih_i2 (by subst hS1; simp only [itr]; rw [stX8_dayOn_2]; (try dsimp only); rw [if_neg c_2]) (by subst hS1; rfl) rfl
  · skip
    (try dsimp only)
    refine g_nm (fun S2 hS2 => ?_)
    have kqS2 := kq_c hS2 (fun i hi => hkq2 (mB σ 3) i hi) (kq_0)
    have okS2 : mOK S2 := by rw [hS2]; exact (hok2 (mB σ 3) (by omega))
    refine g_iload_n S 0 dX8_dayOn_2 rfl ?_
    refine g_aload_n S 1 dX8_dayOn_3 rfl ?_
    refine gg7 S hC hiX8 (by decide) rfl 3 (by decide) (by decide +kernel) dX8_dayOn_4 ?_
    refine g_icmp_ge S 30 dX8_dayOn_7 (by decide) (fun c_3 => ?_) (fun c_3 => absurd (by rw [kqS2 3 (by decide), hok.eq 3 (by decide) (by decide)]; exact nI_le (Nat.le_refl _) (by omega)) c_3)
    refine g_const S dX8_dayOn_30 (v := 0) rfl ?_
    refine g_istore_n S [(1, .int (0 : Int32)), (0, .ref (E.2.2 57))] dX8_dayOn_31 (by decide) rfl ?_
    refine g_lvs [0, 1] (lv' := [(1, .int (0 : Int32)), (0, .ref (E.2.2 57))]) rfl ?_
    have hkq32 : ∀ n i, 1 ≤ i → (itr (stX8_dayOn_32) n S2).1 57 i = S2.1 57 i := fun n i hi => congrFun (itr_keep _ (fun x : gS => x.1 57) (fun j x => fstX8_dayOn_32) n S2) i
    have hle32 := hok.le2
    have hok32 : ∀ n, n ≤ mB σ 2 → mOK (itr (stX8_dayOn_32) n S2) := fun n hn => itr_invB _ mOK n (fun j x hj h => okstX8_dayOn_32 (by omega) h) S2 (okS2)
    refine g_loop (mB σ 2) (fun i32 : Nat => (itr (stX8_dayOn_32) i32 S2)) (fun i32 : Nat => [(1, .int (nI i32)), (0, .ref (E.2.2 57))]) [] rfl rfl ?_ ?_
    · intro i32 hi32 ih_i32
      (try dsimp only at ih_i32 ⊢)
      refine g_iload_n S 0 dX8_dayOn_32 rfl ?_
      refine g_aload_n S 1 dX8_dayOn_33 rfl ?_
      refine gg7 S hC hiX8 (by decide) rfl 2 (by decide) (by decide +kernel) dX8_dayOn_34 ?_
      refine g_icmp_ge S 88 dX8_dayOn_37 (by decide) (fun c_4 => absurd c_4 (by rw [hkq32 i32 2 (by decide), kqS2 2 (by decide), hok.eq 2 (by decide) (by decide)]; exact nI_ge hi32 (by omega))) (fun c_4 => ?_)
      refine g_aload_n S 1 dX8_dayOn_40 rfl ?_
      refine g_iload_n S 0 dX8_dayOn_41 rfl ?_
      refine g_const S dX8_dayOn_42 (v := 1) rfl ?_
      refine g_calli (g_runV S hC (As := [.int (nI i32), .int (1 : Int32)]) (rest := []) (k := 57) (by decide) rfl (by decide) rfl (kX8_dr l E (itr (stX8_dayOn_32) i32 S2) (nI i32) i32 rfl (by omega) (1 : Int32) 1 rfl (by decide)) (cwV 2 S.2.2.2.2 gX8_dayOn_X8_dr rfl rfl rfl (by decide +kernel) ⟨Nat.le_of_ble_eq_true rfl, Nat.le_of_ble_eq_true rfl⟩) rfl rfl (Nat.le_of_ble_eq_true rfl) dX8_dayOn_43 ⟨Nat.le_of_ble_eq_true rfl, Nat.le_of_ble_eq_true rfl⟩) ?_
      refine g_const S dX8_dayOn_46 (v := (-1)) rfl ?_
      refine g_icmp_eq S 82 dX8_dayOn_47 (by decide) (fun c_5 => ?_) (fun c_5 => ?_)
      · skip
        refine g_iinc S [(1, .int (nI (i32 + 1))), (0, .ref (E.2.2 57))] 0 (nI (i32 + 1)) dX8_dayOn_82 rfl (by exact nI_1 i32) (by decide) rfl ?_
        refine g_goto S 32 dX8_dayOn_85 (by decide) ?_
        refine g_lvs [0, 1] (lv' := [(1, .int (nI (i32 + 1))), (0, .ref (E.2.2 57))]) rfl ?_
        exact g_to ih_i32 (by simp only [itr]; rw [stX8_dayOn_32]; (try dsimp only); rw [if_pos c_5]) (by rfl) rfl
      · skip
        refine g_aload_n S 1 dX8_dayOn_50 rfl ?_
        refine g_iload_n S 0 dX8_dayOn_51 rfl ?_
        refine g_const S dX8_dayOn_52 (v := 3) rfl ?_
        obtain ⟨t_6, hZt_6, hTt_6⟩ := hC.2.2.2.2.2.2.1
        refine g_gets S hZt_6 (by decide +kernel) dX8_dayOn_53 ?_
        refine g_aload_n S 1 dX8_dayOn_56 rfl ?_
        refine g_iload_n S 0 dX8_dayOn_57 rfl ?_
        refine g_const S dX8_dayOn_58 (v := 1) rfl ?_
        refine g_calli (g_runV S hC (As := [.int (nI i32), .int (1 : Int32)]) (rest := [.ref t_6, .int (3 : Int32), .int (nI i32), .ref (E.2.2 57)]) (k := 57) (by decide) rfl (by decide) rfl (kX8_dr l E (itr (stX8_dayOn_32) i32 S2) (nI i32) i32 rfl (by omega) (1 : Int32) 1 rfl (by decide)) (cwV 2 S.2.2.2.2 gX8_dayOn_X8_dr rfl rfl rfl (by decide +kernel) ⟨Nat.le_of_ble_eq_true rfl, Nat.le_of_ble_eq_true rfl⟩) rfl rfl (Nat.le_of_ble_eq_true rfl) dX8_dayOn_59 ⟨Nat.le_of_ble_eq_true rfl, Nat.le_of_ble_eq_true rfl⟩) ?_
        refine g_ti S hTt_6 ((sX8_dr_r (itr (stX8_dayOn_32) i32 S2) i32 1).toNatClampNeg) (lk_nat (hok32 i32 (by omega)).2 (by omega) (by assumption)).2 (lk_nat (hok32 i32 (by omega)).2 (by omega) (by assumption)).1 (v := .int (if (sX8_dr_r (itr (stX8_dayOn_32) i32 S2) i32 1).toNatClampNeg = 0 then 24 else 15)) rfl dX8_dayOn_62 ?_
        refine g_aload_n S 1 dX8_dayOn_63 rfl ?_
        refine g_iload_n S 0 dX8_dayOn_64 rfl ?_
        refine g_const S dX8_dayOn_65 (v := 3) rfl ?_
        refine g_calli (g_runV S hC (As := [.int (nI i32), .int (3 : Int32)]) (rest := [.int (if (sX8_dr_r (itr (stX8_dayOn_32) i32 S2) i32 1).toNatClampNeg = 0 then 24 else 15), .int (3 : Int32), .int (nI i32), .ref (E.2.2 57)]) (k := 57) (by decide) rfl (by decide) rfl (kX8_dr l E (itr (stX8_dayOn_32) i32 S2) (nI i32) i32 rfl (by omega) (3 : Int32) 3 rfl (by decide)) (cwV 2 S.2.2.2.2 gX8_dayOn_X8_dr rfl rfl rfl (by decide +kernel) ⟨Nat.le_of_ble_eq_true rfl, Nat.le_of_ble_eq_true rfl⟩) rfl rfl (Nat.le_of_ble_eq_true rfl) dX8_dayOn_66 ⟨Nat.le_of_ble_eq_true rfl, Nat.le_of_ble_eq_true rfl⟩) ?_
        refine g_aload_n S 1 dX8_dayOn_69 rfl ?_
        refine g_iload_n S 0 dX8_dayOn_70 rfl ?_
        refine g_const S dX8_dayOn_71 (v := 0) rfl ?_
        refine g_calli (g_runV S hC (As := [.int (nI i32), .int (0 : Int32)]) (rest := [.int (sX8_dr_r (itr (stX8_dayOn_32) i32 S2) i32 3), .int (if (sX8_dr_r (itr (stX8_dayOn_32) i32 S2) i32 1).toNatClampNeg = 0 then 24 else 15), .int (3 : Int32), .int (nI i32), .ref (E.2.2 57)]) (k := 57) (by decide) rfl (by decide) rfl (kX8_dr l E (itr (stX8_dayOn_32) i32 S2) (nI i32) i32 rfl (by omega) (0 : Int32) 0 rfl (by decide)) (cwV 2 S.2.2.2.2 gX8_dayOn_X8_dr rfl rfl rfl (by decide +kernel) ⟨Nat.le_of_ble_eq_true rfl, Nat.le_of_ble_eq_true rfl⟩) rfl rfl (Nat.le_of_ble_eq_true rfl) dX8_dayOn_72 ⟨Nat.le_of_ble_eq_true rfl, Nat.le_of_ble_eq_true rfl⟩) ?_
        refine g_iadd S dX8_dayOn_75 ?_
        refine g_mn S (by decide +kernel) (by decide +kernel) (by decide +kernel) (by decide +kernel) (Nat.le_of_ble_eq_true rfl) (Nat.le_of_ble_eq_true rfl) (Nat.le_of_ble_eq_true rfl) (Nat.le_of_ble_eq_true rfl) dX8_dayOn_76 ?_
        refine g_callv (g_runV S hC (As := [.int (nI i32), .int (3 : Int32), .int (gmin (if (sX8_dr_r (itr (stX8_dayOn_32) i32 S2) i32 1).toNatClampNeg = 0 then 24 else 15) ((sX8_dr_r (itr (stX8_dayOn_32) i32 S2) i32 3) + (sX8_dr_r (itr (stX8_dayOn_32) i32 S2) i32 0)))]) (rest := []) (k := 57) (by decide) rfl (by decide) rfl (kX8_letDrum l E (itr (stX8_dayOn_32) i32 S2) (nI i32) i32 rfl (by omega) (3 : Int32) 3 rfl (by decide) (gmin (if (sX8_dr_r (itr (stX8_dayOn_32) i32 S2) i32 1).toNatClampNeg = 0 then 24 else 15) ((sX8_dr_r (itr (stX8_dayOn_32) i32 S2) i32 3) + (sX8_dr_r (itr (stX8_dayOn_32) i32 S2) i32 0)))) (cwV 3 S.2.2.2.2 gX8_dayOn_X8_letDrum rfl rfl rfl (by decide +kernel) ⟨Nat.le_of_ble_eq_true rfl, Nat.le_of_ble_eq_true rfl⟩) rfl rfl (Nat.le_of_ble_eq_true rfl) dX8_dayOn_79 ⟨Nat.le_of_ble_eq_true rfl, Nat.le_of_ble_eq_true rfl⟩) ?_
        refine g_nm (fun S3 hS3 => ?_)
        have kqS3 := kq_c hS3 (fun i hi => congrFun (fX8_letDrum _ _ _ _ 57 (by decide) ) i) (((fun i hi => (hkq32 i32 i hi).trans ((kqS2) i hi))))
        have okS3 : mOK S3 := by rw [hS3]; exact okX8_letDrum (by omega) (by decide) ((hok32 i32 (by omega)))
        refine g_iinc S [(1, .int (nI (i32 + 1))), (0, .ref (E.2.2 57))] 0 (nI (i32 + 1)) dX8_dayOn_82 rfl (by exact nI_1 i32) (by decide) rfl ?_
        refine g_goto S 32 dX8_dayOn_85 (by decide) ?_
        refine g_lvs [0, 1] (lv' := [(1, .int (nI (i32 + 1))), (0, .ref (E.2.2 57))]) rfl ?_
        exact g_to ih_i32 (by subst hS3; simp only [itr]; rw [stX8_dayOn_32]; (try dsimp only); rw [if_neg c_5]) (by subst hS3; rfl) rfl
    · skip
      (try dsimp only)
      refine g_nm (fun S4 hS4 => ?_)
      have kqS4 := kq_c hS4 (fun i hi => hkq32 (mB σ 2) i hi) (kqS2)
      have okS4 : mOK S4 := by rw [hS4]; exact (hok32 (mB σ 2) (by omega))
      refine g_iload_n S 0 dX8_dayOn_32 rfl ?_
      refine g_aload_n S 1 dX8_dayOn_33 rfl ?_
      refine gg7 S hC hiX8 (by decide) rfl 2 (by decide) (by decide +kernel) dX8_dayOn_34 ?_
      refine g_icmp_ge S 88 dX8_dayOn_37 (by decide) (fun c_7 => ?_) (fun c_7 => absurd (by rw [kqS4 2 (by decide), hok.eq 2 (by decide) (by decide)]; exact nI_le (Nat.le_refl _) (by omega)) c_7)
      refine g_const S dX8_dayOn_88 (v := 0) rfl ?_
      refine g_istore_n S [(1, .int (0 : Int32)), (0, .ref (E.2.2 57))] dX8_dayOn_89 (by decide) rfl ?_
      refine g_lvs [0, 1] (lv' := [(1, .int (0 : Int32)), (0, .ref (E.2.2 57))]) rfl ?_
      have hkq90 : ∀ n i, 1 ≤ i → (itr (stX8_dayOn_90) n S4).1 57 i = S4.1 57 i := fun n i hi => congrFun (itr_keep _ (fun x : gS => x.1 57) (fun j x => fstX8_dayOn_90) n S4) i
      have hle90 := hok.le1
      have hok90 : ∀ n, n ≤ mB σ 1 → mOK (itr (stX8_dayOn_90) n S4) := fun n hn => itr_invB _ mOK n (fun j x hj h => okstX8_dayOn_90 (by omega) h) S4 (okS4)
      refine g_loop (mB σ 1) (fun i90 : Nat => (itr (stX8_dayOn_90) i90 S4)) (fun i90 : Nat => [(1, .int (nI i90)), (0, .ref (E.2.2 57))]) [] rfl rfl ?_ ?_
      · intro i90 hi90 ih_i90
        (try dsimp only at ih_i90 ⊢)
        refine g_iload_n S 0 dX8_dayOn_90 rfl ?_
        refine g_aload_n S 1 dX8_dayOn_91 rfl ?_
        refine gg7 S hC hiX8 (by decide) rfl 1 (by decide) (by decide +kernel) dX8_dayOn_92 ?_
        refine g_icmp_ge S 144 dX8_dayOn_95 (by decide) (fun c_8 => absurd c_8 (by rw [hkq90 i90 1 (by decide), kqS4 1 (by decide), hok.eq 1 (by decide) (by decide)]; exact nI_ge hi90 (by omega))) (fun c_8 => ?_)
        refine g_aload_n S 1 dX8_dayOn_98 rfl ?_
        refine gg7r S hC hiX8 (by decide) rfl 9 (by decide) (by decide +kernel) dX8_dayOn_99 ?_
        refine g_bipush S dX8_dayOn_102 (v := 10) rfl ?_
        refine g_iload_n S 0 dX8_dayOn_104 rfl ?_
        refine g_iadd S dX8_dayOn_105 ?_
        refine g_aload_n S 1 dX8_dayOn_106 rfl ?_
        refine gg7r S hC hiX8 (by decide) rfl 5 (by decide) (by decide +kernel) dX8_dayOn_107 ?_
        refine g_const S dX8_dayOn_110 (v := 2) rfl ?_
        refine g_iload_n S 0 dX8_dayOn_111 rfl ?_
        refine g_imul S dX8_dayOn_112 ?_
        refine g_const S dX8_dayOn_113 (v := 1) rfl ?_
        refine g_iadd S dX8_dayOn_114 ?_
        refine g_iald S hC (by decide) rfl ((2 * i90) + 1) (gI_add (gI_mul rfl rfl) rfl) (show (2 * i90) + 1 < 8 by omega) (by decide) dX8_dayOn_115 ?_
        refine g_aload_n S 1 dX8_dayOn_116 rfl ?_
        refine gg7r S hC hiX8 (by decide) rfl 9 (by decide) (by decide +kernel) dX8_dayOn_117 ?_
        refine g_bipush S dX8_dayOn_120 (v := 10) rfl ?_
        refine g_iload_n S 0 dX8_dayOn_122 rfl ?_
        refine g_iadd S dX8_dayOn_123 ?_
        refine g_iald S hC (by decide) rfl (10 + i90) (gI_add rfl rfl) (show 10 + i90 < 72 by omega) (by decide) dX8_dayOn_124 ?_
        refine g_aload_n S 1 dX8_dayOn_125 rfl ?_
        refine gg7r S hC hiX8 (by decide) rfl 5 (by decide) (by decide +kernel) dX8_dayOn_126 ?_
        refine g_const S dX8_dayOn_129 (v := 2) rfl ?_
        refine g_iload_n S 0 dX8_dayOn_130 rfl ?_
        refine g_imul S dX8_dayOn_131 ?_
        refine g_iald S hC (by decide) rfl (2 * i90) (gI_mul rfl rfl) (show 2 * i90 < 8 by omega) (by decide) dX8_dayOn_132 ?_
        refine g_iadd S dX8_dayOn_133 ?_
        refine g_mn S (by decide +kernel) (by decide +kernel) (by decide +kernel) (by decide +kernel) (Nat.le_of_ble_eq_true rfl) (Nat.le_of_ble_eq_true rfl) (Nat.le_of_ble_eq_true rfl) (Nat.le_of_ble_eq_true rfl) dX8_dayOn_134 ?_
        refine g_iast S hC (by decide) rfl (10 + i90) (gI_add rfl rfl) (show 10 + i90 < 72 by omega) (by decide) dX8_dayOn_137 ?_
        refine g_nm (fun S5 hS5 => ?_)
        have kqS5 := kq_pr hS5 (by decide) (((fun i hi => (hkq90 i90 i hi).trans ((kqS4) i hi))))
        have okS5 := mOK.now hS5 (fun d _ => by omega) ((hok90 i90 (by omega)))
        refine g_iinc S [(1, .int (nI (i90 + 1))), (0, .ref (E.2.2 57))] 0 (nI (i90 + 1)) dX8_dayOn_138 rfl (by exact nI_1 i90) (by decide) rfl ?_
        refine g_goto S 90 dX8_dayOn_141 (by decide) ?_
        refine g_lvs [0, 1] (lv' := [(1, .int (nI (i90 + 1))), (0, .ref (E.2.2 57))]) rfl ?_
        exact g_to ih_i90 (by subst hS5; rfl) (by subst hS5; rfl) rfl
      · skip
        (try dsimp only)
        refine g_nm (fun S6 hS6 => ?_)
        have kqS6 := kq_c hS6 (fun i hi => hkq90 (mB σ 1) i hi) (kqS4)
        have okS6 : mOK S6 := by rw [hS6]; exact (hok90 (mB σ 1) (by omega))
        refine g_iload_n S 0 dX8_dayOn_90 rfl ?_
        refine g_aload_n S 1 dX8_dayOn_91 rfl ?_
        refine gg7 S hC hiX8 (by decide) rfl 1 (by decide) (by decide +kernel) dX8_dayOn_92 ?_
        refine g_icmp_ge S 144 dX8_dayOn_95 (by decide) (fun c_9 => ?_) (fun c_9 => absurd (by rw [kqS6 1 (by decide), hok.eq 1 (by decide) (by decide)]; exact nI_le (Nat.le_refl _) (by omega)) c_9)
        refine g_const S dX8_dayOn_144 (v := 0) rfl ?_
        refine g_istore_n S [(1, .int (0 : Int32)), (0, .ref (E.2.2 57))] dX8_dayOn_145 (by decide) rfl ?_
        refine g_lvs [0, 1] (lv' := [(1, .int (0 : Int32)), (0, .ref (E.2.2 57))]) rfl ?_
        have hkq146 : ∀ n i, 1 ≤ i → (itr (stX8_dayOn_146) n S6).1 57 i = S6.1 57 i := fun n i hi => congrFun (itr_keep _ (fun x : gS => x.1 57) (fun j x => fstX8_dayOn_146) n S6) i
        have hle146 := hok.le4
        have hok146 : ∀ n, n ≤ mB σ 4 → mOK (itr (stX8_dayOn_146) n S6) := fun n hn => itr_invB _ mOK n (fun j x hj h => okstX8_dayOn_146 (by omega) h) S6 (okS6)
        refine g_loop (mB σ 4) (fun i146 : Nat => (itr (stX8_dayOn_146) i146 S6)) (fun i146 : Nat => [(1, .int (nI i146)), (0, .ref (E.2.2 57))]) [] rfl rfl ?_ ?_
        · intro i146 hi146 ih_i146
          (try dsimp only at ih_i146 ⊢)
          refine g_iload_n S 0 dX8_dayOn_146 rfl ?_
          refine g_aload_n S 1 dX8_dayOn_147 rfl ?_
          refine gg7 S hC hiX8 (by decide) rfl 4 (by decide) (by decide +kernel) dX8_dayOn_148 ?_
          refine g_icmp_ge S 214 dX8_dayOn_151 (by decide) (fun c_10 => absurd c_10 (by rw [hkq146 i146 4 (by decide), kqS6 4 (by decide), hok.eq 4 (by decide) (by decide)]; exact nI_ge hi146 (by omega))) (fun c_10 => ?_)
          refine g_aload_n S 1 dX8_dayOn_154 rfl ?_
          refine gg7r S hC hiX8 (by decide) rfl 9 (by decide) (by decide +kernel) dX8_dayOn_155 ?_
          refine g_const S dX8_dayOn_158 (v := 0) rfl ?_
          refine g_iald S hC (by decide) rfl 0 rfl (by decide) (by decide) dX8_dayOn_159 ?_
          refine g_bipush S dX8_dayOn_160 (v := 7) rfl ?_
          refine g_irem S dX8_dayOn_162 (by decide) ?_
          refine g_if_ne S 187 dX8_dayOn_163 (by decide) (fun c_11 => ?_) (fun c_11 => ?_)
          · skip
            refine g_const S dX8_dayOn_187 (v := 0) rfl ?_
            refine g_istore_n S [(2, .int (0 : Int32)), (1, .int (nI i146)), (0, .ref (E.2.2 57))] dX8_dayOn_188 (by decide) rfl ?_
            refine g_iload_n S 0 dX8_dayOn_189 rfl ?_
            refine g_const S dX8_dayOn_190 (v := 2) rfl ?_
            refine g_icmp_ge S 208 dX8_dayOn_191 (by decide) (fun c_12 => absurd c_12 (by decide)) (fun c_12 => ?_)
            refine g_aload_n S 2 dX8_dayOn_194 rfl ?_
            refine g_iload_n S 1 dX8_dayOn_195 rfl ?_
            refine g_calli (g_runV S hC (As := [.int (nI i146)]) (rest := []) (k := 57) (by decide) rfl (by decide) rfl (kX8_serve l E (itr (stX8_dayOn_146) i146 S6) (nI i146) i146 rfl (by omega)) (cwV 1 S.2.2.2.2 gX8_dayOn_X8_serve rfl rfl rfl (by decide +kernel) ⟨Nat.le_of_ble_eq_true rfl, Nat.le_of_ble_eq_true rfl⟩) rfl rfl (Nat.le_of_ble_eq_true rfl) dX8_dayOn_196 ⟨Nat.le_of_ble_eq_true rfl, Nat.le_of_ble_eq_true rfl⟩) ?_
            refine g_nm (fun S7 hS7 => ?_)
            have kqS7 := kq_c hS7 (fun i hi => congrFun (fX8_serve _ _ 57 (by decide) ) i) (((fun i hi => (hkq146 i146 i hi).trans ((kqS6) i hi))))
            have okS7 : mOK S7 := by rw [hS7]; exact okX8_serve  ((hok146 i146 (by omega)))
            refine g_if_eq S 208 dX8_dayOn_199 (by decide) (fun c_13 => ?_) (fun c_13 => ?_)
            · skip
              refine g_iinc S [(1, .int (nI (i146 + 1))), (2, .int (0 : Int32)), (0, .ref (E.2.2 57))] 1 (nI (i146 + 1)) dX8_dayOn_208 rfl (by exact nI_1 i146) (by decide) rfl ?_
              refine g_goto S 146 dX8_dayOn_211 (by decide) ?_
              refine g_lvs [0, 2] (lv' := [(1, .int (nI (i146 + 1))), (0, .ref (E.2.2 57))]) rfl ?_
              exact g_to ih_i146 (by subst hS7; simp only [itr]; rw [stX8_dayOn_146]; (try dsimp only); rw [if_neg c_11, if_pos c_13]) (by subst hS7; rfl) rfl
            · skip
              refine g_iinc S [(2, .int (1 : Int32)), (1, .int (nI i146)), (0, .ref (E.2.2 57))] 0 (1 : Int32) dX8_dayOn_202 rfl rfl (by decide) rfl ?_
              refine g_goto S 189 dX8_dayOn_205 (by decide) ?_
              refine g_iload_n S 0 dX8_dayOn_189 rfl ?_
              refine g_const S dX8_dayOn_190 (v := 2) rfl ?_
              refine g_icmp_ge S 208 dX8_dayOn_191 (by decide) (fun c_14 => absurd c_14 (by decide)) (fun c_14 => ?_)
              refine g_aload_n S 2 dX8_dayOn_194 rfl ?_
              refine g_iload_n S 1 dX8_dayOn_195 rfl ?_
              refine g_calli (g_runV S hC (As := [.int (nI i146)]) (rest := []) (k := 57) (by decide) rfl (by decide) rfl (kX8_serve l E S7 (nI i146) i146 rfl (by omega)) (cwV 1 S.2.2.2.2 gX8_dayOn_X8_serve rfl rfl rfl (by decide +kernel) ⟨Nat.le_of_ble_eq_true rfl, Nat.le_of_ble_eq_true rfl⟩) rfl rfl (Nat.le_of_ble_eq_true rfl) dX8_dayOn_196 ⟨Nat.le_of_ble_eq_true rfl, Nat.le_of_ble_eq_true rfl⟩) ?_
              refine g_nm (fun S8 hS8 => ?_)
              have kqS8 := kq_c hS8 (fun i hi => congrFun (fX8_serve _ _ 57 (by decide) ) i) (kqS7)
              have okS8 : mOK S8 := by rw [hS8]; exact okX8_serve  (okS7)
              refine g_if_eq S 208 dX8_dayOn_199 (by decide) (fun c_15 => ?_) (fun c_15 => ?_)
              · skip
                refine g_iinc S [(1, .int (nI (i146 + 1))), (2, .int (1 : Int32)), (0, .ref (E.2.2 57))] 1 (nI (i146 + 1)) dX8_dayOn_208 rfl (by exact nI_1 i146) (by decide) rfl ?_
                refine g_goto S 146 dX8_dayOn_211 (by decide) ?_
                refine g_lvs [0, 2] (lv' := [(1, .int (nI (i146 + 1))), (0, .ref (E.2.2 57))]) rfl ?_
                exact g_to ih_i146 (by subst hS8 hS7; simp only [itr]; rw [stX8_dayOn_146]; (try dsimp only); rw [if_neg c_11, if_neg c_13, if_pos c_15]) (by subst hS8 hS7; rfl) rfl
              · skip
                refine g_iinc S [(2, .int (2 : Int32)), (1, .int (nI i146)), (0, .ref (E.2.2 57))] 0 (2 : Int32) dX8_dayOn_202 rfl rfl (by decide) rfl ?_
                refine g_goto S 189 dX8_dayOn_205 (by decide) ?_
                refine g_iload_n S 0 dX8_dayOn_189 rfl ?_
                refine g_const S dX8_dayOn_190 (v := 2) rfl ?_
                refine g_icmp_ge S 208 dX8_dayOn_191 (by decide) (fun c_16 => ?_) (fun c_16 => absurd (by decide) c_16)
                refine g_iinc S [(1, .int (nI (i146 + 1))), (2, .int (2 : Int32)), (0, .ref (E.2.2 57))] 1 (nI (i146 + 1)) dX8_dayOn_208 rfl (by exact nI_1 i146) (by decide) rfl ?_
                refine g_goto S 146 dX8_dayOn_211 (by decide) ?_
                refine g_lvs [0, 2] (lv' := [(1, .int (nI (i146 + 1))), (0, .ref (E.2.2 57))]) rfl ?_
                exact g_to ih_i146 (by subst hS8 hS7; simp only [itr]; rw [stX8_dayOn_146]; (try dsimp only); rw [if_neg c_11, if_neg c_13, if_neg c_15]) (by subst hS8 hS7; rfl) rfl
          · skip
            refine g_aload_n S 1 dX8_dayOn_166 rfl ?_
            refine gg7r S hC hiX8 (by decide) rfl 9 (by decide) (by decide +kernel) dX8_dayOn_167 ?_
            refine g_bipush S dX8_dayOn_170 (v := 42) rfl ?_
            refine g_const S dX8_dayOn_172 (v := 3) rfl ?_
            refine g_iload_n S 0 dX8_dayOn_173 rfl ?_
            refine g_imul S dX8_dayOn_174 ?_
            refine g_iadd S dX8_dayOn_175 ?_
            refine g_const S dX8_dayOn_176 (v := 0) rfl ?_
            refine g_iadd S dX8_dayOn_177 ?_
            refine g_aload_n S 1 dX8_dayOn_178 rfl ?_
            refine gg7r S hC hiX8 (by decide) rfl 8 (by decide) (by decide +kernel) dX8_dayOn_179 ?_
            refine g_const S dX8_dayOn_182 (v := 2) rfl ?_
            refine g_iload_n S 0 dX8_dayOn_183 rfl ?_
            refine g_imul S dX8_dayOn_184 ?_
            refine g_iald S hC (by decide) rfl (2 * i146) (gI_mul rfl rfl) (show 2 * i146 < 20 by omega) (by decide) dX8_dayOn_185 ?_
            refine g_iast S hC (by decide) rfl ((42 + (3 * i146)) + 0) (gI_add (gI_add rfl (gI_mul rfl rfl)) rfl) (show (42 + (3 * i146)) + 0 < 72 by omega) (by decide) dX8_dayOn_186 ?_
            refine g_nm (fun S9 hS9 => ?_)
            have kqS9 := kq_pr hS9 (by decide) (((fun i hi => (hkq146 i146 i hi).trans ((kqS6) i hi))))
            have okS9 := mOK.now hS9 (fun d _ => by omega) ((hok146 i146 (by omega)))
            refine g_const S dX8_dayOn_187 (v := 0) rfl ?_
            refine g_istore_n S [(2, .int (0 : Int32)), (1, .int (nI i146)), (0, .ref (E.2.2 57))] dX8_dayOn_188 (by decide) rfl ?_
            refine g_iload_n S 0 dX8_dayOn_189 rfl ?_
            refine g_const S dX8_dayOn_190 (v := 2) rfl ?_
            refine g_icmp_ge S 208 dX8_dayOn_191 (by decide) (fun c_17 => absurd c_17 (by decide)) (fun c_17 => ?_)
            refine g_aload_n S 2 dX8_dayOn_194 rfl ?_
            refine g_iload_n S 1 dX8_dayOn_195 rfl ?_
            refine g_calli (g_runV S hC (As := [.int (nI i146)]) (rest := []) (k := 57) (by decide) rfl (by decide) rfl (kX8_serve l E S9 (nI i146) i146 rfl (by omega)) (cwV 1 S.2.2.2.2 gX8_dayOn_X8_serve rfl rfl rfl (by decide +kernel) ⟨Nat.le_of_ble_eq_true rfl, Nat.le_of_ble_eq_true rfl⟩) rfl rfl (Nat.le_of_ble_eq_true rfl) dX8_dayOn_196 ⟨Nat.le_of_ble_eq_true rfl, Nat.le_of_ble_eq_true rfl⟩) ?_
            refine g_nm (fun S10 hS10 => ?_)
            have kqS10 := kq_c hS10 (fun i hi => congrFun (fX8_serve _ _ 57 (by decide) ) i) (kqS9)
            have okS10 : mOK S10 := by rw [hS10]; exact okX8_serve  (okS9)
            refine g_if_eq S 208 dX8_dayOn_199 (by decide) (fun c_18 => ?_) (fun c_18 => ?_)
            · skip
              refine g_iinc S [(1, .int (nI (i146 + 1))), (2, .int (0 : Int32)), (0, .ref (E.2.2 57))] 1 (nI (i146 + 1)) dX8_dayOn_208 rfl (by exact nI_1 i146) (by decide) rfl ?_
              refine g_goto S 146 dX8_dayOn_211 (by decide) ?_
              refine g_lvs [0, 2] (lv' := [(1, .int (nI (i146 + 1))), (0, .ref (E.2.2 57))]) rfl ?_
              exact g_to ih_i146 (by subst hS10 hS9; simp only [itr]; rw [stX8_dayOn_146]; (try dsimp only); rw [if_pos c_11, if_pos c_18]) (by subst hS10 hS9; rfl) rfl
            · skip
              refine g_iinc S [(2, .int (1 : Int32)), (1, .int (nI i146)), (0, .ref (E.2.2 57))] 0 (1 : Int32) dX8_dayOn_202 rfl rfl (by decide) rfl ?_
              refine g_goto S 189 dX8_dayOn_205 (by decide) ?_
              refine g_iload_n S 0 dX8_dayOn_189 rfl ?_
              refine g_const S dX8_dayOn_190 (v := 2) rfl ?_
              refine g_icmp_ge S 208 dX8_dayOn_191 (by decide) (fun c_19 => absurd c_19 (by decide)) (fun c_19 => ?_)
              refine g_aload_n S 2 dX8_dayOn_194 rfl ?_
              refine g_iload_n S 1 dX8_dayOn_195 rfl ?_
              refine g_calli (g_runV S hC (As := [.int (nI i146)]) (rest := []) (k := 57) (by decide) rfl (by decide) rfl (kX8_serve l E S10 (nI i146) i146 rfl (by omega)) (cwV 1 S.2.2.2.2 gX8_dayOn_X8_serve rfl rfl rfl (by decide +kernel) ⟨Nat.le_of_ble_eq_true rfl, Nat.le_of_ble_eq_true rfl⟩) rfl rfl (Nat.le_of_ble_eq_true rfl) dX8_dayOn_196 ⟨Nat.le_of_ble_eq_true rfl, Nat.le_of_ble_eq_true rfl⟩) ?_
              refine g_nm (fun S11 hS11 => ?_)
              have kqS11 := kq_c hS11 (fun i hi => congrFun (fX8_serve _ _ 57 (by decide) ) i) (kqS10)
              have okS11 : mOK S11 := by rw [hS11]; exact okX8_serve  (okS10)
              refine g_if_eq S 208 dX8_dayOn_199 (by decide) (fun c_20 => ?_) (fun c_20 => ?_)
              · skip
                refine g_iinc S [(1, .int (nI (i146 + 1))), (2, .int (1 : Int32)), (0, .ref (E.2.2 57))] 1 (nI (i146 + 1)) dX8_dayOn_208 rfl (by exact nI_1 i146) (by decide) rfl ?_
                refine g_goto S 146 dX8_dayOn_211 (by decide) ?_
                refine g_lvs [0, 2] (lv' := [(1, .int (nI (i146 + 1))), (0, .ref (E.2.2 57))]) rfl ?_
                exact g_to ih_i146 (by subst hS11 hS10 hS9; simp only [itr]; rw [stX8_dayOn_146]; (try dsimp only); rw [if_pos c_11, if_neg c_18, if_pos c_20]) (by subst hS11 hS10 hS9; rfl) rfl
              · skip
                refine g_iinc S [(2, .int (2 : Int32)), (1, .int (nI i146)), (0, .ref (E.2.2 57))] 0 (2 : Int32) dX8_dayOn_202 rfl rfl (by decide) rfl ?_
                refine g_goto S 189 dX8_dayOn_205 (by decide) ?_
                refine g_iload_n S 0 dX8_dayOn_189 rfl ?_
                refine g_const S dX8_dayOn_190 (v := 2) rfl ?_
                refine g_icmp_ge S 208 dX8_dayOn_191 (by decide) (fun c_21 => ?_) (fun c_21 => absurd (by decide) c_21)
                refine g_iinc S [(1, .int (nI (i146 + 1))), (2, .int (2 : Int32)), (0, .ref (E.2.2 57))] 1 (nI (i146 + 1)) dX8_dayOn_208 rfl (by exact nI_1 i146) (by decide) rfl ?_
                refine g_goto S 146 dX8_dayOn_211 (by decide) ?_
                refine g_lvs [0, 2] (lv' := [(1, .int (nI (i146 + 1))), (0, .ref (E.2.2 57))]) rfl ?_
                exact g_to ih_i146 (by subst hS11 hS10 hS9; simp only [itr]; rw [stX8_dayOn_146]; (try dsimp only); rw [if_pos c_11, if_neg c_18, if_neg c_20]) (by subst hS11 hS10 hS9; rfl) rfl
        · skip
          (try dsimp only)
          refine g_nm (fun S12 hS12 => ?_)
          have kqS12 := kq_c hS12 (fun i hi => hkq146 (mB σ 4) i hi) (kqS6)
          have okS12 : mOK S12 := by rw [hS12]; exact (hok146 (mB σ 4) (by omega))
          refine g_iload_n S 0 dX8_dayOn_146 rfl ?_
          refine g_aload_n S 1 dX8_dayOn_147 rfl ?_
          refine gg7 S hC hiX8 (by decide) rfl 4 (by decide) (by decide +kernel) dX8_dayOn_148 ?_
          refine g_icmp_ge S 214 dX8_dayOn_151 (by decide) (fun c_22 => ?_) (fun c_22 => absurd (by rw [kqS12 4 (by decide), hok.eq 4 (by decide) (by decide)]; exact nI_le (Nat.le_refl _) (by omega)) c_22)
          refine g_aload_n S 1 dX8_dayOn_214 rfl ?_
          refine gg7r S hC hiX8 (by decide) rfl 9 (by decide) (by decide +kernel) dX8_dayOn_215 ?_
          refine g_const S dX8_dayOn_218 (v := 0) rfl ?_
          refine g_dup2 S dX8_dayOn_219 rfl rfl ?_
          refine g_iald S hC (by decide) rfl 0 rfl (by decide) (by decide) dX8_dayOn_220 ?_
          refine g_const S dX8_dayOn_221 (v := 1) rfl ?_
          refine g_iadd S dX8_dayOn_222 ?_
          refine g_iast S hC (by decide) rfl 0 rfl (by decide) (by decide) dX8_dayOn_223 ?_
          refine g_nm (fun S13 hS13 => ?_)
          have kqS13 := kq_pr hS13 (by decide) (kqS12)
          have okS13 := mOK.now hS13 (fun d _ => by omega) (okS12)
          exact g_vret S hr hlocks dX8_dayOn_224 (by subst hS13 hS12 hS6 hS4 hS2; rfl) (Nat.le_of_ble_eq_true rfl) (Nat.le_of_ble_eq_true rfl)
theorem fX8_dayOn (σ : gS) (x : Nat) (hx62 : x ≠ 62) : (sX8_dayOn_s σ).1 x = σ.1 x := by
  have g62 : ∀ (τ : gS) (n : Nat) (v : Int32), (gu τ 62 n v).1 x = τ.1 x := fun τ n v => gu_ne hx62
  have a1 : ∀ n (τ : gS), (itr stX8_dayOn_2 n τ).1 x = τ.1 x := fun n τ => itr_keep _ (fun y : gS => y.1 x) (fun j y => by
    unfold stX8_dayOn_2; (try dsimp only); split <;> first | rfl | rw [fX8_goOn _ _ _ hx62]) n τ
  have a2 : ∀ n (τ : gS), (itr stX8_dayOn_32 n τ).1 x = τ.1 x := fun n τ => itr_keep _ (fun y : gS => y.1 x) (fun j y => by
    unfold stX8_dayOn_32; (try dsimp only); split <;> first | rfl | rw [fX8_letDrum _ _ _ _ _ hx62]) n τ
  have a3 : ∀ n (τ : gS), (itr stX8_dayOn_90 n τ).1 x = τ.1 x := fun n τ => itr_keep _ (fun y : gS => y.1 x) (fun j y => by
    unfold stX8_dayOn_90; (try dsimp only); rw [g62]) n τ
  have a4 : ∀ n (τ : gS), (itr stX8_dayOn_146 n τ).1 x = τ.1 x := fun n τ => itr_keep _ (fun y : gS => y.1 x) (fun j y => by
    unfold stX8_dayOn_146; (try dsimp only); (repeat' split)
    all_goals (simp [fX8_serve, g62, hx62])) n τ
  unfold sX8_dayOn_s
  (try dsimp only)
  rw [g62, a4, a3, a2, a1]
theorem okX8_dayOn {σ : gS} (h : mOK σ) : mOK (sX8_dayOn_s σ) := by
  have l1 := h.le1
  have l2 := h.le2
  have l3 := h.le3
  have l4 := h.le4
  unfold sX8_dayOn_s
  (try dsimp only)
  exact mOK.now rfl (fun d2 _ => by omega) (itr_invB _ mOK _ (fun j x hj h => okstX8_dayOn_146 (by omega) h) _ (itr_invB _ mOK _ (fun j x hj h => okstX8_dayOn_90 (by omega) h) _ (itr_invB _ mOK _ (fun j x hj h => okstX8_dayOn_32 (by omega) h) _ (itr_invB _ mOK _ (fun j x hj h => okstX8_dayOn_2 (by omega) h) _ h))))
def stX8_daysOn_2 (an : Nat) (j : Nat) (τ : gS) : gS := let S1201 := sX8_dayOn_s τ; S1201
def sX8_daysOn_s (σ : gS) (an : Nat) : gS := (itr (stX8_daysOn_2 an) an σ)
set_option maxRecDepth 100000 in
set_option maxHeartbeats 4000000 in
theorem kX8_daysOn (l : Launch) (E : gT) (σ : gS) (a : Int32) (an : Nat) (ha : a = nI an) (han : an < 61) (hok : mOK σ) : gMv l yX8_daysOn wsX8_daysOn ({ frames := 3, cells := 0, slots := 0, locals := 68 }) 0 0 E σ [.ref (E.2.2 57), .int a] (sX8_daysOn_s σ an) := by
  refine g_met (mc := 0) (ms := 0) (nL := 3) (ret := none) (by decide) rfl (lv := [(0, .ref (E.2.2 57)), (1, .int a)]) rfl (Nat.le_of_ble_eq_true rfl) ?_
  intro p e s m below meth c S hr hlocks hC
  refine g_const S dX8_daysOn_0 (v := 0) rfl ?_
  refine g_istore_n S [(2, .int (0 : Int32)), (0, .ref (E.2.2 57)), (1, .int a)] dX8_daysOn_1 (by decide) rfl ?_
  refine g_lvs [0, 1, 2] (lv' := [(2, .int (0 : Int32)), (0, .ref (E.2.2 57)), (1, .int a)]) rfl ?_
  have hokF : ∀ i, mOK ((itr (stX8_daysOn_2 an) i σ)) := fun i => itr_inv _ mOK (fun j x h => okX8_dayOn h) i σ hok
  refine g_loop an (fun i2 : Nat => (itr (stX8_daysOn_2 an) i2 σ)) (fun i2 : Nat => [(2, .int (nI i2)), (0, .ref (E.2.2 57)), (1, .int a)]) [] rfl rfl ?_ ?_
  · intro i2 hi2 ih_i2
    (try dsimp only at ih_i2 ⊢)
    refine g_iload_n S 0 dX8_daysOn_2 rfl ?_
    refine g_iload_n S 2 dX8_daysOn_3 rfl ?_
    refine g_icmp_ge S 17 dX8_daysOn_4 (by decide) (fun c_1 => absurd c_1 (by rw [ha]; exact nI_ge hi2 (by omega))) (fun c_1 => ?_)
    refine g_aload_n S 1 dX8_daysOn_7 rfl ?_
    refine g_callv (g_runV S hC (As := []) (rest := []) (k := 57) (by decide) rfl (by decide) rfl (kX8_dayOn l E (itr (stX8_daysOn_2 an) i2 σ) (hokF i2)) (cwV 0 S.2.2.2.2 gX8_daysOn_X8_dayOn rfl rfl rfl (by decide +kernel) ⟨Nat.le_of_ble_eq_true rfl, Nat.le_of_ble_eq_true rfl⟩) rfl rfl (Nat.le_of_ble_eq_true rfl) dX8_daysOn_8 ⟨Nat.le_of_ble_eq_true rfl, Nat.le_of_ble_eq_true rfl⟩) ?_
    refine g_nm (fun S1 hS1 => ?_)
    refine g_iinc S [(2, .int (nI (i2 + 1))), (0, .ref (E.2.2 57)), (1, .int a)] 0 (nI (i2 + 1)) dX8_daysOn_11 rfl (by exact nI_1 i2) (by decide) rfl ?_
    refine g_goto S 2 dX8_daysOn_14 (by decide) ?_
    refine g_lvs [0, 1, 2] (lv' := [(2, .int (nI (i2 + 1))), (0, .ref (E.2.2 57)), (1, .int a)]) rfl ?_
    exact g_to ih_i2 (by subst hS1; rfl) (by subst hS1; rfl) rfl
  · skip
    (try dsimp only)
    refine g_iload_n S 0 dX8_daysOn_2 rfl ?_
    refine g_iload_n S 2 dX8_daysOn_3 rfl ?_
    refine g_icmp_ge S 17 dX8_daysOn_4 (by decide) (fun c_2 => ?_) (fun c_2 => absurd (by rw [ha]; exact nI_le (Nat.le_refl _) (by omega)) c_2)
    exact g_vret S hr hlocks dX8_daysOn_17 rfl (Nat.le_of_ble_eq_true rfl) (Nat.le_of_ble_eq_true rfl)
theorem fX8_daysOn (σ : gS) (an : Nat) (x : Nat) (hx62 : x ≠ 62) : (sX8_daysOn_s σ an).1 x = σ.1 x := by
  unfold sX8_daysOn_s
  exact itr_keep _ (fun y : gS => y.1 x) (fun j y => fX8_dayOn y x hx62) an σ
theorem okX8_daysOn {σ : gS} {an : Nat} (h : mOK σ) : mOK (sX8_daysOn_s σ an) := by
  unfold sX8_daysOn_s
  exact itr_inv _ mOK (fun j x h => okX8_dayOn h) an σ h
def sX8_pass_r (σ : gS) (a : Int32) : Int32 := let S1 := gu σ 57 0 (0 : Int32); if sX8_isIn_r S1 a (1 : Int32) (60 : Int32) = 0 then (sX8_fail_r S1 (1 : Int32)) else (let S2 := sX8_daysOn_s S1 a.toNatClampNeg; (S2.1 62 5) - (S1.1 62 5))
def sX8_pass_s (σ : gS) (a : Int32) : gS := let S1 := gu σ 57 0 (0 : Int32); if sX8_isIn_r S1 a (1 : Int32) (60 : Int32) = 0 then (let S3 := sX8_fail_s S1 (1 : Int32); S3) else (let S2 := sX8_daysOn_s S1 a.toNatClampNeg; S2)
theorem fX8_pass (σ : gS) (a : Int32) (x : Nat) (hx57 : x ≠ 57) (hx62 : x ≠ 62) : (sX8_pass_s σ a).1 x = σ.1 x := by
  unfold sX8_pass_s
  (try dsimp only)
  (repeat' split)
  all_goals (simp [gu_ne, gcp, fX8_daysOn, fX8_fail, *])
set_option maxRecDepth 100000 in
set_option maxHeartbeats 4000000 in
theorem kX8_pass (l : Launch) (E : gT) (σ : gS) (a : Int32) (hok : mOK σ) : gMi l yX8_pass wsX8_pass ({ frames := 4, cells := 0, slots := 0, locals := 90 }) 0 0 E σ [.ref (E.2.2 57), .int a] (sX8_pass_r σ a) (sX8_pass_s σ a) := by
  refine g_met (mc := 0) (ms := 0) (nL := 3) (ret := (some .int)) (by decide) rfl (lv := [(0, .ref (E.2.2 57)), (1, .int a)]) rfl (Nat.le_of_ble_eq_true rfl) ?_
  intro p e s m below meth c S hr hlocks hC
  have hiX8 : ∀ w ∈ wsX80, w ∈ wsX8_pass := by decide +kernel
  refine g_aload_n S 0 dX8_pass_0 rfl ?_
  refine g_const S dX8_pass_1 (v := 0) rfl ?_
  refine gp7 S hC hiX8 (by decide) rfl 0 (by decide) (by decide +kernel) dX8_pass_2 ?_
  refine g_nm (fun S1 hS1 => ?_)
  have kqS1 := kq_p0 hS1 (kq_0)
  have okS1 := mOK.p0 hS1 (hok)
  refine g_iload_n S 1 dX8_pass_5 rfl ?_
  refine g_const S dX8_pass_6 (v := 1) rfl ?_
  refine g_bipush S dX8_pass_7 (v := 60) rfl ?_
  refine g_calli (g_runS S hC (As := [.int a, .int (1 : Int32), .int (60 : Int32)]) (rest := []) (kX8_isIn l E S1 a (1 : Int32) (60 : Int32)) (va_cwS 3 S.2.2.2.2 gX8_pass_X8_isIn rfl rfl rfl (by decide +kernel) ⟨Nat.le_of_ble_eq_true rfl, Nat.le_of_ble_eq_true rfl⟩) rfl rfl (Nat.le_of_ble_eq_true rfl) dX8_pass_9 ⟨Nat.le_of_ble_eq_true rfl, Nat.le_of_ble_eq_true rfl⟩) ?_
  refine g_if_ne S 21 dX8_pass_12 (by decide) (fun c_1 => ?_) (fun c_1 => ?_)
  · skip
    obtain ⟨⟨hbb1, hbb0⟩, hbe⟩ := mi_nm (lo := 1) (hi := 60) (by decide) (by decide) (x := a) (by assumption)
    refine g_aload_n S 0 dX8_pass_21 rfl ?_
    refine gg7r S hC hiX8 (by decide) rfl 9 (by decide) (by decide +kernel) dX8_pass_22 ?_
    refine g_const S dX8_pass_25 (v := 5) rfl ?_
    refine g_iald S hC (by decide) rfl 5 rfl (by decide) (by decide) dX8_pass_26 ?_
    refine g_istore_n S [(2, .int (S1.1 62 5)), (0, .ref (E.2.2 57)), (1, .int a)] dX8_pass_27 (by decide) rfl ?_
    refine g_aload_n S 1 dX8_pass_28 rfl ?_
    refine g_iload_n S 2 dX8_pass_29 rfl ?_
    refine g_callv (g_runV S hC (As := [.int a]) (rest := []) (k := 57) (by decide) rfl (by decide) rfl (kX8_daysOn l E S1 a a.toNatClampNeg hbe (by omega) okS1) (cwV 1 S.2.2.2.2 gX8_pass_X8_daysOn rfl rfl rfl (by decide +kernel) ⟨Nat.le_of_ble_eq_true rfl, Nat.le_of_ble_eq_true rfl⟩) rfl rfl (Nat.le_of_ble_eq_true rfl) dX8_pass_30 ⟨Nat.le_of_ble_eq_true rfl, Nat.le_of_ble_eq_true rfl⟩) ?_
    refine g_nm (fun S2 hS2 => ?_)
    have kqS2 := kq_c hS2 (fun i hi => congrFun (fX8_daysOn _ _ 57 (by decide) ) i) (kqS1)
    have okS2 : mOK S2 := by rw [hS2]; exact okX8_daysOn  (okS1)
    refine g_aload_n S 1 dX8_pass_33 rfl ?_
    refine gg7r S hC hiX8 (by decide) rfl 9 (by decide) (by decide +kernel) dX8_pass_34 ?_
    refine g_const S dX8_pass_37 (v := 5) rfl ?_
    refine g_iald S hC (by decide) rfl 5 rfl (by decide) (by decide) dX8_pass_38 ?_
    refine g_iload_n S 0 dX8_pass_39 rfl ?_
    refine g_isub S dX8_pass_40 ?_
    exact g_iret S hr hlocks dX8_pass_41 (by subst hS2 hS1; unfold sX8_pass_r; (try dsimp only); rw [if_neg c_1]) (by subst hS2 hS1; unfold sX8_pass_s; (try dsimp only); rw [if_neg c_1]) (Nat.le_of_ble_eq_true rfl) (Nat.le_of_ble_eq_true rfl)
  · skip
    refine g_aload_n S 0 dX8_pass_15 rfl ?_
    refine g_const S dX8_pass_16 (v := 1) rfl ?_
    refine g_calli (g_runV S hC (As := [.int (1 : Int32)]) (rest := []) (k := 57) (by decide) rfl (by decide) rfl (kX8_fail l E S1 (1 : Int32)) (cwV 1 S.2.2.2.2 gX8_pass_X8_fail rfl rfl rfl (by decide +kernel) ⟨Nat.le_of_ble_eq_true rfl, Nat.le_of_ble_eq_true rfl⟩) rfl rfl (Nat.le_of_ble_eq_true rfl) dX8_pass_17 ⟨Nat.le_of_ble_eq_true rfl, Nat.le_of_ble_eq_true rfl⟩) ?_
    refine g_nm (fun S3 hS3 => ?_)
    exact g_iret S hr hlocks dX8_pass_20 (by subst hS3 hS1; unfold sX8_pass_r; (try dsimp only); rw [if_pos c_1]) (by subst hS3 hS1; unfold sX8_pass_s; (try dsimp only); rw [if_pos c_1]) (Nat.le_of_ble_eq_true rfl) (Nat.le_of_ble_eq_true rfl)
def sX8_behind_r (σ : gS) (an : Nat) (wn : Nat) : Int32 := let S1 := sX8_daysOn_s σ an; S1.1 62 wn
def sX8_behind_s (σ : gS) (an : Nat) (wn : Nat) : gS := let S1 := sX8_daysOn_s σ an; let S2 := sX8_bringBack_s S1; S2
theorem fX8_behind (σ : gS) (an : Nat) (wn : Nat) (x : Nat) (hx62 : x ≠ 62) : (sX8_behind_s σ an wn).1 x = σ.1 x := by
  unfold sX8_behind_s
  (try dsimp only)
  (repeat' split)
  all_goals (simp [gu_ne, gcp, fX8_bringBack, fX8_daysOn, *])
set_option maxRecDepth 100000 in
set_option maxHeartbeats 4000000 in
theorem kX8_behind (l : Launch) (E : gT) (σ : gS) (a : Int32) (an : Nat) (ha : a = nI an) (han : an < 61) (w : Int32) (wn : Nat) (hw : w = nI wn) (hwn : wn < 72) (hok : mOK σ) : gMi l yX8_behind wsX8_behind ({ frames := 4, cells := 0, slots := 0, locals := 90 }) 0 0 E σ [.ref (E.2.2 57), .int a, .int w] (sX8_behind_r σ an wn) (sX8_behind_s σ an wn) := by
  refine g_met (mc := 0) (ms := 0) (nL := 4) (ret := (some .int)) (by decide) rfl (lv := [(0, .ref (E.2.2 57)), (1, .int a), (2, .int w)]) rfl (Nat.le_of_ble_eq_true rfl) ?_
  intro p e s m below meth c S hr hlocks hC
  have hiX8 : ∀ w ∈ wsX80, w ∈ wsX8_behind := by decide +kernel
  refine g_aload_n S 0 dX8_behind_0 rfl ?_
  refine g_iload_n S 1 dX8_behind_1 rfl ?_
  refine g_callv (g_runV S hC (As := [.int a]) (rest := []) (k := 57) (by decide) rfl (by decide) rfl (kX8_daysOn l E σ a an ha (by omega) hok) (cwV 1 S.2.2.2.2 gX8_behind_X8_daysOn rfl rfl rfl (by decide +kernel) ⟨Nat.le_of_ble_eq_true rfl, Nat.le_of_ble_eq_true rfl⟩) rfl rfl (Nat.le_of_ble_eq_true rfl) dX8_behind_2 ⟨Nat.le_of_ble_eq_true rfl, Nat.le_of_ble_eq_true rfl⟩) ?_
  refine g_nm (fun S1 hS1 => ?_)
  refine g_aload_n S 0 dX8_behind_5 rfl ?_
  refine gg7r S hC hiX8 (by decide) rfl 9 (by decide) (by decide +kernel) dX8_behind_6 ?_
  refine g_iload_n S 2 dX8_behind_9 rfl ?_
  refine g_iald S hC (by decide) rfl wn hw (show wn < 72 by omega) (by decide) dX8_behind_10 ?_
  refine g_istore_n S [(3, .int (S1.1 62 wn)), (0, .ref (E.2.2 57)), (1, .int a), (2, .int w)] dX8_behind_11 (by decide) rfl ?_
  refine g_aload_n S 1 dX8_behind_12 rfl ?_
  refine g_callv (g_runV S hC (As := []) (rest := []) (k := 57) (by decide) rfl (by decide) rfl (kX8_bringBack l E S1) (cwV 0 S.2.2.2.2 gX8_behind_X8_bringBack rfl rfl rfl (by decide +kernel) ⟨Nat.le_of_ble_eq_true rfl, Nat.le_of_ble_eq_true rfl⟩) rfl rfl (Nat.le_of_ble_eq_true rfl) dX8_behind_13 ⟨Nat.le_of_ble_eq_true rfl, Nat.le_of_ble_eq_true rfl⟩) ?_
  refine g_nm (fun S2 hS2 => ?_)
  refine g_iload_n S 0 dX8_behind_16 rfl ?_
  exact g_iret S hr hlocks dX8_behind_17 (by subst hS2 hS1; rfl) (by subst hS2 hS1; rfl) (Nat.le_of_ble_eq_true rfl) (Nat.le_of_ble_eq_true rfl)
theorem okX8_behind {σ : gS} {an wn : Nat} (h : mOK σ) (hk : lOK σ 63) : mOK (sX8_behind_s σ an wn) := by
  unfold sX8_behind_s
  exact okX8_bringBack (okX8_daysOn h) (fun d hd => by rw [fX8_daysOn _ _ _ (by decide)]; exact hk d hd)
def sX8_foresee_r (σ : gS) (a : Int32) (b : Int32) : Int32 := let S1 := gu σ 57 0 (0 : Int32); if sX8_isIn_r S1 a (1 : Int32) (60 : Int32) = 0 then (sX8_fail_r S1 (1 : Int32)) else (if sX8_isIn_r S1 b (1 : Int32) (6 : Int32) = 0 then (sX8_fail_r S1 (2 : Int32)) else (let S2 := sX8_keep_s S1; sX8_behind_r S2 a.toNatClampNeg b.toNatClampNeg))
def sX8_foresee_s (σ : gS) (a : Int32) (b : Int32) : gS := let S1 := gu σ 57 0 (0 : Int32); if sX8_isIn_r S1 a (1 : Int32) (60 : Int32) = 0 then (let S5 := sX8_fail_s S1 (1 : Int32); S5) else (if sX8_isIn_r S1 b (1 : Int32) (6 : Int32) = 0 then (let S4 := sX8_fail_s S1 (2 : Int32); S4) else (let S2 := sX8_keep_s S1; let S3 := sX8_behind_s S2 a.toNatClampNeg b.toNatClampNeg; S3))
theorem fX8_foresee (σ : gS) (a : Int32) (b : Int32) (x : Nat) (hx57 : x ≠ 57) (hx62 : x ≠ 62) (hx63 : x ≠ 63) : (sX8_foresee_s σ a b).1 x = σ.1 x := by
  unfold sX8_foresee_s
  (try dsimp only)
  (repeat' split)
  all_goals (simp [gu_ne, gcp, fX8_behind, fX8_fail, fX8_keep, *])
set_option maxRecDepth 100000 in
set_option maxHeartbeats 4000000 in
theorem kX8_foresee (l : Launch) (E : gT) (σ : gS) (a : Int32) (b : Int32) (hok : mOK σ) : gMi l yX8_foresee wsX8_foresee ({ frames := 5, cells := 0, slots := 0, locals := 113 }) 0 0 E σ [.ref (E.2.2 57), .int a, .int b] (sX8_foresee_r σ a b) (sX8_foresee_s σ a b) := by
  refine g_met (mc := 0) (ms := 0) (nL := 3) (ret := (some .int)) (by decide) rfl (lv := [(0, .ref (E.2.2 57)), (1, .int a), (2, .int b)]) rfl (Nat.le_of_ble_eq_true rfl) ?_
  intro p e s m below meth c S hr hlocks hC
  have hiX8 : ∀ w ∈ wsX80, w ∈ wsX8_foresee := by decide +kernel
  refine g_aload_n S 0 dX8_foresee_0 rfl ?_
  refine g_const S dX8_foresee_1 (v := 0) rfl ?_
  refine gp7 S hC hiX8 (by decide) rfl 0 (by decide) (by decide +kernel) dX8_foresee_2 ?_
  refine g_nm (fun S1 hS1 => ?_)
  have kqS1 := kq_p0 hS1 (kq_0)
  have okS1 := mOK.p0 hS1 (hok)
  refine g_iload_n S 1 dX8_foresee_5 rfl ?_
  refine g_const S dX8_foresee_6 (v := 1) rfl ?_
  refine g_bipush S dX8_foresee_7 (v := 60) rfl ?_
  refine g_calli (g_runS S hC (As := [.int a, .int (1 : Int32), .int (60 : Int32)]) (rest := []) (kX8_isIn l E S1 a (1 : Int32) (60 : Int32)) (va_cwS 3 S.2.2.2.2 gX8_foresee_X8_isIn rfl rfl rfl (by decide +kernel) ⟨Nat.le_of_ble_eq_true rfl, Nat.le_of_ble_eq_true rfl⟩) rfl rfl (Nat.le_of_ble_eq_true rfl) dX8_foresee_9 ⟨Nat.le_of_ble_eq_true rfl, Nat.le_of_ble_eq_true rfl⟩) ?_
  refine g_if_ne S 21 dX8_foresee_12 (by decide) (fun c_1 => ?_) (fun c_1 => ?_)
  · skip
    obtain ⟨⟨hbb1, hbb0⟩, hbe⟩ := mi_nm (lo := 1) (hi := 60) (by decide) (by decide) (x := a) (by assumption)
    refine g_iload_n S 2 dX8_foresee_21 rfl ?_
    refine g_const S dX8_foresee_22 (v := 1) rfl ?_
    refine g_bipush S dX8_foresee_23 (v := 6) rfl ?_
    refine g_calli (g_runS S hC (As := [.int b, .int (1 : Int32), .int (6 : Int32)]) (rest := []) (kX8_isIn l E S1 b (1 : Int32) (6 : Int32)) (va_cwS 3 S.2.2.2.2 gX8_foresee_X8_isIn rfl rfl rfl (by decide +kernel) ⟨Nat.le_of_ble_eq_true rfl, Nat.le_of_ble_eq_true rfl⟩) rfl rfl (Nat.le_of_ble_eq_true rfl) dX8_foresee_25 ⟨Nat.le_of_ble_eq_true rfl, Nat.le_of_ble_eq_true rfl⟩) ?_
    refine g_if_ne S 37 dX8_foresee_28 (by decide) (fun c_2 => ?_) (fun c_2 => ?_)
    · skip
      obtain ⟨⟨_, hbb2⟩, hbe2⟩ := mi_nm (lo := 1) (hi := 6) (by decide) (by decide) (x := b) (by assumption)
      refine g_aload_n S 0 dX8_foresee_37 rfl ?_
      refine g_callv (g_runV S hC (As := []) (rest := []) (k := 57) (by decide) rfl (by decide) rfl (kX8_keep l E S1) (cwV 0 S.2.2.2.2 gX8_foresee_X8_keep rfl rfl rfl (by decide +kernel) ⟨Nat.le_of_ble_eq_true rfl, Nat.le_of_ble_eq_true rfl⟩) rfl rfl (Nat.le_of_ble_eq_true rfl) dX8_foresee_38 ⟨Nat.le_of_ble_eq_true rfl, Nat.le_of_ble_eq_true rfl⟩) ?_
      refine g_nm (fun S2 hS2 => ?_)
      have kqS2 := kq_c hS2 (fun i hi => congrFun (fX8_keep _ 57 (by decide) ) i) (kqS1)
      have okS2 : mOK S2 := by rw [hS2]; exact okX8_keep  (okS1)
      refine g_aload_n S 0 dX8_foresee_41 rfl ?_
      refine g_iload_n S 1 dX8_foresee_42 rfl ?_
      refine g_iload_n S 2 dX8_foresee_43 rfl ?_
      refine g_calli (g_runV S hC (As := [.int a, .int b]) (rest := []) (k := 57) (by decide) rfl (by decide) rfl (kX8_behind l E S2 a a.toNatClampNeg hbe (by omega) b b.toNatClampNeg hbe2 (by omega) okS2) (cwV 2 S.2.2.2.2 gX8_foresee_X8_behind rfl rfl rfl (by decide +kernel) ⟨Nat.le_of_ble_eq_true rfl, Nat.le_of_ble_eq_true rfl⟩) rfl rfl (Nat.le_of_ble_eq_true rfl) dX8_foresee_44 ⟨Nat.le_of_ble_eq_true rfl, Nat.le_of_ble_eq_true rfl⟩) ?_
      refine g_nm (fun S3 hS3 => ?_)
      have kqS3 := kq_c hS3 (fun i hi => congrFun (fX8_behind _ _ _ 57 (by decide) ) i) (kqS2)
      exact g_iret S hr hlocks dX8_foresee_47 (by subst hS3 hS2 hS1; unfold sX8_foresee_r; (try dsimp only); rw [if_neg c_1, if_neg c_2]) (by subst hS3 hS2 hS1; unfold sX8_foresee_s; (try dsimp only); rw [if_neg c_1, if_neg c_2]) (Nat.le_of_ble_eq_true rfl) (Nat.le_of_ble_eq_true rfl)
    · skip
      refine g_aload_n S 0 dX8_foresee_31 rfl ?_
      refine g_const S dX8_foresee_32 (v := 2) rfl ?_
      refine g_calli (g_runV S hC (As := [.int (2 : Int32)]) (rest := []) (k := 57) (by decide) rfl (by decide) rfl (kX8_fail l E S1 (2 : Int32)) (cwV 1 S.2.2.2.2 gX8_foresee_X8_fail rfl rfl rfl (by decide +kernel) ⟨Nat.le_of_ble_eq_true rfl, Nat.le_of_ble_eq_true rfl⟩) rfl rfl (Nat.le_of_ble_eq_true rfl) dX8_foresee_33 ⟨Nat.le_of_ble_eq_true rfl, Nat.le_of_ble_eq_true rfl⟩) ?_
      refine g_nm (fun S4 hS4 => ?_)
      exact g_iret S hr hlocks dX8_foresee_36 (by subst hS4 hS1; unfold sX8_foresee_r; (try dsimp only); rw [if_neg c_1, if_pos c_2]) (by subst hS4 hS1; unfold sX8_foresee_s; (try dsimp only); rw [if_neg c_1, if_pos c_2]) (Nat.le_of_ble_eq_true rfl) (Nat.le_of_ble_eq_true rfl)
  · skip
    refine g_aload_n S 0 dX8_foresee_15 rfl ?_
    refine g_const S dX8_foresee_16 (v := 1) rfl ?_
    refine g_calli (g_runV S hC (As := [.int (1 : Int32)]) (rest := []) (k := 57) (by decide) rfl (by decide) rfl (kX8_fail l E S1 (1 : Int32)) (cwV 1 S.2.2.2.2 gX8_foresee_X8_fail rfl rfl rfl (by decide +kernel) ⟨Nat.le_of_ble_eq_true rfl, Nat.le_of_ble_eq_true rfl⟩) rfl rfl (Nat.le_of_ble_eq_true rfl) dX8_foresee_17 ⟨Nat.le_of_ble_eq_true rfl, Nat.le_of_ble_eq_true rfl⟩) ?_
    refine g_nm (fun S5 hS5 => ?_)
    exact g_iret S hr hlocks dX8_foresee_20 (by subst hS5 hS1; unfold sX8_foresee_r; (try dsimp only); rw [if_pos c_1]) (by subst hS5 hS1; unfold sX8_foresee_s; (try dsimp only); rw [if_pos c_1]) (Nat.le_of_ble_eq_true rfl) (Nat.le_of_ble_eq_true rfl)
def stX8_ready_38 (σ : gS) (a : Int32) (j : Nat) (τ : Int32 × Int32) : Int32 × Int32 := if τ.2 < sX8_yields_r σ ((sX8_dr_r σ a.toNatClampNeg 1).toNatClampNeg) (sX8_dr_r σ a.toNatClampNeg 2) ((sX8_dr_r σ a.toNatClampNeg 3) + ((nI j) * (sX8_dr_r σ a.toNatClampNeg 0))) then ((nI j, sX8_yields_r σ ((sX8_dr_r σ a.toNatClampNeg 1).toNatClampNeg) (sX8_dr_r σ a.toNatClampNeg 2) ((sX8_dr_r σ a.toNatClampNeg 3) + ((nI j) * (sX8_dr_r σ a.toNatClampNeg 0))))) else ((τ.1, τ.2))
def sX8_ready_r (σ : gS) (a : Int32) : Int32 := let S1 := gu σ 57 0 (0 : Int32); if sX8_isDrum_r S1 a = 0 then (sX8_fail_r S1 (1 : Int32)) else (if sX8_dr_r S1 a.toNatClampNeg 1 = (-1 : Int32) then ((-1 : Int32)) else ((itr (stX8_ready_38 S1 a) 61 ((-1 : Int32), (0 : Int32))).1))
def sX8_ready_s (σ : gS) (a : Int32) : gS := let S1 := gu σ 57 0 (0 : Int32); if sX8_isDrum_r S1 a = 0 then (let S2 := sX8_fail_s S1 (1 : Int32); S2) else (if sX8_dr_r S1 a.toNatClampNeg 1 = (-1 : Int32) then (S1) else (S1))
theorem fX8_ready (σ : gS) (a : Int32) (x : Nat) (hx57 : x ≠ 57) : (sX8_ready_s σ a).1 x = σ.1 x := by
  unfold sX8_ready_s
  (try dsimp only)
  (repeat' split)
  all_goals (simp [gu_ne, gcp, fX8_fail, *])
set_option maxRecDepth 100000 in
set_option maxHeartbeats 4000000 in
theorem kX8_ready (l : Launch) (E : gT) (σ : gS) (a : Int32) (hok : mOK σ) : gMi l yX8_ready wsX8_ready ({ frames := 2, cells := 0, slots := 0, locals := 43 }) 0 0 E σ [.ref (E.2.2 57), .int a] (sX8_ready_r σ a) (sX8_ready_s σ a) := by
  refine g_met (mc := 0) (ms := 0) (nL := 6) (ret := (some .int)) (by decide) rfl (lv := [(0, .ref (E.2.2 57)), (1, .int a)]) rfl (Nat.le_of_ble_eq_true rfl) ?_
  intro p e s m below meth c S hr hlocks hC
  have hiX8 : ∀ w ∈ wsX80, w ∈ wsX8_ready := by decide +kernel
  refine g_aload_n S 0 dX8_ready_0 rfl ?_
  refine g_const S dX8_ready_1 (v := 0) rfl ?_
  refine gp7 S hC hiX8 (by decide) rfl 0 (by decide) (by decide +kernel) dX8_ready_2 ?_
  refine g_nm (fun S1 hS1 => ?_)
  have kqS1 := kq_p0 hS1 (kq_0)
  have okS1 := mOK.p0 hS1 (hok)
  refine g_aload_n S 0 dX8_ready_5 rfl ?_
  refine g_iload_n S 1 dX8_ready_6 rfl ?_
  refine g_calli (g_runV S hC (As := [.int a]) (rest := []) (k := 57) (by decide) rfl (by decide) rfl (kX8_isDrum l E S1 a) (cwV 1 S.2.2.2.2 gX8_ready_X8_isDrum rfl rfl rfl (by decide +kernel) ⟨Nat.le_of_ble_eq_true rfl, Nat.le_of_ble_eq_true rfl⟩) rfl rfl (Nat.le_of_ble_eq_true rfl) dX8_ready_7 ⟨Nat.le_of_ble_eq_true rfl, Nat.le_of_ble_eq_true rfl⟩) ?_
  refine g_if_ne S 19 dX8_ready_10 (by decide) (fun c_1 => ?_) (fun c_1 => ?_)
  · skip
    have hle := hok.le2
    obtain ⟨hbb, hbe⟩ := md_dr (mB σ 2) ((kqS1 2 (by decide)).trans (hok.eq 2 (by decide) (by decide))) (by omega) (by assumption)
    have hbl : a.toNatClampNeg < 4 := by omega
    refine g_aload_n S 0 dX8_ready_19 rfl ?_
    refine g_iload_n S 1 dX8_ready_20 rfl ?_
    refine g_const S dX8_ready_21 (v := 1) rfl ?_
    refine g_calli (g_runV S hC (As := [.int a, .int (1 : Int32)]) (rest := []) (k := 57) (by decide) rfl (by decide) rfl (kX8_dr l E S1 a a.toNatClampNeg hbe (by omega) (1 : Int32) 1 rfl (by decide)) (cwV 2 S.2.2.2.2 gX8_ready_X8_dr rfl rfl rfl (by decide +kernel) ⟨Nat.le_of_ble_eq_true rfl, Nat.le_of_ble_eq_true rfl⟩) rfl rfl (Nat.le_of_ble_eq_true rfl) dX8_ready_22 ⟨Nat.le_of_ble_eq_true rfl, Nat.le_of_ble_eq_true rfl⟩) ?_
    refine g_const S dX8_ready_25 (v := (-1)) rfl ?_
    refine g_icmp_ne S 31 dX8_ready_26 (by decide) (fun c_2 => ?_) (fun c_2 => ?_)
    · skip
      refine g_const S dX8_ready_31 (v := (-1)) rfl ?_
      refine g_istore_n S [(2, .int (-1 : Int32)), (0, .ref (E.2.2 57)), (1, .int a)] dX8_ready_32 (by decide) rfl ?_
      refine g_const S dX8_ready_33 (v := 0) rfl ?_
      refine g_istore_n S [(3, .int (0 : Int32)), (2, .int (-1 : Int32)), (0, .ref (E.2.2 57)), (1, .int a)] dX8_ready_34 (by decide) rfl ?_
      refine g_const S dX8_ready_35 (v := 0) rfl ?_
      refine g_istore S [(4, .int (0 : Int32)), (3, .int (0 : Int32)), (2, .int (-1 : Int32)), (0, .ref (E.2.2 57)), (1, .int a)] dX8_ready_36 (by decide) rfl ?_
      refine g_lvs [0, 1, 2, 3, 4] (lv' := [(4, .int (0 : Int32)), (3, .int (0 : Int32)), (2, .int (-1 : Int32)), (0, .ref (E.2.2 57)), (1, .int a)]) rfl ?_
      refine g_loop 61 (fun i38 : Nat => S1) (fun i38 : Nat => [(4, .int (nI i38)), (3, .int ((itr (stX8_ready_38 S1 a) i38 ((-1 : Int32), (0 : Int32))).2)), (2, .int ((itr (stX8_ready_38 S1 a) i38 ((-1 : Int32), (0 : Int32))).1)), (0, .ref (E.2.2 57)), (1, .int a)]) [] rfl rfl ?_ ?_
      · intro i38 hi38 ih_i38
        (try dsimp only at ih_i38 ⊢)
        refine g_iload S 0 dX8_ready_38 rfl ?_
        refine g_bipush S dX8_ready_40 (v := 60) rfl ?_
        refine g_icmp_gt S 99 dX8_ready_42 (by decide) (fun c_3 => absurd c_3 (nI_nlt (a := 60) (b := i38) (by omega) (by omega))) (fun c_3 => ?_)
        refine g_aload_n S 3 dX8_ready_45 rfl ?_
        refine g_iload_n S 4 dX8_ready_46 rfl ?_
        refine g_const S dX8_ready_47 (v := 1) rfl ?_
        refine g_calli (g_runV S hC (As := [.int a, .int (1 : Int32)]) (rest := []) (k := 57) (by decide) rfl (by decide) rfl (kX8_dr l E S1 a a.toNatClampNeg hbe (by omega) (1 : Int32) 1 rfl (by decide)) (cwV 2 S.2.2.2.2 gX8_ready_X8_dr rfl rfl rfl (by decide +kernel) ⟨Nat.le_of_ble_eq_true rfl, Nat.le_of_ble_eq_true rfl⟩) rfl rfl (Nat.le_of_ble_eq_true rfl) dX8_ready_48 ⟨Nat.le_of_ble_eq_true rfl, Nat.le_of_ble_eq_true rfl⟩) ?_
        refine g_aload_n S 3 dX8_ready_51 rfl ?_
        refine g_iload_n S 4 dX8_ready_52 rfl ?_
        refine g_const S dX8_ready_53 (v := 2) rfl ?_
        refine g_calli (g_runV S hC (As := [.int a, .int (2 : Int32)]) (rest := [.int (sX8_dr_r S1 a.toNatClampNeg 1)]) (k := 57) (by decide) rfl (by decide) rfl (kX8_dr l E S1 a a.toNatClampNeg hbe (by omega) (2 : Int32) 2 rfl (by decide)) (cwV 2 S.2.2.2.2 gX8_ready_X8_dr rfl rfl rfl (by decide +kernel) ⟨Nat.le_of_ble_eq_true rfl, Nat.le_of_ble_eq_true rfl⟩) rfl rfl (Nat.le_of_ble_eq_true rfl) dX8_ready_54 ⟨Nat.le_of_ble_eq_true rfl, Nat.le_of_ble_eq_true rfl⟩) ?_
        refine g_aload_n S 3 dX8_ready_57 rfl ?_
        refine g_iload_n S 4 dX8_ready_58 rfl ?_
        refine g_const S dX8_ready_59 (v := 3) rfl ?_
        refine g_calli (g_runV S hC (As := [.int a, .int (3 : Int32)]) (rest := [.int (sX8_dr_r S1 a.toNatClampNeg 2), .int (sX8_dr_r S1 a.toNatClampNeg 1)]) (k := 57) (by decide) rfl (by decide) rfl (kX8_dr l E S1 a a.toNatClampNeg hbe (by omega) (3 : Int32) 3 rfl (by decide)) (cwV 2 S.2.2.2.2 gX8_ready_X8_dr rfl rfl rfl (by decide +kernel) ⟨Nat.le_of_ble_eq_true rfl, Nat.le_of_ble_eq_true rfl⟩) rfl rfl (Nat.le_of_ble_eq_true rfl) dX8_ready_60 ⟨Nat.le_of_ble_eq_true rfl, Nat.le_of_ble_eq_true rfl⟩) ?_
        refine g_iload S 0 dX8_ready_63 rfl ?_
        refine g_aload_n S 3 dX8_ready_65 rfl ?_
        refine g_iload_n S 4 dX8_ready_66 rfl ?_
        refine g_const S dX8_ready_67 (v := 0) rfl ?_
        refine g_calli (g_runV S hC (As := [.int a, .int (0 : Int32)]) (rest := [.int (nI i38), .int (sX8_dr_r S1 a.toNatClampNeg 3), .int (sX8_dr_r S1 a.toNatClampNeg 2), .int (sX8_dr_r S1 a.toNatClampNeg 1)]) (k := 57) (by decide) rfl (by decide) rfl (kX8_dr l E S1 a a.toNatClampNeg hbe (by omega) (0 : Int32) 0 rfl (by decide)) (cwV 2 S.2.2.2.2 gX8_ready_X8_dr rfl rfl rfl (by decide +kernel) ⟨Nat.le_of_ble_eq_true rfl, Nat.le_of_ble_eq_true rfl⟩) rfl rfl (Nat.le_of_ble_eq_true rfl) dX8_ready_68 ⟨Nat.le_of_ble_eq_true rfl, Nat.le_of_ble_eq_true rfl⟩) ?_
        refine g_imul S dX8_ready_71 ?_
        refine g_iadd S dX8_ready_72 ?_
        refine g_calli (g_runS S hC (As := [.int (sX8_dr_r S1 a.toNatClampNeg 1), .int (sX8_dr_r S1 a.toNatClampNeg 2), .int ((sX8_dr_r S1 a.toNatClampNeg 3) + ((nI i38) * (sX8_dr_r S1 a.toNatClampNeg 0)))]) (rest := []) (kX8_yields l E S1 (sX8_dr_r S1 a.toNatClampNeg 1) ((sX8_dr_r S1 a.toNatClampNeg 1).toNatClampNeg) (lk_nat okS1.2 hbl (by assumption)).2 (lk_nat okS1.2 hbl (by assumption)).1 (sX8_dr_r S1 a.toNatClampNeg 2) ((sX8_dr_r S1 a.toNatClampNeg 3) + ((nI i38) * (sX8_dr_r S1 a.toNatClampNeg 0)))) (va_cwS 3 S.2.2.2.2 gX8_ready_X8_yields rfl rfl rfl (by decide +kernel) ⟨Nat.le_of_ble_eq_true rfl, Nat.le_of_ble_eq_true rfl⟩) rfl rfl (Nat.le_of_ble_eq_true rfl) dX8_ready_73 ⟨Nat.le_of_ble_eq_true rfl, Nat.le_of_ble_eq_true rfl⟩) ?_
        refine g_istore S [(5, .int (sX8_yields_r S1 ((sX8_dr_r S1 a.toNatClampNeg 1).toNatClampNeg) (sX8_dr_r S1 a.toNatClampNeg 2) ((sX8_dr_r S1 a.toNatClampNeg 3) + ((nI i38) * (sX8_dr_r S1 a.toNatClampNeg 0))))), (4, .int (nI i38)), (3, .int ((itr (stX8_ready_38 S1 a) i38 ((-1 : Int32), (0 : Int32))).2)), (2, .int ((itr (stX8_ready_38 S1 a) i38 ((-1 : Int32), (0 : Int32))).1)), (0, .ref (E.2.2 57)), (1, .int a)] dX8_ready_76 (by decide) rfl ?_
        refine g_iload S 0 dX8_ready_78 rfl ?_
        refine g_iload_n S 2 dX8_ready_80 rfl ?_
        refine g_icmp_gt S 87 dX8_ready_81 (by decide) (fun c_4 => ?_) (fun c_4 => ?_)
        · skip
          refine g_iload S 1 dX8_ready_87 rfl ?_
          refine g_istore_n S [(2, .int (nI i38)), (5, .int (sX8_yields_r S1 ((sX8_dr_r S1 a.toNatClampNeg 1).toNatClampNeg) (sX8_dr_r S1 a.toNatClampNeg 2) ((sX8_dr_r S1 a.toNatClampNeg 3) + ((nI i38) * (sX8_dr_r S1 a.toNatClampNeg 0))))), (4, .int (nI i38)), (3, .int ((itr (stX8_ready_38 S1 a) i38 ((-1 : Int32), (0 : Int32))).2)), (0, .ref (E.2.2 57)), (1, .int a)] dX8_ready_89 (by decide) rfl ?_
          refine g_iload S 1 dX8_ready_90 rfl ?_
          refine g_istore_n S [(3, .int (sX8_yields_r S1 ((sX8_dr_r S1 a.toNatClampNeg 1).toNatClampNeg) (sX8_dr_r S1 a.toNatClampNeg 2) ((sX8_dr_r S1 a.toNatClampNeg 3) + ((nI i38) * (sX8_dr_r S1 a.toNatClampNeg 0))))), (2, .int (nI i38)), (5, .int (sX8_yields_r S1 ((sX8_dr_r S1 a.toNatClampNeg 1).toNatClampNeg) (sX8_dr_r S1 a.toNatClampNeg 2) ((sX8_dr_r S1 a.toNatClampNeg 3) + ((nI i38) * (sX8_dr_r S1 a.toNatClampNeg 0))))), (4, .int (nI i38)), (0, .ref (E.2.2 57)), (1, .int a)] dX8_ready_92 (by decide) rfl ?_
          refine g_iinc S [(4, .int (nI (i38 + 1))), (3, .int (sX8_yields_r S1 ((sX8_dr_r S1 a.toNatClampNeg 1).toNatClampNeg) (sX8_dr_r S1 a.toNatClampNeg 2) ((sX8_dr_r S1 a.toNatClampNeg 3) + ((nI i38) * (sX8_dr_r S1 a.toNatClampNeg 0))))), (2, .int (nI i38)), (5, .int (sX8_yields_r S1 ((sX8_dr_r S1 a.toNatClampNeg 1).toNatClampNeg) (sX8_dr_r S1 a.toNatClampNeg 2) ((sX8_dr_r S1 a.toNatClampNeg 3) + ((nI i38) * (sX8_dr_r S1 a.toNatClampNeg 0))))), (0, .ref (E.2.2 57)), (1, .int a)] 3 (nI (i38 + 1)) dX8_ready_93 rfl (by exact nI_1 i38) (by decide) rfl ?_
          refine g_goto S 38 dX8_ready_96 (by decide) ?_
          refine g_lvs [0, 1, 2, 4, 5] (lv' := [(4, .int (nI (i38 + 1))), (3, .int (sX8_yields_r S1 ((sX8_dr_r S1 a.toNatClampNeg 1).toNatClampNeg) (sX8_dr_r S1 a.toNatClampNeg 2) ((sX8_dr_r S1 a.toNatClampNeg 3) + ((nI i38) * (sX8_dr_r S1 a.toNatClampNeg 0))))), (2, .int (nI i38)), (0, .ref (E.2.2 57)), (1, .int a)]) rfl ?_
          exact g_to ih_i38 (by rfl) (by simp only [itr]; rw [stX8_ready_38]; (try dsimp only); rw [if_pos c_4]) rfl
        · skip
          refine g_goto S 93 dX8_ready_84 (by decide) ?_
          refine g_iinc S [(4, .int (nI (i38 + 1))), (5, .int (sX8_yields_r S1 ((sX8_dr_r S1 a.toNatClampNeg 1).toNatClampNeg) (sX8_dr_r S1 a.toNatClampNeg 2) ((sX8_dr_r S1 a.toNatClampNeg 3) + ((nI i38) * (sX8_dr_r S1 a.toNatClampNeg 0))))), (3, .int ((itr (stX8_ready_38 S1 a) i38 ((-1 : Int32), (0 : Int32))).2)), (2, .int ((itr (stX8_ready_38 S1 a) i38 ((-1 : Int32), (0 : Int32))).1)), (0, .ref (E.2.2 57)), (1, .int a)] 1 (nI (i38 + 1)) dX8_ready_93 rfl (by exact nI_1 i38) (by decide) rfl ?_
          refine g_goto S 38 dX8_ready_96 (by decide) ?_
          refine g_lvs [0, 2, 3, 4, 5] (lv' := [(4, .int (nI (i38 + 1))), (3, .int ((itr (stX8_ready_38 S1 a) i38 ((-1 : Int32), (0 : Int32))).2)), (2, .int ((itr (stX8_ready_38 S1 a) i38 ((-1 : Int32), (0 : Int32))).1)), (0, .ref (E.2.2 57)), (1, .int a)]) rfl ?_
          exact g_to ih_i38 (by rfl) (by simp only [itr]; rw [stX8_ready_38]; (try dsimp only); rw [if_neg c_4]) rfl
      · skip
        (try dsimp only)
        refine g_iload S 0 dX8_ready_38 rfl ?_
        refine g_bipush S dX8_ready_40 (v := 60) rfl ?_
        refine g_icmp_gt S 99 dX8_ready_42 (by decide) (fun c_5 => ?_) (fun c_5 => absurd (nI_lt (a := 60) (b := 61) (by omega) (by omega)) c_5)
        refine g_iload_n S 2 dX8_ready_99 rfl ?_
        exact g_iret S hr hlocks dX8_ready_100 (by subst hS1; unfold sX8_ready_r; (try dsimp only); rw [if_neg c_1, if_neg c_2]) (by subst hS1; unfold sX8_ready_s; (try dsimp only); rw [if_neg c_1, if_neg c_2]) (Nat.le_of_ble_eq_true rfl) (Nat.le_of_ble_eq_true rfl)
    · skip
      refine g_const S dX8_ready_29 (v := (-1)) rfl ?_
      exact g_iret S hr hlocks dX8_ready_30 (by subst hS1; unfold sX8_ready_r; (try dsimp only); rw [if_neg c_1, if_pos c_2]) (by subst hS1; unfold sX8_ready_s; (try dsimp only); rw [if_neg c_1, if_pos c_2]) (Nat.le_of_ble_eq_true rfl) (Nat.le_of_ble_eq_true rfl)
  · skip
    refine g_aload_n S 0 dX8_ready_13 rfl ?_
    refine g_const S dX8_ready_14 (v := 1) rfl ?_
    refine g_calli (g_runV S hC (As := [.int (1 : Int32)]) (rest := []) (k := 57) (by decide) rfl (by decide) rfl (kX8_fail l E S1 (1 : Int32)) (cwV 1 S.2.2.2.2 gX8_ready_X8_fail rfl rfl rfl (by decide +kernel) ⟨Nat.le_of_ble_eq_true rfl, Nat.le_of_ble_eq_true rfl⟩) rfl rfl (Nat.le_of_ble_eq_true rfl) dX8_ready_15 ⟨Nat.le_of_ble_eq_true rfl, Nat.le_of_ble_eq_true rfl⟩) ?_
    refine g_nm (fun S2 hS2 => ?_)
    exact g_iret S hr hlocks dX8_ready_18 (by subst hS2 hS1; unfold sX8_ready_r; (try dsimp only); rw [if_pos c_1]) (by subst hS2 hS1; unfold sX8_ready_s; (try dsimp only); rw [if_pos c_1]) (Nat.le_of_ble_eq_true rfl) (Nat.le_of_ble_eq_true rfl)
def sX8_caught_r (σ : gS) (a : Int32) (b : Int32) : Int32 := if sX8_isSmuggler_r σ a = 0 then ((0 : Int32)) else (if sX8_isIn_r σ b (0 : Int32) (60 : Int32) = 0 then ((0 : Int32)) else (if sX8_sm_r σ a.toNatClampNeg 0 = 0 then (let S1 := gu σ 57 0 (0 : Int32); sX8_isPatrol_r S1 (((((S1.1 62 0) + b) + (S1.1 60 (2 * a.toNatClampNeg))) - ((S1.1 60 (2 * a.toNatClampNeg)) / (2 : Int32))) - (1 : Int32))) else ((0 : Int32))))
def sX8_caught_s (σ : gS) (a : Int32) (b : Int32) : gS := if sX8_isSmuggler_r σ a = 0 then (let S4 := gu σ 57 0 (1 : Int32); S4) else (if sX8_isIn_r σ b (0 : Int32) (60 : Int32) = 0 then (let S3 := gu σ 57 0 (2 : Int32); S3) else (if sX8_sm_r σ a.toNatClampNeg 0 = 0 then (let S1 := gu σ 57 0 (0 : Int32); S1) else (let S2 := gu σ 57 0 (3 : Int32); S2)))
theorem fX8_caught (σ : gS) (a : Int32) (b : Int32) (x : Nat) (hx57 : x ≠ 57) : (sX8_caught_s σ a b).1 x = σ.1 x := by
  unfold sX8_caught_s
  (try dsimp only)
  (repeat' split)
  all_goals (simp [gu_ne, gcp, *])
set_option maxRecDepth 100000 in
set_option maxHeartbeats 4000000 in
theorem kX8_caught (l : Launch) (E : gT) (σ : gS) (a : Int32) (b : Int32) (hok : mOK σ) : gMi l yX8_caught wsX8_caught ({ frames := 2, cells := 0, slots := 0, locals := 43 }) 0 0 E σ [.ref (E.2.2 57), .int a, .int b] (sX8_caught_r σ a b) (sX8_caught_s σ a b) := by
  refine g_met (mc := 0) (ms := 0) (nL := 4) (ret := (some .boolean)) (by decide) rfl (lv := [(0, .ref (E.2.2 57)), (1, .int a), (2, .int b)]) rfl (Nat.le_of_ble_eq_true rfl) ?_
  intro p e s m below meth c S hr hlocks hC
  have hiX8 : ∀ w ∈ wsX80, w ∈ wsX8_caught := by decide +kernel
  refine g_aload_n S 0 dX8_caught_0 rfl ?_
  refine g_aload_n S 0 dX8_caught_1 rfl ?_
  refine g_iload_n S 1 dX8_caught_2 rfl ?_
  refine g_calli (g_runV S hC (As := [.int a]) (rest := [.ref (E.2.2 57)]) (k := 57) (by decide) rfl (by decide) rfl (kX8_isSmuggler l E σ a) (cwV 1 S.2.2.2.2 gX8_caught_X8_isSmuggler rfl rfl rfl (by decide +kernel) ⟨Nat.le_of_ble_eq_true rfl, Nat.le_of_ble_eq_true rfl⟩) rfl rfl (Nat.le_of_ble_eq_true rfl) dX8_caught_3 ⟨Nat.le_of_ble_eq_true rfl, Nat.le_of_ble_eq_true rfl⟩) ?_
  refine g_if_ne S 13 dX8_caught_6 (by decide) (fun c_1 => ?_) (fun c_1 => ?_)
  · skip
    refine g_iload_n S 2 dX8_caught_13 rfl ?_
    refine g_const S dX8_caught_14 (v := 0) rfl ?_
    refine g_bipush S dX8_caught_15 (v := 60) rfl ?_
    refine g_calli (g_runS S hC (As := [.int b, .int (0 : Int32), .int (60 : Int32)]) (rest := [.ref (E.2.2 57)]) (kX8_isIn l E σ b (0 : Int32) (60 : Int32)) (va_cwS 3 S.2.2.2.2 gX8_caught_X8_isIn rfl rfl rfl (by decide +kernel) ⟨Nat.le_of_ble_eq_true rfl, Nat.le_of_ble_eq_true rfl⟩) rfl rfl (Nat.le_of_ble_eq_true rfl) dX8_caught_17 ⟨Nat.le_of_ble_eq_true rfl, Nat.le_of_ble_eq_true rfl⟩) ?_
    refine g_if_ne S 27 dX8_caught_20 (by decide) (fun c_2 => ?_) (fun c_2 => ?_)
    · skip
      have hle := hok.le3
      obtain ⟨hbb, hbe⟩ := md_sm (mB σ 3) (hok.eq 3 (by decide) (by decide)) (by omega) (by assumption)
      have hbl : a.toNatClampNeg < 4 := by omega
      refine g_aload_n S 0 dX8_caught_27 rfl ?_
      refine g_iload_n S 1 dX8_caught_28 rfl ?_
      refine g_const S dX8_caught_29 (v := 0) rfl ?_
      refine g_calli (g_runV S hC (As := [.int a, .int (0 : Int32)]) (rest := [.ref (E.2.2 57)]) (k := 57) (by decide) rfl (by decide) rfl (kX8_sm l E σ a a.toNatClampNeg hbe (by omega) (0 : Int32) 0 rfl (by decide)) (cwV 2 S.2.2.2.2 gX8_caught_X8_sm rfl rfl rfl (by decide +kernel) ⟨Nat.le_of_ble_eq_true rfl, Nat.le_of_ble_eq_true rfl⟩) rfl rfl (Nat.le_of_ble_eq_true rfl) dX8_caught_30 ⟨Nat.le_of_ble_eq_true rfl, Nat.le_of_ble_eq_true rfl⟩) ?_
      refine g_if_eq S 40 dX8_caught_33 (by decide) (fun c_3 => ?_) (fun c_3 => ?_)
      · skip
        refine g_const S dX8_caught_40 (v := 0) rfl ?_
        refine gp7 S hC hiX8 (by decide) rfl 0 (by decide) (by decide +kernel) dX8_caught_41 ?_
        refine g_nm (fun S1 hS1 => ?_)
        have kqS1 := kq_p0 hS1 (kq_0)
        have okS1 := mOK.p0 hS1 (hok)
        refine g_aload_n S 0 dX8_caught_44 rfl ?_
        refine gg7 S hC hiX8 (by decide) rfl 0 (by decide) (by decide +kernel) dX8_caught_45 ?_
        refine g_if_eq S 53 dX8_caught_48 (by decide) (fun c_4 => ?_) (fun c_4 => absurd (by rw [hS1, gu_at, if_pos rfl]) c_4)
        refine g_aload_n S 0 dX8_caught_53 rfl ?_
        refine gg7r S hC hiX8 (by decide) rfl 7 (by decide) (by decide +kernel) dX8_caught_54 ?_
        refine g_const S dX8_caught_57 (v := 2) rfl ?_
        refine g_iload_n S 1 dX8_caught_58 rfl ?_
        refine g_imul S dX8_caught_59 ?_
        refine g_iald S hC (by decide) rfl (2 * a.toNatClampNeg) (gI_mul rfl hbe) (show 2 * a.toNatClampNeg < 8 by omega) (by decide) dX8_caught_60 ?_
        refine g_istore_n S [(3, .int (S1.1 60 (2 * a.toNatClampNeg))), (0, .ref (E.2.2 57)), (1, .int a), (2, .int b)] dX8_caught_61 (by decide) rfl ?_
        refine g_aload_n S 1 dX8_caught_62 rfl ?_
        refine g_aload_n S 1 dX8_caught_63 rfl ?_
        refine gg7r S hC hiX8 (by decide) rfl 9 (by decide) (by decide +kernel) dX8_caught_64 ?_
        refine g_const S dX8_caught_67 (v := 0) rfl ?_
        refine g_iald S hC (by decide) rfl 0 rfl (by decide) (by decide) dX8_caught_68 ?_
        refine g_iload_n S 3 dX8_caught_69 rfl ?_
        refine g_iadd S dX8_caught_70 ?_
        refine g_iload_n S 0 dX8_caught_71 rfl ?_
        refine g_iadd S dX8_caught_72 ?_
        refine g_iload_n S 0 dX8_caught_73 rfl ?_
        refine g_const S dX8_caught_74 (v := 2) rfl ?_
        refine g_idiv S dX8_caught_75 (by decide) ?_
        refine g_isub S dX8_caught_76 ?_
        refine g_const S dX8_caught_77 (v := 1) rfl ?_
        refine g_isub S dX8_caught_78 ?_
        refine g_calli (g_runV S hC (As := [.int (((((S1.1 62 0) + b) + (S1.1 60 (2 * a.toNatClampNeg))) - ((S1.1 60 (2 * a.toNatClampNeg)) / (2 : Int32))) - (1 : Int32))]) (rest := []) (k := 57) (by decide) rfl (by decide) rfl (kX8_isPatrol l E S1 (((((S1.1 62 0) + b) + (S1.1 60 (2 * a.toNatClampNeg))) - ((S1.1 60 (2 * a.toNatClampNeg)) / (2 : Int32))) - (1 : Int32))) (cwV 1 S.2.2.2.2 gX8_caught_X8_isPatrol rfl rfl rfl (by decide +kernel) ⟨Nat.le_of_ble_eq_true rfl, Nat.le_of_ble_eq_true rfl⟩) rfl rfl (Nat.le_of_ble_eq_true rfl) dX8_caught_79 ⟨Nat.le_of_ble_eq_true rfl, Nat.le_of_ble_eq_true rfl⟩) ?_
        exact g_zret S hr hlocks dX8_caught_82 (g_nb (bX8_isPatrol _ _)) (by subst hS1; unfold sX8_caught_r; (try dsimp only); rw [if_neg c_1, if_neg c_2, if_pos c_3]) (by subst hS1; unfold sX8_caught_s; (try dsimp only); rw [if_neg c_1, if_neg c_2, if_pos c_3]) (Nat.le_of_ble_eq_true rfl) (Nat.le_of_ble_eq_true rfl)
      · skip
        refine g_const S dX8_caught_36 (v := 3) rfl ?_
        refine g_goto S 41 dX8_caught_37 (by decide) ?_
        refine gp7 S hC hiX8 (by decide) rfl 0 (by decide) (by decide +kernel) dX8_caught_41 ?_
        refine g_nm (fun S2 hS2 => ?_)
        have kqS2 := kq_p0 hS2 (kq_0)
        have okS2 := mOK.p0 hS2 (hok)
        refine g_aload_n S 0 dX8_caught_44 rfl ?_
        refine gg7 S hC hiX8 (by decide) rfl 0 (by decide) (by decide +kernel) dX8_caught_45 ?_
        refine g_if_eq S 53 dX8_caught_48 (by decide) (fun c_5 => absurd c_5 (by rw [hS2, gu_at, if_pos rfl]; decide)) (fun c_5 => ?_)
        refine g_const S dX8_caught_51 (v := 0) rfl ?_
        exact g_zret S hr hlocks dX8_caught_52 rfl (by subst hS2; unfold sX8_caught_r; (try dsimp only); rw [if_neg c_1, if_neg c_2, if_neg c_3]) (by subst hS2; unfold sX8_caught_s; (try dsimp only); rw [if_neg c_1, if_neg c_2, if_neg c_3]) (Nat.le_of_ble_eq_true rfl) (Nat.le_of_ble_eq_true rfl)
    · skip
      refine g_const S dX8_caught_23 (v := 2) rfl ?_
      refine g_goto S 41 dX8_caught_24 (by decide) ?_
      refine gp7 S hC hiX8 (by decide) rfl 0 (by decide) (by decide +kernel) dX8_caught_41 ?_
      refine g_nm (fun S3 hS3 => ?_)
      have kqS3 := kq_p0 hS3 (kq_0)
      have okS3 := mOK.p0 hS3 (hok)
      refine g_aload_n S 0 dX8_caught_44 rfl ?_
      refine gg7 S hC hiX8 (by decide) rfl 0 (by decide) (by decide +kernel) dX8_caught_45 ?_
      refine g_if_eq S 53 dX8_caught_48 (by decide) (fun c_6 => absurd c_6 (by rw [hS3, gu_at, if_pos rfl]; decide)) (fun c_6 => ?_)
      refine g_const S dX8_caught_51 (v := 0) rfl ?_
      exact g_zret S hr hlocks dX8_caught_52 rfl (by subst hS3; unfold sX8_caught_r; (try dsimp only); rw [if_neg c_1, if_pos c_2]) (by subst hS3; unfold sX8_caught_s; (try dsimp only); rw [if_neg c_1, if_pos c_2]) (Nat.le_of_ble_eq_true rfl) (Nat.le_of_ble_eq_true rfl)
  · skip
    refine g_const S dX8_caught_9 (v := 1) rfl ?_
    refine g_goto S 41 dX8_caught_10 (by decide) ?_
    refine gp7 S hC hiX8 (by decide) rfl 0 (by decide) (by decide +kernel) dX8_caught_41 ?_
    refine g_nm (fun S4 hS4 => ?_)
    have kqS4 := kq_p0 hS4 (kq_0)
    have okS4 := mOK.p0 hS4 (hok)
    refine g_aload_n S 0 dX8_caught_44 rfl ?_
    refine gg7 S hC hiX8 (by decide) rfl 0 (by decide) (by decide +kernel) dX8_caught_45 ?_
    refine g_if_eq S 53 dX8_caught_48 (by decide) (fun c_7 => absurd c_7 (by rw [hS4, gu_at, if_pos rfl]; decide)) (fun c_7 => ?_)
    refine g_const S dX8_caught_51 (v := 0) rfl ?_
    exact g_zret S hr hlocks dX8_caught_52 rfl (by subst hS4; unfold sX8_caught_r; (try dsimp only); rw [if_pos c_1]) (by subst hS4; unfold sX8_caught_s; (try dsimp only); rw [if_pos c_1]) (Nat.le_of_ble_eq_true rfl) (Nat.le_of_ble_eq_true rfl)
def stX8_advise_32 (a : Int32) (j : Nat) (τ : gS × Int32 × Int32) : gS × Int32 × Int32 := let S4201 := gu τ.1 62 7 (nI j); let S4202 := sX8_behind_s S4201 a.toNatClampNeg 5; if τ.2.2 < sX8_behind_r S4201 a.toNatClampNeg 5 then ((S4202, nI j, sX8_behind_r S4201 a.toNatClampNeg 5)) else ((S4202, τ.2.1, τ.2.2))
def aOK (σ : gS) : Prop := mOK σ ∧ lOK σ 63
theorem okstX8_advise_32 {a : Int32} {j : Nat} {x : gS × Int32 × Int32} (h : aOK x.1) : aOK (stX8_advise_32 a j x).1 := by
  have h1 : mOK (gu x.1 62 7 (nI j)) := mOK.now rfl (fun d2 _ => by omega) h.1
  have h2 : lOK (gu x.1 62 7 (nI j)) 63 := fun d hd => by rw [gu_ne (by decide)]; exact h.2 d hd
  have h3 : ∀ n, aOK (sX8_behind_s (gu x.1 62 7 (nI j)) n 5) := fun n => ⟨okX8_behind h1 h2, fun d hd => by rw [fX8_behind _ _ _ _ (by decide)]; exact h2 d hd⟩
  unfold stX8_advise_32
  (try dsimp only)
  split <;> exact h3 _
def sX8_advise_r (σ : gS) (a : Int32) : Int32 := let S1 := gu σ 57 0 (0 : Int32); if sX8_isIn_r S1 a (1 : Int32) (28 : Int32) = 0 then (sX8_fail_r S1 (1 : Int32)) else (let S2 := sX8_keep_s S1; (itr (stX8_advise_32 a) 11 (S2, (-1 : Int32), (-1 : Int32))).2.1)
def sX8_advise_s (σ : gS) (a : Int32) : gS := let S1 := gu σ 57 0 (0 : Int32); if sX8_isIn_r S1 a (1 : Int32) (28 : Int32) = 0 then (let S5 := sX8_fail_s S1 (1 : Int32); S5) else (let S2 := sX8_keep_s S1; (itr (stX8_advise_32 a) 11 (S2, (-1 : Int32), (-1 : Int32))).1)
set_option maxRecDepth 100000 in
set_option maxHeartbeats 4000000 in
theorem kX8_advise (l : Launch) (E : gT) (σ : gS) (a : Int32) (hok : mOK σ) : gMi l yX8_advise wsX8_advise ({ frames := 5, cells := 0, slots := 0, locals := 113 }) 0 0 E σ [.ref (E.2.2 57), .int a] (sX8_advise_r σ a) (sX8_advise_s σ a) := by
  refine g_met (mc := 0) (ms := 0) (nL := 6) (ret := (some .int)) (by decide) rfl (lv := [(0, .ref (E.2.2 57)), (1, .int a)]) rfl (Nat.le_of_ble_eq_true rfl) ?_
  intro p e s m below meth c S hr hlocks hC
  have hiX8 : ∀ w ∈ wsX80, w ∈ wsX8_advise := by decide +kernel
  refine g_aload_n S 0 dX8_advise_0 rfl ?_
  refine g_const S dX8_advise_1 (v := 0) rfl ?_
  refine gp7 S hC hiX8 (by decide) rfl 0 (by decide) (by decide +kernel) dX8_advise_2 ?_
  refine g_nm (fun S1 hS1 => ?_)
  have kqS1 := kq_p0 hS1 (kq_0)
  have okS1 := mOK.p0 hS1 (hok)
  refine g_iload_n S 1 dX8_advise_5 rfl ?_
  refine g_const S dX8_advise_6 (v := 1) rfl ?_
  refine g_bipush S dX8_advise_7 (v := 28) rfl ?_
  refine g_calli (g_runS S hC (As := [.int a, .int (1 : Int32), .int (28 : Int32)]) (rest := []) (kX8_isIn l E S1 a (1 : Int32) (28 : Int32)) (va_cwS 3 S.2.2.2.2 gX8_advise_X8_isIn rfl rfl rfl (by decide +kernel) ⟨Nat.le_of_ble_eq_true rfl, Nat.le_of_ble_eq_true rfl⟩) rfl rfl (Nat.le_of_ble_eq_true rfl) dX8_advise_9 ⟨Nat.le_of_ble_eq_true rfl, Nat.le_of_ble_eq_true rfl⟩) ?_
  refine g_if_ne S 21 dX8_advise_12 (by decide) (fun c_1 => ?_) (fun c_1 => ?_)
  · skip
    obtain ⟨⟨hbb1, hbb0⟩, hbe⟩ := mi_nm (lo := 1) (hi := 28) (by decide) (by decide) (x := a) (by assumption)
    refine g_aload_n S 0 dX8_advise_21 rfl ?_
    refine g_callv (g_runV S hC (As := []) (rest := []) (k := 57) (by decide) rfl (by decide) rfl (kX8_keep l E S1) (cwV 0 S.2.2.2.2 gX8_advise_X8_keep rfl rfl rfl (by decide +kernel) ⟨Nat.le_of_ble_eq_true rfl, Nat.le_of_ble_eq_true rfl⟩) rfl rfl (Nat.le_of_ble_eq_true rfl) dX8_advise_22 ⟨Nat.le_of_ble_eq_true rfl, Nat.le_of_ble_eq_true rfl⟩) ?_
    refine g_nm (fun S2 hS2 => ?_)
    have kqS2 := kq_c hS2 (fun i hi => congrFun (fX8_keep _ 57 (by decide) ) i) (kqS1)
    have okS2 : mOK S2 := by rw [hS2]; exact okX8_keep  (okS1)
    refine g_const S dX8_advise_25 (v := (-1)) rfl ?_
    refine g_istore_n S [(2, .int (-1 : Int32)), (0, .ref (E.2.2 57)), (1, .int a)] dX8_advise_26 (by decide) rfl ?_
    refine g_const S dX8_advise_27 (v := (-1)) rfl ?_
    refine g_istore_n S [(3, .int (-1 : Int32)), (2, .int (-1 : Int32)), (0, .ref (E.2.2 57)), (1, .int a)] dX8_advise_28 (by decide) rfl ?_
    refine g_const S dX8_advise_29 (v := 0) rfl ?_
    refine g_istore S [(4, .int (0 : Int32)), (3, .int (-1 : Int32)), (2, .int (-1 : Int32)), (0, .ref (E.2.2 57)), (1, .int a)] dX8_advise_30 (by decide) rfl ?_
    refine g_lvs [0, 1, 2, 3, 4] (lv' := [(4, .int (0 : Int32)), (3, .int (-1 : Int32)), (2, .int (-1 : Int32)), (0, .ref (E.2.2 57)), (1, .int a)]) rfl ?_
    have haK : aOK S2 := ⟨okS2, fun d hd => by rw [hS2]; unfold sX8_keep_s; simp only [gcp]; rw [if_pos ⟨trivial, by omega⟩]; exact (okS1).2 d hd⟩
    have haF : ∀ i, aOK ((itr (stX8_advise_32 a) i (S2, (-1 : Int32), (-1 : Int32)))).1 := fun i => itr_inv _ (fun y : gS × Int32 × Int32 => aOK y.1) (fun j x h => okstX8_advise_32 h) i _ haK
    refine g_loop 11 (fun i32 : Nat => (itr (stX8_advise_32 a) i32 (S2, (-1 : Int32), (-1 : Int32))).1) (fun i32 : Nat => [(4, .int (nI i32)), (3, .int ((itr (stX8_advise_32 a) i32 (S2, (-1 : Int32), (-1 : Int32))).2.2)), (2, .int ((itr (stX8_advise_32 a) i32 (S2, (-1 : Int32), (-1 : Int32))).2.1)), (0, .ref (E.2.2 57)), (1, .int a)]) [] rfl rfl ?_ ?_
    · intro i32 hi32 ih_i32
      (try dsimp only at ih_i32 ⊢)
      refine g_iload S 0 dX8_advise_32 rfl ?_
      refine g_bipush S dX8_advise_34 (v := 10) rfl ?_
      refine g_icmp_gt S 77 dX8_advise_36 (by decide) (fun c_2 => absurd c_2 (nI_nlt (a := 10) (b := i32) (by omega) (by omega))) (fun c_2 => ?_)
      refine g_aload_n S 3 dX8_advise_39 rfl ?_
      refine gg7r S hC hiX8 (by decide) rfl 9 (by decide) (by decide +kernel) dX8_advise_40 ?_
      refine g_bipush S dX8_advise_43 (v := 7) rfl ?_
      refine g_iload S 0 dX8_advise_45 rfl ?_
      refine g_iast S hC (by decide) rfl 7 rfl (by decide) (by decide) dX8_advise_47 ?_
      refine g_nm (fun S3 hS3 => ?_)
      have okS3 := mOK.now hS3 (fun d _ => by omega) ((haF i32).1)
      refine g_aload_n S 3 dX8_advise_48 rfl ?_
      refine g_iload_n S 4 dX8_advise_49 rfl ?_
      refine g_const S dX8_advise_50 (v := 5) rfl ?_
      refine g_calli (g_runV S hC (As := [.int a, .int (5 : Int32)]) (rest := []) (k := 57) (by decide) rfl (by decide) rfl (kX8_behind l E S3 a a.toNatClampNeg hbe (by omega) (5 : Int32) 5 rfl (by decide) okS3) (cwV 2 S.2.2.2.2 gX8_advise_X8_behind rfl rfl rfl (by decide +kernel) ⟨Nat.le_of_ble_eq_true rfl, Nat.le_of_ble_eq_true rfl⟩) rfl rfl (Nat.le_of_ble_eq_true rfl) dX8_advise_51 ⟨Nat.le_of_ble_eq_true rfl, Nat.le_of_ble_eq_true rfl⟩) ?_
      refine g_nm (fun S4 hS4 => ?_)
      refine g_istore S [(5, .int (sX8_behind_r S3 a.toNatClampNeg 5)), (4, .int (nI i32)), (3, .int ((itr (stX8_advise_32 a) i32 (S2, (-1 : Int32), (-1 : Int32))).2.2)), (2, .int ((itr (stX8_advise_32 a) i32 (S2, (-1 : Int32), (-1 : Int32))).2.1)), (0, .ref (E.2.2 57)), (1, .int a)] dX8_advise_54 (by decide) rfl ?_
      refine g_iload S 0 dX8_advise_56 rfl ?_
      refine g_iload_n S 2 dX8_advise_58 rfl ?_
      refine g_icmp_gt S 65 dX8_advise_59 (by decide) (fun c_3 => ?_) (fun c_3 => ?_)
      · skip
        refine g_iload S 1 dX8_advise_65 rfl ?_
        refine g_istore_n S [(2, .int (nI i32)), (5, .int (sX8_behind_r S3 a.toNatClampNeg 5)), (4, .int (nI i32)), (3, .int ((itr (stX8_advise_32 a) i32 (S2, (-1 : Int32), (-1 : Int32))).2.2)), (0, .ref (E.2.2 57)), (1, .int a)] dX8_advise_67 (by decide) rfl ?_
        refine g_iload S 1 dX8_advise_68 rfl ?_
        refine g_istore_n S [(3, .int (sX8_behind_r S3 a.toNatClampNeg 5)), (2, .int (nI i32)), (5, .int (sX8_behind_r S3 a.toNatClampNeg 5)), (4, .int (nI i32)), (0, .ref (E.2.2 57)), (1, .int a)] dX8_advise_70 (by decide) rfl ?_
        refine g_iinc S [(4, .int (nI (i32 + 1))), (3, .int (sX8_behind_r S3 a.toNatClampNeg 5)), (2, .int (nI i32)), (5, .int (sX8_behind_r S3 a.toNatClampNeg 5)), (0, .ref (E.2.2 57)), (1, .int a)] 3 (nI (i32 + 1)) dX8_advise_71 rfl (by exact nI_1 i32) (by decide) rfl ?_
        refine g_goto S 32 dX8_advise_74 (by decide) ?_
        refine g_lvs [0, 1, 2, 4, 5] (lv' := [(4, .int (nI (i32 + 1))), (3, .int (sX8_behind_r S3 a.toNatClampNeg 5)), (2, .int (nI i32)), (0, .ref (E.2.2 57)), (1, .int a)]) rfl ?_
        exact g_to ih_i32 (by subst hS4 hS3; simp only [itr]; rw [stX8_advise_32]; (try dsimp only); rw [if_pos c_3]) (by subst hS4 hS3; simp only [itr]; rw [stX8_advise_32]; (try dsimp only); rw [if_pos c_3]) rfl
      · skip
        refine g_goto S 71 dX8_advise_62 (by decide) ?_
        refine g_iinc S [(4, .int (nI (i32 + 1))), (5, .int (sX8_behind_r S3 a.toNatClampNeg 5)), (3, .int ((itr (stX8_advise_32 a) i32 (S2, (-1 : Int32), (-1 : Int32))).2.2)), (2, .int ((itr (stX8_advise_32 a) i32 (S2, (-1 : Int32), (-1 : Int32))).2.1)), (0, .ref (E.2.2 57)), (1, .int a)] 1 (nI (i32 + 1)) dX8_advise_71 rfl (by exact nI_1 i32) (by decide) rfl ?_
        refine g_goto S 32 dX8_advise_74 (by decide) ?_
        refine g_lvs [0, 2, 3, 4, 5] (lv' := [(4, .int (nI (i32 + 1))), (3, .int ((itr (stX8_advise_32 a) i32 (S2, (-1 : Int32), (-1 : Int32))).2.2)), (2, .int ((itr (stX8_advise_32 a) i32 (S2, (-1 : Int32), (-1 : Int32))).2.1)), (0, .ref (E.2.2 57)), (1, .int a)]) rfl ?_
        exact g_to ih_i32 (by subst hS4 hS3; simp only [itr]; rw [stX8_advise_32]; (try dsimp only); rw [if_neg c_3]) (by subst hS4 hS3; simp only [itr]; rw [stX8_advise_32]; (try dsimp only); rw [if_neg c_3]) rfl
    · skip
      (try dsimp only)
      refine g_iload S 0 dX8_advise_32 rfl ?_
      refine g_bipush S dX8_advise_34 (v := 10) rfl ?_
      refine g_icmp_gt S 77 dX8_advise_36 (by decide) (fun c_4 => ?_) (fun c_4 => absurd (nI_lt (a := 10) (b := 11) (by omega) (by omega)) c_4)
      refine g_iload_n S 2 dX8_advise_77 rfl ?_
      exact g_iret S hr hlocks dX8_advise_78 (by subst hS2 hS1; unfold sX8_advise_r; (try dsimp only); rw [if_neg c_1]) (by subst hS2 hS1; unfold sX8_advise_s; (try dsimp only); rw [if_neg c_1]) (Nat.le_of_ble_eq_true rfl) (Nat.le_of_ble_eq_true rfl)
  · skip
    refine g_aload_n S 0 dX8_advise_15 rfl ?_
    refine g_const S dX8_advise_16 (v := 1) rfl ?_
    refine g_calli (g_runV S hC (As := [.int (1 : Int32)]) (rest := []) (k := 57) (by decide) rfl (by decide) rfl (kX8_fail l E S1 (1 : Int32)) (cwV 1 S.2.2.2.2 gX8_advise_X8_fail rfl rfl rfl (by decide +kernel) ⟨Nat.le_of_ble_eq_true rfl, Nat.le_of_ble_eq_true rfl⟩) rfl rfl (Nat.le_of_ble_eq_true rfl) dX8_advise_17 ⟨Nat.le_of_ble_eq_true rfl, Nat.le_of_ble_eq_true rfl⟩) ?_
    refine g_nm (fun S5 hS5 => ?_)
    exact g_iret S hr hlocks dX8_advise_20 (by subst hS5 hS1; unfold sX8_advise_r; (try dsimp only); rw [if_pos c_1]) (by subst hS5 hS1; unfold sX8_advise_s; (try dsimp only); rw [if_pos c_1]) (Nat.le_of_ble_eq_true rfl) (Nat.le_of_ble_eq_true rfl)
