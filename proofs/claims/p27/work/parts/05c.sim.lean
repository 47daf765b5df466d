def sX8_burnt_r (σ : gS) (a : Int32) : Int32 := if a = 0 then ((24 : Int32)) else ((15 : Int32))
set_option maxRecDepth 100000 in
set_option maxHeartbeats 4000000 in
theorem kX8_burnt (l : Launch) (E : gT) (σ : gS) (a : Int32) : gMi l yX8_burnt wsX8_burnt ({ frames := 0, cells := 0, slots := 0, locals := 0 }) 0 0 E σ [.int a] (sX8_burnt_r σ a) σ := by
  refine g_met (mc := 0) (ms := 0) (nL := 1) (ret := (some .int)) (by decide) rfl (lv := [(0, .int a)]) rfl (Nat.le_of_ble_eq_true rfl) ?_
  intro p e s m below meth c S hr hlocks hC
  refine g_iload_n S 0 dX8_burnt_0 rfl ?_
  refine g_if_ne S 9 dX8_burnt_1 (by decide) (fun c_1 => ?_) (fun c_1 => ?_)
  · skip
    refine g_bipush S dX8_burnt_9 (v := 15) rfl ?_
    exact g_iret S hr hlocks dX8_burnt_11 (by rw [sX8_burnt_r, if_neg c_1]) rfl (Nat.le_of_ble_eq_true rfl) (Nat.le_of_ble_eq_true rfl)
  · skip
    refine g_bipush S dX8_burnt_4 (v := 24) rfl ?_
    refine g_goto S 11 dX8_burnt_6 (by decide) ?_
    exact g_iret S hr hlocks dX8_burnt_11 (by rw [sX8_burnt_r, if_pos c_1]) rfl (Nat.le_of_ble_eq_true rfl) (Nat.le_of_ble_eq_true rfl)
def sX8_yields_r (σ : gS) (j : Nat) : Int32 := if 0 ≤ σ.1 (40 + j) 2 then (if σ.1 (40 + j) 2 = 0 then (if (sX8_burnt_r σ (σ.1 (40 + j) 2)) - (σ.1 (40 + j) 4) ≤ 0 then ((0 : Int32)) else (if (12 : Int32) ≤ σ.1 (40 + j) 4 then ((((σ.1 (40 + j) 3) * (6 : Int32)) * ((sX8_burnt_r σ (σ.1 (40 + j) 2)) - (σ.1 (40 + j) 4))) / (12 : Int32)) else ((0 : Int32)))) else (if (sX8_burnt_r σ (σ.1 (40 + j) 2)) - (σ.1 (40 + j) 4) ≤ 0 then ((0 : Int32)) else (if (8 : Int32) ≤ σ.1 (40 + j) 4 then ((((σ.1 (40 + j) 3) * (8 : Int32)) * ((sX8_burnt_r σ (σ.1 (40 + j) 2)) - (σ.1 (40 + j) 4))) / (7 : Int32)) else ((0 : Int32))))) else ((0 : Int32))
set_option maxRecDepth 100000 in
set_option maxHeartbeats 4000000 in
theorem kX8_yields (l : Launch) (E : gT) (σ : gS) (j : Nat) (hj : j < gNo E 1) : gMi l yX8_yields wsX8_yields ({ frames := 1, cells := 0, slots := 0, locals := 20 }) 0 0 E σ [.ref (E.2.2 (40 + j))] (sX8_yields_r σ j) σ := by
  refine g_met (mc := 0) (ms := 0) (nL := 3) (ret := (some .int)) (by decide) rfl (lv := [(0, .ref (E.2.2 (40 + j)))]) rfl (Nat.le_of_ble_eq_true rfl) ?_
  intro p e s m below meth c S hr hlocks hC
  refine g_aload_n S 0 dX8_yields_0 rfl ?_
  refine g_const S dX8_yields_1 (v := 2) rfl ?_
  refine g_ialdR S hC 1 j (by omega) (by decide) (by first | assumption | omega) 2 rfl (by decide) dX8_yields_2 ?_
  refine g_if_ge S 8 dX8_yields_3 (by decide) (fun c_1 => ?_) (fun c_1 => ?_)
  · skip
    refine g_aload_n S 0 dX8_yields_8 rfl ?_
    refine g_const S dX8_yields_9 (v := 2) rfl ?_
    refine g_ialdR S hC 1 j (by omega) (by decide) (by first | assumption | omega) 2 rfl (by decide) dX8_yields_10 ?_
    refine g_if_ne S 18 dX8_yields_11 (by decide) (fun c_2 => ?_) (fun c_2 => ?_)
    · skip
      refine g_const S dX8_yields_18 (v := 0) rfl ?_
      refine g_istore_n S [(1, .int (0 : Int32)), (0, .ref (E.2.2 (40 + j)))] dX8_yields_19 (by decide) rfl ?_
      refine g_aload_n S 1 dX8_yields_20 rfl ?_
      refine g_const S dX8_yields_21 (v := 2) rfl ?_
      refine g_ialdR S hC 1 j (by omega) (by decide) (by first | assumption | omega) 2 rfl (by decide) dX8_yields_22 ?_
      refine g_calli (g_runS S hC (As := [.int (σ.1 (40 + j) 2)]) (rest := []) (kX8_burnt l E σ (σ.1 (40 + j) 2)) (va_cwS 1 S.2.2.2.2 gX8_yields_X8_burnt rfl rfl rfl (by decide +kernel) ⟨Nat.le_of_ble_eq_true rfl, Nat.le_of_ble_eq_true rfl⟩) rfl rfl (Nat.le_of_ble_eq_true rfl) dX8_yields_23 ⟨Nat.le_of_ble_eq_true rfl, Nat.le_of_ble_eq_true rfl⟩) ?_
      refine g_aload_n S 1 dX8_yields_26 rfl ?_
      refine g_const S dX8_yields_27 (v := 4) rfl ?_
      refine g_ialdR S hC 1 j (by omega) (by decide) (by first | assumption | omega) 4 rfl (by decide) dX8_yields_28 ?_
      refine g_isub S dX8_yields_29 ?_
      refine g_istore_n S [(2, .int ((sX8_burnt_r σ (σ.1 (40 + j) 2)) - (σ.1 (40 + j) 4))), (1, .int (0 : Int32)), (0, .ref (E.2.2 (40 + j)))] dX8_yields_30 (by decide) rfl ?_
      refine g_iload_n S 0 dX8_yields_31 rfl ?_
      refine g_if_le S 52 dX8_yields_32 (by decide) (fun c_3 => ?_) (fun c_3 => ?_)
      · skip
        refine g_const S dX8_yields_52 (v := 0) rfl ?_
        exact g_iret S hr hlocks dX8_yields_53 (by rw [sX8_yields_r, if_pos c_1, if_neg c_2, if_pos c_3]) rfl (Nat.le_of_ble_eq_true rfl) (Nat.le_of_ble_eq_true rfl)
      · skip
        refine g_aload_n S 2 dX8_yields_35 rfl ?_
        refine g_const S dX8_yields_36 (v := 4) rfl ?_
        refine g_ialdR S hC 1 j (by omega) (by decide) (by first | assumption | omega) 4 rfl (by decide) dX8_yields_37 ?_
        refine g_iload_n S 1 dX8_yields_38 rfl ?_
        refine g_if_eq S 47 dX8_yields_39 (by decide) (fun c_4 => ?_) (fun c_4 => absurd (by decide) c_4)
        refine g_bipush S dX8_yields_47 (v := 8) rfl ?_
        refine g_icmp_ge S 54 dX8_yields_49 (by decide) (fun c_5 => ?_) (fun c_5 => ?_)
        · skip
          refine g_iload_n S 1 dX8_yields_54 rfl ?_
          refine g_if_eq S 72 dX8_yields_55 (by decide) (fun c_6 => ?_) (fun c_6 => absurd (by decide) c_6)
          refine g_aload_n S 2 dX8_yields_72 rfl ?_
          refine g_const S dX8_yields_73 (v := 3) rfl ?_
          refine g_ialdR S hC 1 j (by omega) (by decide) (by first | assumption | omega) 3 rfl (by decide) dX8_yields_74 ?_
          refine g_bipush S dX8_yields_75 (v := 8) rfl ?_
          refine g_imul S dX8_yields_77 ?_
          refine g_iload_n S 0 dX8_yields_78 rfl ?_
          refine g_imul S dX8_yields_79 ?_
          refine g_bipush S dX8_yields_80 (v := 7) rfl ?_
          refine g_idiv S dX8_yields_82 (by decide) ?_
          exact g_iret S hr hlocks dX8_yields_83 (by rw [sX8_yields_r, if_pos c_1, if_neg c_2, if_neg c_3, if_pos c_5]) rfl (Nat.le_of_ble_eq_true rfl) (Nat.le_of_ble_eq_true rfl)
        · skip
          refine g_const S dX8_yields_52 (v := 0) rfl ?_
          exact g_iret S hr hlocks dX8_yields_53 (by rw [sX8_yields_r, if_pos c_1, if_neg c_2, if_neg c_3, if_neg c_5]) rfl (Nat.le_of_ble_eq_true rfl) (Nat.le_of_ble_eq_true rfl)
    · skip
      refine g_const S dX8_yields_14 (v := 1) rfl ?_
      refine g_goto S 19 dX8_yields_15 (by decide) ?_
      refine g_istore_n S [(1, .int (1 : Int32)), (0, .ref (E.2.2 (40 + j)))] dX8_yields_19 (by decide) rfl ?_
      refine g_aload_n S 1 dX8_yields_20 rfl ?_
      refine g_const S dX8_yields_21 (v := 2) rfl ?_
      refine g_ialdR S hC 1 j (by omega) (by decide) (by first | assumption | omega) 2 rfl (by decide) dX8_yields_22 ?_
      refine g_calli (g_runS S hC (As := [.int (σ.1 (40 + j) 2)]) (rest := []) (kX8_burnt l E σ (σ.1 (40 + j) 2)) (va_cwS 1 S.2.2.2.2 gX8_yields_X8_burnt rfl rfl rfl (by decide +kernel) ⟨Nat.le_of_ble_eq_true rfl, Nat.le_of_ble_eq_true rfl⟩) rfl rfl (Nat.le_of_ble_eq_true rfl) dX8_yields_23 ⟨Nat.le_of_ble_eq_true rfl, Nat.le_of_ble_eq_true rfl⟩) ?_
      refine g_aload_n S 1 dX8_yields_26 rfl ?_
      refine g_const S dX8_yields_27 (v := 4) rfl ?_
      refine g_ialdR S hC 1 j (by omega) (by decide) (by first | assumption | omega) 4 rfl (by decide) dX8_yields_28 ?_
      refine g_isub S dX8_yields_29 ?_
      refine g_istore_n S [(2, .int ((sX8_burnt_r σ (σ.1 (40 + j) 2)) - (σ.1 (40 + j) 4))), (1, .int (1 : Int32)), (0, .ref (E.2.2 (40 + j)))] dX8_yields_30 (by decide) rfl ?_
      refine g_iload_n S 0 dX8_yields_31 rfl ?_
      refine g_if_le S 52 dX8_yields_32 (by decide) (fun c_7 => ?_) (fun c_7 => ?_)
      · skip
        refine g_const S dX8_yields_52 (v := 0) rfl ?_
        exact g_iret S hr hlocks dX8_yields_53 (by rw [sX8_yields_r, if_pos c_1, if_pos c_2, if_pos c_7]) rfl (Nat.le_of_ble_eq_true rfl) (Nat.le_of_ble_eq_true rfl)
      · skip
        refine g_aload_n S 2 dX8_yields_35 rfl ?_
        refine g_const S dX8_yields_36 (v := 4) rfl ?_
        refine g_ialdR S hC 1 j (by omega) (by decide) (by first | assumption | omega) 4 rfl (by decide) dX8_yields_37 ?_
        refine g_iload_n S 1 dX8_yields_38 rfl ?_
        refine g_if_eq S 47 dX8_yields_39 (by decide) (fun c_8 => absurd c_8 (by decide)) (fun c_8 => ?_)
        refine g_bipush S dX8_yields_42 (v := 12) rfl ?_
        refine g_goto S 49 dX8_yields_44 (by decide) ?_
        refine g_icmp_ge S 54 dX8_yields_49 (by decide) (fun c_9 => ?_) (fun c_9 => ?_)
        · skip
          refine g_iload_n S 1 dX8_yields_54 rfl ?_
          refine g_if_eq S 72 dX8_yields_55 (by decide) (fun c_10 => absurd c_10 (by decide)) (fun c_10 => ?_)
          refine g_aload_n S 2 dX8_yields_58 rfl ?_
          refine g_const S dX8_yields_59 (v := 3) rfl ?_
          refine g_ialdR S hC 1 j (by omega) (by decide) (by first | assumption | omega) 3 rfl (by decide) dX8_yields_60 ?_
          refine g_bipush S dX8_yields_61 (v := 6) rfl ?_
          refine g_imul S dX8_yields_63 ?_
          refine g_iload_n S 0 dX8_yields_64 rfl ?_
          refine g_imul S dX8_yields_65 ?_
          refine g_bipush S dX8_yields_66 (v := 12) rfl ?_
          refine g_idiv S dX8_yields_68 (by decide) ?_
          refine g_goto S 83 dX8_yields_69 (by decide) ?_
          exact g_iret S hr hlocks dX8_yields_83 (by rw [sX8_yields_r, if_pos c_1, if_pos c_2, if_neg c_7, if_pos c_9]) rfl (Nat.le_of_ble_eq_true rfl) (Nat.le_of_ble_eq_true rfl)
        · skip
          refine g_const S dX8_yields_52 (v := 0) rfl ?_
          exact g_iret S hr hlocks dX8_yields_53 (by rw [sX8_yields_r, if_pos c_1, if_pos c_2, if_neg c_7, if_neg c_9]) rfl (Nat.le_of_ble_eq_true rfl) (Nat.le_of_ble_eq_true rfl)
  · skip
    refine g_const S dX8_yields_6 (v := 0) rfl ?_
    exact g_iret S hr hlocks dX8_yields_7 (by rw [sX8_yields_r, if_neg c_1]) rfl (Nat.le_of_ble_eq_true rfl) (Nat.le_of_ble_eq_true rfl)
def sX8_isThere_r (σ : gS) (d : Int32) : Int32 := if ((σ.1 29 6) / ((1 : Int32) <<< ((d - d / (7 : Int32) * (7 : Int32)) &&& 31))) - ((σ.1 29 6) / ((1 : Int32) <<< ((d - d / (7 : Int32) * (7 : Int32)) &&& 31))) / (2 : Int32) * (2 : Int32) = (1 : Int32) then ((1 : Int32)) else ((0 : Int32))
theorem bX8_isThere (σ : gS) (d : Int32) : sX8_isThere_r σ d = 0 ∨ sX8_isThere_r σ d = 1 := by
  unfold sX8_isThere_r
  repeat' split
  all_goals first | exact Or.inl rfl | exact Or.inr rfl
set_option maxRecDepth 100000 in
set_option maxHeartbeats 4000000 in
theorem kX8_isThere (l : Launch) (E : gT) (σ : gS) (d : Int32) (hdd : ∃ n, d = nI n ∧ n < 5000) : gMi l yX8_isThere wsX8_isThere ({ frames := 0, cells := 0, slots := 0, locals := 0 }) 0 0 E σ [.ref (E.2.2 29), .int d] (sX8_isThere_r σ d) σ := by
  refine g_met (mc := 0) (ms := 0) (nL := 2) (ret := (some .boolean)) (by decide) rfl (lv := [(0, .ref (E.2.2 29)), (1, .int d)]) rfl (Nat.le_of_ble_eq_true rfl) ?_
  intro p e s m below meth c S hr hlocks hC
  have hiX8 : ∀ w ∈ wsX80, w ∈ wsX8_isThere := by decide +kernel
  refine g_aload_n S 0 dX8_isThere_0 rfl ?_
  refine gg7 S hC hiX8 6 (by decide) (by decide +kernel) dX8_isThere_1 ?_
  refine g_const S dX8_isThere_4 (v := 1) rfl ?_
  refine g_iload_n S 1 dX8_isThere_5 rfl ?_
  refine g_bipush S dX8_isThere_6 (v := 7) rfl ?_
  refine g_irem S dX8_isThere_8 (by decide) ?_
  refine g_ishl S dX8_isThere_9 ?_
  refine g_idiv S dX8_isThere_10 (day7_ne hdd) ?_
  refine g_const S dX8_isThere_11 (v := 2) rfl ?_
  refine g_irem S dX8_isThere_12 (by decide) ?_
  refine g_const S dX8_isThere_13 (v := 1) rfl ?_
  refine g_icmp_ne S 21 dX8_isThere_14 (by decide) (fun c_1 => ?_) (fun c_1 => ?_)
  · skip
    refine g_const S dX8_isThere_21 (v := 0) rfl ?_
    exact g_zret S hr hlocks dX8_isThere_22 rfl (by rw [sX8_isThere_r, if_neg c_1]) rfl (Nat.le_of_ble_eq_true rfl) (Nat.le_of_ble_eq_true rfl)
  · skip
    refine g_const S dX8_isThere_17 (v := 1) rfl ?_
    refine g_goto S 22 dX8_isThere_18 (by decide) ?_
    exact g_zret S hr hlocks dX8_isThere_22 rfl (by rw [sX8_isThere_r, if_pos c_1]) rfl (Nat.le_of_ble_eq_true rfl) (Nat.le_of_ble_eq_true rfl)
def stX8_pass_10  (j : Nat) (τ : gS) : gS := if τ.1 (44 + j) 2 = 0 then (τ) else (let S2001 := gu τ (44 + j) 3 ((τ.1 (44 + j) 3) - (1 : Int32)); if S2001.1 (44 + j) 2 = (1 : Int32) then (if S2001.1 (44 + j) 3 = (S2001.1 (44 + j) 0) / (2 : Int32) then (if sX8_isThere_r S2001 (S2001.1 29 0) = 0 then (if S2001.1 (44 + j) 3 = 0 then (let S2006 := gu S2001 30 1 ((S2001.1 30 1) + (if S2001.1 (44 + j) 2 = (1 : Int32) then (S2001.1 (44 + j) 1) else (0 : Int32))); let S2007 := gu S2006 (44 + j) 2 (0 : Int32); S2007) else (S2001)) else (let S2008 := gu S2001 (44 + j) 2 (2 : Int32); let S2009 := gu S2008 (44 + j) 3 (10 : Int32); let S2010 := gu S2009 (44 + j) 4 ((S2009.1 (44 + j) 4) + (1 : Int32)); S2010)) else (if S2001.1 (44 + j) 3 = 0 then (let S2004 := gu S2001 30 1 ((S2001.1 30 1) + (if S2001.1 (44 + j) 2 = (1 : Int32) then (S2001.1 (44 + j) 1) else (0 : Int32))); let S2005 := gu S2004 (44 + j) 2 (0 : Int32); S2005) else (S2001))) else (if S2001.1 (44 + j) 3 = 0 then (let S2002 := gu S2001 30 1 ((S2001.1 30 1) + (if S2001.1 (44 + j) 2 = (1 : Int32) then (S2001.1 (44 + j) 1) else (0 : Int32))); let S2003 := gu S2002 (44 + j) 2 (0 : Int32); S2003) else (S2001)))
theorem fstX8_pass_10 {j : Nat} {x : gS} : (stX8_pass_10 j x).1 29 = x.1 29 := by
  unfold stX8_pass_10
  (try dsimp only)
  (repeat' split)
  all_goals (first | rfl | (simp only [gu_ne (show (29 : Nat) ≠ 44 + j by omega), gu_ne (show (29 : Nat) ≠ 30 by omega)]))
def stX8_pass_145  (j : Nat) (τ : gS) : gS := if τ.1 (40 + j) 2 < 0 then (τ) else (let S15501 := gu τ (40 + j) 4 (if (τ.1 (40 + j) 4) + (τ.1 (40 + j) 1) ≤ sX8_burnt_r τ (τ.1 (40 + j) 2) then ((τ.1 (40 + j) 4) + (τ.1 (40 + j) 1)) else (sX8_burnt_r τ (τ.1 (40 + j) 2))); S15501)
theorem fstX8_pass_145 {j : Nat} {x : gS} : (stX8_pass_145 j x).1 29 = x.1 29 := by
  unfold stX8_pass_145
  (try dsimp only)
  (repeat' split)
  all_goals (first | rfl | (simp only [gu_ne (show (29 : Nat) ≠ 40 + j by omega)]))
def stX8_pass_220  (j : Nat) (τ : gS) : gS := let S23001 := gu τ (36 + j) 2 (if (τ.1 (36 + j) 2) + (τ.1 (36 + j) 0) ≤ τ.1 (36 + j) 1 then ((τ.1 (36 + j) 2) + (τ.1 (36 + j) 0)) else (τ.1 (36 + j) 1)); S23001
theorem fstX8_pass_220 {j : Nat} {x : gS} : (stX8_pass_220 j x).1 29 = x.1 29 := by
  unfold stX8_pass_220
  (try dsimp only)
  (repeat' split)
  all_goals (first | rfl | (simp only [gu_ne (show (29 : Nat) ≠ 36 + j by omega)]))
def stX8_pass_282  (j : Nat) (τ : gS) : gS := if (τ.1 29 0) - (τ.1 29 0) / (7 : Int32) * (7 : Int32) = 0 then (let S29215 := gu τ (48 + j) 2 (τ.1 (48 + j) 0); if S29215.1 (48 + j) 2 ≤ 0 then (S29215) else (if (10 : Int32) - (if S29215.1 29 5 ≤ S29215.1 31 1 then (S29215.1 29 5) else (S29215.1 31 1)) ≤ S29215.1 31 0 then (if S29215.1 (48 + j) 1 ≤ (if S29215.1 29 5 ≤ S29215.1 31 1 then (S29215.1 29 5) else (S29215.1 31 1)) then (let S29216 := gu S29215 31 1 ((S29215.1 31 1) - (if S29215.1 29 5 ≤ S29215.1 31 1 then (S29215.1 29 5) else (S29215.1 31 1))); let S29217 := gu S29216 31 0 ((S29216.1 31 0) - ((10 : Int32) - (if S29215.1 29 5 ≤ S29215.1 31 1 then (S29215.1 29 5) else (S29215.1 31 1)))); let S29218 := gu S29217 (48 + j) 2 ((S29217.1 (48 + j) 2) - (1 : Int32)); let S29219 := gu S29218 (48 + j) 3 ((S29218.1 (48 + j) 3) + (1 : Int32)); let S29220 := gu S29219 29 3 ((S29219.1 29 3) + (1 : Int32)); let S29221 := gu S29220 29 4 ((S29220.1 29 4) + (if S29220.1 29 5 ≤ (if S29215.1 29 5 ≤ S29215.1 31 1 then (S29215.1 29 5) else (S29215.1 31 1)) then (0 : Int32) else (1 : Int32))); if S29221.1 (48 + j) 2 ≤ 0 then (S29221) else (if (10 : Int32) - (if S29221.1 29 5 ≤ S29221.1 31 1 then (S29221.1 29 5) else (S29221.1 31 1)) ≤ S29221.1 31 0 then (if S29221.1 (48 + j) 1 ≤ (if S29221.1 29 5 ≤ S29221.1 31 1 then (S29221.1 29 5) else (S29221.1 31 1)) then (let S29222 := gu S29221 31 1 ((S29221.1 31 1) - (if S29221.1 29 5 ≤ S29221.1 31 1 then (S29221.1 29 5) else (S29221.1 31 1))); let S29223 := gu S29222 31 0 ((S29222.1 31 0) - ((10 : Int32) - (if S29221.1 29 5 ≤ S29221.1 31 1 then (S29221.1 29 5) else (S29221.1 31 1)))); let S29224 := gu S29223 (48 + j) 2 ((S29223.1 (48 + j) 2) - (1 : Int32)); let S29225 := gu S29224 (48 + j) 3 ((S29224.1 (48 + j) 3) + (1 : Int32)); let S29226 := gu S29225 29 3 ((S29225.1 29 3) + (1 : Int32)); let S29227 := gu S29226 29 4 ((S29226.1 29 4) + (if S29226.1 29 5 ≤ (if S29221.1 29 5 ≤ S29221.1 31 1 then (S29221.1 29 5) else (S29221.1 31 1)) then (0 : Int32) else (1 : Int32))); S29227) else (let S29228 := gu S29221 (48 + j) 4 ((S29221.1 (48 + j) 4) + (1 : Int32)); S29228)) else (S29221))) else (let S29229 := gu S29215 (48 + j) 4 ((S29215.1 (48 + j) 4) + (1 : Int32)); S29229)) else (S29215))) else (if τ.1 (48 + j) 2 ≤ 0 then (τ) else (if (10 : Int32) - (if τ.1 29 5 ≤ τ.1 31 1 then (τ.1 29 5) else (τ.1 31 1)) ≤ τ.1 31 0 then (if τ.1 (48 + j) 1 ≤ (if τ.1 29 5 ≤ τ.1 31 1 then (τ.1 29 5) else (τ.1 31 1)) then (let S29201 := gu τ 31 1 ((τ.1 31 1) - (if τ.1 29 5 ≤ τ.1 31 1 then (τ.1 29 5) else (τ.1 31 1))); let S29202 := gu S29201 31 0 ((S29201.1 31 0) - ((10 : Int32) - (if τ.1 29 5 ≤ τ.1 31 1 then (τ.1 29 5) else (τ.1 31 1)))); let S29203 := gu S29202 (48 + j) 2 ((S29202.1 (48 + j) 2) - (1 : Int32)); let S29204 := gu S29203 (48 + j) 3 ((S29203.1 (48 + j) 3) + (1 : Int32)); let S29205 := gu S29204 29 3 ((S29204.1 29 3) + (1 : Int32)); let S29206 := gu S29205 29 4 ((S29205.1 29 4) + (if S29205.1 29 5 ≤ (if τ.1 29 5 ≤ τ.1 31 1 then (τ.1 29 5) else (τ.1 31 1)) then (0 : Int32) else (1 : Int32))); if S29206.1 (48 + j) 2 ≤ 0 then (S29206) else (if (10 : Int32) - (if S29206.1 29 5 ≤ S29206.1 31 1 then (S29206.1 29 5) else (S29206.1 31 1)) ≤ S29206.1 31 0 then (if S29206.1 (48 + j) 1 ≤ (if S29206.1 29 5 ≤ S29206.1 31 1 then (S29206.1 29 5) else (S29206.1 31 1)) then (let S29207 := gu S29206 31 1 ((S29206.1 31 1) - (if S29206.1 29 5 ≤ S29206.1 31 1 then (S29206.1 29 5) else (S29206.1 31 1))); let S29208 := gu S29207 31 0 ((S29207.1 31 0) - ((10 : Int32) - (if S29206.1 29 5 ≤ S29206.1 31 1 then (S29206.1 29 5) else (S29206.1 31 1)))); let S29209 := gu S29208 (48 + j) 2 ((S29208.1 (48 + j) 2) - (1 : Int32)); let S29210 := gu S29209 (48 + j) 3 ((S29209.1 (48 + j) 3) + (1 : Int32)); let S29211 := gu S29210 29 3 ((S29210.1 29 3) + (1 : Int32)); let S29212 := gu S29211 29 4 ((S29211.1 29 4) + (if S29211.1 29 5 ≤ (if S29206.1 29 5 ≤ S29206.1 31 1 then (S29206.1 29 5) else (S29206.1 31 1)) then (0 : Int32) else (1 : Int32))); S29212) else (let S29213 := gu S29206 (48 + j) 4 ((S29206.1 (48 + j) 4) + (1 : Int32)); S29213)) else (S29206))) else (let S29214 := gu τ (48 + j) 4 ((τ.1 (48 + j) 4) + (1 : Int32)); S29214)) else (τ)))
def cof (ρ : gS) : Int32 := if ρ.1 29 5 ≤ ρ.1 31 1 then ρ.1 29 5 else ρ.1 31 1
def pts (X : gS) (k : Nat) (c : Int32) : gS :=
  let A := gu X 31 1 (X.1 31 1 - c)
  let B := gu A 31 0 (A.1 31 0 - (10 - c))
  let C := gu B k 2 (B.1 k 2 - 1)
  let D := gu C k 3 (C.1 k 3 + 1)
  let F := gu D 29 3 (D.1 29 3 + 1)
  gu F 29 4 (F.1 29 4 + (if F.1 29 5 ≤ c then 0 else 1))
def it2 (ρ : gS) (k : Nat) : gS := if ρ.1 k 2 ≤ 0 then ρ else if 10 - cof ρ ≤ ρ.1 31 0 then (if ρ.1 k 1 ≤ cof ρ then pts ρ k (cof ρ) else gu ρ k 4 (ρ.1 k 4 + 1)) else ρ
def it1 (ρ : gS) (k : Nat) : gS := if ρ.1 k 2 ≤ 0 then ρ else if 10 - cof ρ ≤ ρ.1 31 0 then (if ρ.1 k 1 ≤ cof ρ then it2 (pts ρ k (cof ρ)) k else gu ρ k 4 (ρ.1 k 4 + 1)) else ρ
theorem pass282 {ρ : gS} {j : Nat} : stX8_pass_282 j ρ = if ρ.1 29 0 - ρ.1 29 0 / 7 * 7 = 0 then it1 (gu ρ (48 + j) 2 (ρ.1 (48 + j) 0)) (48 + j) else it1 ρ (48 + j) := by
  unfold stX8_pass_282 it1 it2 pts cof
  rfl
theorem pts_day {X : gS} {k : Nat} {c : Int32} (h : 29 ≠ k) : (pts X k c).1 29 0 = X.1 29 0 := by
  unfold pts
  dsimp only
  rw [gu_at, if_neg (by decide), gu_at, if_neg (by decide), gu_ne h, gu_ne h, gu_ne (by decide), gu_ne (by decide)]
theorem it2_day {X : gS} {k : Nat} (h : 29 ≠ k) : (it2 X k).1 29 0 = X.1 29 0 := by
  unfold it2
  split
  · rfl
  · split
    · split
      · exact pts_day h
      · rw [gu_ne h]
    · rfl
theorem it1_day {X : gS} {k : Nat} (h : 29 ≠ k) : (it1 X k).1 29 0 = X.1 29 0 := by
  unfold it1
  split
  · rfl
  · split
    · split
      · exact (it2_day h).trans (pts_day h)
      · rw [gu_ne h]
    · rfl
theorem fstX8_pass_282 {j : Nat} {x : gS} : (stX8_pass_282 j x).1 29 0 = x.1 29 0 := by
  rw [pass282]
  split
  · rw [it1_day (by omega), gu_ne (by omega)]
  · exact it1_day (by omega)
def sX8_pass_s (σ : gS) (E : gT) : gS := let S11 := (itr (stX8_pass_10) (gNo E 2) σ); let S13 := (itr (stX8_pass_145) (gNo E 1) S11); let S15 := (itr (stX8_pass_220) (gNo E 0) S13); let S45 := (itr (stX8_pass_282) (gNo E 3) S15); let S46 := gu S45 29 0 ((S45.1 29 0) + (1 : Int32)); S46
set_option maxRecDepth 100000 in
set_option maxHeartbeats 4000000 in
theorem kX8_pass (l : Launch) (E : gT) (σ : gS) (hdy : dB σ 0) : gMv l yX8_pass wsX8_pass ({ frames := 1, cells := 0, slots := 0, locals := 21 }) 0 0 E σ [.ref (E.2.2 29)] (sX8_pass_s σ E) := by
  refine g_met (mc := 0) (ms := 0) (nL := 7) (ret := none) (by decide) rfl (lv := [(0, .ref (E.2.2 29))]) rfl (Nat.le_of_ble_eq_true rfl) ?_
  intro p e s m below meth c S hr hlocks hC
  have hiX8 : ∀ w ∈ wsX80, w ∈ wsX8_pass := by decide +kernel
  obtain ⟨dn, hdn, hdb⟩ := hdy
  refine g_aload_n S 0 dX8_pass_0 rfl ?_
  refine gg7r S hC hiX8 9 34 (by decide) (by decide +kernel) dX8_pass_1 ?_
  refine g_astore_n S [(1, .ref (E.2.2 34)), (0, .ref (E.2.2 29))] dX8_pass_4 (by decide) rfl ?_
  refine g_aload_n S 0 dX8_pass_5 rfl ?_
  refine g_alenR S hC 2 rfl (by decide) dX8_pass_6 ?_
  refine g_istore_n S [(2, .int (nI (gNo E 2))), (1, .ref (E.2.2 34)), (0, .ref (E.2.2 29))] dX8_pass_7 (by decide) rfl ?_
  refine g_const S dX8_pass_8 (v := 0) rfl ?_
  refine g_istore_n S [(3, .int (0 : Int32)), (2, .int (nI (gNo E 2))), (1, .ref (E.2.2 34)), (0, .ref (E.2.2 29))] dX8_pass_9 (by decide) rfl ?_
  refine g_lvs [0, 1, 2, 3] (lv' := [(3, .int (0 : Int32)), (2, .int (nI (gNo E 2))), (1, .ref (E.2.2 34)), (0, .ref (E.2.2 29))]) rfl ?_
  have hfr10 : ∀ i, (itr (stX8_pass_10) i σ).1 29 = σ.1 29 := fun i => itr_keep _ (fun x : gS => x.1 29) (fun j x => fstX8_pass_10) i σ
  refine g_loop (gNo E 2) (fun i10 : Nat => (itr (stX8_pass_10) i10 σ)) (fun i10 : Nat => [(3, .int (nI i10)), (2, .int (nI (gNo E 2))), (1, .ref (E.2.2 34)), (0, .ref (E.2.2 29))]) [] rfl rfl ?_ ?_
  · intro i10 hi10 ih_i10
    (try dsimp only at ih_i10 ⊢)
    refine g_iload_n S 0 dX8_pass_10 rfl ?_
    refine g_iload_n S 1 dX8_pass_11 rfl ?_
    refine g_icmp_ge S 135 dX8_pass_12 (by decide) (fun c_1 => absurd c_1 (nI_ge hi10 (gNo_lt hC (by decide)))) (fun c_1 => ?_)
    refine g_aload_n S 2 dX8_pass_15 rfl ?_
    refine g_iload_n S 0 dX8_pass_16 rfl ?_
    refine g_aaldR S hC 2 rfl (by decide) i10 rfl (by first | assumption | omega) (44 + i10) (by omega) dX8_pass_17 ?_
    refine g_astore S [(4, .ref (E.2.2 (44 + i10))), (3, .int (nI i10)), (2, .int (nI (gNo E 2))), (1, .ref (E.2.2 34)), (0, .ref (E.2.2 29))] dX8_pass_18 (by decide) rfl ?_
    refine g_aload S 0 dX8_pass_20 rfl ?_
    refine g_const S dX8_pass_22 (v := 2) rfl ?_
    refine g_ialdR S hC 2 i10 (by omega) (by decide) (by first | assumption | omega) 2 rfl (by decide) dX8_pass_23 ?_
    refine g_if_ne S 30 dX8_pass_24 (by decide) (fun c_2 => ?_) (fun c_2 => ?_)
    · skip
      refine g_aload S 0 dX8_pass_30 rfl ?_
      refine g_const S dX8_pass_32 (v := 3) rfl ?_
      refine g_dup2 S dX8_pass_33 rfl rfl ?_
      refine g_ialdR S hC 2 i10 (by omega) (by decide) (by first | assumption | omega) 3 rfl (by decide) dX8_pass_34 ?_
      refine g_const S dX8_pass_35 (v := 1) rfl ?_
      refine g_isub S dX8_pass_36 ?_
      refine g_iastR S hC 2 i10 (by omega) (by decide) (by first | assumption | omega) 3 rfl (by decide) dX8_pass_37 ?_
      refine g_nm (fun S1 hS1 => ?_)
      refine g_aload S 0 dX8_pass_38 rfl ?_
      refine g_const S dX8_pass_40 (v := 2) rfl ?_
      refine g_ialdR S hC 2 i10 (by omega) (by decide) (by first | assumption | omega) 2 rfl (by decide) dX8_pass_41 ?_
      refine g_const S dX8_pass_42 (v := 1) rfl ?_
      refine g_icmp_ne S 92 dX8_pass_43 (by decide) (fun c_3 => ?_) (fun c_3 => ?_)
      · skip
        refine g_aload S 0 dX8_pass_92 rfl ?_
        refine g_const S dX8_pass_94 (v := 3) rfl ?_
        refine g_ialdR S hC 2 i10 (by omega) (by decide) (by first | assumption | omega) 3 rfl (by decide) dX8_pass_95 ?_
        refine g_if_ne S 129 dX8_pass_96 (by decide) (fun c_4 => ?_) (fun c_4 => ?_)
        · skip
          refine g_iinc S [(3, .int (nI (i10 + 1))), (4, .ref (E.2.2 (44 + i10))), (2, .int (nI (gNo E 2))), (1, .ref (E.2.2 34)), (0, .ref (E.2.2 29))] 1 (nI (i10 + 1)) dX8_pass_129 rfl (by exact nI_1 i10) (by decide) rfl ?_
          refine g_goto S 10 dX8_pass_132 (by decide) ?_
          refine g_lvs [0, 2, 3, 4] (lv' := [(3, .int (nI (i10 + 1))), (2, .int (nI (gNo E 2))), (1, .ref (E.2.2 34)), (0, .ref (E.2.2 29))]) rfl ?_
          exact g_to ih_i10 (by subst hS1; simp only [itr]; rw [stX8_pass_10]; (try dsimp only); first | (rw [if_neg c_2, if_neg c_3, if_neg c_4]; done) | (simp only [if_neg c_2, if_neg c_3, if_neg c_4])) (by subst hS1; rfl) rfl
        · skip
          refine g_aload_n S 4 dX8_pass_99 rfl ?_
          refine gg7r S hC hiX8 1 30 (by decide) (by decide +kernel) dX8_pass_100 ?_
          refine g_const S dX8_pass_103 (v := 1) rfl ?_
          refine g_dup2 S dX8_pass_104 rfl rfl ?_
          refine g_iald S hC (by decide) rfl 1 rfl (by decide) dX8_pass_105 ?_
          refine g_aload S 0 dX8_pass_106 rfl ?_
          refine g_const S dX8_pass_108 (v := 2) rfl ?_
          refine g_ialdR S hC 2 i10 (by omega) (by decide) (by first | assumption | omega) 2 rfl (by decide) dX8_pass_109 ?_
          refine g_const S dX8_pass_110 (v := 1) rfl ?_
          refine g_sel (pcj := 122) (rest := [.int (S1.1 30 1), .int (1 : Int32), .ref (E.2.2 30)]) (a := S1.1 (44 + i10) 1) (b := (0 : Int32)) (S1.1 (44 + i10) 2 = (1 : Int32)) ?_ (fun hJ111 => ?_)
          · skip
            refine g_iadd S dX8_pass_122 ?_
            refine g_iast S hC (by decide) rfl 1 rfl (by decide) dX8_pass_123 ?_
            refine g_nm (fun S2 hS2 => ?_)
            refine g_aload S 0 dX8_pass_124 rfl ?_
            refine g_const S dX8_pass_126 (v := 2) rfl ?_
            refine g_const S dX8_pass_127 (v := 0) rfl ?_
            refine g_iastR S hC 2 i10 (by omega) (by decide) (by first | assumption | omega) 2 rfl (by decide) dX8_pass_128 ?_
            refine g_nm (fun S3 hS3 => ?_)
            refine g_iinc S [(3, .int (nI (i10 + 1))), (4, .ref (E.2.2 (44 + i10))), (2, .int (nI (gNo E 2))), (1, .ref (E.2.2 34)), (0, .ref (E.2.2 29))] 1 (nI (i10 + 1)) dX8_pass_129 rfl (by exact nI_1 i10) (by decide) rfl ?_
            refine g_goto S 10 dX8_pass_132 (by decide) ?_
            refine g_lvs [0, 2, 3, 4] (lv' := [(3, .int (nI (i10 + 1))), (2, .int (nI (gNo E 2))), (1, .ref (E.2.2 34)), (0, .ref (E.2.2 29))]) rfl ?_
            exact g_to ih_i10 (by subst hS3 hS2 hS1; simp only [itr]; rw [stX8_pass_10]; (try dsimp only); first | (rw [if_neg c_2, if_neg c_3, if_pos c_4]; done) | (simp only [if_neg c_2, if_neg c_3, if_pos c_4])) (by subst hS3 hS2 hS1; rfl) rfl
          · skip
            refine g_icmp_ne S 121 dX8_pass_111 (by decide) (fun c_5 => ?_) (fun c_5 => ?_)
            · skip
              refine g_const S dX8_pass_121 (v := 0) rfl ?_
              exact hJ111.2 c_5
            · skip
              refine g_aload S 0 dX8_pass_114 rfl ?_
              refine g_const S dX8_pass_116 (v := 1) rfl ?_
              refine g_ialdR S hC 2 i10 (by omega) (by decide) (by first | assumption | omega) 1 rfl (by decide) dX8_pass_117 ?_
              refine g_goto S 122 dX8_pass_118 (by decide) ?_
              exact hJ111.1 c_5
      · skip
        refine g_aload S 0 dX8_pass_46 rfl ?_
        refine g_const S dX8_pass_48 (v := 3) rfl ?_
        refine g_ialdR S hC 2 i10 (by omega) (by decide) (by first | assumption | omega) 3 rfl (by decide) dX8_pass_49 ?_
        refine g_aload S 0 dX8_pass_50 rfl ?_
        refine g_const S dX8_pass_52 (v := 0) rfl ?_
        refine g_ialdR S hC 2 i10 (by omega) (by decide) (by first | assumption | omega) 0 rfl (by decide) dX8_pass_53 ?_
        refine g_const S dX8_pass_54 (v := 2) rfl ?_
        refine g_idiv S dX8_pass_55 (by decide) ?_
        refine g_icmp_ne S 92 dX8_pass_56 (by decide) (fun c_6 => ?_) (fun c_6 => ?_)
        · skip
          refine g_aload S 0 dX8_pass_92 rfl ?_
          refine g_const S dX8_pass_94 (v := 3) rfl ?_
          refine g_ialdR S hC 2 i10 (by omega) (by decide) (by first | assumption | omega) 3 rfl (by decide) dX8_pass_95 ?_
          refine g_if_ne S 129 dX8_pass_96 (by decide) (fun c_7 => ?_) (fun c_7 => ?_)
          · skip
            refine g_iinc S [(3, .int (nI (i10 + 1))), (4, .ref (E.2.2 (44 + i10))), (2, .int (nI (gNo E 2))), (1, .ref (E.2.2 34)), (0, .ref (E.2.2 29))] 1 (nI (i10 + 1)) dX8_pass_129 rfl (by exact nI_1 i10) (by decide) rfl ?_
            refine g_goto S 10 dX8_pass_132 (by decide) ?_
            refine g_lvs [0, 2, 3, 4] (lv' := [(3, .int (nI (i10 + 1))), (2, .int (nI (gNo E 2))), (1, .ref (E.2.2 34)), (0, .ref (E.2.2 29))]) rfl ?_
            exact g_to ih_i10 (by subst hS1; simp only [itr]; rw [stX8_pass_10]; (try dsimp only); first | (rw [if_neg c_2, if_pos c_3, if_neg c_6, if_neg c_7]; done) | (simp only [if_neg c_2, if_pos c_3, if_neg c_6, if_neg c_7])) (by subst hS1; rfl) rfl
          · skip
            refine g_aload_n S 4 dX8_pass_99 rfl ?_
            refine gg7r S hC hiX8 1 30 (by decide) (by decide +kernel) dX8_pass_100 ?_
            refine g_const S dX8_pass_103 (v := 1) rfl ?_
            refine g_dup2 S dX8_pass_104 rfl rfl ?_
            refine g_iald S hC (by decide) rfl 1 rfl (by decide) dX8_pass_105 ?_
            refine g_aload S 0 dX8_pass_106 rfl ?_
            refine g_const S dX8_pass_108 (v := 2) rfl ?_
            refine g_ialdR S hC 2 i10 (by omega) (by decide) (by first | assumption | omega) 2 rfl (by decide) dX8_pass_109 ?_
            refine g_const S dX8_pass_110 (v := 1) rfl ?_
            refine g_sel (pcj := 122) (rest := [.int (S1.1 30 1), .int (1 : Int32), .ref (E.2.2 30)]) (a := S1.1 (44 + i10) 1) (b := (0 : Int32)) (S1.1 (44 + i10) 2 = (1 : Int32)) ?_ (fun hJ111 => ?_)
            · skip
              refine g_iadd S dX8_pass_122 ?_
              refine g_iast S hC (by decide) rfl 1 rfl (by decide) dX8_pass_123 ?_
              refine g_nm (fun S4 hS4 => ?_)
              refine g_aload S 0 dX8_pass_124 rfl ?_
              refine g_const S dX8_pass_126 (v := 2) rfl ?_
              refine g_const S dX8_pass_127 (v := 0) rfl ?_
              refine g_iastR S hC 2 i10 (by omega) (by decide) (by first | assumption | omega) 2 rfl (by decide) dX8_pass_128 ?_
              refine g_nm (fun S5 hS5 => ?_)
              refine g_iinc S [(3, .int (nI (i10 + 1))), (4, .ref (E.2.2 (44 + i10))), (2, .int (nI (gNo E 2))), (1, .ref (E.2.2 34)), (0, .ref (E.2.2 29))] 1 (nI (i10 + 1)) dX8_pass_129 rfl (by exact nI_1 i10) (by decide) rfl ?_
              refine g_goto S 10 dX8_pass_132 (by decide) ?_
              refine g_lvs [0, 2, 3, 4] (lv' := [(3, .int (nI (i10 + 1))), (2, .int (nI (gNo E 2))), (1, .ref (E.2.2 34)), (0, .ref (E.2.2 29))]) rfl ?_
              exact g_to ih_i10 (by subst hS5 hS4 hS1; simp only [itr]; rw [stX8_pass_10]; (try dsimp only); first | (rw [if_neg c_2, if_pos c_3, if_neg c_6, if_pos c_7]; done) | (simp only [if_neg c_2, if_pos c_3, if_neg c_6, if_pos c_7])) (by subst hS5 hS4 hS1; rfl) rfl
            · skip
              refine g_icmp_ne S 121 dX8_pass_111 (by decide) (fun c_8 => ?_) (fun c_8 => ?_)
              · skip
                refine g_const S dX8_pass_121 (v := 0) rfl ?_
                exact hJ111.2 c_8
              · skip
                refine g_aload S 0 dX8_pass_114 rfl ?_
                refine g_const S dX8_pass_116 (v := 1) rfl ?_
                refine g_ialdR S hC 2 i10 (by omega) (by decide) (by first | assumption | omega) 1 rfl (by decide) dX8_pass_117 ?_
                refine g_goto S 122 dX8_pass_118 (by decide) ?_
                exact hJ111.1 c_8
        · skip
          refine g_aload_n S 4 dX8_pass_59 rfl ?_
          refine g_aload_n S 4 dX8_pass_60 rfl ?_
          refine gg7 S hC hiX8 0 (by decide) (by decide +kernel) dX8_pass_61 ?_
          refine g_calli (g_runV S hC (As := [.int (S1.1 29 0)]) (rest := []) (k := 29) (by decide) rfl (by decide) rfl (kX8_isThere l E S1 (S1.1 29 0) ⟨dn, (by rw [hS1, gu_ne (by omega), hfr10]; exact hdn), hdb⟩) (cwV 1 S.2.2.2.2 gX8_pass_X8_isThere rfl rfl rfl (by decide +kernel) ⟨Nat.le_of_ble_eq_true rfl, Nat.le_of_ble_eq_true rfl⟩) rfl rfl (Nat.le_of_ble_eq_true rfl) dX8_pass_64 ⟨Nat.le_of_ble_eq_true rfl, Nat.le_of_ble_eq_true rfl⟩) ?_
          refine g_if_eq S 92 dX8_pass_67 (by decide) (fun c_9 => ?_) (fun c_9 => ?_)
          · skip
            refine g_aload S 0 dX8_pass_92 rfl ?_
            refine g_const S dX8_pass_94 (v := 3) rfl ?_
            refine g_ialdR S hC 2 i10 (by omega) (by decide) (by first | assumption | omega) 3 rfl (by decide) dX8_pass_95 ?_
            refine g_if_ne S 129 dX8_pass_96 (by decide) (fun c_10 => ?_) (fun c_10 => ?_)
            · skip
              refine g_iinc S [(3, .int (nI (i10 + 1))), (4, .ref (E.2.2 (44 + i10))), (2, .int (nI (gNo E 2))), (1, .ref (E.2.2 34)), (0, .ref (E.2.2 29))] 1 (nI (i10 + 1)) dX8_pass_129 rfl (by exact nI_1 i10) (by decide) rfl ?_
              refine g_goto S 10 dX8_pass_132 (by decide) ?_
              refine g_lvs [0, 2, 3, 4] (lv' := [(3, .int (nI (i10 + 1))), (2, .int (nI (gNo E 2))), (1, .ref (E.2.2 34)), (0, .ref (E.2.2 29))]) rfl ?_
              exact g_to ih_i10 (by subst hS1; simp only [itr]; rw [stX8_pass_10]; (try dsimp only); first | (rw [if_neg c_2, if_pos c_3, if_pos c_6, if_pos c_9, if_neg c_10]; done) | (simp only [if_neg c_2, if_pos c_3, if_pos c_6, if_pos c_9, if_neg c_10])) (by subst hS1; rfl) rfl
            · skip
              refine g_aload_n S 4 dX8_pass_99 rfl ?_
              refine gg7r S hC hiX8 1 30 (by decide) (by decide +kernel) dX8_pass_100 ?_
              refine g_const S dX8_pass_103 (v := 1) rfl ?_
              refine g_dup2 S dX8_pass_104 rfl rfl ?_
              refine g_iald S hC (by decide) rfl 1 rfl (by decide) dX8_pass_105 ?_
              refine g_aload S 0 dX8_pass_106 rfl ?_
              refine g_const S dX8_pass_108 (v := 2) rfl ?_
              refine g_ialdR S hC 2 i10 (by omega) (by decide) (by first | assumption | omega) 2 rfl (by decide) dX8_pass_109 ?_
              refine g_const S dX8_pass_110 (v := 1) rfl ?_
              refine g_sel (pcj := 122) (rest := [.int (S1.1 30 1), .int (1 : Int32), .ref (E.2.2 30)]) (a := S1.1 (44 + i10) 1) (b := (0 : Int32)) (S1.1 (44 + i10) 2 = (1 : Int32)) ?_ (fun hJ111 => ?_)
              · skip
                refine g_iadd S dX8_pass_122 ?_
                refine g_iast S hC (by decide) rfl 1 rfl (by decide) dX8_pass_123 ?_
                refine g_nm (fun S6 hS6 => ?_)
                refine g_aload S 0 dX8_pass_124 rfl ?_
                refine g_const S dX8_pass_126 (v := 2) rfl ?_
                refine g_const S dX8_pass_127 (v := 0) rfl ?_
                refine g_iastR S hC 2 i10 (by omega) (by decide) (by first | assumption | omega) 2 rfl (by decide) dX8_pass_128 ?_
                refine g_nm (fun S7 hS7 => ?_)
                refine g_iinc S [(3, .int (nI (i10 + 1))), (4, .ref (E.2.2 (44 + i10))), (2, .int (nI (gNo E 2))), (1, .ref (E.2.2 34)), (0, .ref (E.2.2 29))] 1 (nI (i10 + 1)) dX8_pass_129 rfl (by exact nI_1 i10) (by decide) rfl ?_
                refine g_goto S 10 dX8_pass_132 (by decide) ?_
                refine g_lvs [0, 2, 3, 4] (lv' := [(3, .int (nI (i10 + 1))), (2, .int (nI (gNo E 2))), (1, .ref (E.2.2 34)), (0, .ref (E.2.2 29))]) rfl ?_
                exact g_to ih_i10 (by subst hS7 hS6 hS1; simp only [itr]; rw [stX8_pass_10]; (try dsimp only); first | (rw [if_neg c_2, if_pos c_3, if_pos c_6, if_pos c_9, if_pos c_10]; done) | (simp only [if_neg c_2, if_pos c_3, if_pos c_6, if_pos c_9, if_pos c_10])) (by subst hS7 hS6 hS1; rfl) rfl
              · skip
                refine g_icmp_ne S 121 dX8_pass_111 (by decide) (fun c_11 => ?_) (fun c_11 => ?_)
                · skip
                  refine g_const S dX8_pass_121 (v := 0) rfl ?_
                  exact hJ111.2 c_11
                · skip
                  refine g_aload S 0 dX8_pass_114 rfl ?_
                  refine g_const S dX8_pass_116 (v := 1) rfl ?_
                  refine g_ialdR S hC 2 i10 (by omega) (by decide) (by first | assumption | omega) 1 rfl (by decide) dX8_pass_117 ?_
                  refine g_goto S 122 dX8_pass_118 (by decide) ?_
                  exact hJ111.1 c_11
          · skip
            refine g_aload S 0 dX8_pass_70 rfl ?_
            refine g_const S dX8_pass_72 (v := 2) rfl ?_
            refine g_const S dX8_pass_73 (v := 2) rfl ?_
            refine g_iastR S hC 2 i10 (by omega) (by decide) (by first | assumption | omega) 2 rfl (by decide) dX8_pass_74 ?_
            refine g_nm (fun S8 hS8 => ?_)
            refine g_aload S 0 dX8_pass_75 rfl ?_
            refine g_const S dX8_pass_77 (v := 3) rfl ?_
            refine g_bipush S dX8_pass_78 (v := 10) rfl ?_
            refine g_iastR S hC 2 i10 (by omega) (by decide) (by first | assumption | omega) 3 rfl (by decide) dX8_pass_80 ?_
            refine g_nm (fun S9 hS9 => ?_)
            refine g_aload S 0 dX8_pass_81 rfl ?_
            refine g_const S dX8_pass_83 (v := 4) rfl ?_
            refine g_dup2 S dX8_pass_84 rfl rfl ?_
            refine g_ialdR S hC 2 i10 (by omega) (by decide) (by first | assumption | omega) 4 rfl (by decide) dX8_pass_85 ?_
            refine g_const S dX8_pass_86 (v := 1) rfl ?_
            refine g_iadd S dX8_pass_87 ?_
            refine g_iastR S hC 2 i10 (by omega) (by decide) (by first | assumption | omega) 4 rfl (by decide) dX8_pass_88 ?_
            refine g_nm (fun S10 hS10 => ?_)
            refine g_goto S 129 dX8_pass_89 (by decide) ?_
            refine g_iinc S [(3, .int (nI (i10 + 1))), (4, .ref (E.2.2 (44 + i10))), (2, .int (nI (gNo E 2))), (1, .ref (E.2.2 34)), (0, .ref (E.2.2 29))] 1 (nI (i10 + 1)) dX8_pass_129 rfl (by exact nI_1 i10) (by decide) rfl ?_
            refine g_goto S 10 dX8_pass_132 (by decide) ?_
            refine g_lvs [0, 2, 3, 4] (lv' := [(3, .int (nI (i10 + 1))), (2, .int (nI (gNo E 2))), (1, .ref (E.2.2 34)), (0, .ref (E.2.2 29))]) rfl ?_
            exact g_to ih_i10 (by subst hS10 hS9 hS8 hS1; simp only [itr]; rw [stX8_pass_10]; (try dsimp only); first | (rw [if_neg c_2, if_pos c_3, if_pos c_6, if_neg c_9]; done) | (simp only [if_neg c_2, if_pos c_3, if_pos c_6, if_neg c_9])) (by subst hS10 hS9 hS8 hS1; rfl) rfl
    · skip
      refine g_goto S 129 dX8_pass_27 (by decide) ?_
      refine g_iinc S [(3, .int (nI (i10 + 1))), (4, .ref (E.2.2 (44 + i10))), (2, .int (nI (gNo E 2))), (1, .ref (E.2.2 34)), (0, .ref (E.2.2 29))] 1 (nI (i10 + 1)) dX8_pass_129 rfl (by exact nI_1 i10) (by decide) rfl ?_
      refine g_goto S 10 dX8_pass_132 (by decide) ?_
      refine g_lvs [0, 2, 3, 4] (lv' := [(3, .int (nI (i10 + 1))), (2, .int (nI (gNo E 2))), (1, .ref (E.2.2 34)), (0, .ref (E.2.2 29))]) rfl ?_
      exact g_to ih_i10 (by simp only [itr]; rw [stX8_pass_10]; (try dsimp only); first | (rw [if_pos c_2]; done) | (simp only [if_pos c_2])) (by rfl) rfl
  · skip
    (try dsimp only)
    refine g_nm (fun S11 hS11 => ?_)
    refine g_iload_n S 0 dX8_pass_10 rfl ?_
    refine g_iload_n S 1 dX8_pass_11 rfl ?_
    refine g_icmp_ge S 135 dX8_pass_12 (by decide) (fun c_12 => ?_) (fun c_12 => absurd (nI_le (Nat.le_refl _) (gNo_lt hC (by decide))) c_12)
    refine g_aload_n S 3 dX8_pass_135 rfl ?_
    refine gg7r S hC hiX8 8 33 (by decide) (by decide +kernel) dX8_pass_136 ?_
    refine g_astore_n S [(1, .ref (E.2.2 33)), (3, .int (nI (gNo E 2))), (2, .int (nI (gNo E 2))), (0, .ref (E.2.2 29))] dX8_pass_139 (by decide) rfl ?_
    refine g_aload_n S 0 dX8_pass_140 rfl ?_
    refine g_alenR S hC 1 rfl (by decide) dX8_pass_141 ?_
    refine g_istore_n S [(2, .int (nI (gNo E 1))), (1, .ref (E.2.2 33)), (3, .int (nI (gNo E 2))), (0, .ref (E.2.2 29))] dX8_pass_142 (by decide) rfl ?_
    refine g_const S dX8_pass_143 (v := 0) rfl ?_
    refine g_istore_n S [(3, .int (0 : Int32)), (2, .int (nI (gNo E 1))), (1, .ref (E.2.2 33)), (0, .ref (E.2.2 29))] dX8_pass_144 (by decide) rfl ?_
    refine g_lvs [0, 1, 2, 3] (lv' := [(3, .int (0 : Int32)), (2, .int (nI (gNo E 1))), (1, .ref (E.2.2 33)), (0, .ref (E.2.2 29))]) rfl ?_
    refine g_loop (gNo E 1) (fun i145 : Nat => (itr (stX8_pass_145) i145 S11)) (fun i145 : Nat => [(3, .int (nI i145)), (2, .int (nI (gNo E 1))), (1, .ref (E.2.2 33)), (0, .ref (E.2.2 29))]) [] rfl rfl ?_ ?_
    · intro i145 hi145 ih_i145
      (try dsimp only at ih_i145 ⊢)
      refine g_iload_n S 0 dX8_pass_145 rfl ?_
      refine g_iload_n S 1 dX8_pass_146 rfl ?_
      refine g_icmp_ge S 210 dX8_pass_147 (by decide) (fun c_13 => absurd c_13 (nI_ge hi145 (gNo_lt hC (by decide)))) (fun c_13 => ?_)
      refine g_aload_n S 2 dX8_pass_150 rfl ?_
      refine g_iload_n S 0 dX8_pass_151 rfl ?_
      refine g_aaldR S hC 1 rfl (by decide) i145 rfl (by first | assumption | omega) (40 + i145) (by omega) dX8_pass_152 ?_
      refine g_astore S [(4, .ref (E.2.2 (40 + i145))), (3, .int (nI i145)), (2, .int (nI (gNo E 1))), (1, .ref (E.2.2 33)), (0, .ref (E.2.2 29))] dX8_pass_153 (by decide) rfl ?_
      refine g_aload S 0 dX8_pass_155 rfl ?_
      refine g_const S dX8_pass_157 (v := 2) rfl ?_
      refine g_ialdR S hC 1 i145 (by omega) (by decide) (by first | assumption | omega) 2 rfl (by decide) dX8_pass_158 ?_
      refine g_if_lt S 204 dX8_pass_159 (by decide) (fun c_14 => ?_) (fun c_14 => ?_)
      · skip
        refine g_iinc S [(3, .int (nI (i145 + 1))), (4, .ref (E.2.2 (40 + i145))), (2, .int (nI (gNo E 1))), (1, .ref (E.2.2 33)), (0, .ref (E.2.2 29))] 1 (nI (i145 + 1)) dX8_pass_204 rfl (by exact nI_1 i145) (by decide) rfl ?_
        refine g_goto S 145 dX8_pass_207 (by decide) ?_
        refine g_lvs [0, 2, 3, 4] (lv' := [(3, .int (nI (i145 + 1))), (2, .int (nI (gNo E 1))), (1, .ref (E.2.2 33)), (0, .ref (E.2.2 29))]) rfl ?_
        exact g_to ih_i145 (by simp only [itr]; rw [stX8_pass_145]; (try dsimp only); first | (rw [if_pos c_14]; done) | (simp only [if_pos c_14])) (by rfl) rfl
      · skip
        refine g_aload S 0 dX8_pass_162 rfl ?_
        refine g_const S dX8_pass_164 (v := 4) rfl ?_
        refine g_aload S 0 dX8_pass_165 rfl ?_
        refine g_const S dX8_pass_167 (v := 4) rfl ?_
        refine g_ialdR S hC 1 i145 (by omega) (by decide) (by first | assumption | omega) 4 rfl (by decide) dX8_pass_168 ?_
        refine g_aload S 0 dX8_pass_169 rfl ?_
        refine g_const S dX8_pass_171 (v := 1) rfl ?_
        refine g_ialdR S hC 1 i145 (by omega) (by decide) (by first | assumption | omega) 1 rfl (by decide) dX8_pass_172 ?_
        refine g_iadd S dX8_pass_173 ?_
        refine g_aload S 0 dX8_pass_174 rfl ?_
        refine g_const S dX8_pass_176 (v := 2) rfl ?_
        refine g_ialdR S hC 1 i145 (by omega) (by decide) (by first | assumption | omega) 2 rfl (by decide) dX8_pass_177 ?_
        refine g_calli (g_runS S hC (As := [.int ((itr (stX8_pass_145) i145 S11).1 (40 + i145) 2)]) (rest := [.int (((itr (stX8_pass_145) i145 S11).1 (40 + i145) 4) + ((itr (stX8_pass_145) i145 S11).1 (40 + i145) 1)), .int (4 : Int32), .ref (E.2.2 (40 + i145))]) (kX8_burnt l E (itr (stX8_pass_145) i145 S11) ((itr (stX8_pass_145) i145 S11).1 (40 + i145) 2)) (va_cwS 1 S.2.2.2.2 gX8_pass_X8_burnt rfl rfl rfl (by decide +kernel) ⟨Nat.le_of_ble_eq_true rfl, Nat.le_of_ble_eq_true rfl⟩) rfl rfl (Nat.le_of_ble_eq_true rfl) dX8_pass_178 ⟨Nat.le_of_ble_eq_true rfl, Nat.le_of_ble_eq_true rfl⟩) ?_
        refine g_sel (pcj := 203) (rest := [.int (4 : Int32), .ref (E.2.2 (40 + i145))]) (a := ((itr (stX8_pass_145) i145 S11).1 (40 + i145) 4) + ((itr (stX8_pass_145) i145 S11).1 (40 + i145) 1)) (b := sX8_burnt_r (itr (stX8_pass_145) i145 S11) ((itr (stX8_pass_145) i145 S11).1 (40 + i145) 2)) (((itr (stX8_pass_145) i145 S11).1 (40 + i145) 4) + ((itr (stX8_pass_145) i145 S11).1 (40 + i145) 1) ≤ sX8_burnt_r (itr (stX8_pass_145) i145 S11) ((itr (stX8_pass_145) i145 S11).1 (40 + i145) 2)) ?_ (fun hJ181 => ?_)
        · skip
          refine g_iastR S hC 1 i145 (by omega) (by decide) (by first | assumption | omega) 4 rfl (by decide) dX8_pass_203 ?_
          refine g_nm (fun S12 hS12 => ?_)
          refine g_iinc S [(3, .int (nI (i145 + 1))), (4, .ref (E.2.2 (40 + i145))), (2, .int (nI (gNo E 1))), (1, .ref (E.2.2 33)), (0, .ref (E.2.2 29))] 1 (nI (i145 + 1)) dX8_pass_204 rfl (by exact nI_1 i145) (by decide) rfl ?_
          refine g_goto S 145 dX8_pass_207 (by decide) ?_
          refine g_lvs [0, 2, 3, 4] (lv' := [(3, .int (nI (i145 + 1))), (2, .int (nI (gNo E 1))), (1, .ref (E.2.2 33)), (0, .ref (E.2.2 29))]) rfl ?_
          exact g_to ih_i145 (by subst hS12; simp only [itr]; rw [stX8_pass_145]; (try dsimp only); first | (rw [if_neg c_14]; done) | (simp only [if_neg c_14])) (by subst hS12; rfl) rfl
        · skip
          refine g_icmp_le S 194 dX8_pass_181 (by decide) (fun c_15 => ?_) (fun c_15 => ?_)
          · skip
            refine g_aload S 0 dX8_pass_194 rfl ?_
            refine g_const S dX8_pass_196 (v := 4) rfl ?_
            refine g_ialdR S hC 1 i145 (by omega) (by decide) (by first | assumption | omega) 4 rfl (by decide) dX8_pass_197 ?_
            refine g_aload S 0 dX8_pass_198 rfl ?_
            refine g_const S dX8_pass_200 (v := 1) rfl ?_
            refine g_ialdR S hC 1 i145 (by omega) (by decide) (by first | assumption | omega) 1 rfl (by decide) dX8_pass_201 ?_
            refine g_iadd S dX8_pass_202 ?_
            exact hJ181.1 c_15
          · skip
            refine g_aload S 0 dX8_pass_184 rfl ?_
            refine g_const S dX8_pass_186 (v := 2) rfl ?_
            refine g_ialdR S hC 1 i145 (by omega) (by decide) (by first | assumption | omega) 2 rfl (by decide) dX8_pass_187 ?_
            refine g_calli (g_runS S hC (As := [.int ((itr (stX8_pass_145) i145 S11).1 (40 + i145) 2)]) (rest := [.int (4 : Int32), .ref (E.2.2 (40 + i145))]) (kX8_burnt l E (itr (stX8_pass_145) i145 S11) ((itr (stX8_pass_145) i145 S11).1 (40 + i145) 2)) (va_cwS 1 S.2.2.2.2 gX8_pass_X8_burnt rfl rfl rfl (by decide +kernel) ⟨Nat.le_of_ble_eq_true rfl, Nat.le_of_ble_eq_true rfl⟩) rfl rfl (Nat.le_of_ble_eq_true rfl) dX8_pass_188 ⟨Nat.le_of_ble_eq_true rfl, Nat.le_of_ble_eq_true rfl⟩) ?_
            refine g_goto S 203 dX8_pass_191 (by decide) ?_
            exact hJ181.2 c_15
    · skip
      (try dsimp only)
      refine g_nm (fun S13 hS13 => ?_)
      refine g_iload_n S 0 dX8_pass_145 rfl ?_
      refine g_iload_n S 1 dX8_pass_146 rfl ?_
      refine g_icmp_ge S 210 dX8_pass_147 (by decide) (fun c_16 => ?_) (fun c_16 => absurd (nI_le (Nat.le_refl _) (gNo_lt hC (by decide))) c_16)
      refine g_aload_n S 3 dX8_pass_210 rfl ?_
      refine gg7r S hC hiX8 7 32 (by decide) (by decide +kernel) dX8_pass_211 ?_
      refine g_astore_n S [(1, .ref (E.2.2 32)), (3, .int (nI (gNo E 1))), (2, .int (nI (gNo E 1))), (0, .ref (E.2.2 29))] dX8_pass_214 (by decide) rfl ?_
      refine g_aload_n S 0 dX8_pass_215 rfl ?_
      refine g_alenR S hC 0 rfl (by decide) dX8_pass_216 ?_
      refine g_istore_n S [(2, .int (nI (gNo E 0))), (1, .ref (E.2.2 32)), (3, .int (nI (gNo E 1))), (0, .ref (E.2.2 29))] dX8_pass_217 (by decide) rfl ?_
      refine g_const S dX8_pass_218 (v := 0) rfl ?_
      refine g_istore_n S [(3, .int (0 : Int32)), (2, .int (nI (gNo E 0))), (1, .ref (E.2.2 32)), (0, .ref (E.2.2 29))] dX8_pass_219 (by decide) rfl ?_
      refine g_lvs [0, 1, 2, 3] (lv' := [(3, .int (0 : Int32)), (2, .int (nI (gNo E 0))), (1, .ref (E.2.2 32)), (0, .ref (E.2.2 29))]) rfl ?_
      refine g_loop (gNo E 0) (fun i220 : Nat => (itr (stX8_pass_220) i220 S13)) (fun i220 : Nat => [(3, .int (nI i220)), (2, .int (nI (gNo E 0))), (1, .ref (E.2.2 32)), (0, .ref (E.2.2 29))]) [] rfl rfl ?_ ?_
      · intro i220 hi220 ih_i220
        (try dsimp only at ih_i220 ⊢)
        refine g_iload_n S 0 dX8_pass_220 rfl ?_
        refine g_iload_n S 1 dX8_pass_221 rfl ?_
        refine g_icmp_ge S 272 dX8_pass_222 (by decide) (fun c_17 => absurd c_17 (nI_ge hi220 (gNo_lt hC (by decide)))) (fun c_17 => ?_)
        refine g_aload_n S 2 dX8_pass_225 rfl ?_
        refine g_iload_n S 0 dX8_pass_226 rfl ?_
        refine g_aaldR S hC 0 rfl (by decide) i220 rfl (by first | assumption | omega) (36 + i220) (by omega) dX8_pass_227 ?_
        refine g_astore S [(4, .ref (E.2.2 (36 + i220))), (3, .int (nI i220)), (2, .int (nI (gNo E 0))), (1, .ref (E.2.2 32)), (0, .ref (E.2.2 29))] dX8_pass_228 (by decide) rfl ?_
        refine g_aload S 0 dX8_pass_230 rfl ?_
        refine g_const S dX8_pass_232 (v := 2) rfl ?_
        refine g_aload S 0 dX8_pass_233 rfl ?_
        refine g_const S dX8_pass_235 (v := 2) rfl ?_
        refine g_ialdR S hC 0 i220 (by omega) (by decide) (by first | assumption | omega) 2 rfl (by decide) dX8_pass_236 ?_
        refine g_aload S 0 dX8_pass_237 rfl ?_
        refine g_const S dX8_pass_239 (v := 0) rfl ?_
        refine g_ialdR S hC 0 i220 (by omega) (by decide) (by first | assumption | omega) 0 rfl (by decide) dX8_pass_240 ?_
        refine g_iadd S dX8_pass_241 ?_
        refine g_aload S 0 dX8_pass_242 rfl ?_
        refine g_const S dX8_pass_244 (v := 1) rfl ?_
        refine g_ialdR S hC 0 i220 (by omega) (by decide) (by first | assumption | omega) 1 rfl (by decide) dX8_pass_245 ?_
        refine g_sel (pcj := 265) (rest := [.int (2 : Int32), .ref (E.2.2 (36 + i220))]) (a := ((itr (stX8_pass_220) i220 S13).1 (36 + i220) 2) + ((itr (stX8_pass_220) i220 S13).1 (36 + i220) 0)) (b := (itr (stX8_pass_220) i220 S13).1 (36 + i220) 1) (((itr (stX8_pass_220) i220 S13).1 (36 + i220) 2) + ((itr (stX8_pass_220) i220 S13).1 (36 + i220) 0) ≤ (itr (stX8_pass_220) i220 S13).1 (36 + i220) 1) ?_ (fun hJ246 => ?_)
        · skip
          refine g_iastR S hC 0 i220 (by omega) (by decide) (by first | assumption | omega) 2 rfl (by decide) dX8_pass_265 ?_
          refine g_nm (fun S14 hS14 => ?_)
          refine g_iinc S [(3, .int (nI (i220 + 1))), (4, .ref (E.2.2 (36 + i220))), (2, .int (nI (gNo E 0))), (1, .ref (E.2.2 32)), (0, .ref (E.2.2 29))] 1 (nI (i220 + 1)) dX8_pass_266 rfl (by exact nI_1 i220) (by decide) rfl ?_
          refine g_goto S 220 dX8_pass_269 (by decide) ?_
          refine g_lvs [0, 2, 3, 4] (lv' := [(3, .int (nI (i220 + 1))), (2, .int (nI (gNo E 0))), (1, .ref (E.2.2 32)), (0, .ref (E.2.2 29))]) rfl ?_
          exact g_to ih_i220 (by subst hS14; rfl) (by subst hS14; rfl) rfl
        · skip
          refine g_icmp_le S 256 dX8_pass_246 (by decide) (fun c_18 => ?_) (fun c_18 => ?_)
          · skip
            refine g_aload S 0 dX8_pass_256 rfl ?_
            refine g_const S dX8_pass_258 (v := 2) rfl ?_
            refine g_ialdR S hC 0 i220 (by omega) (by decide) (by first | assumption | omega) 2 rfl (by decide) dX8_pass_259 ?_
            refine g_aload S 0 dX8_pass_260 rfl ?_
            refine g_const S dX8_pass_262 (v := 0) rfl ?_
            refine g_ialdR S hC 0 i220 (by omega) (by decide) (by first | assumption | omega) 0 rfl (by decide) dX8_pass_263 ?_
            refine g_iadd S dX8_pass_264 ?_
            exact hJ246.1 c_18
          · skip
            refine g_aload S 0 dX8_pass_249 rfl ?_
            refine g_const S dX8_pass_251 (v := 1) rfl ?_
            refine g_ialdR S hC 0 i220 (by omega) (by decide) (by first | assumption | omega) 1 rfl (by decide) dX8_pass_252 ?_
            refine g_goto S 265 dX8_pass_253 (by decide) ?_
            exact hJ246.2 c_18
      · skip
        (try dsimp only)
        refine g_nm (fun S15 hS15 => ?_)
        refine g_iload_n S 0 dX8_pass_220 rfl ?_
        refine g_iload_n S 1 dX8_pass_221 rfl ?_
        refine g_icmp_ge S 272 dX8_pass_222 (by decide) (fun c_19 => ?_) (fun c_19 => absurd (nI_le (Nat.le_refl _) (gNo_lt hC (by decide))) c_19)
        refine g_aload_n S 3 dX8_pass_272 rfl ?_
        refine gg7r S hC hiX8 10 35 (by decide) (by decide +kernel) dX8_pass_273 ?_
        refine g_astore_n S [(1, .ref (E.2.2 35)), (3, .int (nI (gNo E 0))), (2, .int (nI (gNo E 0))), (0, .ref (E.2.2 29))] dX8_pass_276 (by decide) rfl ?_
        refine g_aload_n S 0 dX8_pass_277 rfl ?_
        refine g_alenR S hC 3 rfl (by decide) dX8_pass_278 ?_
        refine g_istore_n S [(2, .int (nI (gNo E 3))), (1, .ref (E.2.2 35)), (3, .int (nI (gNo E 0))), (0, .ref (E.2.2 29))] dX8_pass_279 (by decide) rfl ?_
        refine g_const S dX8_pass_280 (v := 0) rfl ?_
        refine g_istore_n S [(3, .int (0 : Int32)), (2, .int (nI (gNo E 3))), (1, .ref (E.2.2 35)), (0, .ref (E.2.2 29))] dX8_pass_281 (by decide) rfl ?_
        refine g_lvs [0, 1, 2, 3] (lv' := [(3, .int (0 : Int32)), (2, .int (nI (gNo E 3))), (1, .ref (E.2.2 35)), (0, .ref (E.2.2 29))]) rfl ?_
        refine g_loop (gNo E 3) (fun i282 : Nat => (itr (stX8_pass_282) i282 S15)) (fun i282 : Nat => [(3, .int (nI i282)), (2, .int (nI (gNo E 3))), (1, .ref (E.2.2 35)), (0, .ref (E.2.2 29))]) [] rfl rfl ?_ ?_
        · intro i282 hi282 ih_i282
          (try dsimp only at ih_i282 ⊢)
          refine g_iload_n S 0 dX8_pass_282 rfl ?_
          refine g_iload_n S 1 dX8_pass_283 rfl ?_
          refine g_icmp_ge S 477 dX8_pass_284 (by decide) (fun c_20 => absurd c_20 (nI_ge hi282 (gNo_lt hC (by decide)))) (fun c_20 => ?_)
          refine g_aload_n S 2 dX8_pass_287 rfl ?_
          refine g_iload_n S 0 dX8_pass_288 rfl ?_
          refine g_aaldR S hC 3 rfl (by decide) i282 rfl (by first | assumption | omega) (48 + i282) (by omega) dX8_pass_289 ?_
          refine g_astore S [(4, .ref (E.2.2 (48 + i282))), (3, .int (nI i282)), (2, .int (nI (gNo E 3))), (1, .ref (E.2.2 35)), (0, .ref (E.2.2 29))] dX8_pass_290 (by decide) rfl ?_
          refine g_aload_n S 4 dX8_pass_292 rfl ?_
          refine gg7 S hC hiX8 0 (by decide) (by decide +kernel) dX8_pass_293 ?_
          refine g_bipush S dX8_pass_296 (v := 7) rfl ?_
          refine g_irem S dX8_pass_298 (by decide) ?_
          refine g_if_ne S 310 dX8_pass_299 (by decide) (fun c_21 => ?_) (fun c_21 => ?_)
          · skip
            refine g_const S dX8_pass_310 (v := 0) rfl ?_
            refine g_istore S [(5, .int (0 : Int32)), (4, .ref (E.2.2 (48 + i282))), (3, .int (nI i282)), (2, .int (nI (gNo E 3))), (1, .ref (E.2.2 35)), (0, .ref (E.2.2 29))] dX8_pass_311 (by decide) rfl ?_
            refine g_iload S 0 dX8_pass_313 rfl ?_
            refine g_const S dX8_pass_315 (v := 2) rfl ?_
            refine g_icmp_ge S 471 dX8_pass_316 (by decide) (fun c_22 => absurd c_22 (by decide)) (fun c_22 => ?_)
            refine g_aload S 1 dX8_pass_319 rfl ?_
            refine g_const S dX8_pass_321 (v := 2) rfl ?_
            refine g_ialdR S hC 3 i282 (by omega) (by decide) (by first | assumption | omega) 2 rfl (by decide) dX8_pass_322 ?_
            refine g_if_le S 471 dX8_pass_323 (by decide) (fun c_23 => ?_) (fun c_23 => ?_)
            · skip
              refine g_iinc S [(3, .int (nI (i282 + 1))), (5, .int (0 : Int32)), (4, .ref (E.2.2 (48 + i282))), (2, .int (nI (gNo E 3))), (1, .ref (E.2.2 35)), (0, .ref (E.2.2 29))] 2 (nI (i282 + 1)) dX8_pass_471 rfl (by exact nI_1 i282) (by decide) rfl ?_
              refine g_goto S 282 dX8_pass_474 (by decide) ?_
              refine g_lvs [0, 3, 4, 5] (lv' := [(3, .int (nI (i282 + 1))), (2, .int (nI (gNo E 3))), (1, .ref (E.2.2 35)), (0, .ref (E.2.2 29))]) rfl ?_
              exact g_to ih_i282 (by simp only [itr]; rw [stX8_pass_282]; (try dsimp only); first | (rw [if_neg c_21, if_pos c_23]; done) | (simp only [if_neg c_21, if_pos c_23])) (by rfl) rfl
            · skip
              refine g_aload_n S 5 dX8_pass_326 rfl ?_
              refine gg7r S hC hiX8 2 31 (by decide) (by decide +kernel) dX8_pass_327 ?_
              refine g_const S dX8_pass_330 (v := 1) rfl ?_
              refine g_iald S hC (by decide) rfl 1 rfl (by decide) dX8_pass_331 ?_
              refine g_aload_n S 5 dX8_pass_332 rfl ?_
              refine gg7 S hC hiX8 5 (by decide) (by decide +kernel) dX8_pass_333 ?_
              refine g_sel (pcj := 352) (rest := []) (a := (itr (stX8_pass_282) i282 S15).1 29 5) (b := (itr (stX8_pass_282) i282 S15).1 31 1) ((itr (stX8_pass_282) i282 S15).1 29 5 ≤ (itr (stX8_pass_282) i282 S15).1 31 1) ?_ (fun hJ336 => ?_)
              · skip
                refine g_istore S [(6, .int (if (itr (stX8_pass_282) i282 S15).1 29 5 ≤ (itr (stX8_pass_282) i282 S15).1 31 1 then ((itr (stX8_pass_282) i282 S15).1 29 5) else ((itr (stX8_pass_282) i282 S15).1 31 1))), (5, .int (0 : Int32)), (4, .ref (E.2.2 (48 + i282))), (3, .int (nI i282)), (2, .int (nI (gNo E 3))), (1, .ref (E.2.2 35)), (0, .ref (E.2.2 29))] dX8_pass_352 (by decide) rfl ?_
                refine g_aload_n S 6 dX8_pass_354 rfl ?_
                refine gg7r S hC hiX8 2 31 (by decide) (by decide +kernel) dX8_pass_355 ?_
                refine g_const S dX8_pass_358 (v := 0) rfl ?_
                refine g_iald S hC (by decide) rfl 0 rfl (by decide) dX8_pass_359 ?_
                refine g_bipush S dX8_pass_360 (v := 10) rfl ?_
                refine g_iload S 0 dX8_pass_362 rfl ?_
                refine g_isub S dX8_pass_364 ?_
                refine g_icmp_ge S 371 dX8_pass_365 (by decide) (fun c_25 => ?_) (fun c_25 => ?_)
                · skip
                  refine g_iload S 0 dX8_pass_371 rfl ?_
                  refine g_aload S 2 dX8_pass_373 rfl ?_
                  refine g_const S dX8_pass_375 (v := 1) rfl ?_
                  refine g_ialdR S hC 3 i282 (by omega) (by decide) (by first | assumption | omega) 1 rfl (by decide) dX8_pass_376 ?_
                  refine g_icmp_ge S 391 dX8_pass_377 (by decide) (fun c_26 => ?_) (fun c_26 => ?_)
                  · skip
                    refine g_aload_n S 6 dX8_pass_391 rfl ?_
                    refine gg7r S hC hiX8 2 31 (by decide) (by decide +kernel) dX8_pass_392 ?_
                    refine g_const S dX8_pass_395 (v := 1) rfl ?_
                    refine g_dup2 S dX8_pass_396 rfl rfl ?_
                    refine g_iald S hC (by decide) rfl 1 rfl (by decide) dX8_pass_397 ?_
                    refine g_iload S 0 dX8_pass_398 rfl ?_
                    refine g_isub S dX8_pass_400 ?_
                    refine g_iast S hC (by decide) rfl 1 rfl (by decide) dX8_pass_401 ?_
                    refine g_nm (fun S16 hS16 => ?_)
                    refine g_aload_n S 6 dX8_pass_402 rfl ?_
                    refine gg7r S hC hiX8 2 31 (by decide) (by decide +kernel) dX8_pass_403 ?_
                    refine g_const S dX8_pass_406 (v := 0) rfl ?_
                    refine g_dup2 S dX8_pass_407 rfl rfl ?_
                    refine g_iald S hC (by decide) rfl 0 rfl (by decide) dX8_pass_408 ?_
                    refine g_bipush S dX8_pass_409 (v := 10) rfl ?_
                    refine g_iload S 0 dX8_pass_411 rfl ?_
                    refine g_isub S dX8_pass_413 ?_
                    refine g_isub S dX8_pass_414 ?_
                    refine g_iast S hC (by decide) rfl 0 rfl (by decide) dX8_pass_415 ?_
                    refine g_nm (fun S17 hS17 => ?_)
                    refine g_aload S 2 dX8_pass_416 rfl ?_
                    refine g_const S dX8_pass_418 (v := 2) rfl ?_
                    refine g_dup2 S dX8_pass_419 rfl rfl ?_
                    refine g_ialdR S hC 3 i282 (by omega) (by decide) (by first | assumption | omega) 2 rfl (by decide) dX8_pass_420 ?_
                    refine g_const S dX8_pass_421 (v := 1) rfl ?_
                    refine g_isub S dX8_pass_422 ?_
                    refine g_iastR S hC 3 i282 (by omega) (by decide) (by first | assumption | omega) 2 rfl (by decide) dX8_pass_423 ?_
                    refine g_nm (fun S18 hS18 => ?_)
                    refine g_aload S 2 dX8_pass_424 rfl ?_
                    refine g_const S dX8_pass_426 (v := 3) rfl ?_
                    refine g_dup2 S dX8_pass_427 rfl rfl ?_
                    refine g_ialdR S hC 3 i282 (by omega) (by decide) (by first | assumption | omega) 3 rfl (by decide) dX8_pass_428 ?_
                    refine g_const S dX8_pass_429 (v := 1) rfl ?_
                    refine g_iadd S dX8_pass_430 ?_
                    refine g_iastR S hC 3 i282 (by omega) (by decide) (by first | assumption | omega) 3 rfl (by decide) dX8_pass_431 ?_
                    refine g_nm (fun S19 hS19 => ?_)
                    refine g_aload_n S 6 dX8_pass_432 rfl ?_
                    refine g_dup S dX8_pass_433 rfl ?_
                    refine gg7 S hC hiX8 3 (by decide) (by decide +kernel) dX8_pass_434 ?_
                    refine g_const S dX8_pass_437 (v := 1) rfl ?_
                    refine g_iadd S dX8_pass_438 ?_
                    refine gp7 S hC hiX8 3 (by decide) (by decide +kernel) dX8_pass_439 ?_
                    refine g_nm (fun S20 hS20 => ?_)
                    refine g_aload_n S 6 dX8_pass_442 rfl ?_
                    refine g_dup S dX8_pass_443 rfl ?_
                    refine gg7 S hC hiX8 4 (by decide) (by decide +kernel) dX8_pass_444 ?_
                    refine g_iload S 0 dX8_pass_447 rfl ?_
                    refine g_aload_n S 6 dX8_pass_449 rfl ?_
                    refine gg7 S hC hiX8 5 (by decide) (by decide +kernel) dX8_pass_450 ?_
                    refine g_sel (pcj := 461) (rest := [.int (S20.1 29 4), .ref (E.2.2 29)]) (a := (0 : Int32)) (b := (1 : Int32)) (S20.1 29 5 ≤ (if (itr (stX8_pass_282) i282 S15).1 29 5 ≤ (itr (stX8_pass_282) i282 S15).1 31 1 then ((itr (stX8_pass_282) i282 S15).1 29 5) else ((itr (stX8_pass_282) i282 S15).1 31 1))) ?_ (fun hJ453 => ?_)
                    · skip
                      refine g_iadd S dX8_pass_461 ?_
                      refine gp7 S hC hiX8 4 (by decide) (by decide +kernel) dX8_pass_462 ?_
                      refine g_nm (fun S21 hS21 => ?_)
                      refine g_iinc S [(5, .int (1 : Int32)), (6, .int (if (itr (stX8_pass_282) i282 S15).1 29 5 ≤ (itr (stX8_pass_282) i282 S15).1 31 1 then ((itr (stX8_pass_282) i282 S15).1 29 5) else ((itr (stX8_pass_282) i282 S15).1 31 1))), (4, .ref (E.2.2 (48 + i282))), (3, .int (nI i282)), (2, .int (nI (gNo E 3))), (1, .ref (E.2.2 35)), (0, .ref (E.2.2 29))] 1 (1 : Int32) dX8_pass_465 rfl rfl (by decide) rfl ?_
                      refine g_goto S 313 dX8_pass_468 (by decide) ?_
                      refine g_iload S 0 dX8_pass_313 rfl ?_
                      refine g_const S dX8_pass_315 (v := 2) rfl ?_
                      refine g_icmp_ge S 471 dX8_pass_316 (by decide) (fun c_28 => absurd c_28 (by decide)) (fun c_28 => ?_)
                      refine g_aload S 2 dX8_pass_319 rfl ?_
                      refine g_const S dX8_pass_321 (v := 2) rfl ?_
                      refine g_ialdR S hC 3 i282 (by omega) (by decide) (by first | assumption | omega) 2 rfl (by decide) dX8_pass_322 ?_
                      refine g_if_le S 471 dX8_pass_323 (by decide) (fun c_29 => ?_) (fun c_29 => ?_)
                      · skip
                        refine g_iinc S [(3, .int (nI (i282 + 1))), (5, .int (1 : Int32)), (6, .int (if (itr (stX8_pass_282) i282 S15).1 29 5 ≤ (itr (stX8_pass_282) i282 S15).1 31 1 then ((itr (stX8_pass_282) i282 S15).1 29 5) else ((itr (stX8_pass_282) i282 S15).1 31 1))), (4, .ref (E.2.2 (48 + i282))), (2, .int (nI (gNo E 3))), (1, .ref (E.2.2 35)), (0, .ref (E.2.2 29))] 3 (nI (i282 + 1)) dX8_pass_471 rfl (by exact nI_1 i282) (by decide) rfl ?_
                        refine g_goto S 282 dX8_pass_474 (by decide) ?_
                        refine g_lvs [0, 4, 5, 6] (lv' := [(3, .int (nI (i282 + 1))), (2, .int (nI (gNo E 3))), (1, .ref (E.2.2 35)), (0, .ref (E.2.2 29))]) rfl ?_
                        exact g_to ih_i282 (by subst hS21 hS20 hS19 hS18 hS17 hS16; simp only [itr]; rw [stX8_pass_282]; (try dsimp only); first | (rw [if_neg c_21, if_neg c_23, if_pos c_25, if_pos c_26, if_pos c_29]; done) | (simp only [if_neg c_21, if_neg c_23, if_pos c_25, if_pos c_26, if_pos c_29])) (by subst hS21 hS20 hS19 hS18 hS17 hS16; rfl) rfl
                      · skip
                        refine g_aload_n S 6 dX8_pass_326 rfl ?_
                        refine gg7r S hC hiX8 2 31 (by decide) (by decide +kernel) dX8_pass_327 ?_
                        refine g_const S dX8_pass_330 (v := 1) rfl ?_
                        refine g_iald S hC (by decide) rfl 1 rfl (by decide) dX8_pass_331 ?_
                        refine g_aload_n S 6 dX8_pass_332 rfl ?_
                        refine gg7 S hC hiX8 5 (by decide) (by decide +kernel) dX8_pass_333 ?_
                        refine g_sel (pcj := 352) (rest := []) (a := S21.1 29 5) (b := S21.1 31 1) (S21.1 29 5 ≤ S21.1 31 1) ?_ (fun hJ336 => ?_)
                        · skip
                          refine g_istore S [(6, .int (if S21.1 29 5 ≤ S21.1 31 1 then (S21.1 29 5) else (S21.1 31 1))), (5, .int (1 : Int32)), (4, .ref (E.2.2 (48 + i282))), (3, .int (nI i282)), (2, .int (nI (gNo E 3))), (1, .ref (E.2.2 35)), (0, .ref (E.2.2 29))] dX8_pass_352 (by decide) rfl ?_
                          refine g_aload_n S 6 dX8_pass_354 rfl ?_
                          refine gg7r S hC hiX8 2 31 (by decide) (by decide +kernel) dX8_pass_355 ?_
                          refine g_const S dX8_pass_358 (v := 0) rfl ?_
                          refine g_iald S hC (by decide) rfl 0 rfl (by decide) dX8_pass_359 ?_
                          refine g_bipush S dX8_pass_360 (v := 10) rfl ?_
                          refine g_iload S 0 dX8_pass_362 rfl ?_
                          refine g_isub S dX8_pass_364 ?_
                          refine g_icmp_ge S 371 dX8_pass_365 (by decide) (fun c_31 => ?_) (fun c_31 => ?_)
                          · skip
                            refine g_iload S 0 dX8_pass_371 rfl ?_
                            refine g_aload S 2 dX8_pass_373 rfl ?_
                            refine g_const S dX8_pass_375 (v := 1) rfl ?_
                            refine g_ialdR S hC 3 i282 (by omega) (by decide) (by first | assumption | omega) 1 rfl (by decide) dX8_pass_376 ?_
                            refine g_icmp_ge S 391 dX8_pass_377 (by decide) (fun c_32 => ?_) (fun c_32 => ?_)
                            · skip
                              refine g_aload_n S 6 dX8_pass_391 rfl ?_
                              refine gg7r S hC hiX8 2 31 (by decide) (by decide +kernel) dX8_pass_392 ?_
                              refine g_const S dX8_pass_395 (v := 1) rfl ?_
                              refine g_dup2 S dX8_pass_396 rfl rfl ?_
                              refine g_iald S hC (by decide) rfl 1 rfl (by decide) dX8_pass_397 ?_
                              refine g_iload S 0 dX8_pass_398 rfl ?_
                              refine g_isub S dX8_pass_400 ?_
                              refine g_iast S hC (by decide) rfl 1 rfl (by decide) dX8_pass_401 ?_
                              refine g_nm (fun S22 hS22 => ?_)
                              refine g_aload_n S 6 dX8_pass_402 rfl ?_
                              refine gg7r S hC hiX8 2 31 (by decide) (by decide +kernel) dX8_pass_403 ?_
                              refine g_const S dX8_pass_406 (v := 0) rfl ?_
                              refine g_dup2 S dX8_pass_407 rfl rfl ?_
                              refine g_iald S hC (by decide) rfl 0 rfl (by decide) dX8_pass_408 ?_
                              refine g_bipush S dX8_pass_409 (v := 10) rfl ?_
                              refine g_iload S 0 dX8_pass_411 rfl ?_
                              refine g_isub S dX8_pass_413 ?_
                              refine g_isub S dX8_pass_414 ?_
                              refine g_iast S hC (by decide) rfl 0 rfl (by decide) dX8_pass_415 ?_
                              refine g_nm (fun S23 hS23 => ?_)
                              refine g_aload S 2 dX8_pass_416 rfl ?_
                              refine g_const S dX8_pass_418 (v := 2) rfl ?_
                              refine g_dup2 S dX8_pass_419 rfl rfl ?_
                              refine g_ialdR S hC 3 i282 (by omega) (by decide) (by first | assumption | omega) 2 rfl (by decide) dX8_pass_420 ?_
                              refine g_const S dX8_pass_421 (v := 1) rfl ?_
                              refine g_isub S dX8_pass_422 ?_
                              refine g_iastR S hC 3 i282 (by omega) (by decide) (by first | assumption | omega) 2 rfl (by decide) dX8_pass_423 ?_
                              refine g_nm (fun S24 hS24 => ?_)
                              refine g_aload S 2 dX8_pass_424 rfl ?_
                              refine g_const S dX8_pass_426 (v := 3) rfl ?_
                              refine g_dup2 S dX8_pass_427 rfl rfl ?_
                              refine g_ialdR S hC 3 i282 (by omega) (by decide) (by first | assumption | omega) 3 rfl (by decide) dX8_pass_428 ?_
                              refine g_const S dX8_pass_429 (v := 1) rfl ?_
                              refine g_iadd S dX8_pass_430 ?_
                              refine g_iastR S hC 3 i282 (by omega) (by decide) (by first | assumption | omega) 3 rfl (by decide) dX8_pass_431 ?_
                              refine g_nm (fun S25 hS25 => ?_)
                              refine g_aload_n S 6 dX8_pass_432 rfl ?_
                              refine g_dup S dX8_pass_433 rfl ?_
                              refine gg7 S hC hiX8 3 (by decide) (by decide +kernel) dX8_pass_434 ?_
                              refine g_const S dX8_pass_437 (v := 1) rfl ?_
                              refine g_iadd S dX8_pass_438 ?_
                              refine gp7 S hC hiX8 3 (by decide) (by decide +kernel) dX8_pass_439 ?_
                              refine g_nm (fun S26 hS26 => ?_)
                              refine g_aload_n S 6 dX8_pass_442 rfl ?_
                              refine g_dup S dX8_pass_443 rfl ?_
                              refine gg7 S hC hiX8 4 (by decide) (by decide +kernel) dX8_pass_444 ?_
                              refine g_iload S 0 dX8_pass_447 rfl ?_
                              refine g_aload_n S 6 dX8_pass_449 rfl ?_
                              refine gg7 S hC hiX8 5 (by decide) (by decide +kernel) dX8_pass_450 ?_
                              refine g_sel (pcj := 461) (rest := [.int (S26.1 29 4), .ref (E.2.2 29)]) (a := (0 : Int32)) (b := (1 : Int32)) (S26.1 29 5 ≤ (if S21.1 29 5 ≤ S21.1 31 1 then (S21.1 29 5) else (S21.1 31 1))) ?_ (fun hJ453 => ?_)
                              · skip
                                refine g_iadd S dX8_pass_461 ?_
                                refine gp7 S hC hiX8 4 (by decide) (by decide +kernel) dX8_pass_462 ?_
                                refine g_nm (fun S27 hS27 => ?_)
                                refine g_iinc S [(5, .int (2 : Int32)), (6, .int (if S21.1 29 5 ≤ S21.1 31 1 then (S21.1 29 5) else (S21.1 31 1))), (4, .ref (E.2.2 (48 + i282))), (3, .int (nI i282)), (2, .int (nI (gNo E 3))), (1, .ref (E.2.2 35)), (0, .ref (E.2.2 29))] 1 (2 : Int32) dX8_pass_465 rfl rfl (by decide) rfl ?_
                                refine g_goto S 313 dX8_pass_468 (by decide) ?_
                                refine g_iload S 0 dX8_pass_313 rfl ?_
                                refine g_const S dX8_pass_315 (v := 2) rfl ?_
                                refine g_icmp_ge S 471 dX8_pass_316 (by decide) (fun c_34 => ?_) (fun c_34 => absurd (by decide) c_34)
                                refine g_iinc S [(3, .int (nI (i282 + 1))), (5, .int (2 : Int32)), (6, .int (if S21.1 29 5 ≤ S21.1 31 1 then (S21.1 29 5) else (S21.1 31 1))), (4, .ref (E.2.2 (48 + i282))), (2, .int (nI (gNo E 3))), (1, .ref (E.2.2 35)), (0, .ref (E.2.2 29))] 3 (nI (i282 + 1)) dX8_pass_471 rfl (by exact nI_1 i282) (by decide) rfl ?_
                                refine g_goto S 282 dX8_pass_474 (by decide) ?_
                                refine g_lvs [0, 4, 5, 6] (lv' := [(3, .int (nI (i282 + 1))), (2, .int (nI (gNo E 3))), (1, .ref (E.2.2 35)), (0, .ref (E.2.2 29))]) rfl ?_
                                exact g_to ih_i282 (by subst hS27 hS26 hS25 hS24 hS23 hS22 hS21 hS20 hS19 hS18 hS17 hS16; simp only [itr]; rw [stX8_pass_282]; (try dsimp only); first | (rw [if_neg c_21, if_neg c_23, if_pos c_25, if_pos c_26, if_neg c_29, if_pos c_31, if_pos c_32]; done) | (simp only [if_neg c_21, if_neg c_23, if_pos c_25, if_pos c_26, if_neg c_29, if_pos c_31, if_pos c_32])) (by subst hS27 hS26 hS25 hS24 hS23 hS22 hS21 hS20 hS19 hS18 hS17 hS16; rfl) rfl
                              · skip
                                refine g_icmp_ge S 460 dX8_pass_453 (by decide) (fun c_33 => ?_) (fun c_33 => ?_)
                                · skip
                                  refine g_const S dX8_pass_460 (v := 0) rfl ?_
                                  exact hJ453.1 c_33
                                · skip
                                  refine g_const S dX8_pass_456 (v := 1) rfl ?_
                                  refine g_goto S 461 dX8_pass_457 (by decide) ?_
                                  exact hJ453.2 c_33
                            · skip
                              refine g_aload S 2 dX8_pass_380 rfl ?_
                              refine g_const S dX8_pass_382 (v := 4) rfl ?_
                              refine g_dup2 S dX8_pass_383 rfl rfl ?_
                              refine g_ialdR S hC 3 i282 (by omega) (by decide) (by first | assumption | omega) 4 rfl (by decide) dX8_pass_384 ?_
                              refine g_const S dX8_pass_385 (v := 1) rfl ?_
                              refine g_iadd S dX8_pass_386 ?_
                              refine g_iastR S hC 3 i282 (by omega) (by decide) (by first | assumption | omega) 4 rfl (by decide) dX8_pass_387 ?_
                              refine g_nm (fun S28 hS28 => ?_)
                              refine g_goto S 471 dX8_pass_388 (by decide) ?_
                              refine g_iinc S [(3, .int (nI (i282 + 1))), (6, .int (if S21.1 29 5 ≤ S21.1 31 1 then (S21.1 29 5) else (S21.1 31 1))), (5, .int (1 : Int32)), (4, .ref (E.2.2 (48 + i282))), (2, .int (nI (gNo E 3))), (1, .ref (E.2.2 35)), (0, .ref (E.2.2 29))] 3 (nI (i282 + 1)) dX8_pass_471 rfl (by exact nI_1 i282) (by decide) rfl ?_
                              refine g_goto S 282 dX8_pass_474 (by decide) ?_
                              refine g_lvs [0, 4, 5, 6] (lv' := [(3, .int (nI (i282 + 1))), (2, .int (nI (gNo E 3))), (1, .ref (E.2.2 35)), (0, .ref (E.2.2 29))]) rfl ?_
                              exact g_to ih_i282 (by subst hS28 hS21 hS20 hS19 hS18 hS17 hS16; simp only [itr]; rw [stX8_pass_282]; (try dsimp only); first | (rw [if_neg c_21, if_neg c_23, if_pos c_25, if_pos c_26, if_neg c_29, if_pos c_31, if_neg c_32]; done) | (simp only [if_neg c_21, if_neg c_23, if_pos c_25, if_pos c_26, if_neg c_29, if_pos c_31, if_neg c_32])) (by subst hS28 hS21 hS20 hS19 hS18 hS17 hS16; rfl) rfl
                          · skip
                            refine g_goto S 471 dX8_pass_368 (by decide) ?_
                            refine g_iinc S [(3, .int (nI (i282 + 1))), (6, .int (if S21.1 29 5 ≤ S21.1 31 1 then (S21.1 29 5) else (S21.1 31 1))), (5, .int (1 : Int32)), (4, .ref (E.2.2 (48 + i282))), (2, .int (nI (gNo E 3))), (1, .ref (E.2.2 35)), (0, .ref (E.2.2 29))] 3 (nI (i282 + 1)) dX8_pass_471 rfl (by exact nI_1 i282) (by decide) rfl ?_
                            refine g_goto S 282 dX8_pass_474 (by decide) ?_
                            refine g_lvs [0, 4, 5, 6] (lv' := [(3, .int (nI (i282 + 1))), (2, .int (nI (gNo E 3))), (1, .ref (E.2.2 35)), (0, .ref (E.2.2 29))]) rfl ?_
                            exact g_to ih_i282 (by subst hS21 hS20 hS19 hS18 hS17 hS16; simp only [itr]; rw [stX8_pass_282]; (try dsimp only); first | (rw [if_neg c_21, if_neg c_23, if_pos c_25, if_pos c_26, if_neg c_29, if_neg c_31]; done) | (simp only [if_neg c_21, if_neg c_23, if_pos c_25, if_pos c_26, if_neg c_29, if_neg c_31])) (by subst hS21 hS20 hS19 hS18 hS17 hS16; rfl) rfl
                        · skip
                          refine g_icmp_ge S 348 dX8_pass_336 (by decide) (fun c_30 => ?_) (fun c_30 => ?_)
                          · skip
                            refine g_aload_n S 6 dX8_pass_348 rfl ?_
                            refine gg7 S hC hiX8 5 (by decide) (by decide +kernel) dX8_pass_349 ?_
                            exact hJ336.1 c_30
                          · skip
                            refine g_aload_n S 6 dX8_pass_339 rfl ?_
                            refine gg7r S hC hiX8 2 31 (by decide) (by decide +kernel) dX8_pass_340 ?_
                            refine g_const S dX8_pass_343 (v := 1) rfl ?_
                            refine g_iald S hC (by decide) rfl 1 rfl (by decide) dX8_pass_344 ?_
                            refine g_goto S 352 dX8_pass_345 (by decide) ?_
                            exact hJ336.2 c_30
                    · skip
                      refine g_icmp_ge S 460 dX8_pass_453 (by decide) (fun c_27 => ?_) (fun c_27 => ?_)
                      · skip
                        refine g_const S dX8_pass_460 (v := 0) rfl ?_
                        exact hJ453.1 c_27
                      · skip
                        refine g_const S dX8_pass_456 (v := 1) rfl ?_
                        refine g_goto S 461 dX8_pass_457 (by decide) ?_
                        exact hJ453.2 c_27
                  · skip
                    refine g_aload S 2 dX8_pass_380 rfl ?_
                    refine g_const S dX8_pass_382 (v := 4) rfl ?_
                    refine g_dup2 S dX8_pass_383 rfl rfl ?_
                    refine g_ialdR S hC 3 i282 (by omega) (by decide) (by first | assumption | omega) 4 rfl (by decide) dX8_pass_384 ?_
                    refine g_const S dX8_pass_385 (v := 1) rfl ?_
                    refine g_iadd S dX8_pass_386 ?_
                    refine g_iastR S hC 3 i282 (by omega) (by decide) (by first | assumption | omega) 4 rfl (by decide) dX8_pass_387 ?_
                    refine g_nm (fun S29 hS29 => ?_)
                    refine g_goto S 471 dX8_pass_388 (by decide) ?_
                    refine g_iinc S [(3, .int (nI (i282 + 1))), (6, .int (if (itr (stX8_pass_282) i282 S15).1 29 5 ≤ (itr (stX8_pass_282) i282 S15).1 31 1 then ((itr (stX8_pass_282) i282 S15).1 29 5) else ((itr (stX8_pass_282) i282 S15).1 31 1))), (5, .int (0 : Int32)), (4, .ref (E.2.2 (48 + i282))), (2, .int (nI (gNo E 3))), (1, .ref (E.2.2 35)), (0, .ref (E.2.2 29))] 3 (nI (i282 + 1)) dX8_pass_471 rfl (by exact nI_1 i282) (by decide) rfl ?_
                    refine g_goto S 282 dX8_pass_474 (by decide) ?_
                    refine g_lvs [0, 4, 5, 6] (lv' := [(3, .int (nI (i282 + 1))), (2, .int (nI (gNo E 3))), (1, .ref (E.2.2 35)), (0, .ref (E.2.2 29))]) rfl ?_
                    exact g_to ih_i282 (by subst hS29; simp only [itr]; rw [stX8_pass_282]; (try dsimp only); first | (rw [if_neg c_21, if_neg c_23, if_pos c_25, if_neg c_26]; done) | (simp only [if_neg c_21, if_neg c_23, if_pos c_25, if_neg c_26])) (by subst hS29; rfl) rfl
                · skip
                  refine g_goto S 471 dX8_pass_368 (by decide) ?_
                  refine g_iinc S [(3, .int (nI (i282 + 1))), (6, .int (if (itr (stX8_pass_282) i282 S15).1 29 5 ≤ (itr (stX8_pass_282) i282 S15).1 31 1 then ((itr (stX8_pass_282) i282 S15).1 29 5) else ((itr (stX8_pass_282) i282 S15).1 31 1))), (5, .int (0 : Int32)), (4, .ref (E.2.2 (48 + i282))), (2, .int (nI (gNo E 3))), (1, .ref (E.2.2 35)), (0, .ref (E.2.2 29))] 3 (nI (i282 + 1)) dX8_pass_471 rfl (by exact nI_1 i282) (by decide) rfl ?_
                  refine g_goto S 282 dX8_pass_474 (by decide) ?_
                  refine g_lvs [0, 4, 5, 6] (lv' := [(3, .int (nI (i282 + 1))), (2, .int (nI (gNo E 3))), (1, .ref (E.2.2 35)), (0, .ref (E.2.2 29))]) rfl ?_
                  exact g_to ih_i282 (by simp only [itr]; rw [stX8_pass_282]; (try dsimp only); first | (rw [if_neg c_21, if_neg c_23, if_neg c_25]; done) | (simp only [if_neg c_21, if_neg c_23, if_neg c_25])) (by rfl) rfl
              · skip
                refine g_icmp_ge S 348 dX8_pass_336 (by decide) (fun c_24 => ?_) (fun c_24 => ?_)
                · skip
                  refine g_aload_n S 5 dX8_pass_348 rfl ?_
                  refine gg7 S hC hiX8 5 (by decide) (by decide +kernel) dX8_pass_349 ?_
                  exact hJ336.1 c_24
                · skip
                  refine g_aload_n S 5 dX8_pass_339 rfl ?_
                  refine gg7r S hC hiX8 2 31 (by decide) (by decide +kernel) dX8_pass_340 ?_
                  refine g_const S dX8_pass_343 (v := 1) rfl ?_
                  refine g_iald S hC (by decide) rfl 1 rfl (by decide) dX8_pass_344 ?_
                  refine g_goto S 352 dX8_pass_345 (by decide) ?_
                  exact hJ336.2 c_24
          · skip
            refine g_aload S 0 dX8_pass_302 rfl ?_
            refine g_const S dX8_pass_304 (v := 2) rfl ?_
            refine g_aload S 0 dX8_pass_305 rfl ?_
            refine g_const S dX8_pass_307 (v := 0) rfl ?_
            refine g_ialdR S hC 3 i282 (by omega) (by decide) (by first | assumption | omega) 0 rfl (by decide) dX8_pass_308 ?_
            refine g_iastR S hC 3 i282 (by omega) (by decide) (by first | assumption | omega) 2 rfl (by decide) dX8_pass_309 ?_
            refine g_nm (fun S30 hS30 => ?_)
            refine g_const S dX8_pass_310 (v := 0) rfl ?_
            refine g_istore S [(5, .int (0 : Int32)), (4, .ref (E.2.2 (48 + i282))), (3, .int (nI i282)), (2, .int (nI (gNo E 3))), (1, .ref (E.2.2 35)), (0, .ref (E.2.2 29))] dX8_pass_311 (by decide) rfl ?_
            refine g_iload S 0 dX8_pass_313 rfl ?_
            refine g_const S dX8_pass_315 (v := 2) rfl ?_
            refine g_icmp_ge S 471 dX8_pass_316 (by decide) (fun c_35 => absurd c_35 (by decide)) (fun c_35 => ?_)
            refine g_aload S 1 dX8_pass_319 rfl ?_
            refine g_const S dX8_pass_321 (v := 2) rfl ?_
            refine g_ialdR S hC 3 i282 (by omega) (by decide) (by first | assumption | omega) 2 rfl (by decide) dX8_pass_322 ?_
            refine g_if_le S 471 dX8_pass_323 (by decide) (fun c_36 => ?_) (fun c_36 => ?_)
            · skip
              refine g_iinc S [(3, .int (nI (i282 + 1))), (5, .int (0 : Int32)), (4, .ref (E.2.2 (48 + i282))), (2, .int (nI (gNo E 3))), (1, .ref (E.2.2 35)), (0, .ref (E.2.2 29))] 2 (nI (i282 + 1)) dX8_pass_471 rfl (by exact nI_1 i282) (by decide) rfl ?_
              refine g_goto S 282 dX8_pass_474 (by decide) ?_
              refine g_lvs [0, 3, 4, 5] (lv' := [(3, .int (nI (i282 + 1))), (2, .int (nI (gNo E 3))), (1, .ref (E.2.2 35)), (0, .ref (E.2.2 29))]) rfl ?_
              exact g_to ih_i282 (by subst hS30; simp only [itr]; rw [stX8_pass_282]; (try dsimp only); first | (rw [if_pos c_21, if_pos c_36]; done) | (simp only [if_pos c_21, if_pos c_36])) (by subst hS30; rfl) rfl
            · skip
              refine g_aload_n S 5 dX8_pass_326 rfl ?_
              refine gg7r S hC hiX8 2 31 (by decide) (by decide +kernel) dX8_pass_327 ?_
              refine g_const S dX8_pass_330 (v := 1) rfl ?_
              refine g_iald S hC (by decide) rfl 1 rfl (by decide) dX8_pass_331 ?_
              refine g_aload_n S 5 dX8_pass_332 rfl ?_
              refine gg7 S hC hiX8 5 (by decide) (by decide +kernel) dX8_pass_333 ?_
              refine g_sel (pcj := 352) (rest := []) (a := S30.1 29 5) (b := S30.1 31 1) (S30.1 29 5 ≤ S30.1 31 1) ?_ (fun hJ336 => ?_)
              · skip
                refine g_istore S [(6, .int (if S30.1 29 5 ≤ S30.1 31 1 then (S30.1 29 5) else (S30.1 31 1))), (5, .int (0 : Int32)), (4, .ref (E.2.2 (48 + i282))), (3, .int (nI i282)), (2, .int (nI (gNo E 3))), (1, .ref (E.2.2 35)), (0, .ref (E.2.2 29))] dX8_pass_352 (by decide) rfl ?_
                refine g_aload_n S 6 dX8_pass_354 rfl ?_
                refine gg7r S hC hiX8 2 31 (by decide) (by decide +kernel) dX8_pass_355 ?_
                refine g_const S dX8_pass_358 (v := 0) rfl ?_
                refine g_iald S hC (by decide) rfl 0 rfl (by decide) dX8_pass_359 ?_
                refine g_bipush S dX8_pass_360 (v := 10) rfl ?_
                refine g_iload S 0 dX8_pass_362 rfl ?_
                refine g_isub S dX8_pass_364 ?_
                refine g_icmp_ge S 371 dX8_pass_365 (by decide) (fun c_38 => ?_) (fun c_38 => ?_)
                · skip
                  refine g_iload S 0 dX8_pass_371 rfl ?_
                  refine g_aload S 2 dX8_pass_373 rfl ?_
                  refine g_const S dX8_pass_375 (v := 1) rfl ?_
                  refine g_ialdR S hC 3 i282 (by omega) (by decide) (by first | assumption | omega) 1 rfl (by decide) dX8_pass_376 ?_
                  refine g_icmp_ge S 391 dX8_pass_377 (by decide) (fun c_39 => ?_) (fun c_39 => ?_)
                  · skip
                    refine g_aload_n S 6 dX8_pass_391 rfl ?_
                    refine gg7r S hC hiX8 2 31 (by decide) (by decide +kernel) dX8_pass_392 ?_
                    refine g_const S dX8_pass_395 (v := 1) rfl ?_
                    refine g_dup2 S dX8_pass_396 rfl rfl ?_
                    refine g_iald S hC (by decide) rfl 1 rfl (by decide) dX8_pass_397 ?_
                    refine g_iload S 0 dX8_pass_398 rfl ?_
                    refine g_isub S dX8_pass_400 ?_
                    refine g_iast S hC (by decide) rfl 1 rfl (by decide) dX8_pass_401 ?_
                    refine g_nm (fun S31 hS31 => ?_)
                    refine g_aload_n S 6 dX8_pass_402 rfl ?_
                    refine gg7r S hC hiX8 2 31 (by decide) (by decide +kernel) dX8_pass_403 ?_
                    refine g_const S dX8_pass_406 (v := 0) rfl ?_
                    refine g_dup2 S dX8_pass_407 rfl rfl ?_
                    refine g_iald S hC (by decide) rfl 0 rfl (by decide) dX8_pass_408 ?_
                    refine g_bipush S dX8_pass_409 (v := 10) rfl ?_
                    refine g_iload S 0 dX8_pass_411 rfl ?_
                    refine g_isub S dX8_pass_413 ?_
                    refine g_isub S dX8_pass_414 ?_
                    refine g_iast S hC (by decide) rfl 0 rfl (by decide) dX8_pass_415 ?_
                    refine g_nm (fun S32 hS32 => ?_)
                    refine g_aload S 2 dX8_pass_416 rfl ?_
                    refine g_const S dX8_pass_418 (v := 2) rfl ?_
                    refine g_dup2 S dX8_pass_419 rfl rfl ?_
                    refine g_ialdR S hC 3 i282 (by omega) (by decide) (by first | assumption | omega) 2 rfl (by decide) dX8_pass_420 ?_
                    refine g_const S dX8_pass_421 (v := 1) rfl ?_
                    refine g_isub S dX8_pass_422 ?_
                    refine g_iastR S hC 3 i282 (by omega) (by decide) (by first | assumption | omega) 2 rfl (by decide) dX8_pass_423 ?_
                    refine g_nm (fun S33 hS33 => ?_)
                    refine g_aload S 2 dX8_pass_424 rfl ?_
                    refine g_const S dX8_pass_426 (v := 3) rfl ?_
                    refine g_dup2 S dX8_pass_427 rfl rfl ?_
                    refine g_ialdR S hC 3 i282 (by omega) (by decide) (by first | assumption | omega) 3 rfl (by decide) dX8_pass_428 ?_
                    refine g_const S dX8_pass_429 (v := 1) rfl ?_
                    refine g_iadd S dX8_pass_430 ?_
                    refine g_iastR S hC 3 i282 (by omega) (by decide) (by first | assumption | omega) 3 rfl (by decide) dX8_pass_431 ?_
                    refine g_nm (fun S34 hS34 => ?_)
                    refine g_aload_n S 6 dX8_pass_432 rfl ?_
                    refine g_dup S dX8_pass_433 rfl ?_
                    refine gg7 S hC hiX8 3 (by decide) (by decide +kernel) dX8_pass_434 ?_
                    refine g_const S dX8_pass_437 (v := 1) rfl ?_
                    refine g_iadd S dX8_pass_438 ?_
                    refine gp7 S hC hiX8 3 (by decide) (by decide +kernel) dX8_pass_439 ?_
                    refine g_nm (fun S35 hS35 => ?_)
                    refine g_aload_n S 6 dX8_pass_442 rfl ?_
                    refine g_dup S dX8_pass_443 rfl ?_
                    refine gg7 S hC hiX8 4 (by decide) (by decide +kernel) dX8_pass_444 ?_
                    refine g_iload S 0 dX8_pass_447 rfl ?_
                    refine g_aload_n S 6 dX8_pass_449 rfl ?_
                    refine gg7 S hC hiX8 5 (by decide) (by decide +kernel) dX8_pass_450 ?_
                    refine g_sel (pcj := 461) (rest := [.int (S35.1 29 4), .ref (E.2.2 29)]) (a := (0 : Int32)) (b := (1 : Int32)) (S35.1 29 5 ≤ (if S30.1 29 5 ≤ S30.1 31 1 then (S30.1 29 5) else (S30.1 31 1))) ?_ (fun hJ453 => ?_)
                    · skip
                      refine g_iadd S dX8_pass_461 ?_
                      refine gp7 S hC hiX8 4 (by decide) (by decide +kernel) dX8_pass_462 ?_
                      refine g_nm (fun S36 hS36 => ?_)
                      refine g_iinc S [(5, .int (1 : Int32)), (6, .int (if S30.1 29 5 ≤ S30.1 31 1 then (S30.1 29 5) else (S30.1 31 1))), (4, .ref (E.2.2 (48 + i282))), (3, .int (nI i282)), (2, .int (nI (gNo E 3))), (1, .ref (E.2.2 35)), (0, .ref (E.2.2 29))] 1 (1 : Int32) dX8_pass_465 rfl rfl (by decide) rfl ?_
                      refine g_goto S 313 dX8_pass_468 (by decide) ?_
                      refine g_iload S 0 dX8_pass_313 rfl ?_
                      refine g_const S dX8_pass_315 (v := 2) rfl ?_
                      refine g_icmp_ge S 471 dX8_pass_316 (by decide) (fun c_41 => absurd c_41 (by decide)) (fun c_41 => ?_)
                      refine g_aload S 2 dX8_pass_319 rfl ?_
                      refine g_const S dX8_pass_321 (v := 2) rfl ?_
                      refine g_ialdR S hC 3 i282 (by omega) (by decide) (by first | assumption | omega) 2 rfl (by decide) dX8_pass_322 ?_
                      refine g_if_le S 471 dX8_pass_323 (by decide) (fun c_42 => ?_) (fun c_42 => ?_)
                      · skip
                        refine g_iinc S [(3, .int (nI (i282 + 1))), (5, .int (1 : Int32)), (6, .int (if S30.1 29 5 ≤ S30.1 31 1 then (S30.1 29 5) else (S30.1 31 1))), (4, .ref (E.2.2 (48 + i282))), (2, .int (nI (gNo E 3))), (1, .ref (E.2.2 35)), (0, .ref (E.2.2 29))] 3 (nI (i282 + 1)) dX8_pass_471 rfl (by exact nI_1 i282) (by decide) rfl ?_
                        refine g_goto S 282 dX8_pass_474 (by decide) ?_
                        refine g_lvs [0, 4, 5, 6] (lv' := [(3, .int (nI (i282 + 1))), (2, .int (nI (gNo E 3))), (1, .ref (E.2.2 35)), (0, .ref (E.2.2 29))]) rfl ?_
                        exact g_to ih_i282 (by subst hS36 hS35 hS34 hS33 hS32 hS31 hS30; simp only [itr]; rw [stX8_pass_282]; (try dsimp only); first | (rw [if_pos c_21, if_neg c_36, if_pos c_38, if_pos c_39, if_pos c_42]; done) | (simp only [if_pos c_21, if_neg c_36, if_pos c_38, if_pos c_39, if_pos c_42])) (by subst hS36 hS35 hS34 hS33 hS32 hS31 hS30; rfl) rfl
                      · skip
                        refine g_aload_n S 6 dX8_pass_326 rfl ?_
                        refine gg7r S hC hiX8 2 31 (by decide) (by decide +kernel) dX8_pass_327 ?_
                        refine g_const S dX8_pass_330 (v := 1) rfl ?_
                        refine g_iald S hC (by decide) rfl 1 rfl (by decide) dX8_pass_331 ?_
                        refine g_aload_n S 6 dX8_pass_332 rfl ?_
                        refine gg7 S hC hiX8 5 (by decide) (by decide +kernel) dX8_pass_333 ?_
                        refine g_sel (pcj := 352) (rest := []) (a := S36.1 29 5) (b := S36.1 31 1) (S36.1 29 5 ≤ S36.1 31 1) ?_ (fun hJ336 => ?_)
                        · skip
                          refine g_istore S [(6, .int (if S36.1 29 5 ≤ S36.1 31 1 then (S36.1 29 5) else (S36.1 31 1))), (5, .int (1 : Int32)), (4, .ref (E.2.2 (48 + i282))), (3, .int (nI i282)), (2, .int (nI (gNo E 3))), (1, .ref (E.2.2 35)), (0, .ref (E.2.2 29))] dX8_pass_352 (by decide) rfl ?_
                          refine g_aload_n S 6 dX8_pass_354 rfl ?_
                          refine gg7r S hC hiX8 2 31 (by decide) (by decide +kernel) dX8_pass_355 ?_
                          refine g_const S dX8_pass_358 (v := 0) rfl ?_
                          refine g_iald S hC (by decide) rfl 0 rfl (by decide) dX8_pass_359 ?_
                          refine g_bipush S dX8_pass_360 (v := 10) rfl ?_
                          refine g_iload S 0 dX8_pass_362 rfl ?_
                          refine g_isub S dX8_pass_364 ?_
                          refine g_icmp_ge S 371 dX8_pass_365 (by decide) (fun c_44 => ?_) (fun c_44 => ?_)
                          · skip
                            refine g_iload S 0 dX8_pass_371 rfl ?_
                            refine g_aload S 2 dX8_pass_373 rfl ?_
                            refine g_const S dX8_pass_375 (v := 1) rfl ?_
                            refine g_ialdR S hC 3 i282 (by omega) (by decide) (by first | assumption | omega) 1 rfl (by decide) dX8_pass_376 ?_
                            refine g_icmp_ge S 391 dX8_pass_377 (by decide) (fun c_45 => ?_) (fun c_45 => ?_)
                            · skip
                              refine g_aload_n S 6 dX8_pass_391 rfl ?_
                              refine gg7r S hC hiX8 2 31 (by decide) (by decide +kernel) dX8_pass_392 ?_
                              refine g_const S dX8_pass_395 (v := 1) rfl ?_
                              refine g_dup2 S dX8_pass_396 rfl rfl ?_
                              refine g_iald S hC (by decide) rfl 1 rfl (by decide) dX8_pass_397 ?_
                              refine g_iload S 0 dX8_pass_398 rfl ?_
                              refine g_isub S dX8_pass_400 ?_
                              refine g_iast S hC (by decide) rfl 1 rfl (by decide) dX8_pass_401 ?_
                              refine g_nm (fun S37 hS37 => ?_)
                              refine g_aload_n S 6 dX8_pass_402 rfl ?_
                              refine gg7r S hC hiX8 2 31 (by decide) (by decide +kernel) dX8_pass_403 ?_
                              refine g_const S dX8_pass_406 (v := 0) rfl ?_
                              refine g_dup2 S dX8_pass_407 rfl rfl ?_
                              refine g_iald S hC (by decide) rfl 0 rfl (by decide) dX8_pass_408 ?_
                              refine g_bipush S dX8_pass_409 (v := 10) rfl ?_
                              refine g_iload S 0 dX8_pass_411 rfl ?_
                              refine g_isub S dX8_pass_413 ?_
                              refine g_isub S dX8_pass_414 ?_
                              refine g_iast S hC (by decide) rfl 0 rfl (by decide) dX8_pass_415 ?_
                              refine g_nm (fun S38 hS38 => ?_)
                              refine g_aload S 2 dX8_pass_416 rfl ?_
                              refine g_const S dX8_pass_418 (v := 2) rfl ?_
                              refine g_dup2 S dX8_pass_419 rfl rfl ?_
                              refine g_ialdR S hC 3 i282 (by omega) (by decide) (by first | assumption | omega) 2 rfl (by decide) dX8_pass_420 ?_
                              refine g_const S dX8_pass_421 (v := 1) rfl ?_
                              refine g_isub S dX8_pass_422 ?_
                              refine g_iastR S hC 3 i282 (by omega) (by decide) (by first | assumption | omega) 2 rfl (by decide) dX8_pass_423 ?_
                              refine g_nm (fun S39 hS39 => ?_)
                              refine g_aload S 2 dX8_pass_424 rfl ?_
                              refine g_const S dX8_pass_426 (v := 3) rfl ?_
                              refine g_dup2 S dX8_pass_427 rfl rfl ?_
                              refine g_ialdR S hC 3 i282 (by omega) (by decide) (by first | assumption | omega) 3 rfl (by decide) dX8_pass_428 ?_
                              refine g_const S dX8_pass_429 (v := 1) rfl ?_
                              refine g_iadd S dX8_pass_430 ?_
                              refine g_iastR S hC 3 i282 (by omega) (by decide) (by first | assumption | omega) 3 rfl (by decide) dX8_pass_431 ?_
                              refine g_nm (fun S40 hS40 => ?_)
                              refine g_aload_n S 6 dX8_pass_432 rfl ?_
                              refine g_dup S dX8_pass_433 rfl ?_
                              refine gg7 S hC hiX8 3 (by decide) (by decide +kernel) dX8_pass_434 ?_
                              refine g_const S dX8_pass_437 (v := 1) rfl ?_
                              refine g_iadd S dX8_pass_438 ?_
                              refine gp7 S hC hiX8 3 (by decide) (by decide +kernel) dX8_pass_439 ?_
                              refine g_nm (fun S41 hS41 => ?_)
                              refine g_aload_n S 6 dX8_pass_442 rfl ?_
                              refine g_dup S dX8_pass_443 rfl ?_
                              refine gg7 S hC hiX8 4 (by decide) (by decide +kernel) dX8_pass_444 ?_
                              refine g_iload S 0 dX8_pass_447 rfl ?_
                              refine g_aload_n S 6 dX8_pass_449 rfl ?_
                              refine gg7 S hC hiX8 5 (by decide) (by decide +kernel) dX8_pass_450 ?_
                              refine g_sel (pcj := 461) (rest := [.int (S41.1 29 4), .ref (E.2.2 29)]) (a := (0 : Int32)) (b := (1 : Int32)) (S41.1 29 5 ≤ (if S36.1 29 5 ≤ S36.1 31 1 then (S36.1 29 5) else (S36.1 31 1))) ?_ (fun hJ453 => ?_)
                              · skip
                                refine g_iadd S dX8_pass_461 ?_
                                refine gp7 S hC hiX8 4 (by decide) (by decide +kernel) dX8_pass_462 ?_
                                refine g_nm (fun S42 hS42 => ?_)
                                refine g_iinc S [(5, .int (2 : Int32)), (6, .int (if S36.1 29 5 ≤ S36.1 31 1 then (S36.1 29 5) else (S36.1 31 1))), (4, .ref (E.2.2 (48 + i282))), (3, .int (nI i282)), (2, .int (nI (gNo E 3))), (1, .ref (E.2.2 35)), (0, .ref (E.2.2 29))] 1 (2 : Int32) dX8_pass_465 rfl rfl (by decide) rfl ?_
                                refine g_goto S 313 dX8_pass_468 (by decide) ?_
                                refine g_iload S 0 dX8_pass_313 rfl ?_
                                refine g_const S dX8_pass_315 (v := 2) rfl ?_
                                refine g_icmp_ge S 471 dX8_pass_316 (by decide) (fun c_47 => ?_) (fun c_47 => absurd (by decide) c_47)
                                refine g_iinc S [(3, .int (nI (i282 + 1))), (5, .int (2 : Int32)), (6, .int (if S36.1 29 5 ≤ S36.1 31 1 then (S36.1 29 5) else (S36.1 31 1))), (4, .ref (E.2.2 (48 + i282))), (2, .int (nI (gNo E 3))), (1, .ref (E.2.2 35)), (0, .ref (E.2.2 29))] 3 (nI (i282 + 1)) dX8_pass_471 rfl (by exact nI_1 i282) (by decide) rfl ?_
                                refine g_goto S 282 dX8_pass_474 (by decide) ?_
                                refine g_lvs [0, 4, 5, 6] (lv' := [(3, .int (nI (i282 + 1))), (2, .int (nI (gNo E 3))), (1, .ref (E.2.2 35)), (0, .ref (E.2.2 29))]) rfl ?_
                                exact g_to ih_i282 (by subst hS42 hS41 hS40 hS39 hS38 hS37 hS36 hS35 hS34 hS33 hS32 hS31 hS30; simp only [itr]; rw [stX8_pass_282]; (try dsimp only); first | (rw [if_pos c_21, if_neg c_36, if_pos c_38, if_pos c_39, if_neg c_42, if_pos c_44, if_pos c_45]; done) | (simp only [if_pos c_21, if_neg c_36, if_pos c_38, if_pos c_39, if_neg c_42, if_pos c_44, if_pos c_45])) (by subst hS42 hS41 hS40 hS39 hS38 hS37 hS36 hS35 hS34 hS33 hS32 hS31 hS30; rfl) rfl
                              · skip
                                refine g_icmp_ge S 460 dX8_pass_453 (by decide) (fun c_46 => ?_) (fun c_46 => ?_)
                                · skip
                                  refine g_const S dX8_pass_460 (v := 0) rfl ?_
                                  exact hJ453.1 c_46
                                · skip
                                  refine g_const S dX8_pass_456 (v := 1) rfl ?_
                                  refine g_goto S 461 dX8_pass_457 (by decide) ?_
                                  exact hJ453.2 c_46
                            · skip
                              refine g_aload S 2 dX8_pass_380 rfl ?_
                              refine g_const S dX8_pass_382 (v := 4) rfl ?_
                              refine g_dup2 S dX8_pass_383 rfl rfl ?_
                              refine g_ialdR S hC 3 i282 (by omega) (by decide) (by first | assumption | omega) 4 rfl (by decide) dX8_pass_384 ?_
                              refine g_const S dX8_pass_385 (v := 1) rfl ?_
                              refine g_iadd S dX8_pass_386 ?_
                              refine g_iastR S hC 3 i282 (by omega) (by decide) (by first | assumption | omega) 4 rfl (by decide) dX8_pass_387 ?_
                              refine g_nm (fun S43 hS43 => ?_)
                              refine g_goto S 471 dX8_pass_388 (by decide) ?_
                              refine g_iinc S [(3, .int (nI (i282 + 1))), (6, .int (if S36.1 29 5 ≤ S36.1 31 1 then (S36.1 29 5) else (S36.1 31 1))), (5, .int (1 : Int32)), (4, .ref (E.2.2 (48 + i282))), (2, .int (nI (gNo E 3))), (1, .ref (E.2.2 35)), (0, .ref (E.2.2 29))] 3 (nI (i282 + 1)) dX8_pass_471 rfl (by exact nI_1 i282) (by decide) rfl ?_
                              refine g_goto S 282 dX8_pass_474 (by decide) ?_
                              refine g_lvs [0, 4, 5, 6] (lv' := [(3, .int (nI (i282 + 1))), (2, .int (nI (gNo E 3))), (1, .ref (E.2.2 35)), (0, .ref (E.2.2 29))]) rfl ?_
                              exact g_to ih_i282 (by subst hS43 hS36 hS35 hS34 hS33 hS32 hS31 hS30; simp only [itr]; rw [stX8_pass_282]; (try dsimp only); first | (rw [if_pos c_21, if_neg c_36, if_pos c_38, if_pos c_39, if_neg c_42, if_pos c_44, if_neg c_45]; done) | (simp only [if_pos c_21, if_neg c_36, if_pos c_38, if_pos c_39, if_neg c_42, if_pos c_44, if_neg c_45])) (by subst hS43 hS36 hS35 hS34 hS33 hS32 hS31 hS30; rfl) rfl
                          · skip
                            refine g_goto S 471 dX8_pass_368 (by decide) ?_
                            refine g_iinc S [(3, .int (nI (i282 + 1))), (6, .int (if S36.1 29 5 ≤ S36.1 31 1 then (S36.1 29 5) else (S36.1 31 1))), (5, .int (1 : Int32)), (4, .ref (E.2.2 (48 + i282))), (2, .int (nI (gNo E 3))), (1, .ref (E.2.2 35)), (0, .ref (E.2.2 29))] 3 (nI (i282 + 1)) dX8_pass_471 rfl (by exact nI_1 i282) (by decide) rfl ?_
                            refine g_goto S 282 dX8_pass_474 (by decide) ?_
                            refine g_lvs [0, 4, 5, 6] (lv' := [(3, .int (nI (i282 + 1))), (2, .int (nI (gNo E 3))), (1, .ref (E.2.2 35)), (0, .ref (E.2.2 29))]) rfl ?_
                            exact g_to ih_i282 (by subst hS36 hS35 hS34 hS33 hS32 hS31 hS30; simp only [itr]; rw [stX8_pass_282]; (try dsimp only); first | (rw [if_pos c_21, if_neg c_36, if_pos c_38, if_pos c_39, if_neg c_42, if_neg c_44]; done) | (simp only [if_pos c_21, if_neg c_36, if_pos c_38, if_pos c_39, if_neg c_42, if_neg c_44])) (by subst hS36 hS35 hS34 hS33 hS32 hS31 hS30; rfl) rfl
                        · skip
                          refine g_icmp_ge S 348 dX8_pass_336 (by decide) (fun c_43 => ?_) (fun c_43 => ?_)
                          · skip
                            refine g_aload_n S 6 dX8_pass_348 rfl ?_
                            refine gg7 S hC hiX8 5 (by decide) (by decide +kernel) dX8_pass_349 ?_
                            exact hJ336.1 c_43
                          · skip
                            refine g_aload_n S 6 dX8_pass_339 rfl ?_
                            refine gg7r S hC hiX8 2 31 (by decide) (by decide +kernel) dX8_pass_340 ?_
                            refine g_const S dX8_pass_343 (v := 1) rfl ?_
                            refine g_iald S hC (by decide) rfl 1 rfl (by decide) dX8_pass_344 ?_
                            refine g_goto S 352 dX8_pass_345 (by decide) ?_
                            exact hJ336.2 c_43
                    · skip
                      refine g_icmp_ge S 460 dX8_pass_453 (by decide) (fun c_40 => ?_) (fun c_40 => ?_)
                      · skip
                        refine g_const S dX8_pass_460 (v := 0) rfl ?_
                        exact hJ453.1 c_40
                      · skip
                        refine g_const S dX8_pass_456 (v := 1) rfl ?_
                        refine g_goto S 461 dX8_pass_457 (by decide) ?_
                        exact hJ453.2 c_40
                  · skip
                    refine g_aload S 2 dX8_pass_380 rfl ?_
                    refine g_const S dX8_pass_382 (v := 4) rfl ?_
                    refine g_dup2 S dX8_pass_383 rfl rfl ?_
                    refine g_ialdR S hC 3 i282 (by omega) (by decide) (by first | assumption | omega) 4 rfl (by decide) dX8_pass_384 ?_
                    refine g_const S dX8_pass_385 (v := 1) rfl ?_
                    refine g_iadd S dX8_pass_386 ?_
                    refine g_iastR S hC 3 i282 (by omega) (by decide) (by first | assumption | omega) 4 rfl (by decide) dX8_pass_387 ?_
                    refine g_nm (fun S44 hS44 => ?_)
                    refine g_goto S 471 dX8_pass_388 (by decide) ?_
                    refine g_iinc S [(3, .int (nI (i282 + 1))), (6, .int (if S30.1 29 5 ≤ S30.1 31 1 then (S30.1 29 5) else (S30.1 31 1))), (5, .int (0 : Int32)), (4, .ref (E.2.2 (48 + i282))), (2, .int (nI (gNo E 3))), (1, .ref (E.2.2 35)), (0, .ref (E.2.2 29))] 3 (nI (i282 + 1)) dX8_pass_471 rfl (by exact nI_1 i282) (by decide) rfl ?_
                    refine g_goto S 282 dX8_pass_474 (by decide) ?_
                    refine g_lvs [0, 4, 5, 6] (lv' := [(3, .int (nI (i282 + 1))), (2, .int (nI (gNo E 3))), (1, .ref (E.2.2 35)), (0, .ref (E.2.2 29))]) rfl ?_
                    exact g_to ih_i282 (by subst hS44 hS30; simp only [itr]; rw [stX8_pass_282]; (try dsimp only); first | (rw [if_pos c_21, if_neg c_36, if_pos c_38, if_neg c_39]; done) | (simp only [if_pos c_21, if_neg c_36, if_pos c_38, if_neg c_39])) (by subst hS44 hS30; rfl) rfl
                · skip
                  refine g_goto S 471 dX8_pass_368 (by decide) ?_
                  refine g_iinc S [(3, .int (nI (i282 + 1))), (6, .int (if S30.1 29 5 ≤ S30.1 31 1 then (S30.1 29 5) else (S30.1 31 1))), (5, .int (0 : Int32)), (4, .ref (E.2.2 (48 + i282))), (2, .int (nI (gNo E 3))), (1, .ref (E.2.2 35)), (0, .ref (E.2.2 29))] 3 (nI (i282 + 1)) dX8_pass_471 rfl (by exact nI_1 i282) (by decide) rfl ?_
                  refine g_goto S 282 dX8_pass_474 (by decide) ?_
                  refine g_lvs [0, 4, 5, 6] (lv' := [(3, .int (nI (i282 + 1))), (2, .int (nI (gNo E 3))), (1, .ref (E.2.2 35)), (0, .ref (E.2.2 29))]) rfl ?_
                  exact g_to ih_i282 (by subst hS30; simp only [itr]; rw [stX8_pass_282]; (try dsimp only); first | (rw [if_pos c_21, if_neg c_36, if_neg c_38]; done) | (simp only [if_pos c_21, if_neg c_36, if_neg c_38])) (by subst hS30; rfl) rfl
              · skip
                refine g_icmp_ge S 348 dX8_pass_336 (by decide) (fun c_37 => ?_) (fun c_37 => ?_)
                · skip
                  refine g_aload_n S 5 dX8_pass_348 rfl ?_
                  refine gg7 S hC hiX8 5 (by decide) (by decide +kernel) dX8_pass_349 ?_
                  exact hJ336.1 c_37
                · skip
                  refine g_aload_n S 5 dX8_pass_339 rfl ?_
                  refine gg7r S hC hiX8 2 31 (by decide) (by decide +kernel) dX8_pass_340 ?_
                  refine g_const S dX8_pass_343 (v := 1) rfl ?_
                  refine g_iald S hC (by decide) rfl 1 rfl (by decide) dX8_pass_344 ?_
                  refine g_goto S 352 dX8_pass_345 (by decide) ?_
                  exact hJ336.2 c_37
        · skip
          (try dsimp only)
          refine g_nm (fun S45 hS45 => ?_)
          refine g_iload_n S 0 dX8_pass_282 rfl ?_
          refine g_iload_n S 1 dX8_pass_283 rfl ?_
          refine g_icmp_ge S 477 dX8_pass_284 (by decide) (fun c_48 => ?_) (fun c_48 => absurd (nI_le (Nat.le_refl _) (gNo_lt hC (by decide))) c_48)
          refine g_aload_n S 3 dX8_pass_477 rfl ?_
          refine g_dup S dX8_pass_478 rfl ?_
          refine gg7 S hC hiX8 0 (by decide) (by decide +kernel) dX8_pass_479 ?_
          refine g_const S dX8_pass_482 (v := 1) rfl ?_
          refine g_iadd S dX8_pass_483 ?_
          refine gp7 S hC hiX8 0 (by decide) (by decide +kernel) dX8_pass_484 ?_
          refine g_nm (fun S46 hS46 => ?_)
          exact g_vret S hr hlocks dX8_pass_487 (by subst hS46 hS45 hS15 hS13 hS11; rfl) (Nat.le_of_ble_eq_true rfl) (Nat.le_of_ble_eq_true rfl)
theorem dX8_pass {σ : gS} {E : gT} : (sX8_pass_s σ E).1 29 0 = σ.1 29 0 + 1 := by
  unfold sX8_pass_s
  dsimp only
  rw [gu_at, if_pos rfl]
  rw [itr_keep (stX8_pass_282) (fun x : gS => x.1 29 0) (fun j x => fstX8_pass_282)]
  rw [congrFun (itr_keep (stX8_pass_220) (fun x : gS => x.1 29) (fun j x => fstX8_pass_220) _ _) 0]
  rw [congrFun (itr_keep (stX8_pass_145) (fun x : gS => x.1 29) (fun j x => fstX8_pass_145) _ _) 0]
  rw [congrFun (itr_keep (stX8_pass_10) (fun x : gS => x.1 29) (fun j x => fstX8_pass_10) _ _) 0]
theorem dX8_passB {σ : gS} {E : gT} {k : Nat} (h : dB σ (k + 1)) : dB (sX8_pass_s σ E) k := h.next dX8_pass
def stX8_behind_2 (d : Nat) (E : gT) (j : Nat) (τ : gS) : gS := let S1201 := sX8_pass_s τ E; S1201
def sX8_behind_s (σ : gS) (d : Nat) (E : gT) : gS := (itr (stX8_behind_2 d E) d σ)
set_option maxRecDepth 100000 in
set_option maxHeartbeats 4000000 in
theorem kX8_behind (l : Launch) (E : gT) (σ : gS) (d : Nat) (hd : d < 61) (hdy : dB σ d) : gMr l yX8_behind wsX8_behind ({ frames := 2, cells := 0, slots := 0, locals := 47 }) 0 0 E σ [.ref (E.2.2 29), .int (nI d)] (E.2.2 29) (sX8_behind_s σ d E) := by
  refine g_met (mc := 0) (ms := 0) (nL := 3) (ret := (some (.object "ChicoryRoastersLaw$Sim"))) (by decide) rfl (lv := [(0, .ref (E.2.2 29)), (1, .int (nI d))]) rfl (Nat.le_of_ble_eq_true rfl) ?_
  intro p e s m below meth c S hr hlocks hC
  refine g_const S dX8_behind_0 (v := 0) rfl ?_
  refine g_istore_n S [(2, .int (0 : Int32)), (0, .ref (E.2.2 29)), (1, .int (nI d))] dX8_behind_1 (by decide) rfl ?_
  refine g_lvs [0, 1, 2] (lv' := [(2, .int (0 : Int32)), (0, .ref (E.2.2 29)), (1, .int (nI d))]) rfl ?_
  have hdF : ∀ i, i ≤ d → dB (itr (stX8_behind_2 d E) i σ) (d - i) := fun i hi => dB_itr (fun j x k h => by unfold stX8_behind_2; exact dX8_passB h) i hi hdy
  refine g_loop d (fun i2 : Nat => (itr (stX8_behind_2 d E) i2 σ)) (fun i2 : Nat => [(2, .int (nI i2)), (0, .ref (E.2.2 29)), (1, .int (nI d))]) [] rfl rfl ?_ ?_
  · intro i2 hi2 ih_i2
    (try dsimp only at ih_i2 ⊢)
    refine g_iload_n S 0 dX8_behind_2 rfl ?_
    refine g_iload_n S 2 dX8_behind_3 rfl ?_
    refine g_icmp_ge S 17 dX8_behind_4 (by decide) (fun c_1 => absurd c_1 (nI_ge hi2 (by omega))) (fun c_1 => ?_)
    refine g_aload_n S 1 dX8_behind_7 rfl ?_
    refine g_callv (g_runV S hC (As := []) (rest := []) (k := 29) (by decide) rfl (by decide) rfl (kX8_pass l E (itr (stX8_behind_2 d E) i2 σ) ((hdF i2 (by omega)).le (by omega))) (cwV 0 S.2.2.2.2 gX8_behind_X8_pass rfl rfl rfl (by decide +kernel) ⟨Nat.le_of_ble_eq_true rfl, Nat.le_of_ble_eq_true rfl⟩) rfl rfl (Nat.le_of_ble_eq_true rfl) dX8_behind_8 ⟨Nat.le_of_ble_eq_true rfl, Nat.le_of_ble_eq_true rfl⟩) ?_
    refine g_nm (fun S1 hS1 => ?_)
    refine g_iinc S [(2, .int (nI (i2 + 1))), (0, .ref (E.2.2 29)), (1, .int (nI d))] 0 (nI (i2 + 1)) dX8_behind_11 rfl (by exact nI_1 i2) (by decide) rfl ?_
    refine g_goto S 2 dX8_behind_14 (by decide) ?_
    refine g_lvs [0, 1, 2] (lv' := [(2, .int (nI (i2 + 1))), (0, .ref (E.2.2 29)), (1, .int (nI d))]) rfl ?_
    exact g_to ih_i2 (by subst hS1; rfl) (by subst hS1; rfl) rfl
  · skip
    (try dsimp only)
    refine g_iload_n S 0 dX8_behind_2 rfl ?_
    refine g_iload_n S 2 dX8_behind_3 rfl ?_
    refine g_icmp_ge S 17 dX8_behind_4 (by decide) (fun c_2 => ?_) (fun c_2 => absurd (nI_le (Nat.le_refl _) (by omega)) c_2)
    refine g_aload_n S 1 dX8_behind_17 rfl ?_
    exact g_aret S hr (by first | exact Or.inl ⟨_, rfl⟩ | exact Or.inr ⟨_, rfl⟩) hlocks dX8_behind_18 rfl rfl (Nat.le_of_ble_eq_true rfl) (Nat.le_of_ble_eq_true rfl)
