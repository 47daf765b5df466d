section AC
variable {p : Program} {l : Launch} {e : Env} {s : State} {m : MethodId} {args : Array Value} {below : List Frame} {meth : Method} {c : Code} {E E0 : gT} {σ : gS} {D B S0 : Nat} {x : Int32}

set_option maxRecDepth 100000 in
set_option maxHeartbeats 4000000 in
theorem act_patrol (C : gAC p l s m args meth c E σ D B S0) : gJA p l e s m args below meth c E D B S0 E σ 0 0 538 [(0, .ref (E.2.2 0)), (1, .ref (E.2.2 29)), (2, .int x)] [] := by
  have hiX8 : ∀ w ∈ wsX80, w ∈ wsL_act := by decide +kernel
  obtain ⟨S, hr, hlocks, hC, hfl, hX, ⟨hN, hR⟩, hD, hB, hS⟩ := id C
  have hI : INV E D B S0 σ := ⟨hN, hR⟩
  have hb := NB.of hC
  have hok := hN.1.1
  unfold gJA
  refine g_aload_n S 1 dL_act_538 rfl ?_
  refine gg7 S hC hiX8 6 (by decide) (by decide +kernel) dL_act_539 ?_
  refine g_istore S [(5, .int (σ.1 29 6)), (0, .ref (E.2.2 0)), (1, .ref (E.2.2 29)), (2, .int x)] dL_act_542 (by decide) rfl ?_
  refine g_aload_n S 2 dL_act_544 rfl ?_
  refine g_iload_n S 3 dL_act_545 rfl ?_
  refine g_const S dL_act_546 (v := 1) rfl ?_
  refine g_ishr S dL_act_547 ?_
  refine g_sipush S dL_act_548 (v := 128) rfl ?_
  refine g_calli (g_runS S hC (As := [.int (x >>> ((1 : Int32) &&& 31)), .int (128 : Int32)]) (rest := [.ref (E.2.2 29)]) (kL_below l E σ (x >>> ((1 : Int32) &&& 31)) _ 128 rfl (by decide) (by decide)) (va_cwS 2 S.2.2.2.2 gL_act_L_below rfl rfl rfl (by decide +kernel) ⟨Nat.le_of_ble_eq_true rfl, Nat.le_of_ble_eq_true rfl⟩) rfl rfl (Nat.le_of_ble_eq_true rfl) dL_act_551 ⟨Nat.le_of_ble_eq_true rfl, Nat.le_of_ble_eq_true rfl⟩) ?_
  have hbb := bel_lt (v := x >>> ((1 : Int32) &&& 31)) (n := 128) (by decide)
  generalize bel (x >>> ((1 : Int32) &&& 31)) 128 = b at hbb ⊢
  refine gp7 S hC hiX8 6 (by decide) (by decide +kernel) dL_act_554 ?_
  refine g_nm (fun S1 hS1 => ?_)
  refine g_aload_n S 1 dL_act_557 rfl ?_
  refine g_aload_n S 2 dL_act_558 rfl ?_
  refine gg7 S hC hiX8 6 (by decide) (by decide +kernel) dL_act_559 ?_
  refine g_eq (σ' := S1) (st' := [.int (nI b), .ref (E.2.2 0)]) rfl (by rw [hS1, gu_at, if_pos rfl]) ?_
  refine g_calli (g_runV S hC (As := [.int (nI b)]) (rest := []) (k := 0) (by decide) rfl (by decide) rfl (q_setPatrol l hfl E S1 b (by omega)) (cwV 1 S.2.2.2.2 gL_act_X7_setPatrol rfl rfl rfl (by decide +kernel) ⟨Nat.le_of_ble_eq_true rfl, Nat.le_of_ble_eq_true rfl⟩) rfl rfl (Nat.le_of_ble_eq_true rfl) dL_act_562 ⟨Nat.le_of_ble_eq_true rfl, Nat.le_of_ble_eq_true rfl⟩) ?_
  refine g_nm (fun S2 hS2 => ?_)
  refine g_iload S 0 dL_act_565 rfl ?_
  refine g_icmp_ne S 574 dL_act_567 (by decide) (fun c_1 => absurd (by rw [hS1, gu_ne (by decide)]; exact hR.patrol) c_1) (fun c_1 => ?_)
  refine g_const S dL_act_570 (v := 1) rfl ?_
  refine g_goto S 575 dL_act_571 (by decide) ?_
  exact act_end C.1 hr hlocks dL_act_575 rfl (by subst hS2 hS1; exact act_le (inv_patrol hI hb (by omega))) (AR.rf hX (NB.of hC)) (Nat.le_of_ble_eq_true rfl) (Nat.le_of_ble_eq_true rfl)
set_option maxRecDepth 100000 in
set_option maxHeartbeats 4000000 in
theorem act_share (C : gAC p l s m args meth c E σ D B S0) : gJA p l e s m args below meth c E D B S0 E σ 0 0 576 [(0, .ref (E.2.2 0)), (1, .ref (E.2.2 29)), (2, .int x)] [] := by
  have hiX8 : ∀ w ∈ wsX80, w ∈ wsL_act := by decide +kernel
  obtain ⟨S, hr, hlocks, hC, hfl, hX, ⟨hN, hR⟩, hD, hB, hS⟩ := id C
  have hI : INV E D B S0 σ := ⟨hN, hR⟩
  have hb := NB.of hC
  have hok := hN.1.1
  unfold gJA
  refine g_aload_n S 1 dL_act_576 rfl ?_
  refine gg7 S hC hiX8 5 (by decide) (by decide +kernel) dL_act_577 ?_
  refine g_istore S [(6, .int (σ.1 29 5)), (0, .ref (E.2.2 0)), (1, .ref (E.2.2 29)), (2, .int x)] dL_act_580 (by decide) rfl ?_
  refine g_aload_n S 2 dL_act_582 rfl ?_
  refine g_iload_n S 3 dL_act_583 rfl ?_
  refine g_const S dL_act_584 (v := 1) rfl ?_
  refine g_ishr S dL_act_585 ?_
  refine g_bipush S dL_act_586 (v := 11) rfl ?_
  refine g_calli (g_runS S hC (As := [.int (x >>> ((1 : Int32) &&& 31)), .int (11 : Int32)]) (rest := [.ref (E.2.2 29)]) (kL_below l E σ (x >>> ((1 : Int32) &&& 31)) _ 11 rfl (by decide) (by decide)) (va_cwS 2 S.2.2.2.2 gL_act_L_below rfl rfl rfl (by decide +kernel) ⟨Nat.le_of_ble_eq_true rfl, Nat.le_of_ble_eq_true rfl⟩) rfl rfl (Nat.le_of_ble_eq_true rfl) dL_act_588 ⟨Nat.le_of_ble_eq_true rfl, Nat.le_of_ble_eq_true rfl⟩) ?_
  have hbb := bel_lt (v := x >>> ((1 : Int32) &&& 31)) (n := 11) (by decide)
  generalize bel (x >>> ((1 : Int32) &&& 31)) 11 = b at hbb ⊢
  refine gp7 S hC hiX8 5 (by decide) (by decide +kernel) dL_act_591 ?_
  refine g_nm (fun S1 hS1 => ?_)
  refine g_aload_n S 1 dL_act_594 rfl ?_
  refine g_aload_n S 2 dL_act_595 rfl ?_
  refine gg7 S hC hiX8 5 (by decide) (by decide +kernel) dL_act_596 ?_
  refine g_eq (σ' := S1) (st' := [.int (nI b), .ref (E.2.2 0)]) rfl (by rw [hS1, gu_at, if_pos rfl]) ?_
  refine g_calli (g_runV S hC (As := [.int (nI b)]) (rest := []) (k := 0) (by decide) rfl (by decide) rfl (q_setShare l hfl E S1 b (by omega)) (cwV 1 S.2.2.2.2 gL_act_X7_setShare rfl rfl rfl (by decide +kernel) ⟨Nat.le_of_ble_eq_true rfl, Nat.le_of_ble_eq_true rfl⟩) rfl rfl (Nat.le_of_ble_eq_true rfl) dL_act_599 ⟨Nat.le_of_ble_eq_true rfl, Nat.le_of_ble_eq_true rfl⟩) ?_
  refine g_nm (fun S2 hS2 => ?_)
  refine g_iload S 0 dL_act_602 rfl ?_
  refine g_icmp_ne S 611 dL_act_604 (by decide) (fun c_1 => absurd (by rw [hS1, gu_ne (by decide)]; exact hR.share) c_1) (fun c_1 => ?_)
  refine g_const S dL_act_607 (v := 1) rfl ?_
  refine g_goto S 612 dL_act_608 (by decide) ?_
  exact act_end C.1 hr hlocks dL_act_612 rfl (by subst hS2 hS1; exact act_le (inv_share hI hb (by omega))) (AR.rf hX (NB.of hC)) (Nat.le_of_ble_eq_true rfl) (Nat.le_of_ble_eq_true rfl)
set_option maxRecDepth 100000 in
set_option maxHeartbeats 4000000 in
theorem act_heat (C : gAC p l s m args meth c E σ D B S0) : gJA p l e s m args below meth c E D B S0 E σ 0 0 613 [(0, .ref (E.2.2 0)), (1, .ref (E.2.2 29)), (2, .int x)] [] := by
  have hiX8 : ∀ w ∈ wsX80, w ∈ wsL_act := by decide +kernel
  obtain ⟨S, hr, hlocks, hC, hfl, hX, ⟨hN, hR⟩, hD, hB, hS⟩ := id C
  have hI : INV E D B S0 σ := ⟨hN, hR⟩
  have hb := NB.of hC
  have hok := hN.1.1
  unfold gJA
  refine g_aload_n S 1 dL_act_613 rfl ?_
  refine gg7r S hC hiX8 8 33 (by decide) (by decide +kernel) dL_act_614 ?_
  refine g_alenR S hC 1 rfl (by decide) dL_act_617 ?_
  refine g_if_ne S 623 dL_act_618 (by decide) (fun c_1 => ?_) (fun c_1 => ?_)
  · skip
    have h0 : 0 < gNo E 1 := pos_of_ne (by assumption)
    refine g_iload_n S 2 dL_act_623 rfl ?_
    refine g_const S dL_act_624 (v := 1) rfl ?_
    refine g_ishr S dL_act_625 ?_
    refine g_aload_n S 1 dL_act_626 rfl ?_
    refine gg7r S hC hiX8 8 33 (by decide) (by decide +kernel) dL_act_627 ?_
    refine g_alenR S hC 1 rfl (by decide) dL_act_630 ?_
    refine g_calli (g_runS S hC (As := [.int (x >>> ((1 : Int32) &&& 31)), .int (nI (gNo E 1))]) (rest := []) (kL_below l E σ (x >>> ((1 : Int32) &&& 31)) _ (gNo E 1) rfl h0 (gNo_lt hC (by decide))) (va_cwS 2 S.2.2.2.2 gL_act_L_below rfl rfl rfl (by decide +kernel) ⟨Nat.le_of_ble_eq_true rfl, Nat.le_of_ble_eq_true rfl⟩) rfl rfl (Nat.le_of_ble_eq_true rfl) dL_act_631 ⟨Nat.le_of_ble_eq_true rfl, Nat.le_of_ble_eq_true rfl⟩) ?_
    have hb_d := bel_lt (v := x >>> ((1 : Int32) &&& 31)) (n := gNo E 1) h0
    generalize bel (x >>> ((1 : Int32) &&& 31)) (gNo E 1) = d at hb_d ⊢
    refine g_istore S [(7, .int (nI d)), (0, .ref (E.2.2 0)), (1, .ref (E.2.2 29)), (2, .int x)] dL_act_634 (by decide) rfl ?_
    refine g_aload_n S 2 dL_act_636 rfl ?_
    refine gg7r S hC hiX8 8 33 (by decide) (by decide +kernel) dL_act_637 ?_
    refine g_iload S 0 dL_act_640 rfl ?_
    refine g_aaldR S hC 1 rfl (by decide) d rfl (by first | assumption | omega) (40 + d) (by omega) dL_act_642 ?_
    refine g_const S dL_act_643 (v := 1) rfl ?_
    refine g_ialdR S hC 1 d (by omega) (by decide) (by first | assumption | omega) 1 rfl (by decide) dL_act_644 ?_
    refine g_istore S [(8, .int (σ.1 (40 + d) 1)), (7, .int (nI d)), (0, .ref (E.2.2 0)), (1, .ref (E.2.2 29)), (2, .int x)] dL_act_645 (by decide) rfl ?_
    refine g_aload_n S 3 dL_act_647 rfl ?_
    refine gg7r S hC hiX8 8 33 (by decide) (by decide +kernel) dL_act_648 ?_
    refine g_iload S 1 dL_act_651 rfl ?_
    refine g_aaldR S hC 1 rfl (by decide) d rfl (by first | assumption | omega) (40 + d) (by omega) dL_act_653 ?_
    refine g_const S dL_act_654 (v := 1) rfl ?_
    refine g_iload_n S 4 dL_act_655 rfl ?_
    refine g_const S dL_act_656 (v := 2) rfl ?_
    refine g_ishr S dL_act_657 ?_
    refine g_bipush S dL_act_658 (v := 10) rfl ?_
    refine g_calli (g_runS S hC (As := [.int (x >>> ((2 : Int32) &&& 31)), .int (10 : Int32)]) (rest := [.int (1 : Int32), .ref (E.2.2 (40 + d))]) (kL_below l E σ (x >>> ((2 : Int32) &&& 31)) _ 10 rfl (by decide) (by decide)) (va_cwS 2 S.2.2.2.2 gL_act_L_below rfl rfl rfl (by decide +kernel) ⟨Nat.le_of_ble_eq_true rfl, Nat.le_of_ble_eq_true rfl⟩) rfl rfl (Nat.le_of_ble_eq_true rfl) dL_act_660 ⟨Nat.le_of_ble_eq_true rfl, Nat.le_of_ble_eq_true rfl⟩) ?_
    have hb_v := bel_lt (v := x >>> ((2 : Int32) &&& 31)) (n := 10) (by decide)
    generalize bel (x >>> ((2 : Int32) &&& 31)) 10 = v at hb_v ⊢
    refine g_iastR S hC 1 d (by omega) (by decide) (by first | assumption | omega) 1 rfl (by decide) dL_act_663 ?_
    refine g_nm (fun S1 hS1 => ?_)
    refine g_aload_n S 2 dL_act_664 rfl ?_
    refine g_iload S 1 dL_act_665 rfl ?_
    refine g_aload_n S 3 dL_act_667 rfl ?_
    refine gg7r S hC hiX8 8 33 (by decide) (by decide +kernel) dL_act_668 ?_
    refine g_iload S 1 dL_act_671 rfl ?_
    refine g_aaldR S hC 1 rfl (by decide) d rfl (by first | assumption | omega) (40 + d) (by omega) dL_act_673 ?_
    refine g_const S dL_act_674 (v := 1) rfl ?_
    refine g_ialdR S hC 1 d (by omega) (by decide) (by first | assumption | omega) 1 rfl (by decide) dL_act_675 ?_
    have hcn : CNi E S1 := hN.1.at (fun j _ _ => by rw [hS1, gu_ne (by omega)])
    refine g_eq (σ' := S1) (st' := [.int (nI v), .int (nI d), .ref (E.2.2 0)]) rfl (by rw [hS1, gu_at, if_pos rfl]) ?_
    refine g_calli (g_runV S hC (As := [.int (nI d), .int (nI v)]) (rest := []) (k := 0) (by decide) rfl (by decide) rfl (q_setHeat l hfl E S1 hcn.1 d v (by rw [hcn.2.2.1]; exact hb_d) (by omega)) (cwV 2 S.2.2.2.2 gL_act_X7_setHeat rfl rfl rfl (by decide +kernel) ⟨Nat.le_of_ble_eq_true rfl, Nat.le_of_ble_eq_true rfl⟩) rfl rfl (Nat.le_of_ble_eq_true rfl) dL_act_676 ⟨Nat.le_of_ble_eq_true rfl, Nat.le_of_ble_eq_true rfl⟩) ?_
    refine g_nm (fun S2 hS2 => ?_)
    refine g_iload S 0 dL_act_679 rfl ?_
    refine g_icmp_ne S 688 dL_act_681 (by decide) (fun c_2 => absurd (by rw [hS1, gu_ne (by omega)]; exact hR.drum hb_d (by omega)) c_2) (fun c_2 => ?_)
    refine g_const S dL_act_684 (v := 1) rfl ?_
    refine g_goto S 689 dL_act_685 (by decide) ?_
    exact act_end C.1 hr hlocks dL_act_689 rfl (by subst hS2 hS1; exact act_le (inv_heat hI hb hb_d (by omega))) (AR.rf hX (NB.of hC)) (Nat.le_of_ble_eq_true rfl) (Nat.le_of_ble_eq_true rfl)
  · skip
    refine g_const S dL_act_621 (v := 1) rfl ?_
    exact act_end C.1 hr hlocks dL_act_622 rfl (by exact act_le (⟨hN, hR⟩)) (AR.rf hX (NB.of hC)) (Nat.le_of_ble_eq_true rfl) (Nat.le_of_ble_eq_true rfl)
set_option maxRecDepth 100000 in
set_option maxHeartbeats 4000000 in
theorem act_dig (C : gAC p l s m args meth c E σ D B S0) : gJA p l e s m args below meth c E D B S0 E σ 0 0 690 [(0, .ref (E.2.2 0)), (1, .ref (E.2.2 29)), (2, .int x)] [] := by
  have hiX8 : ∀ w ∈ wsX80, w ∈ wsL_act := by decide +kernel
  obtain ⟨S, hr, hlocks, hC, hfl, hX, ⟨hN, hR⟩, hD, hB, hS⟩ := id C
  have hI : INV E D B S0 σ := ⟨hN, hR⟩
  have hb := NB.of hC
  have hok := hN.1.1
  unfold gJA
  refine g_aload_n S 1 dL_act_690 rfl ?_
  refine gg7r S hC hiX8 7 32 (by decide) (by decide +kernel) dL_act_691 ?_
  refine g_alenR S hC 0 rfl (by decide) dL_act_694 ?_
  refine g_if_ne S 700 dL_act_695 (by decide) (fun c_1 => ?_) (fun c_1 => ?_)
  · skip
    have h0 : 0 < gNo E 0 := pos_of_ne (by assumption)
    refine g_iload_n S 2 dL_act_700 rfl ?_
    refine g_const S dL_act_701 (v := 1) rfl ?_
    refine g_ishr S dL_act_702 ?_
    refine g_aload_n S 1 dL_act_703 rfl ?_
    refine gg7r S hC hiX8 7 32 (by decide) (by decide +kernel) dL_act_704 ?_
    refine g_alenR S hC 0 rfl (by decide) dL_act_707 ?_
    refine g_calli (g_runS S hC (As := [.int (x >>> ((1 : Int32) &&& 31)), .int (nI (gNo E 0))]) (rest := []) (kL_below l E σ (x >>> ((1 : Int32) &&& 31)) _ (gNo E 0) rfl h0 (gNo_lt hC (by decide))) (va_cwS 2 S.2.2.2.2 gL_act_L_below rfl rfl rfl (by decide +kernel) ⟨Nat.le_of_ble_eq_true rfl, Nat.le_of_ble_eq_true rfl⟩) rfl rfl (Nat.le_of_ble_eq_true rfl) dL_act_708 ⟨Nat.le_of_ble_eq_true rfl, Nat.le_of_ble_eq_true rfl⟩) ?_
    have hb_b := bel_lt (v := x >>> ((1 : Int32) &&& 31)) (n := gNo E 0) h0
    generalize bel (x >>> ((1 : Int32) &&& 31)) (gNo E 0) = b at hb_b ⊢
    have hb_b4 : b < 4 := Nat.lt_of_lt_of_le hb_b hb.1
    have hbg := hN.2.2.2.1 b hb_b
    have er : σ.1 (36 + b) 2 = nI (cv σ (7 + b) 2) := (hR.bed hb_b (by omega)).symm.trans hbg.2.2.1
    have hl1 := hbg.2.1.2
    have hl2 := hbg.2.2.2
    refine g_istore S [(9, .int (nI b)), (0, .ref (E.2.2 0)), (1, .ref (E.2.2 29)), (2, .int x)] dL_act_711 (by decide) rfl ?_
    refine g_aload_n S 2 dL_act_713 rfl ?_
    refine gg7r S hC hiX8 7 32 (by decide) (by decide +kernel) dL_act_714 ?_
    refine g_iload S 0 dL_act_717 rfl ?_
    refine g_aaldR S hC 0 rfl (by decide) b rfl (by first | assumption | omega) (36 + b) (by omega) dL_act_719 ?_
    refine g_const S dL_act_720 (v := 2) rfl ?_
    refine g_ialdR S hC 0 b (by omega) (by decide) (by first | assumption | omega) 2 rfl (by decide) dL_act_721 ?_
    refine g_if_ne S 727 dL_act_722 (by decide) (fun c_2 => ?_) (fun c_2 => ?_)
    · skip
      have h1 : 0 < cv σ (7 + b) 2 := pos_of_ne (by rw [← er]; assumption)
      refine g_const S dL_act_727 (v := 1) rfl ?_
      refine g_iload_n S 3 dL_act_728 rfl ?_
      refine g_const S dL_act_729 (v := 2) rfl ?_
      refine g_ishr S dL_act_730 ?_
      refine g_aload_n S 2 dL_act_731 rfl ?_
      refine gg7r S hC hiX8 7 32 (by decide) (by decide +kernel) dL_act_732 ?_
      refine g_iload S 0 dL_act_735 rfl ?_
      refine g_aaldR S hC 0 rfl (by decide) b rfl (by first | assumption | omega) (36 + b) (by omega) dL_act_737 ?_
      refine g_const S dL_act_738 (v := 2) rfl ?_
      refine g_ialdR S hC 0 b (by omega) (by decide) (by first | assumption | omega) 2 rfl (by decide) dL_act_739 ?_
      refine g_eq (σ' := σ) (st' := [.int (nI (cv σ (7 + b) 2)), .int (x >>> ((2 : Int32) &&& 31)), .int (1 : Int32)]) rfl (by rw [er]) ?_
      refine g_calli (g_runS S hC (As := [.int (x >>> ((2 : Int32) &&& 31)), .int (nI (cv σ (7 + b) 2))]) (rest := [.int (1 : Int32)]) (kL_below l E σ (x >>> ((2 : Int32) &&& 31)) _ (cv σ (7 + b) 2) rfl h1 (by omega)) (va_cwS 2 S.2.2.2.2 gL_act_L_below rfl rfl rfl (by decide +kernel) ⟨Nat.le_of_ble_eq_true rfl, Nat.le_of_ble_eq_true rfl⟩) rfl rfl (Nat.le_of_ble_eq_true rfl) dL_act_740 ⟨Nat.le_of_ble_eq_true rfl, Nat.le_of_ble_eq_true rfl⟩) ?_
      have hb_m1 := bel_lt (v := x >>> ((2 : Int32) &&& 31)) (n := cv σ (7 + b) 2) h1
      generalize bel (x >>> ((2 : Int32) &&& 31)) (cv σ (7 + b) 2) = m1 at hb_m1 ⊢
      refine g_iadd S dL_act_743 ?_
      refine g_top (y := nI (1 + m1)) (gI_add (a := 1) rfl rfl) ?_
      refine g_istore S [(10, .int (nI (1 + m1))), (9, .int (nI b)), (0, .ref (E.2.2 0)), (1, .ref (E.2.2 29)), (2, .int x)] dL_act_744 (by decide) rfl ?_
      refine g_aload_n S 3 dL_act_746 rfl ?_
      refine gg7r S hC hiX8 7 32 (by decide) (by decide +kernel) dL_act_747 ?_
      refine g_iload S 1 dL_act_750 rfl ?_
      refine g_aaldR S hC 0 rfl (by decide) b rfl (by first | assumption | omega) (36 + b) (by omega) dL_act_752 ?_
      refine g_const S dL_act_753 (v := 2) rfl ?_
      refine g_dup2 S dL_act_754 rfl rfl ?_
      refine g_ialdR S hC 0 b (by omega) (by decide) (by first | assumption | omega) 2 rfl (by decide) dL_act_755 ?_
      refine g_iload S 0 dL_act_756 rfl ?_
      refine g_isub S dL_act_758 ?_
      refine g_iastR S hC 0 b (by omega) (by decide) (by first | assumption | omega) 2 rfl (by decide) dL_act_759 ?_
      refine g_nm (fun S1 hS1 => ?_)
      refine g_aload_n S 3 dL_act_760 rfl ?_
      refine gg7r S hC hiX8 1 30 (by decide) (by decide +kernel) dL_act_761 ?_
      refine g_const S dL_act_764 (v := 0) rfl ?_
      refine g_dup2 S dL_act_765 rfl rfl ?_
      refine g_iald S hC (by decide) rfl 0 rfl (by decide) dL_act_766 ?_
      refine g_iload S 0 dL_act_767 rfl ?_
      refine g_iadd S dL_act_769 ?_
      refine g_iast S hC (by decide) rfl 0 rfl (by decide) dL_act_770 ?_
      refine g_nm (fun S2 hS2 => ?_)
      refine g_aload_n S 2 dL_act_771 rfl ?_
      refine g_iload S 1 dL_act_772 rfl ?_
      refine g_iload S 0 dL_act_774 rfl ?_
      have hcn : CNi E S2 := hN.1.at (fun j _ _ => by rw [hS2, gu_ne (by decide), hS1, gu_ne (by omega)])
      have e7 : S2.1 (7 + b) = σ.1 (7 + b) := by rw [hS2, gu_ne (by omega), hS1, gu_ne (by omega)]
      refine g_calli (g_runV S hC (As := [.int (nI b), .int (nI (1 + m1))]) (rest := []) (k := 0) (by decide) rfl (by decide) rfl (q_dig l hfl E S2 hcn.1 b (1 + m1) (by rw [hcn.2.1]; exact hb_b) (by omega) (by omega) (by rw [e7, hbg.2.2.1]; exact nI_nlt (by omega) (by omega))) (cwV 2 S.2.2.2.2 gL_act_X7_dig rfl rfl rfl (by decide +kernel) ⟨Nat.le_of_ble_eq_true rfl, Nat.le_of_ble_eq_true rfl⟩) rfl rfl (Nat.le_of_ble_eq_true rfl) dL_act_776 ⟨Nat.le_of_ble_eq_true rfl, Nat.le_of_ble_eq_true rfl⟩) ?_
      refine g_nm (fun S3 hS3 => ?_)
      refine g_aload_n S 3 dL_act_779 rfl ?_
      refine gg7r S hC hiX8 7 32 (by decide) (by decide +kernel) dL_act_780 ?_
      refine g_iload S 1 dL_act_783 rfl ?_
      refine g_aaldR S hC 0 rfl (by decide) b rfl (by first | assumption | omega) (36 + b) (by omega) dL_act_785 ?_
      refine g_const S dL_act_786 (v := 2) rfl ?_
      refine g_ialdR S hC 0 b (by omega) (by decide) (by first | assumption | omega) 2 rfl (by decide) dL_act_787 ?_
      refine g_icmp_ne S 795 dL_act_788 (by decide) (fun c_3 => absurd (by rw [hS3, gu_ne (show 36 + b ≠ 6 by omega), gu_ne (show 36 + b ≠ 7 + b by omega), e7, hS2, gu_ne (show 36 + b ≠ 30 by omega), hS1, gu_at, if_pos rfl, hR.bed hb_b (by omega)]) c_3) (fun c_3 => ?_)
      refine g_const S dL_act_791 (v := 1) rfl ?_
      refine g_goto S 796 dL_act_792 (by decide) ?_
      exact act_end C.1 hr hlocks dL_act_796 rfl (by subst hS3 hS2 hS1; exact act_le (by have k := inv_dig hI hb (by omega) hb_b (m := 1 + m1) (by omega) (by omega); have q : (gu (gu σ (36 + b) 2 (σ.1 (36 + b) 2 - nI (1 + m1))) 30 0 ((gu σ (36 + b) 2 (σ.1 (36 + b) 2 - nI (1 + m1))).1 30 0 + nI (1 + m1))) = gu (gu σ (36 + b) 2 (σ.1 (36 + b) 2 - nI (1 + m1))) 30 0 (σ.1 30 0 + nI (1 + m1)) := (by rw [gu_ne (show 30 ≠ 36 + b by omega)]); rw [q]; rw [gu_ne (show 7 + b ≠ 30 by omega), gu_ne (show 7 + b ≠ 36 + b by omega), gu_ne (show 6 ≠ 30 by omega), gu_ne (show 6 ≠ 36 + b by omega)]; exact k)) (AR.rf hX (NB.of hC)) (Nat.le_of_ble_eq_true rfl) (Nat.le_of_ble_eq_true rfl)
    · skip
      refine g_const S dL_act_725 (v := 1) rfl ?_
      exact act_end C.1 hr hlocks dL_act_726 rfl (by exact act_le (⟨hN, hR⟩)) (AR.rf hX (NB.of hC)) (Nat.le_of_ble_eq_true rfl) (Nat.le_of_ble_eq_true rfl)
  · skip
    refine g_const S dL_act_698 (v := 1) rfl ?_
    exact act_end C.1 hr hlocks dL_act_699 rfl (by exact act_le (⟨hN, hR⟩)) (AR.rf hX (NB.of hC)) (Nat.le_of_ble_eq_true rfl) (Nat.le_of_ble_eq_true rfl)
set_option maxRecDepth 100000 in
set_option maxHeartbeats 4000000 in
theorem act_give (C : gAC p l s m args meth c E σ D B S0) : gJA p l e s m args below meth c E D B S0 E σ 0 0 797 [(0, .ref (E.2.2 0)), (1, .ref (E.2.2 29)), (2, .int x)] [] := by
  have hiX8 : ∀ w ∈ wsX80, w ∈ wsL_act := by decide +kernel
  obtain ⟨S, hr, hlocks, hC, hfl, hX, ⟨hN, hR⟩, hD, hB, hS⟩ := id C
  have hI : INV E D B S0 σ := ⟨hN, hR⟩
  have hb := NB.of hC
  have hok := hN.1.1
  unfold gJA
  refine g_iload_n S 2 dL_act_797 rfl ?_
  refine g_const S dL_act_798 (v := 1) rfl ?_
  refine g_ishr S dL_act_799 ?_
  refine g_const S dL_act_800 (v := 2) rfl ?_
  refine g_calli (g_runS S hC (As := [.int (x >>> ((1 : Int32) &&& 31)), .int (2 : Int32)]) (rest := []) (kL_below l E σ (x >>> ((1 : Int32) &&& 31)) _ 2 rfl (by decide) (by decide)) (va_cwS 2 S.2.2.2.2 gL_act_L_below rfl rfl rfl (by decide +kernel) ⟨Nat.le_of_ble_eq_true rfl, Nat.le_of_ble_eq_true rfl⟩) rfl rfl (Nat.le_of_ble_eq_true rfl) dL_act_801 ⟨Nat.le_of_ble_eq_true rfl, Nat.le_of_ble_eq_true rfl⟩) ?_
  have hb_k := bel_lt (v := x >>> ((1 : Int32) &&& 31)) (n := 2) (by decide)
  generalize bel (x >>> ((1 : Int32) &&& 31)) 2 = k at hb_k ⊢
  refine g_istore S [(11, .int (nI k)), (0, .ref (E.2.2 0)), (1, .ref (E.2.2 29)), (2, .int x)] dL_act_804 (by decide) rfl ?_
  refine g_const S dL_act_806 (v := 1) rfl ?_
  refine g_iload_n S 3 dL_act_807 rfl ?_
  refine g_const S dL_act_808 (v := 2) rfl ?_
  refine g_ishr S dL_act_809 ?_
  refine g_bipush S dL_act_810 (v := 99) rfl ?_
  refine g_calli (g_runS S hC (As := [.int (x >>> ((2 : Int32) &&& 31)), .int (99 : Int32)]) (rest := [.int (1 : Int32)]) (kL_below l E σ (x >>> ((2 : Int32) &&& 31)) _ 99 rfl (by decide) (by decide)) (va_cwS 2 S.2.2.2.2 gL_act_L_below rfl rfl rfl (by decide +kernel) ⟨Nat.le_of_ble_eq_true rfl, Nat.le_of_ble_eq_true rfl⟩) rfl rfl (Nat.le_of_ble_eq_true rfl) dL_act_812 ⟨Nat.le_of_ble_eq_true rfl, Nat.le_of_ble_eq_true rfl⟩) ?_
  have hb_m1 := bel_lt (v := x >>> ((2 : Int32) &&& 31)) (n := 99) (by decide)
  generalize bel (x >>> ((2 : Int32) &&& 31)) 99 = m1 at hb_m1 ⊢
  refine g_iadd S dL_act_815 ?_
  refine g_top (y := nI (1 + m1)) (gI_add (a := 1) rfl rfl) ?_
  refine g_istore S [(12, .int (nI (1 + m1))), (11, .int (nI k)), (0, .ref (E.2.2 0)), (1, .ref (E.2.2 29)), (2, .int x)] dL_act_816 (by decide) rfl ?_
  refine g_aload_n S 3 dL_act_818 rfl ?_
  refine gg7r S hC hiX8 1 30 (by decide) (by decide +kernel) dL_act_819 ?_
  refine g_iload S 1 dL_act_822 rfl ?_
  refine g_dup2 S dL_act_824 rfl rfl ?_
  refine g_iald S hC (by decide) rfl k rfl (show k < 2 by omega) dL_act_825 ?_
  refine g_iload S 0 dL_act_826 rfl ?_
  refine g_iadd S dL_act_828 ?_
  refine g_iast S hC (by decide) rfl k rfl (show k < 2 by omega) dL_act_829 ?_
  refine g_nm (fun S1 hS1 => ?_)
  refine g_aload_n S 2 dL_act_830 rfl ?_
  refine g_iload S 1 dL_act_831 rfl ?_
  refine g_iload S 0 dL_act_833 rfl ?_
  refine g_calli (g_runV S hC (As := [.int (nI k), .int (nI (1 + m1))]) (rest := []) (k := 0) (by decide) rfl (by decide) rfl (q_give l hfl E S1 k (1 + m1) hb_k (by omega) (by omega)) (cwV 2 S.2.2.2.2 gL_act_X7_give rfl rfl rfl (by decide +kernel) ⟨Nat.le_of_ble_eq_true rfl, Nat.le_of_ble_eq_true rfl⟩) rfl rfl (Nat.le_of_ble_eq_true rfl) dL_act_835 ⟨Nat.le_of_ble_eq_true rfl, Nat.le_of_ble_eq_true rfl⟩) ?_
  refine g_nm (fun S2 hS2 => ?_)
  refine g_aload_n S 3 dL_act_838 rfl ?_
  refine gg7r S hC hiX8 1 30 (by decide) (by decide +kernel) dL_act_839 ?_
  refine g_iload S 1 dL_act_842 rfl ?_
  refine g_iald S hC (by decide) rfl k rfl (show k < 2 by omega) dL_act_844 ?_
  refine g_icmp_ne S 852 dL_act_845 (by decide) (fun c_1 => absurd (by rw [hS2, gu_ne (show 30 ≠ 6 by decide), hS1, gu_ne (show 6 ≠ 30 by decide), gu_at, if_pos rfl, hR.stock hb_k]) c_1) (fun c_1 => ?_)
  refine g_const S dL_act_848 (v := 1) rfl ?_
  refine g_goto S 853 dL_act_849 (by decide) ?_
  exact act_end C.1 hr hlocks dL_act_853 rfl (by subst hS2 hS1; exact act_le (by have q := inv_give hI hb (by omega) (m := 1 + m1) hb_k (by omega); rw [gu_ne (show 6 ≠ 30 by decide)]; exact q)) (AR.rf hX (NB.of hC)) (Nat.le_of_ble_eq_true rfl) (Nat.le_of_ble_eq_true rfl)
set_option maxRecDepth 100000 in
set_option maxHeartbeats 4000000 in
theorem act_load (C : gAC p l s m args meth c E σ D B S0) : gJA p l e s m args below meth c E D B S0 E σ 0 0 854 [(0, .ref (E.2.2 0)), (1, .ref (E.2.2 29)), (2, .int x)] [] := by
  have hiX8 : ∀ w ∈ wsX80, w ∈ wsL_act := by decide +kernel
  obtain ⟨S, hr, hlocks, hC, hfl, hX, ⟨hN, hR⟩, hD, hB, hS⟩ := id C
  have hI : INV E D B S0 σ := ⟨hN, hR⟩
  have hb := NB.of hC
  have hok := hN.1.1
  unfold gJA
  refine g_aload_n S 1 dL_act_854 rfl ?_
  refine gg7r S hC hiX8 8 33 (by decide) (by decide +kernel) dL_act_855 ?_
  refine g_alenR S hC 1 rfl (by decide) dL_act_858 ?_
  refine g_if_ne S 864 dL_act_859 (by decide) (fun c_1 => ?_) (fun c_1 => ?_)
  · skip
    have h0 : 0 < gNo E 1 := pos_of_ne (by assumption)
    refine g_aload_n S 1 dL_act_864 rfl ?_
    refine gg7r S hC hiX8 8 33 (by decide) (by decide +kernel) dL_act_865 ?_
    refine g_iload_n S 2 dL_act_868 rfl ?_
    refine g_const S dL_act_869 (v := 1) rfl ?_
    refine g_ishr S dL_act_870 ?_
    refine g_aload_n S 1 dL_act_871 rfl ?_
    refine gg7r S hC hiX8 8 33 (by decide) (by decide +kernel) dL_act_872 ?_
    refine g_alenR S hC 1 rfl (by decide) dL_act_875 ?_
    refine g_calli (g_runS S hC (As := [.int (x >>> ((1 : Int32) &&& 31)), .int (nI (gNo E 1))]) (rest := [.ref (E.2.2 33)]) (kL_below l E σ (x >>> ((1 : Int32) &&& 31)) _ (gNo E 1) rfl h0 (gNo_lt hC (by decide))) (va_cwS 2 S.2.2.2.2 gL_act_L_below rfl rfl rfl (by decide +kernel) ⟨Nat.le_of_ble_eq_true rfl, Nat.le_of_ble_eq_true rfl⟩) rfl rfl (Nat.le_of_ble_eq_true rfl) dL_act_876 ⟨Nat.le_of_ble_eq_true rfl, Nat.le_of_ble_eq_true rfl⟩) ?_
    have hb_d := bel_lt (v := x >>> ((1 : Int32) &&& 31)) (n := gNo E 1) h0
    generalize hdd : bel (x >>> ((1 : Int32) &&& 31)) (gNo E 1) = d at hb_d ⊢
    have hd4 : d < 4 := Nat.lt_of_lt_of_le hb_d hb.2.1
    have hdg := hN.2.2.2.2.1 d hb_d
    have hl0 := hdg.1.1.2
    have er0 : σ.1 (40 + d) 0 = nI (cv σ (11 + d) 0) := (hR.drum hb_d (by omega)).symm.trans hdg.1.1.1
    have er2 : σ.1 (11 + d) 2 = σ.1 (40 + d) 2 := hR.drum hb_d (by omega)
    refine g_aaldR S hC 1 rfl (by decide) d rfl (by first | assumption | omega) (40 + d) (by omega) dL_act_879 ?_
    refine g_astore S [(13, .ref (E.2.2 (40 + d))), (0, .ref (E.2.2 0)), (1, .ref (E.2.2 29)), (2, .int x)] dL_act_880 (by decide) rfl ?_
    refine g_iload_n S 3 dL_act_882 rfl ?_
    refine g_const S dL_act_883 (v := 2) rfl ?_
    refine g_ishr S dL_act_884 ?_
    refine g_const S dL_act_885 (v := 2) rfl ?_
    refine g_calli (g_runS S hC (As := [.int (x >>> ((2 : Int32) &&& 31)), .int (2 : Int32)]) (rest := []) (kL_below l E σ (x >>> ((2 : Int32) &&& 31)) _ 2 rfl (by decide) (by decide)) (va_cwS 2 S.2.2.2.2 gL_act_L_below rfl rfl rfl (by decide +kernel) ⟨Nat.le_of_ble_eq_true rfl, Nat.le_of_ble_eq_true rfl⟩) rfl rfl (Nat.le_of_ble_eq_true rfl) dL_act_886 ⟨Nat.le_of_ble_eq_true rfl, Nat.le_of_ble_eq_true rfl⟩) ?_
    have hb_k := bel_lt (v := x >>> ((2 : Int32) &&& 31)) (n := 2) (by decide)
    generalize bel (x >>> ((2 : Int32) &&& 31)) 2 = k at hb_k ⊢
    have hsk : num σ 6 k B := by rcases (show k = 0 ∨ k = 1 by omega) with rfl | rfl; exact hN.2.2.1.1; exact hN.2.2.1.2.1
    have hls := hsk.2
    refine g_istore S [(14, .int (nI k)), (13, .ref (E.2.2 (40 + d))), (0, .ref (E.2.2 0)), (1, .ref (E.2.2 29)), (2, .int x)] dL_act_889 (by decide) rfl ?_
    refine g_const S dL_act_891 (v := 1) rfl ?_
    refine g_iload_n S 4 dL_act_892 rfl ?_
    refine g_const S dL_act_893 (v := 3) rfl ?_
    refine g_ishr S dL_act_894 ?_
    refine g_aload S 1 dL_act_895 rfl ?_
    refine g_const S dL_act_897 (v := 0) rfl ?_
    refine g_ialdR S hC 1 d (by omega) (by decide) (by first | assumption | omega) 0 rfl (by decide) dL_act_898 ?_
    refine g_eq (σ' := σ) (st' := [.int (nI (cv σ (11 + d) 0)), .int (x >>> ((3 : Int32) &&& 31)), .int (1 : Int32)]) rfl (by rw [er0]) ?_
    refine g_calli (g_runS S hC (As := [.int (x >>> ((3 : Int32) &&& 31)), .int (nI (cv σ (11 + d) 0))]) (rest := [.int (1 : Int32)]) (kL_below l E σ (x >>> ((3 : Int32) &&& 31)) _ (cv σ (11 + d) 0) rfl hdg.1.2 (by omega)) (va_cwS 2 S.2.2.2.2 gL_act_L_below rfl rfl rfl (by decide +kernel) ⟨Nat.le_of_ble_eq_true rfl, Nat.le_of_ble_eq_true rfl⟩) rfl rfl (Nat.le_of_ble_eq_true rfl) dL_act_899 ⟨Nat.le_of_ble_eq_true rfl, Nat.le_of_ble_eq_true rfl⟩) ?_
    have hb_m1 := bel_lt (v := x >>> ((3 : Int32) &&& 31)) (n := cv σ (11 + d) 0) hdg.1.2
    generalize bel (x >>> ((3 : Int32) &&& 31)) (cv σ (11 + d) 0) = m1 at hb_m1 ⊢
    refine g_iadd S dL_act_902 ?_
    refine g_top (y := nI (1 + m1)) (gI_add (a := 1) rfl rfl) ?_
    refine g_istore S [(15, .int (nI (1 + m1))), (14, .int (nI k)), (13, .ref (E.2.2 (40 + d))), (0, .ref (E.2.2 0)), (1, .ref (E.2.2 29)), (2, .int x)] dL_act_903 (by decide) rfl ?_
    refine g_aload S 2 dL_act_905 rfl ?_
    refine g_const S dL_act_907 (v := 2) rfl ?_
    refine g_ialdR S hC 1 d (by omega) (by decide) (by first | assumption | omega) 2 rfl (by decide) dL_act_908 ?_
    refine g_if_ge S 924 dL_act_909 (by decide) (fun c_2 => ?_) (fun c_2 => ?_)
    · skip
      refine g_const S dL_act_924 (v := 1) rfl ?_
      exact act_end C.1 hr hlocks dL_act_925 rfl (by exact act_le (⟨hN, hR⟩)) (AR.rf hX (NB.of hC)) (Nat.le_of_ble_eq_true rfl) (Nat.le_of_ble_eq_true rfl)
    · skip
      have hem : σ.1 (11 + d) 2 = -1 := by
        have hz : ¬ 0 ≤ σ.1 (40 + d) 2 := by assumption
        rcases hdg.2.2 with ⟨z, _⟩ | ⟨z, _⟩
        · exact z
        · exact absurd (by rw [← er2]; rcases z with z | z <;> (rw [z]; decide)) hz
      refine g_aload_n S 4 dL_act_912 rfl ?_
      refine gg7r S hC hiX8 1 30 (by decide) (by decide +kernel) dL_act_913 ?_
      refine g_iload S 1 dL_act_916 rfl ?_
      refine g_iald S hC (by decide) rfl k rfl (show k < 2 by omega) dL_act_918 ?_
      refine g_iload S 0 dL_act_919 rfl ?_
      refine g_icmp_ge S 926 dL_act_921 (by decide) (fun c_3 => ?_) (fun c_3 => ?_)
      · skip
        have hst : 1 + m1 ≤ cv σ 6 k := by
          have hz : nI (1 + m1) ≤ σ.1 30 k := by assumption
          rw [← hR.stock hb_k, hsk.1] at hz
          exact (nI_leI (by omega) (by omega)).mp hz
        refine g_aload S 2 dL_act_926 rfl ?_
        refine g_const S dL_act_928 (v := 2) rfl ?_
        refine g_iload S 1 dL_act_929 rfl ?_
        refine g_iastR S hC 1 d (by omega) (by decide) (by first | assumption | omega) 2 rfl (by decide) dL_act_931 ?_
        refine g_nm (fun S1 hS1 => ?_)
        refine g_aload S 2 dL_act_932 rfl ?_
        refine g_const S dL_act_934 (v := 3) rfl ?_
        refine g_iload S 0 dL_act_935 rfl ?_
        refine g_iastR S hC 1 d (by omega) (by decide) (by first | assumption | omega) 3 rfl (by decide) dL_act_937 ?_
        refine g_nm (fun S2 hS2 => ?_)
        refine g_aload S 2 dL_act_938 rfl ?_
        refine g_const S dL_act_940 (v := 4) rfl ?_
        refine g_const S dL_act_941 (v := 0) rfl ?_
        refine g_iastR S hC 1 d (by omega) (by decide) (by first | assumption | omega) 4 rfl (by decide) dL_act_942 ?_
        refine g_nm (fun S3 hS3 => ?_)
        refine g_aload_n S 4 dL_act_943 rfl ?_
        refine gg7r S hC hiX8 1 30 (by decide) (by decide +kernel) dL_act_944 ?_
        refine g_iload S 1 dL_act_947 rfl ?_
        refine g_dup2 S dL_act_949 rfl rfl ?_
        refine g_iald S hC (by decide) rfl k rfl (show k < 2 by omega) dL_act_950 ?_
        refine g_iload S 0 dL_act_951 rfl ?_
        refine g_isub S dL_act_953 ?_
        refine g_iast S hC (by decide) rfl k rfl (show k < 2 by omega) dL_act_954 ?_
        refine g_nm (fun S4 hS4 => ?_)
        refine g_aload_n S 3 dL_act_955 rfl ?_
        refine g_iload_n S 5 dL_act_956 rfl ?_
        refine g_const S dL_act_957 (v := 1) rfl ?_
        refine g_ishr S dL_act_958 ?_
        refine g_aload_n S 4 dL_act_959 rfl ?_
        refine gg7r S hC hiX8 8 33 (by decide) (by decide +kernel) dL_act_960 ?_
        refine g_alenR S hC 1 rfl (by decide) dL_act_963 ?_
        refine g_calli (g_runS S hC (As := [.int (x >>> ((1 : Int32) &&& 31)), .int (nI (gNo E 1))]) (rest := [.ref (E.2.2 0)]) (show gMi l yL_below wsL_below ({ frames := 0, cells := 0, slots := 0, locals := 0 }) 0 0 E S4 [.int (x >>> ((1 : Int32) &&& 31)), .int (nI (gNo E 1))] (nI d) S4 from by rw [← hdd]; exact kL_below l E S4 (x >>> ((1 : Int32) &&& 31)) _ (gNo E 1) rfl h0 (gNo_lt hC (by decide))) (va_cwS 2 S.2.2.2.2 gL_act_L_below rfl rfl rfl (by decide +kernel) ⟨Nat.le_of_ble_eq_true rfl, Nat.le_of_ble_eq_true rfl⟩) rfl rfl (Nat.le_of_ble_eq_true rfl) dL_act_964 ⟨Nat.le_of_ble_eq_true rfl, Nat.le_of_ble_eq_true rfl⟩) ?_
        refine g_iload S 1 dL_act_967 rfl ?_
        refine g_iload S 0 dL_act_969 rfl ?_
        have hcn : CNi E S4 := hN.1.at (fun j _ _ => by rw [hS4, gu_ne (by omega), hS3, gu_ne (by omega), hS2, gu_ne (by omega), hS1, gu_ne (by omega)])
        have e11 : S4.1 (11 + d) = σ.1 (11 + d) := by rw [hS4, gu_ne (by omega), hS3, gu_ne (by omega), hS2, gu_ne (by omega), hS1, gu_ne (by omega)]
        have e6 : S4.1 6 = σ.1 6 := by rw [hS4, gu_ne (by omega), hS3, gu_ne (by omega), hS2, gu_ne (by omega), hS1, gu_ne (by omega)]
        refine g_calli (g_runV S hC (As := [.int (nI d), .int (nI k), .int (nI (1 + m1))]) (rest := []) (k := 0) (by decide) rfl (by decide) rfl (q_load l hfl E S4 hcn.1 d k (1 + m1) (cv σ (11 + d) 0) (by rw [hcn.2.2.1]; exact hb_d) hb_k (by omega) (by omega) (by omega) (by rw [e11]; exact hdg.1.1.1) (by rw [e11]; exact hem) (by rw [e6, hsk.1]; exact nI_nlt hst (by omega))) (cwV 3 S.2.2.2.2 gL_act_X7_load rfl rfl rfl (by decide +kernel) ⟨Nat.le_of_ble_eq_true rfl, Nat.le_of_ble_eq_true rfl⟩) rfl rfl (Nat.le_of_ble_eq_true rfl) dL_act_971 ⟨Nat.le_of_ble_eq_true rfl, Nat.le_of_ble_eq_true rfl⟩) ?_
        refine g_nm (fun S5 hS5 => ?_)
        refine g_aload_n S 4 dL_act_974 rfl ?_
        refine gg7r S hC hiX8 1 30 (by decide) (by decide +kernel) dL_act_975 ?_
        refine g_iload S 1 dL_act_978 rfl ?_
        refine g_iald S hC (by decide) rfl k rfl (show k < 2 by omega) dL_act_980 ?_
        refine g_icmp_ne S 988 dL_act_981 (by decide) (fun c_4 => absurd (by rw [hS5, fX2_fill _ _ _ _ _ (show 30 ≠ 11 + d by omega), gu_ne (show 30 ≠ 6 by decide), e6, hS4, gu_at, if_pos rfl, hS3, gu_ne (show 30 ≠ 40 + d by omega), hS2, gu_ne (show 30 ≠ 40 + d by omega), hS1, gu_ne (show 30 ≠ 40 + d by omega), hR.stock hb_k, Int32.sub_eq_add_neg]) c_4) (fun c_4 => ?_)
        refine g_const S dL_act_984 (v := 1) rfl ?_
        refine g_goto S 989 dL_act_985 (by decide) ?_
        exact act_end C.1 hr hlocks dL_act_989 rfl (by subst hS5 hS4 hS3 hS2 hS1; exact act_le (by have q := inv_load hI hb (by omega) hb_d hb_k (m := 1 + m1) (by omega) (by omega) hst; rw [gu_ne (show 6 ≠ 30 by decide), gu_ne (show 6 ≠ 40 + d by omega), gu_ne (show 6 ≠ 40 + d by omega), gu_ne (show 6 ≠ 40 + d by omega), gu_ne (show 30 ≠ 40 + d by omega), gu_ne (show 30 ≠ 40 + d by omega), gu_ne (show 30 ≠ 40 + d by omega)]; exact q)) (AR.rf hX (NB.of hC)) (Nat.le_of_ble_eq_true rfl) (Nat.le_of_ble_eq_true rfl)
      · skip
        refine g_const S dL_act_924 (v := 1) rfl ?_
        exact act_end C.1 hr hlocks dL_act_925 rfl (by exact act_le (⟨hN, hR⟩)) (AR.rf hX (NB.of hC)) (Nat.le_of_ble_eq_true rfl) (Nat.le_of_ble_eq_true rfl)
  · skip
    refine g_const S dL_act_862 (v := 1) rfl ?_
    exact act_end C.1 hr hlocks dL_act_863 rfl (by exact act_le (⟨hN, hR⟩)) (AR.rf hX (NB.of hC)) (Nat.le_of_ble_eq_true rfl) (Nat.le_of_ble_eq_true rfl)
set_option maxRecDepth 100000 in
set_option maxHeartbeats 4000000 in
theorem act_take2 (C : gAC p l s m args meth c E σ D B S0) {d : Nat} (hd : d < gNo E 1) (hk : ¬ σ.1 (40 + d) 2 < 0) : gJA p l e s m args below meth c E D B S0 E σ 0 0 1048 [(16, .int (nI d)), (0, .ref (E.2.2 0)), (1, .ref (E.2.2 29)), (2, .int x)] [] := by
  have hiX8 : ∀ w ∈ wsX80, w ∈ wsL_act := by decide +kernel
  obtain ⟨S, hr, hlocks, hC, hfl, hX, ⟨hN, hR⟩, hD, hB, hS⟩ := id C
  have hI : INV E D B S0 σ := ⟨hN, hR⟩
  have hb := NB.of hC
  have hok := hN.1.1
  unfold gJA
  have hd4 : d < 4 := Nat.lt_of_lt_of_le hd hb.2.1
  have hdg := hN.2.2.2.2.1 d hd
  have er2 : σ.1 (11 + d) 2 = σ.1 (40 + d) 2 := hR.drum hd (by omega)
  obtain ⟨kd, hkd, ekd⟩ : ∃ kd, kd < 2 ∧ σ.1 (11 + d) 2 = nI kd := by
    rcases hdg.2.2 with ⟨z, _⟩ | ⟨z, _⟩
    · exact absurd (by rw [← er2, z]; decide) hk
    · rcases z with z | z
      · exact ⟨0, by decide, z⟩
      · exact ⟨1, by decide, z⟩
  have ek2 : σ.1 (40 + d) 2 = nI kd := er2.symm.trans ekd
  have hy := yields_eq hR hd hdg
  refine g_aload_n S 2 dL_act_1048 rfl ?_
  refine gg7r S hC hiX8 8 33 (by decide) (by decide +kernel) dL_act_1049 ?_
  refine g_iload S 0 dL_act_1052 rfl ?_
  refine g_aaldR S hC 1 rfl (by decide) d rfl (by first | assumption | omega) (40 + d) (by omega) dL_act_1054 ?_
  refine g_calli (g_runS S hC (As := [.ref (E.2.2 (40 + d))]) (rest := []) (kX8_yields l E σ d hd) (va_cwS 1 S.2.2.2.2 gL_act_X8_yields rfl rfl rfl (by decide +kernel) ⟨Nat.le_of_ble_eq_true rfl, Nat.le_of_ble_eq_true rfl⟩) rfl rfl (Nat.le_of_ble_eq_true rfl) dL_act_1055 ⟨Nat.le_of_ble_eq_true rfl, Nat.le_of_ble_eq_true rfl⟩) ?_
  refine g_istore S [(17, .int (sX8_yields_r σ d)), (16, .int (nI d)), (0, .ref (E.2.2 0)), (1, .ref (E.2.2 29)), (2, .int x)] dL_act_1058 (by decide) rfl ?_
  refine g_aload_n S 3 dL_act_1060 rfl ?_
  refine gg7r S hC hiX8 2 31 (by decide) (by decide +kernel) dL_act_1061 ?_
  refine g_aload_n S 3 dL_act_1064 rfl ?_
  refine gg7r S hC hiX8 8 33 (by decide) (by decide +kernel) dL_act_1065 ?_
  refine g_iload S 1 dL_act_1068 rfl ?_
  refine g_aaldR S hC 1 rfl (by decide) d rfl (by first | assumption | omega) (40 + d) (by omega) dL_act_1070 ?_
  refine g_const S dL_act_1071 (v := 2) rfl ?_
  refine g_ialdR S hC 1 d (by omega) (by decide) (by first | assumption | omega) 2 rfl (by decide) dL_act_1072 ?_
  refine g_dup2 S dL_act_1073 rfl rfl ?_
  refine g_iald S hC (by decide) rfl kd ek2 hkd dL_act_1074 ?_
  refine g_iload S 0 dL_act_1075 rfl ?_
  refine g_iadd S dL_act_1077 ?_
  refine g_iast S hC (by decide) rfl kd ek2 hkd dL_act_1078 ?_
  refine g_nm (fun S1 hS1 => ?_)
  refine g_aload_n S 3 dL_act_1079 rfl ?_
  refine gg7r S hC hiX8 8 33 (by decide) (by decide +kernel) dL_act_1080 ?_
  refine g_iload S 1 dL_act_1083 rfl ?_
  refine g_aaldR S hC 1 rfl (by decide) d rfl (by first | assumption | omega) (40 + d) (by omega) dL_act_1085 ?_
  refine g_const S dL_act_1086 (v := 2) rfl ?_
  refine g_const S dL_act_1087 (v := (-1)) rfl ?_
  refine g_iastR S hC 1 d (by omega) (by decide) (by first | assumption | omega) 2 rfl (by decide) dL_act_1088 ?_
  refine g_nm (fun S2 hS2 => ?_)
  refine g_aload_n S 3 dL_act_1089 rfl ?_
  refine gg7r S hC hiX8 8 33 (by decide) (by decide +kernel) dL_act_1090 ?_
  refine g_iload S 1 dL_act_1093 rfl ?_
  refine g_aaldR S hC 1 rfl (by decide) d rfl (by first | assumption | omega) (40 + d) (by omega) dL_act_1095 ?_
  refine g_const S dL_act_1096 (v := 3) rfl ?_
  refine g_const S dL_act_1097 (v := 0) rfl ?_
  refine g_iastR S hC 1 d (by omega) (by decide) (by first | assumption | omega) 3 rfl (by decide) dL_act_1098 ?_
  refine g_nm (fun S3 hS3 => ?_)
  refine g_aload_n S 3 dL_act_1099 rfl ?_
  refine gg7r S hC hiX8 8 33 (by decide) (by decide +kernel) dL_act_1100 ?_
  refine g_iload S 1 dL_act_1103 rfl ?_
  refine g_aaldR S hC 1 rfl (by decide) d rfl (by first | assumption | omega) (40 + d) (by omega) dL_act_1105 ?_
  refine g_const S dL_act_1106 (v := 4) rfl ?_
  refine g_const S dL_act_1107 (v := 0) rfl ?_
  refine g_iastR S hC 1 d (by omega) (by decide) (by first | assumption | omega) 4 rfl (by decide) dL_act_1108 ?_
  refine g_nm (fun S4 hS4 => ?_)
  refine g_aload_n S 2 dL_act_1109 rfl ?_
  refine g_iload S 1 dL_act_1110 rfl ?_
  have hcn : CNi E S4 := hN.1.at (fun j _ _ => by rw [hS4, gu_ne (by omega), hS3, gu_ne (by omega), hS2, gu_ne (by omega), hS1, gu_ne (by omega)])
  have e11 : S4.1 (11 + d) = σ.1 (11 + d) := by rw [hS4, gu_ne (by omega), hS3, gu_ne (by omega), hS2, gu_ne (by omega), hS1, gu_ne (by omega)]
  refine g_calli (g_runV S hC (As := [.int (nI d)]) (rest := []) (k := 0) (by decide) rfl (by decide) rfl (q_take l hfl E S4 hcn.1 d (by rw [hcn.2.2.1]; exact hd) (by rw [e11, ekd]; rcases (show kd = 0 ∨ kd = 1 by omega) with rfl | rfl <;> decide)) (cwV 1 S.2.2.2.2 gL_act_X7_take rfl rfl rfl (by decide +kernel) ⟨Nat.le_of_ble_eq_true rfl, Nat.le_of_ble_eq_true rfl⟩) rfl rfl (Nat.le_of_ble_eq_true rfl) dL_act_1112 ⟨Nat.le_of_ble_eq_true rfl, Nat.le_of_ble_eq_true rfl⟩) ?_
  refine g_nm (fun S5 hS5 => ?_)
  refine g_iload S 0 dL_act_1115 rfl ?_
  refine g_icmp_ne S 1124 dL_act_1117 (by decide) (fun c_1 => absurd (by rw [parts_at e11, e11]; exact hy) c_1) (fun c_1 => ?_)
  refine g_const S dL_act_1120 (v := 1) rfl ?_
  refine g_goto S 1125 dL_act_1121 (by decide) ?_
  exact act_end C.1 hr hlocks dL_act_1125 rfl (by subst hS5 hS4 hS3 hS2 hS1; exact act_le (inv_take hI hb hB hd hkd ekd)) (AR.rf hX (NB.of hC)) (Nat.le_of_ble_eq_true rfl) (Nat.le_of_ble_eq_true rfl)
set_option maxRecDepth 100000 in
set_option maxHeartbeats 4000000 in
theorem act_take (C : gAC p l s m args meth c E σ D B S0) : gJA p l e s m args below meth c E D B S0 E σ 0 0 990 [(0, .ref (E.2.2 0)), (1, .ref (E.2.2 29)), (2, .int x)] [] := by
  have hiX8 : ∀ w ∈ wsX80, w ∈ wsL_act := by decide +kernel
  obtain ⟨S, hr, hlocks, hC, hfl, hX, ⟨hN, hR⟩, hD, hB, hS⟩ := id C
  have hI : INV E D B S0 σ := ⟨hN, hR⟩
  have hb := NB.of hC
  have hok := hN.1.1
  unfold gJA
  refine g_aload_n S 1 dL_act_990 rfl ?_
  refine gg7r S hC hiX8 8 33 (by decide) (by decide +kernel) dL_act_991 ?_
  refine g_alenR S hC 1 rfl (by decide) dL_act_994 ?_
  refine g_if_ne S 1000 dL_act_995 (by decide) (fun c_1 => ?_) (fun c_1 => ?_)
  · skip
    have h0 : 0 < gNo E 1 := pos_of_ne (by assumption)
    refine g_iload_n S 2 dL_act_1000 rfl ?_
    refine g_const S dL_act_1001 (v := 1) rfl ?_
    refine g_ishr S dL_act_1002 ?_
    refine g_aload_n S 1 dL_act_1003 rfl ?_
    refine gg7r S hC hiX8 8 33 (by decide) (by decide +kernel) dL_act_1004 ?_
    refine g_alenR S hC 1 rfl (by decide) dL_act_1007 ?_
    refine g_calli (g_runS S hC (As := [.int (x >>> ((1 : Int32) &&& 31)), .int (nI (gNo E 1))]) (rest := []) (kL_below l E σ (x >>> ((1 : Int32) &&& 31)) _ (gNo E 1) rfl h0 (gNo_lt hC (by decide))) (va_cwS 2 S.2.2.2.2 gL_act_L_below rfl rfl rfl (by decide +kernel) ⟨Nat.le_of_ble_eq_true rfl, Nat.le_of_ble_eq_true rfl⟩) rfl rfl (Nat.le_of_ble_eq_true rfl) dL_act_1008 ⟨Nat.le_of_ble_eq_true rfl, Nat.le_of_ble_eq_true rfl⟩) ?_
    have hb_d := bel_lt (v := x >>> ((1 : Int32) &&& 31)) (n := gNo E 1) h0
    generalize bel (x >>> ((1 : Int32) &&& 31)) (gNo E 1) = d at hb_d ⊢
    refine g_istore S [(16, .int (nI d)), (0, .ref (E.2.2 0)), (1, .ref (E.2.2 29)), (2, .int x)] dL_act_1011 (by decide) rfl ?_
    refine g_aload_n S 2 dL_act_1013 rfl ?_
    refine gg7r S hC hiX8 8 33 (by decide) (by decide +kernel) dL_act_1014 ?_
    refine g_iload S 0 dL_act_1017 rfl ?_
    refine g_aaldR S hC 1 rfl (by decide) d rfl (by first | assumption | omega) (40 + d) (by omega) dL_act_1019 ?_
    refine g_const S dL_act_1020 (v := 2) rfl ?_
    refine g_ialdR S hC 1 d (by omega) (by decide) (by first | assumption | omega) 2 rfl (by decide) dL_act_1021 ?_
    refine g_if_lt S 1046 dL_act_1022 (by decide) (fun c_2 => ?_) (fun c_2 => ?_)
    · skip
      refine g_const S dL_act_1046 (v := 1) rfl ?_
      exact act_end C.1 hr hlocks dL_act_1047 rfl (by exact act_le (⟨hN, hR⟩)) (AR.rf hX (NB.of hC)) (Nat.le_of_ble_eq_true rfl) (Nat.le_of_ble_eq_true rfl)
    · skip
      have hneg : ¬ σ.1 (40 + d) 2 < 0 := by assumption
      refine g_aload_n S 2 dL_act_1025 rfl ?_
      refine gg7r S hC hiX8 8 33 (by decide) (by decide +kernel) dL_act_1026 ?_
      refine g_iload S 0 dL_act_1029 rfl ?_
      refine g_aaldR S hC 1 rfl (by decide) d rfl (by first | assumption | omega) (40 + d) (by omega) dL_act_1031 ?_
      refine g_calli (g_runS S hC (As := [.ref (E.2.2 (40 + d))]) (rest := []) (kX8_yields l E σ d hb_d) (va_cwS 1 S.2.2.2.2 gL_act_X8_yields rfl rfl rfl (by decide +kernel) ⟨Nat.le_of_ble_eq_true rfl, Nat.le_of_ble_eq_true rfl⟩) rfl rfl (Nat.le_of_ble_eq_true rfl) dL_act_1032 ⟨Nat.le_of_ble_eq_true rfl, Nat.le_of_ble_eq_true rfl⟩) ?_
      refine g_if_ne S 1048 dL_act_1035 (by decide) (fun c_3 => ?_) (fun c_3 => ?_)
      · skip
        exact act_take2 C hb_d hneg
      · skip
        refine g_iload_n S 3 dL_act_1038 rfl ?_
        refine g_const S dL_act_1039 (v := 4) rfl ?_
        refine g_calli (g_runS S hC (As := [.int x, .int (4 : Int32)]) (rest := []) (kL_below l E σ x _ 4 rfl (by decide) (by decide)) (va_cwS 2 S.2.2.2.2 gL_act_L_below rfl rfl rfl (by decide +kernel) ⟨Nat.le_of_ble_eq_true rfl, Nat.le_of_ble_eq_true rfl⟩) rfl rfl (Nat.le_of_ble_eq_true rfl) dL_act_1040 ⟨Nat.le_of_ble_eq_true rfl, Nat.le_of_ble_eq_true rfl⟩) ?_
        have hb_q := bel_lt (v := x) (n := 4) (by decide)
        generalize bel (x) 4 = q at hb_q ⊢
        refine g_if_le S 1048 dL_act_1043 (by decide) (fun c_4 => ?_) (fun c_4 => ?_)
        · skip
          exact act_take2 C hb_d hneg
        · skip
          refine g_const S dL_act_1046 (v := 1) rfl ?_
          exact act_end C.1 hr hlocks dL_act_1047 rfl (by exact act_le (⟨hN, hR⟩)) (AR.rf hX (NB.of hC)) (Nat.le_of_ble_eq_true rfl) (Nat.le_of_ble_eq_true rfl)
  · skip
    refine g_const S dL_act_998 (v := 1) rfl ?_
    exact act_end C.1 hr hlocks dL_act_999 rfl (by exact act_le (⟨hN, hR⟩)) (AR.rf hX (NB.of hC)) (Nat.le_of_ble_eq_true rfl) (Nat.le_of_ble_eq_true rfl)
set_option maxRecDepth 100000 in
set_option maxHeartbeats 4000000 in
theorem act_send (C : gAC p l s m args meth c E σ D B S0) : gJA p l e s m args below meth c E D B S0 E σ 0 0 1126 [(0, .ref (E.2.2 0)), (1, .ref (E.2.2 29)), (2, .int x)] [] := by
  have hiX8 : ∀ w ∈ wsX80, w ∈ wsL_act := by decide +kernel
  obtain ⟨S, hr, hlocks, hC, hfl, hX, ⟨hN, hR⟩, hD, hB, hS⟩ := id C
  have hI : INV E D B S0 σ := ⟨hN, hR⟩
  have hb := NB.of hC
  have hok := hN.1.1
  unfold gJA
  refine g_aload_n S 1 dL_act_1126 rfl ?_
  refine gg7r S hC hiX8 9 34 (by decide) (by decide +kernel) dL_act_1127 ?_
  refine g_alenR S hC 2 rfl (by decide) dL_act_1130 ?_
  refine g_if_ne S 1136 dL_act_1131 (by decide) (fun c_1 => ?_) (fun c_1 => ?_)
  · skip
    have h0 : 0 < gNo E 2 := pos_of_ne (by assumption)
    refine g_aload_n S 1 dL_act_1136 rfl ?_
    refine gg7r S hC hiX8 9 34 (by decide) (by decide +kernel) dL_act_1137 ?_
    refine g_iload_n S 2 dL_act_1140 rfl ?_
    refine g_const S dL_act_1141 (v := 1) rfl ?_
    refine g_ishr S dL_act_1142 ?_
    refine g_aload_n S 1 dL_act_1143 rfl ?_
    refine gg7r S hC hiX8 9 34 (by decide) (by decide +kernel) dL_act_1144 ?_
    refine g_alenR S hC 2 rfl (by decide) dL_act_1147 ?_
    refine g_calli (g_runS S hC (As := [.int (x >>> ((1 : Int32) &&& 31)), .int (nI (gNo E 2))]) (rest := [.ref (E.2.2 34)]) (kL_below l E σ (x >>> ((1 : Int32) &&& 31)) _ (gNo E 2) rfl h0 (gNo_lt hC (by decide))) (va_cwS 2 S.2.2.2.2 gL_act_L_below rfl rfl rfl (by decide +kernel) ⟨Nat.le_of_ble_eq_true rfl, Nat.le_of_ble_eq_true rfl⟩) rfl rfl (Nat.le_of_ble_eq_true rfl) dL_act_1148 ⟨Nat.le_of_ble_eq_true rfl, Nat.le_of_ble_eq_true rfl⟩) ?_
    have hb_d := bel_lt (v := x >>> ((1 : Int32) &&& 31)) (n := gNo E 2) h0
    generalize hdd : bel (x >>> ((1 : Int32) &&& 31)) (gNo E 2) = d at hb_d ⊢
    have hd4 : d < 4 := Nat.lt_of_lt_of_le hb_d hb.2.2.1
    refine g_aaldR S hC 2 rfl (by decide) d rfl (by first | assumption | omega) (44 + d) (by omega) dL_act_1151 ?_
    refine g_astore S [(18, .ref (E.2.2 (44 + d))), (0, .ref (E.2.2 0)), (1, .ref (E.2.2 29)), (2, .int x)] dL_act_1152 (by decide) rfl ?_
    refine g_aload S 0 dL_act_1154 rfl ?_
    refine g_const S dL_act_1156 (v := 2) rfl ?_
    refine g_ialdR S hC 2 d (by omega) (by decide) (by first | assumption | omega) 2 rfl (by decide) dL_act_1157 ?_
    refine g_if_eq S 1163 dL_act_1158 (by decide) (fun c_2 => ?_) (fun c_2 => ?_)
    · skip
      have hh : σ.1 (15 + d) 2 = 0 := (hR.smug hb_d (by omega)).trans (by assumption)
      refine g_aload S 0 dL_act_1163 rfl ?_
      refine g_const S dL_act_1165 (v := 2) rfl ?_
      refine g_const S dL_act_1166 (v := 1) rfl ?_
      refine g_iastR S hC 2 d (by omega) (by decide) (by first | assumption | omega) 2 rfl (by decide) dL_act_1167 ?_
      refine g_nm (fun S1 hS1 => ?_)
      refine g_aload S 0 dL_act_1168 rfl ?_
      refine g_const S dL_act_1170 (v := 3) rfl ?_
      refine g_aload S 0 dL_act_1171 rfl ?_
      refine g_const S dL_act_1173 (v := 0) rfl ?_
      refine g_ialdR S hC 2 d (by omega) (by decide) (by first | assumption | omega) 0 rfl (by decide) dL_act_1174 ?_
      refine g_iastR S hC 2 d (by omega) (by decide) (by first | assumption | omega) 3 rfl (by decide) dL_act_1175 ?_
      refine g_nm (fun S2 hS2 => ?_)
      refine g_aload_n S 1 dL_act_1176 rfl ?_
      refine g_iload_n S 3 dL_act_1177 rfl ?_
      refine g_const S dL_act_1178 (v := 1) rfl ?_
      refine g_ishr S dL_act_1179 ?_
      refine g_aload_n S 2 dL_act_1180 rfl ?_
      refine gg7r S hC hiX8 9 34 (by decide) (by decide +kernel) dL_act_1181 ?_
      refine g_alenR S hC 2 rfl (by decide) dL_act_1184 ?_
      refine g_calli (g_runS S hC (As := [.int (x >>> ((1 : Int32) &&& 31)), .int (nI (gNo E 2))]) (rest := [.ref (E.2.2 0)]) (show gMi l yL_below wsL_below ({ frames := 0, cells := 0, slots := 0, locals := 0 }) 0 0 E S2 [.int (x >>> ((1 : Int32) &&& 31)), .int (nI (gNo E 2))] (nI d) S2 from by rw [← hdd]; exact kL_below l E S2 (x >>> ((1 : Int32) &&& 31)) _ (gNo E 2) rfl h0 (gNo_lt hC (by decide))) (va_cwS 2 S.2.2.2.2 gL_act_L_below rfl rfl rfl (by decide +kernel) ⟨Nat.le_of_ble_eq_true rfl, Nat.le_of_ble_eq_true rfl⟩) rfl rfl (Nat.le_of_ble_eq_true rfl) dL_act_1185 ⟨Nat.le_of_ble_eq_true rfl, Nat.le_of_ble_eq_true rfl⟩) ?_
      have hcn : CNi E S2 := hN.1.at (fun j _ _ => by rw [hS2, gu_ne (by omega), hS1, gu_ne (by omega)])
      have e15 : S2.1 (15 + d) = σ.1 (15 + d) := by rw [hS2, gu_ne (by omega), hS1, gu_ne (by omega)]
      refine g_calli (g_runV S hC (As := [.int (nI d)]) (rest := []) (k := 0) (by decide) rfl (by decide) rfl (q_send l hfl E S2 hcn.1 d (by rw [hcn.2.2.2.1]; exact hb_d) (by rw [e15]; exact hh)) (cwV 1 S.2.2.2.2 gL_act_X7_send rfl rfl rfl (by decide +kernel) ⟨Nat.le_of_ble_eq_true rfl, Nat.le_of_ble_eq_true rfl⟩) rfl rfl (Nat.le_of_ble_eq_true rfl) dL_act_1188 ⟨Nat.le_of_ble_eq_true rfl, Nat.le_of_ble_eq_true rfl⟩) ?_
      refine g_nm (fun S3 hS3 => ?_)
      refine g_aload S 0 dL_act_1191 rfl ?_
      refine g_const S dL_act_1193 (v := 0) rfl ?_
      refine g_ialdR S hC 2 d (by omega) (by decide) (by first | assumption | omega) 0 rfl (by decide) dL_act_1194 ?_
      refine g_icmp_ne S 1202 dL_act_1195 (by decide) (fun c_3 => absurd (by rw [hS3, setOut_at, gu_at, if_pos rfl, gu_ne (show 44 + d ≠ 15 + d by omega), gu_ne (show 44 + d ≠ 15 + d by omega), e15, hS2, gu_at, if_neg (by decide), hS1, gu_at, if_neg (by decide)]; exact hR.smug hb_d (by omega)) c_3) (fun c_3 => ?_)
      refine g_const S dL_act_1198 (v := 1) rfl ?_
      refine g_goto S 1203 dL_act_1199 (by decide) ?_
      exact act_end C.1 hr hlocks dL_act_1203 rfl (by subst hS3 hS2 hS1; exact act_le (by have q := inv_send hI hb hb_d; rw [setOut_at, gu_at, if_neg (by decide), gu_ne (show 15 + d ≠ 44 + d by omega), gu_ne (show 15 + d ≠ 44 + d by omega)]; exact q)) (AR.rf hX (NB.of hC)) (Nat.le_of_ble_eq_true rfl) (Nat.le_of_ble_eq_true rfl)
    · skip
      refine g_const S dL_act_1161 (v := 1) rfl ?_
      exact act_end C.1 hr hlocks dL_act_1162 rfl (by exact act_le (⟨hN, hR⟩)) (AR.rf hX (NB.of hC)) (Nat.le_of_ble_eq_true rfl) (Nat.le_of_ble_eq_true rfl)
  · skip
    refine g_const S dL_act_1134 (v := 1) rfl ?_
    exact act_end C.1 hr hlocks dL_act_1135 rfl (by exact act_le (⟨hN, hR⟩)) (AR.rf hX (NB.of hC)) (Nat.le_of_ble_eq_true rfl) (Nat.le_of_ble_eq_true rfl)
set_option maxRecDepth 100000 in
set_option maxHeartbeats 4000000 in
theorem act_days (C : gAC p l s m args meth c E σ D B S0) : gJA p l e s m args below meth c E D B S0 E σ 0 0 1204 [(0, .ref (E.2.2 0)), (1, .ref (E.2.2 29)), (2, .int x)] [] := by
  have hiX8 : ∀ w ∈ wsX80, w ∈ wsL_act := by decide +kernel
  obtain ⟨S, hr, hlocks, hC, hfl, hX, ⟨hN, hR⟩, hD, hB, hS⟩ := id C
  have hI : INV E D B S0 σ := ⟨hN, hR⟩
  have hb := NB.of hC
  have hok := hN.1.1
  unfold gJA
  refine g_const S dL_act_1204 (v := 1) rfl ?_
  refine g_iload_n S 2 dL_act_1205 rfl ?_
  refine g_const S dL_act_1206 (v := 2) rfl ?_
  refine g_ishr S dL_act_1207 ?_
  refine g_const S dL_act_1208 (v := 4) rfl ?_
  refine g_calli (g_runS S hC (As := [.int (x >>> ((2 : Int32) &&& 31)), .int (4 : Int32)]) (rest := [.int (1 : Int32)]) (kL_below l E σ (x >>> ((2 : Int32) &&& 31)) _ 4 rfl (by decide) (by decide)) (va_cwS 2 S.2.2.2.2 gL_act_L_below rfl rfl rfl (by decide +kernel) ⟨Nat.le_of_ble_eq_true rfl, Nat.le_of_ble_eq_true rfl⟩) rfl rfl (Nat.le_of_ble_eq_true rfl) dL_act_1209 ⟨Nat.le_of_ble_eq_true rfl, Nat.le_of_ble_eq_true rfl⟩) ?_
  have hb_m1 := bel_lt (v := x >>> ((2 : Int32) &&& 31)) (n := 4) (by decide)
  generalize bel (x >>> ((2 : Int32) &&& 31)) 4 = m1 at hb_m1 ⊢
  refine g_iadd S dL_act_1212 ?_
  refine g_top (y := nI (1 + m1)) (gI_add (a := 1) rfl rfl) ?_
  refine g_istore S [(19, .int (nI (1 + m1))), (0, .ref (E.2.2 0)), (1, .ref (E.2.2 29)), (2, .int x)] dL_act_1213 (by decide) rfl ?_
  refine g_aload_n S 2 dL_act_1215 rfl ?_
  refine gg7 S hC hiX8 3 (by decide) (by decide +kernel) dL_act_1216 ?_
  refine g_istore S [(20, .int (σ.1 29 3)), (19, .int (nI (1 + m1))), (0, .ref (E.2.2 0)), (1, .ref (E.2.2 29)), (2, .int x)] dL_act_1219 (by decide) rfl ?_
  refine g_aload_n S 3 dL_act_1221 rfl ?_
  refine g_iload S 1 dL_act_1222 rfl ?_
  refine g_callr (g_runV S hC (As := [.int (nI (1 + m1))]) (rest := []) (k := 29) (by decide) rfl (by decide) rfl (kX8_behind l E σ (1 + m1) (by omega) ⟨cv σ 1 9, hR.day.symm.trans hN.2.1.1.1, by have := hN.2.1.1.2; omega⟩) (cwV 1 S.2.2.2.2 gL_act_X8_behind rfl rfl rfl (by decide +kernel) ⟨Nat.le_of_ble_eq_true rfl, Nat.le_of_ble_eq_true rfl⟩) rfl rfl (Nat.le_of_ble_eq_true rfl) dL_act_1224 ⟨Nat.le_of_ble_eq_true rfl, Nat.le_of_ble_eq_true rfl⟩) ?_
  refine g_nm (fun S1 hS1 => ?_)
  refine g_pop S dL_act_1227 rfl ?_
  refine g_aload_n S 2 dL_act_1228 rfl ?_
  refine g_iload S 1 dL_act_1229 rfl ?_
  have hcn : CNi E S1 := hN.1.at (fun j _ _ => by rw [hS1, loBehind (by decide)])
  have hday := inv_days hI hb (1 + m1) (by omega) (by omega) (by omega) (by omega)
  refine g_calli (g_runV S hC (As := [.int (nI (1 + m1))]) (rest := []) (k := 0) (by decide) rfl (by decide) rfl (q_pass l hfl E S1 hcn.1 (1 + m1) (by omega) (by omega)) (cwV 1 S.2.2.2.2 gL_act_X7_pass rfl rfl rfl (by decide +kernel) ⟨Nat.le_of_ble_eq_true rfl, Nat.le_of_ble_eq_true rfl⟩) rfl rfl (Nat.le_of_ble_eq_true rfl) dL_act_1231 ⟨Nat.le_of_ble_eq_true rfl, Nat.le_of_ble_eq_true rfl⟩) ?_
  refine g_nm (fun S2 hS2 => ?_)
  refine g_aload_n S 3 dL_act_1234 rfl ?_
  refine gg7 S hC hiX8 3 (by decide) (by decide +kernel) dL_act_1235 ?_
  refine g_iload S 0 dL_act_1238 rfl ?_
  refine g_isub S dL_act_1240 ?_
  refine g_icmp_ne S 1248 dL_act_1241 (by decide) (fun c_1 => absurd (by rw [hS2, hS1]; exact hday.2) c_1) (fun c_1 => ?_)
  refine g_const S dL_act_1244 (v := 1) rfl ?_
  refine g_goto S 1249 dL_act_1245 (by decide) ?_
  exact act_end C.1 hr hlocks dL_act_1249 rfl (by subst hS2 hS1; exact act_le (hday.1)) (AR.rf hX (NB.of hC)) (Nat.le_of_ble_eq_true rfl) (Nat.le_of_ble_eq_true rfl)
end AC
