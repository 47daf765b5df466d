section LB
variable {p : Program} {l : Launch} {e : Env} {s : State} {m : MethodId} {args : Array Value} {below : List Frame} {meth : Method} {c : Code} {Q : State → Prop}
variable {E : gT} {σ : gS} {cells slots : Nat} {D B S0 : Nat}
set_option maxRecDepth 100000 in
set_option maxHeartbeats 4000000 in
theorem law_e (C : gLC p l s m args c E σ D B S0) {i j k sh pn : Nat} {x al tk : Int32} (hj : j < gNo E 3) (hpn : pn ≤ 11) (hc : cells + 10 ≤ 683427) (hs : slots + 60 ≤ 7051186) (ih : gJ p l e room_1 s m args below meth c Q 20 E σ (cells + 10) (slots + 60) 424 [(17, .int (nI (j + 1))), (16, .int (nI (min pn (cv σ (19 + j) 1)))), (15, .int (sumC σ (j + 1))), (14, .int (nI sh)), (12, .int (nI k)), (6, .int x), (5, .int (nI i)), (4, .int al), (3, .int tk), (2, .ref (E.2.2 29)), (1, .ref (E.2.2 0)), (0, .ref (gSb E))] []) : gJ p l e room_1 s m args below meth c Q 20 E σ cells slots 424 [(17, .int (nI j)), (16, .int (nI pn)), (15, .int (sumC σ j)), (14, .int (nI sh)), (12, .int (nI k)), (6, .int x), (5, .int (nI i)), (4, .int al), (3, .int tk), (2, .ref (E.2.2 29)), (1, .ref (E.2.2 0)), (0, .ref (gSb E))] [] := by
  have hiX8 : ∀ w ∈ wsX80, w ∈ wsL_law := by decide +kernel
  obtain ⟨S, hC, hfl, hX, hI, hD, hB, hS0⟩ := id C
  obtain ⟨hN, hR⟩ := id hI
  have hb := NB.of hC
  have hok := hN.1.1
  have hg := hN.2.2.2.2.2.2.1 j hj
  have q0 := hg.1.2
  have q1 := hg.2.1.2
  have q2 := hg.2.2.2
  refine g_iload S 0 dL_law_424 rfl ?_
  refine g_aload_n S 9 dL_law_426 rfl ?_
  refine gg7r S hC hiX8 10 35 (by decide) (by decide +kernel) dL_law_427 ?_
  refine g_alenR S hC 3 rfl (by decide) dL_law_430 ?_
  refine g_icmp_ge S 495 dL_law_431 (by decide) (fun c_1 => absurd c_1 (nI_ge hj (gNo_lt hC (by decide)))) (fun c_1 => ?_)
  refine g_aload_n S 10 dL_law_434 rfl ?_
  refine g_iload S 0 dL_law_435 rfl ?_
  refine g_const S dL_law_437 (v := 2) rfl ?_
  refine g_eq (σ' := σ) (st' := [.int (nI 2), .int (nI j), .ref (E.2.2 0)]) rfl (by rfl) ?_
  refine g_calli (g_runV S hC (As := [.int (nI j), .int (nI 2)]) (rest := []) (k := 0) (by decide) rfl (by decide) rfl (q_rationv l hfl E σ hok j 2 (by rw [hN.1.2.2.2.2]; exact hj) (by decide) (v := nI (cv σ (19 + j) 2)) (by exact hg.2.2.1)) (cwV 2 S.2.2.2.2 gL_law_X7_ration rfl rfl rfl (by decide +kernel) ⟨Nat.le_of_ble_eq_true rfl, Nat.le_of_ble_eq_true rfl⟩) rfl rfl (Nat.le_of_ble_eq_true rfl) dL_law_438 ⟨by show _ ≤ 683427; omega, by show _ ≤ 7051186; omega⟩) ?_
  refine g_if_lt S 461 dL_law_441 (by decide) (fun c_2 => absurd c_2 (nI_pos (by omega))) (fun c_2 => ?_)
  refine g_aload_n S 10 dL_law_444 rfl ?_
  refine g_iload S 0 dL_law_445 rfl ?_
  refine g_const S dL_law_447 (v := 2) rfl ?_
  refine g_eq (σ' := σ) (st' := [.int (nI 2), .int (nI j), .ref (E.2.2 0)]) rfl (by rfl) ?_
  refine g_calli (g_runV S hC (As := [.int (nI j), .int (nI 2)]) (rest := []) (k := 0) (by decide) rfl (by decide) rfl (q_rationv l hfl E σ hok j 2 (by rw [hN.1.2.2.2.2]; exact hj) (by decide) (v := nI (cv σ (19 + j) 2)) (by exact hg.2.2.1)) (cwV 2 S.2.2.2.2 gL_law_X7_ration rfl rfl rfl (by decide +kernel) ⟨Nat.le_of_ble_eq_true rfl, Nat.le_of_ble_eq_true rfl⟩) rfl rfl (Nat.le_of_ble_eq_true rfl) dL_law_448 ⟨by show _ ≤ 683427; omega, by show _ ≤ 7051186; omega⟩) ?_
  refine g_aload_n S 10 dL_law_451 rfl ?_
  refine g_iload S 0 dL_law_452 rfl ?_
  refine g_const S dL_law_454 (v := 0) rfl ?_
  refine g_eq (σ' := σ) (st' := [.int (nI 0), .int (nI j), .ref (E.2.2 0), .int (nI (cv σ (19 + j) 2))]) rfl (by rfl) ?_
  refine g_calli (g_runV S hC (As := [.int (nI j), .int (nI 0)]) (rest := [.int (nI (cv σ (19 + j) 2))]) (k := 0) (by decide) rfl (by decide) rfl (q_rationv l hfl E σ hok j 0 (by rw [hN.1.2.2.2.2]; exact hj) (by decide) (v := nI (cv σ (19 + j) 0)) (by exact hg.1.1)) (cwV 2 S.2.2.2.2 gL_law_X7_ration rfl rfl rfl (by decide +kernel) ⟨Nat.le_of_ble_eq_true rfl, Nat.le_of_ble_eq_true rfl⟩) rfl rfl (Nat.le_of_ble_eq_true rfl) dL_law_455 ⟨by show _ ≤ 683427; omega, by show _ ≤ 7051186; omega⟩) ?_
  refine g_icmp_le S 463 dL_law_458 (by decide) (fun c_3 => ?_) (fun c_3 => absurd (nI_le (by omega) (by omega)) c_3)
  refine g_iload S 2 dL_law_463 rfl ?_
  refine g_aload_n S 10 dL_law_465 rfl ?_
  refine g_iload S 0 dL_law_466 rfl ?_
  refine g_const S dL_law_468 (v := 3) rfl ?_
  refine g_eq (σ' := σ) (st' := [.int (nI 3), .int (nI j), .ref (E.2.2 0), .int (sumC σ j)]) rfl (by rfl) ?_
  refine g_calli (g_runV S hC (As := [.int (nI j), .int (nI 3)]) (rest := [.int (sumC σ j)]) (k := 0) (by decide) rfl (by decide) rfl (q_rationv l hfl E σ hok j 3 (by rw [hN.1.2.2.2.2]; exact hj) (by decide) (v := σ.1 (19 + j) 3) (by exact rfl)) (cwV 2 S.2.2.2.2 gL_law_X7_ration rfl rfl rfl (by decide +kernel) ⟨Nat.le_of_ble_eq_true rfl, Nat.le_of_ble_eq_true rfl⟩) rfl rfl (Nat.le_of_ble_eq_true rfl) dL_law_469 ⟨by show _ ≤ 683427; omega, by show _ ≤ 7051186; omega⟩) ?_
  refine g_iadd S dL_law_472 ?_
  refine g_top (y := sumC σ (j + 1)) rfl ?_
  refine g_istore S [(15, .int (sumC σ (j + 1))), (17, .int (nI j)), (16, .int (nI pn)), (14, .int (nI sh)), (12, .int (nI k)), (6, .int x), (5, .int (nI i)), (4, .int al), (3, .int tk), (2, .ref (E.2.2 29)), (1, .ref (E.2.2 0)), (0, .ref (gSb E))] dL_law_473 (by decide) rfl ?_
  refine g_iload S 2 dL_law_475 rfl ?_
  refine g_aload_n S 10 dL_law_477 rfl ?_
  refine g_iload S 1 dL_law_478 rfl ?_
  refine g_const S dL_law_480 (v := 1) rfl ?_
  refine g_eq (σ' := σ) (st' := [.int (nI 1), .int (nI j), .ref (E.2.2 0), .int (nI pn)]) rfl (by rfl) ?_
  refine g_calli (g_runV S hC (As := [.int (nI j), .int (nI 1)]) (rest := [.int (nI pn)]) (k := 0) (by decide) rfl (by decide) rfl (q_rationv l hfl E σ hok j 1 (by rw [hN.1.2.2.2.2]; exact hj) (by decide) (v := nI (cv σ (19 + j) 1)) (by exact hg.2.1.1)) (cwV 2 S.2.2.2.2 gL_law_X7_ration rfl rfl rfl (by decide +kernel) ⟨Nat.le_of_ble_eq_true rfl, Nat.le_of_ble_eq_true rfl⟩) rfl rfl (Nat.le_of_ble_eq_true rfl) dL_law_481 ⟨by show _ ≤ 683427; omega, by show _ ≤ 7051186; omega⟩) ?_
  refine g_mn S (by decide +kernel) (by decide +kernel) (by decide +kernel) (by decide +kernel) (Nat.le_of_ble_eq_true rfl) (Nat.le_of_ble_eq_true rfl) (by show _ ≤ 683427; omega) (by show _ ≤ 7051186; omega) dL_law_484 ?_
  refine g_top (y := nI (min pn (cv σ (19 + j) 1))) (gmin_nI (by omega) (by omega)) ?_
  refine g_istore S [(16, .int (nI (min pn (cv σ (19 + j) 1)))), (15, .int (sumC σ (j + 1))), (17, .int (nI j)), (14, .int (nI sh)), (12, .int (nI k)), (6, .int x), (5, .int (nI i)), (4, .int al), (3, .int tk), (2, .ref (E.2.2 29)), (1, .ref (E.2.2 0)), (0, .ref (gSb E))] dL_law_487 (by decide) rfl ?_
  refine g_iinc S [(17, .int (nI (j + 1))), (16, .int (nI (min pn (cv σ (19 + j) 1)))), (15, .int (sumC σ (j + 1))), (14, .int (nI sh)), (12, .int (nI k)), (6, .int x), (5, .int (nI i)), (4, .int al), (3, .int tk), (2, .ref (E.2.2 29)), (1, .ref (E.2.2 0)), (0, .ref (gSb E))] 2 (nI (j + 1)) dL_law_489 rfl (by exact nI_1 j) (by decide) rfl ?_
  refine g_goto S 424 dL_law_492 (by decide) ?_
  refine g_lvs [0, 1, 2, 3, 4, 5, 6, 7, 8, 9, 10, 11] (lv' := [(17, .int (nI (j + 1))), (16, .int (nI (min pn (cv σ (19 + j) 1)))), (15, .int (sumC σ (j + 1))), (14, .int (nI sh)), (12, .int (nI k)), (6, .int x), (5, .int (nI i)), (4, .int al), (3, .int tk), (2, .ref (E.2.2 29)), (1, .ref (E.2.2 0)), (0, .ref (gSb E))]) rfl ?_
  exact ih
set_option maxRecDepth 100000 in
set_option maxHeartbeats 4000000 in
theorem law_ex (C : gLC p l s m args c E σ D B S0) {i k sh pn : Nat} {x al tk : Int32} (hk0 : ¬ nI pn ≤ nI sh → nI k ≤ 0) (hc : cells + 1 ≤ 683427) (hs : slots + 6 ≤ 7051186) (ih : gJ p l e room_1 s m args below meth c Q 20 E σ (cells + 1) (slots + 6) 522 [(17, .int (0 : Int32)), (6, .int x), (5, .int (nI i)), (4, .int al), (3, .int tk), (2, .ref (E.2.2 29)), (1, .ref (E.2.2 0)), (0, .ref (gSb E))] []) : gJ p l e room_1 s m args below meth c Q 20 E σ cells slots 424 [(17, .int (nI (gNo E 3))), (16, .int (nI pn)), (15, .int (sumC σ (gNo E 3))), (14, .int (nI sh)), (12, .int (nI k)), (6, .int x), (5, .int (nI i)), (4, .int al), (3, .int tk), (2, .ref (E.2.2 29)), (1, .ref (E.2.2 0)), (0, .ref (gSb E))] [] := by
  have hiX8 : ∀ w ∈ wsX80, w ∈ wsL_law := by decide +kernel
  obtain ⟨S, hC, hfl, hX, hI, hD, hB, hS0⟩ := id C
  obtain ⟨hN, hR⟩ := id hI
  have hb := NB.of hC
  have hok := hN.1.1
  refine g_iload S 0 dL_law_424 rfl ?_
  refine g_aload_n S 9 dL_law_426 rfl ?_
  refine gg7r S hC hiX8 10 35 (by decide) (by decide +kernel) dL_law_427 ?_
  refine g_alenR S hC 3 rfl (by decide) dL_law_430 ?_
  refine g_icmp_ge S 495 dL_law_431 (by decide) (fun c_1 => ?_) (fun c_1 => absurd (nI_le (Nat.le_refl _) (gNo_lt hC (by decide))) c_1)
  refine g_iload S 2 dL_law_495 rfl ?_
  refine g_aload_n S 10 dL_law_497 rfl ?_
  refine g_const S dL_law_498 (v := 5) rfl ?_
  refine g_eq (σ' := σ) (st' := [.int (nI 5), .ref (E.2.2 0), .int (sumC σ (gNo E 3))]) rfl (by rfl) ?_
  refine g_calli (g_runV S hC (As := [.int (nI 5)]) (rest := [.int (sumC σ (gNo E 3))]) (k := 0) (by decide) rfl (by decide) rfl (q_cq l hfl E σ 5 (by decide) (v := σ.1 6 5) (by exact rfl)) (cwV 1 S.2.2.2.2 gL_law_X7_count rfl rfl rfl (by decide +kernel) ⟨Nat.le_of_ble_eq_true rfl, Nat.le_of_ble_eq_true rfl⟩) rfl rfl (Nat.le_of_ble_eq_true rfl) dL_law_499 ⟨by show _ ≤ 683427; omega, by show _ ≤ 7051186; omega⟩) ?_
  refine g_icmp_ne S 517 dL_law_502 (by decide) (fun c_2 => absurd hN.2.2.2.2.2.2.2.1 c_2) (fun c_2 => ?_)
  refine g_iload S 1 dL_law_505 rfl ?_
  refine g_iload S 3 dL_law_507 rfl ?_
  refine g_icmp_le S 519 dL_law_509 (by decide) (fun c_3 => ?_) (fun c_3 => ?_)
  · skip
    refine g_const S dL_law_519 (v := 0) rfl ?_
    refine g_istore S [(17, .int (0 : Int32)), (16, .int (nI pn)), (15, .int (sumC σ (gNo E 3))), (14, .int (nI sh)), (12, .int (nI k)), (6, .int x), (5, .int (nI i)), (4, .int al), (3, .int tk), (2, .ref (E.2.2 29)), (1, .ref (E.2.2 0)), (0, .ref (gSb E))] dL_law_520 (by decide) rfl ?_
    refine g_lvs [0, 5, 6, 7, 8, 9, 10, 11] (lv' := [(17, .int (0 : Int32)), (6, .int x), (5, .int (nI i)), (4, .int al), (3, .int tk), (2, .ref (E.2.2 29)), (1, .ref (E.2.2 0)), (0, .ref (gSb E))]) rfl ?_
    exact ih
  · skip
    refine g_iload S 4 dL_law_512 rfl ?_
    refine g_if_le S 519 dL_law_514 (by decide) (fun c_4 => ?_) (fun c_4 => absurd (hk0 (by assumption)) c_4)
    refine g_const S dL_law_519 (v := 0) rfl ?_
    refine g_istore S [(17, .int (0 : Int32)), (16, .int (nI pn)), (15, .int (sumC σ (gNo E 3))), (14, .int (nI sh)), (12, .int (nI k)), (6, .int x), (5, .int (nI i)), (4, .int al), (3, .int tk), (2, .ref (E.2.2 29)), (1, .ref (E.2.2 0)), (0, .ref (gSb E))] dL_law_520 (by decide) rfl ?_
    refine g_lvs [0, 5, 6, 7, 8, 9, 10, 11] (lv' := [(17, .int (0 : Int32)), (6, .int x), (5, .int (nI i)), (4, .int al), (3, .int tk), (2, .ref (E.2.2 29)), (1, .ref (E.2.2 0)), (0, .ref (gSb E))]) rfl ?_
    exact ih
set_option maxRecDepth 100000 in
set_option maxHeartbeats 4000000 in
theorem law_f (C : gLC p l s m args c E σ D B S0) {i j : Nat} {x al tk : Int32} (hj : j < gNo E 0) (hc : cells + 6 ≤ 683427) (hs : slots + 36 ≤ 7051186) (ih : gJ p l e room_1 s m args below meth c Q 20 E σ (cells + 6) (slots + 36) 522 [(17, .int (nI (j + 1))), (6, .int x), (5, .int (nI i)), (4, .int al), (3, .int tk), (2, .ref (E.2.2 29)), (1, .ref (E.2.2 0)), (0, .ref (gSb E))] []) : gJ p l e room_1 s m args below meth c Q 20 E σ cells slots 522 [(17, .int (nI j)), (6, .int x), (5, .int (nI i)), (4, .int al), (3, .int tk), (2, .ref (E.2.2 29)), (1, .ref (E.2.2 0)), (0, .ref (gSb E))] [] := by
  have hiX8 : ∀ w ∈ wsX80, w ∈ wsL_law := by decide +kernel
  obtain ⟨S, hC, hfl, hX, hI, hD, hB, hS0⟩ := id C
  obtain ⟨hN, hR⟩ := id hI
  have hb := NB.of hC
  have hok := hN.1.1
  have hg := hN.2.2.2.1 j hj
  have q1 := hg.2.1.2
  have q2 := hg.2.2.2
  refine g_iload S 0 dL_law_522 rfl ?_
  refine g_aload_n S 5 dL_law_524 rfl ?_
  refine gg7r S hC hiX8 7 32 (by decide) (by decide +kernel) dL_law_525 ?_
  refine g_alenR S hC 0 rfl (by decide) dL_law_528 ?_
  refine g_icmp_ge S 567 dL_law_529 (by decide) (fun c_1 => absurd c_1 (nI_ge hj (gNo_lt hC (by decide)))) (fun c_1 => ?_)
  refine g_aload_n S 6 dL_law_532 rfl ?_
  refine g_iload S 0 dL_law_533 rfl ?_
  refine g_const S dL_law_535 (v := 2) rfl ?_
  refine g_eq (σ' := σ) (st' := [.int (nI 2), .int (nI j), .ref (E.2.2 0)]) rfl (by rfl) ?_
  refine g_calli (g_runV S hC (As := [.int (nI j), .int (nI 2)]) (rest := []) (k := 0) (by decide) rfl (by decide) rfl (q_aboutv l hfl E σ hok j 2 (by rw [hN.1.2.1]; exact hj) (by decide) (v := nI (cv σ (7 + j) 2)) (by exact hg.2.2.1)) (cwV 2 S.2.2.2.2 gL_law_X7_about rfl rfl rfl (by decide +kernel) ⟨Nat.le_of_ble_eq_true rfl, Nat.le_of_ble_eq_true rfl⟩) rfl rfl (Nat.le_of_ble_eq_true rfl) dL_law_536 ⟨by show _ ≤ 683427; omega, by show _ ≤ 7051186; omega⟩) ?_
  refine g_if_lt S 559 dL_law_539 (by decide) (fun c_2 => absurd c_2 (nI_pos (by omega))) (fun c_2 => ?_)
  refine g_aload_n S 6 dL_law_542 rfl ?_
  refine g_iload S 0 dL_law_543 rfl ?_
  refine g_const S dL_law_545 (v := 2) rfl ?_
  refine g_eq (σ' := σ) (st' := [.int (nI 2), .int (nI j), .ref (E.2.2 0)]) rfl (by rfl) ?_
  refine g_calli (g_runV S hC (As := [.int (nI j), .int (nI 2)]) (rest := []) (k := 0) (by decide) rfl (by decide) rfl (q_aboutv l hfl E σ hok j 2 (by rw [hN.1.2.1]; exact hj) (by decide) (v := nI (cv σ (7 + j) 2)) (by exact hg.2.2.1)) (cwV 2 S.2.2.2.2 gL_law_X7_about rfl rfl rfl (by decide +kernel) ⟨Nat.le_of_ble_eq_true rfl, Nat.le_of_ble_eq_true rfl⟩) rfl rfl (Nat.le_of_ble_eq_true rfl) dL_law_546 ⟨by show _ ≤ 683427; omega, by show _ ≤ 7051186; omega⟩) ?_
  refine g_aload_n S 6 dL_law_549 rfl ?_
  refine g_iload S 0 dL_law_550 rfl ?_
  refine g_const S dL_law_552 (v := 1) rfl ?_
  refine g_eq (σ' := σ) (st' := [.int (nI 1), .int (nI j), .ref (E.2.2 0), .int (nI (cv σ (7 + j) 2))]) rfl (by rfl) ?_
  refine g_calli (g_runV S hC (As := [.int (nI j), .int (nI 1)]) (rest := [.int (nI (cv σ (7 + j) 2))]) (k := 0) (by decide) rfl (by decide) rfl (q_aboutv l hfl E σ hok j 1 (by rw [hN.1.2.1]; exact hj) (by decide) (v := nI (cv σ (7 + j) 1)) (by exact hg.2.1.1)) (cwV 2 S.2.2.2.2 gL_law_X7_about rfl rfl rfl (by decide +kernel) ⟨Nat.le_of_ble_eq_true rfl, Nat.le_of_ble_eq_true rfl⟩) rfl rfl (Nat.le_of_ble_eq_true rfl) dL_law_553 ⟨by show _ ≤ 683427; omega, by show _ ≤ 7051186; omega⟩) ?_
  refine g_icmp_le S 561 dL_law_556 (by decide) (fun c_3 => ?_) (fun c_3 => absurd (nI_le (by omega) (by omega)) c_3)
  refine g_iinc S [(17, .int (nI (j + 1))), (6, .int x), (5, .int (nI i)), (4, .int al), (3, .int tk), (2, .ref (E.2.2 29)), (1, .ref (E.2.2 0)), (0, .ref (gSb E))] 0 (nI (j + 1)) dL_law_561 rfl (by exact nI_1 j) (by decide) rfl ?_
  refine g_goto S 522 dL_law_564 (by decide) ?_
  refine g_lvs [0, 1, 2, 3, 4, 5, 6, 7] (lv' := [(17, .int (nI (j + 1))), (6, .int x), (5, .int (nI i)), (4, .int al), (3, .int tk), (2, .ref (E.2.2 29)), (1, .ref (E.2.2 0)), (0, .ref (gSb E))]) rfl ?_
  exact ih
set_option maxRecDepth 100000 in
set_option maxHeartbeats 4000000 in
theorem law_fx (C : gLC p l s m args c E σ D B S0) {i : Nat} {x al tk : Int32} (ih : gJ p l e room_1 s m args below meth c Q 20 E σ cells slots 570 [(17, .int (0 : Int32)), (6, .int x), (5, .int (nI i)), (4, .int al), (3, .int tk), (2, .ref (E.2.2 29)), (1, .ref (E.2.2 0)), (0, .ref (gSb E))] []) : gJ p l e room_1 s m args below meth c Q 20 E σ cells slots 522 [(17, .int (nI (gNo E 0))), (6, .int x), (5, .int (nI i)), (4, .int al), (3, .int tk), (2, .ref (E.2.2 29)), (1, .ref (E.2.2 0)), (0, .ref (gSb E))] [] := by
  have hiX8 : ∀ w ∈ wsX80, w ∈ wsL_law := by decide +kernel
  obtain ⟨S, hC, hfl, hX, hI, hD, hB, hS0⟩ := id C
  obtain ⟨hN, hR⟩ := id hI
  have hb := NB.of hC
  have hok := hN.1.1
  refine g_iload S 0 dL_law_522 rfl ?_
  refine g_aload_n S 5 dL_law_524 rfl ?_
  refine gg7r S hC hiX8 7 32 (by decide) (by decide +kernel) dL_law_525 ?_
  refine g_alenR S hC 0 rfl (by decide) dL_law_528 ?_
  refine g_icmp_ge S 567 dL_law_529 (by decide) (fun c_1 => ?_) (fun c_1 => absurd (nI_le (Nat.le_refl _) (gNo_lt hC (by decide))) c_1)
  refine g_const S dL_law_567 (v := 0) rfl ?_
  refine g_istore S [(17, .int (0 : Int32)), (6, .int x), (5, .int (nI i)), (4, .int al), (3, .int tk), (2, .ref (E.2.2 29)), (1, .ref (E.2.2 0)), (0, .ref (gSb E))] dL_law_568 (by decide) rfl ?_
  refine g_lvs [0, 1, 2, 3, 4, 5, 6, 7] (lv' := [(17, .int (0 : Int32)), (6, .int x), (5, .int (nI i)), (4, .int al), (3, .int tk), (2, .ref (E.2.2 29)), (1, .ref (E.2.2 0)), (0, .ref (gSb E))]) rfl ?_
  exact ih
set_option maxRecDepth 100000 in
set_option maxHeartbeats 4000000 in
theorem law_gx (C : gLC p l s m args c E σ D B S0) {i : Nat} {x al tk : Int32} (ih : gJ p l e room_1 s m args below meth c Q 20 E σ cells slots 668 [(17, .int (0 : Int32)), (6, .int x), (5, .int (nI i)), (4, .int al), (3, .int tk), (2, .ref (E.2.2 29)), (1, .ref (E.2.2 0)), (0, .ref (gSb E))] []) : gJ p l e room_1 s m args below meth c Q 20 E σ cells slots 570 [(17, .int (nI (gNo E 1))), (6, .int x), (5, .int (nI i)), (4, .int al), (3, .int tk), (2, .ref (E.2.2 29)), (1, .ref (E.2.2 0)), (0, .ref (gSb E))] [] := by
  have hiX8 : ∀ w ∈ wsX80, w ∈ wsL_law := by decide +kernel
  obtain ⟨S, hC, hfl, hX, hI, hD, hB, hS0⟩ := id C
  obtain ⟨hN, hR⟩ := id hI
  have hb := NB.of hC
  have hok := hN.1.1
  refine g_iload S 0 dL_law_570 rfl ?_
  refine g_aload_n S 5 dL_law_572 rfl ?_
  refine gg7r S hC hiX8 8 33 (by decide) (by decide +kernel) dL_law_573 ?_
  refine g_alenR S hC 1 rfl (by decide) dL_law_576 ?_
  refine g_icmp_ge S 665 dL_law_577 (by decide) (fun c_1 => ?_) (fun c_1 => absurd (nI_le (Nat.le_refl _) (gNo_lt hC (by decide))) c_1)
  refine g_const S dL_law_665 (v := 0) rfl ?_
  refine g_istore S [(17, .int (0 : Int32)), (6, .int x), (5, .int (nI i)), (4, .int al), (3, .int tk), (2, .ref (E.2.2 29)), (1, .ref (E.2.2 0)), (0, .ref (gSb E))] dL_law_666 (by decide) rfl ?_
  refine g_lvs [0, 1, 2, 3, 4, 5, 6, 7] (lv' := [(17, .int (0 : Int32)), (6, .int x), (5, .int (nI i)), (4, .int al), (3, .int tk), (2, .ref (E.2.2 29)), (1, .ref (E.2.2 0)), (0, .ref (gSb E))]) rfl ?_
  exact ih
set_option maxRecDepth 100000 in
set_option maxHeartbeats 4000000 in
theorem law_hx (C : gLC p l s m args c E σ D B S0) {i : Nat} {x al tk : Int32} (ih : gJ p l e room_1 s m args below meth c Q 20 E σ cells slots 761 [(6, .int x), (5, .int (nI i)), (4, .int al), (3, .int tk), (2, .ref (E.2.2 29)), (1, .ref (E.2.2 0)), (0, .ref (gSb E))] []) : gJ p l e room_1 s m args below meth c Q 20 E σ cells slots 668 [(17, .int (nI (gNo E 2))), (6, .int x), (5, .int (nI i)), (4, .int al), (3, .int tk), (2, .ref (E.2.2 29)), (1, .ref (E.2.2 0)), (0, .ref (gSb E))] [] := by
  have hiX8 : ∀ w ∈ wsX80, w ∈ wsL_law := by decide +kernel
  obtain ⟨S, hC, hfl, hX, hI, hD, hB, hS0⟩ := id C
  obtain ⟨hN, hR⟩ := id hI
  have hb := NB.of hC
  have hok := hN.1.1
  refine g_iload S 0 dL_law_668 rfl ?_
  refine g_aload_n S 5 dL_law_670 rfl ?_
  refine gg7r S hC hiX8 9 34 (by decide) (by decide +kernel) dL_law_671 ?_
  refine g_alenR S hC 2 rfl (by decide) dL_law_674 ?_
  refine g_icmp_ge S 761 dL_law_675 (by decide) (fun c_1 => ?_) (fun c_1 => absurd (nI_le (Nat.le_refl _) (gNo_lt hC (by decide))) c_1)
  refine g_lvs [1, 2, 3, 4, 5, 6, 7] (lv' := [(6, .int x), (5, .int (nI i)), (4, .int al), (3, .int tk), (2, .ref (E.2.2 29)), (1, .ref (E.2.2 0)), (0, .ref (gSb E))]) rfl ?_
  exact ih
set_option maxRecDepth 100000 in
set_option maxHeartbeats 4000000 in
theorem law_g_e (C : gLC p l s m args c E σ D B S0) {i j : Nat} {x al tk : Int32} (hj : j < gNo E 1) (h2 : σ.1 (11 + j) 2 = -1) (h3 : σ.1 (11 + j) 3 = 0) (h4 : σ.1 (11 + j) 4 = 0) (hc : cells + 12 ≤ 683427) (hs : slots + 72 ≤ 7051186) (ih : gJ p l e room_1 s m args below meth c Q 20 E σ (cells + 12) (slots + 72) 570 [(17, .int (nI (j + 1))), (6, .int x), (5, .int (nI i)), (4, .int al), (3, .int tk), (2, .ref (E.2.2 29)), (1, .ref (E.2.2 0)), (0, .ref (gSb E))] []) : gJ p l e room_1 s m args below meth c Q 20 E σ cells slots 570 [(17, .int (nI j)), (6, .int x), (5, .int (nI i)), (4, .int al), (3, .int tk), (2, .ref (E.2.2 29)), (1, .ref (E.2.2 0)), (0, .ref (gSb E))] [] := by
  have hiX8 : ∀ w ∈ wsX80, w ∈ wsL_law := by decide +kernel
  obtain ⟨S, hC, hfl, hX, hI, hD, hB, hS0⟩ := id C
  obtain ⟨hN, hR⟩ := id hI
  have hb := NB.of hC
  have hok := hN.1.1
  have hg := hN.2.2.2.2.1 j hj
  have q0 := hg.1.1.2
  refine g_iload S 0 dL_law_570 rfl ?_
  refine g_aload_n S 5 dL_law_572 rfl ?_
  refine gg7r S hC hiX8 8 33 (by decide) (by decide +kernel) dL_law_573 ?_
  refine g_alenR S hC 1 rfl (by decide) dL_law_576 ?_
  refine g_icmp_ge S 665 dL_law_577 (by decide) (fun c_1 => absurd c_1 (nI_ge hj (gNo_lt hC (by decide)))) (fun c_1 => ?_)
  refine g_aload_n S 6 dL_law_580 rfl ?_
  refine g_iload S 0 dL_law_581 rfl ?_
  refine g_const S dL_law_583 (v := 3) rfl ?_
  refine g_eq (σ' := σ) (st' := [.int (nI 3), .int (nI j), .ref (E.2.2 0)]) rfl (by rfl) ?_
  refine g_calli (g_runV S hC (As := [.int (nI j), .int (nI 3)]) (rest := []) (k := 0) (by decide) rfl (by decide) rfl (q_roastv l hfl E σ hok j 3 (by rw [hN.1.2.2.1]; exact hj) (by decide) (v := (0 : Int32)) (by unfold sX2_tell_r; rw [if_neg (by decide)]; exact h3)) (cwV 2 S.2.2.2.2 gL_law_X7_roast rfl rfl rfl (by decide +kernel) ⟨Nat.le_of_ble_eq_true rfl, Nat.le_of_ble_eq_true rfl⟩) rfl rfl (Nat.le_of_ble_eq_true rfl) dL_law_584 ⟨by show _ ≤ 683427; omega, by show _ ≤ 7051186; omega⟩) ?_
  refine g_aload_n S 6 dL_law_587 rfl ?_
  refine g_iload S 0 dL_law_588 rfl ?_
  refine g_const S dL_law_590 (v := 0) rfl ?_
  refine g_eq (σ' := σ) (st' := [.int (nI 0), .int (nI j), .ref (E.2.2 0), .int (0 : Int32)]) rfl (by rfl) ?_
  refine g_calli (g_runV S hC (As := [.int (nI j), .int (nI 0)]) (rest := [.int (0 : Int32)]) (k := 0) (by decide) rfl (by decide) rfl (q_roastv l hfl E σ hok j 0 (by rw [hN.1.2.2.1]; exact hj) (by decide) (v := nI (cv σ (11 + j) 0)) (by unfold sX2_tell_r; rw [if_neg (by decide)]; exact hg.1.1.1)) (cwV 2 S.2.2.2.2 gL_law_X7_roast rfl rfl rfl (by decide +kernel) ⟨Nat.le_of_ble_eq_true rfl, Nat.le_of_ble_eq_true rfl⟩) rfl rfl (Nat.le_of_ble_eq_true rfl) dL_law_591 ⟨by show _ ≤ 683427; omega, by show _ ≤ 7051186; omega⟩) ?_
  refine g_icmp_gt S 657 dL_law_594 (by decide) (fun c_2 => absurd c_2 (nI_pos (by omega))) (fun c_2 => ?_)
  refine g_aload_n S 6 dL_law_597 rfl ?_
  refine g_iload S 0 dL_law_598 rfl ?_
  refine g_const S dL_law_600 (v := 4) rfl ?_
  refine g_eq (σ' := σ) (st' := [.int (nI 4), .int (nI j), .ref (E.2.2 0)]) rfl (by rfl) ?_
  refine g_calli (g_runV S hC (As := [.int (nI j), .int (nI 4)]) (rest := []) (k := 0) (by decide) rfl (by decide) rfl (q_roastv l hfl E σ hok j 4 (by rw [hN.1.2.2.1]; exact hj) (by decide) (v := (0 : Int32)) (by unfold sX2_tell_r; rw [if_neg (by decide)]; exact h4)) (cwV 2 S.2.2.2.2 gL_law_X7_roast rfl rfl rfl (by decide +kernel) ⟨Nat.le_of_ble_eq_true rfl, Nat.le_of_ble_eq_true rfl⟩) rfl rfl (Nat.le_of_ble_eq_true rfl) dL_law_601 ⟨by show _ ≤ 683427; omega, by show _ ≤ 7051186; omega⟩) ?_
  refine g_aload_n S 6 dL_law_604 rfl ?_
  refine g_iload S 0 dL_law_605 rfl ?_
  refine g_const S dL_law_607 (v := 2) rfl ?_
  refine g_eq (σ' := σ) (st' := [.int (nI 2), .int (nI j), .ref (E.2.2 0), .int (0 : Int32)]) rfl (by rfl) ?_
  refine g_calli (g_runV S hC (As := [.int (nI j), .int (nI 2)]) (rest := [.int (0 : Int32)]) (k := 0) (by decide) rfl (by decide) rfl (q_roastv l hfl E σ hok j 2 (by rw [hN.1.2.2.1]; exact hj) (by decide) (v := (-1 : Int32)) (by unfold sX2_tell_r; rw [if_neg (by decide)]; exact h2)) (cwV 2 S.2.2.2.2 gL_law_X7_roast rfl rfl rfl (by decide +kernel) ⟨Nat.le_of_ble_eq_true rfl, Nat.le_of_ble_eq_true rfl⟩) rfl rfl (Nat.le_of_ble_eq_true rfl) dL_law_608 ⟨by show _ ≤ 683427; omega, by show _ ≤ 7051186; omega⟩) ?_
  refine g_if_ne S 619 dL_law_611 (by decide) (fun c_3 => ?_) (fun c_3 => absurd c_3 (by decide))
  refine g_bipush S dL_law_619 (v := 15) rfl ?_
  refine g_icmp_gt S 657 dL_law_621 (by decide) (fun c_4 => absurd c_4 (by decide)) (fun c_4 => ?_)
  refine g_aload_n S 6 dL_law_624 rfl ?_
  refine g_iload S 0 dL_law_625 rfl ?_
  refine g_const S dL_law_627 (v := 2) rfl ?_
  refine g_eq (σ' := σ) (st' := [.int (nI 2), .int (nI j), .ref (E.2.2 0)]) rfl (by rfl) ?_
  refine g_calli (g_runV S hC (As := [.int (nI j), .int (nI 2)]) (rest := []) (k := 0) (by decide) rfl (by decide) rfl (q_roastv l hfl E σ hok j 2 (by rw [hN.1.2.2.1]; exact hj) (by decide) (v := (-1 : Int32)) (by unfold sX2_tell_r; rw [if_neg (by decide)]; exact h2)) (cwV 2 S.2.2.2.2 gL_law_X7_roast rfl rfl rfl (by decide +kernel) ⟨Nat.le_of_ble_eq_true rfl, Nat.le_of_ble_eq_true rfl⟩) rfl rfl (Nat.le_of_ble_eq_true rfl) dL_law_628 ⟨by show _ ≤ 683427; omega, by show _ ≤ 7051186; omega⟩) ?_
  refine g_if_ge S 638 dL_law_631 (by decide) (fun c_5 => absurd c_5 (by decide)) (fun c_5 => ?_)
  refine g_const S dL_law_634 (v := 1) rfl ?_
  refine g_goto S 639 dL_law_635 (by decide) ?_
  refine g_aload_n S 6 dL_law_639 rfl ?_
  refine g_iload S 0 dL_law_640 rfl ?_
  refine g_const S dL_law_642 (v := 3) rfl ?_
  refine g_eq (σ' := σ) (st' := [.int (nI 3), .int (nI j), .ref (E.2.2 0), .int (1 : Int32)]) rfl (by rfl) ?_
  refine g_calli (g_runV S hC (As := [.int (nI j), .int (nI 3)]) (rest := [.int (1 : Int32)]) (k := 0) (by decide) rfl (by decide) rfl (q_roastv l hfl E σ hok j 3 (by rw [hN.1.2.2.1]; exact hj) (by decide) (v := (0 : Int32)) (by unfold sX2_tell_r; rw [if_neg (by decide)]; exact h3)) (cwV 2 S.2.2.2.2 gL_law_X7_roast rfl rfl rfl (by decide +kernel) ⟨Nat.le_of_ble_eq_true rfl, Nat.le_of_ble_eq_true rfl⟩) rfl rfl (Nat.le_of_ble_eq_true rfl) dL_law_643 ⟨by show _ ≤ 683427; omega, by show _ ≤ 7051186; omega⟩) ?_
  refine g_if_ne S 653 dL_law_646 (by decide) (fun c_6 => absurd (by decide) c_6) (fun c_6 => ?_)
  refine g_const S dL_law_649 (v := 1) rfl ?_
  refine g_goto S 654 dL_law_650 (by decide) ?_
  refine g_icmp_eq S 659 dL_law_654 (by decide) (fun c_7 => ?_) (fun c_7 => absurd (by decide) c_7)
  refine g_iinc S [(17, .int (nI (j + 1))), (6, .int x), (5, .int (nI i)), (4, .int al), (3, .int tk), (2, .ref (E.2.2 29)), (1, .ref (E.2.2 0)), (0, .ref (gSb E))] 0 (nI (j + 1)) dL_law_659 rfl (by exact nI_1 j) (by decide) rfl ?_
  refine g_goto S 570 dL_law_662 (by decide) ?_
  refine g_lvs [0, 1, 2, 3, 4, 5, 6, 7] (lv' := [(17, .int (nI (j + 1))), (6, .int x), (5, .int (nI i)), (4, .int al), (3, .int tk), (2, .ref (E.2.2 29)), (1, .ref (E.2.2 0)), (0, .ref (gSb E))]) rfl ?_
  exact (g_wid (by omega) (by omega) ih)
set_option maxRecDepth 100000 in
set_option maxHeartbeats 4000000 in
theorem law_g_0 (C : gLC p l s m args c E σ D B S0) {i j y3 y4 : Nat} {x al tk : Int32} (hj : j < gNo E 1) (h2 : σ.1 (11 + j) 2 = (0 : Int32)) (h3 : σ.1 (11 + j) 3 = nI y3) (h4 : σ.1 (11 + j) 4 = nI y4) (p3 : 1 ≤ y3) (r3 : y3 ≤ cv σ (11 + j) 0) (r4 : y4 ≤ 24) (hc : cells + 12 ≤ 683427) (hs : slots + 72 ≤ 7051186) (ih : gJ p l e room_1 s m args below meth c Q 20 E σ (cells + 12) (slots + 72) 570 [(17, .int (nI (j + 1))), (6, .int x), (5, .int (nI i)), (4, .int al), (3, .int tk), (2, .ref (E.2.2 29)), (1, .ref (E.2.2 0)), (0, .ref (gSb E))] []) : gJ p l e room_1 s m args below meth c Q 20 E σ cells slots 570 [(17, .int (nI j)), (6, .int x), (5, .int (nI i)), (4, .int al), (3, .int tk), (2, .ref (E.2.2 29)), (1, .ref (E.2.2 0)), (0, .ref (gSb E))] [] := by
  have hiX8 : ∀ w ∈ wsX80, w ∈ wsL_law := by decide +kernel
  obtain ⟨S, hC, hfl, hX, hI, hD, hB, hS0⟩ := id C
  obtain ⟨hN, hR⟩ := id hI
  have hb := NB.of hC
  have hok := hN.1.1
  have hg := hN.2.2.2.2.1 j hj
  have q0 := hg.1.1.2
  refine g_iload S 0 dL_law_570 rfl ?_
  refine g_aload_n S 5 dL_law_572 rfl ?_
  refine gg7r S hC hiX8 8 33 (by decide) (by decide +kernel) dL_law_573 ?_
  refine g_alenR S hC 1 rfl (by decide) dL_law_576 ?_
  refine g_icmp_ge S 665 dL_law_577 (by decide) (fun c_1 => absurd c_1 (nI_ge hj (gNo_lt hC (by decide)))) (fun c_1 => ?_)
  refine g_aload_n S 6 dL_law_580 rfl ?_
  refine g_iload S 0 dL_law_581 rfl ?_
  refine g_const S dL_law_583 (v := 3) rfl ?_
  refine g_eq (σ' := σ) (st' := [.int (nI 3), .int (nI j), .ref (E.2.2 0)]) rfl (by rfl) ?_
  refine g_calli (g_runV S hC (As := [.int (nI j), .int (nI 3)]) (rest := []) (k := 0) (by decide) rfl (by decide) rfl (q_roastv l hfl E σ hok j 3 (by rw [hN.1.2.2.1]; exact hj) (by decide) (v := nI y3) (by unfold sX2_tell_r; rw [if_neg (by decide)]; exact h3)) (cwV 2 S.2.2.2.2 gL_law_X7_roast rfl rfl rfl (by decide +kernel) ⟨Nat.le_of_ble_eq_true rfl, Nat.le_of_ble_eq_true rfl⟩) rfl rfl (Nat.le_of_ble_eq_true rfl) dL_law_584 ⟨by show _ ≤ 683427; omega, by show _ ≤ 7051186; omega⟩) ?_
  refine g_aload_n S 6 dL_law_587 rfl ?_
  refine g_iload S 0 dL_law_588 rfl ?_
  refine g_const S dL_law_590 (v := 0) rfl ?_
  refine g_eq (σ' := σ) (st' := [.int (nI 0), .int (nI j), .ref (E.2.2 0), .int (nI y3)]) rfl (by rfl) ?_
  refine g_calli (g_runV S hC (As := [.int (nI j), .int (nI 0)]) (rest := [.int (nI y3)]) (k := 0) (by decide) rfl (by decide) rfl (q_roastv l hfl E σ hok j 0 (by rw [hN.1.2.2.1]; exact hj) (by decide) (v := nI (cv σ (11 + j) 0)) (by unfold sX2_tell_r; rw [if_neg (by decide)]; exact hg.1.1.1)) (cwV 2 S.2.2.2.2 gL_law_X7_roast rfl rfl rfl (by decide +kernel) ⟨Nat.le_of_ble_eq_true rfl, Nat.le_of_ble_eq_true rfl⟩) rfl rfl (Nat.le_of_ble_eq_true rfl) dL_law_591 ⟨by show _ ≤ 683427; omega, by show _ ≤ 7051186; omega⟩) ?_
  refine g_icmp_gt S 657 dL_law_594 (by decide) (fun c_2 => absurd c_2 (nI_nlt (by omega) (by omega))) (fun c_2 => ?_)
  refine g_aload_n S 6 dL_law_597 rfl ?_
  refine g_iload S 0 dL_law_598 rfl ?_
  refine g_const S dL_law_600 (v := 4) rfl ?_
  refine g_eq (σ' := σ) (st' := [.int (nI 4), .int (nI j), .ref (E.2.2 0)]) rfl (by rfl) ?_
  refine g_calli (g_runV S hC (As := [.int (nI j), .int (nI 4)]) (rest := []) (k := 0) (by decide) rfl (by decide) rfl (q_roastv l hfl E σ hok j 4 (by rw [hN.1.2.2.1]; exact hj) (by decide) (v := nI y4) (by unfold sX2_tell_r; rw [if_neg (by decide)]; exact h4)) (cwV 2 S.2.2.2.2 gL_law_X7_roast rfl rfl rfl (by decide +kernel) ⟨Nat.le_of_ble_eq_true rfl, Nat.le_of_ble_eq_true rfl⟩) rfl rfl (Nat.le_of_ble_eq_true rfl) dL_law_601 ⟨by show _ ≤ 683427; omega, by show _ ≤ 7051186; omega⟩) ?_
  refine g_aload_n S 6 dL_law_604 rfl ?_
  refine g_iload S 0 dL_law_605 rfl ?_
  refine g_const S dL_law_607 (v := 2) rfl ?_
  refine g_eq (σ' := σ) (st' := [.int (nI 2), .int (nI j), .ref (E.2.2 0), .int (nI y4)]) rfl (by rfl) ?_
  refine g_calli (g_runV S hC (As := [.int (nI j), .int (nI 2)]) (rest := [.int (nI y4)]) (k := 0) (by decide) rfl (by decide) rfl (q_roastv l hfl E σ hok j 2 (by rw [hN.1.2.2.1]; exact hj) (by decide) (v := (0 : Int32)) (by unfold sX2_tell_r; rw [if_neg (by decide)]; exact h2)) (cwV 2 S.2.2.2.2 gL_law_X7_roast rfl rfl rfl (by decide +kernel) ⟨Nat.le_of_ble_eq_true rfl, Nat.le_of_ble_eq_true rfl⟩) rfl rfl (Nat.le_of_ble_eq_true rfl) dL_law_608 ⟨by show _ ≤ 683427; omega, by show _ ≤ 7051186; omega⟩) ?_
  refine g_if_ne S 619 dL_law_611 (by decide) (fun c_3 => absurd (by decide) c_3) (fun c_3 => ?_)
  refine g_bipush S dL_law_614 (v := 24) rfl ?_
  refine g_goto S 621 dL_law_616 (by decide) ?_
  refine g_icmp_gt S 657 dL_law_621 (by decide) (fun c_4 => absurd c_4 (nI_nlt (b := y4) (a := 24) (by omega) (by decide))) (fun c_4 => ?_)
  refine g_aload_n S 6 dL_law_624 rfl ?_
  refine g_iload S 0 dL_law_625 rfl ?_
  refine g_const S dL_law_627 (v := 2) rfl ?_
  refine g_eq (σ' := σ) (st' := [.int (nI 2), .int (nI j), .ref (E.2.2 0)]) rfl (by rfl) ?_
  refine g_calli (g_runV S hC (As := [.int (nI j), .int (nI 2)]) (rest := []) (k := 0) (by decide) rfl (by decide) rfl (q_roastv l hfl E σ hok j 2 (by rw [hN.1.2.2.1]; exact hj) (by decide) (v := (0 : Int32)) (by unfold sX2_tell_r; rw [if_neg (by decide)]; exact h2)) (cwV 2 S.2.2.2.2 gL_law_X7_roast rfl rfl rfl (by decide +kernel) ⟨Nat.le_of_ble_eq_true rfl, Nat.le_of_ble_eq_true rfl⟩) rfl rfl (Nat.le_of_ble_eq_true rfl) dL_law_628 ⟨by show _ ≤ 683427; omega, by show _ ≤ 7051186; omega⟩) ?_
  refine g_if_ge S 638 dL_law_631 (by decide) (fun c_5 => ?_) (fun c_5 => absurd (by decide) c_5)
  refine g_const S dL_law_638 (v := 0) rfl ?_
  refine g_aload_n S 6 dL_law_639 rfl ?_
  refine g_iload S 0 dL_law_640 rfl ?_
  refine g_const S dL_law_642 (v := 3) rfl ?_
  refine g_eq (σ' := σ) (st' := [.int (nI 3), .int (nI j), .ref (E.2.2 0), .int (0 : Int32)]) rfl (by rfl) ?_
  refine g_calli (g_runV S hC (As := [.int (nI j), .int (nI 3)]) (rest := [.int (0 : Int32)]) (k := 0) (by decide) rfl (by decide) rfl (q_roastv l hfl E σ hok j 3 (by rw [hN.1.2.2.1]; exact hj) (by decide) (v := nI y3) (by unfold sX2_tell_r; rw [if_neg (by decide)]; exact h3)) (cwV 2 S.2.2.2.2 gL_law_X7_roast rfl rfl rfl (by decide +kernel) ⟨Nat.le_of_ble_eq_true rfl, Nat.le_of_ble_eq_true rfl⟩) rfl rfl (Nat.le_of_ble_eq_true rfl) dL_law_643 ⟨by show _ ≤ 683427; omega, by show _ ≤ 7051186; omega⟩) ?_
  refine g_if_ne S 653 dL_law_646 (by decide) (fun c_6 => ?_) (fun c_6 => absurd c_6 (nI_ne0 (by omega) (by omega)))
  refine g_const S dL_law_653 (v := 0) rfl ?_
  refine g_icmp_eq S 659 dL_law_654 (by decide) (fun c_7 => ?_) (fun c_7 => absurd (by decide) c_7)
  refine g_iinc S [(17, .int (nI (j + 1))), (6, .int x), (5, .int (nI i)), (4, .int al), (3, .int tk), (2, .ref (E.2.2 29)), (1, .ref (E.2.2 0)), (0, .ref (gSb E))] 0 (nI (j + 1)) dL_law_659 rfl (by exact nI_1 j) (by decide) rfl ?_
  refine g_goto S 570 dL_law_662 (by decide) ?_
  refine g_lvs [0, 1, 2, 3, 4, 5, 6, 7] (lv' := [(17, .int (nI (j + 1))), (6, .int x), (5, .int (nI i)), (4, .int al), (3, .int tk), (2, .ref (E.2.2 29)), (1, .ref (E.2.2 0)), (0, .ref (gSb E))]) rfl ?_
  exact (g_wid (by omega) (by omega) ih)
set_option maxRecDepth 100000 in
set_option maxHeartbeats 4000000 in
theorem law_g_1 (C : gLC p l s m args c E σ D B S0) {i j y3 y4 : Nat} {x al tk : Int32} (hj : j < gNo E 1) (h2 : σ.1 (11 + j) 2 = (1 : Int32)) (h3 : σ.1 (11 + j) 3 = nI y3) (h4 : σ.1 (11 + j) 4 = nI y4) (p3 : 1 ≤ y3) (r3 : y3 ≤ cv σ (11 + j) 0) (r4 : y4 ≤ 15) (hc : cells + 12 ≤ 683427) (hs : slots + 72 ≤ 7051186) (ih : gJ p l e room_1 s m args below meth c Q 20 E σ (cells + 12) (slots + 72) 570 [(17, .int (nI (j + 1))), (6, .int x), (5, .int (nI i)), (4, .int al), (3, .int tk), (2, .ref (E.2.2 29)), (1, .ref (E.2.2 0)), (0, .ref (gSb E))] []) : gJ p l e room_1 s m args below meth c Q 20 E σ cells slots 570 [(17, .int (nI j)), (6, .int x), (5, .int (nI i)), (4, .int al), (3, .int tk), (2, .ref (E.2.2 29)), (1, .ref (E.2.2 0)), (0, .ref (gSb E))] [] := by
  have hiX8 : ∀ w ∈ wsX80, w ∈ wsL_law := by decide +kernel
  obtain ⟨S, hC, hfl, hX, hI, hD, hB, hS0⟩ := id C
  obtain ⟨hN, hR⟩ := id hI
  have hb := NB.of hC
  have hok := hN.1.1
  have hg := hN.2.2.2.2.1 j hj
  have q0 := hg.1.1.2
  refine g_iload S 0 dL_law_570 rfl ?_
  refine g_aload_n S 5 dL_law_572 rfl ?_
  refine gg7r S hC hiX8 8 33 (by decide) (by decide +kernel) dL_law_573 ?_
  refine g_alenR S hC 1 rfl (by decide) dL_law_576 ?_
  refine g_icmp_ge S 665 dL_law_577 (by decide) (fun c_1 => absurd c_1 (nI_ge hj (gNo_lt hC (by decide)))) (fun c_1 => ?_)
  refine g_aload_n S 6 dL_law_580 rfl ?_
  refine g_iload S 0 dL_law_581 rfl ?_
  refine g_const S dL_law_583 (v := 3) rfl ?_
  refine g_eq (σ' := σ) (st' := [.int (nI 3), .int (nI j), .ref (E.2.2 0)]) rfl (by rfl) ?_
  refine g_calli (g_runV S hC (As := [.int (nI j), .int (nI 3)]) (rest := []) (k := 0) (by decide) rfl (by decide) rfl (q_roastv l hfl E σ hok j 3 (by rw [hN.1.2.2.1]; exact hj) (by decide) (v := nI y3) (by unfold sX2_tell_r; rw [if_neg (by decide)]; exact h3)) (cwV 2 S.2.2.2.2 gL_law_X7_roast rfl rfl rfl (by decide +kernel) ⟨Nat.le_of_ble_eq_true rfl, Nat.le_of_ble_eq_true rfl⟩) rfl rfl (Nat.le_of_ble_eq_true rfl) dL_law_584 ⟨by show _ ≤ 683427; omega, by show _ ≤ 7051186; omega⟩) ?_
  refine g_aload_n S 6 dL_law_587 rfl ?_
  refine g_iload S 0 dL_law_588 rfl ?_
  refine g_const S dL_law_590 (v := 0) rfl ?_
  refine g_eq (σ' := σ) (st' := [.int (nI 0), .int (nI j), .ref (E.2.2 0), .int (nI y3)]) rfl (by rfl) ?_
  refine g_calli (g_runV S hC (As := [.int (nI j), .int (nI 0)]) (rest := [.int (nI y3)]) (k := 0) (by decide) rfl (by decide) rfl (q_roastv l hfl E σ hok j 0 (by rw [hN.1.2.2.1]; exact hj) (by decide) (v := nI (cv σ (11 + j) 0)) (by unfold sX2_tell_r; rw [if_neg (by decide)]; exact hg.1.1.1)) (cwV 2 S.2.2.2.2 gL_law_X7_roast rfl rfl rfl (by decide +kernel) ⟨Nat.le_of_ble_eq_true rfl, Nat.le_of_ble_eq_true rfl⟩) rfl rfl (Nat.le_of_ble_eq_true rfl) dL_law_591 ⟨by show _ ≤ 683427; omega, by show _ ≤ 7051186; omega⟩) ?_
  refine g_icmp_gt S 657 dL_law_594 (by decide) (fun c_2 => absurd c_2 (nI_nlt (by omega) (by omega))) (fun c_2 => ?_)
  refine g_aload_n S 6 dL_law_597 rfl ?_
  refine g_iload S 0 dL_law_598 rfl ?_
  refine g_const S dL_law_600 (v := 4) rfl ?_
  refine g_eq (σ' := σ) (st' := [.int (nI 4), .int (nI j), .ref (E.2.2 0)]) rfl (by rfl) ?_
  refine g_calli (g_runV S hC (As := [.int (nI j), .int (nI 4)]) (rest := []) (k := 0) (by decide) rfl (by decide) rfl (q_roastv l hfl E σ hok j 4 (by rw [hN.1.2.2.1]; exact hj) (by decide) (v := nI y4) (by unfold sX2_tell_r; rw [if_neg (by decide)]; exact h4)) (cwV 2 S.2.2.2.2 gL_law_X7_roast rfl rfl rfl (by decide +kernel) ⟨Nat.le_of_ble_eq_true rfl, Nat.le_of_ble_eq_true rfl⟩) rfl rfl (Nat.le_of_ble_eq_true rfl) dL_law_601 ⟨by show _ ≤ 683427; omega, by show _ ≤ 7051186; omega⟩) ?_
  refine g_aload_n S 6 dL_law_604 rfl ?_
  refine g_iload S 0 dL_law_605 rfl ?_
  refine g_const S dL_law_607 (v := 2) rfl ?_
  refine g_eq (σ' := σ) (st' := [.int (nI 2), .int (nI j), .ref (E.2.2 0), .int (nI y4)]) rfl (by rfl) ?_
  refine g_calli (g_runV S hC (As := [.int (nI j), .int (nI 2)]) (rest := [.int (nI y4)]) (k := 0) (by decide) rfl (by decide) rfl (q_roastv l hfl E σ hok j 2 (by rw [hN.1.2.2.1]; exact hj) (by decide) (v := (1 : Int32)) (by unfold sX2_tell_r; rw [if_neg (by decide)]; exact h2)) (cwV 2 S.2.2.2.2 gL_law_X7_roast rfl rfl rfl (by decide +kernel) ⟨Nat.le_of_ble_eq_true rfl, Nat.le_of_ble_eq_true rfl⟩) rfl rfl (Nat.le_of_ble_eq_true rfl) dL_law_608 ⟨by show _ ≤ 683427; omega, by show _ ≤ 7051186; omega⟩) ?_
  refine g_if_ne S 619 dL_law_611 (by decide) (fun c_3 => ?_) (fun c_3 => absurd c_3 (by decide))
  refine g_bipush S dL_law_619 (v := 15) rfl ?_
  refine g_icmp_gt S 657 dL_law_621 (by decide) (fun c_4 => absurd c_4 (nI_nlt (b := y4) (a := 15) (by omega) (by decide))) (fun c_4 => ?_)
  refine g_aload_n S 6 dL_law_624 rfl ?_
  refine g_iload S 0 dL_law_625 rfl ?_
  refine g_const S dL_law_627 (v := 2) rfl ?_
  refine g_eq (σ' := σ) (st' := [.int (nI 2), .int (nI j), .ref (E.2.2 0)]) rfl (by rfl) ?_
  refine g_calli (g_runV S hC (As := [.int (nI j), .int (nI 2)]) (rest := []) (k := 0) (by decide) rfl (by decide) rfl (q_roastv l hfl E σ hok j 2 (by rw [hN.1.2.2.1]; exact hj) (by decide) (v := (1 : Int32)) (by unfold sX2_tell_r; rw [if_neg (by decide)]; exact h2)) (cwV 2 S.2.2.2.2 gL_law_X7_roast rfl rfl rfl (by decide +kernel) ⟨Nat.le_of_ble_eq_true rfl, Nat.le_of_ble_eq_true rfl⟩) rfl rfl (Nat.le_of_ble_eq_true rfl) dL_law_628 ⟨by show _ ≤ 683427; omega, by show _ ≤ 7051186; omega⟩) ?_
  refine g_if_ge S 638 dL_law_631 (by decide) (fun c_5 => ?_) (fun c_5 => absurd (by decide) c_5)
  refine g_const S dL_law_638 (v := 0) rfl ?_
  refine g_aload_n S 6 dL_law_639 rfl ?_
  refine g_iload S 0 dL_law_640 rfl ?_
  refine g_const S dL_law_642 (v := 3) rfl ?_
  refine g_eq (σ' := σ) (st' := [.int (nI 3), .int (nI j), .ref (E.2.2 0), .int (0 : Int32)]) rfl (by rfl) ?_
  refine g_calli (g_runV S hC (As := [.int (nI j), .int (nI 3)]) (rest := [.int (0 : Int32)]) (k := 0) (by decide) rfl (by decide) rfl (q_roastv l hfl E σ hok j 3 (by rw [hN.1.2.2.1]; exact hj) (by decide) (v := nI y3) (by unfold sX2_tell_r; rw [if_neg (by decide)]; exact h3)) (cwV 2 S.2.2.2.2 gL_law_X7_roast rfl rfl rfl (by decide +kernel) ⟨Nat.le_of_ble_eq_true rfl, Nat.le_of_ble_eq_true rfl⟩) rfl rfl (Nat.le_of_ble_eq_true rfl) dL_law_643 ⟨by show _ ≤ 683427; omega, by show _ ≤ 7051186; omega⟩) ?_
  refine g_if_ne S 653 dL_law_646 (by decide) (fun c_6 => ?_) (fun c_6 => absurd c_6 (nI_ne0 (by omega) (by omega)))
  refine g_const S dL_law_653 (v := 0) rfl ?_
  refine g_icmp_eq S 659 dL_law_654 (by decide) (fun c_7 => ?_) (fun c_7 => absurd (by decide) c_7)
  refine g_iinc S [(17, .int (nI (j + 1))), (6, .int x), (5, .int (nI i)), (4, .int al), (3, .int tk), (2, .ref (E.2.2 29)), (1, .ref (E.2.2 0)), (0, .ref (gSb E))] 0 (nI (j + 1)) dL_law_659 rfl (by exact nI_1 j) (by decide) rfl ?_
  refine g_goto S 570 dL_law_662 (by decide) ?_
  refine g_lvs [0, 1, 2, 3, 4, 5, 6, 7] (lv' := [(17, .int (nI (j + 1))), (6, .int x), (5, .int (nI i)), (4, .int al), (3, .int tk), (2, .ref (E.2.2 29)), (1, .ref (E.2.2 0)), (0, .ref (gSb E))]) rfl ?_
  exact (g_wid (by omega) (by omega) ih)
set_option maxRecDepth 100000 in
set_option maxHeartbeats 4000000 in
theorem law_h_0 (C : gLC p l s m args c E σ D B S0) {i j : Nat} {x al tk : Int32} (hj : j < gNo E 2) (h2 : σ.1 (15 + j) 2 = 0) (h3 : σ.1 (15 + j) 3 = 0) (hc : cells + 6 ≤ 683427) (hs : slots + 36 ≤ 7051186) (ih : gJ p l e room_1 s m args below meth c Q 20 E σ (cells + 6) (slots + 36) 668 [(17, .int (nI (j + 1))), (6, .int x), (5, .int (nI i)), (4, .int al), (3, .int tk), (2, .ref (E.2.2 29)), (1, .ref (E.2.2 0)), (0, .ref (gSb E))] []) : gJ p l e room_1 s m args below meth c Q 20 E σ cells slots 668 [(17, .int (nI j)), (6, .int x), (5, .int (nI i)), (4, .int al), (3, .int tk), (2, .ref (E.2.2 29)), (1, .ref (E.2.2 0)), (0, .ref (gSb E))] [] := by
  have hiX8 : ∀ w ∈ wsX80, w ∈ wsL_law := by decide +kernel
  obtain ⟨S, hC, hfl, hX, hI, hD, hB, hS0⟩ := id C
  obtain ⟨hN, hR⟩ := id hI
  have hb := NB.of hC
  have hok := hN.1.1
  have hg := hN.2.2.2.2.2.1 j hj
  have q0 := hg.1.1.2
  refine g_iload S 0 dL_law_668 rfl ?_
  refine g_aload_n S 5 dL_law_670 rfl ?_
  refine gg7r S hC hiX8 9 34 (by decide) (by decide +kernel) dL_law_671 ?_
  refine g_alenR S hC 2 rfl (by decide) dL_law_674 ?_
  refine g_icmp_ge S 761 dL_law_675 (by decide) (fun c_1 => absurd c_1 (nI_ge hj (gNo_lt hC (by decide)))) (fun c_1 => ?_)
  refine g_aload_n S 6 dL_law_678 rfl ?_
  refine g_iload S 0 dL_law_679 rfl ?_
  refine g_const S dL_law_681 (v := 2) rfl ?_
  refine g_eq (σ' := σ) (st' := [.int (nI 2), .int (nI j), .ref (E.2.2 0)]) rfl (by rfl) ?_
  refine g_calli (g_runV S hC (As := [.int (nI j), .int (nI 2)]) (rest := []) (k := 0) (by decide) rfl (by decide) rfl (q_toldv l hfl E σ hok j 2 (by rw [hN.1.2.2.2.1]; exact hj) (by decide) (v := (0 : Int32)) (by exact h2)) (cwV 2 S.2.2.2.2 gL_law_X7_told rfl rfl rfl (by decide +kernel) ⟨Nat.le_of_ble_eq_true rfl, Nat.le_of_ble_eq_true rfl⟩) rfl rfl (Nat.le_of_ble_eq_true rfl) dL_law_682 ⟨by show _ ≤ 683427; omega, by show _ ≤ 7051186; omega⟩) ?_
  refine g_istore S [(18, .int (0 : Int32)), (17, .int (nI j)), (6, .int x), (5, .int (nI i)), (4, .int al), (3, .int tk), (2, .ref (E.2.2 29)), (1, .ref (E.2.2 0)), (0, .ref (gSb E))] dL_law_685 (by decide) rfl ?_
  refine g_aload_n S 7 dL_law_687 rfl ?_
  refine g_iload S 1 dL_law_688 rfl ?_
  refine g_const S dL_law_690 (v := 3) rfl ?_
  refine g_eq (σ' := σ) (st' := [.int (nI 3), .int (nI j), .ref (E.2.2 0)]) rfl (by rfl) ?_
  refine g_calli (g_runV S hC (As := [.int (nI j), .int (nI 3)]) (rest := []) (k := 0) (by decide) rfl (by decide) rfl (q_toldv l hfl E σ hok j 3 (by rw [hN.1.2.2.2.1]; exact hj) (by decide) (v := (0 : Int32)) (by exact h3)) (cwV 2 S.2.2.2.2 gL_law_X7_told rfl rfl rfl (by decide +kernel) ⟨Nat.le_of_ble_eq_true rfl, Nat.le_of_ble_eq_true rfl⟩) rfl rfl (Nat.le_of_ble_eq_true rfl) dL_law_691 ⟨by show _ ≤ 683427; omega, by show _ ≤ 7051186; omega⟩) ?_
  refine g_istore S [(19, .int (0 : Int32)), (18, .int (0 : Int32)), (17, .int (nI j)), (6, .int x), (5, .int (nI i)), (4, .int al), (3, .int tk), (2, .ref (E.2.2 29)), (1, .ref (E.2.2 0)), (0, .ref (gSb E))] dL_law_694 (by decide) rfl ?_
  refine g_iload S 1 dL_law_696 rfl ?_
  refine g_if_lt S 753 dL_law_698 (by decide) (fun c_2 => absurd c_2 (by decide)) (fun c_2 => ?_)
  refine g_iload S 1 dL_law_701 rfl ?_
  refine g_const S dL_law_703 (v := 2) rfl ?_
  refine g_icmp_gt S 753 dL_law_704 (by decide) (fun c_3 => absurd c_3 (by decide)) (fun c_3 => ?_)
  refine g_iload S 1 dL_law_707 rfl ?_
  refine g_if_ne S 716 dL_law_709 (by decide) (fun c_4 => absurd (by decide) c_4) (fun c_4 => ?_)
  refine g_const S dL_law_712 (v := 1) rfl ?_
  refine g_goto S 717 dL_law_713 (by decide) ?_
  refine g_iload S 0 dL_law_717 rfl ?_
  refine g_if_ne S 726 dL_law_719 (by decide) (fun c_5 => absurd (by decide) c_5) (fun c_5 => ?_)
  refine g_const S dL_law_722 (v := 1) rfl ?_
  refine g_goto S 727 dL_law_723 (by decide) ?_
  refine g_icmp_ne S 753 dL_law_727 (by decide) (fun c_6 => absurd (by decide) c_6) (fun c_6 => ?_)
  refine g_iload S 0 dL_law_730 rfl ?_
  refine g_iload S 1 dL_law_732 rfl ?_
  refine g_const S dL_law_734 (v := 1) rfl ?_
  refine g_icmp_ne S 748 dL_law_735 (by decide) (fun c_7 => ?_) (fun c_7 => absurd c_7 (by decide))
  refine g_bipush S dL_law_748 (v := 10) rfl ?_
  refine g_icmp_le S 755 dL_law_750 (by decide) (fun c_8 => ?_) (fun c_8 => absurd (by decide) c_8)
  refine g_iinc S [(17, .int (nI (j + 1))), (19, .int (0 : Int32)), (18, .int (0 : Int32)), (6, .int x), (5, .int (nI i)), (4, .int al), (3, .int tk), (2, .ref (E.2.2 29)), (1, .ref (E.2.2 0)), (0, .ref (gSb E))] 2 (nI (j + 1)) dL_law_755 rfl (by exact nI_1 j) (by decide) rfl ?_
  refine g_goto S 668 dL_law_758 (by decide) ?_
  refine g_lvs [0, 3, 4, 5, 6, 7, 8, 9] (lv' := [(17, .int (nI (j + 1))), (6, .int x), (5, .int (nI i)), (4, .int al), (3, .int tk), (2, .ref (E.2.2 29)), (1, .ref (E.2.2 0)), (0, .ref (gSb E))]) rfl ?_
  exact (g_wid (by omega) (by omega) ih)
set_option maxRecDepth 100000 in
set_option maxHeartbeats 4000000 in
theorem law_h_1 (C : gLC p l s m args c E σ D B S0) {i j y3 : Nat} {x al tk : Int32} (hj : j < gNo E 2) (h2 : σ.1 (15 + j) 2 = 1) (h3 : σ.1 (15 + j) 3 = nI y3) (p3 : 1 ≤ y3) (r3 : y3 ≤ cv σ (15 + j) 0) (hc : cells + 6 ≤ 683427) (hs : slots + 36 ≤ 7051186) (ih : gJ p l e room_1 s m args below meth c Q 20 E σ (cells + 6) (slots + 36) 668 [(17, .int (nI (j + 1))), (6, .int x), (5, .int (nI i)), (4, .int al), (3, .int tk), (2, .ref (E.2.2 29)), (1, .ref (E.2.2 0)), (0, .ref (gSb E))] []) : gJ p l e room_1 s m args below meth c Q 20 E σ cells slots 668 [(17, .int (nI j)), (6, .int x), (5, .int (nI i)), (4, .int al), (3, .int tk), (2, .ref (E.2.2 29)), (1, .ref (E.2.2 0)), (0, .ref (gSb E))] [] := by
  have hiX8 : ∀ w ∈ wsX80, w ∈ wsL_law := by decide +kernel
  obtain ⟨S, hC, hfl, hX, hI, hD, hB, hS0⟩ := id C
  obtain ⟨hN, hR⟩ := id hI
  have hb := NB.of hC
  have hok := hN.1.1
  have hg := hN.2.2.2.2.2.1 j hj
  have q0 := hg.1.1.2
  refine g_iload S 0 dL_law_668 rfl ?_
  refine g_aload_n S 5 dL_law_670 rfl ?_
  refine gg7r S hC hiX8 9 34 (by decide) (by decide +kernel) dL_law_671 ?_
  refine g_alenR S hC 2 rfl (by decide) dL_law_674 ?_
  refine g_icmp_ge S 761 dL_law_675 (by decide) (fun c_1 => absurd c_1 (nI_ge hj (gNo_lt hC (by decide)))) (fun c_1 => ?_)
  refine g_aload_n S 6 dL_law_678 rfl ?_
  refine g_iload S 0 dL_law_679 rfl ?_
  refine g_const S dL_law_681 (v := 2) rfl ?_
  refine g_eq (σ' := σ) (st' := [.int (nI 2), .int (nI j), .ref (E.2.2 0)]) rfl (by rfl) ?_
  refine g_calli (g_runV S hC (As := [.int (nI j), .int (nI 2)]) (rest := []) (k := 0) (by decide) rfl (by decide) rfl (q_toldv l hfl E σ hok j 2 (by rw [hN.1.2.2.2.1]; exact hj) (by decide) (v := (1 : Int32)) (by exact h2)) (cwV 2 S.2.2.2.2 gL_law_X7_told rfl rfl rfl (by decide +kernel) ⟨Nat.le_of_ble_eq_true rfl, Nat.le_of_ble_eq_true rfl⟩) rfl rfl (Nat.le_of_ble_eq_true rfl) dL_law_682 ⟨by show _ ≤ 683427; omega, by show _ ≤ 7051186; omega⟩) ?_
  refine g_istore S [(18, .int (1 : Int32)), (17, .int (nI j)), (6, .int x), (5, .int (nI i)), (4, .int al), (3, .int tk), (2, .ref (E.2.2 29)), (1, .ref (E.2.2 0)), (0, .ref (gSb E))] dL_law_685 (by decide) rfl ?_
  refine g_aload_n S 7 dL_law_687 rfl ?_
  refine g_iload S 1 dL_law_688 rfl ?_
  refine g_const S dL_law_690 (v := 3) rfl ?_
  refine g_eq (σ' := σ) (st' := [.int (nI 3), .int (nI j), .ref (E.2.2 0)]) rfl (by rfl) ?_
  refine g_calli (g_runV S hC (As := [.int (nI j), .int (nI 3)]) (rest := []) (k := 0) (by decide) rfl (by decide) rfl (q_toldv l hfl E σ hok j 3 (by rw [hN.1.2.2.2.1]; exact hj) (by decide) (v := nI y3) (by exact h3)) (cwV 2 S.2.2.2.2 gL_law_X7_told rfl rfl rfl (by decide +kernel) ⟨Nat.le_of_ble_eq_true rfl, Nat.le_of_ble_eq_true rfl⟩) rfl rfl (Nat.le_of_ble_eq_true rfl) dL_law_691 ⟨by show _ ≤ 683427; omega, by show _ ≤ 7051186; omega⟩) ?_
  refine g_istore S [(19, .int (nI y3)), (18, .int (1 : Int32)), (17, .int (nI j)), (6, .int x), (5, .int (nI i)), (4, .int al), (3, .int tk), (2, .ref (E.2.2 29)), (1, .ref (E.2.2 0)), (0, .ref (gSb E))] dL_law_694 (by decide) rfl ?_
  refine g_iload S 1 dL_law_696 rfl ?_
  refine g_if_lt S 753 dL_law_698 (by decide) (fun c_2 => absurd c_2 (by decide)) (fun c_2 => ?_)
  refine g_iload S 1 dL_law_701 rfl ?_
  refine g_const S dL_law_703 (v := 2) rfl ?_
  refine g_icmp_gt S 753 dL_law_704 (by decide) (fun c_3 => absurd c_3 (by decide)) (fun c_3 => ?_)
  refine g_iload S 1 dL_law_707 rfl ?_
  refine g_if_ne S 716 dL_law_709 (by decide) (fun c_4 => ?_) (fun c_4 => absurd c_4 (by decide))
  refine g_const S dL_law_716 (v := 0) rfl ?_
  refine g_iload S 0 dL_law_717 rfl ?_
  refine g_if_ne S 726 dL_law_719 (by decide) (fun c_5 => ?_) (fun c_5 => absurd c_5 (nI_ne0 (by omega) (by omega)))
  refine g_const S dL_law_726 (v := 0) rfl ?_
  refine g_icmp_ne S 753 dL_law_727 (by decide) (fun c_6 => absurd (by decide) c_6) (fun c_6 => ?_)
  refine g_iload S 0 dL_law_730 rfl ?_
  refine g_iload S 1 dL_law_732 rfl ?_
  refine g_const S dL_law_734 (v := 1) rfl ?_
  refine g_icmp_ne S 748 dL_law_735 (by decide) (fun c_7 => absurd (by decide) c_7) (fun c_7 => ?_)
  refine g_aload_n S 8 dL_law_738 rfl ?_
  refine g_iload S 2 dL_law_739 rfl ?_
  refine g_const S dL_law_741 (v := 0) rfl ?_
  refine g_eq (σ' := σ) (st' := [.int (nI 0), .int (nI j), .ref (E.2.2 0), .int (nI y3)]) rfl (by rfl) ?_
  refine g_calli (g_runV S hC (As := [.int (nI j), .int (nI 0)]) (rest := [.int (nI y3)]) (k := 0) (by decide) rfl (by decide) rfl (q_toldv l hfl E σ hok j 0 (by rw [hN.1.2.2.2.1]; exact hj) (by decide) (v := nI (cv σ (15 + j) 0)) (by exact hg.1.1.1)) (cwV 2 S.2.2.2.2 gL_law_X7_told rfl rfl rfl (by decide +kernel) ⟨Nat.le_of_ble_eq_true rfl, Nat.le_of_ble_eq_true rfl⟩) rfl rfl (Nat.le_of_ble_eq_true rfl) dL_law_742 ⟨by show _ ≤ 683427; omega, by show _ ≤ 7051186; omega⟩) ?_
  refine g_goto S 750 dL_law_745 (by decide) ?_
  refine g_icmp_le S 755 dL_law_750 (by decide) (fun c_8 => ?_) (fun c_8 => absurd (nI_le (by omega) (by omega)) c_8)
  refine g_iinc S [(17, .int (nI (j + 1))), (19, .int (nI y3)), (18, .int (1 : Int32)), (6, .int x), (5, .int (nI i)), (4, .int al), (3, .int tk), (2, .ref (E.2.2 29)), (1, .ref (E.2.2 0)), (0, .ref (gSb E))] 2 (nI (j + 1)) dL_law_755 rfl (by exact nI_1 j) (by decide) rfl ?_
  refine g_goto S 668 dL_law_758 (by decide) ?_
  refine g_lvs [0, 3, 4, 5, 6, 7, 8, 9] (lv' := [(17, .int (nI (j + 1))), (6, .int x), (5, .int (nI i)), (4, .int al), (3, .int tk), (2, .ref (E.2.2 29)), (1, .ref (E.2.2 0)), (0, .ref (gSb E))]) rfl ?_
  exact (g_wid (by omega) (by omega) ih)
set_option maxRecDepth 100000 in
set_option maxHeartbeats 4000000 in
theorem law_h_2 (C : gLC p l s m args c E σ D B S0) {i j y3 : Nat} {x al tk : Int32} (hj : j < gNo E 2) (h2 : σ.1 (15 + j) 2 = 2) (h3 : σ.1 (15 + j) 3 = nI y3) (p3 : 1 ≤ y3) (r3 : y3 ≤ 10) (hc : cells + 6 ≤ 683427) (hs : slots + 36 ≤ 7051186) (ih : gJ p l e room_1 s m args below meth c Q 20 E σ (cells + 6) (slots + 36) 668 [(17, .int (nI (j + 1))), (6, .int x), (5, .int (nI i)), (4, .int al), (3, .int tk), (2, .ref (E.2.2 29)), (1, .ref (E.2.2 0)), (0, .ref (gSb E))] []) : gJ p l e room_1 s m args below meth c Q 20 E σ cells slots 668 [(17, .int (nI j)), (6, .int x), (5, .int (nI i)), (4, .int al), (3, .int tk), (2, .ref (E.2.2 29)), (1, .ref (E.2.2 0)), (0, .ref (gSb E))] [] := by
  have hiX8 : ∀ w ∈ wsX80, w ∈ wsL_law := by decide +kernel
  obtain ⟨S, hC, hfl, hX, hI, hD, hB, hS0⟩ := id C
  obtain ⟨hN, hR⟩ := id hI
  have hb := NB.of hC
  have hok := hN.1.1
  have hg := hN.2.2.2.2.2.1 j hj
  have q0 := hg.1.1.2
  refine g_iload S 0 dL_law_668 rfl ?_
  refine g_aload_n S 5 dL_law_670 rfl ?_
  refine gg7r S hC hiX8 9 34 (by decide) (by decide +kernel) dL_law_671 ?_
  refine g_alenR S hC 2 rfl (by decide) dL_law_674 ?_
  refine g_icmp_ge S 761 dL_law_675 (by decide) (fun c_1 => absurd c_1 (nI_ge hj (gNo_lt hC (by decide)))) (fun c_1 => ?_)
  refine g_aload_n S 6 dL_law_678 rfl ?_
  refine g_iload S 0 dL_law_679 rfl ?_
  refine g_const S dL_law_681 (v := 2) rfl ?_
  refine g_eq (σ' := σ) (st' := [.int (nI 2), .int (nI j), .ref (E.2.2 0)]) rfl (by rfl) ?_
  refine g_calli (g_runV S hC (As := [.int (nI j), .int (nI 2)]) (rest := []) (k := 0) (by decide) rfl (by decide) rfl (q_toldv l hfl E σ hok j 2 (by rw [hN.1.2.2.2.1]; exact hj) (by decide) (v := (2 : Int32)) (by exact h2)) (cwV 2 S.2.2.2.2 gL_law_X7_told rfl rfl rfl (by decide +kernel) ⟨Nat.le_of_ble_eq_true rfl, Nat.le_of_ble_eq_true rfl⟩) rfl rfl (Nat.le_of_ble_eq_true rfl) dL_law_682 ⟨by show _ ≤ 683427; omega, by show _ ≤ 7051186; omega⟩) ?_
  refine g_istore S [(18, .int (2 : Int32)), (17, .int (nI j)), (6, .int x), (5, .int (nI i)), (4, .int al), (3, .int tk), (2, .ref (E.2.2 29)), (1, .ref (E.2.2 0)), (0, .ref (gSb E))] dL_law_685 (by decide) rfl ?_
  refine g_aload_n S 7 dL_law_687 rfl ?_
  refine g_iload S 1 dL_law_688 rfl ?_
  refine g_const S dL_law_690 (v := 3) rfl ?_
  refine g_eq (σ' := σ) (st' := [.int (nI 3), .int (nI j), .ref (E.2.2 0)]) rfl (by rfl) ?_
  refine g_calli (g_runV S hC (As := [.int (nI j), .int (nI 3)]) (rest := []) (k := 0) (by decide) rfl (by decide) rfl (q_toldv l hfl E σ hok j 3 (by rw [hN.1.2.2.2.1]; exact hj) (by decide) (v := nI y3) (by exact h3)) (cwV 2 S.2.2.2.2 gL_law_X7_told rfl rfl rfl (by decide +kernel) ⟨Nat.le_of_ble_eq_true rfl, Nat.le_of_ble_eq_true rfl⟩) rfl rfl (Nat.le_of_ble_eq_true rfl) dL_law_691 ⟨by show _ ≤ 683427; omega, by show _ ≤ 7051186; omega⟩) ?_
  refine g_istore S [(19, .int (nI y3)), (18, .int (2 : Int32)), (17, .int (nI j)), (6, .int x), (5, .int (nI i)), (4, .int al), (3, .int tk), (2, .ref (E.2.2 29)), (1, .ref (E.2.2 0)), (0, .ref (gSb E))] dL_law_694 (by decide) rfl ?_
  refine g_iload S 1 dL_law_696 rfl ?_
  refine g_if_lt S 753 dL_law_698 (by decide) (fun c_2 => absurd c_2 (by decide)) (fun c_2 => ?_)
  refine g_iload S 1 dL_law_701 rfl ?_
  refine g_const S dL_law_703 (v := 2) rfl ?_
  refine g_icmp_gt S 753 dL_law_704 (by decide) (fun c_3 => absurd c_3 (by decide)) (fun c_3 => ?_)
  refine g_iload S 1 dL_law_707 rfl ?_
  refine g_if_ne S 716 dL_law_709 (by decide) (fun c_4 => ?_) (fun c_4 => absurd c_4 (by decide))
  refine g_const S dL_law_716 (v := 0) rfl ?_
  refine g_iload S 0 dL_law_717 rfl ?_
  refine g_if_ne S 726 dL_law_719 (by decide) (fun c_5 => ?_) (fun c_5 => absurd c_5 (nI_ne0 (by omega) (by omega)))
  refine g_const S dL_law_726 (v := 0) rfl ?_
  refine g_icmp_ne S 753 dL_law_727 (by decide) (fun c_6 => absurd (by decide) c_6) (fun c_6 => ?_)
  refine g_iload S 0 dL_law_730 rfl ?_
  refine g_iload S 1 dL_law_732 rfl ?_
  refine g_const S dL_law_734 (v := 1) rfl ?_
  refine g_icmp_ne S 748 dL_law_735 (by decide) (fun c_7 => ?_) (fun c_7 => absurd c_7 (by decide))
  refine g_bipush S dL_law_748 (v := 10) rfl ?_
  refine g_icmp_le S 755 dL_law_750 (by decide) (fun c_8 => ?_) (fun c_8 => absurd (nI_le (b := 10) (by omega) (by decide)) c_8)
  refine g_iinc S [(17, .int (nI (j + 1))), (19, .int (nI y3)), (18, .int (2 : Int32)), (6, .int x), (5, .int (nI i)), (4, .int al), (3, .int tk), (2, .ref (E.2.2 29)), (1, .ref (E.2.2 0)), (0, .ref (gSb E))] 2 (nI (j + 1)) dL_law_755 rfl (by exact nI_1 j) (by decide) rfl ?_
  refine g_goto S 668 dL_law_758 (by decide) ?_
  refine g_lvs [0, 3, 4, 5, 6, 7, 8, 9] (lv' := [(17, .int (nI (j + 1))), (6, .int x), (5, .int (nI i)), (4, .int al), (3, .int tk), (2, .ref (E.2.2 29)), (1, .ref (E.2.2 0)), (0, .ref (gSb E))]) rfl ?_
  exact (g_wid (by omega) (by omega) ih)
set_option maxRecDepth 100000 in
set_option maxHeartbeats 4000000 in
theorem law_i (C : gLC p l s m args c E σ D B S0) {i : Nat} {x al tk : Int32} (hc : cells + 8 ≤ 683427) (hs : slots + 64 ≤ 7051186) (ih : ∀ (E' : gT) (σ' : gS), AR E E' → INV E' (D + 4) (B + 1000) (S0 + 80) σ' → gJ p l e room_1 s m args below meth c Q 20 E' σ' (cells + 8) (slots + 64) 773 [(6, .int x), (5, .int (nI i)), (4, .int al), (3, .int tk), (2, .ref (E'.2.2 29)), (1, .ref (E'.2.2 0)), (0, .ref (gSb E'))] []) : gJ p l e room_1 s m args below meth c Q 20 E σ cells slots 761 [(6, .int x), (5, .int (nI i)), (4, .int al), (3, .int tk), (2, .ref (E.2.2 29)), (1, .ref (E.2.2 0)), (0, .ref (gSb E))] [] := by
  obtain ⟨S, hC, hfl, hX, hI, hD, hB, hS0⟩ := id C
  obtain ⟨hN, hR⟩ := id hI
  have hb := NB.of hC
  have hok := hN.1.1
  refine g_aload_n S 5 dL_law_761 rfl ?_
  refine g_aload_n S 4 dL_law_762 rfl ?_
  refine g_iload S 0 dL_law_763 rfl ?_
  refine g_calla (g_runS (E := E) S hC (As := [.ref (E.2.2 0), .ref (E.2.2 29), .int x]) (rest := []) (kL_act l E σ x hfl hX hI (by omega) (by omega) (by omega)) (va_cwS 3 S.2.2.2.2 gL_law_L_act rfl rfl rfl (by decide +kernel) ⟨Nat.le_of_ble_eq_true rfl, Nat.le_of_ble_eq_true rfl⟩) rfl rfl (Nat.le_of_ble_eq_true rfl) dL_law_765 ⟨by show _ ≤ 683427; omega, by show _ ≤ 7051186; omega⟩) (fun E' σ' hA hI' => ?_)
  have hC := hA.C hC
  refine g_if_ne S 773 dL_law_768 (by decide) (fun _ => ?_) (fun z => absurd z (by decide))
  have t := ih E' σ' hA hI'
  rw [hA.2.2.2.2.2.1 29 (by decide), hA.2.2.2.2.2.1 0 (by decide), show gSb E' = gSb E from hA.2.2.1 102 (by decide)] at t
  exact t
set_option maxRecDepth 100000 in
set_option maxHeartbeats 4000000 in
theorem law_z (C : gLC p l s m args c E σ D B S0) {i : Nat} {x al tk : Int32} (hc : cells + 3 ≤ 683427) (hs : slots + 18 ≤ 7051186) (ih : gJ p l e room_1 s m args below meth c Q 20 E σ (cells + 3) (slots + 18) 47 [(5, .int (nI (i + 1))), (4, .int (T3 σ - tk)), (3, .int tk), (2, .ref (E.2.2 29)), (1, .ref (E.2.2 0)), (0, .ref (gSb E))] []) : gJ p l e room_1 s m args below meth c Q 20 E σ cells slots 773 [(6, .int x), (5, .int (nI i)), (4, .int al), (3, .int tk), (2, .ref (E.2.2 29)), (1, .ref (E.2.2 0)), (0, .ref (gSb E))] [] := by
  obtain ⟨S, hC, hfl, hX, hI, hD, hB, hS0⟩ := id C
  obtain ⟨hN, hR⟩ := id hI
  have hb := NB.of hC
  have hok := hN.1.1
  refine g_aload_n S 5 dL_law_773 rfl ?_
  refine g_const S dL_law_774 (v := 3) rfl ?_
  refine g_eq (σ' := σ) (st' := [.int (nI 3), .ref (E.2.2 0)]) rfl (by rfl) ?_
  refine g_calli (g_runV S hC (As := [.int (nI 3)]) (rest := []) (k := 0) (by decide) rfl (by decide) rfl (q_cq l hfl E σ 3 (by decide) (v := σ.1 6 2) (by exact rfl)) (cwV 1 S.2.2.2.2 gL_law_X7_count rfl rfl rfl (by decide +kernel) ⟨Nat.le_of_ble_eq_true rfl, Nat.le_of_ble_eq_true rfl⟩) rfl rfl (Nat.le_of_ble_eq_true rfl) dL_law_775 ⟨by show _ ≤ 683427; omega, by show _ ≤ 7051186; omega⟩) ?_
  refine g_aload_n S 5 dL_law_778 rfl ?_
  refine g_const S dL_law_779 (v := 4) rfl ?_
  refine g_eq (σ' := σ) (st' := [.int (nI 4), .ref (E.2.2 0), .int (σ.1 6 2)]) rfl (by rfl) ?_
  refine g_calli (g_runV S hC (As := [.int (nI 4)]) (rest := [.int (σ.1 6 2)]) (k := 0) (by decide) rfl (by decide) rfl (q_cq l hfl E σ 4 (by decide) (v := σ.1 6 3) (by exact rfl)) (cwV 1 S.2.2.2.2 gL_law_X7_count rfl rfl rfl (by decide +kernel) ⟨Nat.le_of_ble_eq_true rfl, Nat.le_of_ble_eq_true rfl⟩) rfl rfl (Nat.le_of_ble_eq_true rfl) dL_law_780 ⟨by show _ ≤ 683427; omega, by show _ ≤ 7051186; omega⟩) ?_
  refine g_iadd S dL_law_783 ?_
  refine g_bipush S dL_law_784 (v := 10) rfl ?_
  refine g_aload_n S 5 dL_law_786 rfl ?_
  refine g_const S dL_law_787 (v := 5) rfl ?_
  refine g_eq (σ' := σ) (st' := [.int (nI 5), .ref (E.2.2 0), .int (10 : Int32), .int ((σ.1 6 2) + (σ.1 6 3))]) rfl (by rfl) ?_
  refine g_calli (g_runV S hC (As := [.int (nI 5)]) (rest := [.int (10 : Int32), .int ((σ.1 6 2) + (σ.1 6 3))]) (k := 0) (by decide) rfl (by decide) rfl (q_cq l hfl E σ 5 (by decide) (v := σ.1 6 5) (by exact rfl)) (cwV 1 S.2.2.2.2 gL_law_X7_count rfl rfl rfl (by decide +kernel) ⟨Nat.le_of_ble_eq_true rfl, Nat.le_of_ble_eq_true rfl⟩) rfl rfl (Nat.le_of_ble_eq_true rfl) dL_law_788 ⟨by show _ ≤ 683427; omega, by show _ ≤ 7051186; omega⟩) ?_
  refine g_imul S dL_law_791 ?_
  refine g_iadd S dL_law_792 ?_
  refine g_iload_n S 3 dL_law_793 rfl ?_
  refine g_isub S dL_law_794 ?_
  refine g_istore S [(4, .int ((((σ.1 6 2) + (σ.1 6 3)) + ((10 : Int32) * (σ.1 6 5))) - tk)), (6, .int x), (5, .int (nI i)), (3, .int tk), (2, .ref (E.2.2 29)), (1, .ref (E.2.2 0)), (0, .ref (gSb E))] dL_law_795 (by decide) rfl ?_
  refine g_iinc S [(5, .int (nI (i + 1))), (4, .int ((((σ.1 6 2) + (σ.1 6 3)) + ((10 : Int32) * (σ.1 6 5))) - tk)), (6, .int x), (3, .int tk), (2, .ref (E.2.2 29)), (1, .ref (E.2.2 0)), (0, .ref (gSb E))] 2 (nI (i + 1)) dL_law_797 rfl (by exact nI_1 i) (by decide) rfl ?_
  refine g_goto S 47 dL_law_800 (by decide) ?_
  refine g_lvs [0, 1, 3, 4, 5, 6] (lv' := [(5, .int (nI (i + 1))), (4, .int (T3 σ - tk)), (3, .int tk), (2, .ref (E.2.2 29)), (1, .ref (E.2.2 0)), (0, .ref (gSb E))]) rfl ?_
  exact ih
end LB
