def sX6_patrolled_r (σ : gS) (t : Nat) (a : Int32) : Int32 := if ((σ.1 t 10) >>> ((a - a / (7 : Int32) * (7 : Int32)) &&& 31)) &&& (1 : Int32) = (1 : Int32) then ((1 : Int32)) else ((0 : Int32))
theorem bX6_patrolled (σ : gS) (t : Nat) (a : Int32) : sX6_patrolled_r σ t a = 0 ∨ sX6_patrolled_r σ t a = 1 := by
  unfold sX6_patrolled_r
  repeat' split
  all_goals first | exact Or.inl rfl | exact Or.inr rfl
set_option maxRecDepth 100000 in
set_option maxHeartbeats 4000000 in
theorem kX6_patrolled (l : Launch) (E : gT) (σ : gS) (t : Nat) (ht : gTw t) (a : Int32) : gMi l yX6_patrolled wsX6_patrolled ({ frames := 0, cells := 0, slots := 0, locals := 0 }) 0 0 E σ [.ref (E.2.2 t), .int a] (sX6_patrolled_r σ t a) σ := by
  refine g_met (mc := 0) (ms := 0) (nL := 2) (ret := (some .boolean)) (by decide) rfl (lv := [(0, .ref (E.2.2 t)), (1, .int a)]) rfl (Nat.le_of_ble_eq_true rfl) ?_
  intro p e s m below meth c S hr hlocks hC
  have hiX6 : ∀ w ∈ wsX60, w ∈ wsX6_patrolled := by decide +kernel
  refine g_aload_n S 0 dX6_patrolled_0 rfl ?_
  refine gg5 S hC hiX6 (ht.lt (j := 0) (by decide)) ht.town 10 (by decide) (by decide +kernel) dX6_patrolled_1 ?_
  refine g_iload_n S 1 dX6_patrolled_4 rfl ?_
  refine g_bipush S dX6_patrolled_5 (v := 7) rfl ?_
  refine g_irem S dX6_patrolled_7 (by decide) ?_
  refine g_ishr S dX6_patrolled_8 ?_
  refine g_const S dX6_patrolled_9 (v := 1) rfl ?_
  refine g_iand S dX6_patrolled_10 ?_
  refine g_const S dX6_patrolled_11 (v := 1) rfl ?_
  refine g_icmp_ne S 19 dX6_patrolled_12 (by decide) (fun c_1 => ?_) (fun c_1 => ?_)
  · skip
    refine g_const S dX6_patrolled_19 (v := 0) rfl ?_
    exact g_zret S hr hlocks dX6_patrolled_20 rfl (by rw [sX6_patrolled_r, if_neg c_1]) rfl (Nat.le_of_ble_eq_true rfl) (Nat.le_of_ble_eq_true rfl)
  · skip
    refine g_const S dX6_patrolled_15 (v := 1) rfl ?_
    refine g_goto S 20 dX6_patrolled_16 (by decide) ?_
    exact g_zret S hr hlocks dX6_patrolled_20 rfl (by rw [sX6_patrolled_r, if_pos c_1]) rfl (Nat.le_of_ble_eq_true rfl) (Nat.le_of_ble_eq_true rfl)
def stX6_travel_2 (t : Nat) (j : Nat) (τ : gS) : gS := let S1201 := sX3_travel_s τ (t + 14 + j) (sX6_patrolled_r τ t (τ.1 t 9)); let S1202 := sX4_add_s S1201 (t + 5) (1 : Int32) (sX3_travel_r τ (t + 14 + j) (sX6_patrolled_r τ t (τ.1 t 9))); S1202
theorem frstX6_travel_2 {t j : Nat} {x : gS} : (stX6_travel_2 t j x).1 t = x.1 t := by
  unfold stX6_travel_2
  (try dsimp only)
  rw [fX4_add _ _ _ _ _ (by omega), fX3_travel _ _ _ _ (by omega)]
def sX6_travel_s (σ : gS) (t : Nat) : gS := (itr (stX6_travel_2 t) (tB σ t 7) σ)
set_option maxRecDepth 100000 in
set_option maxHeartbeats 4000000 in
theorem kX6_travel (l : Launch) (E : gT) (σ : gS) (t : Nat) (ht : gTw t) (hok : tOK σ t) : gMv l yX6_travel wsX6_travel ({ frames := 2, cells := 0, slots := 0, locals := 42 }) 0 0 E σ [.ref (E.2.2 t)] (sX6_travel_s σ t) := by
  refine g_met (mc := 0) (ms := 0) (nL := 2) (ret := none) (by decide) rfl (lv := [(0, .ref (E.2.2 t))]) rfl (Nat.le_of_ble_eq_true rfl) ?_
  intro p e s m below meth c S hr hlocks hC
  have hiX6 : ∀ w ∈ wsX60, w ∈ wsX6_travel := by decide +kernel
  refine g_const S dX6_travel_0 (v := 0) rfl ?_
  refine g_istore_n S [(1, .int (0 : Int32)), (0, .ref (E.2.2 t))] dX6_travel_1 (by decide) rfl ?_
  refine g_lvs [0, 1] (lv' := [(1, .int (0 : Int32)), (0, .ref (E.2.2 t))]) rfl ?_
  have hfr : ∀ i, (itr (stX6_travel_2 t) i σ).1 t = σ.1 t := fun i => itr_keep _ (fun x : gS => x.1 t) (fun j x => frstX6_travel_2) i σ
  have hb_i := hok.le7
  refine g_loop (tB σ t 7) (fun i2 : Nat => (itr (stX6_travel_2 t) i2 σ)) (fun i2 : Nat => [(1, .int (nI i2)), (0, .ref (E.2.2 t))]) [] rfl rfl ?_ ?_
  · intro i2 hi2 ih_i2
    (try dsimp only at ih_i2 ⊢)
    refine g_iload_n S 0 dX6_travel_2 rfl ?_
    refine g_aload_n S 1 dX6_travel_3 rfl ?_
    refine gg5 S hC hiX6 (ht.lt (j := 0) (by decide)) ht.town 7 (by decide) (by decide +kernel) dX6_travel_4 ?_
    refine g_icmp_ge S 41 dX6_travel_7 (by decide) (fun c_1 => absurd c_1 (by rw [congrFun (hfr i2) 7, hok.eq 7 (by decide) (by decide)]; exact nI_ge hi2 (by omega))) (fun c_1 => ?_)
    refine g_aload_n S 1 dX6_travel_10 rfl ?_
    refine gg5r S hC hiX6 (ht.lt (j := 0) (by decide)) ht.town 4 (by decide) (by decide +kernel) dX6_travel_11 ?_
    refine g_const S dX6_travel_14 (v := 1) rfl ?_
    refine g_aload_n S 1 dX6_travel_15 rfl ?_
    refine gg5r S hC hiX6 (ht.lt (j := 0) (by decide)) ht.town 2 (by decide) (by decide +kernel) dX6_travel_16 ?_
    refine g_iload_n S 0 dX6_travel_19 rfl ?_
    refine ga12 S hC (ht.lt (j := 3) (by decide)) ht.r3 i2 rfl (by show i2 < _; first | omega | (unfold gLen; simp; omega)) (t + 14 + i2) (by omega) dX6_travel_20 ?_
    refine g_aload_n S 1 dX6_travel_21 rfl ?_
    refine g_aload_n S 1 dX6_travel_22 rfl ?_
    refine gg5 S hC hiX6 (ht.lt (j := 0) (by decide)) ht.town 9 (by decide) (by decide +kernel) dX6_travel_23 ?_
    refine g_calli (g_runV S hC (As := [.int ((itr (stX6_travel_2 t) i2 σ).1 t 9)]) (rest := [.ref (E.2.2 (t + 14 + i2)), .int (1 : Int32), .ref (E.2.2 (t + 5))]) (k := t) (ht.lt (j := 0) (by decide)) ht.town (by decide) rfl (kX6_patrolled l E (itr (stX6_travel_2 t) i2 σ) t ht ((itr (stX6_travel_2 t) i2 σ).1 t 9)) (cwV 1 S.2.2.2.2 gX6_travel_X6_patrolled rfl rfl rfl (by decide +kernel) ⟨Nat.le_of_ble_eq_true rfl, Nat.le_of_ble_eq_true rfl⟩) rfl rfl (Nat.le_of_ble_eq_true rfl) dX6_travel_26 ⟨Nat.le_of_ble_eq_true rfl, Nat.le_of_ble_eq_true rfl⟩) ?_
    refine g_calli (g_runV S hC (As := [.int (sX6_patrolled_r (itr (stX6_travel_2 t) i2 σ) t ((itr (stX6_travel_2 t) i2 σ).1 t 9))]) (rest := [.int (1 : Int32), .ref (E.2.2 (t + 5))]) (k := t + 14 + i2) (ht.lt2 (a := 14) (by omega)) (ht.smug (by omega)) (by decide) rfl (kX3_travel l E (itr (stX6_travel_2 t) i2 σ) (t + 14 + i2) (ht.lt2 (a := 14) (by omega)) (ht.smug (by omega)) (sX6_patrolled_r (itr (stX6_travel_2 t) i2 σ) t ((itr (stX6_travel_2 t) i2 σ).1 t 9))) (cwV 1 S.2.2.2.2 gX6_travel_X3_travel rfl rfl rfl (by decide +kernel) ⟨Nat.le_of_ble_eq_true rfl, Nat.le_of_ble_eq_true rfl⟩) rfl rfl (Nat.le_of_ble_eq_true rfl) dX6_travel_29 ⟨Nat.le_of_ble_eq_true rfl, Nat.le_of_ble_eq_true rfl⟩) ?_
    refine g_nm (fun S1 hS1 => ?_)
    refine g_callv (g_runV S hC (As := [.int (1 : Int32), .int (sX3_travel_r (itr (stX6_travel_2 t) i2 σ) (t + 14 + i2) (sX6_patrolled_r (itr (stX6_travel_2 t) i2 σ) t ((itr (stX6_travel_2 t) i2 σ).1 t 9)))]) (rest := []) (k := t + 5) (ht.lt (j := 5) (by decide)) ht.store (by decide) rfl (kX4_add l E S1 (t + 5) (ht.lt (j := 5) (by decide)) ht.store (1 : Int32) (sX3_travel_r (itr (stX6_travel_2 t) i2 σ) (t + 14 + i2) (sX6_patrolled_r (itr (stX6_travel_2 t) i2 σ) t ((itr (stX6_travel_2 t) i2 σ).1 t 9)))) (cwV 2 S.2.2.2.2 gX6_travel_X4_add rfl rfl rfl (by decide +kernel) ⟨Nat.le_of_ble_eq_true rfl, Nat.le_of_ble_eq_true rfl⟩) rfl rfl (Nat.le_of_ble_eq_true rfl) dX6_travel_32 ⟨Nat.le_of_ble_eq_true rfl, Nat.le_of_ble_eq_true rfl⟩) ?_
    refine g_nm (fun S2 hS2 => ?_)
    refine g_iinc S [(1, .int (nI (i2 + 1))), (0, .ref (E.2.2 t))] 0 (nI (i2 + 1)) dX6_travel_35 rfl (by exact nI_1 i2) (by decide) rfl ?_
    refine g_goto S 2 dX6_travel_38 (by decide) ?_
    refine g_lvs [0, 1] (lv' := [(1, .int (nI (i2 + 1))), (0, .ref (E.2.2 t))]) rfl ?_
    exact g_to ih_i2 (by subst hS2 hS1; rfl) (by subst hS2 hS1; rfl) rfl
  · skip
    (try dsimp only)
    refine g_iload_n S 0 dX6_travel_2 rfl ?_
    refine g_aload_n S 1 dX6_travel_3 rfl ?_
    refine gg5 S hC hiX6 (ht.lt (j := 0) (by decide)) ht.town 7 (by decide) (by decide +kernel) dX6_travel_4 ?_
    refine g_icmp_ge S 41 dX6_travel_7 (by decide) (fun c_2 => ?_) (fun c_2 => absurd (by rw [congrFun (hfr (tB σ t 7)) 7, hok.eq 7 (by decide) (by decide)]; exact nI_le (Nat.le_refl _) (by omega)) c_2)
    exact g_vret S hr hlocks dX6_travel_41 rfl (Nat.le_of_ble_eq_true rfl) (Nat.le_of_ble_eq_true rfl)
theorem frX6_travel {σ : gS} {t : Nat} : (sX6_travel_s σ t).1 t = σ.1 t := by
  unfold sX6_travel_s
  exact itr_keep _ (fun x : gS => x.1 t) (fun j x => frstX6_travel_2) _ σ
theorem okX6_travel {σ : gS} {t : Nat} (_ : gTw t) (h : tOK σ t) : tOK (sX6_travel_s σ t) t := h.of (fun j _ _ => by rw [frX6_travel])
def stX6_warm_2 (t : Nat) (j : Nat) (τ : gS) : gS := let S1201 := sX2_warm_s τ (t + 10 + j); S1201
theorem frstX6_warm_2 {t j : Nat} {x : gS} : (stX6_warm_2 t j x).1 t = x.1 t := by
  unfold stX6_warm_2
  (try dsimp only)
  rw [fX2_warm _ _ _ (by omega)]
def sX6_warm_s (σ : gS) (t : Nat) : gS := (itr (stX6_warm_2 t) (tB σ t 6) σ)
set_option maxRecDepth 100000 in
set_option maxHeartbeats 4000000 in
theorem kX6_warm (l : Launch) (E : gT) (σ : gS) (t : Nat) (ht : gTw t) (hok : tOK σ t) : gMv l yX6_warm wsX6_warm ({ frames := 3, cells := 0, slots := 0, locals := 65 }) 0 0 E σ [.ref (E.2.2 t)] (sX6_warm_s σ t) := by
  refine g_met (mc := 0) (ms := 0) (nL := 2) (ret := none) (by decide) rfl (lv := [(0, .ref (E.2.2 t))]) rfl (Nat.le_of_ble_eq_true rfl) ?_
  intro p e s m below meth c S hr hlocks hC
  have hiX6 : ∀ w ∈ wsX60, w ∈ wsX6_warm := by decide +kernel
  refine g_const S dX6_warm_0 (v := 0) rfl ?_
  refine g_istore_n S [(1, .int (0 : Int32)), (0, .ref (E.2.2 t))] dX6_warm_1 (by decide) rfl ?_
  refine g_lvs [0, 1] (lv' := [(1, .int (0 : Int32)), (0, .ref (E.2.2 t))]) rfl ?_
  have hfr : ∀ i, (itr (stX6_warm_2 t) i σ).1 t = σ.1 t := fun i => itr_keep _ (fun x : gS => x.1 t) (fun j x => frstX6_warm_2) i σ
  have hb_i := hok.le6
  refine g_loop (tB σ t 6) (fun i2 : Nat => (itr (stX6_warm_2 t) i2 σ)) (fun i2 : Nat => [(1, .int (nI i2)), (0, .ref (E.2.2 t))]) [] rfl rfl ?_ ?_
  · intro i2 hi2 ih_i2
    (try dsimp only at ih_i2 ⊢)
    refine g_iload_n S 0 dX6_warm_2 rfl ?_
    refine g_aload_n S 1 dX6_warm_3 rfl ?_
    refine gg5 S hC hiX6 (ht.lt (j := 0) (by decide)) ht.town 6 (by decide) (by decide +kernel) dX6_warm_4 ?_
    refine g_icmp_ge S 25 dX6_warm_7 (by decide) (fun c_1 => absurd c_1 (by rw [congrFun (hfr i2) 6, hok.eq 6 (by decide) (by decide)]; exact nI_ge hi2 (by omega))) (fun c_1 => ?_)
    refine g_aload_n S 1 dX6_warm_10 rfl ?_
    refine gg5r S hC hiX6 (ht.lt (j := 0) (by decide)) ht.town 1 (by decide) (by decide +kernel) dX6_warm_11 ?_
    refine g_iload_n S 0 dX6_warm_14 rfl ?_
    refine ga11 S hC (ht.lt (j := 2) (by decide)) ht.r2 i2 rfl (by show i2 < _; first | omega | (unfold gLen; simp; omega)) (t + 10 + i2) (by omega) dX6_warm_15 ?_
    refine g_callv (g_runV S hC (As := []) (rest := []) (k := t + 10 + i2) (ht.lt2 (a := 10) (by omega)) (ht.drum (by omega)) (by decide) rfl (kX2_warm l E (itr (stX6_warm_2 t) i2 σ) (t + 10 + i2) (ht.lt2 (a := 10) (by omega)) (ht.drum (by omega))) (cwV 0 S.2.2.2.2 gX6_warm_X2_warm rfl rfl rfl (by decide +kernel) ⟨Nat.le_of_ble_eq_true rfl, Nat.le_of_ble_eq_true rfl⟩) rfl rfl (Nat.le_of_ble_eq_true rfl) dX6_warm_16 ⟨Nat.le_of_ble_eq_true rfl, Nat.le_of_ble_eq_true rfl⟩) ?_
    refine g_nm (fun S1 hS1 => ?_)
    refine g_iinc S [(1, .int (nI (i2 + 1))), (0, .ref (E.2.2 t))] 0 (nI (i2 + 1)) dX6_warm_19 rfl (by exact nI_1 i2) (by decide) rfl ?_
    refine g_goto S 2 dX6_warm_22 (by decide) ?_
    refine g_lvs [0, 1] (lv' := [(1, .int (nI (i2 + 1))), (0, .ref (E.2.2 t))]) rfl ?_
    exact g_to ih_i2 (by subst hS1; rfl) (by subst hS1; rfl) rfl
  · skip
    (try dsimp only)
    refine g_iload_n S 0 dX6_warm_2 rfl ?_
    refine g_aload_n S 1 dX6_warm_3 rfl ?_
    refine gg5 S hC hiX6 (ht.lt (j := 0) (by decide)) ht.town 6 (by decide) (by decide +kernel) dX6_warm_4 ?_
    refine g_icmp_ge S 25 dX6_warm_7 (by decide) (fun c_2 => ?_) (fun c_2 => absurd (by rw [congrFun (hfr (tB σ t 6)) 6, hok.eq 6 (by decide) (by decide)]; exact nI_le (Nat.le_refl _) (by omega)) c_2)
    exact g_vret S hr hlocks dX6_warm_25 rfl (Nat.le_of_ble_eq_true rfl) (Nat.le_of_ble_eq_true rfl)
theorem frX6_warm {σ : gS} {t : Nat} : (sX6_warm_s σ t).1 t = σ.1 t := by
  unfold sX6_warm_s
  exact itr_keep _ (fun x : gS => x.1 t) (fun j x => frstX6_warm_2) _ σ
theorem okX6_warm {σ : gS} {t : Nat} (_ : gTw t) (h : tOK σ t) : tOK (sX6_warm_s σ t) t := h.of (fun j _ _ => by rw [frX6_warm])
def stX6_grow_2 (t : Nat) (j : Nat) (τ : gS) : gS := let S1201 := sX0_grow_s τ (t + 6 + j); S1201
theorem frstX6_grow_2 {t j : Nat} {x : gS} : (stX6_grow_2 t j x).1 t = x.1 t := by
  unfold stX6_grow_2
  (try dsimp only)
  rw [fX0_grow _ _ _ (by omega)]
def sX6_grow_s (σ : gS) (t : Nat) : gS := (itr (stX6_grow_2 t) (tB σ t 5) σ)
set_option maxRecDepth 100000 in
set_option maxHeartbeats 4000000 in
theorem kX6_grow (l : Launch) (E : gT) (σ : gS) (t : Nat) (ht : gTw t) (hok : tOK σ t) : gMv l yX6_grow wsX6_grow ({ frames := 2, cells := 0, slots := 0, locals := 44 }) 0 0 E σ [.ref (E.2.2 t)] (sX6_grow_s σ t) := by
  refine g_met (mc := 0) (ms := 0) (nL := 2) (ret := none) (by decide) rfl (lv := [(0, .ref (E.2.2 t))]) rfl (Nat.le_of_ble_eq_true rfl) ?_
  intro p e s m below meth c S hr hlocks hC
  have hiX6 : ∀ w ∈ wsX60, w ∈ wsX6_grow := by decide +kernel
  refine g_const S dX6_grow_0 (v := 0) rfl ?_
  refine g_istore_n S [(1, .int (0 : Int32)), (0, .ref (E.2.2 t))] dX6_grow_1 (by decide) rfl ?_
  refine g_lvs [0, 1] (lv' := [(1, .int (0 : Int32)), (0, .ref (E.2.2 t))]) rfl ?_
  have hfr : ∀ i, (itr (stX6_grow_2 t) i σ).1 t = σ.1 t := fun i => itr_keep _ (fun x : gS => x.1 t) (fun j x => frstX6_grow_2) i σ
  have hb_i := hok.le5
  refine g_loop (tB σ t 5) (fun i2 : Nat => (itr (stX6_grow_2 t) i2 σ)) (fun i2 : Nat => [(1, .int (nI i2)), (0, .ref (E.2.2 t))]) [] rfl rfl ?_ ?_
  · intro i2 hi2 ih_i2
    (try dsimp only at ih_i2 ⊢)
    refine g_iload_n S 0 dX6_grow_2 rfl ?_
    refine g_aload_n S 1 dX6_grow_3 rfl ?_
    refine gg5 S hC hiX6 (ht.lt (j := 0) (by decide)) ht.town 5 (by decide) (by decide +kernel) dX6_grow_4 ?_
    refine g_icmp_ge S 25 dX6_grow_7 (by decide) (fun c_1 => absurd c_1 (by rw [congrFun (hfr i2) 5, hok.eq 5 (by decide) (by decide)]; exact nI_ge hi2 (by omega))) (fun c_1 => ?_)
    refine g_aload_n S 1 dX6_grow_10 rfl ?_
    refine gg5r S hC hiX6 (ht.lt (j := 0) (by decide)) ht.town 0 (by decide) (by decide +kernel) dX6_grow_11 ?_
    refine g_iload_n S 0 dX6_grow_14 rfl ?_
    refine ga10 S hC (ht.lt (j := 1) (by decide)) ht.r1 i2 rfl (by show i2 < _; first | omega | (unfold gLen; simp; omega)) (t + 6 + i2) (by omega) dX6_grow_15 ?_
    refine g_callv (g_runV S hC (As := []) (rest := []) (k := t + 6 + i2) (ht.lt2 (a := 6) (by omega)) (ht.bed (by omega)) (by decide) rfl (kX0_grow l E (itr (stX6_grow_2 t) i2 σ) (t + 6 + i2) (ht.lt2 (a := 6) (by omega)) (ht.bed (by omega))) (cwV 0 S.2.2.2.2 gX6_grow_X0_grow rfl rfl rfl (by decide +kernel) ⟨Nat.le_of_ble_eq_true rfl, Nat.le_of_ble_eq_true rfl⟩) rfl rfl (Nat.le_of_ble_eq_true rfl) dX6_grow_16 ⟨Nat.le_of_ble_eq_true rfl, Nat.le_of_ble_eq_true rfl⟩) ?_
    refine g_nm (fun S1 hS1 => ?_)
    refine g_iinc S [(1, .int (nI (i2 + 1))), (0, .ref (E.2.2 t))] 0 (nI (i2 + 1)) dX6_grow_19 rfl (by exact nI_1 i2) (by decide) rfl ?_
    refine g_goto S 2 dX6_grow_22 (by decide) ?_
    refine g_lvs [0, 1] (lv' := [(1, .int (nI (i2 + 1))), (0, .ref (E.2.2 t))]) rfl ?_
    exact g_to ih_i2 (by subst hS1; rfl) (by subst hS1; rfl) rfl
  · skip
    (try dsimp only)
    refine g_iload_n S 0 dX6_grow_2 rfl ?_
    refine g_aload_n S 1 dX6_grow_3 rfl ?_
    refine gg5 S hC hiX6 (ht.lt (j := 0) (by decide)) ht.town 5 (by decide) (by decide +kernel) dX6_grow_4 ?_
    refine g_icmp_ge S 25 dX6_grow_7 (by decide) (fun c_2 => ?_) (fun c_2 => absurd (by rw [congrFun (hfr (tB σ t 5)) 5, hok.eq 5 (by decide) (by decide)]; exact nI_le (Nat.le_refl _) (by omega)) c_2)
    exact g_vret S hr hlocks dX6_grow_25 rfl (Nat.le_of_ble_eq_true rfl) (Nat.le_of_ble_eq_true rfl)
theorem frX6_grow {σ : gS} {t : Nat} : (sX6_grow_s σ t).1 t = σ.1 t := by
  unfold sX6_grow_s
  exact itr_keep _ (fun x : gS => x.1 t) (fun j x => frstX6_grow_2) _ σ
theorem okX6_grow {σ : gS} {t : Nat} (_ : gTw t) (h : tOK σ t) : tOK (sX6_grow_s σ t) t := h.of (fun j _ _ => by rw [frX6_grow])
def stX6_serve_4 (t : Nat) (j : Nat) (τ : gS × Int32) : gS × Int32 := if (τ.1.1 t 9) - (τ.1.1 t 9) / (7 : Int32) * (7 : Int32) = 0 then (let S1402 := sX1_renew_s τ.1 (t + 18 + j); let S1403 := sX1_serveDay_s S1402 (t + 18 + j) (t + 5); (S1403, τ.2 + (sX1_serveDay_r S1402 (t + 18 + j) (t + 5)))) else (let S1401 := sX1_serveDay_s τ.1 (t + 18 + j) (t + 5); (S1401, τ.2 + (sX1_serveDay_r τ.1 (t + 18 + j) (t + 5))))
theorem frstX6_serve_4 {t j : Nat} {x : gS × Int32} : (stX6_serve_4 t j x).1.1 t = x.1.1 t := by
  unfold stX6_serve_4
  (try dsimp only)
  split
  · dsimp only
    rw [fX1_serveDay _ _ _ _ (by omega) (by omega), fX1_renew _ _ _ (by omega)]
  · dsimp only
    rw [fX1_serveDay _ _ _ _ (by omega) (by omega)]
def sX6_serve_r (σ : gS) (t : Nat) : Int32 := (itr (stX6_serve_4 t) (tB σ t 8) (σ, (0 : Int32))).2
def sX6_serve_s (σ : gS) (t : Nat) : gS := (itr (stX6_serve_4 t) (tB σ t 8) (σ, (0 : Int32))).1
set_option maxRecDepth 100000 in
set_option maxHeartbeats 4000000 in
theorem kX6_serve (l : Launch) (E : gT) (σ : gS) (t : Nat) (ht : gTw t) (hok : tOK σ t) : gMi l yX6_serve wsX6_serve ({ frames := 4, cells := 0, slots := 0, locals := 88 }) 0 0 E σ [.ref (E.2.2 t)] (sX6_serve_r σ t) (sX6_serve_s σ t) := by
  refine g_met (mc := 0) (ms := 0) (nL := 3) (ret := (some .int)) (by decide) rfl (lv := [(0, .ref (E.2.2 t))]) rfl (Nat.le_of_ble_eq_true rfl) ?_
  intro p e s m below meth c S hr hlocks hC
  have hiX6 : ∀ w ∈ wsX60, w ∈ wsX6_serve := by decide +kernel
  refine g_const S dX6_serve_0 (v := 0) rfl ?_
  refine g_istore_n S [(1, .int (0 : Int32)), (0, .ref (E.2.2 t))] dX6_serve_1 (by decide) rfl ?_
  refine g_const S dX6_serve_2 (v := 0) rfl ?_
  refine g_istore_n S [(2, .int (0 : Int32)), (1, .int (0 : Int32)), (0, .ref (E.2.2 t))] dX6_serve_3 (by decide) rfl ?_
  refine g_lvs [0, 1, 2] (lv' := [(2, .int (0 : Int32)), (1, .int (0 : Int32)), (0, .ref (E.2.2 t))]) rfl ?_
  have hfr : ∀ i, (itr (stX6_serve_4 t) i (σ, (0 : Int32))).1.1 t = σ.1 t := fun i => itr_keep _ (fun x : gS × Int32 => x.1.1 t) (fun j x => frstX6_serve_4) i (σ, (0 : Int32))
  have hb_i := hok.le8
  refine g_loop (tB σ t 8) (fun i4 : Nat => (itr (stX6_serve_4 t) i4 (σ, (0 : Int32))).1) (fun i4 : Nat => [(2, .int (nI i4)), (1, .int ((itr (stX6_serve_4 t) i4 (σ, (0 : Int32))).2)), (0, .ref (E.2.2 t))]) [] rfl rfl ?_ ?_
  · intro i4 hi4 ih_i4
    (try dsimp only at ih_i4 ⊢)
    refine g_iload_n S 0 dX6_serve_4 rfl ?_
    refine g_aload_n S 2 dX6_serve_5 rfl ?_
    refine gg5 S hC hiX6 (ht.lt (j := 0) (by decide)) ht.town 8 (by decide) (by decide +kernel) dX6_serve_6 ?_
    refine g_icmp_ge S 53 dX6_serve_9 (by decide) (fun c_1 => absurd c_1 (by rw [congrFun (hfr i4) 8, hok.eq 8 (by decide) (by decide)]; exact nI_ge hi4 (by omega))) (fun c_1 => ?_)
    refine g_aload_n S 2 dX6_serve_12 rfl ?_
    refine gg5 S hC hiX6 (ht.lt (j := 0) (by decide)) ht.town 9 (by decide) (by decide +kernel) dX6_serve_13 ?_
    refine g_bipush S dX6_serve_16 (v := 7) rfl ?_
    refine g_irem S dX6_serve_18 (by decide) ?_
    refine g_if_ne S 31 dX6_serve_19 (by decide) (fun c_2 => ?_) (fun c_2 => ?_)
    · skip
      refine g_iload_n S 1 dX6_serve_31 rfl ?_
      refine g_aload_n S 2 dX6_serve_32 rfl ?_
      refine gg5r S hC hiX6 (ht.lt (j := 0) (by decide)) ht.town 3 (by decide) (by decide +kernel) dX6_serve_33 ?_
      refine g_iload_n S 0 dX6_serve_36 rfl ?_
      refine ga13 S hC (ht.lt (j := 4) (by decide)) ht.r4 i4 rfl (by show i4 < _; first | omega | (unfold gLen; simp; omega)) (t + 18 + i4) (by omega) dX6_serve_37 ?_
      refine g_aload_n S 2 dX6_serve_38 rfl ?_
      refine gg5r S hC hiX6 (ht.lt (j := 0) (by decide)) ht.town 4 (by decide) (by decide +kernel) dX6_serve_39 ?_
      refine g_calli (g_runV S hC (As := [.ref (E.2.2 (t + 5))]) (rest := [.int ((itr (stX6_serve_4 t) i4 (σ, (0 : Int32))).2)]) (k := t + 18 + i4) (ht.lt2 (a := 18) (by omega)) (ht.card (by omega)) (by decide) rfl (kX1_serveDay l E ((itr (stX6_serve_4 t) i4 (σ, (0 : Int32))).1) (t + 18 + i4) (ht.lt2 (a := 18) (by omega)) (ht.card (by omega)) (t + 5) (ht.lt (j := 5) (by decide)) ht.store) (cwV 1 S.2.2.2.2 gX6_serve_X1_serveDay rfl rfl rfl (by decide +kernel) ⟨Nat.le_of_ble_eq_true rfl, Nat.le_of_ble_eq_true rfl⟩) rfl rfl (Nat.le_of_ble_eq_true rfl) dX6_serve_42 ⟨Nat.le_of_ble_eq_true rfl, Nat.le_of_ble_eq_true rfl⟩) ?_
      refine g_nm (fun S1 hS1 => ?_)
      refine g_iadd S dX6_serve_45 ?_
      refine g_istore_n S [(1, .int (((itr (stX6_serve_4 t) i4 (σ, (0 : Int32))).2) + (sX1_serveDay_r ((itr (stX6_serve_4 t) i4 (σ, (0 : Int32))).1) (t + 18 + i4) (t + 5)))), (2, .int (nI i4)), (0, .ref (E.2.2 t))] dX6_serve_46 (by decide) rfl ?_
      refine g_iinc S [(2, .int (nI (i4 + 1))), (1, .int (((itr (stX6_serve_4 t) i4 (σ, (0 : Int32))).2) + (sX1_serveDay_r ((itr (stX6_serve_4 t) i4 (σ, (0 : Int32))).1) (t + 18 + i4) (t + 5)))), (0, .ref (E.2.2 t))] 1 (nI (i4 + 1)) dX6_serve_47 rfl (by exact nI_1 i4) (by decide) rfl ?_
      refine g_goto S 4 dX6_serve_50 (by decide) ?_
      refine g_lvs [0, 1, 2] (lv' := [(2, .int (nI (i4 + 1))), (1, .int (((itr (stX6_serve_4 t) i4 (σ, (0 : Int32))).2) + (sX1_serveDay_r ((itr (stX6_serve_4 t) i4 (σ, (0 : Int32))).1) (t + 18 + i4) (t + 5)))), (0, .ref (E.2.2 t))]) rfl ?_
      exact g_to ih_i4 (by subst hS1; simp only [itr]; rw [stX6_serve_4]; (try dsimp only); rw [if_neg c_2]) (by subst hS1; simp only [itr]; rw [stX6_serve_4]; (try dsimp only); rw [if_neg c_2]) rfl
    · skip
      refine g_aload_n S 2 dX6_serve_22 rfl ?_
      refine gg5r S hC hiX6 (ht.lt (j := 0) (by decide)) ht.town 3 (by decide) (by decide +kernel) dX6_serve_23 ?_
      refine g_iload_n S 0 dX6_serve_26 rfl ?_
      refine ga13 S hC (ht.lt (j := 4) (by decide)) ht.r4 i4 rfl (by show i4 < _; first | omega | (unfold gLen; simp; omega)) (t + 18 + i4) (by omega) dX6_serve_27 ?_
      refine g_callv (g_runV S hC (As := []) (rest := []) (k := t + 18 + i4) (ht.lt2 (a := 18) (by omega)) (ht.card (by omega)) (by decide) rfl (kX1_renew l E ((itr (stX6_serve_4 t) i4 (σ, (0 : Int32))).1) (t + 18 + i4) (ht.lt2 (a := 18) (by omega)) (ht.card (by omega))) (cwV 0 S.2.2.2.2 gX6_serve_X1_renew rfl rfl rfl (by decide +kernel) ⟨Nat.le_of_ble_eq_true rfl, Nat.le_of_ble_eq_true rfl⟩) rfl rfl (Nat.le_of_ble_eq_true rfl) dX6_serve_28 ⟨Nat.le_of_ble_eq_true rfl, Nat.le_of_ble_eq_true rfl⟩) ?_
      refine g_nm (fun S2 hS2 => ?_)
      refine g_iload_n S 1 dX6_serve_31 rfl ?_
      refine g_aload_n S 2 dX6_serve_32 rfl ?_
      refine gg5r S hC hiX6 (ht.lt (j := 0) (by decide)) ht.town 3 (by decide) (by decide +kernel) dX6_serve_33 ?_
      refine g_iload_n S 0 dX6_serve_36 rfl ?_
      refine ga13 S hC (ht.lt (j := 4) (by decide)) ht.r4 i4 rfl (by show i4 < _; first | omega | (unfold gLen; simp; omega)) (t + 18 + i4) (by omega) dX6_serve_37 ?_
      refine g_aload_n S 2 dX6_serve_38 rfl ?_
      refine gg5r S hC hiX6 (ht.lt (j := 0) (by decide)) ht.town 4 (by decide) (by decide +kernel) dX6_serve_39 ?_
      refine g_calli (g_runV S hC (As := [.ref (E.2.2 (t + 5))]) (rest := [.int ((itr (stX6_serve_4 t) i4 (σ, (0 : Int32))).2)]) (k := t + 18 + i4) (ht.lt2 (a := 18) (by omega)) (ht.card (by omega)) (by decide) rfl (kX1_serveDay l E S2 (t + 18 + i4) (ht.lt2 (a := 18) (by omega)) (ht.card (by omega)) (t + 5) (ht.lt (j := 5) (by decide)) ht.store) (cwV 1 S.2.2.2.2 gX6_serve_X1_serveDay rfl rfl rfl (by decide +kernel) ⟨Nat.le_of_ble_eq_true rfl, Nat.le_of_ble_eq_true rfl⟩) rfl rfl (Nat.le_of_ble_eq_true rfl) dX6_serve_42 ⟨Nat.le_of_ble_eq_true rfl, Nat.le_of_ble_eq_true rfl⟩) ?_
      refine g_nm (fun S3 hS3 => ?_)
      refine g_iadd S dX6_serve_45 ?_
      refine g_istore_n S [(1, .int (((itr (stX6_serve_4 t) i4 (σ, (0 : Int32))).2) + (sX1_serveDay_r S2 (t + 18 + i4) (t + 5)))), (2, .int (nI i4)), (0, .ref (E.2.2 t))] dX6_serve_46 (by decide) rfl ?_
      refine g_iinc S [(2, .int (nI (i4 + 1))), (1, .int (((itr (stX6_serve_4 t) i4 (σ, (0 : Int32))).2) + (sX1_serveDay_r S2 (t + 18 + i4) (t + 5)))), (0, .ref (E.2.2 t))] 1 (nI (i4 + 1)) dX6_serve_47 rfl (by exact nI_1 i4) (by decide) rfl ?_
      refine g_goto S 4 dX6_serve_50 (by decide) ?_
      refine g_lvs [0, 1, 2] (lv' := [(2, .int (nI (i4 + 1))), (1, .int (((itr (stX6_serve_4 t) i4 (σ, (0 : Int32))).2) + (sX1_serveDay_r S2 (t + 18 + i4) (t + 5)))), (0, .ref (E.2.2 t))]) rfl ?_
      exact g_to ih_i4 (by subst hS3 hS2; simp only [itr]; rw [stX6_serve_4]; (try dsimp only); rw [if_pos c_2]) (by subst hS3 hS2; simp only [itr]; rw [stX6_serve_4]; (try dsimp only); rw [if_pos c_2]) rfl
  · skip
    (try dsimp only)
    refine g_iload_n S 0 dX6_serve_4 rfl ?_
    refine g_aload_n S 2 dX6_serve_5 rfl ?_
    refine gg5 S hC hiX6 (ht.lt (j := 0) (by decide)) ht.town 8 (by decide) (by decide +kernel) dX6_serve_6 ?_
    refine g_icmp_ge S 53 dX6_serve_9 (by decide) (fun c_3 => ?_) (fun c_3 => absurd (by rw [congrFun (hfr (tB σ t 8)) 8, hok.eq 8 (by decide) (by decide)]; exact nI_le (Nat.le_refl _) (by omega)) c_3)
    refine g_iload_n S 1 dX6_serve_53 rfl ?_
    exact g_iret S hr hlocks dX6_serve_54 rfl rfl (Nat.le_of_ble_eq_true rfl) (Nat.le_of_ble_eq_true rfl)
theorem frX6_serve {σ : gS} {t : Nat} : (sX6_serve_s σ t).1 t = σ.1 t := by
  unfold sX6_serve_s
  exact itr_keep _ (fun x : gS × Int32 => x.1.1 t) (fun j x => frstX6_serve_4) _ (σ, (0 : Int32))
theorem okX6_serve {σ : gS} {t : Nat} (_ : gTw t) (h : tOK σ t) : tOK (sX6_serve_s σ t) t := h.of (fun j _ _ => by rw [frX6_serve])
def stX6_live_4 (t : Nat) (d : Nat) (j : Nat) (τ : gS × Int32) : gS × Int32 := let S1401 := sX6_travel_s τ.1 t; let S1402 := sX6_warm_s S1401 t; let S1403 := sX6_grow_s S1402 t; let S1404 := sX6_serve_s S1403 t; let S1405 := gu S1404 t 9 ((S1404.1 t 9) + (1 : Int32)); (S1405, τ.2 + (sX6_serve_r S1403 t))
theorem okstX6_live_4 {t d j : Nat} (ht : gTw t) {x : gS × Int32} (h : tOK x.1 t) : tOK (stX6_live_4 t d j x).1 t := by
  unfold stX6_live_4
  dsimp only
  refine (okX6_serve ht (okX6_grow ht (okX6_warm ht (okX6_travel ht h)))).of (fun j h1 h2 => ?_)
  rw [gu_at, if_neg (by omega)]
def sX6_live_r (σ : gS) (t : Nat) (d : Nat) : Int32 := (itr (stX6_live_4 t d) d (σ, (0 : Int32))).2
def sX6_live_s (σ : gS) (t : Nat) (d : Nat) : gS := (itr (stX6_live_4 t d) d (σ, (0 : Int32))).1
set_option maxRecDepth 100000 in
set_option maxHeartbeats 4000000 in
theorem kX6_live (l : Launch) (E : gT) (σ : gS) (t : Nat) (ht : gTw t) (d : Nat) (hd : d < 61) (hok : tOK σ t) : gMi l yX6_live wsX6_live ({ frames := 5, cells := 0, slots := 0, locals := 110 }) 0 0 E σ [.ref (E.2.2 t), .int (nI d)] (sX6_live_r σ t d) (sX6_live_s σ t d) := by
  refine g_met (mc := 0) (ms := 0) (nL := 4) (ret := (some .int)) (by decide) rfl (lv := [(0, .ref (E.2.2 t)), (1, .int (nI d))]) rfl (Nat.le_of_ble_eq_true rfl) ?_
  intro p e s m below meth c S hr hlocks hC
  have hiX6 : ∀ w ∈ wsX60, w ∈ wsX6_live := by decide +kernel
  refine g_const S dX6_live_0 (v := 0) rfl ?_
  refine g_istore_n S [(2, .int (0 : Int32)), (0, .ref (E.2.2 t)), (1, .int (nI d))] dX6_live_1 (by decide) rfl ?_
  refine g_const S dX6_live_2 (v := 0) rfl ?_
  refine g_istore_n S [(3, .int (0 : Int32)), (2, .int (0 : Int32)), (0, .ref (E.2.2 t)), (1, .int (nI d))] dX6_live_3 (by decide) rfl ?_
  refine g_lvs [0, 1, 2, 3] (lv' := [(3, .int (0 : Int32)), (2, .int (0 : Int32)), (0, .ref (E.2.2 t)), (1, .int (nI d))]) rfl ?_
  have hokF : ∀ i, tOK (itr (stX6_live_4 t d) i (σ, (0 : Int32))).1 t := fun i => itr_inv _ (fun x : gS × Int32 => tOK x.1 t) (fun j x h => okstX6_live_4 ht h) i (σ, (0 : Int32)) hok
  refine g_loop d (fun i4 : Nat => (itr (stX6_live_4 t d) i4 (σ, (0 : Int32))).1) (fun i4 : Nat => [(3, .int (nI i4)), (2, .int ((itr (stX6_live_4 t d) i4 (σ, (0 : Int32))).2)), (0, .ref (E.2.2 t)), (1, .int (nI d))]) [] rfl rfl ?_ ?_
  · intro i4 hi4 ih_i4
    (try dsimp only at ih_i4 ⊢)
    refine g_iload_n S 0 dX6_live_4 rfl ?_
    refine g_iload_n S 3 dX6_live_5 rfl ?_
    refine g_icmp_ge S 44 dX6_live_6 (by decide) (fun c_1 => absurd c_1 (nI_ge hi4 (by omega))) (fun c_1 => ?_)
    refine g_aload_n S 2 dX6_live_9 rfl ?_
    refine g_callv (g_runV S hC (As := []) (rest := []) (k := t) (ht.lt (j := 0) (by decide)) ht.town (by decide) rfl (kX6_travel l E ((itr (stX6_live_4 t d) i4 (σ, (0 : Int32))).1) t ht (hokF i4)) (cwV 0 S.2.2.2.2 gX6_live_X6_travel rfl rfl rfl (by decide +kernel) ⟨Nat.le_of_ble_eq_true rfl, Nat.le_of_ble_eq_true rfl⟩) rfl rfl (Nat.le_of_ble_eq_true rfl) dX6_live_10 ⟨Nat.le_of_ble_eq_true rfl, Nat.le_of_ble_eq_true rfl⟩) ?_
    refine g_nm (fun S1 hS1 => ?_)
    refine g_aload_n S 2 dX6_live_13 rfl ?_
    refine g_callv (g_runV S hC (As := []) (rest := []) (k := t) (ht.lt (j := 0) (by decide)) ht.town (by decide) rfl (kX6_warm l E S1 t ht (by rw [hS1]; exact okX6_travel ht (hokF i4))) (cwV 0 S.2.2.2.2 gX6_live_X6_warm rfl rfl rfl (by decide +kernel) ⟨Nat.le_of_ble_eq_true rfl, Nat.le_of_ble_eq_true rfl⟩) rfl rfl (Nat.le_of_ble_eq_true rfl) dX6_live_14 ⟨Nat.le_of_ble_eq_true rfl, Nat.le_of_ble_eq_true rfl⟩) ?_
    refine g_nm (fun S2 hS2 => ?_)
    refine g_aload_n S 2 dX6_live_17 rfl ?_
    refine g_callv (g_runV S hC (As := []) (rest := []) (k := t) (ht.lt (j := 0) (by decide)) ht.town (by decide) rfl (kX6_grow l E S2 t ht (by rw [hS2]; exact okX6_warm ht (by rw [hS1]; exact okX6_travel ht (hokF i4)))) (cwV 0 S.2.2.2.2 gX6_live_X6_grow rfl rfl rfl (by decide +kernel) ⟨Nat.le_of_ble_eq_true rfl, Nat.le_of_ble_eq_true rfl⟩) rfl rfl (Nat.le_of_ble_eq_true rfl) dX6_live_18 ⟨Nat.le_of_ble_eq_true rfl, Nat.le_of_ble_eq_true rfl⟩) ?_
    refine g_nm (fun S3 hS3 => ?_)
    refine g_iload_n S 1 dX6_live_21 rfl ?_
    refine g_aload_n S 2 dX6_live_22 rfl ?_
    refine g_calli (g_runV S hC (As := []) (rest := [.int ((itr (stX6_live_4 t d) i4 (σ, (0 : Int32))).2)]) (k := t) (ht.lt (j := 0) (by decide)) ht.town (by decide) rfl (kX6_serve l E S3 t ht (by rw [hS3]; exact okX6_grow ht (by rw [hS2]; exact okX6_warm ht (by rw [hS1]; exact okX6_travel ht (hokF i4))))) (cwV 0 S.2.2.2.2 gX6_live_X6_serve rfl rfl rfl (by decide +kernel) ⟨Nat.le_of_ble_eq_true rfl, Nat.le_of_ble_eq_true rfl⟩) rfl rfl (Nat.le_of_ble_eq_true rfl) dX6_live_23 ⟨Nat.le_of_ble_eq_true rfl, Nat.le_of_ble_eq_true rfl⟩) ?_
    refine g_nm (fun S4 hS4 => ?_)
    refine g_iadd S dX6_live_26 ?_
    refine g_istore_n S [(2, .int (((itr (stX6_live_4 t d) i4 (σ, (0 : Int32))).2) + (sX6_serve_r S3 t))), (3, .int (nI i4)), (0, .ref (E.2.2 t)), (1, .int (nI d))] dX6_live_27 (by decide) rfl ?_
    refine g_aload_n S 2 dX6_live_28 rfl ?_
    refine g_dup S dX6_live_29 rfl ?_
    refine gg5 S hC hiX6 (ht.lt (j := 0) (by decide)) ht.town 9 (by decide) (by decide +kernel) dX6_live_30 ?_
    refine g_const S dX6_live_33 (v := 1) rfl ?_
    refine g_iadd S dX6_live_34 ?_
    refine gp5 S hC hiX6 (ht.lt (j := 0) (by decide)) ht.town 9 (by decide) (by decide +kernel) dX6_live_35 ?_
    refine g_nm (fun S5 hS5 => ?_)
    refine g_iinc S [(3, .int (nI (i4 + 1))), (2, .int (((itr (stX6_live_4 t d) i4 (σ, (0 : Int32))).2) + (sX6_serve_r S3 t))), (0, .ref (E.2.2 t)), (1, .int (nI d))] 1 (nI (i4 + 1)) dX6_live_38 rfl (by exact nI_1 i4) (by decide) rfl ?_
    refine g_goto S 4 dX6_live_41 (by decide) ?_
    refine g_lvs [0, 1, 2, 3] (lv' := [(3, .int (nI (i4 + 1))), (2, .int (((itr (stX6_live_4 t d) i4 (σ, (0 : Int32))).2) + (sX6_serve_r S3 t))), (0, .ref (E.2.2 t)), (1, .int (nI d))]) rfl ?_
    exact g_to ih_i4 (by subst hS5 hS4 hS3 hS2 hS1; rfl) (by subst hS5 hS4 hS3 hS2 hS1; rfl) rfl
  · skip
    (try dsimp only)
    refine g_iload_n S 0 dX6_live_4 rfl ?_
    refine g_iload_n S 3 dX6_live_5 rfl ?_
    refine g_icmp_ge S 44 dX6_live_6 (by decide) (fun c_2 => ?_) (fun c_2 => absurd (nI_le (Nat.le_refl _) (by omega)) c_2)
    refine g_iload_n S 1 dX6_live_44 rfl ?_
    exact g_iret S hr hlocks dX6_live_45 rfl rfl (Nat.le_of_ble_eq_true rfl) (Nat.le_of_ble_eq_true rfl)
theorem okX6_live {σ : gS} {t d : Nat} (ht : gTw t) (h : tOK σ t) : tOK (sX6_live_s σ t d) t := by
  unfold sX6_live_s
  exact itr_inv _ (fun x : gS × Int32 => tOK x.1 t) (fun j x h => okstX6_live_4 ht h) _ (σ, (0 : Int32)) h
def sX6_size_r (σ : gS) (t : Nat) : Int32 := (9 : Int32)
set_option maxRecDepth 100000 in
set_option maxHeartbeats 4000000 in
theorem kX6_size (l : Launch) (E : gT) (σ : gS) (t : Nat) (ht : gTw t) : gMi l yX6_size wsX6_size ({ frames := 0, cells := 0, slots := 0, locals := 0 }) 0 0 E σ [.ref (E.2.2 t)] (sX6_size_r σ t) σ := by
  refine g_met (mc := 0) (ms := 0) (nL := 1) (ret := (some .int)) (by decide) rfl (lv := [(0, .ref (E.2.2 t))]) rfl (Nat.le_of_ble_eq_true rfl) ?_
  intro p e s m below meth c S hr hlocks hC
  refine g_bipush S dX6_size_0 (v := 9) rfl ?_
  exact g_iret S hr hlocks dX6_size_2 rfl rfl (Nat.le_of_ble_eq_true rfl) (Nat.le_of_ble_eq_true rfl)
def sX6_tell_r (σ : gS) (t w : Nat) : Int32 := if w = 0 then σ.1 t 9 else if w = 1 then σ.1 (t + 5) 0 else if w = 2 then σ.1 (t + 5) 1 else if w = 3 then σ.1 (t + 5) 2 else if w = 4 then σ.1 (t + 5) 3 else if w = 5 then σ.1 (t + 5) 5 else if w = 6 then σ.1 (t + 5) 6 else if w = 7 then σ.1 (t + 5) 4 else σ.1 t 10
set_option maxRecDepth 100000 in
set_option maxHeartbeats 4000000 in
theorem kX6_tell (l : Launch) (E : gT) (σ : gS) (t : Nat) (ht : gTw t) (w : Nat) (hw : w < 9) : gMi l yX6_tell wsX6_tell ({ frames := 0, cells := 0, slots := 0, locals := 0 }) 0 0 E σ [.ref (E.2.2 t), .int (nI w)] (sX6_tell_r σ t w) σ := by
  refine g_met (mc := 0) (ms := 0) (nL := 2) (ret := (some .int)) (by decide) rfl (lv := [(0, .ref (E.2.2 t)), (1, .int (nI w))]) rfl (Nat.le_of_ble_eq_true rfl) ?_
  intro p e s m below meth c S hr hlocks hC
  have hiX4 : ∀ w ∈ wsX40, w ∈ wsX6_tell := by decide +kernel
  have hiX6 : ∀ w ∈ wsX60, w ∈ wsX6_tell := by decide +kernel
  rcases (show w = 0 ∨ w = 1 ∨ w = 2 ∨ w = 3 ∨ w = 4 ∨ w = 5 ∨ w = 6 ∨ w = 7 ∨ w = 8 by omega) with rfl | rfl | rfl | rfl | rfl | rfl | rfl | rfl | rfl
  · skip
    refine g_iload_n S 1 dX6_tell_0 rfl ?_
    refine g_tabIn S 48 dX6_tell_1 (by decide) (by decide) rfl (by decide) ?_
    refine g_aload_n S 0 dX6_tell_48 rfl ?_
    refine gg5 S hC hiX6 (ht.lt (j := 0) (by decide)) ht.town 9 (by decide) (by decide +kernel) dX6_tell_49 ?_
    exact g_iret S hr hlocks dX6_tell_52 rfl rfl (Nat.le_of_ble_eq_true rfl) (Nat.le_of_ble_eq_true rfl)
  · skip
    refine g_iload_n S 1 dX6_tell_0 rfl ?_
    refine g_tabIn S 53 dX6_tell_1 (by decide) (by decide) rfl (by decide) ?_
    refine g_aload_n S 0 dX6_tell_53 rfl ?_
    refine gg5r S hC hiX6 (ht.lt (j := 0) (by decide)) ht.town 4 (by decide) (by decide +kernel) dX6_tell_54 ?_
    refine gg4 S hC hiX4 (ht.lt (j := 5) (by decide)) ht.store 0 (by decide) (by decide +kernel) dX6_tell_57 ?_
    exact g_iret S hr hlocks dX6_tell_60 rfl rfl (Nat.le_of_ble_eq_true rfl) (Nat.le_of_ble_eq_true rfl)
  · skip
    refine g_iload_n S 1 dX6_tell_0 rfl ?_
    refine g_tabIn S 61 dX6_tell_1 (by decide) (by decide) rfl (by decide) ?_
    refine g_aload_n S 0 dX6_tell_61 rfl ?_
    refine gg5r S hC hiX6 (ht.lt (j := 0) (by decide)) ht.town 4 (by decide) (by decide +kernel) dX6_tell_62 ?_
    refine gg4 S hC hiX4 (ht.lt (j := 5) (by decide)) ht.store 1 (by decide) (by decide +kernel) dX6_tell_65 ?_
    exact g_iret S hr hlocks dX6_tell_68 rfl rfl (Nat.le_of_ble_eq_true rfl) (Nat.le_of_ble_eq_true rfl)
  · skip
    refine g_iload_n S 1 dX6_tell_0 rfl ?_
    refine g_tabIn S 69 dX6_tell_1 (by decide) (by decide) rfl (by decide) ?_
    refine g_aload_n S 0 dX6_tell_69 rfl ?_
    refine gg5r S hC hiX6 (ht.lt (j := 0) (by decide)) ht.town 4 (by decide) (by decide +kernel) dX6_tell_70 ?_
    refine gg4 S hC hiX4 (ht.lt (j := 5) (by decide)) ht.store 2 (by decide) (by decide +kernel) dX6_tell_73 ?_
    exact g_iret S hr hlocks dX6_tell_76 rfl rfl (Nat.le_of_ble_eq_true rfl) (Nat.le_of_ble_eq_true rfl)
  · skip
    refine g_iload_n S 1 dX6_tell_0 rfl ?_
    refine g_tabIn S 77 dX6_tell_1 (by decide) (by decide) rfl (by decide) ?_
    refine g_aload_n S 0 dX6_tell_77 rfl ?_
    refine gg5r S hC hiX6 (ht.lt (j := 0) (by decide)) ht.town 4 (by decide) (by decide +kernel) dX6_tell_78 ?_
    refine gg4 S hC hiX4 (ht.lt (j := 5) (by decide)) ht.store 3 (by decide) (by decide +kernel) dX6_tell_81 ?_
    exact g_iret S hr hlocks dX6_tell_84 rfl rfl (Nat.le_of_ble_eq_true rfl) (Nat.le_of_ble_eq_true rfl)
  · skip
    refine g_iload_n S 1 dX6_tell_0 rfl ?_
    refine g_tabIn S 85 dX6_tell_1 (by decide) (by decide) rfl (by decide) ?_
    refine g_aload_n S 0 dX6_tell_85 rfl ?_
    refine gg5r S hC hiX6 (ht.lt (j := 0) (by decide)) ht.town 4 (by decide) (by decide +kernel) dX6_tell_86 ?_
    refine gg4 S hC hiX4 (ht.lt (j := 5) (by decide)) ht.store 5 (by decide) (by decide +kernel) dX6_tell_89 ?_
    exact g_iret S hr hlocks dX6_tell_92 rfl rfl (Nat.le_of_ble_eq_true rfl) (Nat.le_of_ble_eq_true rfl)
  · skip
    refine g_iload_n S 1 dX6_tell_0 rfl ?_
    refine g_tabIn S 93 dX6_tell_1 (by decide) (by decide) rfl (by decide) ?_
    refine g_aload_n S 0 dX6_tell_93 rfl ?_
    refine gg5r S hC hiX6 (ht.lt (j := 0) (by decide)) ht.town 4 (by decide) (by decide +kernel) dX6_tell_94 ?_
    refine gg4 S hC hiX4 (ht.lt (j := 5) (by decide)) ht.store 6 (by decide) (by decide +kernel) dX6_tell_97 ?_
    exact g_iret S hr hlocks dX6_tell_100 rfl rfl (Nat.le_of_ble_eq_true rfl) (Nat.le_of_ble_eq_true rfl)
  · skip
    refine g_iload_n S 1 dX6_tell_0 rfl ?_
    refine g_tabIn S 101 dX6_tell_1 (by decide) (by decide) rfl (by decide) ?_
    refine g_aload_n S 0 dX6_tell_101 rfl ?_
    refine gg5r S hC hiX6 (ht.lt (j := 0) (by decide)) ht.town 4 (by decide) (by decide +kernel) dX6_tell_102 ?_
    refine gg4 S hC hiX4 (ht.lt (j := 5) (by decide)) ht.store 4 (by decide) (by decide +kernel) dX6_tell_105 ?_
    exact g_iret S hr hlocks dX6_tell_108 rfl rfl (Nat.le_of_ble_eq_true rfl) (Nat.le_of_ble_eq_true rfl)
  · skip
    refine g_iload_n S 1 dX6_tell_0 rfl ?_
    refine g_tabOut S 109 dX6_tell_1 (by decide) (by decide) ?_
    refine g_aload_n S 0 dX6_tell_109 rfl ?_
    refine gg5 S hC hiX6 (ht.lt (j := 0) (by decide)) ht.town 10 (by decide) (by decide +kernel) dX6_tell_110 ?_
    exact g_iret S hr hlocks dX6_tell_113 rfl rfl (Nat.le_of_ble_eq_true rfl) (Nat.le_of_ble_eq_true rfl)
