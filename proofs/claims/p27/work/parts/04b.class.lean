def sX0_lay_s (σ : gS) (k : Nat) (a : Int32) (b : Int32) : gS := let S1 := gu σ k 0 a; let S2 := gu S1 k 1 b; S2
theorem fX0_lay (σ : gS) (k : Nat) (a : Int32) (b : Int32) (x : Nat) (hxk : x ≠ k) : (sX0_lay_s σ k a b).1 x = σ.1 x := by
  unfold sX0_lay_s
  (try dsimp only)
  (repeat' split)
  all_goals (simp [gu_ne, *])
set_option maxRecDepth 100000 in
set_option maxHeartbeats 4000000 in
theorem kX0_lay (l : Launch) (E : gT) (σ : gS) (k : Nat) (hk : k < 58) (hKk : gK k = 0) (a : Int32) (b : Int32) : gMv l yX0_lay wsX0_lay ({ frames := 0, cells := 0, slots := 0, locals := 0 }) 0 0 E σ [.ref (E.2.2 k), .int a, .int b] (sX0_lay_s σ k a b) := by
  refine g_met (mc := 0) (ms := 0) (nL := 3) (ret := none) (by decide) rfl (lv := [(0, .ref (E.2.2 k)), (1, .int a), (2, .int b)]) rfl (Nat.le_of_ble_eq_true rfl) ?_
  intro p e s m below meth c S hr hlocks hC
  have hiX0 : ∀ w ∈ wsX00, w ∈ wsX0_lay := by decide +kernel
  refine g_aload_n S 0 dX0_lay_0 rfl ?_
  refine g_iload_n S 1 dX0_lay_1 rfl ?_
  refine gp0 S hC hiX0 hk hKk 0 (by decide) (by decide +kernel) dX0_lay_2 ?_
  refine g_nm (fun S1 hS1 => ?_)
  refine g_aload_n S 0 dX0_lay_5 rfl ?_
  refine g_iload_n S 2 dX0_lay_6 rfl ?_
  refine gp0 S hC hiX0 hk hKk 1 (by decide) (by decide +kernel) dX0_lay_7 ?_
  refine g_nm (fun S2 hS2 => ?_)
  exact g_vret S hr hlocks dX0_lay_10 (by subst hS2 hS1; rfl) (Nat.le_of_ble_eq_true rfl) (Nat.le_of_ble_eq_true rfl)
def sX0_grow_s (σ : gS) (k : Nat) : gS := let S1 := gu σ k 2 (gmin ((σ.1 k 2) + (σ.1 k 0)) (σ.1 k 1)); S1
theorem fX0_grow (σ : gS) (k : Nat) (x : Nat) (hxk : x ≠ k) : (sX0_grow_s σ k).1 x = σ.1 x := by
  unfold sX0_grow_s
  (try dsimp only)
  (repeat' split)
  all_goals (simp [gu_ne, *])
set_option maxRecDepth 100000 in
set_option maxHeartbeats 4000000 in
theorem kX0_grow (l : Launch) (E : gT) (σ : gS) (k : Nat) (hk : k < 58) (hKk : gK k = 0) : gMv l yX0_grow wsX0_grow ({ frames := 1, cells := 0, slots := 0, locals := 24 }) 0 0 E σ [.ref (E.2.2 k)] (sX0_grow_s σ k) := by
  refine g_met (mc := 0) (ms := 0) (nL := 1) (ret := none) (by decide) rfl (lv := [(0, .ref (E.2.2 k))]) rfl (Nat.le_of_ble_eq_true rfl) ?_
  intro p e s m below meth c S hr hlocks hC
  have hiX0 : ∀ w ∈ wsX00, w ∈ wsX0_grow := by decide +kernel
  refine g_aload_n S 0 dX0_grow_0 rfl ?_
  refine g_aload_n S 0 dX0_grow_1 rfl ?_
  refine gg0 S hC hiX0 hk hKk 2 (by decide) (by decide +kernel) dX0_grow_2 ?_
  refine g_aload_n S 0 dX0_grow_5 rfl ?_
  refine gg0 S hC hiX0 hk hKk 0 (by decide) (by decide +kernel) dX0_grow_6 ?_
  refine g_iadd S dX0_grow_9 ?_
  refine g_aload_n S 0 dX0_grow_10 rfl ?_
  refine gg0 S hC hiX0 hk hKk 1 (by decide) (by decide +kernel) dX0_grow_11 ?_
  refine g_mn S (by decide +kernel) (by decide +kernel) (by decide +kernel) (by decide +kernel) (Nat.le_of_ble_eq_true rfl) (Nat.le_of_ble_eq_true rfl) (Nat.le_of_ble_eq_true rfl) (Nat.le_of_ble_eq_true rfl) dX0_grow_14 ?_
  refine gp0 S hC hiX0 hk hKk 2 (by decide) (by decide +kernel) dX0_grow_17 ?_
  refine g_nm (fun S1 hS1 => ?_)
  exact g_vret S hr hlocks dX0_grow_20 (by subst hS1; rfl) (Nat.le_of_ble_eq_true rfl) (Nat.le_of_ble_eq_true rfl)
def sX0_size_r (σ : gS) (k : Nat) : Int32 := (3 : Int32)
set_option maxRecDepth 100000 in
set_option maxHeartbeats 4000000 in
theorem kX0_size (l : Launch) (E : gT) (σ : gS) (k : Nat) (hk : k < 58) (hKk : gK k = 0) : gMi l yX0_size wsX0_size ({ frames := 0, cells := 0, slots := 0, locals := 0 }) 0 0 E σ [.ref (E.2.2 k)] (sX0_size_r σ k) σ := by
  refine g_met (mc := 0) (ms := 0) (nL := 1) (ret := (some .int)) (by decide) rfl (lv := [(0, .ref (E.2.2 k))]) rfl (Nat.le_of_ble_eq_true rfl) ?_
  intro p e s m below meth c S hr hlocks hC
  refine g_const S dX0_size_0 (v := 3) rfl ?_
  exact g_iret S hr hlocks dX0_size_1 rfl rfl (Nat.le_of_ble_eq_true rfl) (Nat.le_of_ble_eq_true rfl)
def sX0_tell_r (σ : gS) (k w : Nat) : Int32 := σ.1 k w
set_option maxRecDepth 100000 in
set_option maxHeartbeats 4000000 in
theorem kX0_tell (l : Launch) (E : gT) (σ : gS) (k : Nat) (hk : k < 58) (hKk : gK k = 0) (w : Nat) (hw : w < 3) : gMi l yX0_tell wsX0_tell ({ frames := 0, cells := 0, slots := 0, locals := 0 }) 0 0 E σ [.ref (E.2.2 k), .int (nI w)] (sX0_tell_r σ k w) σ := by
  refine g_met (mc := 0) (ms := 0) (nL := 2) (ret := (some .int)) (by decide) rfl (lv := [(0, .ref (E.2.2 k)), (1, .int (nI w))]) rfl (Nat.le_of_ble_eq_true rfl) ?_
  intro p e s m below meth c S hr hlocks hC
  have hiX0 : ∀ w ∈ wsX00, w ∈ wsX0_tell := by decide +kernel
  rcases (show w = 0 ∨ w = 1 ∨ w = 2 by omega) with rfl | rfl | rfl
  · skip
    refine g_iload_n S 1 dX0_tell_0 rfl ?_
    refine g_lk S 28 dX0_tell_1 rfl rfl (by decide) ?_
    refine g_aload_n S 0 dX0_tell_28 rfl ?_
    refine gg0 S hC hiX0 hk hKk 0 (by decide) (by decide +kernel) dX0_tell_29 ?_
    exact g_iret S hr hlocks dX0_tell_32 rfl rfl (Nat.le_of_ble_eq_true rfl) (Nat.le_of_ble_eq_true rfl)
  · skip
    refine g_iload_n S 1 dX0_tell_0 rfl ?_
    refine g_lk S 33 dX0_tell_1 rfl rfl (by decide) ?_
    refine g_aload_n S 0 dX0_tell_33 rfl ?_
    refine gg0 S hC hiX0 hk hKk 1 (by decide) (by decide +kernel) dX0_tell_34 ?_
    exact g_iret S hr hlocks dX0_tell_37 rfl rfl (Nat.le_of_ble_eq_true rfl) (Nat.le_of_ble_eq_true rfl)
  · skip
    refine g_iload_n S 1 dX0_tell_0 rfl ?_
    refine g_lk S 38 dX0_tell_1 rfl rfl (by decide) ?_
    refine g_aload_n S 0 dX0_tell_38 rfl ?_
    refine gg0 S hC hiX0 hk hKk 2 (by decide) (by decide +kernel) dX0_tell_39 ?_
    exact g_iret S hr hlocks dX0_tell_42 rfl rfl (Nat.le_of_ble_eq_true rfl) (Nat.le_of_ble_eq_true rfl)
def sX4_stock_r (σ : gS) (k : Nat) (a : Int32) : Int32 := if a = 0 then (σ.1 k 0) else (σ.1 k 1)
set_option maxRecDepth 100000 in
set_option maxHeartbeats 4000000 in
theorem kX4_stock (l : Launch) (E : gT) (σ : gS) (k : Nat) (hk : k < 58) (hKk : gK k = 4) (a : Int32) : gMi l yX4_stock wsX4_stock ({ frames := 0, cells := 0, slots := 0, locals := 0 }) 0 0 E σ [.ref (E.2.2 k), .int a] (sX4_stock_r σ k a) σ := by
  refine g_met (mc := 0) (ms := 0) (nL := 2) (ret := (some .int)) (by decide) rfl (lv := [(0, .ref (E.2.2 k)), (1, .int a)]) rfl (Nat.le_of_ble_eq_true rfl) ?_
  intro p e s m below meth c S hr hlocks hC
  have hiX4 : ∀ w ∈ wsX40, w ∈ wsX4_stock := by decide +kernel
  refine g_iload_n S 1 dX4_stock_0 rfl ?_
  refine g_if_ne S 11 dX4_stock_1 (by decide) (fun c_1 => ?_) (fun c_1 => ?_)
  · skip
    refine g_aload_n S 0 dX4_stock_11 rfl ?_
    refine gg4 S hC hiX4 hk hKk 1 (by decide) (by decide +kernel) dX4_stock_12 ?_
    exact g_iret S hr hlocks dX4_stock_15 (by rw [sX4_stock_r, if_neg c_1]) rfl (Nat.le_of_ble_eq_true rfl) (Nat.le_of_ble_eq_true rfl)
  · skip
    refine g_aload_n S 0 dX4_stock_4 rfl ?_
    refine gg4 S hC hiX4 hk hKk 0 (by decide) (by decide +kernel) dX4_stock_5 ?_
    refine g_goto S 15 dX4_stock_8 (by decide) ?_
    exact g_iret S hr hlocks dX4_stock_15 (by rw [sX4_stock_r, if_pos c_1]) rfl (Nat.le_of_ble_eq_true rfl) (Nat.le_of_ble_eq_true rfl)
def sX4_add_s (σ : gS) (k : Nat) (a : Int32) (b : Int32) : gS := if a = 0 then (let S2 := gu σ k 0 ((σ.1 k 0) + b); S2) else (let S1 := gu σ k 1 ((σ.1 k 1) + b); S1)
theorem fX4_add (σ : gS) (k : Nat) (a : Int32) (b : Int32) (x : Nat) (hxk : x ≠ k) : (sX4_add_s σ k a b).1 x = σ.1 x := by
  unfold sX4_add_s
  (try dsimp only)
  (repeat' split)
  all_goals (simp [gu_ne, *])
set_option maxRecDepth 100000 in
set_option maxHeartbeats 4000000 in
theorem kX4_add (l : Launch) (E : gT) (σ : gS) (k : Nat) (hk : k < 58) (hKk : gK k = 4) (a : Int32) (b : Int32) : gMv l yX4_add wsX4_add ({ frames := 0, cells := 0, slots := 0, locals := 0 }) 0 0 E σ [.ref (E.2.2 k), .int a, .int b] (sX4_add_s σ k a b) := by
  refine g_met (mc := 0) (ms := 0) (nL := 3) (ret := none) (by decide) rfl (lv := [(0, .ref (E.2.2 k)), (1, .int a), (2, .int b)]) rfl (Nat.le_of_ble_eq_true rfl) ?_
  intro p e s m below meth c S hr hlocks hC
  have hiX4 : ∀ w ∈ wsX40, w ∈ wsX4_add := by decide +kernel
  refine g_iload_n S 1 dX4_add_0 rfl ?_
  refine g_if_ne S 17 dX4_add_1 (by decide) (fun c_1 => ?_) (fun c_1 => ?_)
  · skip
    refine g_aload_n S 0 dX4_add_17 rfl ?_
    refine g_dup S dX4_add_18 rfl ?_
    refine gg4 S hC hiX4 hk hKk 1 (by decide) (by decide +kernel) dX4_add_19 ?_
    refine g_iload_n S 2 dX4_add_22 rfl ?_
    refine g_iadd S dX4_add_23 ?_
    refine gp4 S hC hiX4 hk hKk 1 (by decide) (by decide +kernel) dX4_add_24 ?_
    refine g_nm (fun S1 hS1 => ?_)
    exact g_vret S hr hlocks dX4_add_27 (by subst hS1; unfold sX4_add_s; (try dsimp only); rw [if_neg c_1]) (Nat.le_of_ble_eq_true rfl) (Nat.le_of_ble_eq_true rfl)
  · skip
    refine g_aload_n S 0 dX4_add_4 rfl ?_
    refine g_dup S dX4_add_5 rfl ?_
    refine gg4 S hC hiX4 hk hKk 0 (by decide) (by decide +kernel) dX4_add_6 ?_
    refine g_iload_n S 2 dX4_add_9 rfl ?_
    refine g_iadd S dX4_add_10 ?_
    refine gp4 S hC hiX4 hk hKk 0 (by decide) (by decide +kernel) dX4_add_11 ?_
    refine g_nm (fun S2 hS2 => ?_)
    refine g_goto S 27 dX4_add_14 (by decide) ?_
    exact g_vret S hr hlocks dX4_add_27 (by subst hS2; unfold sX4_add_s; (try dsimp only); rw [if_pos c_1]) (Nat.le_of_ble_eq_true rfl) (Nat.le_of_ble_eq_true rfl)
def sX4_addRoasted_s (σ : gS) (k : Nat) (a : Int32) (b : Int32) : gS := if a = 0 then (let S2 := gu σ k 2 ((σ.1 k 2) + b); S2) else (let S1 := gu σ k 3 ((σ.1 k 3) + b); S1)
theorem fX4_addRoasted (σ : gS) (k : Nat) (a : Int32) (b : Int32) (x : Nat) (hxk : x ≠ k) : (sX4_addRoasted_s σ k a b).1 x = σ.1 x := by
  unfold sX4_addRoasted_s
  (try dsimp only)
  (repeat' split)
  all_goals (simp [gu_ne, *])
set_option maxRecDepth 100000 in
set_option maxHeartbeats 4000000 in
theorem kX4_addRoasted (l : Launch) (E : gT) (σ : gS) (k : Nat) (hk : k < 58) (hKk : gK k = 4) (a : Int32) (b : Int32) : gMv l yX4_addRoasted wsX4_addRoasted ({ frames := 0, cells := 0, slots := 0, locals := 0 }) 0 0 E σ [.ref (E.2.2 k), .int a, .int b] (sX4_addRoasted_s σ k a b) := by
  refine g_met (mc := 0) (ms := 0) (nL := 3) (ret := none) (by decide) rfl (lv := [(0, .ref (E.2.2 k)), (1, .int a), (2, .int b)]) rfl (Nat.le_of_ble_eq_true rfl) ?_
  intro p e s m below meth c S hr hlocks hC
  have hiX4 : ∀ w ∈ wsX40, w ∈ wsX4_addRoasted := by decide +kernel
  refine g_iload_n S 1 dX4_addRoasted_0 rfl ?_
  refine g_if_ne S 17 dX4_addRoasted_1 (by decide) (fun c_1 => ?_) (fun c_1 => ?_)
  · skip
    refine g_aload_n S 0 dX4_addRoasted_17 rfl ?_
    refine g_dup S dX4_addRoasted_18 rfl ?_
    refine gg4 S hC hiX4 hk hKk 3 (by decide) (by decide +kernel) dX4_addRoasted_19 ?_
    refine g_iload_n S 2 dX4_addRoasted_22 rfl ?_
    refine g_iadd S dX4_addRoasted_23 ?_
    refine gp4 S hC hiX4 hk hKk 3 (by decide) (by decide +kernel) dX4_addRoasted_24 ?_
    refine g_nm (fun S1 hS1 => ?_)
    exact g_vret S hr hlocks dX4_addRoasted_27 (by subst hS1; unfold sX4_addRoasted_s; (try dsimp only); rw [if_neg c_1]) (Nat.le_of_ble_eq_true rfl) (Nat.le_of_ble_eq_true rfl)
  · skip
    refine g_aload_n S 0 dX4_addRoasted_4 rfl ?_
    refine g_dup S dX4_addRoasted_5 rfl ?_
    refine gg4 S hC hiX4 hk hKk 2 (by decide) (by decide +kernel) dX4_addRoasted_6 ?_
    refine g_iload_n S 2 dX4_addRoasted_9 rfl ?_
    refine g_iadd S dX4_addRoasted_10 ?_
    refine gp4 S hC hiX4 hk hKk 2 (by decide) (by decide +kernel) dX4_addRoasted_11 ?_
    refine g_nm (fun S2 hS2 => ?_)
    refine g_goto S 27 dX4_addRoasted_14 (by decide) ?_
    exact g_vret S hr hlocks dX4_addRoasted_27 (by subst hS2; unfold sX4_addRoasted_s; (try dsimp only); rw [if_pos c_1]) (Nat.le_of_ble_eq_true rfl) (Nat.le_of_ble_eq_true rfl)
def sX4_coffeeOfPortion_r (σ : gS) (k : Nat) : Int32 := gmin (σ.1 k 4) (σ.1 k 3)
set_option maxRecDepth 100000 in
set_option maxHeartbeats 4000000 in
theorem kX4_coffeeOfPortion (l : Launch) (E : gT) (σ : gS) (k : Nat) (hk : k < 58) (hKk : gK k = 4) : gMi l yX4_coffeeOfPortion wsX4_coffeeOfPortion ({ frames := 1, cells := 0, slots := 0, locals := 24 }) 0 0 E σ [.ref (E.2.2 k)] (sX4_coffeeOfPortion_r σ k) σ := by
  refine g_met (mc := 0) (ms := 0) (nL := 1) (ret := (some .int)) (by decide) rfl (lv := [(0, .ref (E.2.2 k))]) rfl (Nat.le_of_ble_eq_true rfl) ?_
  intro p e s m below meth c S hr hlocks hC
  have hiX4 : ∀ w ∈ wsX40, w ∈ wsX4_coffeeOfPortion := by decide +kernel
  refine g_aload_n S 0 dX4_coffeeOfPortion_0 rfl ?_
  refine gg4 S hC hiX4 hk hKk 4 (by decide) (by decide +kernel) dX4_coffeeOfPortion_1 ?_
  refine g_aload_n S 0 dX4_coffeeOfPortion_4 rfl ?_
  refine gg4 S hC hiX4 hk hKk 3 (by decide) (by decide +kernel) dX4_coffeeOfPortion_5 ?_
  refine g_mn S (by decide +kernel) (by decide +kernel) (by decide +kernel) (by decide +kernel) (Nat.le_of_ble_eq_true rfl) (Nat.le_of_ble_eq_true rfl) (Nat.le_of_ble_eq_true rfl) (Nat.le_of_ble_eq_true rfl) dX4_coffeeOfPortion_8 ?_
  exact g_iret S hr hlocks dX4_coffeeOfPortion_11 rfl rfl (Nat.le_of_ble_eq_true rfl) (Nat.le_of_ble_eq_true rfl)
def sX4_canMix_r (σ : gS) (k : Nat) (a : Int32) : Int32 := if σ.1 k 2 < (10 : Int32) - a then ((0 : Int32)) else ((1 : Int32))
theorem bX4_canMix (σ : gS) (k : Nat) (a : Int32) : sX4_canMix_r σ k a = 0 ∨ sX4_canMix_r σ k a = 1 := by
  unfold sX4_canMix_r
  repeat' split
  all_goals first | exact Or.inl rfl | exact Or.inr rfl
set_option maxRecDepth 100000 in
set_option maxHeartbeats 4000000 in
theorem kX4_canMix (l : Launch) (E : gT) (σ : gS) (k : Nat) (hk : k < 58) (hKk : gK k = 4) (a : Int32) : gMi l yX4_canMix wsX4_canMix ({ frames := 0, cells := 0, slots := 0, locals := 0 }) 0 0 E σ [.ref (E.2.2 k), .int a] (sX4_canMix_r σ k a) σ := by
  refine g_met (mc := 0) (ms := 0) (nL := 2) (ret := (some .boolean)) (by decide) rfl (lv := [(0, .ref (E.2.2 k)), (1, .int a)]) rfl (Nat.le_of_ble_eq_true rfl) ?_
  intro p e s m below meth c S hr hlocks hC
  have hiX4 : ∀ w ∈ wsX40, w ∈ wsX4_canMix := by decide +kernel
  refine g_aload_n S 0 dX4_canMix_0 rfl ?_
  refine gg4 S hC hiX4 hk hKk 2 (by decide) (by decide +kernel) dX4_canMix_1 ?_
  refine g_bipush S dX4_canMix_4 (v := 10) rfl ?_
  refine g_iload_n S 1 dX4_canMix_6 rfl ?_
  refine g_isub S dX4_canMix_7 ?_
  refine g_icmp_lt S 15 dX4_canMix_8 (by decide) (fun c_1 => ?_) (fun c_1 => ?_)
  · skip
    refine g_const S dX4_canMix_15 (v := 0) rfl ?_
    exact g_zret S hr hlocks dX4_canMix_16 rfl (by rw [sX4_canMix_r, if_pos c_1]) rfl (Nat.le_of_ble_eq_true rfl) (Nat.le_of_ble_eq_true rfl)
  · skip
    refine g_const S dX4_canMix_11 (v := 1) rfl ?_
    refine g_goto S 16 dX4_canMix_12 (by decide) ?_
    exact g_zret S hr hlocks dX4_canMix_16 rfl (by rw [sX4_canMix_r, if_neg c_1]) rfl (Nat.le_of_ble_eq_true rfl) (Nat.le_of_ble_eq_true rfl)
def sX4_servePortion_s (σ : gS) (k : Nat) (a : Int32) : gS := if σ.1 k 4 ≤ a then (let S1 := gu σ k 3 ((σ.1 k 3) - a); let S2 := gu S1 k 2 ((S1.1 k 2) - ((10 : Int32) - a)); let S3 := gu S2 k 5 ((S2.1 k 5) + (1 : Int32)); S3) else (let S4 := gu σ k 6 ((σ.1 k 6) + (1 : Int32)); let S5 := gu S4 k 3 ((S4.1 k 3) - a); let S6 := gu S5 k 2 ((S5.1 k 2) - ((10 : Int32) - a)); let S7 := gu S6 k 5 ((S6.1 k 5) + (1 : Int32)); S7)
theorem fX4_servePortion (σ : gS) (k : Nat) (a : Int32) (x : Nat) (hxk : x ≠ k) : (sX4_servePortion_s σ k a).1 x = σ.1 x := by
  unfold sX4_servePortion_s
  (try dsimp only)
  (repeat' split)
  all_goals (simp [gu_ne, *])
set_option maxRecDepth 100000 in
set_option maxHeartbeats 4000000 in
theorem kX4_servePortion (l : Launch) (E : gT) (σ : gS) (k : Nat) (hk : k < 58) (hKk : gK k = 4) (a : Int32) : gMv l yX4_servePortion wsX4_servePortion ({ frames := 0, cells := 0, slots := 0, locals := 0 }) 0 0 E σ [.ref (E.2.2 k), .int a] (sX4_servePortion_s σ k a) := by
  refine g_met (mc := 0) (ms := 0) (nL := 2) (ret := none) (by decide) rfl (lv := [(0, .ref (E.2.2 k)), (1, .int a)]) rfl (Nat.le_of_ble_eq_true rfl) ?_
  intro p e s m below meth c S hr hlocks hC
  have hiX4 : ∀ w ∈ wsX40, w ∈ wsX4_servePortion := by decide +kernel
  refine g_iload_n S 1 dX4_servePortion_0 rfl ?_
  refine g_aload_n S 0 dX4_servePortion_1 rfl ?_
  refine gg4 S hC hiX4 hk hKk 4 (by decide) (by decide +kernel) dX4_servePortion_2 ?_
  refine g_icmp_ge S 18 dX4_servePortion_5 (by decide) (fun c_1 => ?_) (fun c_1 => ?_)
  · skip
    refine g_aload_n S 0 dX4_servePortion_18 rfl ?_
    refine g_dup S dX4_servePortion_19 rfl ?_
    refine gg4 S hC hiX4 hk hKk 3 (by decide) (by decide +kernel) dX4_servePortion_20 ?_
    refine g_iload_n S 1 dX4_servePortion_23 rfl ?_
    refine g_isub S dX4_servePortion_24 ?_
    refine gp4 S hC hiX4 hk hKk 3 (by decide) (by decide +kernel) dX4_servePortion_25 ?_
    refine g_nm (fun S1 hS1 => ?_)
    refine g_aload_n S 0 dX4_servePortion_28 rfl ?_
    refine g_dup S dX4_servePortion_29 rfl ?_
    refine gg4 S hC hiX4 hk hKk 2 (by decide) (by decide +kernel) dX4_servePortion_30 ?_
    refine g_bipush S dX4_servePortion_33 (v := 10) rfl ?_
    refine g_iload_n S 1 dX4_servePortion_35 rfl ?_
    refine g_isub S dX4_servePortion_36 ?_
    refine g_isub S dX4_servePortion_37 ?_
    refine gp4 S hC hiX4 hk hKk 2 (by decide) (by decide +kernel) dX4_servePortion_38 ?_
    refine g_nm (fun S2 hS2 => ?_)
    refine g_aload_n S 0 dX4_servePortion_41 rfl ?_
    refine g_dup S dX4_servePortion_42 rfl ?_
    refine gg4 S hC hiX4 hk hKk 5 (by decide) (by decide +kernel) dX4_servePortion_43 ?_
    refine g_const S dX4_servePortion_46 (v := 1) rfl ?_
    refine g_iadd S dX4_servePortion_47 ?_
    refine gp4 S hC hiX4 hk hKk 5 (by decide) (by decide +kernel) dX4_servePortion_48 ?_
    refine g_nm (fun S3 hS3 => ?_)
    exact g_vret S hr hlocks dX4_servePortion_51 (by subst hS3 hS2 hS1; unfold sX4_servePortion_s; (try dsimp only); rw [if_pos c_1]) (Nat.le_of_ble_eq_true rfl) (Nat.le_of_ble_eq_true rfl)
  · skip
    refine g_aload_n S 0 dX4_servePortion_8 rfl ?_
    refine g_dup S dX4_servePortion_9 rfl ?_
    refine gg4 S hC hiX4 hk hKk 6 (by decide) (by decide +kernel) dX4_servePortion_10 ?_
    refine g_const S dX4_servePortion_13 (v := 1) rfl ?_
    refine g_iadd S dX4_servePortion_14 ?_
    refine gp4 S hC hiX4 hk hKk 6 (by decide) (by decide +kernel) dX4_servePortion_15 ?_
    refine g_nm (fun S4 hS4 => ?_)
    refine g_aload_n S 0 dX4_servePortion_18 rfl ?_
    refine g_dup S dX4_servePortion_19 rfl ?_
    refine gg4 S hC hiX4 hk hKk 3 (by decide) (by decide +kernel) dX4_servePortion_20 ?_
    refine g_iload_n S 1 dX4_servePortion_23 rfl ?_
    refine g_isub S dX4_servePortion_24 ?_
    refine gp4 S hC hiX4 hk hKk 3 (by decide) (by decide +kernel) dX4_servePortion_25 ?_
    refine g_nm (fun S5 hS5 => ?_)
    refine g_aload_n S 0 dX4_servePortion_28 rfl ?_
    refine g_dup S dX4_servePortion_29 rfl ?_
    refine gg4 S hC hiX4 hk hKk 2 (by decide) (by decide +kernel) dX4_servePortion_30 ?_
    refine g_bipush S dX4_servePortion_33 (v := 10) rfl ?_
    refine g_iload_n S 1 dX4_servePortion_35 rfl ?_
    refine g_isub S dX4_servePortion_36 ?_
    refine g_isub S dX4_servePortion_37 ?_
    refine gp4 S hC hiX4 hk hKk 2 (by decide) (by decide +kernel) dX4_servePortion_38 ?_
    refine g_nm (fun S6 hS6 => ?_)
    refine g_aload_n S 0 dX4_servePortion_41 rfl ?_
    refine g_dup S dX4_servePortion_42 rfl ?_
    refine gg4 S hC hiX4 hk hKk 5 (by decide) (by decide +kernel) dX4_servePortion_43 ?_
    refine g_const S dX4_servePortion_46 (v := 1) rfl ?_
    refine g_iadd S dX4_servePortion_47 ?_
    refine gp4 S hC hiX4 hk hKk 5 (by decide) (by decide +kernel) dX4_servePortion_48 ?_
    refine g_nm (fun S7 hS7 => ?_)
    exact g_vret S hr hlocks dX4_servePortion_51 (by subst hS7 hS6 hS5 hS4; unfold sX4_servePortion_s; (try dsimp only); rw [if_neg c_1]) (Nat.le_of_ble_eq_true rfl) (Nat.le_of_ble_eq_true rfl)
def sX1_issue_s (σ : gS) (k : Nat) (a : Int32) (b : Int32) : gS := let S1 := gu σ k 0 a; let S2 := gu S1 k 1 b; let S3 := gu S2 k 2 a; S3
theorem fX1_issue (σ : gS) (k : Nat) (a : Int32) (b : Int32) (x : Nat) (hxk : x ≠ k) : (sX1_issue_s σ k a b).1 x = σ.1 x := by
  unfold sX1_issue_s
  (try dsimp only)
  (repeat' split)
  all_goals (simp [gu_ne, *])
set_option maxRecDepth 100000 in
set_option maxHeartbeats 4000000 in
theorem kX1_issue (l : Launch) (E : gT) (σ : gS) (k : Nat) (hk : k < 58) (hKk : gK k = 1) (a : Int32) (b : Int32) : gMv l yX1_issue wsX1_issue ({ frames := 0, cells := 0, slots := 0, locals := 0 }) 0 0 E σ [.ref (E.2.2 k), .int a, .int b] (sX1_issue_s σ k a b) := by
  refine g_met (mc := 0) (ms := 0) (nL := 3) (ret := none) (by decide) rfl (lv := [(0, .ref (E.2.2 k)), (1, .int a), (2, .int b)]) rfl (Nat.le_of_ble_eq_true rfl) ?_
  intro p e s m below meth c S hr hlocks hC
  have hiX1 : ∀ w ∈ wsX10, w ∈ wsX1_issue := by decide +kernel
  refine g_aload_n S 0 dX1_issue_0 rfl ?_
  refine g_iload_n S 1 dX1_issue_1 rfl ?_
  refine gp1 S hC hiX1 hk hKk 0 (by decide) (by decide +kernel) dX1_issue_2 ?_
  refine g_nm (fun S1 hS1 => ?_)
  refine g_aload_n S 0 dX1_issue_5 rfl ?_
  refine g_iload_n S 2 dX1_issue_6 rfl ?_
  refine gp1 S hC hiX1 hk hKk 1 (by decide) (by decide +kernel) dX1_issue_7 ?_
  refine g_nm (fun S2 hS2 => ?_)
  refine g_aload_n S 0 dX1_issue_10 rfl ?_
  refine g_iload_n S 1 dX1_issue_11 rfl ?_
  refine gp1 S hC hiX1 hk hKk 2 (by decide) (by decide +kernel) dX1_issue_12 ?_
  refine g_nm (fun S3 hS3 => ?_)
  exact g_vret S hr hlocks dX1_issue_15 (by subst hS3 hS2 hS1; rfl) (Nat.le_of_ble_eq_true rfl) (Nat.le_of_ble_eq_true rfl)
def sX1_renew_s (σ : gS) (k : Nat) : gS := let S1 := gu σ k 2 (σ.1 k 0); S1
theorem fX1_renew (σ : gS) (k : Nat) (x : Nat) (hxk : x ≠ k) : (sX1_renew_s σ k).1 x = σ.1 x := by
  unfold sX1_renew_s
  (try dsimp only)
  (repeat' split)
  all_goals (simp [gu_ne, *])
set_option maxRecDepth 100000 in
set_option maxHeartbeats 4000000 in
theorem kX1_renew (l : Launch) (E : gT) (σ : gS) (k : Nat) (hk : k < 58) (hKk : gK k = 1) : gMv l yX1_renew wsX1_renew ({ frames := 0, cells := 0, slots := 0, locals := 0 }) 0 0 E σ [.ref (E.2.2 k)] (sX1_renew_s σ k) := by
  refine g_met (mc := 0) (ms := 0) (nL := 1) (ret := none) (by decide) rfl (lv := [(0, .ref (E.2.2 k))]) rfl (Nat.le_of_ble_eq_true rfl) ?_
  intro p e s m below meth c S hr hlocks hC
  have hiX1 : ∀ w ∈ wsX10, w ∈ wsX1_renew := by decide +kernel
  refine g_aload_n S 0 dX1_renew_0 rfl ?_
  refine g_aload_n S 0 dX1_renew_1 rfl ?_
  refine gg1 S hC hiX1 hk hKk 0 (by decide) (by decide +kernel) dX1_renew_2 ?_
  refine gp1 S hC hiX1 hk hKk 2 (by decide) (by decide +kernel) dX1_renew_5 ?_
  refine g_nm (fun S1 hS1 => ?_)
  exact g_vret S hr hlocks dX1_renew_8 (by subst hS1; rfl) (Nat.le_of_ble_eq_true rfl) (Nat.le_of_ble_eq_true rfl)
def sX1_serveOne_r (σ : gS) (k : Nat) (q : Nat) : Int32 := if σ.1 k 2 = 0 then ((0 : Int32)) else (if sX4_canMix_r σ q (sX4_coffeeOfPortion_r σ q) = 0 then ((0 : Int32)) else (if σ.1 k 1 ≤ sX4_coffeeOfPortion_r σ q then ((1 : Int32)) else ((0 : Int32))))
def sX1_serveOne_s (σ : gS) (k : Nat) (q : Nat) : gS := if σ.1 k 2 = 0 then (σ) else (if sX4_canMix_r σ q (sX4_coffeeOfPortion_r σ q) = 0 then (σ) else (if σ.1 k 1 ≤ sX4_coffeeOfPortion_r σ q then (let S1 := sX4_servePortion_s σ q (sX4_coffeeOfPortion_r σ q); let S2 := gu S1 k 2 ((S1.1 k 2) - (1 : Int32)); let S3 := gu S2 k 3 ((S2.1 k 3) + (1 : Int32)); S3) else (let S4 := gu σ k 4 ((σ.1 k 4) + (1 : Int32)); S4)))
theorem bX1_serveOne (σ : gS) (k : Nat) (q : Nat) : sX1_serveOne_r σ k q = 0 ∨ sX1_serveOne_r σ k q = 1 := by
  unfold sX1_serveOne_r
  repeat' split
  all_goals first | exact Or.inl rfl | exact Or.inr rfl
theorem fX1_serveOne (σ : gS) (k : Nat) (q : Nat) (x : Nat) (hxk : x ≠ k) (hxq : x ≠ q) : (sX1_serveOne_s σ k q).1 x = σ.1 x := by
  unfold sX1_serveOne_s
  (try dsimp only)
  (repeat' split)
  all_goals (simp [gu_ne, fX4_servePortion, *])
set_option maxRecDepth 100000 in
set_option maxHeartbeats 4000000 in
theorem kX1_serveOne (l : Launch) (E : gT) (σ : gS) (k : Nat) (hk : k < 58) (hKk : gK k = 1) (q : Nat) (hq : q < 58) (hKq : gK q = 4) : gMi l yX1_serveOne wsX1_serveOne ({ frames := 2, cells := 0, slots := 0, locals := 44 }) 0 0 E σ [.ref (E.2.2 k), .ref (E.2.2 q)] (sX1_serveOne_r σ k q) (sX1_serveOne_s σ k q) := by
  refine g_met (mc := 0) (ms := 0) (nL := 3) (ret := (some .boolean)) (by decide) rfl (lv := [(0, .ref (E.2.2 k)), (1, .ref (E.2.2 q))]) rfl (Nat.le_of_ble_eq_true rfl) ?_
  intro p e s m below meth c S hr hlocks hC
  have hiX1 : ∀ w ∈ wsX10, w ∈ wsX1_serveOne := by decide +kernel
  refine g_aload_n S 1 dX1_serveOne_0 rfl ?_
  refine g_calli (g_runV S hC (As := []) (rest := []) (k := q) hq hKq (by decide) rfl (kX4_coffeeOfPortion l E σ q hq hKq) (cwV 0 S.2.2.2.2 gX1_serveOne_X4_coffeeOfPortion rfl rfl rfl (by decide +kernel) ⟨Nat.le_of_ble_eq_true rfl, Nat.le_of_ble_eq_true rfl⟩) rfl rfl (Nat.le_of_ble_eq_true rfl) dX1_serveOne_1 ⟨Nat.le_of_ble_eq_true rfl, Nat.le_of_ble_eq_true rfl⟩) ?_
  refine g_istore_n S [(2, .int (sX4_coffeeOfPortion_r σ q)), (0, .ref (E.2.2 k)), (1, .ref (E.2.2 q))] dX1_serveOne_4 (by decide) rfl ?_
  refine g_aload_n S 1 dX1_serveOne_5 rfl ?_
  refine gg1 S hC hiX1 hk hKk 2 (by decide) (by decide +kernel) dX1_serveOne_6 ?_
  refine g_if_eq S 20 dX1_serveOne_9 (by decide) (fun c_1 => ?_) (fun c_1 => ?_)
  · skip
    refine g_const S dX1_serveOne_20 (v := 0) rfl ?_
    exact g_zret S hr hlocks dX1_serveOne_21 rfl (by rw [sX1_serveOne_r, if_pos c_1]) (by rw [sX1_serveOne_s, if_pos c_1]) (Nat.le_of_ble_eq_true rfl) (Nat.le_of_ble_eq_true rfl)
  · skip
    refine g_aload_n S 2 dX1_serveOne_12 rfl ?_
    refine g_iload_n S 0 dX1_serveOne_13 rfl ?_
    refine g_calli (g_runV S hC (As := [.int (sX4_coffeeOfPortion_r σ q)]) (rest := []) (k := q) hq hKq (by decide) rfl (kX4_canMix l E σ q hq hKq (sX4_coffeeOfPortion_r σ q)) (cwV 1 S.2.2.2.2 gX1_serveOne_X4_canMix rfl rfl rfl (by decide +kernel) ⟨Nat.le_of_ble_eq_true rfl, Nat.le_of_ble_eq_true rfl⟩) rfl rfl (Nat.le_of_ble_eq_true rfl) dX1_serveOne_14 ⟨Nat.le_of_ble_eq_true rfl, Nat.le_of_ble_eq_true rfl⟩) ?_
    refine g_if_ne S 22 dX1_serveOne_17 (by decide) (fun c_2 => ?_) (fun c_2 => ?_)
    · skip
      refine g_iload_n S 0 dX1_serveOne_22 rfl ?_
      refine g_aload_n S 1 dX1_serveOne_23 rfl ?_
      refine gg1 S hC hiX1 hk hKk 1 (by decide) (by decide +kernel) dX1_serveOne_24 ?_
      refine g_icmp_ge S 42 dX1_serveOne_27 (by decide) (fun c_3 => ?_) (fun c_3 => ?_)
      · skip
        refine g_aload_n S 2 dX1_serveOne_42 rfl ?_
        refine g_iload_n S 0 dX1_serveOne_43 rfl ?_
        refine g_callv (g_runV S hC (As := [.int (sX4_coffeeOfPortion_r σ q)]) (rest := []) (k := q) hq hKq (by decide) rfl (kX4_servePortion l E σ q hq hKq (sX4_coffeeOfPortion_r σ q)) (cwV 1 S.2.2.2.2 gX1_serveOne_X4_servePortion rfl rfl rfl (by decide +kernel) ⟨Nat.le_of_ble_eq_true rfl, Nat.le_of_ble_eq_true rfl⟩) rfl rfl (Nat.le_of_ble_eq_true rfl) dX1_serveOne_44 ⟨Nat.le_of_ble_eq_true rfl, Nat.le_of_ble_eq_true rfl⟩) ?_
        refine g_nm (fun S1 hS1 => ?_)
        refine g_aload_n S 1 dX1_serveOne_47 rfl ?_
        refine g_dup S dX1_serveOne_48 rfl ?_
        refine gg1 S hC hiX1 hk hKk 2 (by decide) (by decide +kernel) dX1_serveOne_49 ?_
        refine g_const S dX1_serveOne_52 (v := 1) rfl ?_
        refine g_isub S dX1_serveOne_53 ?_
        refine gp1 S hC hiX1 hk hKk 2 (by decide) (by decide +kernel) dX1_serveOne_54 ?_
        refine g_nm (fun S2 hS2 => ?_)
        refine g_aload_n S 1 dX1_serveOne_57 rfl ?_
        refine g_dup S dX1_serveOne_58 rfl ?_
        refine gg1 S hC hiX1 hk hKk 3 (by decide) (by decide +kernel) dX1_serveOne_59 ?_
        refine g_const S dX1_serveOne_62 (v := 1) rfl ?_
        refine g_iadd S dX1_serveOne_63 ?_
        refine gp1 S hC hiX1 hk hKk 3 (by decide) (by decide +kernel) dX1_serveOne_64 ?_
        refine g_nm (fun S3 hS3 => ?_)
        refine g_const S dX1_serveOne_67 (v := 1) rfl ?_
        exact g_zret S hr hlocks dX1_serveOne_68 rfl (by subst hS3 hS2 hS1; unfold sX1_serveOne_r; (try dsimp only); rw [if_neg c_1, if_neg c_2, if_pos c_3]) (by subst hS3 hS2 hS1; unfold sX1_serveOne_s; (try dsimp only); rw [if_neg c_1, if_neg c_2, if_pos c_3]) (Nat.le_of_ble_eq_true rfl) (Nat.le_of_ble_eq_true rfl)
      · skip
        refine g_aload_n S 1 dX1_serveOne_30 rfl ?_
        refine g_dup S dX1_serveOne_31 rfl ?_
        refine gg1 S hC hiX1 hk hKk 4 (by decide) (by decide +kernel) dX1_serveOne_32 ?_
        refine g_const S dX1_serveOne_35 (v := 1) rfl ?_
        refine g_iadd S dX1_serveOne_36 ?_
        refine gp1 S hC hiX1 hk hKk 4 (by decide) (by decide +kernel) dX1_serveOne_37 ?_
        refine g_nm (fun S4 hS4 => ?_)
        refine g_const S dX1_serveOne_40 (v := 0) rfl ?_
        exact g_zret S hr hlocks dX1_serveOne_41 rfl (by subst hS4; unfold sX1_serveOne_r; (try dsimp only); rw [if_neg c_1, if_neg c_2, if_neg c_3]) (by subst hS4; unfold sX1_serveOne_s; (try dsimp only); rw [if_neg c_1, if_neg c_2, if_neg c_3]) (Nat.le_of_ble_eq_true rfl) (Nat.le_of_ble_eq_true rfl)
    · skip
      refine g_const S dX1_serveOne_20 (v := 0) rfl ?_
      exact g_zret S hr hlocks dX1_serveOne_21 rfl (by rw [sX1_serveOne_r, if_neg c_1, if_pos c_2]) (by rw [sX1_serveOne_s, if_neg c_1, if_pos c_2]) (Nat.le_of_ble_eq_true rfl) (Nat.le_of_ble_eq_true rfl)
def sX1_serveDay_r (σ : gS) (k : Nat) (q : Nat) : Int32 := let S1 := sX1_serveOne_s σ k q; if sX1_serveOne_r σ k q = 0 then ((0 : Int32)) else (if sX1_serveOne_r S1 k q = 0 then ((1 : Int32)) else ((2 : Int32)))
def sX1_serveDay_s (σ : gS) (k : Nat) (q : Nat) : gS := let S1 := sX1_serveOne_s σ k q; if sX1_serveOne_r σ k q = 0 then (S1) else (let S2 := sX1_serveOne_s S1 k q; if sX1_serveOne_r S1 k q = 0 then (S2) else (S2))
theorem fX1_serveDay (σ : gS) (k : Nat) (q : Nat) (x : Nat) (hxk : x ≠ k) (hxq : x ≠ q) : (sX1_serveDay_s σ k q).1 x = σ.1 x := by
  unfold sX1_serveDay_s
  (try dsimp only)
  (repeat' split)
  all_goals (simp [gu_ne, fX1_serveOne, *])
set_option maxRecDepth 100000 in
set_option maxHeartbeats 4000000 in
theorem kX1_serveDay (l : Launch) (E : gT) (σ : gS) (k : Nat) (hk : k < 58) (hKk : gK k = 1) (q : Nat) (hq : q < 58) (hKq : gK q = 4) : gMi l yX1_serveDay wsX1_serveDay ({ frames := 3, cells := 0, slots := 0, locals := 66 }) 0 0 E σ [.ref (E.2.2 k), .ref (E.2.2 q)] (sX1_serveDay_r σ k q) (sX1_serveDay_s σ k q) := by
  refine g_met (mc := 0) (ms := 0) (nL := 3) (ret := (some .int)) (by decide) rfl (lv := [(0, .ref (E.2.2 k)), (1, .ref (E.2.2 q))]) rfl (Nat.le_of_ble_eq_true rfl) ?_
  intro p e s m below meth c S hr hlocks hC
  refine g_const S dX1_serveDay_0 (v := 0) rfl ?_
  refine g_istore_n S [(2, .int (0 : Int32)), (0, .ref (E.2.2 k)), (1, .ref (E.2.2 q))] dX1_serveDay_1 (by decide) rfl ?_
  refine g_iload_n S 0 dX1_serveDay_2 rfl ?_
  refine g_const S dX1_serveDay_3 (v := 2) rfl ?_
  refine g_icmp_ge S 21 dX1_serveDay_4 (by decide) (fun c_1 => absurd c_1 (by decide)) (fun c_1 => ?_)
  refine g_aload_n S 1 dX1_serveDay_7 rfl ?_
  refine g_aload_n S 2 dX1_serveDay_8 rfl ?_
  refine g_calli (g_runV S hC (As := [.ref (E.2.2 q)]) (rest := []) (k := k) hk hKk (by decide) rfl (kX1_serveOne l E σ k hk hKk q hq hKq) (cwV 1 S.2.2.2.2 gX1_serveDay_X1_serveOne rfl rfl rfl (by decide +kernel) ⟨Nat.le_of_ble_eq_true rfl, Nat.le_of_ble_eq_true rfl⟩) rfl rfl (Nat.le_of_ble_eq_true rfl) dX1_serveDay_9 ⟨Nat.le_of_ble_eq_true rfl, Nat.le_of_ble_eq_true rfl⟩) ?_
  refine g_nm (fun S1 hS1 => ?_)
  refine g_if_eq S 21 dX1_serveDay_12 (by decide) (fun c_2 => ?_) (fun c_2 => ?_)
  · skip
    refine g_iload_n S 0 dX1_serveDay_21 rfl ?_
    exact g_iret S hr hlocks dX1_serveDay_22 (by subst hS1; unfold sX1_serveDay_r; (try dsimp only); rw [if_pos c_2]) (by subst hS1; unfold sX1_serveDay_s; (try dsimp only); rw [if_pos c_2]) (Nat.le_of_ble_eq_true rfl) (Nat.le_of_ble_eq_true rfl)
  · skip
    refine g_iinc S [(2, .int (1 : Int32)), (0, .ref (E.2.2 k)), (1, .ref (E.2.2 q))] 0 (1 : Int32) dX1_serveDay_15 rfl rfl (by decide) rfl ?_
    refine g_goto S 2 dX1_serveDay_18 (by decide) ?_
    refine g_iload_n S 0 dX1_serveDay_2 rfl ?_
    refine g_const S dX1_serveDay_3 (v := 2) rfl ?_
    refine g_icmp_ge S 21 dX1_serveDay_4 (by decide) (fun c_3 => absurd c_3 (by decide)) (fun c_3 => ?_)
    refine g_aload_n S 1 dX1_serveDay_7 rfl ?_
    refine g_aload_n S 2 dX1_serveDay_8 rfl ?_
    refine g_calli (g_runV S hC (As := [.ref (E.2.2 q)]) (rest := []) (k := k) hk hKk (by decide) rfl (kX1_serveOne l E S1 k hk hKk q hq hKq) (cwV 1 S.2.2.2.2 gX1_serveDay_X1_serveOne rfl rfl rfl (by decide +kernel) ⟨Nat.le_of_ble_eq_true rfl, Nat.le_of_ble_eq_true rfl⟩) rfl rfl (Nat.le_of_ble_eq_true rfl) dX1_serveDay_9 ⟨Nat.le_of_ble_eq_true rfl, Nat.le_of_ble_eq_true rfl⟩) ?_
    refine g_nm (fun S2 hS2 => ?_)
    refine g_if_eq S 21 dX1_serveDay_12 (by decide) (fun c_4 => ?_) (fun c_4 => ?_)
    · skip
      refine g_iload_n S 0 dX1_serveDay_21 rfl ?_
      exact g_iret S hr hlocks dX1_serveDay_22 (by subst hS2 hS1; unfold sX1_serveDay_r; (try dsimp only); rw [if_neg c_2, if_pos c_4]) (by subst hS2 hS1; unfold sX1_serveDay_s; (try dsimp only); rw [if_neg c_2, if_pos c_4]) (Nat.le_of_ble_eq_true rfl) (Nat.le_of_ble_eq_true rfl)
    · skip
      refine g_iinc S [(2, .int (2 : Int32)), (0, .ref (E.2.2 k)), (1, .ref (E.2.2 q))] 0 (2 : Int32) dX1_serveDay_15 rfl rfl (by decide) rfl ?_
      refine g_goto S 2 dX1_serveDay_18 (by decide) ?_
      refine g_iload_n S 0 dX1_serveDay_2 rfl ?_
      refine g_const S dX1_serveDay_3 (v := 2) rfl ?_
      refine g_icmp_ge S 21 dX1_serveDay_4 (by decide) (fun c_5 => ?_) (fun c_5 => absurd (by decide) c_5)
      refine g_iload_n S 0 dX1_serveDay_21 rfl ?_
      exact g_iret S hr hlocks dX1_serveDay_22 (by subst hS2 hS1; unfold sX1_serveDay_r; (try dsimp only); rw [if_neg c_2, if_neg c_4]) (by subst hS2 hS1; unfold sX1_serveDay_s; (try dsimp only); rw [if_neg c_2, if_neg c_4]) (Nat.le_of_ble_eq_true rfl) (Nat.le_of_ble_eq_true rfl)
def sX1_size_r (σ : gS) (k : Nat) : Int32 := (5 : Int32)
set_option maxRecDepth 100000 in
set_option maxHeartbeats 4000000 in
theorem kX1_size (l : Launch) (E : gT) (σ : gS) (k : Nat) (hk : k < 58) (hKk : gK k = 1) : gMi l yX1_size wsX1_size ({ frames := 0, cells := 0, slots := 0, locals := 0 }) 0 0 E σ [.ref (E.2.2 k)] (sX1_size_r σ k) σ := by
  refine g_met (mc := 0) (ms := 0) (nL := 1) (ret := (some .int)) (by decide) rfl (lv := [(0, .ref (E.2.2 k))]) rfl (Nat.le_of_ble_eq_true rfl) ?_
  intro p e s m below meth c S hr hlocks hC
  refine g_const S dX1_size_0 (v := 5) rfl ?_
  exact g_iret S hr hlocks dX1_size_1 rfl rfl (Nat.le_of_ble_eq_true rfl) (Nat.le_of_ble_eq_true rfl)
def sX1_tell_r (σ : gS) (k w : Nat) : Int32 := σ.1 k w
set_option maxRecDepth 100000 in
set_option maxHeartbeats 4000000 in
theorem kX1_tell (l : Launch) (E : gT) (σ : gS) (k : Nat) (hk : k < 58) (hKk : gK k = 1) (w : Nat) (hw : w < 5) : gMi l yX1_tell wsX1_tell ({ frames := 0, cells := 0, slots := 0, locals := 0 }) 0 0 E σ [.ref (E.2.2 k), .int (nI w)] (sX1_tell_r σ k w) σ := by
  refine g_met (mc := 0) (ms := 0) (nL := 2) (ret := (some .int)) (by decide) rfl (lv := [(0, .ref (E.2.2 k)), (1, .int (nI w))]) rfl (Nat.le_of_ble_eq_true rfl) ?_
  intro p e s m below meth c S hr hlocks hC
  have hiX1 : ∀ w ∈ wsX10, w ∈ wsX1_tell := by decide +kernel
  rcases (show w = 0 ∨ w = 1 ∨ w = 2 ∨ w = 3 ∨ w = 4 by omega) with rfl | rfl | rfl | rfl | rfl
  · skip
    refine g_iload_n S 1 dX1_tell_0 rfl ?_
    refine g_tabIn S 32 dX1_tell_1 (by decide) (by decide) rfl (by decide) ?_
    refine g_aload_n S 0 dX1_tell_32 rfl ?_
    refine gg1 S hC hiX1 hk hKk 0 (by decide) (by decide +kernel) dX1_tell_33 ?_
    exact g_iret S hr hlocks dX1_tell_36 rfl rfl (Nat.le_of_ble_eq_true rfl) (Nat.le_of_ble_eq_true rfl)
  · skip
    refine g_iload_n S 1 dX1_tell_0 rfl ?_
    refine g_tabIn S 37 dX1_tell_1 (by decide) (by decide) rfl (by decide) ?_
    refine g_aload_n S 0 dX1_tell_37 rfl ?_
    refine gg1 S hC hiX1 hk hKk 1 (by decide) (by decide +kernel) dX1_tell_38 ?_
    exact g_iret S hr hlocks dX1_tell_41 rfl rfl (Nat.le_of_ble_eq_true rfl) (Nat.le_of_ble_eq_true rfl)
  · skip
    refine g_iload_n S 1 dX1_tell_0 rfl ?_
    refine g_tabIn S 42 dX1_tell_1 (by decide) (by decide) rfl (by decide) ?_
    refine g_aload_n S 0 dX1_tell_42 rfl ?_
    refine gg1 S hC hiX1 hk hKk 2 (by decide) (by decide +kernel) dX1_tell_43 ?_
    exact g_iret S hr hlocks dX1_tell_46 rfl rfl (Nat.le_of_ble_eq_true rfl) (Nat.le_of_ble_eq_true rfl)
  · skip
    refine g_iload_n S 1 dX1_tell_0 rfl ?_
    refine g_tabIn S 47 dX1_tell_1 (by decide) (by decide) rfl (by decide) ?_
    refine g_aload_n S 0 dX1_tell_47 rfl ?_
    refine gg1 S hC hiX1 hk hKk 3 (by decide) (by decide +kernel) dX1_tell_48 ?_
    exact g_iret S hr hlocks dX1_tell_51 rfl rfl (Nat.le_of_ble_eq_true rfl) (Nat.le_of_ble_eq_true rfl)
  · skip
    refine g_iload_n S 1 dX1_tell_0 rfl ?_
    refine g_tabOut S 52 dX1_tell_1 (by decide) (by decide) ?_
    refine g_aload_n S 0 dX1_tell_52 rfl ?_
    refine gg1 S hC hiX1 hk hKk 4 (by decide) (by decide +kernel) dX1_tell_53 ?_
    exact g_iret S hr hlocks dX1_tell_56 rfl rfl (Nat.le_of_ble_eq_true rfl) (Nat.le_of_ble_eq_true rfl)
def sX2_install_s (σ : gS) (k : Nat) (a : Int32) (b : Int32) : gS := let S1 := gu σ k 0 a; let S2 := gu S1 k 1 b; S2
theorem fX2_install (σ : gS) (k : Nat) (a : Int32) (b : Int32) (x : Nat) (hxk : x ≠ k) : (sX2_install_s σ k a b).1 x = σ.1 x := by
  unfold sX2_install_s
  (try dsimp only)
  (repeat' split)
  all_goals (simp [gu_ne, *])
set_option maxRecDepth 100000 in
set_option maxHeartbeats 4000000 in
theorem kX2_install (l : Launch) (E : gT) (σ : gS) (k : Nat) (hk : k < 58) (hKk : gK k = 2) (a : Int32) (b : Int32) : gMv l yX2_install wsX2_install ({ frames := 0, cells := 0, slots := 0, locals := 0 }) 0 0 E σ [.ref (E.2.2 k), .int a, .int b] (sX2_install_s σ k a b) := by
  refine g_met (mc := 0) (ms := 0) (nL := 3) (ret := none) (by decide) rfl (lv := [(0, .ref (E.2.2 k)), (1, .int a), (2, .int b)]) rfl (Nat.le_of_ble_eq_true rfl) ?_
  intro p e s m below meth c S hr hlocks hC
  have hiX2 : ∀ w ∈ wsX20, w ∈ wsX2_install := by decide +kernel
  refine g_aload_n S 0 dX2_install_0 rfl ?_
  refine g_iload_n S 1 dX2_install_1 rfl ?_
  refine gp2 S hC hiX2 hk hKk 0 (by decide) (by decide +kernel) dX2_install_2 ?_
  refine g_nm (fun S1 hS1 => ?_)
  refine g_aload_n S 0 dX2_install_5 rfl ?_
  refine g_iload_n S 2 dX2_install_6 rfl ?_
  refine gp2 S hC hiX2 hk hKk 1 (by decide) (by decide +kernel) dX2_install_7 ?_
  refine g_nm (fun S2 hS2 => ?_)
  exact g_vret S hr hlocks dX2_install_10 (by subst hS2 hS1; rfl) (Nat.le_of_ble_eq_true rfl) (Nat.le_of_ble_eq_true rfl)
def sX2_fill_s (σ : gS) (k : Nat) (a : Int32) (b : Int32) : gS := let S1 := gu σ k 2 a; let S2 := gu S1 k 3 b; let S3 := gu S2 k 4 (0 : Int32); S3
theorem fX2_fill (σ : gS) (k : Nat) (a : Int32) (b : Int32) (x : Nat) (hxk : x ≠ k) : (sX2_fill_s σ k a b).1 x = σ.1 x := by
  unfold sX2_fill_s
  (try dsimp only)
  (repeat' split)
  all_goals (simp [gu_ne, *])
set_option maxRecDepth 100000 in
set_option maxHeartbeats 4000000 in
theorem kX2_fill (l : Launch) (E : gT) (σ : gS) (k : Nat) (hk : k < 58) (hKk : gK k = 2) (a : Int32) (b : Int32) : gMv l yX2_fill wsX2_fill ({ frames := 0, cells := 0, slots := 0, locals := 0 }) 0 0 E σ [.ref (E.2.2 k), .int a, .int b] (sX2_fill_s σ k a b) := by
  refine g_met (mc := 0) (ms := 0) (nL := 3) (ret := none) (by decide) rfl (lv := [(0, .ref (E.2.2 k)), (1, .int a), (2, .int b)]) rfl (Nat.le_of_ble_eq_true rfl) ?_
  intro p e s m below meth c S hr hlocks hC
  have hiX2 : ∀ w ∈ wsX20, w ∈ wsX2_fill := by decide +kernel
  refine g_aload_n S 0 dX2_fill_0 rfl ?_
  refine g_iload_n S 1 dX2_fill_1 rfl ?_
  refine gp2 S hC hiX2 hk hKk 2 (by decide) (by decide +kernel) dX2_fill_2 ?_
  refine g_nm (fun S1 hS1 => ?_)
  refine g_aload_n S 0 dX2_fill_5 rfl ?_
  refine g_iload_n S 2 dX2_fill_6 rfl ?_
  refine gp2 S hC hiX2 hk hKk 3 (by decide) (by decide +kernel) dX2_fill_7 ?_
  refine g_nm (fun S2 hS2 => ?_)
  refine g_aload_n S 0 dX2_fill_10 rfl ?_
  refine g_const S dX2_fill_11 (v := 0) rfl ?_
  refine gp2 S hC hiX2 hk hKk 4 (by decide) (by decide +kernel) dX2_fill_12 ?_
  refine g_nm (fun S3 hS3 => ?_)
  exact g_vret S hr hlocks dX2_fill_15 (by subst hS3 hS2 hS1; rfl) (Nat.le_of_ble_eq_true rfl) (Nat.le_of_ble_eq_true rfl)
def sX2_done_r (σ : gS) (k : Nat) : Int32 := if σ.1 k 2 = 0 then ((12 : Int32)) else ((8 : Int32))
set_option maxRecDepth 100000 in
set_option maxHeartbeats 4000000 in
theorem kX2_done (l : Launch) (E : gT) (σ : gS) (k : Nat) (hk : k < 58) (hKk : gK k = 2) : gMi l yX2_done wsX2_done ({ frames := 0, cells := 0, slots := 0, locals := 0 }) 0 0 E σ [.ref (E.2.2 k)] (sX2_done_r σ k) σ := by
  refine g_met (mc := 0) (ms := 0) (nL := 1) (ret := (some .int)) (by decide) rfl (lv := [(0, .ref (E.2.2 k))]) rfl (Nat.le_of_ble_eq_true rfl) ?_
  intro p e s m below meth c S hr hlocks hC
  have hiX2 : ∀ w ∈ wsX20, w ∈ wsX2_done := by decide +kernel
  refine g_aload_n S 0 dX2_done_0 rfl ?_
  refine gg2 S hC hiX2 hk hKk 2 (by decide) (by decide +kernel) dX2_done_1 ?_
  refine g_if_ne S 12 dX2_done_4 (by decide) (fun c_1 => ?_) (fun c_1 => ?_)
  · skip
    refine g_bipush S dX2_done_12 (v := 8) rfl ?_
    exact g_iret S hr hlocks dX2_done_14 (by rw [sX2_done_r, if_neg c_1]) rfl (Nat.le_of_ble_eq_true rfl) (Nat.le_of_ble_eq_true rfl)
  · skip
    refine g_bipush S dX2_done_7 (v := 12) rfl ?_
    refine g_goto S 14 dX2_done_9 (by decide) ?_
    exact g_iret S hr hlocks dX2_done_14 (by rw [sX2_done_r, if_pos c_1]) rfl (Nat.le_of_ble_eq_true rfl) (Nat.le_of_ble_eq_true rfl)
def sX2_burnt_r (σ : gS) (k : Nat) : Int32 := if σ.1 k 2 = 0 then ((24 : Int32)) else ((15 : Int32))
set_option maxRecDepth 100000 in
set_option maxHeartbeats 4000000 in
theorem kX2_burnt (l : Launch) (E : gT) (σ : gS) (k : Nat) (hk : k < 58) (hKk : gK k = 2) : gMi l yX2_burnt wsX2_burnt ({ frames := 0, cells := 0, slots := 0, locals := 0 }) 0 0 E σ [.ref (E.2.2 k)] (sX2_burnt_r σ k) σ := by
  refine g_met (mc := 0) (ms := 0) (nL := 1) (ret := (some .int)) (by decide) rfl (lv := [(0, .ref (E.2.2 k))]) rfl (Nat.le_of_ble_eq_true rfl) ?_
  intro p e s m below meth c S hr hlocks hC
  have hiX2 : ∀ w ∈ wsX20, w ∈ wsX2_burnt := by decide +kernel
  refine g_aload_n S 0 dX2_burnt_0 rfl ?_
  refine gg2 S hC hiX2 hk hKk 2 (by decide) (by decide +kernel) dX2_burnt_1 ?_
  refine g_if_ne S 12 dX2_burnt_4 (by decide) (fun c_1 => ?_) (fun c_1 => ?_)
  · skip
    refine g_bipush S dX2_burnt_12 (v := 15) rfl ?_
    exact g_iret S hr hlocks dX2_burnt_14 (by rw [sX2_burnt_r, if_neg c_1]) rfl (Nat.le_of_ble_eq_true rfl) (Nat.le_of_ble_eq_true rfl)
  · skip
    refine g_bipush S dX2_burnt_7 (v := 24) rfl ?_
    refine g_goto S 14 dX2_burnt_9 (by decide) ?_
    exact g_iret S hr hlocks dX2_burnt_14 (by rw [sX2_burnt_r, if_pos c_1]) rfl (Nat.le_of_ble_eq_true rfl) (Nat.le_of_ble_eq_true rfl)
def sX2_levelAfter_r (σ : gS) (k : Nat) (a : Int32) : Int32 := if σ.1 k 2 = (-1 : Int32) then ((0 : Int32)) else (gmin (a + (σ.1 k 1)) (sX2_burnt_r σ k))
set_option maxRecDepth 100000 in
set_option maxHeartbeats 4000000 in
theorem kX2_levelAfter (l : Launch) (E : gT) (σ : gS) (k : Nat) (hk : k < 58) (hKk : gK k = 2) (a : Int32) : gMi l yX2_levelAfter wsX2_levelAfter ({ frames := 1, cells := 0, slots := 0, locals := 24 }) 0 0 E σ [.ref (E.2.2 k), .int a] (sX2_levelAfter_r σ k a) σ := by
  refine g_met (mc := 0) (ms := 0) (nL := 2) (ret := (some .int)) (by decide) rfl (lv := [(0, .ref (E.2.2 k)), (1, .int a)]) rfl (Nat.le_of_ble_eq_true rfl) ?_
  intro p e s m below meth c S hr hlocks hC
  have hiX2 : ∀ w ∈ wsX20, w ∈ wsX2_levelAfter := by decide +kernel
  refine g_aload_n S 0 dX2_levelAfter_0 rfl ?_
  refine gg2 S hC hiX2 hk hKk 2 (by decide) (by decide +kernel) dX2_levelAfter_1 ?_
  refine g_const S dX2_levelAfter_4 (v := (-1)) rfl ?_
  refine g_icmp_ne S 10 dX2_levelAfter_5 (by decide) (fun c_1 => ?_) (fun c_1 => ?_)
  · skip
    refine g_iload_n S 1 dX2_levelAfter_10 rfl ?_
    refine g_aload_n S 0 dX2_levelAfter_11 rfl ?_
    refine gg2 S hC hiX2 hk hKk 1 (by decide) (by decide +kernel) dX2_levelAfter_12 ?_
    refine g_iadd S dX2_levelAfter_15 ?_
    refine g_aload_n S 0 dX2_levelAfter_16 rfl ?_
    refine g_calli (g_runV S hC (As := []) (rest := [.int (a + (σ.1 k 1))]) (k := k) hk hKk (by decide) rfl (kX2_burnt l E σ k hk hKk) (cwV 0 S.2.2.2.2 gX2_levelAfter_X2_burnt rfl rfl rfl (by decide +kernel) ⟨Nat.le_of_ble_eq_true rfl, Nat.le_of_ble_eq_true rfl⟩) rfl rfl (Nat.le_of_ble_eq_true rfl) dX2_levelAfter_17 ⟨Nat.le_of_ble_eq_true rfl, Nat.le_of_ble_eq_true rfl⟩) ?_
    refine g_mn S (by decide +kernel) (by decide +kernel) (by decide +kernel) (by decide +kernel) (Nat.le_of_ble_eq_true rfl) (Nat.le_of_ble_eq_true rfl) (Nat.le_of_ble_eq_true rfl) (Nat.le_of_ble_eq_true rfl) dX2_levelAfter_20 ?_
    exact g_iret S hr hlocks dX2_levelAfter_23 (by rw [sX2_levelAfter_r, if_neg c_1]) rfl (Nat.le_of_ble_eq_true rfl) (Nat.le_of_ble_eq_true rfl)
  · skip
    refine g_const S dX2_levelAfter_8 (v := 0) rfl ?_
    exact g_iret S hr hlocks dX2_levelAfter_9 (by rw [sX2_levelAfter_r, if_pos c_1]) rfl (Nat.le_of_ble_eq_true rfl) (Nat.le_of_ble_eq_true rfl)
def sX2_warm_s (σ : gS) (k : Nat) : gS := let S1 := gu σ k 4 (sX2_levelAfter_r σ k (σ.1 k 4)); S1
theorem fX2_warm (σ : gS) (k : Nat) (x : Nat) (hxk : x ≠ k) : (sX2_warm_s σ k).1 x = σ.1 x := by
  unfold sX2_warm_s
  (try dsimp only)
  (repeat' split)
  all_goals (simp [gu_ne, *])
set_option maxRecDepth 100000 in
set_option maxHeartbeats 4000000 in
theorem kX2_warm (l : Launch) (E : gT) (σ : gS) (k : Nat) (hk : k < 58) (hKk : gK k = 2) : gMv l yX2_warm wsX2_warm ({ frames := 2, cells := 0, slots := 0, locals := 45 }) 0 0 E σ [.ref (E.2.2 k)] (sX2_warm_s σ k) := by
  refine g_met (mc := 0) (ms := 0) (nL := 1) (ret := none) (by decide) rfl (lv := [(0, .ref (E.2.2 k))]) rfl (Nat.le_of_ble_eq_true rfl) ?_
  intro p e s m below meth c S hr hlocks hC
  have hiX2 : ∀ w ∈ wsX20, w ∈ wsX2_warm := by decide +kernel
  refine g_aload_n S 0 dX2_warm_0 rfl ?_
  refine g_aload_n S 0 dX2_warm_1 rfl ?_
  refine g_aload_n S 0 dX2_warm_2 rfl ?_
  refine gg2 S hC hiX2 hk hKk 4 (by decide) (by decide +kernel) dX2_warm_3 ?_
  refine g_calli (g_runV S hC (As := [.int (σ.1 k 4)]) (rest := [.ref (E.2.2 k)]) (k := k) hk hKk (by decide) rfl (kX2_levelAfter l E σ k hk hKk (σ.1 k 4)) (cwV 1 S.2.2.2.2 gX2_warm_X2_levelAfter rfl rfl rfl (by decide +kernel) ⟨Nat.le_of_ble_eq_true rfl, Nat.le_of_ble_eq_true rfl⟩) rfl rfl (Nat.le_of_ble_eq_true rfl) dX2_warm_6 ⟨Nat.le_of_ble_eq_true rfl, Nat.le_of_ble_eq_true rfl⟩) ?_
  refine gp2 S hC hiX2 hk hKk 4 (by decide) (by decide +kernel) dX2_warm_9 ?_
  refine g_nm (fun S1 hS1 => ?_)
  exact g_vret S hr hlocks dX2_warm_12 (by subst hS1; rfl) (Nat.le_of_ble_eq_true rfl) (Nat.le_of_ble_eq_true rfl)
def sX2_partsAt_r (σ : gS) (k : Nat) (a : Int32) : Int32 := if σ.1 k 2 = (-1 : Int32) then ((0 : Int32)) else (if a < sX2_done_r σ k then ((0 : Int32)) else (if a < sX2_burnt_r σ k then (if σ.1 k 2 = 0 then ((((σ.1 k 3) * (6 : Int32)) * ((sX2_burnt_r σ k) - a)) / ((sX2_burnt_r σ k) - (sX2_done_r σ k))) else ((((σ.1 k 3) * (8 : Int32)) * ((sX2_burnt_r σ k) - a)) / ((sX2_burnt_r σ k) - (sX2_done_r σ k)))) else ((0 : Int32))))
set_option maxRecDepth 100000 in
set_option maxHeartbeats 4000000 in
theorem kX2_partsAt (l : Launch) (E : gT) (σ : gS) (k : Nat) (hk : k < 58) (hKk : gK k = 2) (a : Int32) : gMi l yX2_partsAt wsX2_partsAt ({ frames := 1, cells := 0, slots := 0, locals := 20 }) 0 0 E σ [.ref (E.2.2 k), .int a] (sX2_partsAt_r σ k a) σ := by
  refine g_met (mc := 0) (ms := 0) (nL := 3) (ret := (some .int)) (by decide) rfl (lv := [(0, .ref (E.2.2 k)), (1, .int a)]) rfl (Nat.le_of_ble_eq_true rfl) ?_
  intro p e s m below meth c S hr hlocks hC
  have hiX2 : ∀ w ∈ wsX20, w ∈ wsX2_partsAt := by decide +kernel
  refine g_aload_n S 0 dX2_partsAt_0 rfl ?_
  refine gg2 S hC hiX2 hk hKk 2 (by decide) (by decide +kernel) dX2_partsAt_1 ?_
  refine g_const S dX2_partsAt_4 (v := (-1)) rfl ?_
  refine g_icmp_eq S 24 dX2_partsAt_5 (by decide) (fun c_1 => ?_) (fun c_1 => ?_)
  · skip
    refine g_const S dX2_partsAt_24 (v := 0) rfl ?_
    exact g_iret S hr hlocks dX2_partsAt_25 (by rw [sX2_partsAt_r, if_pos c_1]) rfl (Nat.le_of_ble_eq_true rfl) (Nat.le_of_ble_eq_true rfl)
  · skip
    refine g_iload_n S 1 dX2_partsAt_8 rfl ?_
    refine g_aload_n S 0 dX2_partsAt_9 rfl ?_
    refine g_calli (g_runV S hC (As := []) (rest := [.int a]) (k := k) hk hKk (by decide) rfl (kX2_done l E σ k hk hKk) (cwV 0 S.2.2.2.2 gX2_partsAt_X2_done rfl rfl rfl (by decide +kernel) ⟨Nat.le_of_ble_eq_true rfl, Nat.le_of_ble_eq_true rfl⟩) rfl rfl (Nat.le_of_ble_eq_true rfl) dX2_partsAt_10 ⟨Nat.le_of_ble_eq_true rfl, Nat.le_of_ble_eq_true rfl⟩) ?_
    refine g_icmp_lt S 24 dX2_partsAt_13 (by decide) (fun c_2 => ?_) (fun c_2 => ?_)
    · skip
      refine g_const S dX2_partsAt_24 (v := 0) rfl ?_
      exact g_iret S hr hlocks dX2_partsAt_25 (by rw [sX2_partsAt_r, if_neg c_1, if_pos c_2]) rfl (Nat.le_of_ble_eq_true rfl) (Nat.le_of_ble_eq_true rfl)
    · skip
      refine g_iload_n S 1 dX2_partsAt_16 rfl ?_
      refine g_aload_n S 0 dX2_partsAt_17 rfl ?_
      refine g_calli (g_runV S hC (As := []) (rest := [.int a]) (k := k) hk hKk (by decide) rfl (kX2_burnt l E σ k hk hKk) (cwV 0 S.2.2.2.2 gX2_partsAt_X2_burnt rfl rfl rfl (by decide +kernel) ⟨Nat.le_of_ble_eq_true rfl, Nat.le_of_ble_eq_true rfl⟩) rfl rfl (Nat.le_of_ble_eq_true rfl) dX2_partsAt_18 ⟨Nat.le_of_ble_eq_true rfl, Nat.le_of_ble_eq_true rfl⟩) ?_
      refine g_icmp_lt S 26 dX2_partsAt_21 (by decide) (fun c_3 => ?_) (fun c_3 => ?_)
      · skip
        refine g_aload_n S 0 dX2_partsAt_26 rfl ?_
        refine gg2 S hC hiX2 hk hKk 2 (by decide) (by decide +kernel) dX2_partsAt_27 ?_
        refine g_if_ne S 38 dX2_partsAt_30 (by decide) (fun c_4 => ?_) (fun c_4 => ?_)
        · skip
          refine g_bipush S dX2_partsAt_38 (v := 8) rfl ?_
          refine g_istore_n S [(2, .int (8 : Int32)), (0, .ref (E.2.2 k)), (1, .int a)] dX2_partsAt_40 (by decide) rfl ?_
          refine g_aload_n S 1 dX2_partsAt_41 rfl ?_
          refine gg2 S hC hiX2 hk hKk 3 (by decide) (by decide +kernel) dX2_partsAt_42 ?_
          refine g_iload_n S 0 dX2_partsAt_45 rfl ?_
          refine g_imul S dX2_partsAt_46 ?_
          refine g_aload_n S 1 dX2_partsAt_47 rfl ?_
          refine g_calli (g_runV S hC (As := []) (rest := [.int ((σ.1 k 3) * (8 : Int32))]) (k := k) hk hKk (by decide) rfl (kX2_burnt l E σ k hk hKk) (cwV 0 S.2.2.2.2 gX2_partsAt_X2_burnt rfl rfl rfl (by decide +kernel) ⟨Nat.le_of_ble_eq_true rfl, Nat.le_of_ble_eq_true rfl⟩) rfl rfl (Nat.le_of_ble_eq_true rfl) dX2_partsAt_48 ⟨Nat.le_of_ble_eq_true rfl, Nat.le_of_ble_eq_true rfl⟩) ?_
          refine g_iload_n S 2 dX2_partsAt_51 rfl ?_
          refine g_isub S dX2_partsAt_52 ?_
          refine g_imul S dX2_partsAt_53 ?_
          refine g_aload_n S 1 dX2_partsAt_54 rfl ?_
          refine g_calli (g_runV S hC (As := []) (rest := [.int (((σ.1 k 3) * (8 : Int32)) * ((sX2_burnt_r σ k) - a))]) (k := k) hk hKk (by decide) rfl (kX2_burnt l E σ k hk hKk) (cwV 0 S.2.2.2.2 gX2_partsAt_X2_burnt rfl rfl rfl (by decide +kernel) ⟨Nat.le_of_ble_eq_true rfl, Nat.le_of_ble_eq_true rfl⟩) rfl rfl (Nat.le_of_ble_eq_true rfl) dX2_partsAt_55 ⟨Nat.le_of_ble_eq_true rfl, Nat.le_of_ble_eq_true rfl⟩) ?_
          refine g_aload_n S 1 dX2_partsAt_58 rfl ?_
          refine g_calli (g_runV S hC (As := []) (rest := [.int (sX2_burnt_r σ k), .int (((σ.1 k 3) * (8 : Int32)) * ((sX2_burnt_r σ k) - a))]) (k := k) hk hKk (by decide) rfl (kX2_done l E σ k hk hKk) (cwV 0 S.2.2.2.2 gX2_partsAt_X2_done rfl rfl rfl (by decide +kernel) ⟨Nat.le_of_ble_eq_true rfl, Nat.le_of_ble_eq_true rfl⟩) rfl rfl (Nat.le_of_ble_eq_true rfl) dX2_partsAt_59 ⟨Nat.le_of_ble_eq_true rfl, Nat.le_of_ble_eq_true rfl⟩) ?_
          refine g_isub S dX2_partsAt_62 ?_
          refine g_idiv S dX2_partsAt_63 (by unfold sX2_burnt_r sX2_done_r; split <;> decide) ?_
          exact g_iret S hr hlocks dX2_partsAt_64 (by rw [sX2_partsAt_r, if_neg c_1, if_neg c_2, if_pos c_3, if_neg c_4]) rfl (Nat.le_of_ble_eq_true rfl) (Nat.le_of_ble_eq_true rfl)
        · skip
          refine g_bipush S dX2_partsAt_33 (v := 6) rfl ?_
          refine g_goto S 40 dX2_partsAt_35 (by decide) ?_
          refine g_istore_n S [(2, .int (6 : Int32)), (0, .ref (E.2.2 k)), (1, .int a)] dX2_partsAt_40 (by decide) rfl ?_
          refine g_aload_n S 1 dX2_partsAt_41 rfl ?_
          refine gg2 S hC hiX2 hk hKk 3 (by decide) (by decide +kernel) dX2_partsAt_42 ?_
          refine g_iload_n S 0 dX2_partsAt_45 rfl ?_
          refine g_imul S dX2_partsAt_46 ?_
          refine g_aload_n S 1 dX2_partsAt_47 rfl ?_
          refine g_calli (g_runV S hC (As := []) (rest := [.int ((σ.1 k 3) * (6 : Int32))]) (k := k) hk hKk (by decide) rfl (kX2_burnt l E σ k hk hKk) (cwV 0 S.2.2.2.2 gX2_partsAt_X2_burnt rfl rfl rfl (by decide +kernel) ⟨Nat.le_of_ble_eq_true rfl, Nat.le_of_ble_eq_true rfl⟩) rfl rfl (Nat.le_of_ble_eq_true rfl) dX2_partsAt_48 ⟨Nat.le_of_ble_eq_true rfl, Nat.le_of_ble_eq_true rfl⟩) ?_
          refine g_iload_n S 2 dX2_partsAt_51 rfl ?_
          refine g_isub S dX2_partsAt_52 ?_
          refine g_imul S dX2_partsAt_53 ?_
          refine g_aload_n S 1 dX2_partsAt_54 rfl ?_
          refine g_calli (g_runV S hC (As := []) (rest := [.int (((σ.1 k 3) * (6 : Int32)) * ((sX2_burnt_r σ k) - a))]) (k := k) hk hKk (by decide) rfl (kX2_burnt l E σ k hk hKk) (cwV 0 S.2.2.2.2 gX2_partsAt_X2_burnt rfl rfl rfl (by decide +kernel) ⟨Nat.le_of_ble_eq_true rfl, Nat.le_of_ble_eq_true rfl⟩) rfl rfl (Nat.le_of_ble_eq_true rfl) dX2_partsAt_55 ⟨Nat.le_of_ble_eq_true rfl, Nat.le_of_ble_eq_true rfl⟩) ?_
          refine g_aload_n S 1 dX2_partsAt_58 rfl ?_
          refine g_calli (g_runV S hC (As := []) (rest := [.int (sX2_burnt_r σ k), .int (((σ.1 k 3) * (6 : Int32)) * ((sX2_burnt_r σ k) - a))]) (k := k) hk hKk (by decide) rfl (kX2_done l E σ k hk hKk) (cwV 0 S.2.2.2.2 gX2_partsAt_X2_done rfl rfl rfl (by decide +kernel) ⟨Nat.le_of_ble_eq_true rfl, Nat.le_of_ble_eq_true rfl⟩) rfl rfl (Nat.le_of_ble_eq_true rfl) dX2_partsAt_59 ⟨Nat.le_of_ble_eq_true rfl, Nat.le_of_ble_eq_true rfl⟩) ?_
          refine g_isub S dX2_partsAt_62 ?_
          refine g_idiv S dX2_partsAt_63 (by unfold sX2_burnt_r sX2_done_r; split <;> decide) ?_
          exact g_iret S hr hlocks dX2_partsAt_64 (by rw [sX2_partsAt_r, if_neg c_1, if_neg c_2, if_pos c_3, if_pos c_4]) rfl (Nat.le_of_ble_eq_true rfl) (Nat.le_of_ble_eq_true rfl)
      · skip
        refine g_const S dX2_partsAt_24 (v := 0) rfl ?_
        exact g_iret S hr hlocks dX2_partsAt_25 (by rw [sX2_partsAt_r, if_neg c_1, if_neg c_2, if_neg c_3]) rfl (Nat.le_of_ble_eq_true rfl) (Nat.le_of_ble_eq_true rfl)
def sX2_size_r (σ : gS) (k : Nat) : Int32 := (6 : Int32)
set_option maxRecDepth 100000 in
set_option maxHeartbeats 4000000 in
theorem kX2_size (l : Launch) (E : gT) (σ : gS) (k : Nat) (hk : k < 58) (hKk : gK k = 2) : gMi l yX2_size wsX2_size ({ frames := 0, cells := 0, slots := 0, locals := 0 }) 0 0 E σ [.ref (E.2.2 k)] (sX2_size_r σ k) σ := by
  refine g_met (mc := 0) (ms := 0) (nL := 1) (ret := (some .int)) (by decide) rfl (lv := [(0, .ref (E.2.2 k))]) rfl (Nat.le_of_ble_eq_true rfl) ?_
  intro p e s m below meth c S hr hlocks hC
  refine g_bipush S dX2_size_0 (v := 6) rfl ?_
  exact g_iret S hr hlocks dX2_size_2 rfl rfl (Nat.le_of_ble_eq_true rfl) (Nat.le_of_ble_eq_true rfl)
def sX2_tell_r (σ : gS) (k w : Nat) : Int32 := if w = 5 then sX2_partsAt_r σ k (σ.1 k 4) else σ.1 k w
set_option maxRecDepth 100000 in
set_option maxHeartbeats 4000000 in
theorem kX2_tell (l : Launch) (E : gT) (σ : gS) (k : Nat) (hk : k < 58) (hKk : gK k = 2) (w : Nat) (hw : w < 6) : gMi l yX2_tell wsX2_tell ({ frames := 2, cells := 0, slots := 0, locals := 42 }) 0 0 E σ [.ref (E.2.2 k), .int (nI w)] (sX2_tell_r σ k w) σ := by
  refine g_met (mc := 0) (ms := 0) (nL := 2) (ret := (some .int)) (by decide) rfl (lv := [(0, .ref (E.2.2 k)), (1, .int (nI w))]) rfl (Nat.le_of_ble_eq_true rfl) ?_
  intro p e s m below meth c S hr hlocks hC
  have hiX2 : ∀ w ∈ wsX20, w ∈ wsX2_tell := by decide +kernel
  rcases (show w = 0 ∨ w = 1 ∨ w = 2 ∨ w = 3 ∨ w = 4 ∨ w = 5 by omega) with rfl | rfl | rfl | rfl | rfl | rfl
  · skip
    refine g_iload_n S 1 dX2_tell_0 rfl ?_
    refine g_tabIn S 36 dX2_tell_1 (by decide) (by decide) rfl (by decide) ?_
    refine g_aload_n S 0 dX2_tell_36 rfl ?_
    refine gg2 S hC hiX2 hk hKk 0 (by decide) (by decide +kernel) dX2_tell_37 ?_
    exact g_iret S hr hlocks dX2_tell_40 rfl rfl (Nat.le_of_ble_eq_true rfl) (Nat.le_of_ble_eq_true rfl)
  · skip
    refine g_iload_n S 1 dX2_tell_0 rfl ?_
    refine g_tabIn S 41 dX2_tell_1 (by decide) (by decide) rfl (by decide) ?_
    refine g_aload_n S 0 dX2_tell_41 rfl ?_
    refine gg2 S hC hiX2 hk hKk 1 (by decide) (by decide +kernel) dX2_tell_42 ?_
    exact g_iret S hr hlocks dX2_tell_45 rfl rfl (Nat.le_of_ble_eq_true rfl) (Nat.le_of_ble_eq_true rfl)
  · skip
    refine g_iload_n S 1 dX2_tell_0 rfl ?_
    refine g_tabIn S 46 dX2_tell_1 (by decide) (by decide) rfl (by decide) ?_
    refine g_aload_n S 0 dX2_tell_46 rfl ?_
    refine gg2 S hC hiX2 hk hKk 2 (by decide) (by decide +kernel) dX2_tell_47 ?_
    exact g_iret S hr hlocks dX2_tell_50 rfl rfl (Nat.le_of_ble_eq_true rfl) (Nat.le_of_ble_eq_true rfl)
  · skip
    refine g_iload_n S 1 dX2_tell_0 rfl ?_
    refine g_tabIn S 51 dX2_tell_1 (by decide) (by decide) rfl (by decide) ?_
    refine g_aload_n S 0 dX2_tell_51 rfl ?_
    refine gg2 S hC hiX2 hk hKk 3 (by decide) (by decide +kernel) dX2_tell_52 ?_
    exact g_iret S hr hlocks dX2_tell_55 rfl rfl (Nat.le_of_ble_eq_true rfl) (Nat.le_of_ble_eq_true rfl)
  · skip
    refine g_iload_n S 1 dX2_tell_0 rfl ?_
    refine g_tabIn S 56 dX2_tell_1 (by decide) (by decide) rfl (by decide) ?_
    refine g_aload_n S 0 dX2_tell_56 rfl ?_
    refine gg2 S hC hiX2 hk hKk 4 (by decide) (by decide +kernel) dX2_tell_57 ?_
    exact g_iret S hr hlocks dX2_tell_60 rfl rfl (Nat.le_of_ble_eq_true rfl) (Nat.le_of_ble_eq_true rfl)
  · skip
    refine g_iload_n S 1 dX2_tell_0 rfl ?_
    refine g_tabOut S 61 dX2_tell_1 (by decide) (by decide) ?_
    refine g_aload_n S 0 dX2_tell_61 rfl ?_
    refine g_aload_n S 0 dX2_tell_62 rfl ?_
    refine gg2 S hC hiX2 hk hKk 4 (by decide) (by decide +kernel) dX2_tell_63 ?_
    refine g_calli (g_runV S hC (As := [.int (σ.1 k 4)]) (rest := []) (k := k) hk hKk (by decide) rfl (kX2_partsAt l E σ k hk hKk (σ.1 k 4)) (cwV 1 S.2.2.2.2 gX2_tell_X2_partsAt rfl rfl rfl (by decide +kernel) ⟨Nat.le_of_ble_eq_true rfl, Nat.le_of_ble_eq_true rfl⟩) rfl rfl (Nat.le_of_ble_eq_true rfl) dX2_tell_66 ⟨Nat.le_of_ble_eq_true rfl, Nat.le_of_ble_eq_true rfl⟩) ?_
    exact g_iret S hr hlocks dX2_tell_69 rfl rfl (Nat.le_of_ble_eq_true rfl) (Nat.le_of_ble_eq_true rfl)
def sX3_hire_s (σ : gS) (k : Nat) (a : Int32) (b : Int32) : gS := let S1 := gu σ k 0 a; let S2 := gu S1 k 1 b; S2
theorem fX3_hire (σ : gS) (k : Nat) (a : Int32) (b : Int32) (x : Nat) (hxk : x ≠ k) : (sX3_hire_s σ k a b).1 x = σ.1 x := by
  unfold sX3_hire_s
  (try dsimp only)
  (repeat' split)
  all_goals (simp [gu_ne, *])
set_option maxRecDepth 100000 in
set_option maxHeartbeats 4000000 in
theorem kX3_hire (l : Launch) (E : gT) (σ : gS) (k : Nat) (hk : k < 58) (hKk : gK k = 3) (a : Int32) (b : Int32) : gMv l yX3_hire wsX3_hire ({ frames := 0, cells := 0, slots := 0, locals := 0 }) 0 0 E σ [.ref (E.2.2 k), .int a, .int b] (sX3_hire_s σ k a b) := by
  refine g_met (mc := 0) (ms := 0) (nL := 3) (ret := none) (by decide) rfl (lv := [(0, .ref (E.2.2 k)), (1, .int a), (2, .int b)]) rfl (Nat.le_of_ble_eq_true rfl) ?_
  intro p e s m below meth c S hr hlocks hC
  have hiX3 : ∀ w ∈ wsX30, w ∈ wsX3_hire := by decide +kernel
  refine g_aload_n S 0 dX3_hire_0 rfl ?_
  refine g_iload_n S 1 dX3_hire_1 rfl ?_
  refine gp3 S hC hiX3 hk hKk 0 (by decide) (by decide +kernel) dX3_hire_2 ?_
  refine g_nm (fun S1 hS1 => ?_)
  refine g_aload_n S 0 dX3_hire_5 rfl ?_
  refine g_iload_n S 2 dX3_hire_6 rfl ?_
  refine gp3 S hC hiX3 hk hKk 1 (by decide) (by decide +kernel) dX3_hire_7 ?_
  refine g_nm (fun S2 hS2 => ?_)
  exact g_vret S hr hlocks dX3_hire_10 (by subst hS2 hS1; rfl) (Nat.le_of_ble_eq_true rfl) (Nat.le_of_ble_eq_true rfl)
def sX3_setOut_s (σ : gS) (k : Nat) : gS := let S1 := gu σ k 2 (1 : Int32); let S2 := gu S1 k 3 (S1.1 k 0); S2
theorem fX3_setOut (σ : gS) (k : Nat) (x : Nat) (hxk : x ≠ k) : (sX3_setOut_s σ k).1 x = σ.1 x := by
  unfold sX3_setOut_s
  (try dsimp only)
  (repeat' split)
  all_goals (simp [gu_ne, *])
set_option maxRecDepth 100000 in
set_option maxHeartbeats 4000000 in
theorem kX3_setOut (l : Launch) (E : gT) (σ : gS) (k : Nat) (hk : k < 58) (hKk : gK k = 3) : gMv l yX3_setOut wsX3_setOut ({ frames := 0, cells := 0, slots := 0, locals := 0 }) 0 0 E σ [.ref (E.2.2 k)] (sX3_setOut_s σ k) := by
  refine g_met (mc := 0) (ms := 0) (nL := 1) (ret := none) (by decide) rfl (lv := [(0, .ref (E.2.2 k))]) rfl (Nat.le_of_ble_eq_true rfl) ?_
  intro p e s m below meth c S hr hlocks hC
  have hiX3 : ∀ w ∈ wsX30, w ∈ wsX3_setOut := by decide +kernel
  refine g_aload_n S 0 dX3_setOut_0 rfl ?_
  refine g_const S dX3_setOut_1 (v := 1) rfl ?_
  refine gp3 S hC hiX3 hk hKk 2 (by decide) (by decide +kernel) dX3_setOut_2 ?_
  refine g_nm (fun S1 hS1 => ?_)
  refine g_aload_n S 0 dX3_setOut_5 rfl ?_
  refine g_aload_n S 0 dX3_setOut_6 rfl ?_
  refine gg3 S hC hiX3 hk hKk 0 (by decide) (by decide +kernel) dX3_setOut_7 ?_
  refine gp3 S hC hiX3 hk hKk 3 (by decide) (by decide +kernel) dX3_setOut_10 ?_
  refine g_nm (fun S2 hS2 => ?_)
  exact g_vret S hr hlocks dX3_setOut_13 (by subst hS2 hS1; rfl) (Nat.le_of_ble_eq_true rfl) (Nat.le_of_ble_eq_true rfl)
def sX3_comeHome_r (σ : gS) (k : Nat) : Int32 := if σ.1 k 2 = (1 : Int32) then (σ.1 k 1) else ((0 : Int32))
def sX3_comeHome_s (σ : gS) (k : Nat) : gS := if σ.1 k 2 = (1 : Int32) then (let S2 := gu σ k 2 (0 : Int32); S2) else (let S1 := gu σ k 2 (0 : Int32); S1)
theorem fX3_comeHome (σ : gS) (k : Nat) (x : Nat) (hxk : x ≠ k) : (sX3_comeHome_s σ k).1 x = σ.1 x := by
  unfold sX3_comeHome_s
  (try dsimp only)
  (repeat' split)
  all_goals (simp [gu_ne, *])
set_option maxRecDepth 100000 in
set_option maxHeartbeats 4000000 in
theorem kX3_comeHome (l : Launch) (E : gT) (σ : gS) (k : Nat) (hk : k < 58) (hKk : gK k = 3) : gMi l yX3_comeHome wsX3_comeHome ({ frames := 0, cells := 0, slots := 0, locals := 0 }) 0 0 E σ [.ref (E.2.2 k)] (sX3_comeHome_r σ k) (sX3_comeHome_s σ k) := by
  refine g_met (mc := 0) (ms := 0) (nL := 2) (ret := (some .int)) (by decide) rfl (lv := [(0, .ref (E.2.2 k))]) rfl (Nat.le_of_ble_eq_true rfl) ?_
  intro p e s m below meth c S hr hlocks hC
  have hiX3 : ∀ w ∈ wsX30, w ∈ wsX3_comeHome := by decide +kernel
  refine g_aload_n S 0 dX3_comeHome_0 rfl ?_
  refine gg3 S hC hiX3 hk hKk 2 (by decide) (by decide +kernel) dX3_comeHome_1 ?_
  refine g_const S dX3_comeHome_4 (v := 1) rfl ?_
  refine g_icmp_ne S 15 dX3_comeHome_5 (by decide) (fun c_1 => ?_) (fun c_1 => ?_)
  · skip
    refine g_const S dX3_comeHome_15 (v := 0) rfl ?_
    refine g_istore_n S [(1, .int (0 : Int32)), (0, .ref (E.2.2 k))] dX3_comeHome_16 (by decide) rfl ?_
    refine g_aload_n S 1 dX3_comeHome_17 rfl ?_
    refine g_const S dX3_comeHome_18 (v := 0) rfl ?_
    refine gp3 S hC hiX3 hk hKk 2 (by decide) (by decide +kernel) dX3_comeHome_19 ?_
    refine g_nm (fun S1 hS1 => ?_)
    refine g_iload_n S 0 dX3_comeHome_22 rfl ?_
    exact g_iret S hr hlocks dX3_comeHome_23 (by subst hS1; unfold sX3_comeHome_r; (try dsimp only); rw [if_neg c_1]) (by subst hS1; unfold sX3_comeHome_s; (try dsimp only); rw [if_neg c_1]) (Nat.le_of_ble_eq_true rfl) (Nat.le_of_ble_eq_true rfl)
  · skip
    refine g_aload_n S 0 dX3_comeHome_8 rfl ?_
    refine gg3 S hC hiX3 hk hKk 1 (by decide) (by decide +kernel) dX3_comeHome_9 ?_
    refine g_goto S 16 dX3_comeHome_12 (by decide) ?_
    refine g_istore_n S [(1, .int (σ.1 k 1)), (0, .ref (E.2.2 k))] dX3_comeHome_16 (by decide) rfl ?_
    refine g_aload_n S 1 dX3_comeHome_17 rfl ?_
    refine g_const S dX3_comeHome_18 (v := 0) rfl ?_
    refine gp3 S hC hiX3 hk hKk 2 (by decide) (by decide +kernel) dX3_comeHome_19 ?_
    refine g_nm (fun S2 hS2 => ?_)
    refine g_iload_n S 0 dX3_comeHome_22 rfl ?_
    exact g_iret S hr hlocks dX3_comeHome_23 (by subst hS2; unfold sX3_comeHome_r; (try dsimp only); rw [if_pos c_1]) (by subst hS2; unfold sX3_comeHome_s; (try dsimp only); rw [if_pos c_1]) (Nat.le_of_ble_eq_true rfl) (Nat.le_of_ble_eq_true rfl)
def sX3_travel_r (σ : gS) (k : Nat) (a : Int32) : Int32 := if σ.1 k 2 = 0 then ((0 : Int32)) else (let S1 := gu σ k 3 ((σ.1 k 3) - (1 : Int32)); if S1.1 k 2 = (1 : Int32) then (if S1.1 k 3 = (S1.1 k 0) / (2 : Int32) then (if a = 0 then (if S1.1 k 3 ≤ 0 then (sX3_comeHome_r S1 k) else ((0 : Int32))) else (let S5 := gu S1 k 2 (2 : Int32); let S6 := gu S5 k 3 (10 : Int32); let S7 := gu S6 k 4 ((S6.1 k 4) + (1 : Int32)); if S7.1 k 3 ≤ 0 then (sX3_comeHome_r S7 k) else ((0 : Int32)))) else (if S1.1 k 3 ≤ 0 then (sX3_comeHome_r S1 k) else ((0 : Int32)))) else (if S1.1 k 3 ≤ 0 then (sX3_comeHome_r S1 k) else ((0 : Int32))))
def sX3_travel_s (σ : gS) (k : Nat) (a : Int32) : gS := if σ.1 k 2 = 0 then (σ) else (let S1 := gu σ k 3 ((σ.1 k 3) - (1 : Int32)); if S1.1 k 2 = (1 : Int32) then (if S1.1 k 3 = (S1.1 k 0) / (2 : Int32) then (if a = 0 then (if S1.1 k 3 ≤ 0 then (let S4 := sX3_comeHome_s S1 k; S4) else (S1)) else (let S5 := gu S1 k 2 (2 : Int32); let S6 := gu S5 k 3 (10 : Int32); let S7 := gu S6 k 4 ((S6.1 k 4) + (1 : Int32)); if S7.1 k 3 ≤ 0 then (let S8 := sX3_comeHome_s S7 k; S8) else (S7))) else (if S1.1 k 3 ≤ 0 then (let S3 := sX3_comeHome_s S1 k; S3) else (S1))) else (if S1.1 k 3 ≤ 0 then (let S2 := sX3_comeHome_s S1 k; S2) else (S1)))
theorem fX3_travel (σ : gS) (k : Nat) (a : Int32) (x : Nat) (hxk : x ≠ k) : (sX3_travel_s σ k a).1 x = σ.1 x := by
  unfold sX3_travel_s
  (try dsimp only)
  (repeat' split)
  all_goals (simp [gu_ne, fX3_comeHome, *])
set_option maxRecDepth 100000 in
set_option maxHeartbeats 4000000 in
theorem kX3_travel (l : Launch) (E : gT) (σ : gS) (k : Nat) (hk : k < 58) (hKk : gK k = 3) (a : Int32) : gMi l yX3_travel wsX3_travel ({ frames := 1, cells := 0, slots := 0, locals := 21 }) 0 0 E σ [.ref (E.2.2 k), .int a] (sX3_travel_r σ k a) (sX3_travel_s σ k a) := by
  refine g_met (mc := 0) (ms := 0) (nL := 2) (ret := (some .int)) (by decide) rfl (lv := [(0, .ref (E.2.2 k)), (1, .int a)]) rfl (Nat.le_of_ble_eq_true rfl) ?_
  intro p e s m below meth c S hr hlocks hC
  have hiX3 : ∀ w ∈ wsX30, w ∈ wsX3_travel := by decide +kernel
  refine g_aload_n S 0 dX3_travel_0 rfl ?_
  refine gg3 S hC hiX3 hk hKk 2 (by decide) (by decide +kernel) dX3_travel_1 ?_
  refine g_if_ne S 9 dX3_travel_4 (by decide) (fun c_1 => ?_) (fun c_1 => ?_)
  · skip
    refine g_aload_n S 0 dX3_travel_9 rfl ?_
    refine g_dup S dX3_travel_10 rfl ?_
    refine gg3 S hC hiX3 hk hKk 3 (by decide) (by decide +kernel) dX3_travel_11 ?_
    refine g_const S dX3_travel_14 (v := 1) rfl ?_
    refine g_isub S dX3_travel_15 ?_
    refine gp3 S hC hiX3 hk hKk 3 (by decide) (by decide +kernel) dX3_travel_16 ?_
    refine g_nm (fun S1 hS1 => ?_)
    refine g_aload_n S 0 dX3_travel_19 rfl ?_
    refine gg3 S hC hiX3 hk hKk 2 (by decide) (by decide +kernel) dX3_travel_20 ?_
    refine g_const S dX3_travel_23 (v := 1) rfl ?_
    refine g_icmp_ne S 65 dX3_travel_24 (by decide) (fun c_2 => ?_) (fun c_2 => ?_)
    · skip
      refine g_aload_n S 0 dX3_travel_65 rfl ?_
      refine gg3 S hC hiX3 hk hKk 3 (by decide) (by decide +kernel) dX3_travel_66 ?_
      refine g_if_le S 76 dX3_travel_69 (by decide) (fun c_3 => ?_) (fun c_3 => ?_)
      · skip
        refine g_aload_n S 0 dX3_travel_76 rfl ?_
        refine g_calli (g_runV S hC (As := []) (rest := []) (k := k) hk hKk (by decide) rfl (kX3_comeHome l E S1 k hk hKk) (cwV 0 S.2.2.2.2 gX3_travel_X3_comeHome rfl rfl rfl (by decide +kernel) ⟨Nat.le_of_ble_eq_true rfl, Nat.le_of_ble_eq_true rfl⟩) rfl rfl (Nat.le_of_ble_eq_true rfl) dX3_travel_77 ⟨Nat.le_of_ble_eq_true rfl, Nat.le_of_ble_eq_true rfl⟩) ?_
        refine g_nm (fun S2 hS2 => ?_)
        exact g_iret S hr hlocks dX3_travel_80 (by subst hS2 hS1; unfold sX3_travel_r; (try dsimp only); rw [if_neg c_1, if_neg c_2, if_pos c_3]) (by subst hS2 hS1; unfold sX3_travel_s; (try dsimp only); rw [if_neg c_1, if_neg c_2, if_pos c_3]) (Nat.le_of_ble_eq_true rfl) (Nat.le_of_ble_eq_true rfl)
      · skip
        refine g_const S dX3_travel_72 (v := 0) rfl ?_
        refine g_goto S 80 dX3_travel_73 (by decide) ?_
        exact g_iret S hr hlocks dX3_travel_80 (by subst hS1; unfold sX3_travel_r; (try dsimp only); rw [if_neg c_1, if_neg c_2, if_neg c_3]) (by subst hS1; unfold sX3_travel_s; (try dsimp only); rw [if_neg c_1, if_neg c_2, if_neg c_3]) (Nat.le_of_ble_eq_true rfl) (Nat.le_of_ble_eq_true rfl)
    · skip
      refine g_aload_n S 0 dX3_travel_27 rfl ?_
      refine gg3 S hC hiX3 hk hKk 3 (by decide) (by decide +kernel) dX3_travel_28 ?_
      refine g_aload_n S 0 dX3_travel_31 rfl ?_
      refine gg3 S hC hiX3 hk hKk 0 (by decide) (by decide +kernel) dX3_travel_32 ?_
      refine g_const S dX3_travel_35 (v := 2) rfl ?_
      refine g_idiv S dX3_travel_36 (by decide) ?_
      refine g_icmp_ne S 65 dX3_travel_37 (by decide) (fun c_4 => ?_) (fun c_4 => ?_)
      · skip
        refine g_aload_n S 0 dX3_travel_65 rfl ?_
        refine gg3 S hC hiX3 hk hKk 3 (by decide) (by decide +kernel) dX3_travel_66 ?_
        refine g_if_le S 76 dX3_travel_69 (by decide) (fun c_5 => ?_) (fun c_5 => ?_)
        · skip
          refine g_aload_n S 0 dX3_travel_76 rfl ?_
          refine g_calli (g_runV S hC (As := []) (rest := []) (k := k) hk hKk (by decide) rfl (kX3_comeHome l E S1 k hk hKk) (cwV 0 S.2.2.2.2 gX3_travel_X3_comeHome rfl rfl rfl (by decide +kernel) ⟨Nat.le_of_ble_eq_true rfl, Nat.le_of_ble_eq_true rfl⟩) rfl rfl (Nat.le_of_ble_eq_true rfl) dX3_travel_77 ⟨Nat.le_of_ble_eq_true rfl, Nat.le_of_ble_eq_true rfl⟩) ?_
          refine g_nm (fun S3 hS3 => ?_)
          exact g_iret S hr hlocks dX3_travel_80 (by subst hS3 hS1; unfold sX3_travel_r; (try dsimp only); rw [if_neg c_1, if_pos c_2, if_neg c_4, if_pos c_5]) (by subst hS3 hS1; unfold sX3_travel_s; (try dsimp only); rw [if_neg c_1, if_pos c_2, if_neg c_4, if_pos c_5]) (Nat.le_of_ble_eq_true rfl) (Nat.le_of_ble_eq_true rfl)
        · skip
          refine g_const S dX3_travel_72 (v := 0) rfl ?_
          refine g_goto S 80 dX3_travel_73 (by decide) ?_
          exact g_iret S hr hlocks dX3_travel_80 (by subst hS1; unfold sX3_travel_r; (try dsimp only); rw [if_neg c_1, if_pos c_2, if_neg c_4, if_neg c_5]) (by subst hS1; unfold sX3_travel_s; (try dsimp only); rw [if_neg c_1, if_pos c_2, if_neg c_4, if_neg c_5]) (Nat.le_of_ble_eq_true rfl) (Nat.le_of_ble_eq_true rfl)
      · skip
        refine g_iload_n S 1 dX3_travel_40 rfl ?_
        refine g_if_eq S 65 dX3_travel_41 (by decide) (fun c_6 => ?_) (fun c_6 => ?_)
        · skip
          refine g_aload_n S 0 dX3_travel_65 rfl ?_
          refine gg3 S hC hiX3 hk hKk 3 (by decide) (by decide +kernel) dX3_travel_66 ?_
          refine g_if_le S 76 dX3_travel_69 (by decide) (fun c_7 => ?_) (fun c_7 => ?_)
          · skip
            refine g_aload_n S 0 dX3_travel_76 rfl ?_
            refine g_calli (g_runV S hC (As := []) (rest := []) (k := k) hk hKk (by decide) rfl (kX3_comeHome l E S1 k hk hKk) (cwV 0 S.2.2.2.2 gX3_travel_X3_comeHome rfl rfl rfl (by decide +kernel) ⟨Nat.le_of_ble_eq_true rfl, Nat.le_of_ble_eq_true rfl⟩) rfl rfl (Nat.le_of_ble_eq_true rfl) dX3_travel_77 ⟨Nat.le_of_ble_eq_true rfl, Nat.le_of_ble_eq_true rfl⟩) ?_
            refine g_nm (fun S4 hS4 => ?_)
            exact g_iret S hr hlocks dX3_travel_80 (by subst hS4 hS1; unfold sX3_travel_r; (try dsimp only); rw [if_neg c_1, if_pos c_2, if_pos c_4, if_pos c_6, if_pos c_7]) (by subst hS4 hS1; unfold sX3_travel_s; (try dsimp only); rw [if_neg c_1, if_pos c_2, if_pos c_4, if_pos c_6, if_pos c_7]) (Nat.le_of_ble_eq_true rfl) (Nat.le_of_ble_eq_true rfl)
          · skip
            refine g_const S dX3_travel_72 (v := 0) rfl ?_
            refine g_goto S 80 dX3_travel_73 (by decide) ?_
            exact g_iret S hr hlocks dX3_travel_80 (by subst hS1; unfold sX3_travel_r; (try dsimp only); rw [if_neg c_1, if_pos c_2, if_pos c_4, if_pos c_6, if_neg c_7]) (by subst hS1; unfold sX3_travel_s; (try dsimp only); rw [if_neg c_1, if_pos c_2, if_pos c_4, if_pos c_6, if_neg c_7]) (Nat.le_of_ble_eq_true rfl) (Nat.le_of_ble_eq_true rfl)
        · skip
          refine g_aload_n S 0 dX3_travel_44 rfl ?_
          refine g_const S dX3_travel_45 (v := 2) rfl ?_
          refine gp3 S hC hiX3 hk hKk 2 (by decide) (by decide +kernel) dX3_travel_46 ?_
          refine g_nm (fun S5 hS5 => ?_)
          refine g_aload_n S 0 dX3_travel_49 rfl ?_
          refine g_bipush S dX3_travel_50 (v := 10) rfl ?_
          refine gp3 S hC hiX3 hk hKk 3 (by decide) (by decide +kernel) dX3_travel_52 ?_
          refine g_nm (fun S6 hS6 => ?_)
          refine g_aload_n S 0 dX3_travel_55 rfl ?_
          refine g_dup S dX3_travel_56 rfl ?_
          refine gg3 S hC hiX3 hk hKk 4 (by decide) (by decide +kernel) dX3_travel_57 ?_
          refine g_const S dX3_travel_60 (v := 1) rfl ?_
          refine g_iadd S dX3_travel_61 ?_
          refine gp3 S hC hiX3 hk hKk 4 (by decide) (by decide +kernel) dX3_travel_62 ?_
          refine g_nm (fun S7 hS7 => ?_)
          refine g_aload_n S 0 dX3_travel_65 rfl ?_
          refine gg3 S hC hiX3 hk hKk 3 (by decide) (by decide +kernel) dX3_travel_66 ?_
          refine g_if_le S 76 dX3_travel_69 (by decide) (fun c_8 => ?_) (fun c_8 => ?_)
          · skip
            refine g_aload_n S 0 dX3_travel_76 rfl ?_
            refine g_calli (g_runV S hC (As := []) (rest := []) (k := k) hk hKk (by decide) rfl (kX3_comeHome l E S7 k hk hKk) (cwV 0 S.2.2.2.2 gX3_travel_X3_comeHome rfl rfl rfl (by decide +kernel) ⟨Nat.le_of_ble_eq_true rfl, Nat.le_of_ble_eq_true rfl⟩) rfl rfl (Nat.le_of_ble_eq_true rfl) dX3_travel_77 ⟨Nat.le_of_ble_eq_true rfl, Nat.le_of_ble_eq_true rfl⟩) ?_
            refine g_nm (fun S8 hS8 => ?_)
            exact g_iret S hr hlocks dX3_travel_80 (by subst hS8 hS7 hS6 hS5 hS1; unfold sX3_travel_r; (try dsimp only); rw [if_neg c_1, if_pos c_2, if_pos c_4, if_neg c_6, if_pos c_8]) (by subst hS8 hS7 hS6 hS5 hS1; unfold sX3_travel_s; (try dsimp only); rw [if_neg c_1, if_pos c_2, if_pos c_4, if_neg c_6, if_pos c_8]) (Nat.le_of_ble_eq_true rfl) (Nat.le_of_ble_eq_true rfl)
          · skip
            refine g_const S dX3_travel_72 (v := 0) rfl ?_
            refine g_goto S 80 dX3_travel_73 (by decide) ?_
            exact g_iret S hr hlocks dX3_travel_80 (by subst hS7 hS6 hS5 hS1; unfold sX3_travel_r; (try dsimp only); rw [if_neg c_1, if_pos c_2, if_pos c_4, if_neg c_6, if_neg c_8]) (by subst hS7 hS6 hS5 hS1; unfold sX3_travel_s; (try dsimp only); rw [if_neg c_1, if_pos c_2, if_pos c_4, if_neg c_6, if_neg c_8]) (Nat.le_of_ble_eq_true rfl) (Nat.le_of_ble_eq_true rfl)
  · skip
    refine g_const S dX3_travel_7 (v := 0) rfl ?_
    exact g_iret S hr hlocks dX3_travel_8 (by rw [sX3_travel_r, if_pos c_1]) (by rw [sX3_travel_s, if_pos c_1]) (Nat.le_of_ble_eq_true rfl) (Nat.le_of_ble_eq_true rfl)
def sX3_size_r (σ : gS) (k : Nat) : Int32 := (5 : Int32)
set_option maxRecDepth 100000 in
set_option maxHeartbeats 4000000 in
theorem kX3_size (l : Launch) (E : gT) (σ : gS) (k : Nat) (hk : k < 58) (hKk : gK k = 3) : gMi l yX3_size wsX3_size ({ frames := 0, cells := 0, slots := 0, locals := 0 }) 0 0 E σ [.ref (E.2.2 k)] (sX3_size_r σ k) σ := by
  refine g_met (mc := 0) (ms := 0) (nL := 1) (ret := (some .int)) (by decide) rfl (lv := [(0, .ref (E.2.2 k))]) rfl (Nat.le_of_ble_eq_true rfl) ?_
  intro p e s m below meth c S hr hlocks hC
  refine g_const S dX3_size_0 (v := 5) rfl ?_
  exact g_iret S hr hlocks dX3_size_1 rfl rfl (Nat.le_of_ble_eq_true rfl) (Nat.le_of_ble_eq_true rfl)
def sX3_tell_r (σ : gS) (k w : Nat) : Int32 := σ.1 k w
set_option maxRecDepth 100000 in
set_option maxHeartbeats 4000000 in
theorem kX3_tell (l : Launch) (E : gT) (σ : gS) (k : Nat) (hk : k < 58) (hKk : gK k = 3) (w : Nat) (hw : w < 5) : gMi l yX3_tell wsX3_tell ({ frames := 0, cells := 0, slots := 0, locals := 0 }) 0 0 E σ [.ref (E.2.2 k), .int (nI w)] (sX3_tell_r σ k w) σ := by
  refine g_met (mc := 0) (ms := 0) (nL := 2) (ret := (some .int)) (by decide) rfl (lv := [(0, .ref (E.2.2 k)), (1, .int (nI w))]) rfl (Nat.le_of_ble_eq_true rfl) ?_
  intro p e s m below meth c S hr hlocks hC
  have hiX3 : ∀ w ∈ wsX30, w ∈ wsX3_tell := by decide +kernel
  rcases (show w = 0 ∨ w = 1 ∨ w = 2 ∨ w = 3 ∨ w = 4 by omega) with rfl | rfl | rfl | rfl | rfl
  · skip
    refine g_iload_n S 1 dX3_tell_0 rfl ?_
    refine g_tabIn S 32 dX3_tell_1 (by decide) (by decide) rfl (by decide) ?_
    refine g_aload_n S 0 dX3_tell_32 rfl ?_
    refine gg3 S hC hiX3 hk hKk 0 (by decide) (by decide +kernel) dX3_tell_33 ?_
    exact g_iret S hr hlocks dX3_tell_36 rfl rfl (Nat.le_of_ble_eq_true rfl) (Nat.le_of_ble_eq_true rfl)
  · skip
    refine g_iload_n S 1 dX3_tell_0 rfl ?_
    refine g_tabIn S 37 dX3_tell_1 (by decide) (by decide) rfl (by decide) ?_
    refine g_aload_n S 0 dX3_tell_37 rfl ?_
    refine gg3 S hC hiX3 hk hKk 1 (by decide) (by decide +kernel) dX3_tell_38 ?_
    exact g_iret S hr hlocks dX3_tell_41 rfl rfl (Nat.le_of_ble_eq_true rfl) (Nat.le_of_ble_eq_true rfl)
  · skip
    refine g_iload_n S 1 dX3_tell_0 rfl ?_
    refine g_tabIn S 42 dX3_tell_1 (by decide) (by decide) rfl (by decide) ?_
    refine g_aload_n S 0 dX3_tell_42 rfl ?_
    refine gg3 S hC hiX3 hk hKk 2 (by decide) (by decide +kernel) dX3_tell_43 ?_
    exact g_iret S hr hlocks dX3_tell_46 rfl rfl (Nat.le_of_ble_eq_true rfl) (Nat.le_of_ble_eq_true rfl)
  · skip
    refine g_iload_n S 1 dX3_tell_0 rfl ?_
    refine g_tabIn S 47 dX3_tell_1 (by decide) (by decide) rfl (by decide) ?_
    refine g_aload_n S 0 dX3_tell_47 rfl ?_
    refine gg3 S hC hiX3 hk hKk 3 (by decide) (by decide +kernel) dX3_tell_48 ?_
    exact g_iret S hr hlocks dX3_tell_51 rfl rfl (Nat.le_of_ble_eq_true rfl) (Nat.le_of_ble_eq_true rfl)
  · skip
    refine g_iload_n S 1 dX3_tell_0 rfl ?_
    refine g_tabOut S 52 dX3_tell_1 (by decide) (by decide) ?_
    refine g_aload_n S 0 dX3_tell_52 rfl ?_
    refine gg3 S hC hiX3 hk hKk 4 (by decide) (by decide +kernel) dX3_tell_53 ?_
    exact g_iret S hr hlocks dX3_tell_56 rfl rfl (Nat.le_of_ble_eq_true rfl) (Nat.le_of_ble_eq_true rfl)
