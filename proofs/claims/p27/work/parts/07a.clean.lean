/-! the class's calls where nothing is refused -/
theorem Met.of_vx {l : Launch} {y : MethodName} {ws : List Cond} {rm : Room} {Pc : Array Value → State → Prop} {Qc : Array Value → State → Outcome → State → Prop} {XC : String → State → State → Prop} {mc ms : Nat} {free : Addr → Prop} (h : vx_Met l y ws rm Pc Qc XC mc ms free) (hx : ∀ e st t, ¬ XC e st t) : Met l y ws rm Pc Qc mc ms free := by
  refine MetFree.mono h (fun _ _ h => h) (fun _ _ _ _ _ h => h) (fun a s o t _ hq => ?_)
  rcases hq with hq | ⟨q, _, e, ce, L, hX, _⟩
  · exact hq
  · exact absurd hX (hx e s t)
theorem gYi.q {l : Launch} {y : MethodName} {ws : List Cond} {rm : Room} {mc ms : Nat} {E : gT} {σ σ' τ : gS} {av : List Value} {th : Nat} {r r' : Int32} (h : gYi l y ws rm mc ms E σ av th r σ') (h0 : th = 0) (hr : r = r') (hs : σ' = τ) : gMi l y ws rm mc ms E σ av r' τ := by
  subst hr; subst hs
  intro sz
  refine MetFree.mono (Met.of_vx (h sz) (fun e st t hX => ?_)) (fun _ _ h => h) (fun _ _ _ _ _ h => h) (fun a s o t _ hq => ?_)
  · obtain ⟨_, hp, _⟩ := hX
    exact hp h0
  · obtain ⟨⟨⟨r', u, e1, ⟨_, e2⟩, e3⟩, hF⟩, hL⟩ := hq
    exact ⟨⟨⟨r', u, e1, e2, e3⟩, hF⟩, hL⟩
theorem ci0 {σ : gS} {i n : Nat} {N : Int32} (hN : N = nI n) (hi : i < n) (hn : n < 2 ^ 31) : sX7_checkIndex_t σ (nI i) N = 0 := by
  subst hN
  unfold sX7_checkIndex_t
  rw [if_neg (nI_pos (by omega)), if_pos (nI_lt hi hn)]
theorem cn0 {σ : gS} {x lo hi : Nat} {A B : Int32} (hA : A = nI lo) (hB : B = nI hi) (h1 : lo ≤ x) (h2 : x ≤ hi) (h3 : hi < 2 ^ 31) : sX7_checkNumber_t σ (nI x) A B = 0 := by
  subst hA; subst hB
  unfold sX7_checkNumber_t
  rw [if_neg (nI_nlt h1 (by omega)), if_pos (nI_le h2 h3)]
theorem q_count (l : Launch) (hfl : l.stackTraces = false) (E : gT) (σ : gS) (w : Nat) (hw : w < 9) : gMi l yX7_count wsX7_count ({ frames := 8, cells := 1, slots := 6, locals := 132 }) 1 6 E σ [.ref (E.2.2 0), .int (nI w)] (sX6_tell_r σ 1 w) σ := by
  have h0 : sX7_checkIndex_t σ (nI w) (sX6_size_r σ 1) = 0 := ci0 (n := 9) rfl hw (by decide)
  have h1 : sX7_ask_k5_t σ 1 (nI w) = 0 := by unfold sX7_ask_k5_t; rw [if_pos h0]
  refine (kX7_count l hfl E σ (nI w)).q (by unfold sX7_count_t; rw [if_pos h1]) ?_ rfl
  unfold sX7_count_r sX7_ask_k5_r
  rw [if_pos h1, if_pos h0, nI_clamp (by omega)]
theorem q_about (l : Launch) (hfl : l.stackTraces = false) (E : gT) (σ : gS) (hok : tOK σ 1) (i w : Nat) (hi : i < tB σ 1 5) (hw : w < 3) : gMi l yX7_about wsX7_about ({ frames := 8, cells := 2, slots := 12, locals := 132 }) 2 12 E σ [.ref (E.2.2 0), .int (nI i), .int (nI w)] (σ.1 (7 + i) w) σ := by
  have hb := hok.le5
  have hc : sX7_checkIndex_t σ (nI i) (σ.1 1 5) = 0 := ci0 (hok.eq 5 (by decide) (by decide)) hi (by omega)
  have e1 : (nI i).toNatClampNeg = i := nI_clamp (by omega)
  have h0 : sX7_checkIndex_t σ (nI w) (sX0_size_r σ (1 + 6 + i)) = 0 := ci0 (n := 3) rfl hw (by decide)
  have h1 : sX7_ask_k0_t σ (1 + 6 + i) (nI w) = 0 := by unfold sX7_ask_k0_t; rw [if_pos h0]
  refine (kX7_about l hfl E σ (nI i) (nI w) hok).q (by unfold sX7_about_t; rw [if_pos hc, e1, if_pos h1]) ?_ rfl
  unfold sX7_about_r
  rw [if_pos hc, e1, if_pos h1]
  unfold sX7_ask_k0_r
  rw [if_pos h0, nI_clamp (by omega)]
  rfl
theorem q_roast (l : Launch) (hfl : l.stackTraces = false) (E : gT) (σ : gS) (hok : tOK σ 1) (i w : Nat) (hi : i < tB σ 1 6) (hw : w < 6) : gMi l yX7_roast wsX7_roast ({ frames := 8, cells := 2, slots := 12, locals := 132 }) 2 12 E σ [.ref (E.2.2 0), .int (nI i), .int (nI w)] (sX2_tell_r σ (11 + i) w) σ := by
  have hb := hok.le6
  have hc : sX7_checkIndex_t σ (nI i) (σ.1 1 6) = 0 := ci0 (hok.eq 6 (by decide) (by decide)) hi (by omega)
  have e1 : (nI i).toNatClampNeg = i := nI_clamp (by omega)
  have h0 : sX7_checkIndex_t σ (nI w) (sX2_size_r σ (1 + 10 + i)) = 0 := ci0 (n := 6) rfl hw (by decide)
  have h1 : sX7_ask_k2_t σ (1 + 10 + i) (nI w) = 0 := by unfold sX7_ask_k2_t; rw [if_pos h0]
  refine (kX7_roast l hfl E σ (nI i) (nI w) hok).q (by unfold sX7_roast_t; rw [if_pos hc, e1, if_pos h1]) ?_ rfl
  unfold sX7_roast_r
  rw [if_pos hc, e1, if_pos h1]
  unfold sX7_ask_k2_r
  rw [if_pos h0, nI_clamp (by omega)]
theorem q_told (l : Launch) (hfl : l.stackTraces = false) (E : gT) (σ : gS) (hok : tOK σ 1) (i w : Nat) (hi : i < tB σ 1 7) (hw : w < 5) : gMi l yX7_told wsX7_told ({ frames := 8, cells := 2, slots := 12, locals := 132 }) 2 12 E σ [.ref (E.2.2 0), .int (nI i), .int (nI w)] (σ.1 (15 + i) w) σ := by
  have hb := hok.le7
  have hc : sX7_checkIndex_t σ (nI i) (σ.1 1 7) = 0 := ci0 (hok.eq 7 (by decide) (by decide)) hi (by omega)
  have e1 : (nI i).toNatClampNeg = i := nI_clamp (by omega)
  have h0 : sX7_checkIndex_t σ (nI w) (sX3_size_r σ (1 + 14 + i)) = 0 := ci0 (n := 5) rfl hw (by decide)
  have h1 : sX7_ask_k3_t σ (1 + 14 + i) (nI w) = 0 := by unfold sX7_ask_k3_t; rw [if_pos h0]
  refine (kX7_told l hfl E σ (nI i) (nI w) hok).q (by unfold sX7_told_t; rw [if_pos hc, e1, if_pos h1]) ?_ rfl
  unfold sX7_told_r
  rw [if_pos hc, e1, if_pos h1]
  unfold sX7_ask_k3_r
  rw [if_pos h0, nI_clamp (by omega)]
  rfl
theorem q_ration (l : Launch) (hfl : l.stackTraces = false) (E : gT) (σ : gS) (hok : tOK σ 1) (i w : Nat) (hi : i < tB σ 1 8) (hw : w < 5) : gMi l yX7_ration wsX7_ration ({ frames := 8, cells := 2, slots := 12, locals := 132 }) 2 12 E σ [.ref (E.2.2 0), .int (nI i), .int (nI w)] (σ.1 (19 + i) w) σ := by
  have hb := hok.le8
  have hc : sX7_checkIndex_t σ (nI i) (σ.1 1 8) = 0 := ci0 (hok.eq 8 (by decide) (by decide)) hi (by omega)
  have e1 : (nI i).toNatClampNeg = i := nI_clamp (by omega)
  have h0 : sX7_checkIndex_t σ (nI w) (sX1_size_r σ (1 + 18 + i)) = 0 := ci0 (n := 5) rfl hw (by decide)
  have h1 : sX7_ask_k1_t σ (1 + 18 + i) (nI w) = 0 := by unfold sX7_ask_k1_t; rw [if_pos h0]
  refine (kX7_ration l hfl E σ (nI i) (nI w) hok).q (by unfold sX7_ration_t; rw [if_pos hc, e1, if_pos h1]) ?_ rfl
  unfold sX7_ration_r
  rw [if_pos hc, e1, if_pos h1]
  unfold sX7_ask_k1_r
  rw [if_pos h0, nI_clamp (by omega)]
  rfl
theorem q_pass (l : Launch) (hfl : l.stackTraces = false) (E : gT) (σ : gS) (hok : tOK σ 1) (d : Nat) (h1 : 1 ≤ d) (h2 : d ≤ 60) : gMi l yX7_pass wsX7_pass ({ frames := 7, cells := 1, slots := 6, locals := 133 }) 1 6 E σ [.ref (E.2.2 0), .int (nI d)] (sX6_live_r σ 1 d) (sX6_live_s σ 1 d) := by
  have h0 : sX7_checkNumber_t σ (nI d) (1 : Int32) (60 : Int32) = 0 := cn0 (lo := 1) (hi := 60) rfl rfl h1 h2 (by decide)
  have e1 : (nI d).toNatClampNeg = d := nI_clamp (by omega)
  refine (kX7_pass l hfl E σ (nI d) hok).q (by unfold sX7_pass_t; rw [if_pos h0]) ?_ ?_
  · unfold sX7_pass_r
    rw [if_pos h0, e1]
  · unfold sX7_pass_s
    rw [if_pos h0, e1]
theorem q_take (l : Launch) (hfl : l.stackTraces = false) (E : gT) (σ : gS) (hok : tOK σ 1) (i : Nat) (hi : i < tB σ 1 6) (hk : ¬ σ.1 (11 + i) 2 = -1) : gMi l yX7_take wsX7_take ({ frames := 7, cells := 2, slots := 12, locals := 111 }) 2 12 E σ [.ref (E.2.2 0), .int (nI i)] (sX2_partsAt_r σ (11 + i) (σ.1 (11 + i) 4)) (sX2_fill_s (sX4_addRoasted_s σ 6 (σ.1 (11 + i) 2) (sX2_partsAt_r σ (11 + i) (σ.1 (11 + i) 4))) (11 + i) (-1) 0) := by
  have hb := hok.le6
  have hc : sX7_checkIndex_t σ (nI i) (σ.1 1 6) = 0 := ci0 (hok.eq 6 (by decide) (by decide)) hi (by omega)
  have e1 : (nI i).toNatClampNeg = i := nI_clamp (by omega)
  refine (kX7_take l hfl E σ (nI i) hok).q (by unfold sX7_take_t; rw [if_pos hc, e1]; exact if_neg hk) ?_ ?_
  · unfold sX7_take_r
    rw [if_pos hc, e1]
    exact if_neg hk
  · unfold sX7_take_s
    rw [if_pos hc, e1]
    exact if_neg hk
theorem q_send (l : Launch) (hfl : l.stackTraces = false) (E : gT) (σ : gS) (hok : tOK σ 1) (i : Nat) (hi : i < tB σ 1 7) (hk : σ.1 (15 + i) 2 = 0) : gMi l yX7_send wsX7_send ({ frames := 7, cells := 2, slots := 12, locals := 111 }) 2 12 E σ [.ref (E.2.2 0), .int (nI i)] ((sX3_setOut_s σ (15 + i)).1 (15 + i) 3) (sX3_setOut_s σ (15 + i)) := by
  have hb := hok.le7
  have hc : sX7_checkIndex_t σ (nI i) (σ.1 1 7) = 0 := ci0 (hok.eq 7 (by decide) (by decide)) hi (by omega)
  have e1 : (nI i).toNatClampNeg = i := nI_clamp (by omega)
  refine (kX7_send l hfl E σ (nI i) hok).q (by unfold sX7_send_t; rw [if_pos hc, e1]; exact if_pos hk) ?_ ?_
  · unfold sX7_send_r
    rw [if_pos hc, e1]
    exact if_pos hk
  · unfold sX7_send_s
    rw [if_pos hc, e1]
    exact if_pos hk
theorem q_setPatrol (l : Launch) (hfl : l.stackTraces = false) (E : gT) (σ : gS) (x : Nat) (hx : x ≤ 127) : gMi l yX7_setPatrol wsX7_setPatrol ({ frames := 7, cells := 1, slots := 6, locals := 112 }) 1 6 E σ [.ref (E.2.2 0), .int (nI x)] (σ.1 1 10) (gu σ 1 10 (nI x)) := by
  have h0 : sX7_checkNumber_t σ (nI x) (0 : Int32) (127 : Int32) = 0 := cn0 (lo := 0) (hi := 127) rfl rfl (by omega) hx (by decide)
  refine (kX7_setPatrol l hfl E σ (nI x)).q (by unfold sX7_setPatrol_t; rw [if_pos h0]) ?_ ?_
  · unfold sX7_setPatrol_r
    rw [if_pos h0]
  · unfold sX7_setPatrol_s
    rw [if_pos h0]
theorem q_setShare (l : Launch) (hfl : l.stackTraces = false) (E : gT) (σ : gS) (x : Nat) (hx : x ≤ 10) : gMi l yX7_setShare wsX7_setShare ({ frames := 7, cells := 1, slots := 6, locals := 112 }) 1 6 E σ [.ref (E.2.2 0), .int (nI x)] (σ.1 6 4) (gu σ 6 4 (nI x)) := by
  have h0 : sX7_checkNumber_t σ (nI x) (0 : Int32) (10 : Int32) = 0 := cn0 (lo := 0) (hi := 10) rfl rfl (by omega) hx (by decide)
  refine (kX7_setShare l hfl E σ (nI x)).q (by unfold sX7_setShare_t; rw [if_pos h0]) ?_ ?_
  · unfold sX7_setShare_r
    rw [if_pos h0]
  · unfold sX7_setShare_s
    rw [if_pos h0]
theorem q_setHeat (l : Launch) (hfl : l.stackTraces = false) (E : gT) (σ : gS) (hok : tOK σ 1) (i x : Nat) (hi : i < tB σ 1 6) (hx : x ≤ 9) : gMi l yX7_setHeat wsX7_setHeat ({ frames := 7, cells := 2, slots := 12, locals := 112 }) 2 12 E σ [.ref (E.2.2 0), .int (nI i), .int (nI x)] (σ.1 (11 + i) 1) (gu σ (11 + i) 1 (nI x)) := by
  have hb := hok.le6
  have hc : sX7_checkIndex_t σ (nI i) (σ.1 1 6) = 0 := ci0 (hok.eq 6 (by decide) (by decide)) hi (by omega)
  have e1 : (nI i).toNatClampNeg = i := nI_clamp (by omega)
  have h0 : sX7_checkNumber_t σ (nI x) (0 : Int32) (9 : Int32) = 0 := cn0 (lo := 0) (hi := 9) rfl rfl (by omega) hx (by decide)
  refine (kX7_setHeat l hfl E σ (nI i) (nI x) hok).q (by unfold sX7_setHeat_t; rw [if_pos hc, if_pos h0]) ?_ ?_
  · unfold sX7_setHeat_r
    rw [if_pos hc, if_pos h0, e1]
  · unfold sX7_setHeat_s
    rw [if_pos hc, if_pos h0, e1]
theorem q_dig (l : Launch) (hfl : l.stackTraces = false) (E : gT) (σ : gS) (hok : tOK σ 1) (i x : Nat) (hi : i < tB σ 1 5) (h1 : 1 ≤ x) (h2 : x ≤ 99) (h3 : ¬ σ.1 (7 + i) 2 < nI x) : gMi l yX7_dig wsX7_dig ({ frames := 7, cells := 3, slots := 18, locals := 112 }) 3 18 E σ [.ref (E.2.2 0), .int (nI i), .int (nI x)] (σ.1 (7 + i) 2 - nI x) (gu (gu σ (7 + i) 2 (σ.1 (7 + i) 2 - nI x)) 6 0 (σ.1 6 0 + nI x)) := by
  have hb := hok.le5
  have hc : sX7_checkIndex_t σ (nI i) (σ.1 1 5) = 0 := ci0 (hok.eq 5 (by decide) (by decide)) hi (by omega)
  have e1 : (nI i).toNatClampNeg = i := nI_clamp (by omega)
  have h0 : sX7_checkNumber_t σ (nI x) (1 : Int32) (99 : Int32) = 0 := cn0 (lo := 1) (hi := 99) rfl rfl h1 h2 (by decide)
  have h9 : ¬ σ.1 (1 + 6 + i) 2 < nI x := h3
  have hs : sX4_add_s (gu σ (1 + 6 + i) 2 (σ.1 (1 + 6 + i) 2 - nI x)) 6 0 (nI x) = gu (gu σ (7 + i) 2 (σ.1 (7 + i) 2 - nI x)) 6 0 (σ.1 6 0 + nI x) := by
    unfold sX4_add_s
    rw [if_pos rfl, gu_ne (by omega)]
  refine (kX7_dig l hfl E σ (nI i) (nI x) hok).q (by unfold sX7_dig_t; rw [if_pos hc, if_pos h0, e1, if_neg h9]) ?_ ?_
  · unfold sX7_dig_r
    rw [if_pos hc, if_pos h0, e1, if_neg h9]
    dsimp only
    rw [hs, gu_ne (by omega), show 1 + 6 + i = 7 + i by omega, gu_at, if_pos rfl]
  · unfold sX7_dig_s
    rw [if_pos hc, if_pos h0, e1, if_neg h9]
    exact hs
theorem q_give (l : Launch) (hfl : l.stackTraces = false) (E : gT) (σ : gS) (k x : Nat) (hk : k < 2) (h1 : 1 ≤ x) (h2 : x ≤ 99) : gMi l yX7_give wsX7_give ({ frames := 7, cells := 2, slots := 12, locals := 112 }) 2 12 E σ [.ref (E.2.2 0), .int (nI k), .int (nI x)] (σ.1 6 k + nI x) (gu σ 6 k (σ.1 6 k + nI x)) := by
  have hc : sX7_checkIndex_t σ (nI k) (2 : Int32) = 0 := ci0 (n := 2) rfl hk (by decide)
  have h0 : sX7_checkNumber_t σ (nI x) (1 : Int32) (99 : Int32) = 0 := cn0 (lo := 1) (hi := 99) rfl rfl h1 h2 (by decide)
  have hs : sX4_add_s σ 6 (nI k) (nI x) = gu σ 6 k (σ.1 6 k + nI x) := by
    unfold sX4_add_s
    rcases (show k = 0 ∨ k = 1 by omega) with rfl | rfl
    · rw [if_pos (by decide)]
    · rw [if_neg (by decide)]
  refine (kX7_give l hfl E σ (nI k) (nI x)).q (by unfold sX7_give_t; rw [if_pos hc, if_pos h0]) ?_ ?_
  · unfold sX7_give_r
    rw [if_pos hc, if_pos h0]
    dsimp only
    rw [hs]
    unfold sX4_stock_r
    rcases (show k = 0 ∨ k = 1 by omega) with rfl | rfl
    · rw [if_pos (by decide), gu_at, if_pos rfl]
    · rw [if_neg (by decide), gu_at, if_pos rfl]
  · unfold sX7_give_s
    rw [if_pos hc, if_pos h0]
    exact hs
theorem q_load (l : Launch) (hfl : l.stackTraces = false) (E : gT) (σ : gS) (hok : tOK σ 1) (i k x hol : Nat) (hi : i < tB σ 1 6) (hk : k < 2) (h1 : 1 ≤ x) (h2 : x ≤ hol) (hh : hol < 2 ^ 31) (hhol : σ.1 (11 + i) 0 = nI hol) (hem : σ.1 (11 + i) 2 = -1) (hst : ¬ σ.1 6 k < nI x) : gMi l yX7_load wsX7_load ({ frames := 7, cells := 5, slots := 30, locals := 112 }) 5 30 E σ [.ref (E.2.2 0), .int (nI i), .int (nI k), .int (nI x)] (σ.1 6 k + -nI x) (sX2_fill_s (gu σ 6 k (σ.1 6 k + -nI x)) (11 + i) (nI k) (nI x)) := by
  have hb := hok.le6
  have hc : sX7_checkIndex_t σ (nI i) (σ.1 1 6) = 0 := ci0 (hok.eq 6 (by decide) (by decide)) hi (by omega)
  have hc2 : sX7_checkIndex_t σ (nI k) (2 : Int32) = 0 := ci0 (n := 2) rfl hk (by decide)
  have e1 : (nI i).toNatClampNeg = i := nI_clamp (by omega)
  have h0 : sX7_checkNumber_t σ (nI x) (1 : Int32) (σ.1 (1 + 10 + i) 0) = 0 := cn0 (lo := 1) (hi := hol) rfl hhol h1 h2 hh
  have hem : σ.1 (1 + 10 + i) 2 = (-1 : Int32) := hem
  have hs0 : sX4_stock_r σ 6 (nI k) = σ.1 6 k := by
    unfold sX4_stock_r
    rcases (show k = 0 ∨ k = 1 by omega) with rfl | rfl
    · rw [if_pos (by decide)]
    · rw [if_neg (by decide)]
  have hst9 : ¬ sX4_stock_r σ 6 (nI k) < nI x := by rw [hs0]; exact hst
  have hs : sX4_add_s σ 6 (nI k) (-nI x) = gu σ 6 k (σ.1 6 k + -nI x) := by
    unfold sX4_add_s
    rcases (show k = 0 ∨ k = 1 by omega) with rfl | rfl
    · rw [if_pos (by decide)]
    · rw [if_neg (by decide)]
  refine (kX7_load l hfl E σ (nI i) (nI k) (nI x) hok).q (by unfold sX7_load_t; rw [if_pos hc, if_pos hc2, e1, if_pos h0, if_pos hem, if_neg hst9]) ?_ ?_
  · unfold sX7_load_r
    rw [if_pos hc, if_pos hc2, e1, if_pos h0, if_pos hem, if_neg hst9]
    dsimp only
    rw [hs]
    unfold sX4_stock_r
    rw [fX2_fill _ _ _ _ _ (by omega)]
    rcases (show k = 0 ∨ k = 1 by omega) with rfl | rfl
    · rw [if_pos (by decide), gu_at, if_pos rfl]
    · rw [if_neg (by decide), gu_at, if_pos rfl]
  · unfold sX7_load_s
    rw [if_pos hc, if_pos hc2, e1, if_pos h0, if_pos hem, if_neg hst9]
    dsimp only
    rw [hs]
theorem q_bed (l : Launch) (hfl : l.stackTraces = false) (E : gT) (σ : gS) (hok : tOK σ 1) (x y : Nat) (hx : x ≤ 9) (h1 : 1 ≤ y) (h2 : y ≤ 99) (hn : tB σ 1 5 < 4) : gMi l yX7_bed wsX7_bed ({ frames := 7, cells := 3, slots := 18, locals := 112 }) 3 18 E σ [.ref (E.2.2 0), .int (nI x), .int (nI y)] (nI (tB σ 1 5)) (gu (gu (gu σ (7 + tB σ 1 5) 0 (nI x)) (7 + tB σ 1 5) 1 (nI y)) 1 5 (nI (tB σ 1 5 + 1))) := by
  have hc : σ.1 1 5 = nI (tB σ 1 5) := hok.eq 5 (by decide) (by decide)
  have hx0 : sX7_checkNumber_t σ (nI x) (0 : Int32) (9 : Int32) = 0 := cn0 (lo := 0) (hi := 9) rfl rfl (by omega) hx (by decide)
  have hy0 : sX7_checkNumber_t σ (nI y) (1 : Int32) (99 : Int32) = 0 := cn0 (lo := 1) (hi := 99) rfl rfl h1 h2 (by decide)
  have h4 : ¬ (4 : Int32) ≤ σ.1 1 5 := by rw [hc]; exact nI_ge (a := tB σ 1 5) (b := 4) hn (by decide)
  have hs : (sX0_lay_s σ (1 + 6 + tB σ 1 5) (nI x) (nI y)).1 1 = σ.1 1 := fX0_lay _ _ _ _ _ (by omega)
  refine (kX7_bed l hfl E σ (nI x) (nI y) hok).q (by unfold sX7_bed_t; rw [if_pos hx0, if_pos hy0, if_neg h4]) ?_ ?_
  · unfold sX7_bed_r
    rw [if_pos hx0, if_pos hy0, if_neg h4]
    dsimp only
    rw [hs]
    exact hc
  · unfold sX7_bed_s
    rw [if_pos hx0, if_pos hy0, if_neg h4]
    dsimp only
    rw [hs, hc, nI_1]
    rfl
theorem q_drum (l : Launch) (hfl : l.stackTraces = false) (E : gT) (σ : gS) (hok : tOK σ 1) (x y : Nat) (hx : 1 ≤ x) (hx2 : x ≤ 40) (h2 : y ≤ 9) (hn : tB σ 1 6 < 4) : gMi l yX7_drum wsX7_drum ({ frames := 7, cells := 3, slots := 18, locals := 112 }) 3 18 E σ [.ref (E.2.2 0), .int (nI x), .int (nI y)] (nI (tB σ 1 6)) (gu (gu (gu σ (11 + tB σ 1 6) 0 (nI x)) (11 + tB σ 1 6) 1 (nI y)) 1 6 (nI (tB σ 1 6 + 1))) := by
  have hc : σ.1 1 6 = nI (tB σ 1 6) := hok.eq 6 (by decide) (by decide)
  have hx0 : sX7_checkNumber_t σ (nI x) (1 : Int32) (40 : Int32) = 0 := cn0 (lo := 1) (hi := 40) rfl rfl hx hx2 (by decide)
  have hy0 : sX7_checkNumber_t σ (nI y) (0 : Int32) (9 : Int32) = 0 := cn0 (lo := 0) (hi := 9) rfl rfl (by omega) h2 (by decide)
  have h4 : ¬ (4 : Int32) ≤ σ.1 1 6 := by rw [hc]; exact nI_ge (a := tB σ 1 6) (b := 4) hn (by decide)
  have hs : (sX2_install_s σ (1 + 10 + tB σ 1 6) (nI x) (nI y)).1 1 = σ.1 1 := fX2_install _ _ _ _ _ (by omega)
  refine (kX7_drum l hfl E σ (nI x) (nI y) hok).q (by unfold sX7_drum_t; rw [if_pos hx0, if_pos hy0, if_neg h4]) ?_ ?_
  · unfold sX7_drum_r
    rw [if_pos hx0, if_pos hy0, if_neg h4]
    dsimp only
    rw [hs]
    exact hc
  · unfold sX7_drum_s
    rw [if_pos hx0, if_pos hy0, if_neg h4]
    dsimp only
    rw [hs, hc, nI_1]
    rfl
theorem q_smuggler (l : Launch) (hfl : l.stackTraces = false) (E : gT) (σ : gS) (hok : tOK σ 1) (x y : Nat) (hx : 2 ≤ x) (hx2 : x ≤ 14) (h1 : 1 ≤ y) (h2 : y ≤ 30) (hn : tB σ 1 7 < 4) : gMi l yX7_smuggler wsX7_smuggler ({ frames := 7, cells := 3, slots := 18, locals := 112 }) 3 18 E σ [.ref (E.2.2 0), .int (nI x), .int (nI y)] (nI (tB σ 1 7)) (gu (gu (gu σ (15 + tB σ 1 7) 0 (nI x)) (15 + tB σ 1 7) 1 (nI y)) 1 7 (nI (tB σ 1 7 + 1))) := by
  have hc : σ.1 1 7 = nI (tB σ 1 7) := hok.eq 7 (by decide) (by decide)
  have hx0 : sX7_checkNumber_t σ (nI x) (2 : Int32) (14 : Int32) = 0 := cn0 (lo := 2) (hi := 14) rfl rfl hx hx2 (by decide)
  have hy0 : sX7_checkNumber_t σ (nI y) (1 : Int32) (30 : Int32) = 0 := cn0 (lo := 1) (hi := 30) rfl rfl h1 h2 (by decide)
  have h4 : ¬ (4 : Int32) ≤ σ.1 1 7 := by rw [hc]; exact nI_ge (a := tB σ 1 7) (b := 4) hn (by decide)
  have hs : (sX3_hire_s σ (1 + 14 + tB σ 1 7) (nI x) (nI y)).1 1 = σ.1 1 := fX3_hire _ _ _ _ _ (by omega)
  refine (kX7_smuggler l hfl E σ (nI x) (nI y) hok).q (by unfold sX7_smuggler_t; rw [if_pos hx0, if_pos hy0, if_neg h4]) ?_ ?_
  · unfold sX7_smuggler_r
    rw [if_pos hx0, if_pos hy0, if_neg h4]
    dsimp only
    rw [hs]
    exact hc
  · unfold sX7_smuggler_s
    rw [if_pos hx0, if_pos hy0, if_neg h4]
    dsimp only
    rw [hs, hc, nI_1]
    rfl
theorem q_card (l : Launch) (hfl : l.stackTraces = false) (E : gT) (σ : gS) (hok : tOK σ 1) (x y : Nat) (hx : 1 ≤ x) (hx2 : x ≤ 9) (h2 : y ≤ 10) (hn : tB σ 1 8 < 10) : gMi l yX7_card wsX7_card ({ frames := 7, cells := 3, slots := 18, locals := 112 }) 3 18 E σ [.ref (E.2.2 0), .int (nI x), .int (nI y)] (nI (tB σ 1 8)) (gu (gu (gu (gu σ (19 + tB σ 1 8) 0 (nI x)) (19 + tB σ 1 8) 1 (nI y)) (19 + tB σ 1 8) 2 (nI x)) 1 8 (nI (tB σ 1 8 + 1))) := by
  have hc : σ.1 1 8 = nI (tB σ 1 8) := hok.eq 8 (by decide) (by decide)
  have hx0 : sX7_checkNumber_t σ (nI x) (1 : Int32) (9 : Int32) = 0 := cn0 (lo := 1) (hi := 9) rfl rfl hx hx2 (by decide)
  have hy0 : sX7_checkNumber_t σ (nI y) (0 : Int32) (10 : Int32) = 0 := cn0 (lo := 0) (hi := 10) rfl rfl (by omega) h2 (by decide)
  have h4 : ¬ (10 : Int32) ≤ σ.1 1 8 := by rw [hc]; exact nI_ge (a := tB σ 1 8) (b := 10) hn (by decide)
  have hs : (sX1_issue_s σ (1 + 18 + tB σ 1 8) (nI x) (nI y)).1 1 = σ.1 1 := fX1_issue _ _ _ _ _ (by omega)
  refine (kX7_card l hfl E σ (nI x) (nI y) hok).q (by unfold sX7_card_t; rw [if_pos hx0, if_pos hy0, if_neg h4]) ?_ ?_
  · unfold sX7_card_r
    rw [if_pos hx0, if_pos hy0, if_neg h4]
    dsimp only
    rw [hs]
    exact hc
  · unfold sX7_card_s
    rw [if_pos hx0, if_pos hy0, if_neg h4]
    dsimp only
    rw [hs, hc, nI_1]
    rfl
