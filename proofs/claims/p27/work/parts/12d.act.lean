section AD
variable {p : Program} {l : Launch} {e : Env} {R : Room} {s : State} {m : MethodId} {args : Array Value} {below : List Frame} {meth : Method} {c : Code} {Q : State → Prop}
variable {cc : ByteArray} {nL : Nat} {Ts : List Cond} {own : String} {E : gT} {σ : gS} {cells slots pc : Nat} {lv : List (Nat × Value)} {rest st0 : List Value}
abbrev gRa (E : gT) (D B S0 sz : Nat) : Array Value → State → Outcome → State → Prop := va_Qi (actQ E D B S0) (fun (u : gT × gS) t => gP u.1 u.2 t.heap) (gA E sz)
set_option maxRecDepth 100000 in
set_option maxHeartbeats 4000000 in
theorem kL_act (l : Launch) (E : gT) (σ : gS) (x : Int32) {D B S0 : Nat} (hfl : l.stackTraces = false) (hX : gXs E = []) (hI : INV E D B S0 σ) (hD : D + 4 < 4999) (hB : B + 1000 < 2 ^ 29) (hS0 : S0 + 110 < 2 ^ 30) : ∀ sz, Met l yL_act wsL_act actR (gPre E σ sz [.ref (E.2.2 0), .ref (E.2.2 29), .int x]) (gRa E D B S0 sz) 8 64 (gA E sz) := by
  refine g_met (mc := 8) (ms := 64) (nL := 21) (ret := some .boolean) (by decide) rfl (lv := [(0, .ref (E.2.2 0)), (1, .ref (E.2.2 29)), (2, .int x)]) rfl (Nat.le_of_ble_eq_true rfl) ?_
  intro p e s m below meth c S hr hlocks hC
  have C : gAC p l s m [.ref (E.2.2 0), .ref (E.2.2 29), .int x].toArray meth c E σ D B S0 := ⟨S, hr, hlocks, hC, hfl, hX, hI, hD, hB, hS0⟩
  refine g_iload_n S 2 dL_act_0 rfl ?_
  refine g_bipush S dL_act_1 (v := 9) rfl ?_
  refine g_ishr S dL_act_3 ?_
  refine g_bipush S dL_act_4 (v := 22) rfl ?_
  refine g_calli (g_runS (E := E) S hC (As := [.int (x >>> ((9 : Int32) &&& 31)), .int (22)]) (rest := []) (kL_below l E σ (x >>> ((9 : Int32) &&& 31)) _ 22 rfl (by decide) (by decide)) (va_cwS 2 S.2.2.2.2 gL_act_L_below rfl rfl rfl (by decide +kernel) ⟨Nat.le_of_ble_eq_true rfl, Nat.le_of_ble_eq_true rfl⟩) rfl rfl (Nat.le_of_ble_eq_true rfl) dL_act_6 ⟨Nat.le_of_ble_eq_true rfl, Nat.le_of_ble_eq_true rfl⟩) ?_
  have hb := bel_lt (v := x >>> ((9 : Int32) &&& 31)) (n := 22) (by decide)
  generalize bel (x >>> ((9 : Int32) &&& 31)) 22 = k at hb ⊢
  refine g_istore_n S [(3, .int (nI k)), (0, .ref (E.2.2 0)), (1, .ref (E.2.2 29)), (2, .int x)] dL_act_9 (by decide) rfl ?_
  refine g_iload_n S 0 dL_act_10 rfl ?_
  refine g_lvs [1, 2, 3] (lv' := [(0, .ref (E.2.2 0)), (1, .ref (E.2.2 29)), (2, .int x)]) rfl ?_
  rcases (show k = 0 ∨ k = 1 ∨ k = 2 ∨ k = 3 ∨ k = 4 ∨ k = 5 ∨ k = 6 ∨ k = 7 ∨ k = 8 ∨ k = 9 ∨ k = 10 ∨ k = 11 ∨ k = 12 ∨ k = 13 ∨ k = 14 ∨ k = 15 ∨ k = 16 ∨ k = 17 ∨ 18 ≤ k by omega) with rfl | rfl | rfl | rfl | rfl | rfl | rfl | rfl | rfl | rfl | rfl | rfl | rfl | rfl | rfl | rfl | rfl | rfl | h18
  · exact g_tabIn S 96 dL_act_11 (off := 85) (by decide) (by decide) rfl (by decide) (act_bed C)
  · exact g_tabIn S 197 dL_act_11 (off := 186) (by decide) (by decide) rfl (by decide) (act_drum C)
  · exact g_tabIn S 306 dL_act_11 (off := 295) (by decide) (by decide) rfl (by decide) (act_smug C)
  · exact g_tabIn S 417 dL_act_11 (off := 406) (by decide) (by decide) rfl (by decide) (act_card C)
  · exact g_tabIn S 538 dL_act_11 (off := 527) (by decide) (by decide) rfl (by decide) (act_patrol C)
  · exact g_tabIn S 576 dL_act_11 (off := 565) (by decide) (by decide) rfl (by decide) (act_share C)
  · exact g_tabIn S 613 dL_act_11 (off := 602) (by decide) (by decide) rfl (by decide) (act_heat C)
  · exact g_tabIn S 690 dL_act_11 (off := 679) (by decide) (by decide) rfl (by decide) (act_dig C)
  · exact g_tabIn S 690 dL_act_11 (off := 679) (by decide) (by decide) rfl (by decide) (act_dig C)
  · exact g_tabIn S 797 dL_act_11 (off := 786) (by decide) (by decide) rfl (by decide) (act_give C)
  · exact g_tabIn S 797 dL_act_11 (off := 786) (by decide) (by decide) rfl (by decide) (act_give C)
  · exact g_tabIn S 854 dL_act_11 (off := 843) (by decide) (by decide) rfl (by decide) (act_load C)
  · exact g_tabIn S 854 dL_act_11 (off := 843) (by decide) (by decide) rfl (by decide) (act_load C)
  · exact g_tabIn S 854 dL_act_11 (off := 843) (by decide) (by decide) rfl (by decide) (act_load C)
  · exact g_tabIn S 990 dL_act_11 (off := 979) (by decide) (by decide) rfl (by decide) (act_take C)
  · exact g_tabIn S 990 dL_act_11 (off := 979) (by decide) (by decide) rfl (by decide) (act_take C)
  · exact g_tabIn S 1126 dL_act_11 (off := 1115) (by decide) (by decide) rfl (by decide) (act_send C)
  · exact g_tabIn S 1126 dL_act_11 (off := 1115) (by decide) (by decide) rfl (by decide) (act_send C)
  · exact g_tabOut S 1204 dL_act_11 (Or.inr (by rw [nI_toInt (by omega)]; omega)) (by decide) (act_days C)
/-- a call of act: the world grows -/
theorem g_calla {a : Array Value} {D B S0 mc ms : Nat} (hr : gRun p l e R s m args below meth c nL E σ cells slots pc lv st0 rest (fun sz => gRa E D B S0 sz a) mc ms) (kk : ∀ (E' : gT) (σ' : gS), AR E E' → INV E' (D + 4) (B + 1000) (S0 + 80) σ' → gJ p l e R s m args below meth c Q nL E' σ' (cells + mc) (slots + ms) (pc + 3) lv (.int 1 :: rest)) : gJ p l e R s m args below meth c Q nL E σ cells slots pc lv st0 := by
  intro H locs ls hP hS hl
  refine va_calli (hr H locs ls hP hS hl) hS (fun q _ h => gA_mono hS.1 q h) (gA_mono hS.1) (fun r' u t H1 locs1 ht hvm hr' hB hz hk hS1 => ?_)
  obtain ⟨rfl, hA, hI⟩ := hr'
  have hB : gP u.1 u.2 t.heap := hB
  rw [ht] at hB
  have eA : gA u.1 s.heap.size = gA E s.heap.size := by unfold gA; rw [hA.N0]
  exact kk u.1 u.2 hA hI H1 locs1 ls hB (by rw [eA]; exact hS1) hl
end AD
