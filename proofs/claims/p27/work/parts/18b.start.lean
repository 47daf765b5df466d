section LE9
variable {p : Program} {l : Launch} {e : Env} {s : State} {m : MethodId} {args : Array Value} {below : List Frame} {meth : Method} {c : Code} {Q : State → Prop} {R : Room}
variable {cc : ByteArray} {nL : Nat} {E : gT} {σ σ' : gS} {cells slots pc mc ms : Nat} {lv : List (Nat × Value)} {rest st0 : List Value} {d0 : Drawn} {a : Array Value}
theorem g_callid (hd0 : s.drawn.sameBut d0 lw_cs) {r : Int32} (hr : gRunD p l e R (s.setDrawn d0) m args below meth c nL E σ cells slots pc lv st0 rest (fun sz => gRi E σ' r sz a) mc ms) (kk : ∀ (d1 : Drawn), s.drawn.sameBut d1 lw_cs → gJ p l e R (s.setDrawn d1) m args below meth c Q nL E σ' (cells + mc) (slots + ms) (pc + 3) lv (.int r :: rest)) : gJ p l e R (s.setDrawn d0) m args below meth c Q nL E σ cells slots pc lv st0 := by
  intro H locs ls hP hS hl
  refine va_calliD hd0 (hr H locs ls hP hS hl) hS (fun q _ h => gA_mono hS.1 q h) (gA_mono hS.1) (fun r' u t H1 locs1 ht hvm hr' hB hz hk hS1 d1 hd1 => ?_)
  subst hr'
  have hB : gP _ _ t.heap := hB
  rw [ht] at hB
  exact kk d1 hd1 H1 locs1 ls hB hS1 hl
end LE9
/-- from where Sim is built to the end -/
theorem law_go {p : Program} {l : Launch} {e : Env} {s : State} {m : MethodId} {below : List Frame} {meth : Method} {c : Code} {b : Nat} {E : gT} {σ : gS} (S9 : CallFix p m c cL_law 20 s #[.ref b] wsL_law RL) (hr : meth.sig.returnType = ret) (hlocks : meth.locks = false) (hC : gC E s) (hfl : l.stackTraces = false) (hX : gXs E = []) (hNB : NB E) (hI : INV E 500 110000 9000 σ) (hn0 : gN0 E = s.heap.size) :
    gJ p l e room_1 (s.setDrawn s.drawn) m #[.ref b] below meth c (lw_Z below #[Value.ref b] s) 20 E σ 840 6509 14 [(2, .ref (E.2.2 29)), (1, .ref (E.2.2 0)), (0, .ref (gSb E))] [] := by
  have S := gS_dr S9 s.drawn
  have hC1 := hC.dr s.drawn
  refine g_aload_n S 0 dL_law_14 rfl ?_
  refine g_ifnn S 20 dL_law_15 (by decide) ?_
  refine law_all ⟨S, hC1, hfl, hX, hI, by decide, by decide, by decide⟩ (AR.rf hX hNB) (by decide) (by decide) (fun E' σ' hA hI' => ?_)
  have hC2 := (hA.C hC).dr s.drawn
  refine g_aload_n S 0 dL_law_803 rfl ?_
  refine g_aload_n S 1 dL_law_804 rfl ?_
  refine g_callid (Drawn.sameBut.refl s.drawn lw_cs) (g_runVD S hC2 (As := [.ref (E'.2.2 0)]) (rest := []) (k := 29) (by decide) rfl (by decide) rfl (kX8_isSame l E' σ' hfl hI') (cwV 1 S.2.2.2.2 gL_law_X8_isSame rfl rfl rfl (by decide +kernel) ⟨Nat.le_of_ble_eq_true rfl, Nat.le_of_ble_eq_true rfl⟩) rfl rfl (Nat.le_of_ble_eq_true rfl) dL_law_805 ⟨Nat.le_of_ble_eq_true rfl, Nat.le_of_ble_eq_true rfl⟩) (fun d1 hd1 => ?_)
  intro H locs ls hP hS hl
  have eN : gN0 E' = s.heap.size := hA.N0.trans hn0
  refine va_forget (fun q hq => ?_) (W.widen (Nat.le_of_ble_eq_true rfl) (Nat.le_of_ble_eq_true rfl) (lw_ret hd1 S9.1 S9.2.1 hr hlocks dL_law_808))
  have h9 : gN0 E' ≤ q.base := hS.2.2 q hq
  rw [eN] at h9
  exact h9
set_option maxRecDepth 100000 in
set_option maxHeartbeats 16000000 in
/-- from the entry, for every script, the law comes to its end with true -/
theorem whole_start {p : Program} {e : Env} {s : State} {m : MethodId} {below : List Frame} {meth : Method} {c : Code} (l : Launch) (hflags : l.flags = flags0) {b L : Nat} {xs : Nat → Int32} (hL : L ≤ 260) (C0 : lw_At p s m meth c b L xs) : W p l e room_1 s m #[Value.ref b] below meth c s.heap [] 0 0 (lw_Z below #[Value.ref b] s) (entryFrame m ([Value.ref b] : List Value).toArray 20) := by
  obtain ⟨hx, hb, hr, hml, hown, hts, hXs, hbl, hlocks, hgv⟩ := id C0
  have hA : ∀ q : Nat, s.heap.size ≤ q → (fun q : Nat => s.heap.size ≤ q) q := fun _ h => h
  have hts9 : ∀ w ∈ wsL_law, w.before #[Value.ref b] s = true := fun w h => hts w (wsL_law_in w h)
  have hown : s.vm.findClass RL = some m.cls := hown
  have hb : c.code = cL_law := hb
  have S9 : CallFix p m c cL_law 20 s #[.ref b] wsL_law RL := ⟨hx, hb, hml, hown, hts9⟩
  have hfl : l.stackTraces = false := by
    unfold Launch.stackTraces
    rw [hflags]
    decide +kernel
  have hZ := n_Z hts
  obtain ⟨c0, iS0, hKn0⟩ := u_known (C := RX0) (T := TX0) (N := 3) (n := 3) hts inX0 (hts (.instantiable RX0 3) (by decide +kernel))
  obtain ⟨c1, iS1, hKn1⟩ := u_known (C := RX1) (T := TX1) (N := 5) (n := 5) hts inX1 (hts (.instantiable RX1 5) (by decide +kernel))
  obtain ⟨c2, iS2, hKn2⟩ := u_known (C := RX2) (T := TX2) (N := 5) (n := 5) hts inX2 (hts (.instantiable RX2 5) (by decide +kernel))
  obtain ⟨c3, iS3, hKn3⟩ := u_known (C := RX3) (T := TX3) (N := 5) (n := 5) hts inX3 (hts (.instantiable RX3 5) (by decide +kernel))
  obtain ⟨c4, iS4, hKn4⟩ := u_known (C := RX4) (T := TX4) (N := 7) (n := 7) hts inX4 (hts (.instantiable RX4 7) (by decide +kernel))
  obtain ⟨c5, iS5, hKn5⟩ := u_known (C := RX6) (T := TX6) (N := 11) (n := 11) hts inX6 (hts (.instantiable RX6 11) (by decide +kernel))
  obtain ⟨c6, iS6, hKn6⟩ := u_known (C := RX7) (T := TX7) (N := 2) (n := 2) hts inX7 (hts (.instantiable RX7 2) (by decide +kernel))
  obtain ⟨c7, iS7, hKn7⟩ := u_known (C := RX8) (T := TX8) (N := 11) (n := 11) hts inX8 (hts (.instantiable RX8 11) (by decide +kernel))
  obtain ⟨D, hKc⟩ : ∃ D : va_G, ∀ (k : Nat) (q : vw_C), vwCl[k]? = some q → u_Kn s q.1 q.2.1 q.2.2 (D.1 k) (D.2 k) := by
    refine ⟨(fun k => [c0, c1, c2, c3, c4, c5, c6, c7].getD k 0, fun k => [iS0, iS1, iS2, iS3, iS4, iS5, iS6, iS7].getD k (fun _ => 0)), ?_⟩
    intro k q hq
    match k, hq with
    | 0, hq => cases hq; exact hKn0
    | 1, hq => cases hq; exact hKn1
    | 2, hq => cases hq; exact hKn2
    | 3, hq => cases hq; exact hKn3
    | 4, hq => cases hq; exact hKn4
    | 5, hq => cases hq; exact hKn5
    | 6, hq => cases hq; exact hKn6
    | 7, hq => cases hq; exact hKn7
    | k + 8, hq => simp [vwCl] at hq
  clear hKn0 hKn1 hKn2 hKn3 hKn4 hKn5 hKn6 hKn7
  have hS : va_S (fun q : Nat => s.heap.size ≤ q) s.heap s.heap [] := va_S.rf
  have hK : va_K D vwCl [] s := ⟨hKc, fun k q h => by simp at h⟩
  have hP : va_P D vwCl [] s.heap := fun k q h => by simp at h
  have hD : va_D (fun q : Nat => s.heap.size ≤ q) [] := ⟨fun i j p q h => by simp at h, fun k q h => by simp at h⟩
  have hl := lv_entry ([.ref b]) (n := 20) (Nat.le_of_ble_eq_true rfl)
  rw [lg_entry_eq]
  generalize (lg_sl ([.ref b]) ++ List.replicate (20 - (lg_sl ([.ref b])).length) Slot.unset).toArray = ls at hl ⊢
  have hl : lv_has ls 20 [(0, .ref b)] := hl
  refine va_new (ci := 6) (fs := [.null, .null]) (C := RX7) (T := TX7) (N := 2) hx hb hts9 inlX7 tyX7 tyX7_ok hown (hts (.classLink RL 28 RX7) (by decide +kernel)) (hts (.instantiable RX7 2) (by decide +kernel)) (hts (.initialized RX7) (by decide +kernel)) hK hP hD hS hA rfl (fun j hj => by rcases (show j = 0 ∨ j = 1 by omega) with rfl | rfl <;> rfl) (Nat.le_of_ble_eq_true rfl) (Nat.le_of_ble_eq_true rfl) dL_law_0 (fun q H hP hD hS => ?_)
  have hP : va_P D vwCl [(q, .inr (6, [.null, .null]))] H := hP
  have hD : va_D (fun q : Nat => s.heap.size ≤ q) [(q, .inr (6, [.null, .null]))] := hD
  refine W.widen (k := 1) (n := 2) (Nat.le_of_ble_eq_true rfl) (Nat.le_of_ble_eq_true rfl) ?_
  refine lv_dup hx hb dL_law_3 rfl ?_
  have hPc := hP.sub (ws' := [(q, .inr (6, [.null, .null]))]) [0] rfl
  have hDc := hD.sub (ws' := [(q, .inr (6, [.null, .null]))]) [0] (by decide) rfl
  have hKc2 := hK.sub (tys' := []) [] rfl
  have hFc := va_free (wc := [(q, .inr (6, [.null, .null]))]) hD hS hA [0] rfl
  refine va_callv (va_runI (As := []) (rest := [.ref q]) S9 (nI7 l D H.size q) (cwI 0 hts9 gL_law_X7_init rfl rfl rfl (hts (.initialized RX7) (by decide +kernel)) (hts (.methodLink RL 112 yX7_init) (by decide +kernel)) (hts (.instanceMethod yX7_init) (by decide +kernel)) rfl (by decide +kernel) ⟨Nat.le_of_ble_eq_true rfl, Nat.le_of_ble_eq_true rfl⟩) ⟨fun a U g mk q => by obtain ⟨q0, q1, qP, qK, qD, qZ⟩ := q; exact ⟨q0, q1, qP, va_K.moved (u := U) (U := U.calling g mk a) (Vm.Alike.refl U.vm) qK, qD, nZ.same rfl qZ⟩, fun U hU hW => ⟨rfl, by rw [hU], by rw [hU]; exact hPc, va_K.moved hW.alike hKc2, hDc.weaken (fun _ _ _ _ => trivial), hZ.warm hW⟩⟩ rfl rfl hl.1 rfl (lv_room (Nat.le_of_ble_eq_true rfl)) dL_law_4 ⟨Nat.le_of_ble_eq_true rfl, Nat.le_of_ble_eq_true rfl⟩) hS (fun q _ h => hFc q h) hFc (fun u t H1 locs ht hvm hw hB hz1 hk1 hS => ?_)
  obtain ⟨a1, a2, cc⟩ := u
  obtain ⟨hP1, hK1, hD1⟩ := hB
  rw [ht] at hP1
  have hK := va_K.moved hvm.symm hK1
  dsimp only at hP1 hK hD1
  obtain ⟨hP, hD⟩ := va_join (wr := []) (w1 := nR q a1 a2 cc) hP hD [0] [] rfl rfl (by decide) (by decide) hk1 hFc hP1 hD1
  generalize H1 = H at hP hS ⊢
  have hP : va_P D vwCl (nR q a1 a2 cc) H := hP
  have hD : va_D (fun q : Nat => s.heap.size ≤ q) (nR q a1 a2 cc) := hD
  refine W.widen (k := 57) (n := 286) (Nat.le_of_ble_eq_true rfl) (Nat.le_of_ble_eq_true rfl) ?_
  refine lv_astore_n (lv' := [(1, .ref q), (0, .ref b)]) hx hb dL_law_7 rfl hl (by decide) rfl (fun ls hl => ?_)
  refine lv_aload_n hx hb dL_law_8 rfl (lv_at hl 0 rfl) ?_
  refine lv_aload_n hx hb dL_law_9 rfl (lv_at hl 1 rfl) ?_
  have hF := n_F hts
  have hnl : va_Nw (.methodLinkNest RL 103 yX8_init RL) s := va_Nw.of rfl (hts (.methodLinkNest RL 103 yX8_init RL) (by decide +kernel))
  have hnA : ∀ a : Nat, a < s.heap.size → ¬ (fun q : Nat => s.heap.size ≤ q) a := fun a ha z => absurd z (Nat.not_le_of_lt ha)
  have hXX := n_X hnA hts hgv
  refine va_callr (va_runS (As := [.ref q, .ref b]) (rest := []) S9 (kL_build l hfl D s.heap.size q a1 a2 cc b L xs H.size) (va_cwS 2 hts9 gL_law_L_build rfl rfl rfl (by decide +kernel) ⟨Nat.le_of_ble_eq_true rfl, Nat.le_of_ble_eq_true rfl⟩) ⟨bPre_blind, fun U hU hW => ⟨rfl, by rw [hU], by rw [hU]; exact hP, va_K.moved hW.alike hK, hD, hS.1, hF.warm hW, by rw [hU]; exact hXX.warm hW hS.2.1 (fun _ h => h), ⟨by rw [hU]; exact (hXs.kept (hS.2.1 _ hbl (hnA _ hbl))).moved hW.alike, hbl, hL⟩, va_Nw.warmM hW hnl⟩⟩ rfl rfl hl.1 rfl (lv_room (Nat.le_of_ble_eq_true rfl)) dL_law_10 ⟨Nat.le_of_ble_eq_true rfl, Nat.le_of_ble_eq_true rfl⟩) hS (fun q _ h => h) (fun q h => h) (fun w ra t H1 locs ht hvm hw hB hz1 hk1 hS => ?_)
  obtain ⟨E, σ⟩ := w
  obtain ⟨e1, e2, ⟨e3, e4, e5⟩, e6, hNB, e7, hI⟩ := hw
  obtain ⟨hra, hPg, hKt⟩ := hB
  rw [ht] at hPg
  have hK := va_K.moved hvm.symm hKt
  dsimp only at hra hPg hK e1 e2 e3 e4 e5 e6 hNB e7 hI
  have eA : ∀ n, gA E n = (fun q : Nat => s.heap.size ≤ q) := fun n => by unfold gA; rw [e2]
  have hC : gC E s := ⟨by rw [e1]; exact hK, ⟨by rw [e2]; exact Nat.le_refl _, hNB.1, hNB.2.1, hNB.2.2.1, hNB.2.2.2, by rw [e3, e4, e5]; exact hXs, by rw [e3, e2]; exact hbl, by rw [e4]; exact hL⟩, hF, by rw [eA]; exact hXX⟩
  refine W.widen (k := 840) (n := 6509) (Nat.le_of_ble_eq_true rfl) (Nat.le_of_ble_eq_true rfl) ?_
  refine lv_astore_n (lv' := [(2, .ref ra), (1, .ref q), (0, .ref b)]) hx hb dL_law_13 rfl hl (by decide) rfl (fun ls hl => ?_)
  rw [hra, ← e7, ← e3] at hl
  have hS : va_S (gA E s.heap.size) s.heap H1 locs := by rw [eA]; exact hS
  refine W.base ?_
  exact law_go S9 hr hlocks hC hfl e6 hNB hI e2 H1 locs ls hPg hS hl
