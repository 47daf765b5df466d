section NC
variable {args : Array Value} {s : State}
theorem n_Z (hts : ∀ w ∈ lw_tbl, w.before args s = true) : nZ s :=
  ⟨⟨va_Nw.of rfl (hts (.methodLinkNest RX0 1 yX5_init RX7) (by decide +kernel)), va_Nw.of rfl (hts (.methodLinkNest RX1 3 yX5_init RX7) (by decide +kernel)), va_Nw.of rfl (hts (.methodLinkNest RX2 3 yX5_init RX7) (by decide +kernel)), va_Nw.of rfl (hts (.methodLinkNest RX3 3 yX5_init RX7) (by decide +kernel)), va_Nw.of rfl (hts (.methodLinkNest RX6 3 yX5_init RX7) (by decide +kernel)), va_Nw.of rfl (hts (.methodLinkNest RX6 37 yX4_init RX7) (by decide +kernel)), va_Nw.of rfl (hts (.methodLinkNest RX6 42 yX0_init RX7) (by decide +kernel)), va_Nw.of rfl (hts (.methodLinkNest RX6 43 yX2_init RX7) (by decide +kernel)), va_Nw.of rfl (hts (.methodLinkNest RX6 44 yX3_init RX7) (by decide +kernel)), va_Nw.of rfl (hts (.methodLinkNest RX6 45 yX1_init RX7) (by decide +kernel))⟩, va_AO.of (hts (.arrayOver (.object RX0)) (by decide +kernel)), va_AO.of (hts (.arrayOver (.object RX2)) (by decide +kernel)), va_AO.of (hts (.arrayOver (.object RX3)) (by decide +kernel)), va_AO.of (hts (.arrayOver (.object RX1)) (by decide +kernel))⟩
theorem n_F (hts : ∀ w ∈ lw_tbl, w.before args s = true) : gF s := by
  refine ⟨⟨va_Nw.of rfl (hts (.declares ⟨RX5, "size", "()I"⟩) (by decide +kernel)), va_Nw.of rfl (hts (.declares ⟨RX5, "tell", "(I)I"⟩) (by decide +kernel)), va_Nw.of rfl (hts (.declares (Bundle.initS "java/lang/RuntimeException")) (by decide +kernel)), va_Nw.of rfl (hts (.declares (Bundle.initS "java/lang/Exception")) (by decide +kernel)), va_Nw.of rfl (hts (.declares (Bundle.initS Bundle.tN)) (by decide +kernel))⟩,
    ⟨va_Nw.of rfl (hts (.castable gIA gIA) (by decide +kernel)), va_Nw.of rfl (hts (.castable gIS gIS) (by decide +kernel)), va_Nw.of rfl (hts (.castable gIO gIO) (by decide +kernel))⟩, over_moved (Vm.Alike.refl s.vm) (hts (.arrayOver (.array .int)) (by decide +kernel))⟩
theorem n_str {k : Nat} {tx : String} (h1 : (Cond.stringRef RX7 k tx).before args s = true) (h2 : (Cond.exactly (.string RX7 k) "java/lang/String").before args s = true) : ∃ a, vk_R RX7 k tx a s := by
  obtain ⟨a, c, cA, kA, q1, _⟩ := Cond.exactly_spec (args := args) (first := s) (o := none) (s := s) (idx := []) (t := .string RX7 k) (cls := "java/lang/String") h2
  exact ⟨a, vk_R.of h1 q1⟩
theorem n_X {A : Nat → Prop} (hA : ∀ a : Nat, a < s.heap.size → ¬ A a) (hts : ∀ w ∈ lw_tbl, w.before args s = true) (hgv : (Jvm.Cond.and given_1 narrow_1).before args s = true) : gX A s s.heap := by
  have hs := flat_of_before _ hgv
  exact ⟨⟨vx_Zqof (hts (.laysStatic Bundle.tN "UNASSIGNED_STACK" Bundle.steD) (by decide +kernel)) (hts (.initialized Bundle.tN) (by decide +kernel)) (hs (.isRef (.static Bundle.tN "UNASSIGNED_STACK" Bundle.steD)) (by decide +kernel)) hA,
      vx_Zqof (hts (.laysStatic Bundle.tN "SUPPRESSED_SENTINEL" Bundle.listD) (by decide +kernel)) (hts (.initialized Bundle.tN) (by decide +kernel)) (hs (.isRef (.static Bundle.tN "SUPPRESSED_SENTINEL" Bundle.listD)) (by decide +kernel)) hA⟩,
    ⟨n_str (hts (.stringRef RX7 180 "there is no such number") (by decide +kernel)) (hs (.exactly (.string RX7 180) "java/lang/String") (by decide +kernel)), n_str (hts (.stringRef RX7 184 "the number is too small or too great") (by decide +kernel)) (hs (.exactly (.string RX7 184) "java/lang/String") (by decide +kernel)), n_str (hts (.stringRef RX7 189 "this cannot be done as things are") (by decide +kernel)) (hs (.exactly (.string RX7 189) "java/lang/String") (by decide +kernel))⟩⟩
end NC
/-! build, from its entry -/
def bOK (D : va_G) (n0 q sb L : Nat) (xs : Nat → Int32) (w : gT × gS) : Prop := w.1.1.1 = D ∧ gN0 w.1 = n0 ∧ (gSb w.1 = sb ∧ gSl w.1 = L ∧ w.1.1.2.2.2 = xs) ∧ gXs w.1 = [] ∧ NB w.1 ∧ w.1.2.2 0 = q ∧ INV w.1 500 110000 9000 w.2
def bPre (D : va_G) (n0 q : Nat) (a b : Nat → Nat) (c : Nat → ClassId) (sb L : Nat) (xs : Nat → Int32) (sz : Nat) (U : State) : Prop :=
  U.heap.size = sz ∧ va_P D vwCl (nR q a b c) U.heap ∧ va_K D vwCl (nTy c) U ∧ va_D (fun x : Nat => n0 ≤ x) (nR q a b c) ∧ n0 ≤ sz ∧ gF U ∧ gX (fun x : Nat => n0 ≤ x) U U.heap ∧ (va_X sb L xs U U.heap ∧ sb < n0 ∧ L ≤ 260) ∧ va_Nw (.methodLinkNest RL 103 yX8_init RL) U
theorem bPre_blind {D : va_G} {n0 q : Nat} {a b : Nat → Nat} {c : Nat → ClassId} {sb L : Nat} {xs : Nat → Int32} {sz : Nat} {av : List Value} : FrameBlind (va_Pc av (bPre D n0 q a b c sb L xs sz)) := by
  intro v U g mk h
  obtain ⟨h0, h1, h2, h3, h4, h5, h6, h7, ⟨h8, h9⟩, h10⟩ := h
  exact ⟨h0, h1, h2, va_K.moved (u := U) (U := U.calling g mk v) (Vm.Alike.refl U.vm) h3, h4, h5, h6.same rfl, h7.moved rfl, ⟨h8.moved (Vm.Alike.refl U.vm), h9⟩, va_Nw.same rfl rfl h10⟩
abbrev gRb (D : va_G) (n0 q sb L : Nat) (xs : Nat → Int32) : Array Value → State → Outcome → State → Prop := va_Qr (bOK D n0 q sb L xs) (fun w r t => r = w.1.2.2 29 ∧ gP w.1 w.2 t.heap ∧ va_K D vwCl (gTys w.1) t) (fun x : Nat => n0 ≤ x)
set_option maxRecDepth 100000 in
set_option maxHeartbeats 8000000 in
theorem kL_build (l : Launch) (hfl : l.stackTraces = false) (D : va_G) (n0 q : Nat) (a b : Nat → Nat) (c : Nat → ClassId) (sb L : Nat) (xs : Nat → Int32) (sz : Nat) : Met l yL_build wsL_build buildR (va_Pc [.ref q, .ref sb] (bPre D n0 q a b c sb L xs sz)) (gRb D n0 q sb L xs) 783 6223 (fun x : Nat => n0 ≤ x) := by
  refine Met.ofW (cc := cL_build) (maxL := 5) (ret := some (.object "ChicoryRoastersLaw$Sim")) (by decide) rfl ?_
  intro p e s m args below meth cd s₁ B hml hv
  obtain ⟨rfl, hsz, hP, hK, hD, hn0, hF, hXX, hsc, hnl⟩ := hv
  have hx := B.exec
  have hb := B.bytes
  have hr := B.returns
  have hts := atoms_spec (ws := wsL_build) B.pre
  have hown : s.vm.findClass RL = some m.cls := findClass_of_methodNamed B.named
  have S : CallFix p m cd cL_build 5 s [.ref q, .ref sb].toArray wsL_build RL := ⟨hx, hb, hml, hown, hts⟩
  subst hsz
  have hA : ∀ x : Nat, s.heap.size ≤ x → (fun x : Nat => n0 ≤ x) x := fun x h => Nat.le_trans hn0 h
  have hS : va_S (fun x : Nat => n0 ≤ x) s.heap s.heap [] := va_S.rf
  have i8 : ∀ w ∈ wsX80, w ∈ wsL_build := by decide +kernel
  have hl := lv_entry ([.ref q, .ref sb]) (n := 5) (Nat.le_of_ble_eq_true rfl)
  rw [lg_entry_eq]
  generalize (lg_sl ([.ref q, .ref sb]) ++ List.replicate (5 - (lg_sl ([.ref q, .ref sb])).length) Slot.unset).toArray = ls at hl ⊢
  have hl : lv_has ls 5 [(0, .ref q), (1, .ref sb)] := hl
  refine va_new (ci := 7) (fs := [.int 0, .null, .null, .int 0, .int 0, .int 0, .int 0, .null, .null, .null, .null]) (C := RX8) (T := TX8) (N := 11) hx hb hts i8 tyX8 tyX8_ok hown (hts (.classLink RL 18 RX8) (by decide +kernel)) (hts (.instantiable RX8 11) (by decide +kernel)) (hts (.initialized RX8) (by decide +kernel)) hK hP hD hS hA rfl (fun j hj => by rcases (show j = 0 ∨ j = 1 ∨ j = 2 ∨ j = 3 ∨ j = 4 ∨ j = 5 ∨ j = 6 ∨ j = 7 ∨ j = 8 ∨ j = 9 ∨ j = 10 by omega) with rfl | rfl | rfl | rfl | rfl | rfl | rfl | rfl | rfl | rfl | rfl <;> rfl) (Nat.le_of_ble_eq_true rfl) (Nat.le_of_ble_eq_true rfl) dL_build_0 (fun q8 H hP hD hS => ?_)
  have hP : va_P D vwCl (nR q a b c ++ nM0 q8) H := hP
  have hD : va_D (fun x : Nat => n0 ≤ x) (nR q a b c ++ nM0 q8) := hD
  refine W.widen (k := 1) (n := 11) (Nat.le_of_ble_eq_true rfl) (Nat.le_of_ble_eq_true rfl) ?_
  refine lv_dup hx hb dL_build_3 rfl ?_
  have hPc := hP.sub (ws' := nM0 q8) [57] rfl
  have hDc := hD.sub (ws' := nM0 q8) [57] (by decide) rfl
  have hKc2 := hK.sub (tys' := []) [] rfl
  have hFc := va_free (wc := nM0 q8) hD hS hA [57] rfl
  refine va_callv (va_runIN (As := []) (rest := [.ref q8]) S (nI8 l D H.size q8) ⟨va_cnB 0 hts gL_build_X8_init_n103 rfl rfl rfl hnl (hts (.initialized RX8) (by decide +kernel)) (by decide +kernel) ⟨Nat.le_of_ble_eq_true rfl, Nat.le_of_ble_eq_true rfl⟩, rfl, hts (.instanceMethod yX8_init) (by decide +kernel)⟩ ⟨fun a U g mk q => by obtain ⟨q0, q1, qP, qK, qD, qO⟩ := q; exact ⟨q0, q1, qP, va_K.moved (u := U) (U := U.calling g mk a) (Vm.Alike.refl U.vm) qK, qD, over_moved (u := U) (E := U.calling g mk a) (Vm.Alike.refl U.vm) qO⟩, fun U hU hW => ⟨rfl, by rw [hU], by rw [hU]; exact hPc, va_K.moved hW.alike hKc2, hDc.weaken (fun _ _ _ _ => trivial), over_moved hW.alike hF.2.2⟩⟩ rfl rfl hl.1 rfl (lv_room (Nat.le_of_ble_eq_true rfl)) dL_build_4 ⟨Nat.le_of_ble_eq_true rfl, Nat.le_of_ble_eq_true rfl⟩) hS (fun q _ h => hFc q h) hFc (fun u t H1 locs ht hvm hw hB hz1 hk1 hS => ?_)
  obtain ⟨a3, c0, c1⟩ := u
  obtain ⟨hP1, hK1, hD1⟩ := hB
  rw [ht] at hP1
  have hK1 := va_K.moved hvm.symm hK1
  dsimp only at hw hP1 hK1 hD1
  have hw : a3 0 = q8 := hw
  obtain ⟨hP, hD⟩ := va_join (wr := nR q a b c) (w1 := nM a3 c0 c1) hP hD [57] [0, 1, 2, 3, 4, 5, 6, 7, 8, 9, 10, 11, 12, 13, 14, 15, 16, 17, 18, 19, 20, 21, 22, 23, 24, 25, 26, 27, 28, 29, 30, 31, 32, 33, 34, 35, 36, 37, 38, 39, 40, 41, 42, 43, 44, 45, 46, 47, 48, 49, 50, 51, 52, 53, 54, 55, 56] rfl rfl (by decide) (by decide) hk1 hFc hP1 hD1
  have hK := hK.app hK1
  generalize H1 = H at hP hS ⊢
  rw [← hw]
  refine W.widen (k := 7) (n := 15) (Nat.le_of_ble_eq_true rfl) (Nat.le_of_ble_eq_true rfl) ?_
  refine lv_astore_n (lv' := [(2, .ref (a3 0)), (0, .ref q), (1, .ref sb)]) hx hb dL_build_7 rfl hl (by decide) rfl (fun ls hl => ?_)
  have hPg := n_gP (n0 := n0) (sb := sb) (L := L) (xs := xs) hP hD
  have hK : va_K D vwCl (gTys (nE D n0 q a b a3 c c0 c1 sb L xs)) s := hK.sub [4, 5, 0, 1, 2, 3] rfl
  have hl : lv_has ls 5 [(2, .ref ((nE D n0 q a b a3 c c0 c1 sb L xs).2.2 29)), (0, .ref ((nE D n0 q a b a3 c c0 c1 sb L xs).2.2 0)), (1, .ref (gSb (nE D n0 q a b a3 c c0 c1 sb L xs)))] := hl
  have hI := n_inv (D := D) (n0 := n0) (q := q) (a := a) (b := b) (r := a3) (c := c) (c0 := c0) (c1 := c1) (sb := sb) (L := L) (xs := xs)
  have hNB : NB (nE D n0 q a b a3 c c0 c1 sb L xs) := ⟨Nat.zero_le _, Nat.zero_le _, Nat.zero_le _, Nat.zero_le _⟩
  have hC : gC (nE D n0 q a b a3 c c0 c1 sb L xs) s := ⟨hK, ⟨hn0, Nat.zero_le _, Nat.zero_le _, Nat.zero_le _, Nat.zero_le _, hsc⟩, hF, hXX⟩
  have hS : va_S (gA (nE D n0 q a b a3 c c0 c1 sb L xs) s.heap.size) s.heap H locs := hS
  have e0 : (nE D n0 q a b a3 c c0 c1 sb L xs).1.1 = D ∧ gN0 (nE D n0 q a b a3 c c0 c1 sb L xs) = n0 ∧ gSb (nE D n0 q a b a3 c c0 c1 sb L xs) = sb ∧ gSl (nE D n0 q a b a3 c c0 c1 sb L xs) = L ∧ (nE D n0 q a b a3 c c0 c1 sb L xs).1.2.2.2 = xs ∧ gXs (nE D n0 q a b a3 c c0 c1 sb L xs) = [] ∧ (nE D n0 q a b a3 c c0 c1 sb L xs).2.2 0 = q := ⟨rfl, rfl, rfl, rfl, rfl, rfl, rfl⟩
  clear hK
  generalize nE D n0 q a b a3 c c0 c1 sb L xs = E at hPg hl hI hNB hC hS e0
  obtain ⟨e1, e2, e3, e4, e5, e6, e7⟩ := e0
  refine build_go (E := E) (σ := nS) ⟨S, hC, hfl, e6, hI, by decide, by decide, by decide⟩ (AR.rf e6 hNB) (fun E' σ' hAR hI' => ?_) H locs ls hPg hS hl
  intro H2 locs2 ls2 hP2 hS2 hl2
  have hC2 := hAR.C hC
  have eA : gA E' s.heap.size = (fun x : Nat => n0 ≤ x) := by unfold gA; rw [hAR.N0, e2]
  rw [eA] at hS2
  obtain ⟨r1, r2, r3, r4, r5, r6, r7⟩ := hAR
  have hK2 : va_K D vwCl (gTys E') s := by have := hC2.1; rw [r1, e1] at this; exact this
  exact W.aret hx hb hr (Or.inl ⟨_, rfl⟩) (Or.inr ⟨_, rfl⟩) (fun t ht hW => ⟨⟨(E', σ'), E'.2.2 29, rfl, ⟨r1.trans e1, (r3 100 (by decide)).trans e2, ⟨(r3 102 (by decide)).trans e3, (r3 103 (by decide)).trans e4, r4.trans e5⟩, r5, r7, (r6 0 (by decide)).trans e7, hI'⟩, rfl, by rw [ht]; exact hP2, va_K.moved hW.alike hK2⟩, hS2.F ht⟩) hS2.2.2 dL_build_123
