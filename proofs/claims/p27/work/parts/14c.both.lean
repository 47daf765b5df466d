theorem nK_obj {D : va_G} {cl : List vw_C} {tys : List (ClassId × FieldType)} {s : State} {a b : ClassId} {C : String} (i j : Nat) (hK : va_K D cl tys s) (hi : tys[i]? = some (a, .object C)) (hj : tys[j]? = some (b, .object C)) : a = b := by
  obtain ⟨_, _, _, _, _, h1⟩ := (hK.2 i _ hi).2
  obtain ⟨_, _, _, _, _, h2⟩ := (hK.2 j _ hj).2
  exact Option.some.inj (h1.symm.trans h2)
abbrev nR (h0 : Nat) (a b : Nat → Nat) (c : Nat → ClassId) : va_W := (h0, .inr (6, [.ref (a 0), .ref (b 0)])) :: (nT a c ++ nT b c)
set_option maxRecDepth 100000 in
set_option maxHeartbeats 8000000 in
theorem nI7 (l : Launch) (D : va_G) (sz h0 : Nat) : Met l yX7_init wsX7_init ({ frames := 4, cells := 56, slots := 284, locals := 73 }) (va_Pc [.ref h0] (fun U => U.heap.size = sz ∧ va_P D vwCl [(h0, .inr (6, [.null, .null]))] U.heap ∧ va_K D vwCl [] U ∧ va_D (fun _ => True) [(h0, .inr (6, [.null, .null]))] ∧ nZ U)) (va_Qv (fun _ : (Nat → Nat) × (Nat → Nat) × (Nat → ClassId) => True) (fun u t => va_P D vwCl (nR h0 u.1 u.2.1 u.2.2) t.heap ∧ va_K D vwCl (nTy u.2.2) t ∧ va_D (va_A [(h0, .inr (6, [.null, .null]))] sz) (nR h0 u.1 u.2.1 u.2.2)) (va_A [(h0, .inr (6, [.null, .null]))] sz)) 56 284 (va_A [(h0, .inr (6, [.null, .null]))] sz) := by
  refine Met.ofW (cc := cX7_init) (maxL := 1) (ret := none) (by decide) rfl ?_
  intro p e s m args below meth c s₁ B hml hv
  obtain ⟨rfl, hsz, hP, hK, hD0, hZ⟩ := hv
  have hx := B.exec
  have hb := B.bytes
  have hr := B.returns
  have hts := atoms_spec (ws := wsX7_init) B.pre
  have hown : s.vm.findClass RX7 = some m.cls := findClass_of_methodNamed B.named
  have hin : meth.name = "<init>" := (name_of_methodNamed B.named B.method).1
  subst hsz
  have hD := hD0.self (sz := s.heap.size)
  generalize hAe : va_A [(h0, .inr (6, [.null, .null]))] s.heap.size = A at hD ⊢
  have hA : ∀ q : Nat, s.heap.size ≤ q → A q := fun q h => by rw [← hAe]; exact Or.inr h
  have hS : va_S A s.heap s.heap [] := va_S.rf
  have hP : va_P D vwCl [(h0, .inr (6, [.null, .null]))] s.heap := hP
  have i6 : ∀ w ∈ wsX60, w ∈ wsX7_init := by decide +kernel
  have i7 : ∀ w ∈ wsX70, w ∈ wsX7_init := by decide +kernel
  have hl := lv_entry ([.ref h0]) (n := 1) (Nat.le_of_ble_eq_true rfl)
  rw [lg_entry_eq]
  generalize (lg_sl ([.ref h0]) ++ List.replicate (1 - (lg_sl ([.ref h0])).length) Slot.unset).toArray = ls at hl ⊢
  have hl : lv_has ls 1 [(0, .ref h0)] := hl
  refine lv_aload_n hx hb dX7_init_0 rfl (lv_at hl 0 rfl) ?_
  refine W.objInit hx hb hown (hts (.methodLink RX7 1 objectInit) (by decide +kernel)) (hts (.instanceMethod objectInit) (by decide +kernel)) (hts (.code objectInit ⟨#[0xb1]⟩ 1 none) (List.mem_of_getElem? (i := 3) (by rfl))) rfl (by rw [hml]; exact hl.1) rfl dX7_init_1 (Nat.le_of_ble_eq_true rfl) (Nat.le_of_ble_eq_true rfl) ?_
  refine W.eq (g2 := F0 m 4 ls []) rfl ?_
  refine lv_aload_n hx hb dX7_init_4 rfl (lv_at hl 0 rfl) ?_
  refine va_new (ci := 5) (fs := [.null, .null, .null, .null, .null, .int 0, .int 0, .int 0, .int 0, .int 0, .int 0]) (C := RX6) (T := TX6) (N := 11) hx hb hts i6 tyX6 tyX6_ok hown (hts (.classLink RX7 7 RX6) (by decide +kernel)) (hts (.instantiable RX6 11) (by decide +kernel)) (hts (.initialized RX6) (by decide +kernel)) hK hP hD hS hA rfl (fun j hj => by rcases (show j = 0 ∨ j = 1 ∨ j = 2 ∨ j = 3 ∨ j = 4 ∨ j = 5 ∨ j = 6 ∨ j = 7 ∨ j = 8 ∨ j = 9 ∨ j = 10 by omega) with rfl | rfl | rfl | rfl | rfl | rfl | rfl | rfl | rfl | rfl | rfl <;> rfl) (Nat.le_of_ble_eq_true rfl) (Nat.le_of_ble_eq_true rfl) dX7_init_5 (fun t1 H hP hD hS => ?_)
  have hP : va_P D vwCl ([(h0, .inr (6, [.null, .null]))] ++ [(t1, .inr (5, [.null, .null, .null, .null, .null, .int 0, .int 0, .int 0, .int 0, .int 0, .int 0]))]) H := hP
  have hD : va_D A ([(h0, .inr (6, [.null, .null]))] ++ [(t1, .inr (5, [.null, .null, .null, .null, .null, .int 0, .int 0, .int 0, .int 0, .int 0, .int 0]))]) := hD
  refine W.widen (k := 1) (n := 11) (Nat.le_of_ble_eq_true rfl) (Nat.le_of_ble_eq_true rfl) ?_
  refine lv_dup hx hb dX7_init_8 rfl ?_
  have hPc := hP.sub (ws' := [(t1, .inr (5, [.null, .null, .null, .null, .null, .int 0, .int 0, .int 0, .int 0, .int 0, .int 0]))]) [1] rfl
  have hDc := hD.sub (ws' := [(t1, .inr (5, [.null, .null, .null, .null, .null, .int 0, .int 0, .int 0, .int 0, .int 0, .int 0]))]) [1] (by decide) rfl
  have hKc := hK.sub (tys' := []) [] rfl
  have hFc := va_free (wc := [(t1, .inr (5, [.null, .null, .null, .null, .null, .int 0, .int 0, .int 0, .int 0, .int 0, .int 0]))]) hD hS hA [1] rfl
  refine va_callv (va_runI (As := []) (rest := [.ref t1, .ref h0]) ⟨hx, hb, hml, hown, hts⟩ (nI6 l D H.size t1) (cwI 0 hts gX7_init_X6_init rfl rfl rfl (hts (.initialized RX6) (by decide +kernel)) (hts (.methodLink RX7 9 yX6_init) (by decide +kernel)) (hts (.instanceMethod yX6_init) (by decide +kernel)) rfl (by decide +kernel) ⟨Nat.le_of_ble_eq_true rfl, Nat.le_of_ble_eq_true rfl⟩) ⟨fun a U g mk q => by obtain ⟨q0, q1, qP, qK, qD, qZ⟩ := q; exact ⟨q0, q1, qP, va_K.moved (u := U) (U := U.calling g mk a) (Vm.Alike.refl U.vm) qK, qD, nZ.same rfl qZ⟩, fun U hU hW => ⟨rfl, by rw [hU], by rw [hU]; exact hPc, va_K.moved hW.alike hKc, hDc.weaken (fun _ _ _ _ => trivial), hZ.warm hW⟩⟩ rfl rfl hl.1 rfl (lv_room (Nat.le_of_ble_eq_true rfl)) dX7_init_9 ⟨Nat.le_of_ble_eq_true rfl, Nat.le_of_ble_eq_true rfl⟩) hS (fun q _ h => hFc q h) hFc (fun u t H1 locs ht hvm hw hB hz1 hk1 hS => ?_)
  obtain ⟨a1, c1⟩ := u
  obtain ⟨hP1, hK1, hD1⟩ := hB
  rw [ht] at hP1
  have hK1 := va_K.moved hvm.symm hK1
  dsimp only at hw hP1 hK1 hD1
  have hw : a1 0 = t1 := hw
  obtain ⟨hP, hD⟩ := va_join (wr := [(h0, .inr (6, [.null, .null]))]) (w1 := nT a1 c1) hP hD [1] [0] rfl rfl (by decide) (by decide) hk1 hFc hP1 hD1
  generalize H1 = H at hP hS ⊢
  have hK : va_K D vwCl (nTy c1) s := hK1
  rw [← hw]
  refine W.widen (k := 28) (n := 142) (Nat.le_of_ble_eq_true rfl) (Nat.le_of_ble_eq_true rfl) ?_
  have hP : va_P D vwCl ((h0, .inr (6, [.null, .null])) :: nT a1 c1) H := hP
  have hD : va_D A ((h0, .inr (6, [.null, .null])) :: nT a1 c1) := hD
  refine va_putF (D := D) (ci := 6) (v := .ref (a1 0)) (ty := .object RX6) (C := RX7) (T := TX7) (N := 2) hx hb hts i7 tyX7 tyX7_ok nmX7 hown hK hP hD hS 0 rfl rfl 0 (by decide) (hts (.fieldLink RX7 10 "ChicoryRoasters" "town" "LChicoryRoasters$Town;") (by decide +kernel)) (fun _ h9 => h9) rfl hin rfl (by decide +kernel) rfl rfl (Nat.le_of_ble_eq_true rfl) dX7_init_12 (fun H locs hP hD hS => ?_)
  have hP : va_P D vwCl ((h0, .inr (6, [.ref (a1 0), .null])) :: nT a1 c1) H := hP
  have hD : va_D A ((h0, .inr (6, [.ref (a1 0), .null])) :: nT a1 c1) := hD
  refine lv_aload_n hx hb dX7_init_15 rfl (lv_at hl 0 rfl) ?_
  refine va_new (ci := 5) (fs := [.null, .null, .null, .null, .null, .int 0, .int 0, .int 0, .int 0, .int 0, .int 0]) (C := RX6) (T := TX6) (N := 11) hx hb hts i6 tyX6 tyX6_ok hown (hts (.classLink RX7 7 RX6) (by decide +kernel)) (hts (.instantiable RX6 11) (by decide +kernel)) (hts (.initialized RX6) (by decide +kernel)) hK hP hD hS hA rfl (fun j hj => by rcases (show j = 0 ∨ j = 1 ∨ j = 2 ∨ j = 3 ∨ j = 4 ∨ j = 5 ∨ j = 6 ∨ j = 7 ∨ j = 8 ∨ j = 9 ∨ j = 10 by omega) with rfl | rfl | rfl | rfl | rfl | rfl | rfl | rfl | rfl | rfl | rfl <;> rfl) (Nat.le_of_ble_eq_true rfl) (Nat.le_of_ble_eq_true rfl) dX7_init_16 (fun t2 H hP hD hS => ?_)
  have hP : va_P D vwCl (((h0, .inr (6, [.ref (a1 0), .null])) :: nT a1 c1) ++ [(t2, .inr (5, [.null, .null, .null, .null, .null, .int 0, .int 0, .int 0, .int 0, .int 0, .int 0]))]) H := hP
  have hD : va_D A (((h0, .inr (6, [.ref (a1 0), .null])) :: nT a1 c1) ++ [(t2, .inr (5, [.null, .null, .null, .null, .null, .int 0, .int 0, .int 0, .int 0, .int 0, .int 0]))]) := hD
  refine W.widen (k := 29) (n := 153) (Nat.le_of_ble_eq_true rfl) (Nat.le_of_ble_eq_true rfl) ?_
  refine lv_dup hx hb dX7_init_19 rfl ?_
  have hPc := hP.sub (ws' := [(t2, .inr (5, [.null, .null, .null, .null, .null, .int 0, .int 0, .int 0, .int 0, .int 0, .int 0]))]) [29] rfl
  have hDc := hD.sub (ws' := [(t2, .inr (5, [.null, .null, .null, .null, .null, .int 0, .int 0, .int 0, .int 0, .int 0, .int 0]))]) [29] (by decide) rfl
  have hKc := hK.sub (tys' := []) [] rfl
  have hFc := va_free (wc := [(t2, .inr (5, [.null, .null, .null, .null, .null, .int 0, .int 0, .int 0, .int 0, .int 0, .int 0]))]) hD hS hA [29] rfl
  refine va_callv (va_runI (As := []) (rest := [.ref t2, .ref h0]) ⟨hx, hb, hml, hown, hts⟩ (nI6 l D H.size t2) (cwI 0 hts gX7_init_X6_init rfl rfl rfl (hts (.initialized RX6) (by decide +kernel)) (hts (.methodLink RX7 9 yX6_init) (by decide +kernel)) (hts (.instanceMethod yX6_init) (by decide +kernel)) rfl (by decide +kernel) ⟨Nat.le_of_ble_eq_true rfl, Nat.le_of_ble_eq_true rfl⟩) ⟨fun a U g mk q => by obtain ⟨q0, q1, qP, qK, qD, qZ⟩ := q; exact ⟨q0, q1, qP, va_K.moved (u := U) (U := U.calling g mk a) (Vm.Alike.refl U.vm) qK, qD, nZ.same rfl qZ⟩, fun U hU hW => ⟨rfl, by rw [hU], by rw [hU]; exact hPc, va_K.moved hW.alike hKc, hDc.weaken (fun _ _ _ _ => trivial), hZ.warm hW⟩⟩ rfl rfl hl.1 rfl (lv_room (Nat.le_of_ble_eq_true rfl)) dX7_init_20 ⟨Nat.le_of_ble_eq_true rfl, Nat.le_of_ble_eq_true rfl⟩) hS (fun q _ h => hFc q h) hFc (fun u t H1 locs ht hvm hw hB hz1 hk1 hS => ?_)
  obtain ⟨a2, c2⟩ := u
  obtain ⟨hP1, hK1, hD1⟩ := hB
  rw [ht] at hP1
  have hK1 := va_K.moved hvm.symm hK1
  dsimp only at hw hP1 hK1 hD1
  have hw : a2 0 = t2 := hw
  obtain ⟨hP, hD⟩ := va_join (wr := ((h0, .inr (6, [.ref (a1 0), .null])) :: nT a1 c1)) (w1 := nT a2 c2) hP hD [29] [0, 1, 2, 3, 4, 5, 6, 7, 8, 9, 10, 11, 12, 13, 14, 15, 16, 17, 18, 19, 20, 21, 22, 23, 24, 25, 26, 27, 28] rfl rfl (by decide) (by decide) hk1 hFc hP1 hD1
  generalize H1 = H at hP hS ⊢
  have hK9 := hK.app hK1
  have e0 : c2 0 = c1 0 := nK_obj 4 0 hK9 rfl rfl
  have e1 : c2 1 = c1 1 := nK_obj 5 1 hK9 rfl rfl
  have e2 : c2 2 = c1 2 := nK_obj 6 2 hK9 rfl rfl
  have e3 : c2 3 = c1 3 := nK_obj 7 3 hK9 rfl rfl
  have eT : nT a2 c2 = nT a2 c1 := by unfold nT; rw [e0, e1, e2, e3]
  rw [eT] at hP hD
  rw [← hw]
  refine W.widen (k := 56) (n := 284) (Nat.le_of_ble_eq_true rfl) (Nat.le_of_ble_eq_true rfl) ?_
  have hP : va_P D vwCl ((h0, .inr (6, [.ref (a1 0), .null])) :: (nT a1 c1 ++ nT a2 c1)) H := hP
  have hD : va_D A ((h0, .inr (6, [.ref (a1 0), .null])) :: (nT a1 c1 ++ nT a2 c1)) := hD
  refine va_putF (D := D) (ci := 6) (v := .ref (a2 0)) (ty := .object RX6) (C := RX7) (T := TX7) (N := 2) hx hb hts i7 tyX7 tyX7_ok nmX7 hown hK hP hD hS 0 rfl rfl 1 (by decide) (hts (.fieldLink RX7 16 "ChicoryRoasters" "trial" "LChicoryRoasters$Town;") (by decide +kernel)) (fun _ h9 => h9) rfl hin rfl (by decide +kernel) rfl rfl (Nat.le_of_ble_eq_true rfl) dX7_init_23 (fun H locs hP hD hS => ?_)
  have hP : va_P D vwCl (nR h0 a1 a2 c1) H := hP
  have hD : va_D A (nR h0 a1 a2 c1) := hD
  exact W.vret hx hb hr (fun t ht hW => ⟨⟨(a1, a2, c1), rfl, trivial, by rw [ht]; exact hP, va_K.moved hW.alike hK, hD⟩, hS.F ht⟩) hS.2.2 dX7_init_26
theorem n_newQ {p : Program} {l : Launch} {e : Env} {R : Room} {s : State} {m : MethodId} {args : Array Value} {below : List Frame} {meth : Method} {c : Code} {H0 H : Heap} {locs : List Loc} {cells slots : Nat} {Q : State → Prop} {cc : ByteArray} {pc : Nat} {ls : Array Slot} {rest : List Value} {A : Nat → Prop} {D : va_G} {cl : List vw_C} {ws : va_W} {tys : List (ClassId × FieldType)}
    (hexec : p.tables.exec = Jvm.exec) (hb : c.code = cc) {own : String} {index : Nat} (hown : s.vm.findClass own = some m.cls) (hclink : (Cond.classLink own index (FieldType.array .int).toString).before args s = true) (hover : (Cond.arrayOver (.array .int)).before args s = true) (hK : va_K D cl tys s) (hP : va_P D cl ws H) (hD : va_D A ws) (hS : va_S A H0 H locs) (hA : ∀ q, H0.size ≤ q → A q)
    {n : Int32} {N' : Nat} (hn : ¬ n < 0) (hN : n.toNatClampNeg = N') (hbytes : N' * 4 ≤ 536870912) (hcells : cells + 1 ≤ R.cells) (hslots : slots + N' ≤ R.slots) (hdg : decode cc pc = .ok (.anewarray index, 3))
    (kk : ∀ (q : Nat) (cA : ClassId) (H1 : Heap), va_K D cl (tys ++ [(cA, .array .int)]) s → va_P D cl (ws ++ [(q, .inl (cA, N', .inr (.inr (.inr (.inr (fun _ => none))))))]) H1 → va_D A (ws ++ [(q, .inl (cA, N', .inr (.inr (.inr (.inr (fun _ => none))))))]) → va_S A H0 H1 locs →
      W p l e R s m args below meth c H1 locs (cells + 1) (slots + N') Q (F0 m (pc + 3) ls (.ref q :: rest))) : W p l e R s m args below meth c H locs cells slots Q (F0 m pc ls (.int n :: rest)) := by
  subst hN
  refine W.anewA (t := .int) hexec hb hown hclink hover rfl hdg rfl hn hbytes hcells hslots fun cA kA comp f1 f2 f3 f4 => ?_
  generalize hH1 : H.push ({ cls := cA, slots := Array.replicate n.toNatClampNeg .null, vm := .none } : Cell) = H1
  have z1 : H1.size = H.size + 1 := by rw [← hH1, Array.size_push]
  have e1 : H1[H.size]? = some (arrV cA n.toNatClampNeg (fun _ => .null)) := by rw [← hH1, Array.getElem?_push_size, ← arrV_new]
  have o1 : ∀ q : Nat, q < H.size → H1[q]? = H[q]? := fun q hq => by rw [← hH1, Array.getElem?_push, if_neg (Nat.ne_of_lt hq)]
  have hAr : ArrOfT s cA (.array .int) := fun N z => ⟨(fun k h => by cases h), kA, f2, comp, f3⟩
  have hk : ∀ (k : Nat) (x : Nat × va_E), ws[k]? = some x → H1[x.1]? = H[x.1]? := fun k x hx => o1 x.1 ((hP k x hx).lt)
  refine kk H.size cA H1 ⟨hK.1, fun k x hx => ?_⟩ ((hP.kept hk).app (fun k x hx => ?_)) (hD.push hP rfl (hA _ hS.1)) ⟨Nat.le_trans hS.1 (by omega), fun x h1 h2 => (o1 x (Nat.lt_of_lt_of_le h1 hS.1)).trans (hS.2.1 x h1 h2), hS.2.2⟩
  · by_cases hl : k < tys.length
    · rw [List.getElem?_append_left hl] at hx
      exact hK.2 k x hx
    · rw [List.getElem?_append_right (by omega)] at hx
      have hz : k - tys.length < 1 := (List.getElem?_eq_some_iff.mp hx).1
      rw [show k - tys.length = 0 by omega] at hx
      cases hx
      exact ⟨hAr, f1⟩
  · have hz : k < 1 := (List.getElem?_eq_some_iff.mp hx).1
    rw [show k = 0 by omega] at hx
    cases hx
    show H1[H.size]? = some (vp_cell _ _)
    rw [vp_cell_q]
    exact e1
theorem nK_arr {D : va_G} {cl : List vw_C} {tys : List (ClassId × FieldType)} {s : State} {a b : ClassId} (i j : Nat) (hK : va_K D cl tys s) (hi : tys[i]? = some (a, .array .int)) (hj : tys[j]? = some (b, .array .int)) : a = b := by
  have h1 : s.vm.findClass _ = some a := (hK.2 i _ hi).2
  have h2 : s.vm.findClass _ = some b := (hK.2 j _ hj).2
  exact Option.some.inj (h1.symm.trans h2)
abbrev nM (a : Nat → Nat) (c0 c1 : ClassId) : va_W := [(a 0, .inr (7, [.int 0, .ref (a 1), .ref (a 2), .int 0, .int 0, .int 5, .int 0, .ref (a 3), .ref (a 4), .ref (a 5), .ref (a 6)])), (a 1, .inl (c0, 2, .inl (fun _ => 0))), (a 2, .inl (c0, 2, .inl (fun _ => 0))), (a 3, .inl (c1, 0, .inr (.inr (.inr (.inr (fun _ => none)))))), (a 4, .inl (c1, 0, .inr (.inr (.inr (.inr (fun _ => none)))))), (a 5, .inl (c1, 0, .inr (.inr (.inr (.inr (fun _ => none)))))), (a 6, .inl (c1, 0, .inr (.inr (.inr (.inr (fun _ => none))))))]
abbrev nM0 (h0 : Nat) : va_W := [(h0, .inr (7, [.int 0, .null, .null, .int 0, .int 0, .int 0, .int 0, .null, .null, .null, .null]))]
set_option maxRecDepth 100000 in
set_option maxHeartbeats 8000000 in
theorem nI8 (l : Launch) (D : va_G) (sz h0 : Nat) : Met l yX8_init wsX8_init ({ frames := 1, cells := 6, slots := 4, locals := 12 }) (va_Pc [.ref h0] (fun U => U.heap.size = sz ∧ va_P D vwCl (nM0 h0) U.heap ∧ va_K D vwCl [] U ∧ va_D (fun _ => True) (nM0 h0) ∧ (Cond.arrayOver (.array .int)).before #[] U = true)) (va_Qv (fun u : (Nat → Nat) × ClassId × ClassId => u.1 0 = h0) (fun u t => va_P D vwCl (nM u.1 u.2.1 u.2.2) t.heap ∧ va_K D vwCl [(u.2.1, .int), (u.2.2, .array .int)] t ∧ va_D (va_A (nM0 h0) sz) (nM u.1 u.2.1 u.2.2)) (va_A (nM0 h0) sz)) 6 4 (va_A (nM0 h0) sz) := by
  refine Met.ofW (cc := cX8_init) (maxL := 1) (ret := none) (by decide) rfl ?_
  intro p e s m args below meth c s₁ B hml hv
  obtain ⟨rfl, hsz, hP, hK, hD0, hov⟩ := hv
  have hx := B.exec
  have hb := B.bytes
  have hr := B.returns
  have hts := atoms_spec (ws := wsX8_init) B.pre
  have hown : s.vm.findClass RX8 = some m.cls := findClass_of_methodNamed B.named
  have hin : meth.name = "<init>" := (name_of_methodNamed B.named B.method).1
  subst hsz
  have hov : (Cond.arrayOver (.array .int)).before #[.ref h0] s = true := hov
  have hD := hD0.self (sz := s.heap.size)
  generalize hAe : va_A (nM0 h0) s.heap.size = A at hD ⊢
  have hA : ∀ q : Nat, s.heap.size ≤ q → A q := fun q h => by rw [← hAe]; exact Or.inr h
  have hS : va_S A s.heap s.heap [] := va_S.rf
  have hP : va_P D vwCl [(h0, .inr (7, [.int 0, .null, .null, .int 0, .int 0, .int 0, .int 0, .null, .null, .null, .null]))] s.heap := hP
  have hD : va_D A [(h0, .inr (7, [.int 0, .null, .null, .int 0, .int 0, .int 0, .int 0, .null, .null, .null, .null]))] := hD
  have i8 : ∀ w ∈ wsX80, w ∈ wsX8_init := by decide +kernel
  have hl := lv_entry ([.ref h0]) (n := 1) (Nat.le_of_ble_eq_true rfl)
  rw [lg_entry_eq]
  generalize (lg_sl ([.ref h0]) ++ List.replicate (1 - (lg_sl ([.ref h0])).length) Slot.unset).toArray = ls at hl ⊢
  have hl : lv_has ls 1 [(0, .ref h0)] := hl
  refine lv_aload_n hx hb dX8_init_0 rfl (lv_at hl 0 rfl) ?_
  refine W.objInit hx hb hown (hts (.methodLink RX8 1 objectInit) (by decide +kernel)) (hts (.instanceMethod objectInit) (by decide +kernel)) (hts (.code objectInit ⟨#[0xb1]⟩ 1 none) (List.mem_of_getElem? (i := 3) (by rfl))) rfl (by rw [hml]; exact hl.1) rfl dX8_init_1 (Nat.le_of_ble_eq_true rfl) (Nat.le_of_ble_eq_true rfl) ?_
  refine W.eq (g2 := F0 m 4 ls []) rfl ?_
  refine lv_aload_n hx hb dX8_init_4 rfl (lv_at hl 0 rfl) ?_
  refine lv_iconst (v := 2) hx hb dX8_init_5 (by decide) ?_
  refine va_newa (atype := .int) (ty := .int) (N' := 2) (a0 := (2, .inl (fun _ => 0))) hx hb (hts (.arrayClass .int) (by decide +kernel)) rfl hK hP hD hS hA (fun _ => rfl) (by decide) rfl (Nat.le_of_ble_eq_true rfl) (Nat.le_of_ble_eq_true rfl) (Nat.le_of_ble_eq_true rfl) dX8_init_6 (fun q0 c0 H hK hP hD hS => ?_)
  have hK : va_K D vwCl [(c0, .int)] s := hK.sub [0] rfl
  have hP : va_P D vwCl [(h0, .inr (7, [.int 0, .null, .null, .int 0, .int 0, .int 0, .int 0, .null, .null, .null, .null])), (q0, .inl (c0, 2, .inl (fun _ => 0)))] H := hP
  have hD : va_D A [(h0, .inr (7, [.int 0, .null, .null, .int 0, .int 0, .int 0, .int 0, .null, .null, .null, .null])), (q0, .inl (c0, 2, .inl (fun _ => 0)))] := hD
  refine W.widen (k := 1) (n := 2) (Nat.le_of_ble_eq_true rfl) (Nat.le_of_ble_eq_true rfl) ?_
  refine va_put (D := D) (ci := 7) (v := .ref q0) (ty := .array .int) (C := RX8) (T := TX8) (N := 11) hx hb hts i8 tyX8 tyX8_ok nmX8 hown hK hP hD hS 0 rfl rfl 1 (by decide) (hts (.fieldLink RX8 7 "ChicoryRoastersLaw$Sim" "store" "[I") (by decide +kernel)) (fun _ h9 => h9) rfl (by decide +kernel) rfl rfl (Nat.le_of_ble_eq_true rfl) dX8_init_8 (fun H locs hP hD hS => ?_)
  have hP : va_P D vwCl [(h0, .inr (7, [.int 0, .ref q0, .null, .int 0, .int 0, .int 0, .int 0, .null, .null, .null, .null])), (q0, .inl (c0, 2, .inl (fun _ => 0)))] H := hP
  have hD : va_D A [(h0, .inr (7, [.int 0, .ref q0, .null, .int 0, .int 0, .int 0, .int 0, .null, .null, .null, .null])), (q0, .inl (c0, 2, .inl (fun _ => 0)))] := hD
  refine lv_aload_n hx hb dX8_init_11 rfl (lv_at hl 0 rfl) ?_
  refine lv_iconst (v := 2) hx hb dX8_init_12 (by decide) ?_
  refine va_newa (atype := .int) (ty := .int) (N' := 2) (a0 := (2, .inl (fun _ => 0))) hx hb (hts (.arrayClass .int) (by decide +kernel)) rfl hK hP hD hS hA (fun _ => rfl) (by decide) rfl (Nat.le_of_ble_eq_true rfl) (Nat.le_of_ble_eq_true rfl) (Nat.le_of_ble_eq_true rfl) dX8_init_13 (fun q1 c1 H hK hP hD hS => ?_)
  obtain rfl : c0 = c1 := nK_int 0 1 hK rfl rfl
  have hK : va_K D vwCl [(c0, .int)] s := hK.sub [0] rfl
  have hP : va_P D vwCl [(h0, .inr (7, [.int 0, .ref q0, .null, .int 0, .int 0, .int 0, .int 0, .null, .null, .null, .null])), (q0, .inl (c0, 2, .inl (fun _ => 0))), (q1, .inl (c0, 2, .inl (fun _ => 0)))] H := hP
  have hD : va_D A [(h0, .inr (7, [.int 0, .ref q0, .null, .int 0, .int 0, .int 0, .int 0, .null, .null, .null, .null])), (q0, .inl (c0, 2, .inl (fun _ => 0))), (q1, .inl (c0, 2, .inl (fun _ => 0)))] := hD
  refine W.widen (k := 2) (n := 4) (Nat.le_of_ble_eq_true rfl) (Nat.le_of_ble_eq_true rfl) ?_
  refine va_put (D := D) (ci := 7) (v := .ref q1) (ty := .array .int) (C := RX8) (T := TX8) (N := 11) hx hb hts i8 tyX8 tyX8_ok nmX8 hown hK hP hD hS 0 rfl rfl 2 (by decide) (hts (.fieldLink RX8 13 "ChicoryRoastersLaw$Sim" "parts" "[I") (by decide +kernel)) (fun _ h9 => h9) rfl (by decide +kernel) rfl rfl (Nat.le_of_ble_eq_true rfl) dX8_init_15 (fun H locs hP hD hS => ?_)
  have hP : va_P D vwCl [(h0, .inr (7, [.int 0, .ref q0, .ref q1, .int 0, .int 0, .int 0, .int 0, .null, .null, .null, .null])), (q0, .inl (c0, 2, .inl (fun _ => 0))), (q1, .inl (c0, 2, .inl (fun _ => 0)))] H := hP
  have hD : va_D A [(h0, .inr (7, [.int 0, .ref q0, .ref q1, .int 0, .int 0, .int 0, .int 0, .null, .null, .null, .null])), (q0, .inl (c0, 2, .inl (fun _ => 0))), (q1, .inl (c0, 2, .inl (fun _ => 0)))] := hD
  refine lv_aload_n hx hb dX8_init_18 rfl (lv_at hl 0 rfl) ?_
  refine lv_iconst (v := 5) hx hb dX8_init_19 (by decide) ?_
  refine va_put (D := D) (ci := 7) (v := .int 5) (ty := .int) (C := RX8) (T := TX8) (N := 11) hx hb hts i8 tyX8 tyX8_ok nmX8 hown hK hP hD hS 0 rfl rfl 5 (by decide) (hts (.fieldLink RX8 16 "ChicoryRoastersLaw$Sim" "share" "I") (by decide +kernel)) (fun _ h9 => h9) rfl (by decide +kernel) rfl rfl (Nat.le_of_ble_eq_true rfl) dX8_init_20 (fun H locs hP hD hS => ?_)
  have hP : va_P D vwCl [(h0, .inr (7, [.int 0, .ref q0, .ref q1, .int 0, .int 0, .int 5, .int 0, .null, .null, .null, .null])), (q0, .inl (c0, 2, .inl (fun _ => 0))), (q1, .inl (c0, 2, .inl (fun _ => 0)))] H := hP
  have hD : va_D A [(h0, .inr (7, [.int 0, .ref q0, .ref q1, .int 0, .int 0, .int 5, .int 0, .null, .null, .null, .null])), (q0, .inl (c0, 2, .inl (fun _ => 0))), (q1, .inl (c0, 2, .inl (fun _ => 0)))] := hD
  refine lv_aload_n hx hb dX8_init_23 rfl (lv_at hl 0 rfl) ?_
  refine lv_iconst (v := 0) hx hb dX8_init_24 (by decide) ?_
  refine n_newQ (N' := 0) hx hb hown (hts (.classLink RX8 20 (FieldType.array .int).toString) (by decide +kernel)) hov hK hP hD hS hA (by decide) rfl (Nat.le_of_ble_eq_true rfl) (Nat.le_of_ble_eq_true rfl) (Nat.le_of_ble_eq_true rfl) dX8_init_25 (fun r0 e0 H hK hP hD hS => ?_)
  have hK : va_K D vwCl [(c0, .int), (e0, .array .int)] s := hK.sub [0, 1] rfl
  have hP : va_P D vwCl [(h0, .inr (7, [.int 0, .ref q0, .ref q1, .int 0, .int 0, .int 5, .int 0, .null, .null, .null, .null])), (q0, .inl (c0, 2, .inl (fun _ => 0))), (q1, .inl (c0, 2, .inl (fun _ => 0))), (r0, .inl (e0, 0, .inr (.inr (.inr (.inr (fun _ => none))))))] H := hP
  have hD : va_D A [(h0, .inr (7, [.int 0, .ref q0, .ref q1, .int 0, .int 0, .int 5, .int 0, .null, .null, .null, .null])), (q0, .inl (c0, 2, .inl (fun _ => 0))), (q1, .inl (c0, 2, .inl (fun _ => 0))), (r0, .inl (e0, 0, .inr (.inr (.inr (.inr (fun _ => none))))))] := hD
  refine W.widen (k := 3) (n := 4) (Nat.le_of_ble_eq_true rfl) (Nat.le_of_ble_eq_true rfl) ?_
  refine va_put (D := D) (ci := 7) (v := .ref r0) (ty := .array (.array .int)) (C := RX8) (T := TX8) (N := 11) hx hb hts i8 tyX8 tyX8_ok nmX8 hown hK hP hD hS 0 rfl rfl 7 (by decide) (hts (.fieldLink RX8 21 "ChicoryRoastersLaw$Sim" "beds" "[[I") (by decide +kernel)) (fun _ h9 => h9) rfl (by decide +kernel) rfl rfl (Nat.le_of_ble_eq_true rfl) dX8_init_28 (fun H locs hP hD hS => ?_)
  have hP : va_P D vwCl [(h0, .inr (7, [.int 0, .ref q0, .ref q1, .int 0, .int 0, .int 5, .int 0, .ref r0, .null, .null, .null])), (q0, .inl (c0, 2, .inl (fun _ => 0))), (q1, .inl (c0, 2, .inl (fun _ => 0))), (r0, .inl (e0, 0, .inr (.inr (.inr (.inr (fun _ => none))))))] H := hP
  have hD : va_D A [(h0, .inr (7, [.int 0, .ref q0, .ref q1, .int 0, .int 0, .int 5, .int 0, .ref r0, .null, .null, .null])), (q0, .inl (c0, 2, .inl (fun _ => 0))), (q1, .inl (c0, 2, .inl (fun _ => 0))), (r0, .inl (e0, 0, .inr (.inr (.inr (.inr (fun _ => none))))))] := hD
  refine lv_aload_n hx hb dX8_init_31 rfl (lv_at hl 0 rfl) ?_
  refine lv_iconst (v := 0) hx hb dX8_init_32 (by decide) ?_
  refine n_newQ (N' := 0) hx hb hown (hts (.classLink RX8 20 (FieldType.array .int).toString) (by decide +kernel)) hov hK hP hD hS hA (by decide) rfl (Nat.le_of_ble_eq_true rfl) (Nat.le_of_ble_eq_true rfl) (Nat.le_of_ble_eq_true rfl) dX8_init_33 (fun r1 e1 H hK hP hD hS => ?_)
  obtain rfl : e0 = e1 := nK_arr 1 2 hK rfl rfl
  have hK : va_K D vwCl [(c0, .int), (e0, .array .int)] s := hK.sub [0, 1] rfl
  have hP : va_P D vwCl [(h0, .inr (7, [.int 0, .ref q0, .ref q1, .int 0, .int 0, .int 5, .int 0, .ref r0, .null, .null, .null])), (q0, .inl (c0, 2, .inl (fun _ => 0))), (q1, .inl (c0, 2, .inl (fun _ => 0))), (r0, .inl (e0, 0, .inr (.inr (.inr (.inr (fun _ => none)))))), (r1, .inl (e0, 0, .inr (.inr (.inr (.inr (fun _ => none))))))] H := hP
  have hD : va_D A [(h0, .inr (7, [.int 0, .ref q0, .ref q1, .int 0, .int 0, .int 5, .int 0, .ref r0, .null, .null, .null])), (q0, .inl (c0, 2, .inl (fun _ => 0))), (q1, .inl (c0, 2, .inl (fun _ => 0))), (r0, .inl (e0, 0, .inr (.inr (.inr (.inr (fun _ => none)))))), (r1, .inl (e0, 0, .inr (.inr (.inr (.inr (fun _ => none))))))] := hD
  refine W.widen (k := 4) (n := 4) (Nat.le_of_ble_eq_true rfl) (Nat.le_of_ble_eq_true rfl) ?_
  refine va_put (D := D) (ci := 7) (v := .ref r1) (ty := .array (.array .int)) (C := RX8) (T := TX8) (N := 11) hx hb hts i8 tyX8 tyX8_ok nmX8 hown hK hP hD hS 0 rfl rfl 8 (by decide) (hts (.fieldLink RX8 25 "ChicoryRoastersLaw$Sim" "drums" "[[I") (by decide +kernel)) (fun _ h9 => h9) rfl (by decide +kernel) rfl rfl (Nat.le_of_ble_eq_true rfl) dX8_init_36 (fun H locs hP hD hS => ?_)
  have hP : va_P D vwCl [(h0, .inr (7, [.int 0, .ref q0, .ref q1, .int 0, .int 0, .int 5, .int 0, .ref r0, .ref r1, .null, .null])), (q0, .inl (c0, 2, .inl (fun _ => 0))), (q1, .inl (c0, 2, .inl (fun _ => 0))), (r0, .inl (e0, 0, .inr (.inr (.inr (.inr (fun _ => none)))))), (r1, .inl (e0, 0, .inr (.inr (.inr (.inr (fun _ => none))))))] H := hP
  have hD : va_D A [(h0, .inr (7, [.int 0, .ref q0, .ref q1, .int 0, .int 0, .int 5, .int 0, .ref r0, .ref r1, .null, .null])), (q0, .inl (c0, 2, .inl (fun _ => 0))), (q1, .inl (c0, 2, .inl (fun _ => 0))), (r0, .inl (e0, 0, .inr (.inr (.inr (.inr (fun _ => none)))))), (r1, .inl (e0, 0, .inr (.inr (.inr (.inr (fun _ => none))))))] := hD
  refine lv_aload_n hx hb dX8_init_39 rfl (lv_at hl 0 rfl) ?_
  refine lv_iconst (v := 0) hx hb dX8_init_40 (by decide) ?_
  refine n_newQ (N' := 0) hx hb hown (hts (.classLink RX8 20 (FieldType.array .int).toString) (by decide +kernel)) hov hK hP hD hS hA (by decide) rfl (Nat.le_of_ble_eq_true rfl) (Nat.le_of_ble_eq_true rfl) (Nat.le_of_ble_eq_true rfl) dX8_init_41 (fun r2 e2 H hK hP hD hS => ?_)
  obtain rfl : e0 = e2 := nK_arr 1 2 hK rfl rfl
  have hK : va_K D vwCl [(c0, .int), (e0, .array .int)] s := hK.sub [0, 1] rfl
  have hP : va_P D vwCl [(h0, .inr (7, [.int 0, .ref q0, .ref q1, .int 0, .int 0, .int 5, .int 0, .ref r0, .ref r1, .null, .null])), (q0, .inl (c0, 2, .inl (fun _ => 0))), (q1, .inl (c0, 2, .inl (fun _ => 0))), (r0, .inl (e0, 0, .inr (.inr (.inr (.inr (fun _ => none)))))), (r1, .inl (e0, 0, .inr (.inr (.inr (.inr (fun _ => none)))))), (r2, .inl (e0, 0, .inr (.inr (.inr (.inr (fun _ => none))))))] H := hP
  have hD : va_D A [(h0, .inr (7, [.int 0, .ref q0, .ref q1, .int 0, .int 0, .int 5, .int 0, .ref r0, .ref r1, .null, .null])), (q0, .inl (c0, 2, .inl (fun _ => 0))), (q1, .inl (c0, 2, .inl (fun _ => 0))), (r0, .inl (e0, 0, .inr (.inr (.inr (.inr (fun _ => none)))))), (r1, .inl (e0, 0, .inr (.inr (.inr (.inr (fun _ => none)))))), (r2, .inl (e0, 0, .inr (.inr (.inr (.inr (fun _ => none))))))] := hD
  refine W.widen (k := 5) (n := 4) (Nat.le_of_ble_eq_true rfl) (Nat.le_of_ble_eq_true rfl) ?_
  refine va_put (D := D) (ci := 7) (v := .ref r2) (ty := .array (.array .int)) (C := RX8) (T := TX8) (N := 11) hx hb hts i8 tyX8 tyX8_ok nmX8 hown hK hP hD hS 0 rfl rfl 9 (by decide) (hts (.fieldLink RX8 28 "ChicoryRoastersLaw$Sim" "smugglers" "[[I") (by decide +kernel)) (fun _ h9 => h9) rfl (by decide +kernel) rfl rfl (Nat.le_of_ble_eq_true rfl) dX8_init_44 (fun H locs hP hD hS => ?_)
  have hP : va_P D vwCl [(h0, .inr (7, [.int 0, .ref q0, .ref q1, .int 0, .int 0, .int 5, .int 0, .ref r0, .ref r1, .ref r2, .null])), (q0, .inl (c0, 2, .inl (fun _ => 0))), (q1, .inl (c0, 2, .inl (fun _ => 0))), (r0, .inl (e0, 0, .inr (.inr (.inr (.inr (fun _ => none)))))), (r1, .inl (e0, 0, .inr (.inr (.inr (.inr (fun _ => none)))))), (r2, .inl (e0, 0, .inr (.inr (.inr (.inr (fun _ => none))))))] H := hP
  have hD : va_D A [(h0, .inr (7, [.int 0, .ref q0, .ref q1, .int 0, .int 0, .int 5, .int 0, .ref r0, .ref r1, .ref r2, .null])), (q0, .inl (c0, 2, .inl (fun _ => 0))), (q1, .inl (c0, 2, .inl (fun _ => 0))), (r0, .inl (e0, 0, .inr (.inr (.inr (.inr (fun _ => none)))))), (r1, .inl (e0, 0, .inr (.inr (.inr (.inr (fun _ => none)))))), (r2, .inl (e0, 0, .inr (.inr (.inr (.inr (fun _ => none))))))] := hD
  refine lv_aload_n hx hb dX8_init_47 rfl (lv_at hl 0 rfl) ?_
  refine lv_iconst (v := 0) hx hb dX8_init_48 (by decide) ?_
  refine n_newQ (N' := 0) hx hb hown (hts (.classLink RX8 20 (FieldType.array .int).toString) (by decide +kernel)) hov hK hP hD hS hA (by decide) rfl (Nat.le_of_ble_eq_true rfl) (Nat.le_of_ble_eq_true rfl) (Nat.le_of_ble_eq_true rfl) dX8_init_49 (fun r3 e3 H hK hP hD hS => ?_)
  obtain rfl : e0 = e3 := nK_arr 1 2 hK rfl rfl
  have hK : va_K D vwCl [(c0, .int), (e0, .array .int)] s := hK.sub [0, 1] rfl
  have hP : va_P D vwCl [(h0, .inr (7, [.int 0, .ref q0, .ref q1, .int 0, .int 0, .int 5, .int 0, .ref r0, .ref r1, .ref r2, .null])), (q0, .inl (c0, 2, .inl (fun _ => 0))), (q1, .inl (c0, 2, .inl (fun _ => 0))), (r0, .inl (e0, 0, .inr (.inr (.inr (.inr (fun _ => none)))))), (r1, .inl (e0, 0, .inr (.inr (.inr (.inr (fun _ => none)))))), (r2, .inl (e0, 0, .inr (.inr (.inr (.inr (fun _ => none)))))), (r3, .inl (e0, 0, .inr (.inr (.inr (.inr (fun _ => none))))))] H := hP
  have hD : va_D A [(h0, .inr (7, [.int 0, .ref q0, .ref q1, .int 0, .int 0, .int 5, .int 0, .ref r0, .ref r1, .ref r2, .null])), (q0, .inl (c0, 2, .inl (fun _ => 0))), (q1, .inl (c0, 2, .inl (fun _ => 0))), (r0, .inl (e0, 0, .inr (.inr (.inr (.inr (fun _ => none)))))), (r1, .inl (e0, 0, .inr (.inr (.inr (.inr (fun _ => none)))))), (r2, .inl (e0, 0, .inr (.inr (.inr (.inr (fun _ => none)))))), (r3, .inl (e0, 0, .inr (.inr (.inr (.inr (fun _ => none))))))] := hD
  refine W.widen (k := 6) (n := 4) (Nat.le_of_ble_eq_true rfl) (Nat.le_of_ble_eq_true rfl) ?_
  refine va_put (D := D) (ci := 7) (v := .ref r3) (ty := .array (.array .int)) (C := RX8) (T := TX8) (N := 11) hx hb hts i8 tyX8 tyX8_ok nmX8 hown hK hP hD hS 0 rfl rfl 10 (by decide) (hts (.fieldLink RX8 31 "ChicoryRoastersLaw$Sim" "cards" "[[I") (by decide +kernel)) (fun _ h9 => h9) rfl (by decide +kernel) rfl rfl (Nat.le_of_ble_eq_true rfl) dX8_init_52 (fun H locs hP hD hS => ?_)
  have hP : va_P D vwCl [(h0, .inr (7, [.int 0, .ref q0, .ref q1, .int 0, .int 0, .int 5, .int 0, .ref r0, .ref r1, .ref r2, .ref r3])), (q0, .inl (c0, 2, .inl (fun _ => 0))), (q1, .inl (c0, 2, .inl (fun _ => 0))), (r0, .inl (e0, 0, .inr (.inr (.inr (.inr (fun _ => none)))))), (r1, .inl (e0, 0, .inr (.inr (.inr (.inr (fun _ => none)))))), (r2, .inl (e0, 0, .inr (.inr (.inr (.inr (fun _ => none)))))), (r3, .inl (e0, 0, .inr (.inr (.inr (.inr (fun _ => none))))))] H := hP
  have hD : va_D A [(h0, .inr (7, [.int 0, .ref q0, .ref q1, .int 0, .int 0, .int 5, .int 0, .ref r0, .ref r1, .ref r2, .ref r3])), (q0, .inl (c0, 2, .inl (fun _ => 0))), (q1, .inl (c0, 2, .inl (fun _ => 0))), (r0, .inl (e0, 0, .inr (.inr (.inr (.inr (fun _ => none)))))), (r1, .inl (e0, 0, .inr (.inr (.inr (.inr (fun _ => none)))))), (r2, .inl (e0, 0, .inr (.inr (.inr (.inr (fun _ => none)))))), (r3, .inl (e0, 0, .inr (.inr (.inr (.inr (fun _ => none))))))] := hD
  exact W.vret hx hb hr (fun t ht hW => ⟨⟨(fun k => [h0, q0, q1, r0, r1, r2, r3].getD k 0, c0, e0), rfl, rfl, by rw [ht]; exact hP, va_K.moved hW.alike hK, hD⟩, hS.F ht⟩) hS.2.2 dX8_init_55
