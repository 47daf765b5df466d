section GH
variable {p : Program} {l : Launch} {e : Env} {R : Room} {s : State} {m : MethodId} {args : Array Value} {below : List Frame} {meth : Method} {c : Code} {Q : State → Prop}
variable {cc : ByteArray} {nL : Nat} {Ts : List Cond} {own : String} {E : gT} {σ : gS} {cells slots pc : Nat} {lv lv' : List (Nat × Value)} {rest : List Value}
/-- getfield of any cell of the world -/
theorem g_getc (S : CallFix p m c cc nL s args Ts own) (hC : gC E s) {C : String} {T : u_T} {N : Nat} (ci : Nat) {fs : List Value} (j : Nat) {k : Nat} (hk : k < 58) (hw : gw E σ k = .inr (ci, fs)) (hcl : vwCl[ci]? = some (C, T, N)) (hj : j < N) (hin : ∀ w ∈ u_ws C T N, w ∈ Ts) {index : Nat} (hlk : Cond.fieldLink own index (T j).1 (T j).2.1 (T j).2.2.1 ∈ Ts) {v : Value} (hv : fs[j]? = some v) (d : decode cc pc = .ok (.getfield index, 3))
    (kk : gJ p l e R s m args below meth c Q nL E σ cells slots (pc + 3) lv (v :: rest)) : gJ p l e R s m args below meth c Q nL E σ cells slots pc lv (.ref (E.2.2 k) :: rest) :=
  fun H locs ls hP hS hl => va_get (D := E.1.1) (cl := vwCl) S.1 S.2.1 S.2.2.2.2 hin S.2.2.2.1 hC.1 hP.1 k (by rw [gl_at hk, hw]) hcl j hj (S.2.2.2.2 _ hlk) (fun _ h => h) hv d (kk H locs ls hP hS hl)
/-- putfield of a number, any cell of the world -/
theorem g_putc (S : CallFix p m c cc nL s args Ts own) (hC : gC E s) {C : String} {T : u_T} {N : Nat} (ty0 : Nat → FieldType) (hty : ∀ k, k < N → parseFieldDescriptor (T k).2.2.1 = some (ty0 k)) (hnm : ∀ a, a < N → ∀ b, b < N → a ≠ b → (T a).2.1 ≠ (T b).2.1) (ci : Nat) {fs : List Value} (j : Nat) {k : Nat} {x : Int32} (hk : k < 58) (hw : gw E σ k = .inr (ci, fs)) (hw2 : gw E (gu σ k j x) k = .inr (ci, fs.set j (.int x))) (hcl : vwCl[ci]? = some (C, T, N)) (hj : j < N) (hin : ∀ w ∈ u_ws C T N, w ∈ Ts) {index : Nat} (hlk : Cond.fieldLink own index (T j).1 (T j).2.1 (T j).2.2.1 ∈ Ts) (hfin : (T j).2.2.2 = false) (hint : ty0 j = .int) (hl : j < fs.length) (d : decode cc pc = .ok (.putfield index, 3))
    (kk : gJ p l e R s m args below meth c Q nL E (gu σ k j x) cells slots (pc + 3) lv rest) : gJ p l e R s m args below meth c Q nL E σ cells slots pc lv (.int x :: .ref (E.2.2 k) :: rest) :=
  fun H locs ls hP hS hl' => va_put (D := E.1.1) (cl := vwCl) (ty := .int) (v := .int x) S.1 S.2.1 S.2.2.2.2 hin ty0 hty hnm S.2.2.2.1 hC.1 hP.1 hP.2 hS k (by rw [gl_at hk, hw]) hcl j hj (S.2.2.2.2 _ hlk) (fun _ h => h) hfin (by rw [hty j hj, hint]) rfl rfl hl d (fun H1 locs1 hP1 hD1 hS1 => by
    rw [← hw2, gl_set hk (fun q hq => gw_gu hq)] at hP1 hD1
    exact kk H1 locs1 ls ⟨hP1, hD1⟩ hS1 hl')
theorem gw_5 {k : Nat} (h : gK k = 5) : gw E σ k = .inr (5, [.ref (E.2.2 (k + 1)), .ref (E.2.2 (k + 2)), .ref (E.2.2 (k + 3)), .ref (E.2.2 (k + 4)), .ref (E.2.2 (k + 5)), .int (σ.1 k 5), .int (σ.1 k 6), .int (σ.1 k 7), .int (σ.1 k 8), .int (σ.1 k 9), .int (σ.1 k 10)]) := by unfold gw; rw [h]; try rfl
theorem gw_8 {k : Nat} (h : gK k = 8) : gw E σ k = .inl (E.2.1 0, 2, .inl (σ.1 k)) := by unfold gw; rw [h]; try rfl
theorem gu_self {σ : gS} {k j : Nat} {x : Int32} : (gu σ k j x).1 k = upd (σ.1 k) j x := by
  funext b
  simp [gu, upd]
/-- a row of numbers read -/
theorem g_iald (S : CallFix p m c cc nL s args Ts own) (hC : gC E s) {k : Nat} (hk : k < 58) (hkd : gK k = 8) (j : Nat) {i : Int32} (hi : i = nI j) (hj : j < 2) (d : decode cc pc = .ok (.iaload, 1))
    (kk : gJ p l e R s m args below meth c Q nL E σ cells slots (pc + 1) lv (.int (σ.1 k j) :: rest)) : gJ p l e R s m args below meth c Q nL E σ cells slots pc lv (.int i :: .ref (E.2.2 k) :: rest) := by
  intro H locs ls hP hS hl
  have hcl : i.toNatClampNeg = j := by rw [hi]; exact nI_clamp (by omega)
  refine va_iald (D := E.1.1) (cl := vwCl) S.1 S.2.1 hC.1 hP.1 k 0 (by rw [gl_at hk, gw_8 hkd]) rfl (by rw [hi]; exact vp_in_nI hj (by omega)) d ?_
  rw [hcl]
  exact kk H locs ls hP hS hl
/-- .. and written -/
theorem g_iast (S : CallFix p m c cc nL s args Ts own) (hC : gC E s) {k : Nat} (hk : k < 58) (hkd : gK k = 8) (j : Nat) {i x : Int32} (hi : i = nI j) (hj : j < 2) (d : decode cc pc = .ok (.iastore, 1))
    (kk : gJ p l e R s m args below meth c Q nL E (gu σ k j x) cells slots (pc + 1) lv rest) : gJ p l e R s m args below meth c Q nL E σ cells slots pc lv (.int x :: .int i :: .ref (E.2.2 k) :: rest) := by
  intro H locs ls hP hS hl
  have hcl : i.toNatClampNeg = j := by rw [hi]; exact nI_clamp (by omega)
  refine va_iast (D := E.1.1) (cl := vwCl) S.1 S.2.1 hC.1 hP.1 hP.2 hS k 0 (by rw [gl_at hk, gw_8 hkd]) rfl (by rw [hi]; exact vp_in_nI hj (by omega)) d (fun H1 locs1 hP1 hD1 hS1 => ?_)
  rw [hcl, ← gu_self, ← gw_8 hkd, gl_set hk (fun q hq => gw_gu hq)] at hP1 hD1
  exact kk H1 locs1 ls ⟨hP1, hD1⟩ hS1 hl
/-- a town's rows of objects -/
theorem g_aald (S : CallFix p m c cc nL s args Ts own) (hC : gC E s) {k : Nat} (hk : k < 58) (kd n off t0 ci : Nat) {C : String} (hw : gw E σ k = .inl (E.2.1 ci, n, .inr (.inr (.inr (.inr (fun j => some (E.2.2 (k + off + j)))))))) (ht : (gTys E)[t0]? = some (E.2.1 ci, .object C)) (hn : n ≤ 10) (j : Nat) {i : Int32} (hi : i = nI j) (hj : j < n) (q : Nat) (hq : k + off + j = q) (d : decode cc pc = .ok (.aaload, 1))
    (kk : gJ p l e R s m args below meth c Q nL E σ cells slots (pc + 1) lv (.ref (E.2.2 q) :: rest)) : gJ p l e R s m args below meth c Q nL E σ cells slots pc lv (.int i :: .ref (E.2.2 k) :: rest) := by
  intro H locs ls hP hS hl
  have hcl : i.toNatClampNeg = j := by rw [hi]; exact nI_clamp (by omega)
  refine va_aldq (D := E.1.1) (cl := vwCl) S.1 S.2.1 hC.1 hP.1 k t0 (by rw [gl_at hk, hw]) ht (by rw [hi]; exact vp_in_nI hj (by omega)) d ?_
  rw [hcl]
  show W p l e R s m args below meth c H locs cells slots Q (F0 m (pc + 1) ls (va_rf (some (E.2.2 (k + off + j))) :: rest))
  rw [hq]
  exact kk H locs ls hP hS hl
theorem g_min (S : CallFix p m c cc nL s args Ts own) {index : Nat} (h1 : Cond.methodLink own index Lib.Math.min.name ∈ Ts) (h2 : Cond.static Lib.Math.min.name ∈ Ts) (h3 : Cond.initialized "java/lang/Math" ∈ Ts) (h4 : Cond.code Lib.Math.min.name Lib.Math.min.code 2 (some .int) ∈ Ts) (hR : 1 ≤ R.frames) (hR2 : (rest.map fun v => v.category).sum + 13 ≤ R.locals) (hc : cells ≤ R.cells) (hs : slots ≤ R.slots) {x y : Int32} (d : decode cc pc = .ok (.invokestatic index, 3))
    (kk : gJ p l e R s m args below meth c Q nL E σ cells slots (pc + 3) lv (.int (if y < x then y else x) :: rest)) : gJ p l e R s m args below meth c Q nL E σ cells slots pc lv (.int y :: .int x :: rest) :=
  fun H locs ls hP hS hl => va_mmin S.1 S.2.1 (S.2.2.1.trans hl.1.symm) S.2.2.2.1 (S.2.2.2.2 _ h1) (S.2.2.2.2 _ h2) (S.2.2.2.2 _ h3) (S.2.2.2.2 _ h4) hR hR2 hc hs d (kk H locs ls hP hS hl)
end GH
section GF
variable {p : Program} {l : Launch} {e : Env} {R : Room} {s : State} {m : MethodId} {args : Array Value} {below : List Frame} {meth : Method} {c : Code} {Q : State → Prop}
variable {cc : ByteArray} {nL : Nat} {Ts : List Cond} {own : String} {E : gT} {σ : gS} {cells slots pc : Nat} {lv lv' : List (Nat × Value)} {rest : List Value}
theorem gg0 (S : CallFix p m c cc nL s args Ts own) (hC : gC E s) (hin : ∀ w ∈ wsX00, w ∈ Ts) {k : Nat} (hk : k < 58) (hkd : gK k = 0) (j : Nat) (hj : j < 3) {index : Nat} (hlk : Cond.fieldLink own index (TX0 j).1 (TX0 j).2.1 (TX0 j).2.2.1 ∈ Ts)  (d : decode cc pc = .ok (.getfield index, 3)) (kk : gJ p l e R s m args below meth c Q nL E σ cells slots (pc + 3) lv (.int (σ.1 k j) :: rest)) : gJ p l e R s m args below meth c Q nL E σ cells slots pc lv (.ref (E.2.2 k) :: rest) :=
  g_getc S hC (C := RX0) (T := TX0) (N := 3) 0 j hk (gK_o hkd (by decide)) rfl (by omega) hin hlk (gO_get hj) d kk
theorem gp0 (S : CallFix p m c cc nL s args Ts own) (hC : gC E s) (hin : ∀ w ∈ wsX00, w ∈ Ts) {k : Nat} (hk : k < 58) (hkd : gK k = 0) (j : Nat) (hj : j < 3) {index : Nat} (hlk : Cond.fieldLink own index (TX0 j).1 (TX0 j).2.1 (TX0 j).2.2.1 ∈ Ts) {x : Int32} (d : decode cc pc = .ok (.putfield index, 3)) (kk : gJ p l e R s m args below meth c Q nL E (gu σ k j x) cells slots (pc + 3) lv rest) : gJ p l e R s m args below meth c Q nL E σ cells slots pc lv (.int x :: .ref (E.2.2 k) :: rest) :=
  g_putc S hC (C := RX0) (T := TX0) (N := 3) tyX0 tyX0_ok nmX0 0 j hk (gK_o hkd (by decide)) (by rw [gO_set]; exact gK_o hkd (by decide)) rfl hj hin hlk (by rcases (show j = 0 ∨ j = 1 ∨ j = 2 by omega) with rfl | rfl | rfl <;> rfl) (by rcases (show j = 0 ∨ j = 1 ∨ j = 2 by omega) with rfl | rfl | rfl <;> rfl) (by rw [List.length_map, List.length_range]; exact hj) d kk
theorem gg1 (S : CallFix p m c cc nL s args Ts own) (hC : gC E s) (hin : ∀ w ∈ wsX10, w ∈ Ts) {k : Nat} (hk : k < 58) (hkd : gK k = 1) (j : Nat) (hj : j < 5) {index : Nat} (hlk : Cond.fieldLink own index (TX1 j).1 (TX1 j).2.1 (TX1 j).2.2.1 ∈ Ts)  (d : decode cc pc = .ok (.getfield index, 3)) (kk : gJ p l e R s m args below meth c Q nL E σ cells slots (pc + 3) lv (.int (σ.1 k j) :: rest)) : gJ p l e R s m args below meth c Q nL E σ cells slots pc lv (.ref (E.2.2 k) :: rest) :=
  g_getc S hC (C := RX1) (T := TX1) (N := 5) 1 j hk (gK_o hkd (by decide)) rfl (by omega) hin hlk (gO_get hj) d kk
theorem gp1 (S : CallFix p m c cc nL s args Ts own) (hC : gC E s) (hin : ∀ w ∈ wsX10, w ∈ Ts) {k : Nat} (hk : k < 58) (hkd : gK k = 1) (j : Nat) (hj : j < 5) {index : Nat} (hlk : Cond.fieldLink own index (TX1 j).1 (TX1 j).2.1 (TX1 j).2.2.1 ∈ Ts) {x : Int32} (d : decode cc pc = .ok (.putfield index, 3)) (kk : gJ p l e R s m args below meth c Q nL E (gu σ k j x) cells slots (pc + 3) lv rest) : gJ p l e R s m args below meth c Q nL E σ cells slots pc lv (.int x :: .ref (E.2.2 k) :: rest) :=
  g_putc S hC (C := RX1) (T := TX1) (N := 5) tyX1 tyX1_ok nmX1 1 j hk (gK_o hkd (by decide)) (by rw [gO_set]; exact gK_o hkd (by decide)) rfl hj hin hlk (by rcases (show j = 0 ∨ j = 1 ∨ j = 2 ∨ j = 3 ∨ j = 4 by omega) with rfl | rfl | rfl | rfl | rfl <;> rfl) (by rcases (show j = 0 ∨ j = 1 ∨ j = 2 ∨ j = 3 ∨ j = 4 by omega) with rfl | rfl | rfl | rfl | rfl <;> rfl) (by rw [List.length_map, List.length_range]; exact hj) d kk
theorem gg2 (S : CallFix p m c cc nL s args Ts own) (hC : gC E s) (hin : ∀ w ∈ wsX20, w ∈ Ts) {k : Nat} (hk : k < 58) (hkd : gK k = 2) (j : Nat) (hj : j < 5) {index : Nat} (hlk : Cond.fieldLink own index (TX2 j).1 (TX2 j).2.1 (TX2 j).2.2.1 ∈ Ts)  (d : decode cc pc = .ok (.getfield index, 3)) (kk : gJ p l e R s m args below meth c Q nL E σ cells slots (pc + 3) lv (.int (σ.1 k j) :: rest)) : gJ p l e R s m args below meth c Q nL E σ cells slots pc lv (.ref (E.2.2 k) :: rest) :=
  g_getc S hC (C := RX2) (T := TX2) (N := 5) 2 j hk (gK_o hkd (by decide)) rfl (by omega) hin hlk (gO_get hj) d kk
theorem gp2 (S : CallFix p m c cc nL s args Ts own) (hC : gC E s) (hin : ∀ w ∈ wsX20, w ∈ Ts) {k : Nat} (hk : k < 58) (hkd : gK k = 2) (j : Nat) (hj : j < 5) {index : Nat} (hlk : Cond.fieldLink own index (TX2 j).1 (TX2 j).2.1 (TX2 j).2.2.1 ∈ Ts) {x : Int32} (d : decode cc pc = .ok (.putfield index, 3)) (kk : gJ p l e R s m args below meth c Q nL E (gu σ k j x) cells slots (pc + 3) lv rest) : gJ p l e R s m args below meth c Q nL E σ cells slots pc lv (.int x :: .ref (E.2.2 k) :: rest) :=
  g_putc S hC (C := RX2) (T := TX2) (N := 5) tyX2 tyX2_ok nmX2 2 j hk (gK_o hkd (by decide)) (by rw [gO_set]; exact gK_o hkd (by decide)) rfl hj hin hlk (by rcases (show j = 0 ∨ j = 1 ∨ j = 2 ∨ j = 3 ∨ j = 4 by omega) with rfl | rfl | rfl | rfl | rfl <;> rfl) (by rcases (show j = 0 ∨ j = 1 ∨ j = 2 ∨ j = 3 ∨ j = 4 by omega) with rfl | rfl | rfl | rfl | rfl <;> rfl) (by rw [List.length_map, List.length_range]; exact hj) d kk
theorem gg3 (S : CallFix p m c cc nL s args Ts own) (hC : gC E s) (hin : ∀ w ∈ wsX30, w ∈ Ts) {k : Nat} (hk : k < 58) (hkd : gK k = 3) (j : Nat) (hj : j < 5) {index : Nat} (hlk : Cond.fieldLink own index (TX3 j).1 (TX3 j).2.1 (TX3 j).2.2.1 ∈ Ts)  (d : decode cc pc = .ok (.getfield index, 3)) (kk : gJ p l e R s m args below meth c Q nL E σ cells slots (pc + 3) lv (.int (σ.1 k j) :: rest)) : gJ p l e R s m args below meth c Q nL E σ cells slots pc lv (.ref (E.2.2 k) :: rest) :=
  g_getc S hC (C := RX3) (T := TX3) (N := 5) 3 j hk (gK_o hkd (by decide)) rfl (by omega) hin hlk (gO_get hj) d kk
theorem gp3 (S : CallFix p m c cc nL s args Ts own) (hC : gC E s) (hin : ∀ w ∈ wsX30, w ∈ Ts) {k : Nat} (hk : k < 58) (hkd : gK k = 3) (j : Nat) (hj : j < 5) {index : Nat} (hlk : Cond.fieldLink own index (TX3 j).1 (TX3 j).2.1 (TX3 j).2.2.1 ∈ Ts) {x : Int32} (d : decode cc pc = .ok (.putfield index, 3)) (kk : gJ p l e R s m args below meth c Q nL E (gu σ k j x) cells slots (pc + 3) lv rest) : gJ p l e R s m args below meth c Q nL E σ cells slots pc lv (.int x :: .ref (E.2.2 k) :: rest) :=
  g_putc S hC (C := RX3) (T := TX3) (N := 5) tyX3 tyX3_ok nmX3 3 j hk (gK_o hkd (by decide)) (by rw [gO_set]; exact gK_o hkd (by decide)) rfl hj hin hlk (by rcases (show j = 0 ∨ j = 1 ∨ j = 2 ∨ j = 3 ∨ j = 4 by omega) with rfl | rfl | rfl | rfl | rfl <;> rfl) (by rcases (show j = 0 ∨ j = 1 ∨ j = 2 ∨ j = 3 ∨ j = 4 by omega) with rfl | rfl | rfl | rfl | rfl <;> rfl) (by rw [List.length_map, List.length_range]; exact hj) d kk
theorem gg4 (S : CallFix p m c cc nL s args Ts own) (hC : gC E s) (hin : ∀ w ∈ wsX40, w ∈ Ts) {k : Nat} (hk : k < 58) (hkd : gK k = 4) (j : Nat) (hj : j < 7) {index : Nat} (hlk : Cond.fieldLink own index (TX4 j).1 (TX4 j).2.1 (TX4 j).2.2.1 ∈ Ts)  (d : decode cc pc = .ok (.getfield index, 3)) (kk : gJ p l e R s m args below meth c Q nL E σ cells slots (pc + 3) lv (.int (σ.1 k j) :: rest)) : gJ p l e R s m args below meth c Q nL E σ cells slots pc lv (.ref (E.2.2 k) :: rest) :=
  g_getc S hC (C := RX4) (T := TX4) (N := 7) 4 j hk (gK_o hkd (by decide)) rfl (by omega) hin hlk (gO_get hj) d kk
theorem gp4 (S : CallFix p m c cc nL s args Ts own) (hC : gC E s) (hin : ∀ w ∈ wsX40, w ∈ Ts) {k : Nat} (hk : k < 58) (hkd : gK k = 4) (j : Nat) (hj : j < 7) {index : Nat} (hlk : Cond.fieldLink own index (TX4 j).1 (TX4 j).2.1 (TX4 j).2.2.1 ∈ Ts) {x : Int32} (d : decode cc pc = .ok (.putfield index, 3)) (kk : gJ p l e R s m args below meth c Q nL E (gu σ k j x) cells slots (pc + 3) lv rest) : gJ p l e R s m args below meth c Q nL E σ cells slots pc lv (.int x :: .ref (E.2.2 k) :: rest) :=
  g_putc S hC (C := RX4) (T := TX4) (N := 7) tyX4 tyX4_ok nmX4 4 j hk (gK_o hkd (by decide)) (by rw [gO_set]; exact gK_o hkd (by decide)) rfl hj hin hlk (by rcases (show j = 0 ∨ j = 1 ∨ j = 2 ∨ j = 3 ∨ j = 4 ∨ j = 5 ∨ j = 6 by omega) with rfl | rfl | rfl | rfl | rfl | rfl | rfl <;> rfl) (by rcases (show j = 0 ∨ j = 1 ∨ j = 2 ∨ j = 3 ∨ j = 4 ∨ j = 5 ∨ j = 6 by omega) with rfl | rfl | rfl | rfl | rfl | rfl | rfl <;> rfl) (by rw [List.length_map, List.length_range]; exact hj) d kk
theorem gg5r (S : CallFix p m c cc nL s args Ts own) (hC : gC E s) (hin : ∀ w ∈ wsX60, w ∈ Ts) {k : Nat} (hk : k < 58) (hkd : gK k = 5) (j : Nat) (hj : j < 5) {index : Nat} (hlk : Cond.fieldLink own index (TX6 j).1 (TX6 j).2.1 (TX6 j).2.2.1 ∈ Ts)  (d : decode cc pc = .ok (.getfield index, 3)) (kk : gJ p l e R s m args below meth c Q nL E σ cells slots (pc + 3) lv (.ref (E.2.2 (k + 1 + j)) :: rest)) : gJ p l e R s m args below meth c Q nL E σ cells slots pc lv (.ref (E.2.2 k) :: rest) :=
  g_getc S hC (C := RX6) (T := TX6) (N := 11) 5 j hk (gw_5 hkd) rfl (by omega) hin hlk (by rcases (show j = 0 ∨ j = 1 ∨ j = 2 ∨ j = 3 ∨ j = 4 by omega) with rfl | rfl | rfl | rfl | rfl <;> rfl) d kk
theorem gg5 (S : CallFix p m c cc nL s args Ts own) (hC : gC E s) (hin : ∀ w ∈ wsX60, w ∈ Ts) {k : Nat} (hk : k < 58) (hkd : gK k = 5) (j : Nat) (hj : 5 ≤ j ∧ j < 11) {index : Nat} (hlk : Cond.fieldLink own index (TX6 j).1 (TX6 j).2.1 (TX6 j).2.2.1 ∈ Ts)  (d : decode cc pc = .ok (.getfield index, 3)) (kk : gJ p l e R s m args below meth c Q nL E σ cells slots (pc + 3) lv (.int (σ.1 k j) :: rest)) : gJ p l e R s m args below meth c Q nL E σ cells slots pc lv (.ref (E.2.2 k) :: rest) :=
  g_getc S hC (C := RX6) (T := TX6) (N := 11) 5 j hk (gw_5 hkd) rfl (by omega) hin hlk (by rcases (show j = 5 ∨ j = 6 ∨ j = 7 ∨ j = 8 ∨ j = 9 ∨ j = 10 by omega) with rfl | rfl | rfl | rfl | rfl | rfl <;> rfl) d kk
theorem gp5 (S : CallFix p m c cc nL s args Ts own) (hC : gC E s) (hin : ∀ w ∈ wsX60, w ∈ Ts) {k : Nat} (hk : k < 58) (hkd : gK k = 5) (j : Nat) (hj : 5 ≤ j ∧ j < 11) {index : Nat} (hlk : Cond.fieldLink own index (TX6 j).1 (TX6 j).2.1 (TX6 j).2.2.1 ∈ Ts) {x : Int32} (d : decode cc pc = .ok (.putfield index, 3)) (kk : gJ p l e R s m args below meth c Q nL E (gu σ k j x) cells slots (pc + 3) lv rest) : gJ p l e R s m args below meth c Q nL E σ cells slots pc lv (.int x :: .ref (E.2.2 k) :: rest) :=
  g_putc S hC (C := RX6) (T := TX6) (N := 11) tyX6 tyX6_ok nmX6 5 j hk (gw_5 hkd) (by rw [gw_5 hkd]; simp only [gu_self]; rcases (show j = 5 ∨ j = 6 ∨ j = 7 ∨ j = 8 ∨ j = 9 ∨ j = 10 by omega) with rfl | rfl | rfl | rfl | rfl | rfl <;> simp [upd]) rfl (by omega) hin hlk (by rcases (show j = 5 ∨ j = 6 ∨ j = 7 ∨ j = 8 ∨ j = 9 ∨ j = 10 by omega) with rfl | rfl | rfl | rfl | rfl | rfl <;> rfl) (by rcases (show j = 5 ∨ j = 6 ∨ j = 7 ∨ j = 8 ∨ j = 9 ∨ j = 10 by omega) with rfl | rfl | rfl | rfl | rfl | rfl <;> rfl) (by show j < 11; omega) d kk
theorem gg6 (S : CallFix p m c cc nL s args Ts own) (hC : gC E s) (hin : ∀ w ∈ wsX70, w ∈ Ts) {index : Nat} (hlk : Cond.fieldLink own index (TX7 0).1 (TX7 0).2.1 (TX7 0).2.2.1 ∈ Ts) (d : decode cc pc = .ok (.getfield index, 3)) (kk : gJ p l e R s m args below meth c Q nL E σ cells slots (pc + 3) lv (.ref (E.2.2 1) :: rest)) : gJ p l e R s m args below meth c Q nL E σ cells slots pc lv (.ref (E.2.2 0) :: rest) :=
  g_getc S hC (C := RX7) (T := TX7) (N := 2) (fs := [.ref (E.2.2 1), .ref (gTr E)]) 6 0 (by omega) rfl rfl (by omega) hin hlk rfl d kk
theorem gw_7 : gw E σ 29 = .inr (7, [.int (σ.1 29 0), .ref (E.2.2 30), .ref (E.2.2 31), .int (σ.1 29 3), .int (σ.1 29 4), .int (σ.1 29 5), .int (σ.1 29 6), .ref (E.2.2 32), .ref (E.2.2 33), .ref (E.2.2 34), .ref (E.2.2 35)]) := rfl
/-- Sim's numbers: its fields 0, 3, 4, 5, 6 -/
theorem gg7 (S : CallFix p m c cc nL s args Ts own) (hC : gC E s) (hin : ∀ w ∈ wsX80, w ∈ Ts) (j : Nat) (hj : j = 0 ∨ j = 3 ∨ j = 4 ∨ j = 5 ∨ j = 6) {index : Nat} (hlk : Cond.fieldLink own index (TX8 j).1 (TX8 j).2.1 (TX8 j).2.2.1 ∈ Ts)  (d : decode cc pc = .ok (.getfield index, 3)) (kk : gJ p l e R s m args below meth c Q nL E σ cells slots (pc + 3) lv (.int (σ.1 29 j) :: rest)) : gJ p l e R s m args below meth c Q nL E σ cells slots pc lv (.ref (E.2.2 29) :: rest) :=
  g_getc S hC (C := RX8) (T := TX8) (N := 11) 7 j (by omega) gw_7 rfl (by omega) hin hlk (by rcases hj with rfl | rfl | rfl | rfl | rfl <;> rfl) d kk
/-- .. its rows: fields 1, 2 (store, parts), 7..10 (rows of rows) -/
theorem gg7r (S : CallFix p m c cc nL s args Ts own) (hC : gC E s) (hin : ∀ w ∈ wsX80, w ∈ Ts) (j q : Nat) (hj : (j = 1 ∧ q = 30) ∨ (j = 2 ∧ q = 31) ∨ (j = 7 ∧ q = 32) ∨ (j = 8 ∧ q = 33) ∨ (j = 9 ∧ q = 34) ∨ (j = 10 ∧ q = 35)) {index : Nat} (hlk : Cond.fieldLink own index (TX8 j).1 (TX8 j).2.1 (TX8 j).2.2.1 ∈ Ts)  (d : decode cc pc = .ok (.getfield index, 3)) (kk : gJ p l e R s m args below meth c Q nL E σ cells slots (pc + 3) lv (.ref (E.2.2 q) :: rest)) : gJ p l e R s m args below meth c Q nL E σ cells slots pc lv (.ref (E.2.2 29) :: rest) :=
  g_getc S hC (C := RX8) (T := TX8) (N := 11) 7 j (by omega) gw_7 rfl (by omega) hin hlk (by rcases hj with ⟨rfl, rfl⟩ | ⟨rfl, rfl⟩ | ⟨rfl, rfl⟩ | ⟨rfl, rfl⟩ | ⟨rfl, rfl⟩ | ⟨rfl, rfl⟩ <;> rfl) d kk
theorem gp7 (S : CallFix p m c cc nL s args Ts own) (hC : gC E s) (hin : ∀ w ∈ wsX80, w ∈ Ts) (j : Nat) (hj : j = 0 ∨ j = 3 ∨ j = 4 ∨ j = 5 ∨ j = 6) {index : Nat} (hlk : Cond.fieldLink own index (TX8 j).1 (TX8 j).2.1 (TX8 j).2.2.1 ∈ Ts) {x : Int32} (d : decode cc pc = .ok (.putfield index, 3)) (kk : gJ p l e R s m args below meth c Q nL E (gu σ 29 j x) cells slots (pc + 3) lv rest) : gJ p l e R s m args below meth c Q nL E σ cells slots pc lv (.int x :: .ref (E.2.2 29) :: rest) :=
  g_putc S hC (C := RX8) (T := TX8) (N := 11) tyX8 tyX8_ok nmX8 7 j (by omega) gw_7 (by rw [gw_7]; simp only [gu_self]; rcases hj with rfl | rfl | rfl | rfl | rfl <;> simp [upd]) rfl (by omega) hin hlk (by rcases hj with rfl | rfl | rfl | rfl | rfl <;> rfl) (by rcases hj with rfl | rfl | rfl | rfl | rfl <;> rfl) (by show j < 11; omega) d kk
/-- Sim's rows: how many -/
theorem gw_14 {k : Nat} (h : gK k = 14) : gw E σ k = .inl (E.2.1 1, gNo E (k - 32), .inr (.inr (.inr (.inr (fun j => some (E.2.2 (36 + 4 * (k - 32) + j))))))) := by unfold gw; rw [h]; try rfl
theorem gw_15 {k : Nat} (h : gK k = 15) (hL : gqI k < gNo E (gqS k)) : gw E σ k = .inl (E.2.1 0, gqL k, .inl (σ.1 k)) := by unfold gw; rw [h]; exact if_pos hL
theorem gk14 {o : Nat} (ho : o < 4) : gK (32 + o) = 14 := by
  rcases (show o = 0 ∨ o = 1 ∨ o = 2 ∨ o = 3 by omega) with rfl | rfl | rfl | rfl <;> rfl
/-- a row's place: sort o, number i -/
def gqR (o i : Nat) : Prop := (o = 0 ∧ i < 4) ∨ (o = 1 ∧ i < 4) ∨ (o = 2 ∧ i < 4) ∨ (o = 3 ∧ i < 10)
theorem gqR.lt {o i : Nat} (h : gqR o i) : 36 + 4 * o + i < 58 := by
  rcases h with ⟨rfl, h⟩ | ⟨rfl, h⟩ | ⟨rfl, h⟩ | ⟨rfl, h⟩ <;> omega
theorem gqR.K {o i : Nat} (h : gqR o i) : gK (36 + 4 * o + i) = 15 := by
  have key : ∀ k, k < 58 → 36 ≤ k → gK k = 15 := by decide
  exact key _ h.lt (by omega)
theorem gqR.srt {o i : Nat} (h : gqR o i) : gqS (36 + 4 * o + i) = o := by
  rcases h with ⟨rfl, h⟩ | ⟨rfl, h⟩ | ⟨rfl, h⟩ | ⟨rfl, h⟩ <;> unfold gqS
  · rw [if_pos (by omega)]
  · rw [if_neg (by omega), if_pos (by omega)]
  · rw [if_neg (by omega), if_neg (by omega), if_pos (by omega)]
  · rw [if_neg (by omega), if_neg (by omega), if_neg (by omega)]
theorem gqR.ix {o i : Nat} (h : gqR o i) : gqI (36 + 4 * o + i) = i := by
  unfold gqI
  rw [h.srt]
  omega
theorem gqR.len {o i : Nat} (h : gqR o i) : gqL (36 + 4 * o + i) = if o = 0 then 3 else 5 := by
  rcases h with ⟨rfl, h⟩ | ⟨rfl, h⟩ | ⟨rfl, h⟩ | ⟨rfl, h⟩ <;> unfold gqL
  · rw [if_pos (by omega), if_pos rfl]
  · rw [if_neg (by omega), if_neg (by omega)]
  · rw [if_neg (by omega), if_neg (by omega)]
  · rw [if_neg (by omega), if_neg (by omega)]
theorem gqR.of {s : State} {o i : Nat} (hC : gC E s) (ho : o < 4) (hi : i < gNo E o) : gqR o i := by
  have h := hC.2.1
  unfold gqR
  rcases (show o = 0 ∨ o = 1 ∨ o = 2 ∨ o = 3 by omega) with rfl | rfl | rfl | rfl <;> omega
theorem gqR.w {o i : Nat} (h : gqR o i) (hi : i < gNo E o) : gw E σ (36 + 4 * o + i) = .inl (E.2.1 0, if o = 0 then 3 else 5, .inl (σ.1 (36 + 4 * o + i))) := by
  rw [gw_15 h.K (by rw [h.ix, h.srt]; exact hi), h.len]
theorem gNo_le {s : State} {o : Nat} (hC : gC E s) (ho : o < 4) : gNo E o ≤ 10 := by
  have h2 := hC.2.1
  rcases (show o = 0 ∨ o = 1 ∨ o = 2 ∨ o = 3 by omega) with rfl | rfl | rfl | rfl <;> omega
theorem g_alenR (S : CallFix p m c cc nL s args Ts own) (hC : gC E s) (o : Nat) {k : Nat} (hk : k = 32 + o) (ho : o < 4) (d : decode cc pc = .ok (.arraylength, 1))
    (kk : gJ p l e R s m args below meth c Q nL E σ cells slots (pc + 1) lv (.int (nI (gNo E o)) :: rest)) : gJ p l e R s m args below meth c Q nL E σ cells slots pc lv (.ref (E.2.2 k) :: rest) := by
  subst hk
  intro H locs ls hP hS hl
  refine va_alen (D := E.1.1) (cl := vwCl) (tys := gTys E) (ty := .array .int) (v := nI (gNo E o)) S.1 S.2.1 hC.1 hP.1 (32 + o) 1 (by rw [gl_at (by omega), gw_14 (gk14 ho)]) rfl ?_ d (kk H locs ls hP hS hl)
  show Int32.ofNat (gNo E (32 + o - 32)) = _
  rw [show 32 + o - 32 = o by omega]
  rfl
/-- Sim's store and parts: how long -/
theorem g_alenI (S : CallFix p m c cc nL s args Ts own) (hC : gC E s) {k : Nat} (hk : k < 58) (hkd : gK k = 8) (d : decode cc pc = .ok (.arraylength, 1))
    (kk : gJ p l e R s m args below meth c Q nL E σ cells slots (pc + 1) lv (.int 2 :: rest)) : gJ p l e R s m args below meth c Q nL E σ cells slots pc lv (.ref (E.2.2 k) :: rest) := by
  intro H locs ls hP hS hl
  exact va_alen (D := E.1.1) (cl := vwCl) (tys := gTys E) (ty := .int) (v := 2) S.1 S.2.1 hC.1 hP.1 k 0 (by rw [gl_at hk, gw_8 hkd]) rfl rfl d (kk H locs ls hP hS hl)
/-- a row out of Sim's rows -/
theorem g_aaldR (S : CallFix p m c cc nL s args Ts own) (hC : gC E s) (o : Nat) {k : Nat} (hk : k = 32 + o) (ho : o < 4) (j : Nat) {i : Int32} (hi : i = nI j) (hj : j < gNo E o) (q : Nat) (hq : 36 + 4 * o + j = q) (d : decode cc pc = .ok (.aaload, 1))
    (kk : gJ p l e R s m args below meth c Q nL E σ cells slots (pc + 1) lv (.ref (E.2.2 q) :: rest)) : gJ p l e R s m args below meth c Q nL E σ cells slots pc lv (.int i :: .ref (E.2.2 k) :: rest) := by
  subst hk
  have hR := gqR.of (i := j) hC ho hj
  have hjb : j < 10 := by rcases hR with h | h | h | h <;> omega
  intro H locs ls hP hS hl
  have hcl : i.toNatClampNeg = j := by rw [hi]; exact nI_clamp (by omega)
  have hat : va_at E.1.1 vwCl (E.2.2 (32 + o), gw E σ (32 + o)) H := hP.1 (32 + o) _ (gl_at (by omega))
  rw [gw_14 (gk14 ho), show 32 + o - 32 = o by omega] at hat
  refine W.aald (v := .ref (E.2.2 q)) (ty := .array .int) S.1 S.2.1 hat ((hC.1.2 1 _ rfl).1 _ _) rfl (fun q => by cases q) ?_ ?_ rfl rfl d (kk H locs ls hP hS hl)
  · show ¬ (i < 0 ∨ (arrV _ _ _).slots.size ≤ _)
    rw [arrV_size, hi]
    exact vp_in_nI (n := j) (N := gNo E o) hj (Nat.lt_of_le_of_lt (gNo_le hC ho) (by decide))
  · show (arrV _ _ _).slots[_]? = _
    rw [hcl, arrV_read _ _ hj]
    show some (va_rf (some (E.2.2 (36 + 4 * o + j)))) = _
    rw [hq]
    rfl
/-- a number of a row -/
theorem g_ialdR (S : CallFix p m c cc nL s args Ts own) (hC : gC E s) (o a : Nat) {k : Nat} (hk : k = 36 + 4 * o + a) (ho : o < 4) (ha : a < gNo E o) (j : Nat) {i : Int32} (hi : i = nI j) (hj : j < if o = 0 then 3 else 5) (d : decode cc pc = .ok (.iaload, 1))
    (kk : gJ p l e R s m args below meth c Q nL E σ cells slots (pc + 1) lv (.int (σ.1 k j) :: rest)) : gJ p l e R s m args below meth c Q nL E σ cells slots pc lv (.int i :: .ref (E.2.2 k) :: rest) := by
  subst hk
  have hR := gqR.of (i := a) hC ho ha
  intro H locs ls hP hS hl
  have hj5 : j < 5 := by split at hj <;> omega
  have hcl : i.toNatClampNeg = j := by rw [hi]; exact nI_clamp (by omega)
  refine va_iald (D := E.1.1) (cl := vwCl) (tys := gTys E) S.1 S.2.1 hC.1 hP.1 (36 + 4 * o + a) 0 (by rw [gl_at hR.lt, hR.w ha]) rfl (by rw [hi]; exact vp_in_nI hj (by split <;> omega)) d ?_
  rw [hcl]
  exact kk H locs ls hP hS hl
/-- .. and put -/
theorem g_iastR (S : CallFix p m c cc nL s args Ts own) (hC : gC E s) (o a : Nat) {k : Nat} (hk : k = 36 + 4 * o + a) (ho : o < 4) (ha : a < gNo E o) (j : Nat) {i x : Int32} (hi : i = nI j) (hj : j < if o = 0 then 3 else 5) (d : decode cc pc = .ok (.iastore, 1))
    (kk : gJ p l e R s m args below meth c Q nL E (gu σ k j x) cells slots (pc + 1) lv rest) : gJ p l e R s m args below meth c Q nL E σ cells slots pc lv (.int x :: .int i :: .ref (E.2.2 k) :: rest) := by
  subst hk
  have hR := gqR.of (i := a) hC ho ha
  intro H locs ls hP hS hl
  have hj5 : j < 5 := by split at hj <;> omega
  have hcl : i.toNatClampNeg = j := by rw [hi]; exact nI_clamp (by omega)
  refine va_iast (D := E.1.1) (cl := vwCl) (tys := gTys E) S.1 S.2.1 hC.1 hP.1 hP.2 hS (36 + 4 * o + a) 0 (by rw [gl_at hR.lt, hR.w ha]) rfl (by rw [hi]; exact vp_in_nI hj (by split <;> omega)) d (fun H1 locs1 hP1 hD1 hS1 => ?_)
  rw [hcl, ← gu_self, ← hR.w (σ := gu σ (36 + 4 * o + a) j x) ha, gl_set hR.lt (fun q hq => gw_gu hq)] at hP1 hD1
  exact kk H1 locs1 ls ⟨hP1, hD1⟩ hS1 hl
end GF
