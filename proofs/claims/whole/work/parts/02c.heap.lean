section GH
variable {p : Program} {l : Launch} {e : Env} {R : Room} {s : State} {m : MethodId} {args : Array Value} {below : List Frame} {meth : Method} {c : Code} {Q : State → Prop}
variable {cc : ByteArray} {nL : Nat} {Ts : List Cond} {own : String} {E : gT} {σ : gS} {cells slots pc : Nat} {lv lv' : List (Nat × Value)} {rest : List Value}
/-- getfield of any cell of the world -/
theorem g_getc (S : CallFix p m c cc nL s args Ts own) (hC : gC E s) {C : String} {T : u_T} {N : Nat} (ci : Nat) {fs : List Value} (j : Nat) {k : Nat} (hk : k < 65) (hw : gw E σ k = .inr (ci, fs)) (hcl : vwCl[ci]? = some (C, T, N)) (hj : j < N) (hin : ∀ w ∈ u_ws C T N, w ∈ Ts) {index : Nat} (hlk : Cond.fieldLink own index (T j).1 (T j).2.1 (T j).2.2.1 ∈ Ts) {v : Value} (hv : fs[j]? = some v) (d : decode cc pc = .ok (.getfield index, 3))
    (kk : gJ p l e R s m args below meth c Q nL E σ cells slots (pc + 3) lv (v :: rest)) : gJ p l e R s m args below meth c Q nL E σ cells slots pc lv (.ref (E.2.2 k) :: rest) :=
  fun H locs ls hP hS hl => va_get (D := E.1) (cl := vwCl) S.1 S.2.1 S.2.2.2.2 hin S.2.2.2.1 hC.1 hP k (by rw [gl_at hk, hw]) hcl j hj (S.2.2.2.2 _ hlk) (fun _ h => h) hv d (kk H locs ls hP hS hl)
/-- putfield of a number, any cell of the world -/
theorem g_putc (S : CallFix p m c cc nL s args Ts own) (hC : gC E s) {C : String} {T : u_T} {N : Nat} (ty0 : Nat → FieldType) (hty : ∀ k, k < N → parseFieldDescriptor (T k).2.2.1 = some (ty0 k)) (hnm : ∀ a, a < N → ∀ b, b < N → a ≠ b → (T a).2.1 ≠ (T b).2.1) (ci : Nat) {fs : List Value} (j : Nat) {k : Nat} {x : Int32} (hk : k < 65) (hw : gw E σ k = .inr (ci, fs)) (hw2 : gw E (gu σ k j x) k = .inr (ci, fs.set j (.int x))) (hcl : vwCl[ci]? = some (C, T, N)) (hj : j < N) (hin : ∀ w ∈ u_ws C T N, w ∈ Ts) {index : Nat} (hlk : Cond.fieldLink own index (T j).1 (T j).2.1 (T j).2.2.1 ∈ Ts) (hfin : (T j).2.2.2 = false) (hint : ty0 j = .int) (hl : j < fs.length) (d : decode cc pc = .ok (.putfield index, 3))
    (kk : gJ p l e R s m args below meth c Q nL E (gu σ k j x) cells slots (pc + 3) lv rest) : gJ p l e R s m args below meth c Q nL E σ cells slots pc lv (.int x :: .ref (E.2.2 k) :: rest) :=
  fun H locs ls hP hS hl' => va_put (D := E.1) (cl := vwCl) (ty := .int) (v := .int x) S.1 S.2.1 S.2.2.2.2 hin ty0 hty hnm S.2.2.2.1 hC.1 hP (hC.D (σ := σ)) hS k (by rw [gl_at hk, hw]) hcl j hj (S.2.2.2.2 _ hlk) (fun _ h => h) hfin (by rw [hty j hj, hint]) rfl rfl hl d (fun H1 locs1 hP1 _ hS1 => by
    rw [← hw2, gl_set hk (fun q hq => gw_gu hq)] at hP1
    exact kk H1 locs1 ls hP1 hS1 hl')
theorem gw_5 {k : Nat} (h : gK k = 5) : gw E σ k = .inr (5, [.ref (E.2.2 (k + 1)), .ref (E.2.2 (k + 2)), .ref (E.2.2 (k + 3)), .ref (E.2.2 (k + 4)), .ref (E.2.2 (k + 5)), .int (σ.1 k 5), .int (σ.1 k 6), .int (σ.1 k 7), .int (σ.1 k 8), .int (σ.1 k 9), .int (σ.1 k 10)]) := by unfold gw; rw [h]; try rfl
theorem gw_7 {k : Nat} (h : gK k = 7) : gw E σ k = .inr (7, [.int (σ.1 k 0), .int (σ.1 k 1), .int (σ.1 k 2), .int (σ.1 k 3), .int (σ.1 k 4), .ref (E.2.2 (k + 1)), .ref (E.2.2 (k + 2)), .ref (E.2.2 (k + 3)), .ref (E.2.2 (k + 4)), .ref (E.2.2 (k + 5)), .ref (E.2.2 (k + 6))]) := by unfold gw; rw [h]; try rfl
theorem gw_8 {k : Nat} (h : gK k = 8) : gw E σ k = .inl (E.2.1 0, gLen k, .inl (σ.1 k)) := by unfold gw; rw [h]; try rfl
theorem gu_self {σ : gS} {k j : Nat} {x : Int32} : (gu σ k j x).1 k = upd (σ.1 k) j x := by
  funext b
  simp [gu, upd]
/-- a row of numbers read -/
theorem g_iald (S : CallFix p m c cc nL s args Ts own) (hC : gC E s) {k : Nat} (hk : k < 65) (hkd : gK k = 8) (j : Nat) {i : Int32} (hi : i = nI j) (hj : j < gLen k) (hn : gLen k ≤ 72) (d : decode cc pc = .ok (.iaload, 1))
    (kk : gJ p l e R s m args below meth c Q nL E σ cells slots (pc + 1) lv (.int (σ.1 k j) :: rest)) : gJ p l e R s m args below meth c Q nL E σ cells slots pc lv (.int i :: .ref (E.2.2 k) :: rest) := by
  intro H locs ls hP hS hl
  have hcl : i.toNatClampNeg = j := by rw [hi]; exact nI_clamp (by omega)
  refine va_iald (D := E.1) (cl := vwCl) S.1 S.2.1 hC.1 hP k 0 (by rw [gl_at hk, gw_8 hkd]) rfl (by rw [hi]; exact vp_in_nI hj (by omega)) d ?_
  rw [hcl]
  exact kk H locs ls hP hS hl
/-- .. and written -/
theorem g_iast (S : CallFix p m c cc nL s args Ts own) (hC : gC E s) {k : Nat} (hk : k < 65) (hkd : gK k = 8) (j : Nat) {i x : Int32} (hi : i = nI j) (hj : j < gLen k) (hn : gLen k ≤ 72) (d : decode cc pc = .ok (.iastore, 1))
    (kk : gJ p l e R s m args below meth c Q nL E (gu σ k j x) cells slots (pc + 1) lv rest) : gJ p l e R s m args below meth c Q nL E σ cells slots pc lv (.int x :: .int i :: .ref (E.2.2 k) :: rest) := by
  intro H locs ls hP hS hl
  have hcl : i.toNatClampNeg = j := by rw [hi]; exact nI_clamp (by omega)
  refine va_iast (D := E.1) (cl := vwCl) S.1 S.2.1 hC.1 hP (hC.D (σ := σ)) hS k 0 (by rw [gl_at hk, gw_8 hkd]) rfl (by rw [hi]; exact vp_in_nI hj (by omega)) d (fun H1 locs1 hP1 _ hS1 => ?_)
  rw [hcl, ← gu_self, ← gw_8 hkd, gl_set hk (fun q hq => gw_gu hq)] at hP1
  exact kk H1 locs1 ls hP1 hS1 hl
/-- one row of numbers copied over another -/
theorem gw_cp {σ σ' : gS} {k : Nat} (h : ∀ q, q ≠ k → σ'.1 q = σ.1 q) (h2 : σ'.2 = σ.2) : ∀ q, q ≠ k → gw E σ' q = gw E σ q := fun q hq => gw_ne (h q hq) h2
def gcp (σ : gS) (a b n : Nat) : gS := (fun q i => if q = b ∧ i < n then σ.1 a i else σ.1 q i, σ.2)
theorem g_copy (S : CallFix p m c cc nL s args Ts own) (hC : gC E s) {a b : Nat} (ha : a < 65) (hb : b < 65) (hka : gK a = 8) (hkb : gK b = 8) (hla : gLen a = 72) (hlb : gLen b = 72) {z n : Int32} (hz : z = 0) (hn : n = 72) {index : Nat} (h1 : Cond.methodLink own index arraycopyName ∈ Ts) (h2 : Cond.native arraycopyName ∈ Ts) (h3 : Cond.static arraycopyName ∈ Ts) (h4 : Cond.initialized "java/lang/System" ∈ Ts) (hR : 1 ≤ R.frames) (hR2 : (rest.map fun v => v.category).sum + (nativeFrameWords "java/lang/System" "arraycopy" 5 + 11) ≤ R.locals) (d : decode cc pc = .ok (.invokestatic index, 3))
    (kk : gJ p l e R s m args below meth c Q nL E (gcp σ a b 72) cells slots (pc + 3) lv rest) : gJ p l e R s m args below meth c Q nL E σ cells slots pc lv (.int n :: .int z :: .ref (E.2.2 b) :: .int z :: .ref (E.2.2 a) :: rest) := by
  subst hz; subst hn
  intro H locs ls hP hS hl
  refine va_copyi (D := E.1) (cl := vwCl) S.1 S.2.1 (S.2.2.1.trans hl.1.symm) S.2.2.2.1 (S.2.2.2.2 _ h1) (S.2.2.2.2 _ h2) (S.2.2.2.2 _ h3) (S.2.2.2.2 _ h4) hC.1 hP (hC.D (σ := σ)) hS a b 0 0 (by rw [gl_at ha, gw_8 hka]) (by rw [gl_at hb, gw_8 hkb]) rfl rfl rfl (by decide) (by decide) (by decide) (by rw [hla]; decide) (by rw [hlb]; decide) (fun _ _ => rfl) hR hR2 d (fun H1 locs1 hP1 _ hS1 => ?_)
  have e1 : va_cpy (σ.1 a) (σ.1 b) (0 : Int32).toNatClampNeg (0 : Int32).toNatClampNeg (72 : Int32).toNatClampNeg = (gcp σ a b 72).1 b := by
    funext i
    have e0 : (0 : Int32).toNatClampNeg = 0 := by decide
    have e72 : (72 : Int32).toNatClampNeg = 72 := by decide
    simp [va_cpy, gcp, e0, e72]
  have e2 := gl_set (E := E) (σ := σ) (σ' := gcp σ a b 72) hb (gw_cp (fun q hq => by funext i; simp [gcp, hq]) rfl)
  rw [e1, ← gw_8 (σ := gcp σ a b 72) hkb, e2] at hP1
  exact kk H1 locs1 ls hP1 hS1 hl
/-- the law's out -/
theorem g_last (S : CallFix p m c cc nL s args Ts own) (hC : gC E s) {i : Int32} (hi : i = 0) {x : Int64} (d : decode cc pc = .ok (.lastore, 1))
    (kk : gJ p l e R s m args below meth c Q nL E (go σ (vp_updL σ.2 0 x)) cells slots (pc + 1) lv rest) : gJ p l e R s m args below meth c Q nL E σ cells slots pc lv (.long x :: .int i :: .ref (E.2.2 64) :: rest) := by
  subst hi
  intro H locs ls hP hS hl
  refine va_last (D := E.1) (cl := vwCl) S.1 S.2.1 hC.1 hP (hC.D (σ := σ)) hS 64 1 (n := 1) (f := σ.2) (by rw [gl_at (by omega)]; rfl) rfl (vp_in_nI (n := 0) (by omega) (by omega)) d (fun H1 locs1 hP1 _ hS1 => ?_)
  rw [show (0 : Int32).toNatClampNeg = 0 from rfl] at hP1
  have e2 := gl_set (E := E) (σ := σ) (σ' := go σ (vp_updL σ.2 0 x)) (k := 64) (by omega) (fun q hq => by
    unfold gw
    by_cases h9 : gK q = 9
    · exfalso
      have : ∀ k, gK k = 9 → k = 64 := by
        intro k hk
        by_cases hk65 : k < 65
        · have : ∀ k, k < 65 → gK k = 9 → k = 64 := by decide
          exact this k hk65 hk
        · have h99 : gK k = 99 := by
            unfold gK
            rw [List.getD_eq_getElem?_getD, List.getElem?_eq_none (by show 65 ≤ k; omega)]
            rfl
          rw [h99] at hk; cases hk
      exact hq (this q h9)
    · simp only [go, gO]
      split <;> first | rfl | (rename_i h; exact absurd h h9))
  have e3 : (gl E σ).set 64 (E.2.2 64, gw E (go σ (vp_updL σ.2 0 x)) 64) = (gl E σ).set 64 (E.2.2 64, .inl (E.2.1 1, 1, .inr (.inl (vp_updL σ.2 0 x)))) := rfl
  rw [← e3, e2] at hP1
  exact kk H1 locs1 ls hP1 hS1 hl
theorem g_lald (S : CallFix p m c cc nL s args Ts own) (hC : gC E s) {i : Int32} (hi : i = 0) (d : decode cc pc = .ok (.laload, 1))
    (kk : gJ p l e R s m args below meth c Q nL E σ cells slots (pc + 1) lv (.long (σ.2 0) :: rest)) : gJ p l e R s m args below meth c Q nL E σ cells slots pc lv (.int i :: .ref (E.2.2 64) :: rest) := by
  subst hi
  intro H locs ls hP hS hl
  exact va_lald (D := E.1) (cl := vwCl) S.1 S.2.1 hC.1 hP 64 1 (n := 1) (f := σ.2) (by rw [gl_at (by omega)]; rfl) rfl (vp_in_nI (n := 0) (by omega) (by omega)) d (kk H locs ls hP hS hl)
/-- a town's rows of objects -/
theorem g_aald (S : CallFix p m c cc nL s args Ts own) (hC : gC E s) {k : Nat} (hk : k < 65) (kd n off t0 ci : Nat) {C : String} (hw : gw E σ k = .inl (E.2.1 ci, n, .inr (.inr (.inr (.inr (fun j => some (E.2.2 (k + off + j)))))))) (ht : (gTys E)[t0]? = some (E.2.1 ci, .object C)) (hn : n ≤ 10) (j : Nat) {i : Int32} (hi : i = nI j) (hj : j < n) (q : Nat) (hq : k + off + j = q) (d : decode cc pc = .ok (.aaload, 1))
    (kk : gJ p l e R s m args below meth c Q nL E σ cells slots (pc + 1) lv (.ref (E.2.2 q) :: rest)) : gJ p l e R s m args below meth c Q nL E σ cells slots pc lv (.int i :: .ref (E.2.2 k) :: rest) := by
  intro H locs ls hP hS hl
  have hcl : i.toNatClampNeg = j := by rw [hi]; exact nI_clamp (by omega)
  refine va_aldq (D := E.1) (cl := vwCl) S.1 S.2.1 hC.1 hP k t0 (by rw [gl_at hk, hw]) ht (by rw [hi]; exact vp_in_nI hj (by omega)) d ?_
  rw [hcl]
  show W p l e R s m args below meth c H locs cells slots Q (F0 m (pc + 1) ls (va_rf (some (E.2.2 (k + off + j))) :: rest))
  rw [hq]
  exact kk H locs ls hP hS hl
theorem g_min (S : CallFix p m c cc nL s args Ts own) {index : Nat} (h1 : Cond.methodLink own index Lib.Math.min.name ∈ Ts) (h2 : Cond.static Lib.Math.min.name ∈ Ts) (h3 : Cond.initialized "java/lang/Math" ∈ Ts) (h4 : Cond.code Lib.Math.min.name Lib.Math.min.code 2 (some .int) ∈ Ts) (hR : 1 ≤ R.frames) (hR2 : (rest.map fun v => v.category).sum + 13 ≤ R.locals) (hc : cells ≤ R.cells) (hs : slots ≤ R.slots) {x y : Int32} (d : decode cc pc = .ok (.invokestatic index, 3))
    (kk : gJ p l e R s m args below meth c Q nL E σ cells slots (pc + 3) lv (.int (if y < x then y else x) :: rest)) : gJ p l e R s m args below meth c Q nL E σ cells slots pc lv (.int y :: .int x :: rest) :=
  fun H locs ls hP hS hl => va_mmin S.1 S.2.1 (S.2.2.1.trans hl.1.symm) S.2.2.2.1 (S.2.2.2.2 _ h1) (S.2.2.2.2 _ h2) (S.2.2.2.2 _ h3) (S.2.2.2.2 _ h4) hR hR2 hc hs d (kk H locs ls hP hS hl)
/-- the reference's tables -/
theorem g_gets (S : CallFix p m c cc nL s args Ts own) {C n dd : String} {t : Nat} (hZ : va_Z C n dd (.ref t) (gA E s.heap.size) s s.heap) {index : Nat} (hlk : Cond.fieldLink own index C n dd ∈ Ts) (d : decode cc pc = .ok (.getstatic index, 3))
    (kk : gJ p l e R s m args below meth c Q nL E σ cells slots (pc + 3) lv (.ref t :: rest)) : gJ p l e R s m args below meth c Q nL E σ cells slots pc lv rest :=
  fun H locs ls hP hS hl => va_gets S.1 S.2.1 hZ hS S.2.2.2.1 (S.2.2.2.2 _ hlk) (fun _ h => h) d (kk H locs ls hP hS hl)
theorem g_ti (S : CallFix p m c cc nL s args Ts own) {t : Nat} {f : Nat → Value} (hT : va_T .int t 2 f (gA E s.heap.size) s s.heap) (j : Nat) {i : Int32} (hi : i = nI j) (hj : j < 2) {v : Value} (hv : f j = v) (d : decode cc pc = .ok (.iaload, 1))
    (kk : gJ p l e R s m args below meth c Q nL E σ cells slots (pc + 1) lv (v :: rest)) : gJ p l e R s m args below meth c Q nL E σ cells slots pc lv (.int i :: .ref t :: rest) := by
  intro H locs ls hP hS hl
  have hcl : i.toNatClampNeg = j := by rw [hi]; exact nI_clamp (by omega)
  exact va_ti S.1 S.2.1 hT hS (by rw [hi]; exact vp_in_nI hj (by omega)) (by rw [hcl]; exact hv) d (kk H locs ls hP hS hl)
end GH
section GF
variable {p : Program} {l : Launch} {e : Env} {R : Room} {s : State} {m : MethodId} {args : Array Value} {below : List Frame} {meth : Method} {c : Code} {Q : State → Prop}
variable {cc : ByteArray} {nL : Nat} {Ts : List Cond} {own : String} {E : gT} {σ : gS} {cells slots pc : Nat} {lv lv' : List (Nat × Value)} {rest : List Value}
theorem gg0 (S : CallFix p m c cc nL s args Ts own) (hC : gC E s) (hin : ∀ w ∈ wsX00, w ∈ Ts) {k : Nat} (hk : k < 65) (hkd : gK k = 0) (j : Nat) (hj : j < 3) {index : Nat} (hlk : Cond.fieldLink own index (TX0 j).1 (TX0 j).2.1 (TX0 j).2.2.1 ∈ Ts)  (d : decode cc pc = .ok (.getfield index, 3)) (kk : gJ p l e R s m args below meth c Q nL E σ cells slots (pc + 3) lv (.int (σ.1 k j) :: rest)) : gJ p l e R s m args below meth c Q nL E σ cells slots pc lv (.ref (E.2.2 k) :: rest) :=
  g_getc S hC (C := RX0) (T := TX0) (N := 3) 0 j hk (gK_o hkd (by decide)) rfl (by omega) hin hlk (gO_get hj) d kk
theorem gp0 (S : CallFix p m c cc nL s args Ts own) (hC : gC E s) (hin : ∀ w ∈ wsX00, w ∈ Ts) {k : Nat} (hk : k < 65) (hkd : gK k = 0) (j : Nat) (hj : j < 3) {index : Nat} (hlk : Cond.fieldLink own index (TX0 j).1 (TX0 j).2.1 (TX0 j).2.2.1 ∈ Ts) {x : Int32} (d : decode cc pc = .ok (.putfield index, 3)) (kk : gJ p l e R s m args below meth c Q nL E (gu σ k j x) cells slots (pc + 3) lv rest) : gJ p l e R s m args below meth c Q nL E σ cells slots pc lv (.int x :: .ref (E.2.2 k) :: rest) :=
  g_putc S hC (C := RX0) (T := TX0) (N := 3) tyX0 tyX0_ok nmX0 0 j hk (gK_o hkd (by decide)) (by rw [gO_set]; exact gK_o hkd (by decide)) rfl hj hin hlk (by rcases (show j = 0 ∨ j = 1 ∨ j = 2 by omega) with rfl | rfl | rfl <;> rfl) (by rcases (show j = 0 ∨ j = 1 ∨ j = 2 by omega) with rfl | rfl | rfl <;> rfl) (by rw [List.length_map, List.length_range]; exact hj) d kk
theorem gg1 (S : CallFix p m c cc nL s args Ts own) (hC : gC E s) (hin : ∀ w ∈ wsX10, w ∈ Ts) {k : Nat} (hk : k < 65) (hkd : gK k = 1) (j : Nat) (hj : j < 5) {index : Nat} (hlk : Cond.fieldLink own index (TX1 j).1 (TX1 j).2.1 (TX1 j).2.2.1 ∈ Ts)  (d : decode cc pc = .ok (.getfield index, 3)) (kk : gJ p l e R s m args below meth c Q nL E σ cells slots (pc + 3) lv (.int (σ.1 k j) :: rest)) : gJ p l e R s m args below meth c Q nL E σ cells slots pc lv (.ref (E.2.2 k) :: rest) :=
  g_getc S hC (C := RX1) (T := TX1) (N := 5) 1 j hk (gK_o hkd (by decide)) rfl (by omega) hin hlk (gO_get hj) d kk
theorem gp1 (S : CallFix p m c cc nL s args Ts own) (hC : gC E s) (hin : ∀ w ∈ wsX10, w ∈ Ts) {k : Nat} (hk : k < 65) (hkd : gK k = 1) (j : Nat) (hj : j < 5) {index : Nat} (hlk : Cond.fieldLink own index (TX1 j).1 (TX1 j).2.1 (TX1 j).2.2.1 ∈ Ts) {x : Int32} (d : decode cc pc = .ok (.putfield index, 3)) (kk : gJ p l e R s m args below meth c Q nL E (gu σ k j x) cells slots (pc + 3) lv rest) : gJ p l e R s m args below meth c Q nL E σ cells slots pc lv (.int x :: .ref (E.2.2 k) :: rest) :=
  g_putc S hC (C := RX1) (T := TX1) (N := 5) tyX1 tyX1_ok nmX1 1 j hk (gK_o hkd (by decide)) (by rw [gO_set]; exact gK_o hkd (by decide)) rfl hj hin hlk (by rcases (show j = 0 ∨ j = 1 ∨ j = 2 ∨ j = 3 ∨ j = 4 by omega) with rfl | rfl | rfl | rfl | rfl <;> rfl) (by rcases (show j = 0 ∨ j = 1 ∨ j = 2 ∨ j = 3 ∨ j = 4 by omega) with rfl | rfl | rfl | rfl | rfl <;> rfl) (by rw [List.length_map, List.length_range]; exact hj) d kk
theorem gg2 (S : CallFix p m c cc nL s args Ts own) (hC : gC E s) (hin : ∀ w ∈ wsX20, w ∈ Ts) {k : Nat} (hk : k < 65) (hkd : gK k = 2) (j : Nat) (hj : j < 5) {index : Nat} (hlk : Cond.fieldLink own index (TX2 j).1 (TX2 j).2.1 (TX2 j).2.2.1 ∈ Ts)  (d : decode cc pc = .ok (.getfield index, 3)) (kk : gJ p l e R s m args below meth c Q nL E σ cells slots (pc + 3) lv (.int (σ.1 k j) :: rest)) : gJ p l e R s m args below meth c Q nL E σ cells slots pc lv (.ref (E.2.2 k) :: rest) :=
  g_getc S hC (C := RX2) (T := TX2) (N := 5) 2 j hk (gK_o hkd (by decide)) rfl (by omega) hin hlk (gO_get hj) d kk
theorem gp2 (S : CallFix p m c cc nL s args Ts own) (hC : gC E s) (hin : ∀ w ∈ wsX20, w ∈ Ts) {k : Nat} (hk : k < 65) (hkd : gK k = 2) (j : Nat) (hj : j < 5) {index : Nat} (hlk : Cond.fieldLink own index (TX2 j).1 (TX2 j).2.1 (TX2 j).2.2.1 ∈ Ts) {x : Int32} (d : decode cc pc = .ok (.putfield index, 3)) (kk : gJ p l e R s m args below meth c Q nL E (gu σ k j x) cells slots (pc + 3) lv rest) : gJ p l e R s m args below meth c Q nL E σ cells slots pc lv (.int x :: .ref (E.2.2 k) :: rest) :=
  g_putc S hC (C := RX2) (T := TX2) (N := 5) tyX2 tyX2_ok nmX2 2 j hk (gK_o hkd (by decide)) (by rw [gO_set]; exact gK_o hkd (by decide)) rfl hj hin hlk (by rcases (show j = 0 ∨ j = 1 ∨ j = 2 ∨ j = 3 ∨ j = 4 by omega) with rfl | rfl | rfl | rfl | rfl <;> rfl) (by rcases (show j = 0 ∨ j = 1 ∨ j = 2 ∨ j = 3 ∨ j = 4 by omega) with rfl | rfl | rfl | rfl | rfl <;> rfl) (by rw [List.length_map, List.length_range]; exact hj) d kk
theorem gg3 (S : CallFix p m c cc nL s args Ts own) (hC : gC E s) (hin : ∀ w ∈ wsX30, w ∈ Ts) {k : Nat} (hk : k < 65) (hkd : gK k = 3) (j : Nat) (hj : j < 5) {index : Nat} (hlk : Cond.fieldLink own index (TX3 j).1 (TX3 j).2.1 (TX3 j).2.2.1 ∈ Ts)  (d : decode cc pc = .ok (.getfield index, 3)) (kk : gJ p l e R s m args below meth c Q nL E σ cells slots (pc + 3) lv (.int (σ.1 k j) :: rest)) : gJ p l e R s m args below meth c Q nL E σ cells slots pc lv (.ref (E.2.2 k) :: rest) :=
  g_getc S hC (C := RX3) (T := TX3) (N := 5) 3 j hk (gK_o hkd (by decide)) rfl (by omega) hin hlk (gO_get hj) d kk
theorem gp3 (S : CallFix p m c cc nL s args Ts own) (hC : gC E s) (hin : ∀ w ∈ wsX30, w ∈ Ts) {k : Nat} (hk : k < 65) (hkd : gK k = 3) (j : Nat) (hj : j < 5) {index : Nat} (hlk : Cond.fieldLink own index (TX3 j).1 (TX3 j).2.1 (TX3 j).2.2.1 ∈ Ts) {x : Int32} (d : decode cc pc = .ok (.putfield index, 3)) (kk : gJ p l e R s m args below meth c Q nL E (gu σ k j x) cells slots (pc + 3) lv rest) : gJ p l e R s m args below meth c Q nL E σ cells slots pc lv (.int x :: .ref (E.2.2 k) :: rest) :=
  g_putc S hC (C := RX3) (T := TX3) (N := 5) tyX3 tyX3_ok nmX3 3 j hk (gK_o hkd (by decide)) (by rw [gO_set]; exact gK_o hkd (by decide)) rfl hj hin hlk (by rcases (show j = 0 ∨ j = 1 ∨ j = 2 ∨ j = 3 ∨ j = 4 by omega) with rfl | rfl | rfl | rfl | rfl <;> rfl) (by rcases (show j = 0 ∨ j = 1 ∨ j = 2 ∨ j = 3 ∨ j = 4 by omega) with rfl | rfl | rfl | rfl | rfl <;> rfl) (by rw [List.length_map, List.length_range]; exact hj) d kk
theorem gg4 (S : CallFix p m c cc nL s args Ts own) (hC : gC E s) (hin : ∀ w ∈ wsX40, w ∈ Ts) {k : Nat} (hk : k < 65) (hkd : gK k = 4) (j : Nat) (hj : j < 7) {index : Nat} (hlk : Cond.fieldLink own index (TX4 j).1 (TX4 j).2.1 (TX4 j).2.2.1 ∈ Ts)  (d : decode cc pc = .ok (.getfield index, 3)) (kk : gJ p l e R s m args below meth c Q nL E σ cells slots (pc + 3) lv (.int (σ.1 k j) :: rest)) : gJ p l e R s m args below meth c Q nL E σ cells slots pc lv (.ref (E.2.2 k) :: rest) :=
  g_getc S hC (C := RX4) (T := TX4) (N := 7) 4 j hk (gK_o hkd (by decide)) rfl (by omega) hin hlk (gO_get hj) d kk
theorem gp4 (S : CallFix p m c cc nL s args Ts own) (hC : gC E s) (hin : ∀ w ∈ wsX40, w ∈ Ts) {k : Nat} (hk : k < 65) (hkd : gK k = 4) (j : Nat) (hj : j < 7) {index : Nat} (hlk : Cond.fieldLink own index (TX4 j).1 (TX4 j).2.1 (TX4 j).2.2.1 ∈ Ts) {x : Int32} (d : decode cc pc = .ok (.putfield index, 3)) (kk : gJ p l e R s m args below meth c Q nL E (gu σ k j x) cells slots (pc + 3) lv rest) : gJ p l e R s m args below meth c Q nL E σ cells slots pc lv (.int x :: .ref (E.2.2 k) :: rest) :=
  g_putc S hC (C := RX4) (T := TX4) (N := 7) tyX4 tyX4_ok nmX4 4 j hk (gK_o hkd (by decide)) (by rw [gO_set]; exact gK_o hkd (by decide)) rfl hj hin hlk (by rcases (show j = 0 ∨ j = 1 ∨ j = 2 ∨ j = 3 ∨ j = 4 ∨ j = 5 ∨ j = 6 by omega) with rfl | rfl | rfl | rfl | rfl | rfl | rfl <;> rfl) (by rcases (show j = 0 ∨ j = 1 ∨ j = 2 ∨ j = 3 ∨ j = 4 ∨ j = 5 ∨ j = 6 by omega) with rfl | rfl | rfl | rfl | rfl | rfl | rfl <;> rfl) (by rw [List.length_map, List.length_range]; exact hj) d kk
theorem gg5r (S : CallFix p m c cc nL s args Ts own) (hC : gC E s) (hin : ∀ w ∈ wsX60, w ∈ Ts) {k : Nat} (hk : k < 65) (hkd : gK k = 5) (j : Nat) (hj : j < 5) {index : Nat} (hlk : Cond.fieldLink own index (TX6 j).1 (TX6 j).2.1 (TX6 j).2.2.1 ∈ Ts)  (d : decode cc pc = .ok (.getfield index, 3)) (kk : gJ p l e R s m args below meth c Q nL E σ cells slots (pc + 3) lv (.ref (E.2.2 (k + 1 + j)) :: rest)) : gJ p l e R s m args below meth c Q nL E σ cells slots pc lv (.ref (E.2.2 k) :: rest) :=
  g_getc S hC (C := RX6) (T := TX6) (N := 11) 5 j hk (gw_5 hkd) rfl (by omega) hin hlk (by rcases (show j = 0 ∨ j = 1 ∨ j = 2 ∨ j = 3 ∨ j = 4 by omega) with rfl | rfl | rfl | rfl | rfl <;> rfl) d kk
theorem gg5 (S : CallFix p m c cc nL s args Ts own) (hC : gC E s) (hin : ∀ w ∈ wsX60, w ∈ Ts) {k : Nat} (hk : k < 65) (hkd : gK k = 5) (j : Nat) (hj : 5 ≤ j ∧ j < 11) {index : Nat} (hlk : Cond.fieldLink own index (TX6 j).1 (TX6 j).2.1 (TX6 j).2.2.1 ∈ Ts)  (d : decode cc pc = .ok (.getfield index, 3)) (kk : gJ p l e R s m args below meth c Q nL E σ cells slots (pc + 3) lv (.int (σ.1 k j) :: rest)) : gJ p l e R s m args below meth c Q nL E σ cells slots pc lv (.ref (E.2.2 k) :: rest) :=
  g_getc S hC (C := RX6) (T := TX6) (N := 11) 5 j hk (gw_5 hkd) rfl (by omega) hin hlk (by rcases (show j = 5 ∨ j = 6 ∨ j = 7 ∨ j = 8 ∨ j = 9 ∨ j = 10 by omega) with rfl | rfl | rfl | rfl | rfl | rfl <;> rfl) d kk
theorem gp5 (S : CallFix p m c cc nL s args Ts own) (hC : gC E s) (hin : ∀ w ∈ wsX60, w ∈ Ts) {k : Nat} (hk : k < 65) (hkd : gK k = 5) (j : Nat) (hj : 5 ≤ j ∧ j < 11) {index : Nat} (hlk : Cond.fieldLink own index (TX6 j).1 (TX6 j).2.1 (TX6 j).2.2.1 ∈ Ts) {x : Int32} (d : decode cc pc = .ok (.putfield index, 3)) (kk : gJ p l e R s m args below meth c Q nL E (gu σ k j x) cells slots (pc + 3) lv rest) : gJ p l e R s m args below meth c Q nL E σ cells slots pc lv (.int x :: .ref (E.2.2 k) :: rest) :=
  g_putc S hC (C := RX6) (T := TX6) (N := 11) tyX6 tyX6_ok nmX6 5 j hk (gw_5 hkd) (by rw [gw_5 hkd]; simp only [gu_self]; rcases (show j = 5 ∨ j = 6 ∨ j = 7 ∨ j = 8 ∨ j = 9 ∨ j = 10 by omega) with rfl | rfl | rfl | rfl | rfl | rfl <;> simp [upd]) rfl (by omega) hin hlk (by rcases (show j = 5 ∨ j = 6 ∨ j = 7 ∨ j = 8 ∨ j = 9 ∨ j = 10 by omega) with rfl | rfl | rfl | rfl | rfl | rfl <;> rfl) (by rcases (show j = 5 ∨ j = 6 ∨ j = 7 ∨ j = 8 ∨ j = 9 ∨ j = 10 by omega) with rfl | rfl | rfl | rfl | rfl | rfl <;> rfl) (by show j < 11; omega) d kk
theorem gg6 (S : CallFix p m c cc nL s args Ts own) (hC : gC E s) (hin : ∀ w ∈ wsX70, w ∈ Ts) (j : Nat) (hj : j < 2) {index : Nat} (hlk : Cond.fieldLink own index (TX7 j).1 (TX7 j).2.1 (TX7 j).2.2.1 ∈ Ts) (d : decode cc pc = .ok (.getfield index, 3)) (kk : gJ p l e R s m args below meth c Q nL E σ cells slots (pc + 3) lv (.ref (E.2.2 (1 + 28 * j)) :: rest)) : gJ p l e R s m args below meth c Q nL E σ cells slots pc lv (.ref (E.2.2 0) :: rest) :=
  g_getc S hC (C := RX7) (T := TX7) (N := 2) (fs := [.ref (E.2.2 1), .ref (E.2.2 29)]) 6 j (by omega) rfl rfl hj hin hlk (by rcases (show j = 0 ∨ j = 1 by omega) with rfl | rfl <;> rfl) d kk
theorem gg7 (S : CallFix p m c cc nL s args Ts own) (hC : gC E s) (hin : ∀ w ∈ wsX80, w ∈ Ts) {k : Nat} (hk : k < 65) (hkd : gK k = 7) (j : Nat) (hj : j < 5) {index : Nat} (hlk : Cond.fieldLink own index (TX8 j).1 (TX8 j).2.1 (TX8 j).2.2.1 ∈ Ts)  (d : decode cc pc = .ok (.getfield index, 3)) (kk : gJ p l e R s m args below meth c Q nL E σ cells slots (pc + 3) lv (.int (σ.1 k j) :: rest)) : gJ p l e R s m args below meth c Q nL E σ cells slots pc lv (.ref (E.2.2 k) :: rest) :=
  g_getc S hC (C := RX8) (T := TX8) (N := 11) 7 j hk (gw_7 hkd) rfl (by omega) hin hlk (by rcases (show j = 0 ∨ j = 1 ∨ j = 2 ∨ j = 3 ∨ j = 4 by omega) with rfl | rfl | rfl | rfl | rfl <;> rfl) d kk
theorem gg7r (S : CallFix p m c cc nL s args Ts own) (hC : gC E s) (hin : ∀ w ∈ wsX80, w ∈ Ts) {k : Nat} (hk : k < 65) (hkd : gK k = 7) (j : Nat) (hj : 5 ≤ j ∧ j < 11) {index : Nat} (hlk : Cond.fieldLink own index (TX8 j).1 (TX8 j).2.1 (TX8 j).2.2.1 ∈ Ts)  (d : decode cc pc = .ok (.getfield index, 3)) (kk : gJ p l e R s m args below meth c Q nL E σ cells slots (pc + 3) lv (.ref (E.2.2 (k + (j - 4))) :: rest)) : gJ p l e R s m args below meth c Q nL E σ cells slots pc lv (.ref (E.2.2 k) :: rest) :=
  g_getc S hC (C := RX8) (T := TX8) (N := 11) 7 j hk (gw_7 hkd) rfl (by omega) hin hlk (by rcases (show j = 5 ∨ j = 6 ∨ j = 7 ∨ j = 8 ∨ j = 9 ∨ j = 10 by omega) with rfl | rfl | rfl | rfl | rfl | rfl <;> rfl) d kk
theorem gp7 (S : CallFix p m c cc nL s args Ts own) (hC : gC E s) (hin : ∀ w ∈ wsX80, w ∈ Ts) {k : Nat} (hk : k < 65) (hkd : gK k = 7) (j : Nat) (hj : j < 5) {index : Nat} (hlk : Cond.fieldLink own index (TX8 j).1 (TX8 j).2.1 (TX8 j).2.2.1 ∈ Ts) {x : Int32} (d : decode cc pc = .ok (.putfield index, 3)) (kk : gJ p l e R s m args below meth c Q nL E (gu σ k j x) cells slots (pc + 3) lv rest) : gJ p l e R s m args below meth c Q nL E σ cells slots pc lv (.int x :: .ref (E.2.2 k) :: rest) :=
  g_putc S hC (C := RX8) (T := TX8) (N := 11) tyX8 tyX8_ok nmX8 7 j hk (gw_7 hkd) (by rw [gw_7 hkd]; simp only [gu_self]; rcases (show j = 0 ∨ j = 1 ∨ j = 2 ∨ j = 3 ∨ j = 4 by omega) with rfl | rfl | rfl | rfl | rfl <;> simp [upd]) rfl (by omega) hin hlk (by rcases (show j = 0 ∨ j = 1 ∨ j = 2 ∨ j = 3 ∨ j = 4 by omega) with rfl | rfl | rfl | rfl | rfl <;> rfl) (by rcases (show j = 0 ∨ j = 1 ∨ j = 2 ∨ j = 3 ∨ j = 4 by omega) with rfl | rfl | rfl | rfl | rfl <;> rfl) (by show j < 11; omega) d kk
end GF
