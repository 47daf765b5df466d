section GD
variable {p : Program} {l : Launch} {e : Env} {R : Room} {s : State} {m : MethodId} {args : Array Value} {below : List Frame} {meth : Method} {c : Code} {Q : State → Prop}
variable {cc : ByteArray} {nL : Nat} {Ts : List Cond} {own : String} {E : gT} {σ σ' : gS} {cells slots pc : Nat} {lv lv' : List (Nat × Value)} {rest st0 : List Value} {d0 : Drawn}
theorem gS_dr (S : CallFix p m c cc nL s args Ts own) (d : Drawn) : CallFix p m c cc nL (s.setDrawn d) args Ts own := ⟨S.1, S.2.1, S.2.2.1, S.2.2.2.1, dr_words S.2.2.2.2 d⟩
theorem gC.dr (h : gC E s) (d : Drawn) : gC E (s.setDrawn d) := h.same rfl rfl
abbrev gRd (E : gT) (σ : gS) (x : UInt64) (sz : Nat) : Array Value → State → Outcome → State → Prop := va_Qd (fun (r : UInt64) (_ : Unit) => alike64 r x = true) (fun _ => gBt E σ) (gA E sz)
/-- a method that may draw: a number alike x -/
def gMd (l : Launch) (y : MethodName) (ws : List Cond) (rm : Room) (mc ms : Nat) (E : gT) (σ : gS) (av : List Value) (x : UInt64) (σ' : gS) : Prop := ∀ sz, MetD lw_cs l y ws rm (gPre E σ sz av) (gRd E σ' x sz) mc ms (gA E sz)
theorem g_metD {y : MethodName} {ws ws' : List Cond} {rm : Room} {mc ms : Nat} {av : List Value} {ret : Option FieldType} {Qc : Nat → Array Value → State → Outcome → State → Prop} (hy : plainName y.cls = true) (hw : ws = Cond.code y cc nL ret :: ws') (hlv : lv_args 0 av = lv) (hsz : (lg_sl av).length ≤ nL)
    (body : ∀ (p : Program) (e : Env) (s : State) (m : MethodId) (below : List Frame) (meth : Method) (c : Code), CallFix p m c cc nL s av.toArray ws y.cls → meth.sig.returnType = ret → meth.locks = false → gC E s → s.drawn.sameBut s.drawn lw_cs →
      gJ p l e rm (s.setDrawn s.drawn) m av.toArray below meth c (MQD lw_cs below (Qc s.heap.size) av.toArray s mc ms (gA E s.heap.size)) nL E σ 0 0 0 lv []) : ∀ sz, MetD lw_cs l y ws rm (gPre E σ sz av) (Qc sz) mc ms (gA E sz) := by
  intro sz
  refine MetD.ofW (cc := cc) (maxL := nL) (ret := ret) hy hw ?_
  intro p e s m args below meth c s₁ B hml hv hd0
  obtain ⟨rfl, rfl, hC, hP⟩ := hv
  exact g_ent (s := s.setDrawn s.drawn) (k := fun _ => True) (ls := #[]) hlv hsz (body p e s m below meth c ⟨B.exec, B.bytes, hml, findClass_of_methodNamed B.named, atoms_spec (ws := ws) B.pre⟩ B.returns B.notSynchronized hC hd0) hP
theorem g_ddiv (hd0 : s.drawn.sameBut d0 lw_cs) (S : CallFix p m c cc nL s args Ts own) {x y : UInt64} (d : decode cc pc = .ok (.ddiv, 1)) (kk : ∀ (r : UInt64) (d1 : Drawn), alike64 r (FP.ddiv x y) = true → s.drawn.sameBut d1 lw_cs → gJ p l e R (s.setDrawn d1) m args below meth c Q nL E σ cells slots (pc + 1) lv (.double r :: rest)) : gJ p l e R (s.setDrawn d0) m args below meth c Q nL E σ cells slots pc lv (.double y :: .double x :: rest) :=
  fun H locs ls hP hS hl => lv_ddiv_any hd0 lw_bits S.1 S.2.1 d (fun r d1 hal hd1 => kk r d1 hal hd1 H locs ls hP hS hl)
theorem g_dret (hd0 : s.drawn.sameBut d0 lw_cs) (S : CallFix p m c cc nL s args Ts own) (hr : meth.sig.returnType = some .double) (hlocks : meth.locks = false) {r x : UInt64} {mc ms : Nat} (d : decode cc pc = .ok (.dreturn, 1)) (h1 : alike64 r x = true) (h2 : σ = σ') (h3 : cells ≤ mc) (h4 : slots ≤ ms) :
    gJ p l e R (s.setDrawn d0) m args below meth c (MQD lw_cs below (gRd E σ' x s.heap.size) args s mc ms (gA E s.heap.size)) nL E σ cells slots pc lv [.double r] := by
  subst h2
  exact fun H locs ls hP hS hl => W.endD hd0 (W.widen h3 h4 (W.dret S.1 S.2.1 hr (fun t ht _ => ⟨⟨r, (), rfl, h1, by show gP _ _ t.heap; rw [ht]; exact hP⟩, va_S.F (s := s.setDrawn d0) hS ht⟩) hS.2.2 d))
/-- a call that may draw -/
def gRunD (p : Program) (l : Launch) (e : Env) (R : Room) (s : State) (m : MethodId) (args : Array Value) (below : List Frame) (meth : Method) (c : Code) (nL : Nat) (E : gT) (σ : gS) (cells slots pc : Nat) (lv : List (Nat × Value)) (st0 rest : List Value) (Qa : Nat → State → Outcome → State → Prop) (mc ms : Nat) : Prop :=
  ∀ (H : Heap) (locs : List Loc) (ls : Array Slot), gP E σ H → va_S (gA E s.heap.size) s.heap H locs → lv_has ls nL lv → va_RunD lw_cs p l e R s m args below meth c H locs cells slots mc ms (F0 m pc ls st0) rest (Qa H.size) (gA E H.size)
variable {y : MethodName} {bytes : ByteArray} {maxL n index mc ms : Nat} {ret : Option FieldType} {ws : List Cond} {rm : Room} {As : List Value} {Qc : Nat → Array Value → State → Outcome → State → Prop}
theorem g_runVD (S : CallFix p m c cc nL s args Ts own) (hC : gC E s) {k ci : Nat} {q : vw_C} (hk : k < 58) (hkd : gK k = ci) (hci : ci < 8) (hcl : vwCl[ci]? = some q) (hM : ∀ sz, MetD lw_cs l y ws rm (gPre E σ sz (.ref (E.2.2 k) :: As)) (Qc sz) mc ms (gA E sz)) (cw : CallW R s args own q.1 index y bytes maxL ret ws rm mc ms n) (hn : As.length = n) (hst : st0 = As.reverse ++ .ref (E.2.2 k) :: rest) (hcat : (rest.map fun v => v.category).sum ≤ 8) (d : decode cc pc = .ok (.invokevirtual index, 3)) (hf : cells + mc ≤ R.cells ∧ slots + ms ≤ R.slots) :
    gRunD p l e R s m args below meth c nL E σ cells slots pc lv st0 rest (fun sz => Qc sz (Value.ref (E.2.2 k) :: As).toArray) mc ms :=
  fun H locs ls hP hS hl => va_runV_D S (hM H.size) cw ⟨gPre_blind, g_recv hC hk hkd hci hcl hP, fun U hU hW => ⟨rfl, by rw [hU], hC.go hS hU hW, by rw [hU]; exact hP⟩⟩ rfl hn hl.1 hst (lv_room hcat) d hf
variable {a : Array Value}
theorem g_calld (hd0 : s.drawn.sameBut d0 lw_cs) {x : UInt64} (hr : gRunD p l e R (s.setDrawn d0) m args below meth c nL E σ cells slots pc lv st0 rest (fun sz => gRd E σ' x sz a) mc ms) (kk : ∀ (r : UInt64) (d1 : Drawn), alike64 r x = true → s.drawn.sameBut d1 lw_cs → gJ p l e R (s.setDrawn d1) m args below meth c Q nL E σ' (cells + mc) (slots + ms) (pc + 3) lv (.double r :: rest)) : gJ p l e R (s.setDrawn d0) m args below meth c Q nL E σ cells slots pc lv st0 := by
  intro H locs ls hP hS hl
  refine va_calldD hd0 (hr H locs ls hP hS hl) hS (fun q _ h => gA_mono hS.1 q h) (gA_mono hS.1) (fun r u t H1 locs1 ht hvm hr' hB hz hk hS1 d1 hd1 => ?_)
  have hB : gP _ _ t.heap := hB
  rw [ht] at hB
  exact kk r d1 hr' hd1 H1 locs1 ls hB hS1 hl
end GD
