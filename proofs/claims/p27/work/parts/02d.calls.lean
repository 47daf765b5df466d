section GM
variable {p : Program} {l : Launch} {e : Env} {R : Room} {s : State} {m : MethodId} {args : Array Value} {below : List Frame} {meth : Method} {c : Code} {Q : State → Prop}
variable {cc : ByteArray} {nL : Nat} {Ts : List Cond} {own : String} {E : gT} {σ σ' : gS} {cells slots pc : Nat} {lv lv' : List (Nat × Value)} {rest st0 : List Value}
/-- a method's entry -/
def gB (E : gT) (σ : gS) (sz : Nat) (U : State) : Prop := U.heap.size = sz ∧ gC E U ∧ gP E σ U.heap
abbrev gPre (E : gT) (σ : gS) (sz : Nat) (av : List Value) : Array Value → State → Prop := va_Pc av (gB E σ sz)
abbrev gBt (E : gT) (σ : gS) (t : State) : Prop := gP E σ t.heap
abbrev gRi (E : gT) (σ : gS) (r : Int32) (sz : Nat) : Array Value → State → Outcome → State → Prop := va_Qi (fun (r' : Int32) (_ : Unit) => r' = r) (fun _ => gBt E σ) (gA E sz)
abbrev gRl (E : gT) (σ : gS) (r : Int64) (sz : Nat) : Array Value → State → Outcome → State → Prop := va_Ql (fun (r' : Int64) (_ : Unit) => r' = r) (fun _ => gBt E σ) (gA E sz)
abbrev gRv (E : gT) (σ : gS) (sz : Nat) : Array Value → State → Outcome → State → Prop := va_Qv (fun (_ : Unit) => True) (fun _ => gBt E σ) (gA E sz)
/-- contracts: what comes in, the answer, the numbers behind it; room for mc cells of ms slots -/
def gMi (l : Launch) (y : MethodName) (ws : List Cond) (rm : Room) (mc ms : Nat) (E : gT) (σ : gS) (av : List Value) (r : Int32) (σ' : gS) : Prop := ∀ sz, Met l y ws rm (gPre E σ sz av) (gRi E σ' r sz) mc ms (gA E sz)
def gMl (l : Launch) (y : MethodName) (ws : List Cond) (rm : Room) (mc ms : Nat) (E : gT) (σ : gS) (av : List Value) (r : Int64) (σ' : gS) : Prop := ∀ sz, Met l y ws rm (gPre E σ sz av) (gRl E σ' r sz) mc ms (gA E sz)
def gMv (l : Launch) (y : MethodName) (ws : List Cond) (rm : Room) (mc ms : Nat) (E : gT) (σ : gS) (av : List Value) (σ' : gS) : Prop := ∀ sz, Met l y ws rm (gPre E σ sz av) (gRv E σ' sz) mc ms (gA E sz)
theorem gPre_blind {E : gT} {σ : gS} {sz : Nat} {av : List Value} : FrameBlind (gPre E σ sz av) := fun _ _ _ _ h => ⟨h.1, h.2.1, h.2.2.1.same rfl rfl, h.2.2.2⟩
/-- from a method's entry: the head of any body -/
theorem g_ent {k : List Value → Prop} {ls : Array Slot} {av : List Value} {nL : Nat} {lv : List (Nat × Value)} (hlv : lv_args 0 av = lv) (hsz : (lg_sl av).length ≤ nL) (K : gJ p l e R s m av.toArray below meth c Q nL E σ 0 0 0 lv []) (hP : gP E σ s.heap) : W p l e R s m av.toArray below meth c s.heap [] 0 0 Q (entryFrame m av.toArray nL) := by
  rw [lg_entry_eq]
  exact K s.heap [] _ hP va_S.rf (by rw [← hlv]; exact lv_entry av hsz)
theorem g_met {y : MethodName} {ws ws' : List Cond} {rm : Room} {mc ms : Nat} {av : List Value} {ret : Option FieldType} {Qc : Nat → Array Value → State → Outcome → State → Prop} (hy : plainName y.cls = true) (hw : ws = Cond.code y cc nL ret :: ws') (hlv : lv_args 0 av = lv) (hsz : (lg_sl av).length ≤ nL)
    (body : ∀ (p : Program) (e : Env) (s : State) (m : MethodId) (below : List Frame) (meth : Method) (c : Code), CallFix p m c cc nL s av.toArray ws y.cls → meth.sig.returnType = ret → meth.locks = false → gC E s →
      gJ p l e rm s m av.toArray below meth c (MQ below (Qc s.heap.size) av.toArray s mc ms (gA E s.heap.size)) nL E σ 0 0 0 lv []) : ∀ sz, Met l y ws rm (gPre E σ sz av) (Qc sz) mc ms (gA E sz) := by
  intro sz
  refine Met.ofW (cc := cc) (maxL := nL) (ret := ret) hy hw ?_
  intro p e s m args below meth c s₁ B hml hv
  obtain ⟨rfl, rfl, hC, hP⟩ := hv
  exact g_ent (k := fun _ => True) (ls := #[]) hlv hsz (body p e s m below meth c ⟨B.exec, B.bytes, hml, findClass_of_methodNamed B.named, atoms_spec (ws := ws) B.pre⟩ B.returns B.notSynchronized hC) hP
/-- ends -/
theorem g_iret (S : CallFix p m c cc nL s args Ts own) (hr : meth.sig.returnType = some .int) (hlocks : meth.locks = false) {r r' : Int32} {mc ms : Nat} (d : decode cc pc = .ok (.ireturn, 1)) (h1 : r = r') (h2 : σ = σ') (h3 : cells ≤ mc) (h4 : slots ≤ ms) :
    gJ p l e R s m args below meth c (MQ below (gRi E σ' r' s.heap.size) args s mc ms (gA E s.heap.size)) nL E σ cells slots pc lv [.int r] := by
  subst h1; subst h2
  exact fun H locs ls hP hS hl => W.widen h3 h4 (W.iret S.1 S.2.1 hr (fun t ht _ => ⟨⟨r, (), rfl, rfl, by show gP _ _ t.heap; rw [ht]; exact hP⟩, hS.F ht⟩) hS.2.2 d)
theorem g_zret (S : CallFix p m c cc nL s args Ts own) (hr : meth.sig.returnType = some .boolean) (hlocks : meth.locks = false) {r r' : Int32} {mc ms : Nat} (d : decode cc pc = .ok (.ireturn, 1)) (h0 : narrow .boolean (.int r) = .int r) (h1 : r = r') (h2 : σ = σ') (h3 : cells ≤ mc) (h4 : slots ≤ ms) :
    gJ p l e R s m args below meth c (MQ below (gRi E σ' r' s.heap.size) args s mc ms (gA E s.heap.size)) nL E σ cells slots pc lv [.int r] := by
  subst h1; subst h2
  exact fun H locs ls hP hS hl => W.widen h3 h4 (W.zret S.1 S.2.1 hr h0 (fun t ht _ => ⟨⟨r, (), rfl, rfl, by show gP _ _ t.heap; rw [ht]; exact hP⟩, hS.F ht⟩) hS.2.2 d)
theorem g_lret (S : CallFix p m c cc nL s args Ts own) (hr : meth.sig.returnType = some .long) (hlocks : meth.locks = false) {r r' : Int64} {mc ms : Nat} (d : decode cc pc = .ok (.lreturn, 1)) (h1 : r = r') (h2 : σ = σ') (h3 : cells ≤ mc) (h4 : slots ≤ ms) :
    gJ p l e R s m args below meth c (MQ below (gRl E σ' r' s.heap.size) args s mc ms (gA E s.heap.size)) nL E σ cells slots pc lv [.long r] := by
  subst h1; subst h2
  exact fun H locs ls hP hS hl => W.widen h3 h4 (W.lret S.1 S.2.1 hr (fun t ht _ => ⟨⟨r, (), rfl, rfl, by show gP _ _ t.heap; rw [ht]; exact hP⟩, hS.F ht⟩) hS.2.2 d)
theorem g_vret (S : CallFix p m c cc nL s args Ts own) (hr : meth.sig.returnType = none) (hlocks : meth.locks = false) {mc ms : Nat} (d : decode cc pc = .ok (.return_, 1)) (h2 : σ = σ') (h3 : cells ≤ mc) (h4 : slots ≤ ms) :
    gJ p l e R s m args below meth c (MQ below (gRv E σ' s.heap.size) args s mc ms (gA E s.heap.size)) nL E σ cells slots pc lv [] := by
  subst h2
  exact fun H locs ls hP hS hl => W.widen h3 h4 (W.vret S.1 S.2.1 hr (fun t ht _ => ⟨⟨(), rfl, trivial, by show gP _ _ t.heap; rw [ht]; exact hP⟩, hS.F ht⟩) hS.2.2 d)
/-- which cells are objects -/
theorem gw_obj {k ci : Nat} (h : gK k = ci) (hc : ci < 8) : ∃ fs, gw E σ k = .inr (ci, fs) := by
  rcases (show ci < 5 ∨ ci = 5 ∨ ci = 6 ∨ ci = 7 by omega) with h5 | rfl | rfl | rfl
  · exact ⟨_, gK_o h h5⟩
  · exact ⟨_, gw_5 h⟩
  · exact ⟨[.ref (E.2.2 1), .ref (gTr E)], by unfold gw; rw [h]; try rfl⟩
  · exact ⟨_, by unfold gw; rw [h]; try rfl⟩
/-- a call under way -/
def gRun (p : Program) (l : Launch) (e : Env) (R : Room) (s : State) (m : MethodId) (args : Array Value) (below : List Frame) (meth : Method) (c : Code) (nL : Nat) (E : gT) (σ : gS) (cells slots pc : Nat) (lv : List (Nat × Value)) (st0 rest : List Value) (Qa : Nat → State → Outcome → State → Prop) (mc ms : Nat) : Prop :=
  ∀ (H : Heap) (locs : List Loc) (ls : Array Slot), gP E σ H → va_S (gA E s.heap.size) s.heap H locs → lv_has ls nL lv → va_Run p l e R s m args below meth c H locs cells slots mc ms (F0 m pc ls st0) rest (Qa H.size) (gA E H.size)
variable {y : MethodName} {bytes : ByteArray} {maxL n index mc ms : Nat} {ret : Option FieldType} {ws : List Cond} {rm : Room} {As : List Value} {Qc : Nat → Array Value → State → Outcome → State → Prop}
theorem g_recv (hC : gC E s) {k ci : Nat} {q : vw_C} (hk : k < 58) (hkd : gK k = ci) (hci : ci < 8) (hcl : vwCl[ci]? = some q) {H : Heap} (hP : gP E σ H) : ∃ cell : Cell, H[E.2.2 k]? = some cell ∧ cell.vm.isStatics = false ∧ s.vm.findClass q.1 = some cell.cls := by
  obtain ⟨fs, hw⟩ := gw_obj (E := E) (σ := σ) hkd hci
  exact va_recv hC.1 hP.1 (ci := ci) (q0 := k) hcl (by rw [gl_at hk, hw])
theorem g_runV (S : CallFix p m c cc nL s args Ts own) (hC : gC E s) {k ci : Nat} {q : vw_C} (hk : k < 58) (hkd : gK k = ci) (hci : ci < 8) (hcl : vwCl[ci]? = some q) (hM : ∀ sz, Met l y ws rm (gPre E σ sz (.ref (E.2.2 k) :: As)) (Qc sz) mc ms (gA E sz)) (cw : CallW R s args own q.1 index y bytes maxL ret ws rm mc ms n) (hn : As.length = n) (hst : st0 = As.reverse ++ .ref (E.2.2 k) :: rest) (hcat : (rest.map fun v => v.category).sum ≤ 8) (d : decode cc pc = .ok (.invokevirtual index, 3)) (hf : cells + mc ≤ R.cells ∧ slots + ms ≤ R.slots) :
    gRun p l e R s m args below meth c nL E σ cells slots pc lv st0 rest (fun sz => Qc sz (Value.ref (E.2.2 k) :: As).toArray) mc ms :=
  fun H locs ls hP hS hl => va_runV S (hM H.size) cw ⟨gPre_blind, g_recv hC hk hkd hci hcl hP, fun U hU hW => ⟨rfl, by rw [hU], hC.go hS hU hW, by rw [hU]; exact hP⟩⟩ rfl hn hl.1 hst (lv_room hcat) d hf
theorem g_runS (S : CallFix p m c cc nL s args Ts own) (hC : gC E s) (hM : ∀ sz, Met l y ws rm (gPre E σ sz As) (Qc sz) mc ms (gA E sz)) (cw : CallB R s args own index y bytes maxL ret ws rm mc ms n ∧ (Cond.static y).before args s = true) (hn : As.length = n) (hst : st0 = As.reverse ++ rest) (hcat : (rest.map fun v => v.category).sum ≤ 8) (d : decode cc pc = .ok (.invokestatic index, 3)) (hf : cells + mc ≤ R.cells ∧ slots + ms ≤ R.slots) :
    gRun p l e R s m args below meth c nL E σ cells slots pc lv st0 rest (fun sz => Qc sz As.toArray) mc ms :=
  fun H locs ls hP hS hl => va_runS S (hM H.size) cw ⟨gPre_blind, fun U hU hW => ⟨rfl, by rw [hU], hC.go hS hU hW, by rw [hU]; exact hP⟩⟩ rfl hn hl.1 hst (lv_room hcat) d hf
theorem g_runU {x : MethodName} {owner : String} (S : CallFix p m c cc nL s args Ts own) (hC : gC E s) {k ci : Nat} {q : vw_C} (hk : k < 58) (hkd : gK k = ci) (hci : ci < 8) (hcl : vwCl[ci]? = some q) (hM : ∀ sz, Met l y ws rm (gPre E σ sz (.ref (E.2.2 k) :: As)) (Qc sz) mc ms (gA E sz)) (cw : va_CU R s args own q.1 owner index x y bytes maxL ret ws rm mc ms n) (hn : As.length = n) (hst : st0 = As.reverse ++ .ref (E.2.2 k) :: rest) (hcat : (rest.map fun v => v.category).sum ≤ 8) (d : decode cc pc = .ok (.invokevirtual index, 3)) (hf : cells + mc ≤ R.cells ∧ slots + ms ≤ R.slots) :
    gRun p l e R s m args below meth c nL E σ cells slots pc lv st0 rest (fun sz => Qc sz (Value.ref (E.2.2 k) :: As).toArray) mc ms :=
  fun H locs ls hP hS hl => va_runU S (hM H.size) cw ⟨gPre_blind, g_recv hC hk hkd hci hcl hP, fun U hU hW => ⟨rfl, by rw [hU], hC.go hS hU hW, by rw [hU]; exact hP⟩⟩ rfl hn hl.1 hst (lv_room hcat) d hf
/-- a static method with handlers -/
theorem g_runSW {hh : List (Nat × Nat × Nat × Nat)} (S : CallFix p m c cc nL s args Ts own) (hC : gC E s) (hM : ∀ sz, Met l y ws rm (gPre E σ sz As) (Qc sz) mc ms (gA E sz)) (cw : vx_CSW R s args own index y bytes maxL ret hh ws rm mc ms n) (hn : As.length = n) (hst : st0 = As.reverse ++ rest) (hcat : (rest.map fun v => v.category).sum ≤ 8) (d : decode cc pc = .ok (.invokestatic index, 3)) (hf : cells + mc ≤ R.cells ∧ slots + ms ≤ R.slots) :
    gRun p l e R s m args below meth c nL E σ cells slots pc lv st0 rest (fun sz => Qc sz As.toArray) mc ms :=
  fun H locs ls hP hS hl => vx_runSW S (hM H.size) cw ⟨gPre_blind, fun U hU hW => ⟨rfl, by rw [hU], hC.go hS hU hW, by rw [hU]; exact hP⟩⟩ rfl hn hl.1 hst (lv_room hcat) d hf
variable {a : Array Value}
theorem g_calli {r : Int32} (hr : gRun p l e R s m args below meth c nL E σ cells slots pc lv st0 rest (fun sz => gRi E σ' r sz a) mc ms) (kk : gJ p l e R s m args below meth c Q nL E σ' (cells + mc) (slots + ms) (pc + 3) lv (.int r :: rest)) : gJ p l e R s m args below meth c Q nL E σ cells slots pc lv st0 := by
  intro H locs ls hP hS hl
  refine va_calli (hr H locs ls hP hS hl) hS (fun q _ h => gA_mono hS.1 q h) (gA_mono hS.1) (fun r' u t H1 locs1 ht hvm hr' hB hz hk hS1 => ?_)
  subst hr'
  have hB : gP _ _ t.heap := hB
  rw [ht] at hB
  exact kk H1 locs1 ls hB hS1 hl
theorem g_calll {r : Int64} (hr : gRun p l e R s m args below meth c nL E σ cells slots pc lv st0 rest (fun sz => gRl E σ' r sz a) mc ms) (kk : gJ p l e R s m args below meth c Q nL E σ' (cells + mc) (slots + ms) (pc + 3) lv (.long r :: rest)) : gJ p l e R s m args below meth c Q nL E σ cells slots pc lv st0 := by
  intro H locs ls hP hS hl
  refine va_calll (hr H locs ls hP hS hl) hS (fun q _ h => gA_mono hS.1 q h) (gA_mono hS.1) (fun r' u t H1 locs1 ht hvm hr' hB hz hk hS1 => ?_)
  subst hr'
  have hB : gP _ _ t.heap := hB
  rw [ht] at hB
  exact kk H1 locs1 ls hB hS1 hl
theorem g_callv (hr : gRun p l e R s m args below meth c nL E σ cells slots pc lv st0 rest (fun sz => gRv E σ' sz a) mc ms) (kk : gJ p l e R s m args below meth c Q nL E σ' (cells + mc) (slots + ms) (pc + 3) lv rest) : gJ p l e R s m args below meth c Q nL E σ cells slots pc lv st0 := by
  intro H locs ls hP hS hl
  refine va_callv (hr H locs ls hP hS hl) hS (fun q _ h => gA_mono hS.1 q h) (gA_mono hS.1) (fun u t H1 locs1 ht hvm hr' hB hz hk hS1 => ?_)
  have hB : gP _ _ t.heap := hB
  rw [ht] at hB
  exact kk H1 locs1 ls hB hS1 hl
end GM
