section GT
variable {p : Program} {l : Launch} {e : Env} {R : Room} {s : State} {m : MethodId} {args : Array Value} {below : List Frame} {meth : Method} {c : Code} {Q : State → Prop}
variable {cc : ByteArray} {nL : Nat} {Ts : List Cond} {own : String} {E : gT} {σ σ' : gS} {cells slots pc : Nat} {lv lv' : List (Nat × Value)} {rest st0 : List Value}
/-- which exception: 1, 2, 3; 0 is none -/
def gEx (n : Nat) : String := if n = 1 then gIA else if n = 2 then gIS else gIO
abbrev gXi (E : gT) (σ : gS) (th : Nat) (r : Int32) (sz : Nat) : Array Value → State → Outcome → State → Prop := va_Qi (fun (r' : Int32) (_ : Unit) => th = 0 ∧ r' = r) (fun _ => gBt E σ) (gA E sz)
abbrev gXv (E : gT) (σ : gS) (th : Nat) (sz : Nat) : Array Value → State → Outcome → State → Prop := va_Qv (fun (_ : Unit) => th = 0) (fun _ => gBt E σ) (gA E sz)
abbrev gXx (E : gT) (σ : gS) (th : Nat) (sz : Nat) : String → State → State → Prop := vx_X (fun (_ : Unit) => th ≠ 0) (fun En _ t => En = gEx th ∧ gBt E σ t) (gA E sz)
/-- a method that returns r, or throws number th (0: it returns): the numbers behind it are σ' -/
def gYi (l : Launch) (y : MethodName) (ws : List Cond) (rm : Room) (mc ms : Nat) (E : gT) (σ : gS) (av : List Value) (th : Nat) (r : Int32) (σ' : gS) : Prop := ∀ sz, vx_Met l y ws rm (gPre E σ sz av) (gXi E σ' th r sz) (gXx E σ' th sz) mc ms (gA E sz)
def gYv (l : Launch) (y : MethodName) (ws : List Cond) (rm : Room) (mc ms : Nat) (E : gT) (σ : gS) (av : List Value) (th : Nat) (σ' : gS) : Prop := ∀ sz, vx_Met l y ws rm (gPre E σ sz av) (gXv E σ' th sz) (gXx E σ' th sz) mc ms (gA E sz)
theorem g_vmet {y : MethodName} {ws ws' : List Cond} {rm : Room} {mc ms : Nat} {av : List Value} {ret : Option FieldType} {Qc : Nat → Array Value → State → Outcome → State → Prop} {XC : Nat → String → State → State → Prop} (hy : plainName y.cls = true) (hw : ws = Cond.code y cc nL ret :: ws') (hlv : lv_args 0 av = lv) (hsz : (lg_sl av).length ≤ nL)
    (body : ∀ (p : Program) (e : Env) (s : State) (m : MethodId) (below : List Frame) (meth : Method) (c : Code), CallFix p m c cc nL s av.toArray ws y.cls → meth.sig.returnType = ret → meth.locks = false → (∀ x ∈ c.exceptionTable.toList, False) → gC E s →
      gJ p l e rm s m av.toArray below meth c (vx_MQ below (Qc s.heap.size) (XC s.heap.size) av.toArray s mc ms (gA E s.heap.size)) nL E σ 0 0 0 lv []) : ∀ sz, vx_Met l y ws rm (gPre E σ sz av) (Qc sz) (XC sz) mc ms (gA E sz) := by
  intro sz
  refine vx_ofW (cc := cc) (maxL := nL) (ret := ret) hy hw ?_
  intro p e s m args below meth c s₁ B hml hout hv
  obtain ⟨rfl, rfl, hC, hP⟩ := hv
  exact g_ent (k := fun _ => True) (ls := #[]) hlv hsz (body p e s m below meth c ⟨B.exec, B.bytes, hml, findClass_of_methodNamed B.named, atoms_spec (ws := ws) B.pre⟩ B.returns B.notSynchronized hout hC) hP
/-- ends of such a method -/
theorem g_xiret (S : CallFix p m c cc nL s args Ts own) (hr : meth.sig.returnType = some .int) (hlocks : meth.locks = false) {XC : String → State → State → Prop} {th : Nat} {r r' : Int32} {mc ms : Nat} (d : decode cc pc = .ok (.ireturn, 1)) (h0 : th = 0) (h1 : r = r') (h2 : σ = σ') (h3 : cells ≤ mc) (h4 : slots ≤ ms) :
    gJ p l e R s m args below meth c (vx_MQ below (gXi E σ' th r' s.heap.size) XC args s mc ms (gA E s.heap.size)) nL E σ cells slots pc lv [.int r] := by
  subst h1; subst h2
  exact fun H locs ls hP hS hl => vx_ret (W.widen h3 h4 (W.iret S.1 S.2.1 hr (fun t ht _ => ⟨⟨r, (), rfl, ⟨h0, rfl⟩, by show gP _ _ t.heap; rw [ht]; exact hP⟩, hS.F ht⟩) hS.2.2 d))
theorem g_xzret (S : CallFix p m c cc nL s args Ts own) (hr : meth.sig.returnType = some .boolean) (hlocks : meth.locks = false) {XC : String → State → State → Prop} {th : Nat} {r r' : Int32} {mc ms : Nat} (d : decode cc pc = .ok (.ireturn, 1)) (hn : narrow .boolean (.int r) = .int r) (h0 : th = 0) (h1 : r = r') (h2 : σ = σ') (h3 : cells ≤ mc) (h4 : slots ≤ ms) :
    gJ p l e R s m args below meth c (vx_MQ below (gXi E σ' th r' s.heap.size) XC args s mc ms (gA E s.heap.size)) nL E σ cells slots pc lv [.int r] := by
  subst h1; subst h2
  exact fun H locs ls hP hS hl => vx_ret (W.widen h3 h4 (W.zret S.1 S.2.1 hr hn (fun t ht _ => ⟨⟨r, (), rfl, ⟨h0, rfl⟩, by show gP _ _ t.heap; rw [ht]; exact hP⟩, hS.F ht⟩) hS.2.2 d))
theorem g_xvret (S : CallFix p m c cc nL s args Ts own) (hr : meth.sig.returnType = none) (hlocks : meth.locks = false) {XC : String → State → State → Prop} {th : Nat} {mc ms : Nat} (d : decode cc pc = .ok (.return_, 1)) (h0 : th = 0) (h2 : σ = σ') (h3 : cells ≤ mc) (h4 : slots ≤ ms) :
    gJ p l e R s m args below meth c (vx_MQ below (gXv E σ' th s.heap.size) XC args s mc ms (gA E s.heap.size)) nL E σ cells slots pc lv [] := by
  subst h2
  exact fun H locs ls hP hS hl => vx_ret (W.widen h3 h4 (W.vret S.1 S.2.1 hr (fun t ht _ => ⟨⟨(), rfl, h0, by show gP _ _ t.heap; rw [ht]; exact hP⟩, hS.F ht⟩) hS.2.2 d))
/-- throw new X(text) -/
theorem g_throw (S : CallFix p m c cc nL s args Ts own) (hC : gC E s) (hfl : l.stackTraces = false) (hlocks : meth.locks = false) (hout : ∀ x ∈ c.exceptionTable.toList, False) {cls text : String} {names : List String} {ik is ic : Nat} (th : Nat) {th' mc ms : Nat} {Qc : Array Value → State → Outcome → State → Prop} (hth : th ≠ 0) (hcls0 : cls = gEx th)
    (hcls : Bundle.fit cls = true) (hnames : ∀ n ∈ names, Bundle.fit n = true) (hk : Cond.classLink own ik cls ∈ Ts) (hini : Cond.initialized cls ∈ Ts) (hstr : ∃ sa, vk_R own is text sa s) (hat : ∀ w ∈ (vx_atS own ic cls names).filter goodWord, w ∈ Ts) (hat2 : ∀ w ∈ (vx_atS own ic cls names).filter (fun w => !goodWord w), w ∈ [Cond.declares (Bundle.initS "java/lang/RuntimeException"), Cond.declares (Bundle.initS "java/lang/Exception"), Cond.declares (Bundle.initS Bundle.tN), Cond.castable gIA gIA, Cond.castable gIS gIS, Cond.castable gIO gIO])
    (hgood : ∀ w ∈ Cond.classLink own ik cls :: Cond.initialized cls :: vx_atS own ic cls names, vx_ot w = true)
    (d0 : decode cc pc = .ok (.new ik, 3)) (d3 : decode cc (pc + 3) = .ok (.dup, 1)) (d4 : decode cc (pc + 4) = .ok (.ldc is, 2)) (d6 : decode cc (pc + 6) = .ok (.invokespecial ic, 3)) (d9 : decode cc (pc + 9) = .ok (.athrow, 1))
    (hRf : names.length + 3 < R.frames) (hRl : (rest.map fun v => v.category).sum + (13 * (names.length + 1) + 43) ≤ R.locals) (hRc : cells + 1 ≤ R.cells) (hRs : slots + 6 ≤ R.slots) (h3 : cells + 1 ≤ mc) (h4 : slots + 6 ≤ ms) (h0 : th' = th) (h2 : σ = σ') :
    gJ p l e R s m args below meth c (vx_MQ below Qc (gXx E σ' th' s.heap.size) args s mc ms (gA E s.heap.size)) nL E σ cells slots pc lv rest := by
  subst h0; subst h2
  intro H locs ls hP hS hl
  obtain ⟨sa, hsa⟩ := hstr
  have hat := vx_hat (fun w h => S.2.2.2.2 w (hat w h)) hat2 (vx_c (va_Nw.use rfl hC.2.2.1.1.2.2.1) (vx_c (va_Nw.use rfl hC.2.2.1.1.2.2.2.1) (vx_c (va_Nw.use rfl hC.2.2.1.1.2.2.2.2) (vx_c (va_Nw.use rfl hC.2.2.1.2.1.1) (vx_c (va_Nw.use rfl hC.2.2.1.2.1.2.1) (vx_c (va_Nw.use rfl hC.2.2.1.2.1.2.2) vx_n))))))
  refine vx_throwS S.1 S.2.1 hfl S.2.2.2.1 hcls hnames (S.2.2.2.2 _ hk) (S.2.2.2.2 _ hini) hsa hat hgood hC.2.2.2.1.1 hC.2.2.2.1.2 hS (hl.1.trans S.2.2.1.symm) d0 d3 d4 d6 d9 (fun x hx => (hout x hx).elim) hRf hRl hRc hRs hlocks (fun t _ hz hk9 => ⟨(), hth, ⟨hcls0, ?_⟩, ?_⟩) hS.2.2 h3 h4
  · exact ⟨hP.1.kept (fun k q hk => hk9 _ (vx_lt hP.1 hk)), hP.2⟩
  · exact ⟨Nat.le_trans hS.1 hz, fun q h1 h2 => by rw [hk9 q (Nat.lt_of_lt_of_le h1 hS.1)]; exact hS.2.1 q h1 h2⟩
/-- a call under way that may throw -/
def gXun (p : Program) (l : Launch) (e : Env) (R : Room) (s : State) (m : MethodId) (args : Array Value) (below : List Frame) (meth : Method) (c : Code) (nL : Nat) (E : gT) (σ : gS) (cells slots pc : Nat) (lv : List (Nat × Value)) (st0 rest : List Value) (Qa : Nat → State → Outcome → State → Prop) (XC : Nat → String → State → State → Prop) (mc ms : Nat) : Prop :=
  ∀ (H : Heap) (locs : List Loc) (ls : Array Slot), gP E σ H → va_S (gA E s.heap.size) s.heap H locs → lv_has ls nL lv → vx_Run p l e R s m args below meth c H locs cells slots mc ms (F0 m pc ls st0) rest (Qa H.size) (XC H.size) (gA E H.size)
variable {y : MethodName} {bytes : ByteArray} {maxL n index mc ms : Nat} {ret : Option FieldType} {ws : List Cond} {rm : Room} {As : List Value} {Qc : Nat → Array Value → State → Outcome → State → Prop} {XC : Nat → String → State → State → Prop}
theorem g_xunV (S : CallFix p m c cc nL s args Ts own) (hC : gC E s) {k ci : Nat} {q : vw_C} (hk : k < 58) (hkd : gK k = ci) (hci : ci < 8) (hcl : vwCl[ci]? = some q) (hM : ∀ sz, vx_Met l y ws rm (gPre E σ sz (.ref (E.2.2 k) :: As)) (Qc sz) (XC sz) mc ms (gA E sz)) (cw : CallW R s args own q.1 index y bytes maxL ret ws rm mc ms n) (hn : As.length = n) (hst : st0 = As.reverse ++ .ref (E.2.2 k) :: rest) (hcat : (rest.map fun v => v.category).sum ≤ 8) (d : decode cc pc = .ok (.invokevirtual index, 3)) (hf : cells + mc ≤ R.cells ∧ slots + ms ≤ R.slots) :
    gXun p l e R s m args below meth c nL E σ cells slots pc lv st0 rest (fun sz => Qc sz (Value.ref (E.2.2 k) :: As).toArray) XC mc ms :=
  fun H locs ls hP hS hl => vx_runV S (hM H.size) cw ⟨gPre_blind, g_recv hC hk hkd hci hcl hP, fun U hU hW => ⟨rfl, by rw [hU], hC.go hS hU hW, by rw [hU]; exact hP⟩⟩ rfl hn hl.1 hst (lv_room hcat) d hf
theorem g_xunS (S : CallFix p m c cc nL s args Ts own) (hC : gC E s) (hM : ∀ sz, vx_Met l y ws rm (gPre E σ sz As) (Qc sz) (XC sz) mc ms (gA E sz)) (cw : CallB R s args own index y bytes maxL ret ws rm mc ms n ∧ (Cond.static y).before args s = true) (hn : As.length = n) (hst : st0 = As.reverse ++ rest) (hcat : (rest.map fun v => v.category).sum ≤ 8) (d : decode cc pc = .ok (.invokestatic index, 3)) (hf : cells + mc ≤ R.cells ∧ slots + ms ≤ R.slots) :
    gXun p l e R s m args below meth c nL E σ cells slots pc lv st0 rest (fun sz => Qc sz As.toArray) XC mc ms :=
  fun H locs ls hP hS hl => vx_runS S (hM H.size) cw ⟨gPre_blind, fun U hU hW => ⟨rfl, by rw [hU], hC.go hS hU hW, by rw [hU]; exact hP⟩⟩ rfl hn hl.1 hst (lv_room hcat) d hf
variable {a : Array Value} {th : Nat}
/-- thrown here: the frame, with an exception of number th over it -/
def gV (p : Program) (l : Launch) (e : Env) (R : Room) (s : State) (m : MethodId) (args : Array Value) (below : List Frame) (meth : Method) (c : Code) (Q : State → Prop) (nL : Nat) (E : gT) (th : Nat) (σ : gS) (cells slots pc : Nat) (lv : List (Nat × Value)) (rest : List Value) : Prop :=
  ∀ (H : Heap) (locs : List Loc) (ls : Array Slot) (q : Addr) (ce : Cell), gP E σ H → va_S (gA E s.heap.size) s.heap H locs → lv_has ls nL lv → H[q]? = some ce → ce.vm = .none → s.vm.findClass (gEx th) = some ce.cls → vx_W p l e R s m args below meth c H locs cells slots Q (F0 m pc ls rest) q
theorem g_callxi {r : Int32} (hr : gXun p l e R s m args below meth c nL E σ cells slots pc lv st0 rest (fun sz => gXi E σ' th r sz a) (fun sz => gXx E σ' th sz) mc ms) (kx : th ≠ 0 → gV p l e R s m args below meth c Q nL E th σ' (cells + mc) (slots + ms) pc lv rest) (kk : th = 0 → gJ p l e R s m args below meth c Q nL E σ' (cells + mc) (slots + ms) (pc + 3) lv (.int r :: rest)) : gJ p l e R s m args below meth c Q nL E σ cells slots pc lv st0 := by
  intro H locs ls hP hS hl
  refine vx_calli (hr H locs ls hP hS hl) hS (fun q _ h => gA_mono hS.1 q h) (gA_mono hS.1) (fun q _ h => gA_mono hS.1 q h) (fun En ce q9 u t H1 locs1 ht hvm hp hB hz hk hS1 hce hv hcl => ?_) (fun r' u t H1 locs1 ht hvm hr' hB hz hk hS1 => ?_)
  · obtain ⟨rfl, hB⟩ := hB
    have hB : gP _ _ t.heap := hB
    rw [ht] at hB
    exact kx hp H1 locs1 ls q9 ce hB hS1 hl hce hv hcl
  · obtain ⟨h0, rfl⟩ := hr'
    have hB : gP _ _ t.heap := hB
    rw [ht] at hB
    exact kk h0 H1 locs1 ls hB hS1 hl
theorem g_callxv (hr : gXun p l e R s m args below meth c nL E σ cells slots pc lv st0 rest (fun sz => gXv E σ' th sz a) (fun sz => gXx E σ' th sz) mc ms) (kx : th ≠ 0 → gV p l e R s m args below meth c Q nL E th σ' (cells + mc) (slots + ms) pc lv rest) (kk : th = 0 → gJ p l e R s m args below meth c Q nL E σ' (cells + mc) (slots + ms) (pc + 3) lv rest) : gJ p l e R s m args below meth c Q nL E σ cells slots pc lv st0 := by
  intro H locs ls hP hS hl
  refine vx_callv (hr H locs ls hP hS hl) hS (fun q _ h => gA_mono hS.1 q h) (gA_mono hS.1) (fun q _ h => gA_mono hS.1 q h) (fun En ce q9 u t H1 locs1 ht hvm hp hB hz hk hS1 hce hv hcl => ?_) (fun u t H1 locs1 ht hvm hr' hB hz hk hS1 => ?_)
  · obtain ⟨rfl, hB⟩ := hB
    have hB : gP _ _ t.heap := hB
    rw [ht] at hB
    exact kx hp H1 locs1 ls q9 ce hB hS1 hl hce hv hcl
  · have hB : gP _ _ t.heap := hB
    rw [ht] at hB
    exact kk hr' H1 locs1 ls hB hS1 hl
/-- it goes on to the caller -/
theorem g_out (hlocks : meth.locks = false) (hout : ∀ x ∈ c.exceptionTable.toList, False) {Qc : Array Value → State → Outcome → State → Prop} {th' : Nat} (hth : th ≠ 0) (h0 : th' = th) (h2 : σ = σ') (h3 : cells ≤ mc) (h4 : slots ≤ ms) :
    gV p l e R s m args below meth c (vx_MQ below Qc (gXx E σ' th' s.heap.size) args s mc ms (gA E s.heap.size)) nL E th σ cells slots pc lv rest := by
  subst h0; subst h2
  intro H locs ls q ce hP hS hl hce hv hcl
  exact vx_out (fun x hx => (hout x hx).elim) hlocks hce hv hcl (fun t ht _ => ⟨(), hth, ⟨rfl, by show gP _ _ t.heap; rw [ht]; exact hP⟩, hS.F ht⟩) hS.2.2 h3 h4
end GT
