section
-- ===== PART A: goes FIRST, ahead of the names: the tables' words, and 'selects' of the private methods out of them =====
/-- a private method of a class that the tables say can be made, by its rows of tables_1 -/
def lw_okq (q : MethodName × Nat) : Prop := (q.1.cls ≠ "java/lang/invoke/MethodHandle" ∧ q.1.cls ≠ "java/lang/invoke/VarHandle") ∧ Cond.instantiable q.1.cls q.2 ∈ tables_1 ∧ Cond.privateMethod q.1 ∈ tables_1 ∧ Cond.instanceMethod q.1 ∈ tables_1
theorem lw_p0 : lw_okq (⟨"java/lang/Throwable", "fillInStackTrace", "(I)Ljava/lang/Throwable;"⟩, 6) := ⟨⟨by decide +kernel, by decide +kernel⟩, List.mem_of_getElem? (i := 261) (by decide +kernel), List.mem_of_getElem? (i := 259) (by decide +kernel), List.mem_of_getElem? (i := 260) (by decide +kernel)⟩
def lw_privs_1 : List (MethodName × Nat) := [(⟨"java/lang/Throwable", "fillInStackTrace", "(I)Ljava/lang/Throwable;"⟩, 6)]
theorem lw_r1 : ∀ q ∈ lw_privs_1, lw_okq q := List.forall_mem_cons.mpr ⟨lw_p0, fun _ h => absurd h List.not_mem_nil⟩
def lw_privs : List (MethodName × Nat) := lw_privs_1
def lw_tbl : List Cond := k2_sels lw_privs ++ tables_1
theorem lw_privs_ok : ∀ q ∈ lw_privs, lw_okq q := lw_r1
/-- the streams that the claim lets the run draw from -/
abbrev lw_cs : List Choice := [Jvm.Choice.named "NaN.bits"]
theorem lw_bits : nanBits ∈ lw_cs := by first | decide | exact List.mem_cons_self | simp [lw_cs, nanBits]
-- ===== end of PART A; then your names; then what follows =====
/-! ===== BEGIN words of one list among another's, by their places ===== -/
theorem goodIn_r {big : List Cond} (ws : List Cond) (ps : List Nat) (hp : ws = ps.filterMap (fun i => big[i]?)) (h : ws.all goodWord = true) : GoodIn big ws := by
  intro w hw
  have h1 := List.all_eq_true.mp h w hw
  rw [hp] at hw
  obtain ⟨i, -, hi⟩ := List.mem_filterMap.mp hw
  have hm : w ∈ big := by first | exact List.mem_of_getElem? hi | exact List.getElem?_mem hi
  exact ⟨hm, good_of_word h1⟩
theorem goodIn_app {big a b : List Cond} (ha : GoodIn big a) (hb : GoodIn big b) : GoodIn big (a ++ b) := fun w h => (List.mem_append.mp h).elim (ha w) (hb w)
theorem goodIn_ca {big a b : List Cond} {c : Cond} (ha : GoodIn big (c :: a)) (hb : GoodIn big b) : GoodIn big (c :: (a ++ b)) := fun w h => (List.mem_cons.mp h).elim (fun e => ha w (List.mem_cons.mpr (Or.inl e))) (fun h => (List.mem_append.mp h).elim (fun h => ha w (List.mem_cons.mpr (Or.inr h))) (hb w))
theorem goodIn_sub {big ws : List Cond} (hm : ∀ w ∈ ws, w ∈ big) (h : ws.all goodWord = true) : GoodIn big ws := fun w hw => ⟨hm w hw, good_of_word (List.all_eq_true.mp h w hw)⟩
/-! ===== END ===== -/

/-! ===== BEGIN exceptions that leave a method, and their catching by the caller (launches without stack traces) ===== -/
section VXA
/-! The laws vx_back, vx_callV, vx_callS, vx_callSW, vx_throw0, vx_throwS follow proofs of the library, with one case more: JvmDerived/Free/Laws.lean (Back.of_free), Shelf42/LK1.lean (callV, callS), Shelf/KitTraced.lean (throwNew0V, throwNewS). -/
/-- where a method has thrown q: the class by its name, the cell, what was written, the world -/
def vx_T (XC : String → State → State → Prop) (st : State) (q : Addr) (t : State) (mc ms : Nat) (free : Addr → Prop) : Prop :=
  ∃ (E : String) (ce : Cell) (L : List Loc), XC E st t ∧ t.heap[q]? = some ce ∧ ce.vm = .none ∧ st.vm.findClass E = some ce.cls ∧ st.WarmedH t.vm ∧ st.sameButNew ({ t with vm := st.vm } : State) L mc ms ∧ ∀ z ∈ L, free z.base
def vx_Q (Qc : Array Value → State → Outcome → State → Prop) (XC : String → State → State → Prop) (mc ms : Nat) (free : Addr → Prop) : Array Value → State → Outcome → State → Prop := fun a st o t =>
  (Qc a st o t ∧ ∃ L, FrameEnd st o t L mc ms ∧ ∀ q ∈ L, free q.base) ∨ ∃ q, o = .threw q ∧ vx_T XC st q t mc ms free
/-- a callee that returns or throws -/
def vx_Met (l : Launch) (y : MethodName) (ws : List Cond) (rm : Room) (Pc : Array Value → State → Prop) (Qc : Array Value → State → Outcome → State → Prop) (XC : String → State → State → Prop) (mc ms : Nat) (free : Addr → Prop) : Prop :=
  MetFree l y (headSpec ws rm) Pc (fun _ _ _ _ _ => True) (vx_Q Qc XC mc ms free)
def vx_Post (XC : String → State → State → Prop) (mc ms : Nat) (free : Addr → Prop) : Pt → Array Value → Addr → Pt → Prop := fun A a q B =>
  ∃ (g : JFrame) (mk : MethodId) (t : State) (L : List Loc) (E : String) (ce : Cell), B.U.heap = t.heap ∧ B.U.vm = t.vm ∧ XC E (A.U.calling g mk a) t ∧ t.heap[q]? = some ce ∧ ce.vm = .none ∧ A.U.vm.findClass E = some ce.cls ∧ B.locs = A.locs ++ L ∧ (∀ z ∈ L, free z.base) ∧ B.cells = A.cells + mc ∧ B.slots = A.slots + ms
def vx_Back (l : Launch) (R : Room) (p : Program) (e : Env) (below : List Frame) (s : State) (sargs : Array Value) (y : MethodName) (len W9 : Nat)
    (Pre : Pt → Array Value → Prop) (Post : Pt → Array Value → Option Value → Pt → Prop) (PostX : Pt → Array Value → Addr → Pt → Prop) : Prop :=
  ∀ (m : MethodId) (meth : Method) (c : Code) (A : Pt) (g : JFrame) (ig : Instr) (mk : MethodId) (a : Array Value),
    Stand p l e R s m sargs below meth c A.U A.locs A.cells A.slots → g.method = m → g.locals.size = c.maxLocals → decode c.code g.pc = .ok (ig, len) →
    2 * g.monitorRoom + (g.stack.map fun v => v.category).sum ≤ W9 → A.U.methodNamed? y = some mk → Pre A a →
    (∃ (v : Option Value) (B : Pt), Stand p l e R s m sargs below meth c B.U B.locs B.cells B.slots ∧ Post A a v B ∧
      Steps p.tables e below (doInvoke e (A.U.setTop g) [] mk a).1 (B.U.setTop { g with pc := g.pc + len, stack := v.toList ++ g.stack })) ∨
    (∃ (q : Addr) (B : Pt), Stand p l e R s m sargs below meth c B.U B.locs B.cells B.slots ∧ PostX A a q B ∧
      Steps p.tables e below (doInvoke e (A.U.setTop g) [] mk a).1 ((B.U.setTop g).pushFrame (.throwing q)))
section Payer
variable {l : Launch} {R : Room} {p : Program} {e : Env} {below : List Frame} {s : State} {sargs : Array Value} {y : MethodName} {len W9 : Nat}
theorem vx_back {ws : List Cond} {rm : Room} {Pc : Array Value → State → Prop} {Qc : Array Value → State → Outcome → State → Prop} {XC : String → State → State → Prop} {mc ms : Nat} {free : Addr → Prop} {bytes : ByteArray} {maxL : Nat} {ret : Option FieldType}
    (hM : vx_Met l y ws rm Pc Qc XC mc ms free) (hblind : FrameBlind Pc) (hrc : rm.cells = mc) (hrs : rm.slots = ms)
    (hframes : rm.frames + 1 ≤ R.frames) (hlocals : W9 + (maxL + 11) + rm.locals ≤ R.locals)
    (hws : ∀ w ∈ ws, ∀ a' U, s.WarmedH U.vm → w.before a' U = true) (hcode : Cond.code y bytes maxL ret ∈ ws) (hinit : ∀ a' U, s.WarmedH U.vm → (Cond.initialized y.cls).before a' U = true) :
    vx_Back l R p e below s sargs y len W9 (PreOf R mc ms Pc) (PostOf Qc mc ms free) (vx_Post XC mc ms free) := by
  intro m meth c A g ig mk a X hg hsize hdg hW hn hp
  have h1 : (headSpec ws rm).pre.before a A.U = true := atoms_intro fun w hw => hws w hw _ _ X.warmed
  have h2 : (Cond.code y bytes maxL ret).before a A.U = true := hws _ hcode _ _ X.warmed
  have h3 : (Cond.initialized y.cls).before a A.U = true := hinit _ _ X.warmed
  have h4 : A.cells + (headSpec ws rm).room.cells ≤ R.cells := by rw [show (headSpec ws rm).room.cells = mc from hrc]; exact hp.1
  have h5 : A.slots + (headSpec ws rm).room.slots ≤ R.slots := by rw [show (headSpec ws rm).room.slots = ms from hrs]; exact hp.2.1
  have hPc : Pc a (A.U.calling g mk a) := hblind _ _ _ _ hp.2.2
  obtain ⟨U, Ls, c0, s0⟩ := A
  dsimp only [Pt.U, Pt.locs, Pt.cells, Pt.slots] at h1 h2 h3 h4 h5 X hn hPc ⊢
  obtain ⟨methY, cY, hmY, hcY, -, hlY, -, -, -, -⟩ := Cond.code_spec hn h2
  obtain ⟨kY, hkY, -⟩ := className_of_methodNamed hn
  have hinitY : kY.init = .initialized := Cond.initialized_spec (findClass_of_methodNamed hn) hkY h3
  have h : At U g.method c below := by rw [hg]; exact X.here
  have hlocals9 : W9 + (maxL + 11) + (headSpec ws rm).room.locals ≤ R.locals := hlocals
  have happ : (headSpec ws rm).appliesLoose y e.platform (U.calling g mk a) = true :=
    Spec.appliesLoose_calling (g := g) h hdg hn hkY hinitY
      (X.room_calling (g := g) (R' := (headSpec ws rm).room) hsize hmY hcY hframes (by rw [hlY]; omega) h4 h5) h1
  obtain ⟨mid, hmid⟩ := h.above
  have hfr : (U.setTop g).frames = (.java g :: mid) ++ below := by rw [State.frames_setTop' g h.top, hmid]; rfl
  obtain ⟨o, s₂, hsteps, -, hend, hq⟩ := Steps.callFree hM p X.admits X.cas X.clock (acts := []) hfr happ hPc trivial
  have hq' : vx_Q Qc XC mc ms free a (U.calling g mk a) o s₂ := hq
  rw [State.frames_setTop' g h.top] at hend
  obtain ⟨g₀, hg0⟩ := Option.isSome_iff_exists.mp h.top
  obtain ⟨r, hr⟩ := State.topJava?_eq_some.mp hg0
  have hr' : (({ U with heap := s₂.heap, slotsUsed := s₂.slotsUsed } : State).setVm s₂.vm).frames = .java g₀ :: r := hr
  rcases hq' with ⟨hqc, L, hfe, hL⟩ | ⟨q, rfl, E, ce, L, hx, hce, hcv, hcl, hW₂, hsm, hL⟩
  · obtain ⟨⟨v, rfl⟩, hW₂, e2, q2, q3, q4, q5, q6⟩ := id hfe
    have e3 : s₂ = ({ (U.calling g mk a).setFrames s₂.frames with heap := s₂.heap, slotsUsed := s₂.slotsUsed } : State).setVm s₂.vm := by
      have : s₂ = ({ s₂ with vm := (U.calling g mk a).vm } : State).setVm s₂.vm := rfl
      rw [e2] at this
      exact this
    obtain ⟨c₂, i₂, len₂, hc₂, hd₂, hf₂⟩ := hend
    have hW' : U.WarmedH s₂.vm := hW₂
    have hcc : c₂ = c := by
      have h1 : s₂.code? g.method = U.code? g.method := by
        rw [State.code?_eq, State.code?_eq, hW'.alike.method?]
      exact Option.some.inj (hc₂.symm.trans (h1.trans h.code))
    subst hcc
    have hlen : len₂ = len := by rw [hdg] at hd₂; cases hd₂; rfl
    subst hlen
    have hs₂ : s₂ = (({ U with heap := s₂.heap, slotsUsed := s₂.slotsUsed } : State).setVm s₂.vm).setTop { g with pc := g.pc + len₂, stack := v.toList ++ g.stack } := by
      refine e3.trans ?_
      rw [hf₂, State.calling_eq h.top, State.setFrames_setFrames, State.setTop_of_frames _ hr', hr]
      rfl
    have hsame : U.sameButNew ({ U with heap := s₂.heap, slotsUsed := s₂.slotsUsed } : State) L mc ms := by
      refine ⟨?_, q2, q3, q4, q5, q6⟩
      obtain ⟨t, ht, -⟩ := State.frames_cons hr
      show ({ U with heap := s₂.heap, slotsUsed := s₂.slotsUsed } : State) = { U.setFrames U.frames with heap := s₂.heap, slotsUsed := s₂.slotsUsed }
      rw [State.setFrames_self ht]
    subst hg
    refine Or.inl ⟨v, ⟨(({ U with heap := s₂.heap, slotsUsed := s₂.slotsUsed } : State).setVm s₂.vm), Ls ++ L, c0 + mc, s0 + ms⟩,
      ⟨X.admits, X.cas, X.clock, X.frames, X.room, X.hears, X.method, X.code, (X.here.setHeapUsed s₂.heap s₂.slotsUsed).setVm hW'.alike, X.tail, State.WarmedH.trans X.warmed hW', X.limits, X.bytes, X.same.trans (hsame.setVm s.vm)⟩,
      ⟨g, mk, s₂, L, rfl, rfl, hqc, rfl, hL, rfl, rfl⟩, ?_⟩
    show Steps p.tables e below _ ((({ U with heap := s₂.heap, slotsUsed := s₂.slotsUsed } : State).setVm s₂.vm).setTop { g with pc := g.pc + len₂, stack := v.toList ++ g.stack })
    rw [← hs₂]
    exact hsteps
  · obtain ⟨e2, q2, q3, q4, q5, q6⟩ := id hsm
    have e3 : s₂ = ({ (U.calling g mk a).setFrames s₂.frames with heap := s₂.heap, slotsUsed := s₂.slotsUsed } : State).setVm s₂.vm := by
      have : s₂ = ({ s₂ with vm := (U.calling g mk a).vm } : State).setVm s₂.vm := rfl
      rw [e2] at this
      exact this
    have hf₂ : s₂.frames = .throwing q :: .java g :: U.frames.tail := hend
    have hW' : U.WarmedH s₂.vm := hW₂
    have hs₂ : s₂ = ((({ U with heap := s₂.heap, slotsUsed := s₂.slotsUsed } : State).setVm s₂.vm).setTop g).pushFrame (.throwing q) := by
      refine e3.trans ?_
      rw [hf₂, State.calling_eq h.top, State.setFrames_setFrames, State.pushFrame, State.frames_setTop _ hr', State.setTop_of_frames _ hr', State.setFrames_setFrames, hr]
      rfl
    have hsame : U.sameButNew ({ U with heap := s₂.heap, slotsUsed := s₂.slotsUsed } : State) L mc ms := by
      refine ⟨?_, q2, q3, q4, q5, q6⟩
      obtain ⟨t, ht, -⟩ := State.frames_cons hr
      show ({ U with heap := s₂.heap, slotsUsed := s₂.slotsUsed } : State) = { U.setFrames U.frames with heap := s₂.heap, slotsUsed := s₂.slotsUsed }
      rw [State.setFrames_self ht]
    subst hg
    refine Or.inr ⟨q, ⟨(({ U with heap := s₂.heap, slotsUsed := s₂.slotsUsed } : State).setVm s₂.vm), Ls ++ L, c0 + mc, s0 + ms⟩,
      ⟨X.admits, X.cas, X.clock, X.frames, X.room, X.hears, X.method, X.code, (X.here.setHeapUsed s₂.heap s₂.slotsUsed).setVm hW'.alike, X.tail, State.WarmedH.trans X.warmed hW', X.limits, X.bytes, X.same.trans (hsame.setVm s.vm)⟩,
      ⟨g, mk, s₂, L, E, ce, rfl, rfl, hx, hce, hcv, hcl, rfl, hL, rfl, rfl⟩, ?_⟩
    show Steps p.tables e below _ (((({ U with heap := s₂.heap, slotsUsed := s₂.slotsUsed } : State).setVm s₂.vm).setTop g).pushFrame (.throwing q))
    rw [← hs₂]
    exact hsteps
end Payer
section Calls
variable {p : Program} {l : Launch} {e : Env} {R : Room} {s : State} {m : MethodId} {args : Array Value} {below : List Frame} {meth : Method} {c : Code} {T : State} {locs : List Loc} {cells slots : Nat}
theorem vx_callV (X : Stand p l e R s m args below meth c T locs cells slots) (hexec : p.tables.exec = Jvm.exec) {own C : String} {index : Nat} {y : MethodName} {bytes : ByteArray} {maxL : Nat} {ret : Option FieldType}
    (hown : s.vm.findClass own = some m.cls) (hlink : (Cond.methodLink own index y).before args s = true) (hinst : (Cond.instanceMethod y).before args s = true) (hsel : (Cond.selects C y y).before args s = true)
    (hcode : (Cond.code y bytes maxL ret).before args s = true) (hy : y.cls ≠ "java/lang/invoke/MethodHandle" ∧ y.cls ≠ "java/lang/invoke/VarHandle")
    {W9 : Nat} {Pre : Pt → Array Value → Prop} {Post : Pt → Array Value → Option Value → Pt → Prop} {PostX : Pt → Array Value → Addr → Pt → Prop} (hK : vx_Back l R p e below s args y 3 W9 Pre Post PostX)
    {b : Addr} {cellB : Cell} (hcell : T.heap[b]? = some cellB) (hobj : cellB.vm.isStatics = false) (hcls : s.vm.findClass C = some cellB.cls)
    {g : JFrame} (hg : g.method = m) (hsize : g.locals.size = c.maxLocals) {argsL rest : List Value} (hlen : ∀ sig, parseMethodDescriptor y.desc = some sig → argsL.length = sig.parameters.length)
    (hstack : g.stack = argsL.reverse ++ .ref b :: rest) (hW : 2 * g.monitorRoom + (rest.map fun v => v.category).sum ≤ W9) (hdg : decode c.code g.pc = .ok (.invokevirtual index, 3))
    (hpre : ∀ vm₁, s.WarmedH vm₁ → Pre ⟨T.setVm vm₁, locs, cells, slots⟩ (Value.ref b :: argsL).toArray) :
    (∃ (v : Option Value) (vm₁ : Vm) (B : Pt), s.WarmedH vm₁ ∧ Stand p l e R s m args below meth c B.U B.locs B.cells B.slots ∧ Post ⟨T.setVm vm₁, locs, cells, slots⟩ (Value.ref b :: argsL).toArray v B ∧
      ∀ target, Steps p.tables e below (B.U.setTop { g with pc := g.pc + 3, stack := v.toList ++ rest }) target → Steps p.tables e below (T.setTop g) target) ∨
    (∃ (q : Addr) (vm₁ : Vm) (B : Pt), s.WarmedH vm₁ ∧ Stand p l e R s m args below meth c B.U B.locs B.cells B.slots ∧ PostX ⟨T.setVm vm₁, locs, cells, slots⟩ (Value.ref b :: argsL).toArray q B ∧
      Steps p.tables e below (T.setTop g) ((B.U.setTop { g with stack := rest }).pushFrame (.throwing q))) := by
  obtain ⟨mk, methM, hnamed, hmethM, hstM, habM⟩ := Cond.instanceMethod_spec hinst
  obtain ⟨methM', cM, hmethM', -, -, -, -, -, -, hsigM⟩ := Cond.code_spec hnamed hcode
  cases hmethM.symm.trans hmethM'
  obtain ⟨c2, r2, m2, q1, q2, q3, q4, kP, hkP, hkPi⟩ := Cond.selects_spec hsel
  cases hcls.symm.trans q1
  cases (State.methodFound?_of_named hnamed hy).symm.trans q2
  cases hnamed.symm.trans q3
  have hselP : selectMethod e.platform s.vm cellB.cls mk = .method mk := by rw [Launch.admits_selectMethod X.admits]; exact q4
  obtain ⟨vm₁, X₁, hstep₁⟩ := X.invokevirtual hexec hown hlink hnamed hmethM hstM hkP hkPi hy (a := b) (cell := cellB) hcell
    (fun z h => by rw [h] at hobj; cases hobj) hselP hmethM habM hkP hkPi (g := g) hg (argsL := argsL) (rest := rest) (hlen _ hsigM) hstack hdg
  rcases hK m meth c ⟨T.setVm vm₁, locs, cells, slots⟩ { g with stack := rest } (.invokevirtual index) mk (Value.ref b :: argsL).toArray X₁ hg hsize hdg hW (X₁.named hnamed) (hpre vm₁ X₁.warmed) with ⟨v, B, X', hpost, hsteps⟩ | ⟨q, B, X', hpost, hsteps⟩
  · exact Or.inl ⟨v, vm₁, B, X₁.warmed, X', hpost, fun target h => hstep₁ _ fun acts => by rw [doInvoke_state]; exact hsteps.trans h⟩
  · exact Or.inr ⟨q, vm₁, B, X₁.warmed, X', hpost, hstep₁ _ fun acts => by rw [doInvoke_state]; exact hsteps⟩
theorem vx_callS (X : Stand p l e R s m args below meth c T locs cells slots) (hexec : p.tables.exec = Jvm.exec) {own : String} {index : Nat} {y : MethodName} {bytes : ByteArray} {maxL : Nat} {ret : Option FieldType}
    (hown : s.vm.findClass own = some m.cls) (hlink : (Cond.methodLink own index y).before args s = true) (hstat : (Cond.static y).before args s = true) (hinit : (Cond.initialized y.cls).before args s = true)
    (hcode : (Cond.code y bytes maxL ret).before args s = true) (hy : y.cls ≠ "java/lang/invoke/MethodHandle" ∧ y.cls ≠ "java/lang/invoke/VarHandle")
    {W9 : Nat} {Pre : Pt → Array Value → Prop} {Post : Pt → Array Value → Option Value → Pt → Prop} {PostX : Pt → Array Value → Addr → Pt → Prop} (hK : vx_Back l R p e below s args y 3 W9 Pre Post PostX)
    {g : JFrame} (hg : g.method = m) (hsize : g.locals.size = c.maxLocals) {argsL rest : List Value} (hlen : ∀ sig, parseMethodDescriptor y.desc = some sig → argsL.length = sig.parameters.length)
    (hstack : g.stack = argsL.reverse ++ rest) (hW : 2 * g.monitorRoom + (rest.map fun v => v.category).sum ≤ W9) (hdg : decode c.code g.pc = .ok (.invokestatic index, 3))
    (hpre : ∀ vm₁, s.WarmedH vm₁ → Pre ⟨T.setVm vm₁, locs, cells, slots⟩ argsL.toArray) :
    (∃ (v : Option Value) (vm₁ : Vm) (B : Pt), s.WarmedH vm₁ ∧ Stand p l e R s m args below meth c B.U B.locs B.cells B.slots ∧ Post ⟨T.setVm vm₁, locs, cells, slots⟩ argsL.toArray v B ∧
      ∀ target, Steps p.tables e below (B.U.setTop { g with pc := g.pc + 3, stack := v.toList ++ rest }) target → Steps p.tables e below (T.setTop g) target) ∨
    (∃ (q : Addr) (vm₁ : Vm) (B : Pt), s.WarmedH vm₁ ∧ Stand p l e R s m args below meth c B.U B.locs B.cells B.slots ∧ PostX ⟨T.setVm vm₁, locs, cells, slots⟩ argsL.toArray q B ∧
      Steps p.tables e below (T.setTop g) ((B.U.setTop { g with stack := rest }).pushFrame (.throwing q))) := by
  obtain ⟨mk, hnamed⟩ := Cond.code_named hcode
  obtain ⟨methM, cM, hmethM, -, -, -, -, -, -, hsigM⟩ := Cond.code_spec hnamed hcode
  have hstatic : methM.isStatic = true := Cond.static_spec hnamed hmethM hstat
  obtain ⟨kP, hkP, -⟩ := className_of_methodNamed hnamed
  have hinitP : kP.init = .initialized := Cond.initialized_spec (findClass_of_methodNamed hnamed) hkP hinit
  obtain ⟨vm₁, X₁, hstep₁⟩ := X.invokestatic hexec hown hlink hnamed hmethM hstatic hkP hinitP hy (g := g) hg (argsL := argsL) (rest := rest) (hlen _ hsigM) hstack hdg
  rcases hK m meth c ⟨T.setVm vm₁, locs, cells, slots⟩ { g with stack := rest } (.invokestatic index) mk argsL.toArray X₁ hg hsize hdg hW (X₁.named hnamed) (hpre vm₁ X₁.warmed) with ⟨v, B, X', hpost, hsteps⟩ | ⟨q, B, X', hpost, hsteps⟩
  · exact Or.inl ⟨v, vm₁, B, X₁.warmed, X', hpost, fun target h => hstep₁ _ fun acts => by rw [doInvoke_state]; exact hsteps.trans h⟩
  · exact Or.inr ⟨q, vm₁, B, X₁.warmed, X', hpost, hstep₁ _ fun acts => by rw [doInvoke_state]; exact hsteps⟩
end Calls
theorem vx_cls {s : State} {T : State} {vm₁ : Vm} {E : String} {k : ClassId} (hW : s.WarmedH vm₁) (h : (T.setVm vm₁).vm.findClass E = some k) : s.vm.findClass E = some k := by
  have h1 : vm₁.findClass E = some k := h
  rw [hW.alike.findClass] at h1
  exact h1
/-- the method's frame g, with q thrown over it -/
def vx_W (p : Program) (l : Launch) (e : Env) (R : Room) (s : State) (m : MethodId) (args : Array Value) (below : List Frame) (meth : Method) (c : Code) (H : Heap) (locs : List Loc) (cells slots : Nat) (Q : State → Prop) (g : JFrame) (q : Addr) : Prop :=
  ∀ T : State, T.heap = H → Stand p l e R s m args below meth c T locs cells slots → ∃ t, Steps p.tables e below ((T.setTop g).pushFrame (.throwing q)) t ∧ Q t
def vx_Run (p : Program) (l : Launch) (e : Env) (R : Room) (s : State) (m : MethodId) (args : Array Value) (below : List Frame) (meth : Method) (c : Code) (H : Heap) (locs : List Loc) (cells slots mc ms : Nat) (g : JFrame) (rest : List Value) (Qa : State → Outcome → State → Prop) (XC : String → State → State → Prop) (free : Addr → Prop) : Prop :=
  ∀ T : State, T.heap = H → Stand p l e R s m args below meth c T locs cells slots →
    (∃ (v : Option Value) (st₀ t T' : State) (L : List Loc), st₀.heap = H ∧ Stand p l e R s m args below meth c T' (locs ++ L) (cells + mc) (slots + ms) ∧ (∀ q ∈ L, free q.base) ∧ T'.heap = t.heap ∧ T'.vm = t.vm ∧ Qa st₀ (.returned v) t ∧
      Goes p e below T g T' { g with pc := g.pc + 3, stack := v.toList ++ rest }) ∨
    (∃ (q : Addr) (st₀ t T' : State) (L : List Loc) (E : String) (ce : Cell), st₀.heap = H ∧ Stand p l e R s m args below meth c T' (locs ++ L) (cells + mc) (slots + ms) ∧ (∀ z ∈ L, free z.base) ∧ T'.heap = t.heap ∧ T'.vm = t.vm ∧ XC E st₀ t ∧ t.heap[q]? = some ce ∧ ce.vm = .none ∧ s.vm.findClass E = some ce.cls ∧
      Steps p.tables e below (T.setTop g) ((T'.setTop { g with stack := rest }).pushFrame (.throwing q)))
def vx_X {S : Type} (px : S → Prop) (B : String → S → State → Prop) (A : Nat → Prop) : String → State → State → Prop := fun E st t => ∃ u : S, px u ∧ B E u t ∧ va_F A st t
section Runs
variable {p : Program} {l : Launch} {e : Env} {R : Room} {s : State} {m : MethodId} {args : Array Value} {below : List Frame} {meth : Method} {c : Code} {H : Heap} {locs : List Loc} {cells slots : Nat}
variable {y : MethodName} {bytes cc : ByteArray} {maxL nL mc ms n index : Nat} {ret : Option FieldType} {ws : List Cond} {rm : Room} {Pc : Array Value → State → Prop} {Qc : Array Value → State → Outcome → State → Prop} {XC : String → State → State → Prop} {free : Addr → Prop} {Ts : List Cond} {own C : String} {b : Addr} {As rest : List Value} {g : JFrame}
theorem vx_callBack (cb : CallB R s args own index y bytes maxL ret ws rm mc ms n) (hM : vx_Met l y ws rm Pc Qc XC mc ms free) (hbl : FrameBlind Pc) : vx_Back l R p e below s args y 3 8 (PreOf R mc ms Pc) (PostOf Qc mc ms free) (vx_Post XC mc ms free) := by
  obtain ⟨hrc, hrs, hfr, hlo, hws, hcw, -, hini, -⟩ := cb
  exact vx_back (bytes := bytes) (maxL := maxL) (ret := ret) hM hbl hrc hrs hfr hlo hws hcw (fun a' U hW => word_at hW (Or.inl (by first | rfl | simp [Cond.onTables, Cond.keeps, Cond.steady])) hini)
theorem vx_runV (S : CallFix p m c cc nL s args Ts own) (hM : vx_Met l y ws rm Pc Qc XC mc ms free) (cw : CallW R s args own C index y bytes maxL ret ws rm mc ms n) (hp : PreV s H C b Pc As)
    (hg : g.method = m) (hn : As.length = n) (hsize : g.locals.size = nL) (hstack : g.stack = As.reverse ++ .ref b :: rest) (hW : 2 * g.monitorRoom + (rest.map fun v => v.category).sum ≤ 8) (hdg : decode cc g.pc = .ok (.invokevirtual index, 3)) (hf : cells + mc ≤ R.cells ∧ slots + ms ≤ R.slots) :
    vx_Run p l e R s m args below meth c H locs cells slots mc ms g rest (Qc (Value.ref b :: As).toArray) XC free := by
  have hK : vx_Back l R p e below s args y 3 8 (PreOf R mc ms Pc) (PostOf Qc mc ms free) (vx_Post XC mc ms free) := vx_callBack cw.1 hM hp.1
  obtain ⟨⟨-, -, -, -, -, -, hcode, -, hy, hlen, hl⟩, hin, hse⟩ := cw
  obtain ⟨hx, hb, hml, ho, -⟩ := S
  obtain ⟨-, ⟨cellB, hcB, hoB, hclB⟩, hPc⟩ := hp
  intro T hT X
  rcases vx_callV X hx (C := C) (bytes := bytes) (maxL := maxL) (ret := ret) ho hl hin hse hcode hy hK (by rw [hT]; exact hcB) hoB hclB hg (hsize.trans hml.symm) (argsL := As) (rest := rest) (fun sig h => hn.trans (hlen sig h)) hstack hW (by rw [hb]; exact hdg)
    (fun vm₁ hW₁ => ⟨hf.1, hf.2, hPc (T.setVm vm₁) hT hW₁⟩) with ⟨v, vm₁, ⟨U', l2, c2, s2⟩, hW₁, X', ⟨g', mk, t, L, e1, e2, hq, h1, hL, h2, h3⟩, st⟩ | ⟨q, vm₁, ⟨U', l2, c2, s2⟩, hW₁, X', ⟨g', mk, t, L, E, ce, e1, e2, hq, hce, hcv, hcl, h1, hL, h2, h3⟩, st⟩
  · dsimp only [Pt.U, Pt.locs, Pt.cells, Pt.slots] at X' e1 e2 h1 h2 h3 st
    subst h1; subst h2; subst h3
    exact Or.inl ⟨v, (T.setVm vm₁).calling g' mk (Value.ref b :: As).toArray, t, U', L, hT, X', hL, e1, e2, hq, st⟩
  · dsimp only [Pt.U, Pt.locs, Pt.cells, Pt.slots] at X' e1 e2 h1 h2 h3 st hcl
    subst h1; subst h2; subst h3
    exact Or.inr ⟨q, (T.setVm vm₁).calling g' mk (Value.ref b :: As).toArray, t, U', L, E, ce, hT, X', hL, e1, e2, hq, hce, hcv, vx_cls hW₁ hcl, st⟩
theorem vx_runS (S : CallFix p m c cc nL s args Ts own) (hM : vx_Met l y ws rm Pc Qc XC mc ms free) (cw : CallB R s args own index y bytes maxL ret ws rm mc ms n ∧ (Cond.static y).before args s = true) (hp : PreS s H Pc As)
    (hg : g.method = m) (hn : As.length = n) (hsize : g.locals.size = nL) (hstack : g.stack = As.reverse ++ rest) (hW : 2 * g.monitorRoom + (rest.map fun v => v.category).sum ≤ 8) (hdg : decode cc g.pc = .ok (.invokestatic index, 3)) (hf : cells + mc ≤ R.cells ∧ slots + ms ≤ R.slots) :
    vx_Run p l e R s m args below meth c H locs cells slots mc ms g rest (Qc As.toArray) XC free := by
  have hK : vx_Back l R p e below s args y 3 8 (PreOf R mc ms Pc) (PostOf Qc mc ms free) (vx_Post XC mc ms free) := vx_callBack cw.1 hM hp.1
  obtain ⟨⟨-, -, -, -, -, -, hcode, hini, hy, hlen, hl⟩, hstt⟩ := cw
  obtain ⟨hx, hb, hml, ho, -⟩ := S
  intro T hT X
  rcases vx_callS X hx (bytes := bytes) (maxL := maxL) (ret := ret) ho hl hstt hini hcode hy hK hg (hsize.trans hml.symm) (argsL := As) (rest := rest) (fun sig h => hn.trans (hlen sig h)) hstack hW (by rw [hb]; exact hdg)
    (fun vm₁ hW₁ => ⟨hf.1, hf.2, hp.2 (T.setVm vm₁) hT hW₁⟩) with ⟨v, vm₁, ⟨U', l2, c2, s2⟩, hW₁, X', ⟨g', mk, t, L, e1, e2, hq, h1, hL, h2, h3⟩, st⟩ | ⟨q, vm₁, ⟨U', l2, c2, s2⟩, hW₁, X', ⟨g', mk, t, L, E, ce, e1, e2, hq, hce, hcv, hcl, h1, hL, h2, h3⟩, st⟩
  · dsimp only [Pt.U, Pt.locs, Pt.cells, Pt.slots] at X' e1 e2 h1 h2 h3 st
    subst h1; subst h2; subst h3
    exact Or.inl ⟨v, (T.setVm vm₁).calling g' mk As.toArray, t, U', L, hT, X', hL, e1, e2, hq, st⟩
  · dsimp only [Pt.U, Pt.locs, Pt.cells, Pt.slots] at X' e1 e2 h1 h2 h3 st hcl
    subst h1; subst h2; subst h3
    exact Or.inr ⟨q, (T.setVm vm₁).calling g' mk As.toArray, t, U', L, E, ce, hT, X', hL, e1, e2, hq, hce, hcv, vx_cls hW₁ hcl, st⟩
end Runs
section Rows
variable {p : Program} {l : Launch} {e : Env} {R : Room} {s : State} {m : MethodId} {args : Array Value} {below : List Frame} {meth : Method} {c : Code} {H : Heap} {locs : List Loc} {cells slots : Nat} {Q : State → Prop}
variable {mc ms : Nat} {free : Addr → Prop} {A0 A1 : Nat → Prop} {H0 : Heap} {a : Array Value} {pc : Nat} {ls : Array Slot} {st0 rest : List Value}
theorem vx_keep {st₀ t T' : State} {L : List Loc} (h0 : st₀.heap = H) (e1 : T'.heap = t.heap) (hS : va_S A0 H0 H locs) (hA : ∀ q, q < H.size → A1 q → A0 q) (hf : ∀ q, free q → A0 q) (hL : ∀ q ∈ L, free q.base) (hF : va_F A1 st₀ t) :
    H.size ≤ T'.heap.size ∧ (∀ q : Nat, q < H.size → ¬ A1 q → T'.heap[q]? = H[q]?) ∧ va_S A0 H0 T'.heap (locs ++ L) := by
  obtain ⟨hz, hk⟩ := hF
  rw [h0] at hz hk
  exact ⟨by rw [e1]; exact hz, fun q h1 h2 => by rw [e1]; exact hk q h1 h2,
    ⟨Nat.le_trans hS.1 (by rw [e1]; exact hz), fun q h1 h2 => by rw [e1, hk q (Nat.lt_of_lt_of_le h1 hS.1) (fun z => h2 (hA q (Nat.lt_of_lt_of_le h1 hS.1) z))]; exact hS.2.1 q h1 h2, fun q hq => by
      rcases List.mem_append.mp hq with h | h
      · exact hS.2.2 q h
      · exact hf _ (hL q h)⟩⟩
theorem vx_calli {S SX : Type} {post : Int32 → S → Prop} {px : SX → Prop} {B : S → State → Prop} {BX : String → SX → State → Prop} {AX : Nat → Prop} (hr : vx_Run p l e R s m args below meth c H locs cells slots mc ms (F0 m pc ls st0) rest (va_Qi post B A1 a) (vx_X px BX AX) free) (hS : va_S A0 H0 H locs) (hA : ∀ q, q < H.size → A1 q → A0 q) (hf : ∀ q, free q → A0 q) (hAX : ∀ q, q < H.size → AX q → A0 q)
    (kx : ∀ (E : String) (ce : Cell) (q9 : Addr) (u : SX) (t : State) (H1 : Heap) (locs1 : List Loc), t.heap = H1 → s.vm.Alike t.vm → px u → BX E u t → H.size ≤ H1.size → (∀ q : Nat, q < H.size → ¬ AX q → H1[q]? = H[q]?) → va_S A0 H0 H1 locs1 → H1[q9]? = some ce → ce.vm = .none → s.vm.findClass E = some ce.cls → vx_W p l e R s m args below meth c H1 locs1 (cells + mc) (slots + ms) Q (F0 m pc ls rest) q9)
    (kk : ∀ (r : Int32) (u : S) (t : State) (H1 : Heap) (locs1 : List Loc), t.heap = H1 → s.vm.Alike t.vm → post r u → B u t → H.size ≤ H1.size → (∀ q : Nat, q < H.size → ¬ A1 q → H1[q]? = H[q]?) → va_S A0 H0 H1 locs1 → W p l e R s m args below meth c H1 locs1 (cells + mc) (slots + ms) Q (F0 m (pc + 3) ls (.int r :: rest))) : W p l e R s m args below meth c H locs cells slots Q (F0 m pc ls st0) := by
  intro T hT X
  rcases hr T hT X with ⟨v, st₀, t, T', L, h0, X', hL, e1, e2, ⟨⟨r, u, hv, hp, hb⟩, hF⟩, st⟩ | ⟨q, st₀, t, T', L, E, ce, h0, X', hL, e1, e2, ⟨u, hp, hb, hF⟩, hce, hcv, hcl, st⟩
  · cases hv
    obtain ⟨k1, k2, k3⟩ := vx_keep h0 e1 hS hA hf hL hF
    obtain ⟨t2, a1, b1⟩ := kk r u t T'.heap (locs ++ L) e1.symm (by rw [← e2]; exact X'.warmed.alike) hp hb k1 k2 k3 T' rfl X'
    exact ⟨t2, st t2 a1, b1⟩
  · obtain ⟨k1, k2, k3⟩ := vx_keep h0 e1 hS hAX hf hL hF
    obtain ⟨t2, a1, b1⟩ := kx E ce q u t T'.heap (locs ++ L) e1.symm (by rw [← e2]; exact X'.warmed.alike) hp hb k1 k2 k3 (by rw [e1]; exact hce) hcv hcl T' rfl X'
    exact ⟨t2, st.trans a1, b1⟩
theorem vx_calll {S SX : Type} {post : Int64 → S → Prop} {px : SX → Prop} {B : S → State → Prop} {BX : String → SX → State → Prop} {AX : Nat → Prop} (hr : vx_Run p l e R s m args below meth c H locs cells slots mc ms (F0 m pc ls st0) rest (va_Ql post B A1 a) (vx_X px BX AX) free) (hS : va_S A0 H0 H locs) (hA : ∀ q, q < H.size → A1 q → A0 q) (hf : ∀ q, free q → A0 q) (hAX : ∀ q, q < H.size → AX q → A0 q)
    (kx : ∀ (E : String) (ce : Cell) (q9 : Addr) (u : SX) (t : State) (H1 : Heap) (locs1 : List Loc), t.heap = H1 → s.vm.Alike t.vm → px u → BX E u t → H.size ≤ H1.size → (∀ q : Nat, q < H.size → ¬ AX q → H1[q]? = H[q]?) → va_S A0 H0 H1 locs1 → H1[q9]? = some ce → ce.vm = .none → s.vm.findClass E = some ce.cls → vx_W p l e R s m args below meth c H1 locs1 (cells + mc) (slots + ms) Q (F0 m pc ls rest) q9)
    (kk : ∀ (r : Int64) (u : S) (t : State) (H1 : Heap) (locs1 : List Loc), t.heap = H1 → s.vm.Alike t.vm → post r u → B u t → H.size ≤ H1.size → (∀ q : Nat, q < H.size → ¬ A1 q → H1[q]? = H[q]?) → va_S A0 H0 H1 locs1 → W p l e R s m args below meth c H1 locs1 (cells + mc) (slots + ms) Q (F0 m (pc + 3) ls (.long r :: rest))) : W p l e R s m args below meth c H locs cells slots Q (F0 m pc ls st0) := by
  intro T hT X
  rcases hr T hT X with ⟨v, st₀, t, T', L, h0, X', hL, e1, e2, ⟨⟨r, u, hv, hp, hb⟩, hF⟩, st⟩ | ⟨q, st₀, t, T', L, E, ce, h0, X', hL, e1, e2, ⟨u, hp, hb, hF⟩, hce, hcv, hcl, st⟩
  · cases hv
    obtain ⟨k1, k2, k3⟩ := vx_keep h0 e1 hS hA hf hL hF
    obtain ⟨t2, a1, b1⟩ := kk r u t T'.heap (locs ++ L) e1.symm (by rw [← e2]; exact X'.warmed.alike) hp hb k1 k2 k3 T' rfl X'
    exact ⟨t2, st t2 a1, b1⟩
  · obtain ⟨k1, k2, k3⟩ := vx_keep h0 e1 hS hAX hf hL hF
    obtain ⟨t2, a1, b1⟩ := kx E ce q u t T'.heap (locs ++ L) e1.symm (by rw [← e2]; exact X'.warmed.alike) hp hb k1 k2 k3 (by rw [e1]; exact hce) hcv hcl T' rfl X'
    exact ⟨t2, st.trans a1, b1⟩
theorem vx_callf {S SX : Type} {post : UInt32 → S → Prop} {px : SX → Prop} {B : S → State → Prop} {BX : String → SX → State → Prop} {AX : Nat → Prop} (hr : vx_Run p l e R s m args below meth c H locs cells slots mc ms (F0 m pc ls st0) rest (va_Qf post B A1 a) (vx_X px BX AX) free) (hS : va_S A0 H0 H locs) (hA : ∀ q, q < H.size → A1 q → A0 q) (hf : ∀ q, free q → A0 q) (hAX : ∀ q, q < H.size → AX q → A0 q)
    (kx : ∀ (E : String) (ce : Cell) (q9 : Addr) (u : SX) (t : State) (H1 : Heap) (locs1 : List Loc), t.heap = H1 → s.vm.Alike t.vm → px u → BX E u t → H.size ≤ H1.size → (∀ q : Nat, q < H.size → ¬ AX q → H1[q]? = H[q]?) → va_S A0 H0 H1 locs1 → H1[q9]? = some ce → ce.vm = .none → s.vm.findClass E = some ce.cls → vx_W p l e R s m args below meth c H1 locs1 (cells + mc) (slots + ms) Q (F0 m pc ls rest) q9)
    (kk : ∀ (r : UInt32) (u : S) (t : State) (H1 : Heap) (locs1 : List Loc), t.heap = H1 → s.vm.Alike t.vm → post r u → B u t → H.size ≤ H1.size → (∀ q : Nat, q < H.size → ¬ A1 q → H1[q]? = H[q]?) → va_S A0 H0 H1 locs1 → W p l e R s m args below meth c H1 locs1 (cells + mc) (slots + ms) Q (F0 m (pc + 3) ls (.float r :: rest))) : W p l e R s m args below meth c H locs cells slots Q (F0 m pc ls st0) := by
  intro T hT X
  rcases hr T hT X with ⟨v, st₀, t, T', L, h0, X', hL, e1, e2, ⟨⟨r, u, hv, hp, hb⟩, hF⟩, st⟩ | ⟨q, st₀, t, T', L, E, ce, h0, X', hL, e1, e2, ⟨u, hp, hb, hF⟩, hce, hcv, hcl, st⟩
  · cases hv
    obtain ⟨k1, k2, k3⟩ := vx_keep h0 e1 hS hA hf hL hF
    obtain ⟨t2, a1, b1⟩ := kk r u t T'.heap (locs ++ L) e1.symm (by rw [← e2]; exact X'.warmed.alike) hp hb k1 k2 k3 T' rfl X'
    exact ⟨t2, st t2 a1, b1⟩
  · obtain ⟨k1, k2, k3⟩ := vx_keep h0 e1 hS hAX hf hL hF
    obtain ⟨t2, a1, b1⟩ := kx E ce q u t T'.heap (locs ++ L) e1.symm (by rw [← e2]; exact X'.warmed.alike) hp hb k1 k2 k3 (by rw [e1]; exact hce) hcv hcl T' rfl X'
    exact ⟨t2, st.trans a1, b1⟩
theorem vx_calld {S SX : Type} {post : UInt64 → S → Prop} {px : SX → Prop} {B : S → State → Prop} {BX : String → SX → State → Prop} {AX : Nat → Prop} (hr : vx_Run p l e R s m args below meth c H locs cells slots mc ms (F0 m pc ls st0) rest (va_Qd post B A1 a) (vx_X px BX AX) free) (hS : va_S A0 H0 H locs) (hA : ∀ q, q < H.size → A1 q → A0 q) (hf : ∀ q, free q → A0 q) (hAX : ∀ q, q < H.size → AX q → A0 q)
    (kx : ∀ (E : String) (ce : Cell) (q9 : Addr) (u : SX) (t : State) (H1 : Heap) (locs1 : List Loc), t.heap = H1 → s.vm.Alike t.vm → px u → BX E u t → H.size ≤ H1.size → (∀ q : Nat, q < H.size → ¬ AX q → H1[q]? = H[q]?) → va_S A0 H0 H1 locs1 → H1[q9]? = some ce → ce.vm = .none → s.vm.findClass E = some ce.cls → vx_W p l e R s m args below meth c H1 locs1 (cells + mc) (slots + ms) Q (F0 m pc ls rest) q9)
    (kk : ∀ (r : UInt64) (u : S) (t : State) (H1 : Heap) (locs1 : List Loc), t.heap = H1 → s.vm.Alike t.vm → post r u → B u t → H.size ≤ H1.size → (∀ q : Nat, q < H.size → ¬ A1 q → H1[q]? = H[q]?) → va_S A0 H0 H1 locs1 → W p l e R s m args below meth c H1 locs1 (cells + mc) (slots + ms) Q (F0 m (pc + 3) ls (.double r :: rest))) : W p l e R s m args below meth c H locs cells slots Q (F0 m pc ls st0) := by
  intro T hT X
  rcases hr T hT X with ⟨v, st₀, t, T', L, h0, X', hL, e1, e2, ⟨⟨r, u, hv, hp, hb⟩, hF⟩, st⟩ | ⟨q, st₀, t, T', L, E, ce, h0, X', hL, e1, e2, ⟨u, hp, hb, hF⟩, hce, hcv, hcl, st⟩
  · cases hv
    obtain ⟨k1, k2, k3⟩ := vx_keep h0 e1 hS hA hf hL hF
    obtain ⟨t2, a1, b1⟩ := kk r u t T'.heap (locs ++ L) e1.symm (by rw [← e2]; exact X'.warmed.alike) hp hb k1 k2 k3 T' rfl X'
    exact ⟨t2, st t2 a1, b1⟩
  · obtain ⟨k1, k2, k3⟩ := vx_keep h0 e1 hS hAX hf hL hF
    obtain ⟨t2, a1, b1⟩ := kx E ce q u t T'.heap (locs ++ L) e1.symm (by rw [← e2]; exact X'.warmed.alike) hp hb k1 k2 k3 (by rw [e1]; exact hce) hcv hcl T' rfl X'
    exact ⟨t2, st.trans a1, b1⟩
theorem vx_callv {S SX : Type} {post : S → Prop} {px : SX → Prop} {B : S → State → Prop} {BX : String → SX → State → Prop} {AX : Nat → Prop} (hr : vx_Run p l e R s m args below meth c H locs cells slots mc ms (F0 m pc ls st0) rest (va_Qv post B A1 a) (vx_X px BX AX) free) (hS : va_S A0 H0 H locs) (hA : ∀ q, q < H.size → A1 q → A0 q) (hf : ∀ q, free q → A0 q) (hAX : ∀ q, q < H.size → AX q → A0 q)
    (kx : ∀ (E : String) (ce : Cell) (q9 : Addr) (u : SX) (t : State) (H1 : Heap) (locs1 : List Loc), t.heap = H1 → s.vm.Alike t.vm → px u → BX E u t → H.size ≤ H1.size → (∀ q : Nat, q < H.size → ¬ AX q → H1[q]? = H[q]?) → va_S A0 H0 H1 locs1 → H1[q9]? = some ce → ce.vm = .none → s.vm.findClass E = some ce.cls → vx_W p l e R s m args below meth c H1 locs1 (cells + mc) (slots + ms) Q (F0 m pc ls rest) q9)
    (kk : ∀ (u : S) (t : State) (H1 : Heap) (locs1 : List Loc), t.heap = H1 → s.vm.Alike t.vm → post u → B u t → H.size ≤ H1.size → (∀ q : Nat, q < H.size → ¬ A1 q → H1[q]? = H[q]?) → va_S A0 H0 H1 locs1 → W p l e R s m args below meth c H1 locs1 (cells + mc) (slots + ms) Q (F0 m (pc + 3) ls (rest))) : W p l e R s m args below meth c H locs cells slots Q (F0 m pc ls st0) := by
  intro T hT X
  rcases hr T hT X with ⟨v, st₀, t, T', L, h0, X', hL, e1, e2, ⟨⟨u, hv, hp, hb⟩, hF⟩, st⟩ | ⟨q, st₀, t, T', L, E, ce, h0, X', hL, e1, e2, ⟨u, hp, hb, hF⟩, hce, hcv, hcl, st⟩
  · cases hv
    obtain ⟨k1, k2, k3⟩ := vx_keep h0 e1 hS hA hf hL hF
    obtain ⟨t2, a1, b1⟩ := kk u t T'.heap (locs ++ L) e1.symm (by rw [← e2]; exact X'.warmed.alike) hp hb k1 k2 k3 T' rfl X'
    exact ⟨t2, st t2 a1, b1⟩
  · obtain ⟨k1, k2, k3⟩ := vx_keep h0 e1 hS hAX hf hL hF
    obtain ⟨t2, a1, b1⟩ := kx E ce q u t T'.heap (locs ++ L) e1.symm (by rw [← e2]; exact X'.warmed.alike) hp hb k1 k2 k3 (by rw [e1]; exact hce) hcv hcl T' rfl X'
    exact ⟨t2, st.trans a1, b1⟩
/-- caught by the row x of this method's table; the rows ahead don't take it -/
theorem vx_catch {own name : String} {E : String} {ce : Cell} {q : Addr} (hown : s.vm.findClass own = some m.cls) (pre : List ExceptionTableEntry) (x : ExceptionTableEntry) (suf : List ExceptionTableEntry) (hsplit : c.exceptionTable.toList = pre ++ x :: suf)
    (hpass : ∀ z ∈ pre, covers z pc = false ∨ (z.catchType ≠ 0 ∧ ∃ nm : String, (Cond.classLink own z.catchType nm).before args s = true ∧ va_Nc E nm s)) (hx : covers x pc = true) (h0 : x.catchType ≠ 0)
    (hlink : (Cond.classLink own x.catchType name).before args s = true) (hcast : (Cond.castable E name).before args s = true) (hcell : H[q]? = some ce) (hv : ce.vm = .none) (hcl : s.vm.findClass E = some ce.cls)
    (kk : W p l e R s m args below meth c H locs cells slots Q (F0 m x.handlerPc ls [.ref q])) : vx_W p l e R s m args below meth c H locs cells slots Q (F0 m pc ls rest) q := by
  intro T hT X
  have hpl : e.platform.magicAccessors = ({} : Platform).magicAccessors := by rw [X.admits.platform]
  obtain ⟨c3, c4, hc3, hc4, hasg⟩ := Cond.castable_spec hcast
  cases Option.some.inj (hc3.symm.trans hcl)
  obtain ⟨c5, hc5, hcl5⟩ := Cond.classLink_spec hown hlink e.platform hpl
  cases Option.some.inj (hc4.symm.trans hc5)
  obtain ⟨vm', X', st⟩ := X.thenCaughtThrough q (g := F0 m pc ls rest) rfl (Steps.refl _) (by rw [hT]; exact hcell) (by rw [hv]; rfl) (by obtain ⟨k9, h9, -⟩ := Vm.findClass_spec hcl; exact ⟨k9, h9⟩) pre x suf hsplit
    (fun z hz => by
      rcases hpass z hz with h | ⟨hz0, nm, hl1, hn1⟩
      · exact Or.inl h
      · obtain ⟨c6, hc6, hcl6⟩ := Cond.classLink_spec hown hl1 e.platform hpl
        obtain ⟨a8, b8, h1, h2, h3⟩ := hn1
        cases Option.some.inj (h1.symm.trans hcl)
        cases Option.some.inj (h2.symm.trans hc6)
        exact Or.inr ⟨hz0, _, hcl6, h3⟩) hx (Or.inr ⟨h0, c4, hcl5, hasg⟩)
  obtain ⟨t, a1, b1⟩ := kk (T.setVm vm') hT X'
  exact ⟨t, st.trans a1, b1⟩
end Rows
section Ends
variable {p : Program} {l : Launch} {e : Env} {R : Room} {s : State} {m : MethodId} {args : Array Value} {below : List Frame} {meth : Method} {c : Code} {H : Heap} {locs : List Loc} {cells slots : Nat} {Q : State → Prop}
variable {mc ms : Nat} {free : Addr → Prop} {A0 A1 : Nat → Prop} {H0 : Heap} {a : Array Value} {ls : Array Slot} {st0 rest : List Value}
variable {Qc : Array Value → State → Outcome → State → Prop} {XC : String → State → State → Prop}
/-- what a body that may throw owes at its end -/
def vx_MQ (below : List Frame) (Qc : Array Value → State → Outcome → State → Prop) (XC : String → State → State → Prop) (a : Array Value) (s : State) (mc ms : Nat) (free : Addr → Prop) : State → Prop := fun t =>
  ∃ o, t.status = .running ∧ Ended t below o ∧ vx_Q Qc XC mc ms free a s o t
theorem vx_ret {g : JFrame} {mc ms : Nat} (k : W p l e R s m args below meth c H locs cells slots (MQ below Qc args s mc ms free) g) : W p l e R s m args below meth c H locs cells slots (vx_MQ below Qc XC args s mc ms free) g := by
  intro T hT X
  obtain ⟨t, a1, o, b1, b2, b3, b4⟩ := k T hT X
  exact ⟨t, a1, o, b1, b2, Or.inl ⟨b3, b4⟩⟩
/-- not caught here: it goes on to the caller -/
theorem vx_widen {g : JFrame} {q : Addr} {k n : Nat} (h1 : cells ≤ k) (h2 : slots ≤ n) (kk : vx_W p l e R s m args below meth c H locs k n Q g q) : vx_W p l e R s m args below meth c H locs cells slots Q g q := fun T hT X => kk T hT (stand_widen X h1 h2)
theorem vx_out {pc : Nat} {E : String} {ce : Cell} {q : Addr} {mc ms : Nat} (hout : ∀ x ∈ c.exceptionTable.toList, covers x pc = false) (hlocks : meth.locks = false) (hcell : H[q]? = some ce) (hv : ce.vm = .none) (hcl : s.vm.findClass E = some ce.cls)
    (hx : ∀ t : State, t.heap = H → s.vm.Alike t.vm → XC E s t) (hf : ∀ z ∈ locs, free z.base) (hc : cells ≤ mc) (hs : slots ≤ ms) :
    vx_W p l e R s m args below meth c H locs cells slots (vx_MQ below Qc XC args s mc ms free) (F0 m pc ls rest) q := by
  intro T hT X
  obtain ⟨st1, hrun, hend, hW, hsm⟩ := X.leaveThrown q (g := F0 m pc ls rest) rfl rfl rfl hout hlocks
  have hcell9 : (T.setFrames (.throwing q :: below)).heap[q]? = some ce := by
    show T.heap[q]? = some ce
    rw [hT]; exact hcell
  exact ⟨_, st1, .threw q, hrun, hend, Or.inr ⟨q, rfl, E, ce, locs, hx _ hT hW.alike, hcell9, hv, hcl, hW, hsm.mono hc hs, hf⟩⟩
theorem vx_frame {U : State} {k n : Nat} (h : s.sameButNew ({ U with vm := s.vm } : State) locs k n) : s.heap.size ≤ U.heap.size ∧ ∀ q : Nat, q < s.heap.size → (∀ z ∈ locs, z.base ≠ q) → U.heap[q]? = s.heap[q]? := by
  obtain ⟨-, h2, -, -, -, h6⟩ := h
  refine ⟨h2, fun q hq hz => ?_⟩
  obtain ⟨c9, e1, e2, e3, e4⟩ := h6 q _ (Array.getElem?_eq_getElem hq)
  have hs : c9.slots = (s.heap[q]).slots := Array.ext_getElem? fun i => e4 i fun hm => hz _ hm rfl
  have h9 : c9 = s.heap[q] := by
    rw [hs] at e2
    exact e2
  have e5 : U.heap[q]? = some c9 := e1
  rw [e5, h9, Array.getElem?_eq_getElem hq]
/-- the words of a throw but the four that speak of the heap -/
def vx_no (w : Cond) : Bool := decide (w ≠ .isRef (.static Bundle.tN "UNASSIGNED_STACK" Bundle.steD)) && decide (w ≠ .isRef (.static Bundle.tN "SUPPRESSED_SENTINEL" Bundle.listD)) && decide (w ≠ .laysStatic Bundle.tN "UNASSIGNED_STACK" Bundle.steD) && decide (w ≠ .laysStatic Bundle.tN "SUPPRESSED_SENTINEL" Bundle.listD)
def vx_at0 (own : String) (ic : Nat) (X : String) (names : List String) : List Cond := (Bundle.ownAtoms0 own ic X names).filter vx_no
def vx_atS (own : String) (ic : Nat) (X : String) (names : List String) : List Cond := (Bundle.ownAtoms own ic X names).filter vx_no
/-- a word that the tables alone decide, or a good one -/
def vx_ot (w : Cond) : Bool := w.onTables || goodWord w
theorem vx_ot_at {args a' : Array Value} {s U : State} {w : Cond} (hW : s.WarmedH U.vm) (hvm : s.vm = U.vm) (hg : vx_ot w = true) (h : w.before args s = true) : w.before a' U = true := by
  simp only [vx_ot, Bool.or_eq_true] at hg
  rcases hg with hg | hg
  · exact va_tabs hg hvm h
  · exact word_at hW (good_of_word hg) h
/-- a list's words: the good ones out of the method's own list, the others by premises of their own -/
theorem vx_hat {args : Array Value} {s : State} {L B : List Cond} (h1 : ∀ w ∈ L.filter goodWord, w.before args s = true) (h2 : ∀ w ∈ L.filter (fun w => !goodWord w), w ∈ B) (h3 : ∀ w ∈ B, w.before args s = true) : ∀ w ∈ L, w.before args s = true := by
  intro w hw
  by_cases g : goodWord w = true
  · exact h1 w (List.mem_filter.mpr ⟨hw, g⟩)
  · refine h3 w (h2 w (List.mem_filter.mpr ⟨hw, ?_⟩))
    show (!goodWord w) = true
    cases hgw : goodWord w
    · rfl
    · exact absurd hgw g
theorem vx_c {args : Array Value} {s : State} {w : Cond} {B : List Cond} (h : w.before args s = true) (t : ∀ w ∈ B, w.before args s = true) : ∀ w' ∈ w :: B, w'.before args s = true := fun w' h' => (List.mem_cons.mp h').elim (fun e => by rw [e]; exact h) (t w')
theorem vx_n {args : Array Value} {s : State} : ∀ w ∈ ([] : List Cond), w.before args s = true := fun _ h => nomatch h
theorem vx_own {args : Array Value} {s : State} {L : List Cond} (h1 : ∀ w ∈ L.filter vx_no, w.before args s = true)
    (hU : (Cond.isRef (.static Bundle.tN "UNASSIGNED_STACK" Bundle.steD)).before args s = true) (hN : (Cond.isRef (.static Bundle.tN "SUPPRESSED_SENTINEL" Bundle.listD)).before args s = true)
    (lU : (Cond.laysStatic Bundle.tN "UNASSIGNED_STACK" Bundle.steD).before args s = true) (lN : (Cond.laysStatic Bundle.tN "SUPPRESSED_SENTINEL" Bundle.listD).before args s = true) : ∀ w ∈ L, w.before args s = true := by
  intro w hw
  by_cases e1 : w = .isRef (.static Bundle.tN "UNASSIGNED_STACK" Bundle.steD)
  · rw [e1]; exact hU
  · by_cases e2 : w = .isRef (.static Bundle.tN "SUPPRESSED_SENTINEL" Bundle.listD)
    · rw [e2]; exact hN
    · by_cases e3 : w = .laysStatic Bundle.tN "UNASSIGNED_STACK" Bundle.steD
      · rw [e3]; exact lU
      · by_cases e4 : w = .laysStatic Bundle.tN "SUPPRESSED_SENTINEL" Bundle.listD
        · rw [e4]; exact lN
        · exact h1 w (List.mem_filter.mpr ⟨hw, by unfold vx_no; rw [decide_eq_true e1, decide_eq_true e2, decide_eq_true e3, decide_eq_true e4]; rfl⟩)
/-- where a static field lies, its class's statics cell in H -/
def vx_L (C n d : String) (A : Nat → Prop) (U : State) (H : Heap) : Prop := ∃ (c : ClassId) (k : Class) (i : Nat) (f : Field) (a : Nat) (cell : Cell), U.vm.findClass C = some c ∧ U.fieldFound? C n d = some (c, k, i, f) ∧ f.isStatic = true ∧ k.statics = some a ∧ H[a]? = some cell ∧ cell.vm.isStatics = true ∧ cell.cls = c ∧ f.slot < cell.slots.size ∧ k.staticTypes[f.slot]? = some f.type ∧ ¬ A a
theorem vx_L.moved {C n d : String} {A : Nat → Prop} {u U : State} {H : Heap} (hvm : u.vm.Alike U.vm) (h : vx_L C n d A u H) : vx_L C n d A U H := by
  obtain ⟨c, k, i, f, a, cell, h1, h2, h3, h4, h5, h6, h7, h8, h9, h10⟩ := h
  obtain ⟨k', hi', he⟩ := State.fieldFound?_setVm hvm h2
  exact ⟨c, k', i, f, a, cell, by rw [hvm.findClass]; exact h1, hi', h3, by rw [he]; exact h4, h5, h6, h7, h8, by rw [he]; exact h9, h10⟩
theorem vx_L.kept {C n d : String} {A : Nat → Prop} {U : State} {H H1 : Heap} (h : vx_L C n d A U H) (hq : ∀ a : Nat, a < H.size → ¬ A a → H1[a]? = H[a]?) : vx_L C n d A U H1 := by
  obtain ⟨c, k, i, f, a, cell, h1, h2, h3, h4, h5, h6, h7, h8, h9, h10⟩ := h
  exact ⟨c, k, i, f, a, cell, h1, h2, h3, h4, by rw [hq a (Array.getElem?_eq_some_iff.mp h5).1 h10]; exact h5, h6, h7, h8, h9, h10⟩
theorem vx_L.narrow {C n d : String} {A B : Nat → Prop} {U : State} {H : Heap} (h : vx_L C n d A U H) (hAB : ∀ q, B q → A q) : vx_L C n d B U H := by
  obtain ⟨c, k, i, f, a, cell, h1, h2, h3, h4, h5, h6, h7, h8, h9, h10⟩ := h
  exact ⟨c, k, i, f, a, cell, h1, h2, h3, h4, h5, h6, h7, h8, h9, fun z => h10 (hAB _ z)⟩
theorem vx_L.word {C n d : String} {A : Nat → Prop} {s : State} {args : Array Value} (h : vx_L C n d A s s.heap) : (Cond.laysStatic C n d).before args s = true := by
  obtain ⟨c, k, i, f, a, cell, h1, h2, h3, h4, h5, h6, h7, h8, h9, -⟩ := h
  show (Cond.laysStatic C n d).holds args s none s [] = true
  exact Cond.laysStatic_of h1 h2 h3 h4 h5 h6 h7 h8 h9
/-- .. and what it holds: null or some reference -/
def vx_Zq (C n d : String) (A : Nat → Prop) (U : State) (H : Heap) : Prop := va_Zq C n d A U H ∧ vx_L C n d A U H
theorem vx_Zq.moved {C n d : String} {A : Nat → Prop} {u U : State} {H : Heap} (hvm : u.vm.Alike U.vm) (h : vx_Zq C n d A u H) : vx_Zq C n d A U H := ⟨va_Zq.moved hvm h.1, vx_L.moved hvm h.2⟩
theorem vx_Zq.kept {C n d : String} {A : Nat → Prop} {U : State} {H H1 : Heap} (h : vx_Zq C n d A U H) (hq : ∀ a : Nat, a < H.size → ¬ A a → H1[a]? = H[a]?) : vx_Zq C n d A U H1 := ⟨va_Zq.kept h.1 hq, vx_L.kept h.2 hq⟩
theorem vx_Zq.narrow {C n d : String} {A B : Nat → Prop} {U : State} {H : Heap} (h : vx_Zq C n d A U H) (hAB : ∀ q, B q → A q) : vx_Zq C n d B U H := ⟨va_Zq.narrow h.1 hAB, vx_L.narrow h.2 hAB⟩
theorem vx_Zqof {args : Array Value} {s : State} {C n d : String} {A : Nat → Prop} (hl : (Cond.laysStatic C n d).before args s = true) (hini : (Cond.initialized C).before args s = true) (h : (Cond.isRef (.static C n d)).before args s = true) (hA : ∀ a : Nat, a < s.heap.size → ¬ A a) : vx_Zq C n d A s s.heap := by
  refine ⟨va_Zqof hl hini h hA, ?_⟩
  obtain ⟨c, k, i, f, a, cell, h1, h2, h3, h4, h5, h6, h7, h8, h9⟩ := Cond.laysStatic_spec hl
  exact ⟨c, k, i, f, a, cell, h1, h2, h3, h4, h5, h6, h7, h8, h9, hA a (Array.getElem?_eq_some_iff.mp h5).1⟩
theorem vx_isRef {C n d : String} {v : Value} {A : Nat → Prop} {s : State} {args : Array Value} (h : va_Z C n d v A s s.heap) (hv : v.isRef = true) : (Cond.isRef (.static C n d)).before args s = true := by
  obtain ⟨cf, kf, fi, f, a, cell, h1, h2, h3, h4, h5, h6, h7, -⟩ := h
  have he : (Term.static C n d).eval args s none [] s = some v := by
    simp [Term.eval, State.fieldNamed?, h1, h2, h4, h5, h6, h7]
  simp only [Cond.before, Cond.holds, Cond.value, he]
  cases v <;> simp_all [Value.isRef]
theorem vx_isRefq {C n d : String} {A : Nat → Prop} {s : State} {args : Array Value} (h : va_Zq C n d A s s.heap) : (Cond.isRef (.static C n d)).before args s = true := by
  rcases h with h | ⟨t, h⟩
  · exact vx_isRef h rfl
  · exact vx_isRef h rfl
/-- the same frame, seen from here: as if the method were called anew in this heap -/
theorem vx_rebase {T : State} (X : Stand p l e R s m args below meth c T locs cells slots) {R' : Room} (hf : R'.frames ≤ R.frames) (hl : R'.locals ≤ R.locals) (hc : cells + R'.cells ≤ R.cells) (hs : slots + R'.slots ≤ R.slots) :
    Stand p l e R' ((T.setVm s.vm).setFrames (.invoking m args :: below)) m args below meth c T [] 0 0 := by
  have htop : (T.setVm s.vm).topJava?.isSome := X.here.top
  have hF : ((T.setVm s.vm).setFrames (.invoking m args :: below)).frames = .invoking m args :: below := State.frames_setFrames _ (State.cur_lt_of_top htop)
  obtain ⟨g₀, hg0⟩ := Option.isSome_iff_exists.mp htop
  obtain ⟨r, hr⟩ := State.topJava?_eq_some.mp hg0
  have hl9 : e.platform.stackLimits (T.setVm s.vm).me = e.platform.stackLimits s.me := X.limits
  have hb9 : (T.setVm s.vm).me.stackBytes = s.me.stackBytes := X.bytes
  refine ⟨X.admits, X.cas, X.clock, hF, ?_, X.hears, X.method, X.code, X.here, X.tail, X.warmed, ?_, ?_, ?_⟩
  · have h := X.room
    have hU : ((T.setVm s.vm).setFrames (.invoking m args :: below)).localsInUse = s.localsInUse := by
      rw [State.localsInUse_invoking hF (meth := meth) (c := c) X.method X.code, State.localsInUse_invoking X.frames X.method X.code]
    simp only [State.hasRoom, Bool.and_eq_true, decide_eq_true_eq] at h ⊢
    obtain ⟨⟨⟨⟨h1, h2, h3, h4, h5, h6⟩, h7⟩, h8⟩, h9⟩ := h
    rw [X.frames, List.length_cons] at h2 h3
    have q1 := X.heapSize
    have q2 := X.used
    simp only [hF, hU, List.length_cons, State.stackLimits_setFrames, State.stackBytes_setFrames, hl9, hb9]
    refine ⟨⟨⟨⟨by omega, by omega, by omega, by omega, by omega, h6⟩, ?_⟩, ?_⟩, X.book⟩
    · show T.heap.size + R'.cells ≤ e.platform.maxCells
      omega
    · show T.slotsUsed + R'.slots ≤ e.platform.maxSlots
      omega
  · rw [State.stackLimits_setFrames]; rfl
  · rw [State.stackBytes_setFrames]; rfl
  · refine ⟨?_, Nat.le_refl _, Nat.le_refl _, ?_, ?_, fun a c9 h9 => ⟨c9, h9, rfl, rfl, fun _ _ => rfl⟩⟩
    · obtain ⟨t, ht, -⟩ := State.frames_cons hr
      show T.setVm s.vm = { ((T.setVm s.vm).setFrames (.invoking m args :: below)).setFrames (T.setVm s.vm).frames with heap := T.heap, slotsUsed := T.slotsUsed }
      rw [State.setFrames_setFrames, State.setFrames_self ht]
      rfl
    · show T.slotsUsed = T.slotsUsed + ((T.heap.toList.drop T.heap.size).map (·.slots.size)).sum
      rw [List.drop_eq_nil_of_le (Nat.le_of_eq Array.length_toList)]
      rfl
    · show ((T.heap.toList.drop T.heap.size).map (·.slots.size)).sum ≤ 0
      rw [List.drop_eq_nil_of_le (Nat.le_of_eq Array.length_toList)]
      exact Nat.le_refl _
/-- 'throw new E()': new; dup; invokespecial; athrow -/
theorem vx_throw0 {cc : ByteArray} {pc : Nat} (hexec : p.tables.exec = Jvm.exec) (hb : c.code = cc) (hl : l.stackTraces = false) {own cls : String} {names : List String} {ik ic mc ms : Nat} {A : Nat → Prop}
    (hown : s.vm.findClass own = some m.cls) (hcls : Bundle.fit cls = true) (hnames : ∀ n ∈ names, Bundle.fit n = true)
    (hk : (Cond.classLink own ik cls).before args s = true) (hini : (Cond.initialized cls).before args s = true) (hat : ∀ w ∈ vx_at0 own ic cls names, w.before args s = true)
    (hgood : ∀ w ∈ Cond.classLink own ik cls :: Cond.initialized cls :: vx_at0 own ic cls names, vx_ot w = true)
    (hU : vx_Zq Bundle.tN "UNASSIGNED_STACK" Bundle.steD A s s.heap) (hN : vx_Zq Bundle.tN "SUPPRESSED_SENTINEL" Bundle.listD A s s.heap) (hS : va_S A s.heap H locs) (hsize : ls.size = c.maxLocals)
    (d0 : decode cc pc = .ok (.new ik, 3)) (d3 : decode cc (pc + 3) = .ok (.dup, 1)) (d4 : decode cc (pc + 4) = .ok (.invokespecial ic, 3)) (d7 : decode cc (pc + 7) = .ok (.athrow, 1))
    (hout : ∀ x ∈ c.exceptionTable.toList, covers x (pc + 7) = false)
    (hRframes : names.length + 3 < R.frames) (hRlocals : (rest.map fun v => v.category).sum + (13 * (names.length + 1) + 42) ≤ R.locals) (hRcells : cells + 1 ≤ R.cells) (hRslots : slots + 6 ≤ R.slots) (hlocks : meth.locks = false)
    (hx : ∀ t : State, s.vm.Alike t.vm → H.size ≤ t.heap.size → (∀ q : Nat, q < H.size → t.heap[q]? = H[q]?) → XC cls s t)
    (hf : ∀ z ∈ locs, free z.base) (hc : cells + 1 ≤ mc) (hs : slots + 6 ≤ ms) :
    W p l e R s m args below meth c H locs cells slots (vx_MQ below Qc XC args s mc ms free) (F0 m pc ls rest) := by
  intro T hT X
  have htr : e.platform.stackTraces = false := (show e.platform.stackTraces = l.stackTraces by rw [X.admits.platform]).trans hl
  have Y := vx_rebase X (R' := { frames := R.frames, locals := R.locals, cells := 1, slots := 6 }) (Nat.le_refl _) (Nat.le_refl _) hRcells hRslots
  obtain ⟨s', hA⟩ : ∃ z, z = (T.setVm s.vm).setFrames (.invoking m args :: below) := ⟨_, rfl⟩
  rw [← hA] at Y
  have hvm : s'.vm = s.vm := by rw [hA]; rfl
  have hhp : s'.heap = H := by rw [hA]; exact hT
  have hW0 : s.WarmedH s'.vm := by rw [hvm]; exact State.WarmedH.refl s
  have hat' : ∀ w ∈ vx_at0 own ic cls names, w.before args s' = true := fun w hw => vx_ot_at hW0 hvm.symm (hgood w (List.mem_cons_of_mem _ (List.mem_cons_of_mem _ hw))) (hat w hw)
  have hk' : (Cond.classLink own ik cls).before args s' = true := vx_ot_at hW0 hvm.symm (hgood _ List.mem_cons_self) hk
  have hini' : (Cond.initialized cls).before args s' = true := vx_ot_at hW0 hvm.symm (hgood _ (List.mem_cons_of_mem _ List.mem_cons_self)) hini
  have hU' : vx_Zq Bundle.tN "UNASSIGNED_STACK" Bundle.steD A s' s'.heap := by rw [hhp]; exact vx_Zq.moved hW0.alike (hU.kept hS.2.1)
  have hN' : vx_Zq Bundle.tN "SUPPRESSED_SENTINEL" Bundle.listD A s' s'.heap := by rw [hhp]; exact vx_Zq.moved hW0.alike (hN.kept hS.2.1)
  have h : ∀ w ∈ Bundle.ownAtoms0 own ic cls names, w.before args s' = true := vx_own hat' (vx_isRefq hU'.1) (vx_isRefq hN'.1) hU'.2.word hN'.2.word
  have hown' : s'.vm.findClass own = some m.cls := by rw [hvm]; exact hown
  have hins : (Cond.instantiable cls 6).before args s' = true := h _ (by simp [Bundle.ownAtoms0])
  obtain ⟨vm₁, cX, kX, hfX, hkX, -, -, X₁, st1⟩ := Y.newCold hexec (own := own) (C := cls) (index := ik) (n := 6) hown' hk' hins hini'
    (g := F0 m pc ls rest) rfl (by rw [hb]; exact d0) (Nat.le_refl _) (Nat.le_refl _)
  generalize hT1 : (T.setVm vm₁).pushCell { cls := cX, slots := kX.instanceTypes.map defaultValue, vm := .none } = T1 at X₁ st1
  have hcat : (Value.ref T.heap.size).category = 1 := rfl
  have hcellA : T1.heap[T.heap.size]? = some (freshCell cX kX) := by rw [← hT1]; exact State.heap_pushCell_size _ _
  have d3' : decode c.code (pc + 3) = .ok (.dup, 1) := by rw [hb]; exact d3
  obtain ⟨U, hsteps, hrun, hend, hW, hsame, ce, hce, hO⟩ := X₁.ctorThrow0 hexec htr (own := own) (cls := cls) (names := names) (ic := ic) hown' hcls hnames h (fun x hx => nomatch hx) hfX hkX hcellA (by rw [hhp, hT]; exact Nat.le_refl _)
    (g := { method := m, pc := pc + 4, locals := ls, stack := .ref T.heap.size :: .ref T.heap.size :: rest, locked := none }) rfl hsize rfl rfl (rest := rest) rfl
    (by rw [hb]; exact d4) (by rw [hb]; exact d7) hout hRframes (by simp only [List.map_cons, List.sum_cons, hcat]; omega) hlocks
  obtain ⟨f1, f2⟩ := vx_frame hsame
  rw [hhp] at f1 f2
  have hWs : s.WarmedH U.vm := State.WarmedH.trans hW0 hW
  have hcl : s.vm.findClass cls = some ce.cls := by
    have h9 := hO.cls
    rw [hvm] at h9
    exact h9
  have hall : s.sameButNew ({ U with vm := s.vm } : State) locs mc ms := by
    subst hA
    obtain ⟨e1, e2⟩ := hsame
    rw [State.setFrames_setFrames] at e1
    have h2 : (T.setVm s.vm).sameButNew ({ U with vm := s.vm } : State) [] (0 + 1) (0 + 6) := ⟨e1, e2⟩
    have h3 := X.same.trans h2
    rw [List.append_nil] at h3
    exact h3.mono hc hs
  refine ⟨U, ?_, .threw T.heap.size, hrun, hend, Or.inr ⟨T.heap.size, rfl, cls, ce, locs, hx U hWs.alike f1 (fun q hq => f2 q hq (fun z hz => nomatch hz)), hce, hO.vm, hcl, hWs, hall, hf⟩⟩
  refine st1 _ ?_
  show Steps p.tables e below (T1.setTop { method := m, pc := pc + 3, locals := ls, stack := .ref T.heap.size :: rest, locked := none }) _
  jvm_step X₁.here [X₁.here.top, hexec, d3', Value.category]
  exact hsteps
/-- 'throw new E("text")': new; dup; ldc; invokespecial; athrow -/
theorem vx_throwS {cc : ByteArray} {pc : Nat} (hexec : p.tables.exec = Jvm.exec) (hb : c.code = cc) (hl : l.stackTraces = false) {own cls text : String} {names : List String} {ik is ic mc ms sa : Nat} {A : Nat → Prop}
    (hown : s.vm.findClass own = some m.cls) (hcls : Bundle.fit cls = true) (hnames : ∀ n ∈ names, Bundle.fit n = true)
    (hk : (Cond.classLink own ik cls).before args s = true) (hini : (Cond.initialized cls).before args s = true) (hstr : vk_R own is text sa s) (hat : ∀ w ∈ vx_atS own ic cls names, w.before args s = true)
    (hgood : ∀ w ∈ Cond.classLink own ik cls :: Cond.initialized cls :: vx_atS own ic cls names, vx_ot w = true)
    (hU : vx_Zq Bundle.tN "UNASSIGNED_STACK" Bundle.steD A s s.heap) (hN : vx_Zq Bundle.tN "SUPPRESSED_SENTINEL" Bundle.listD A s s.heap) (hS : va_S A s.heap H locs) (hsize : ls.size = c.maxLocals)
    (d0 : decode cc pc = .ok (.new ik, 3)) (d3 : decode cc (pc + 3) = .ok (.dup, 1)) (d4 : decode cc (pc + 4) = .ok (.ldc is, 2)) (d6 : decode cc (pc + 6) = .ok (.invokespecial ic, 3)) (d9 : decode cc (pc + 9) = .ok (.athrow, 1))
    (hout : ∀ x ∈ c.exceptionTable.toList, covers x (pc + 9) = false)
    (hRframes : names.length + 3 < R.frames) (hRlocals : (rest.map fun v => v.category).sum + (13 * (names.length + 1) + 43) ≤ R.locals) (hRcells : cells + 1 ≤ R.cells) (hRslots : slots + 6 ≤ R.slots) (hlocks : meth.locks = false)
    (hx : ∀ t : State, s.vm.Alike t.vm → H.size ≤ t.heap.size → (∀ q : Nat, q < H.size → t.heap[q]? = H[q]?) → XC cls s t)
    (hf : ∀ z ∈ locs, free z.base) (hc : cells + 1 ≤ mc) (hs : slots + 6 ≤ ms) :
    W p l e R s m args below meth c H locs cells slots (vx_MQ below Qc XC args s mc ms free) (F0 m pc ls rest) := by
  intro T hT X
  have htr : e.platform.stackTraces = false := (show e.platform.stackTraces = l.stackTraces by rw [X.admits.platform]).trans hl
  have Y := vx_rebase X (R' := { frames := R.frames, locals := R.locals, cells := 1, slots := 6 }) (Nat.le_refl _) (Nat.le_refl _) hRcells hRslots
  obtain ⟨s', hA⟩ : ∃ z, z = (T.setVm s.vm).setFrames (.invoking m args :: below) := ⟨_, rfl⟩
  rw [← hA] at Y
  have hvm : s'.vm = s.vm := by rw [hA]; rfl
  have hhp : s'.heap = H := by rw [hA]; exact hT
  have hW0 : s.WarmedH s'.vm := by rw [hvm]; exact State.WarmedH.refl s
  have hat' : ∀ w ∈ vx_atS own ic cls names, w.before args s' = true := fun w hw => vx_ot_at hW0 hvm.symm (hgood w (List.mem_cons_of_mem _ (List.mem_cons_of_mem _ hw))) (hat w hw)
  have hk' : (Cond.classLink own ik cls).before args s' = true := vx_ot_at hW0 hvm.symm (hgood _ List.mem_cons_self) hk
  have hini' : (Cond.initialized cls).before args s' = true := vx_ot_at hW0 hvm.symm (hgood _ (List.mem_cons_of_mem _ List.mem_cons_self)) hini
  have hU' : vx_Zq Bundle.tN "UNASSIGNED_STACK" Bundle.steD A s' s'.heap := by rw [hhp]; exact vx_Zq.moved hW0.alike (hU.kept hS.2.1)
  have hN' : vx_Zq Bundle.tN "SUPPRESSED_SENTINEL" Bundle.listD A s' s'.heap := by rw [hhp]; exact vx_Zq.moved hW0.alike (hN.kept hS.2.1)
  have h : ∀ w ∈ Bundle.ownAtoms own ic cls names, w.before args s' = true := vx_own hat' (vx_isRefq hU'.1) (vx_isRefq hN'.1) hU'.2.word hN'.2.word
  have hown' : s'.vm.findClass own = some m.cls := by rw [hvm]; exact hown
  have hins : (Cond.instantiable cls 6).before args s' = true := h _ (by simp [Bundle.ownAtoms])
  obtain ⟨vm₁, cX, kX, hfX, hkX, -, -, X₁, st1⟩ := Y.newCold hexec (own := own) (C := cls) (index := ik) (n := 6) hown' hk' hins hini'
    (g := F0 m pc ls rest) rfl (by rw [hb]; exact d0) (Nat.le_refl _) (Nat.le_refl _)
  generalize hT1 : (T.setVm vm₁).pushCell { cls := cX, slots := kX.instanceTypes.map defaultValue, vm := .none } = T1 at X₁ st1
  have hcat : (Value.ref T.heap.size).category = 1 := rfl
  have hcellA : T1.heap[T.heap.size]? = some (freshCell cX kX) := by rw [← hT1]; exact State.heap_pushCell_size _ _
  have d3' : decode c.code (pc + 3) = .ok (.dup, 1) := by rw [hb]; exact d3
  have d4' : decode c.code (pc + 4) = .ok (.ldc is, 2) := by rw [hb]; exact d4
  have hstr' : vk_R own is text sa s' := vk_R.warm hW0 hstr
  obtain ⟨U, hsteps, hrun, hend, hW, hsame, ce, hce, hO⟩ := X₁.ctorThrowS hexec htr (own := own) (cls := cls) (names := names) (ic := ic) hown' hcls hnames h (fun x hx => nomatch hx) hfX hkX hcellA (by rw [hhp, hT]; exact Nat.le_refl _) (msg := .ref sa) rfl
    (g := { method := m, pc := pc + 6, locals := ls, stack := .ref sa :: .ref T.heap.size :: .ref T.heap.size :: rest, locked := none }) rfl hsize rfl rfl (rest := rest) rfl
    (by rw [hb]; exact d6) (by rw [hb]; exact d9) hout hRframes (by simp only [List.map_cons, List.sum_cons, hcat]; omega) hlocks
  obtain ⟨f1, f2⟩ := vx_frame hsame
  rw [hhp] at f1 f2
  have hWs : s.WarmedH U.vm := State.WarmedH.trans hW0 hW
  have hcl : s.vm.findClass cls = some ce.cls := by
    have h9 := hO.cls
    rw [hvm] at h9
    exact h9
  have hall : s.sameButNew ({ U with vm := s.vm } : State) locs mc ms := by
    subst hA
    obtain ⟨e1, e2⟩ := hsame
    rw [State.setFrames_setFrames] at e1
    have h2 : (T.setVm s.vm).sameButNew ({ U with vm := s.vm } : State) [] (0 + 1) (0 + 6) := ⟨e1, e2⟩
    have h3 := X.same.trans h2
    rw [List.append_nil] at h3
    exact h3.mono hc hs
  refine ⟨U, ?_, .threw T.heap.size, hrun, hend, Or.inr ⟨T.heap.size, rfl, cls, ce, locs, hx U hWs.alike f1 (fun q hq => f2 q hq (fun z hz => nomatch hz)), hce, hO.vm, hcl, hWs, hall, hf⟩⟩
  refine st1 _ ?_
  show Steps p.tables e below (T1.setTop { method := m, pc := pc + 3, locals := ls, stack := .ref T.heap.size :: rest, locked := none }) _
  jvm_step X₁.here [X₁.here.top, hexec, d3', Value.category]
  exact X₁.ldcString hexec (own := own) (text := text) (index := is) (a := sa) hown' hstr'.1 hstr'.2
    (g := { method := m, pc := pc + 4, locals := ls, stack := .ref T.heap.size :: .ref T.heap.size :: rest, locked := none }) rfl d4' _ hsteps
/-- 'throw new E("text")', the text by a wide index -/
theorem vx_throwSW {cc : ByteArray} {pc : Nat} (hexec : p.tables.exec = Jvm.exec) (hb : c.code = cc) (hl : l.stackTraces = false) {own cls text : String} {names : List String} {ik is ic mc ms sa : Nat} {A : Nat → Prop}
    (hown : s.vm.findClass own = some m.cls) (hcls : Bundle.fit cls = true) (hnames : ∀ n ∈ names, Bundle.fit n = true)
    (hk : (Cond.classLink own ik cls).before args s = true) (hini : (Cond.initialized cls).before args s = true) (hstr : vk_R own is text sa s) (hat : ∀ w ∈ vx_atS own ic cls names, w.before args s = true)
    (hgood : ∀ w ∈ Cond.classLink own ik cls :: Cond.initialized cls :: vx_atS own ic cls names, vx_ot w = true)
    (hU : vx_Zq Bundle.tN "UNASSIGNED_STACK" Bundle.steD A s s.heap) (hN : vx_Zq Bundle.tN "SUPPRESSED_SENTINEL" Bundle.listD A s s.heap) (hS : va_S A s.heap H locs) (hsize : ls.size = c.maxLocals)
    (d0 : decode cc pc = .ok (.new ik, 3)) (d3 : decode cc (pc + 3) = .ok (.dup, 1)) (d4 : decode cc (pc + 4) = .ok (.ldc_w is, 3)) (d7 : decode cc (pc + 7) = .ok (.invokespecial ic, 3)) (d10 : decode cc (pc + 10) = .ok (.athrow, 1))
    (hout : ∀ x ∈ c.exceptionTable.toList, covers x (pc + 10) = false)
    (hRframes : names.length + 3 < R.frames) (hRlocals : (rest.map fun v => v.category).sum + (13 * (names.length + 1) + 43) ≤ R.locals) (hRcells : cells + 1 ≤ R.cells) (hRslots : slots + 6 ≤ R.slots) (hlocks : meth.locks = false)
    (hx : ∀ t : State, s.vm.Alike t.vm → H.size ≤ t.heap.size → (∀ q : Nat, q < H.size → t.heap[q]? = H[q]?) → XC cls s t)
    (hf : ∀ z ∈ locs, free z.base) (hc : cells + 1 ≤ mc) (hs : slots + 6 ≤ ms) :
    W p l e R s m args below meth c H locs cells slots (vx_MQ below Qc XC args s mc ms free) (F0 m pc ls rest) := by
  intro T hT X
  have htr : e.platform.stackTraces = false := (show e.platform.stackTraces = l.stackTraces by rw [X.admits.platform]).trans hl
  have Y := vx_rebase X (R' := { frames := R.frames, locals := R.locals, cells := 1, slots := 6 }) (Nat.le_refl _) (Nat.le_refl _) hRcells hRslots
  obtain ⟨s', hA⟩ : ∃ z, z = (T.setVm s.vm).setFrames (.invoking m args :: below) := ⟨_, rfl⟩
  rw [← hA] at Y
  have hvm : s'.vm = s.vm := by rw [hA]; rfl
  have hhp : s'.heap = H := by rw [hA]; exact hT
  have hW0 : s.WarmedH s'.vm := by rw [hvm]; exact State.WarmedH.refl s
  have hat' : ∀ w ∈ vx_atS own ic cls names, w.before args s' = true := fun w hw => vx_ot_at hW0 hvm.symm (hgood w (List.mem_cons_of_mem _ (List.mem_cons_of_mem _ hw))) (hat w hw)
  have hk' : (Cond.classLink own ik cls).before args s' = true := vx_ot_at hW0 hvm.symm (hgood _ List.mem_cons_self) hk
  have hini' : (Cond.initialized cls).before args s' = true := vx_ot_at hW0 hvm.symm (hgood _ (List.mem_cons_of_mem _ List.mem_cons_self)) hini
  have hU' : vx_Zq Bundle.tN "UNASSIGNED_STACK" Bundle.steD A s' s'.heap := by rw [hhp]; exact vx_Zq.moved hW0.alike (hU.kept hS.2.1)
  have hN' : vx_Zq Bundle.tN "SUPPRESSED_SENTINEL" Bundle.listD A s' s'.heap := by rw [hhp]; exact vx_Zq.moved hW0.alike (hN.kept hS.2.1)
  have h : ∀ w ∈ Bundle.ownAtoms own ic cls names, w.before args s' = true := vx_own hat' (vx_isRefq hU'.1) (vx_isRefq hN'.1) hU'.2.word hN'.2.word
  have hown' : s'.vm.findClass own = some m.cls := by rw [hvm]; exact hown
  have hins : (Cond.instantiable cls 6).before args s' = true := h _ (by simp [Bundle.ownAtoms])
  obtain ⟨vm₁, cX, kX, hfX, hkX, -, -, X₁, st1⟩ := Y.newCold hexec (own := own) (C := cls) (index := ik) (n := 6) hown' hk' hins hini'
    (g := F0 m pc ls rest) rfl (by rw [hb]; exact d0) (Nat.le_refl _) (Nat.le_refl _)
  generalize hT1 : (T.setVm vm₁).pushCell { cls := cX, slots := kX.instanceTypes.map defaultValue, vm := .none } = T1 at X₁ st1
  have hcat : (Value.ref T.heap.size).category = 1 := rfl
  have hcellA : T1.heap[T.heap.size]? = some (freshCell cX kX) := by rw [← hT1]; exact State.heap_pushCell_size _ _
  have d3' : decode c.code (pc + 3) = .ok (.dup, 1) := by rw [hb]; exact d3
  have d4' : decode c.code (pc + 4) = .ok (.ldc_w is, 3) := by rw [hb]; exact d4
  have hstr' : vk_R own is text sa s' := vk_R.warm hW0 hstr
  obtain ⟨U, hsteps, hrun, hend, hW, hsame, ce, hce, hO⟩ := X₁.ctorThrowS hexec htr (own := own) (cls := cls) (names := names) (ic := ic) hown' hcls hnames h (fun x hx => nomatch hx) hfX hkX hcellA (by rw [hhp, hT]; exact Nat.le_refl _) (msg := .ref sa) rfl
    (g := { method := m, pc := pc + 7, locals := ls, stack := .ref sa :: .ref T.heap.size :: .ref T.heap.size :: rest, locked := none }) rfl hsize rfl rfl (rest := rest) rfl
    (by rw [hb]; exact d7) (by rw [hb]; exact d10) hout hRframes (by simp only [List.map_cons, List.sum_cons, hcat]; omega) hlocks
  obtain ⟨f1, f2⟩ := vx_frame hsame
  rw [hhp] at f1 f2
  have hWs : s.WarmedH U.vm := State.WarmedH.trans hW0 hW
  have hcl : s.vm.findClass cls = some ce.cls := by
    have h9 := hO.cls
    rw [hvm] at h9
    exact h9
  have hall : s.sameButNew ({ U with vm := s.vm } : State) locs mc ms := by
    subst hA
    obtain ⟨e1, e2⟩ := hsame
    rw [State.setFrames_setFrames] at e1
    have h2 : (T.setVm s.vm).sameButNew ({ U with vm := s.vm } : State) [] (0 + 1) (0 + 6) := ⟨e1, e2⟩
    have h3 := X.same.trans h2
    rw [List.append_nil] at h3
    exact h3.mono hc hs
  refine ⟨U, ?_, .threw T.heap.size, hrun, hend, Or.inr ⟨T.heap.size, rfl, cls, ce, locs, hx U hWs.alike f1 (fun q hq => f2 q hq (fun z hz => nomatch hz)), hce, hO.vm, hcl, hWs, hall, hf⟩⟩
  refine st1 _ ?_
  show Steps p.tables e below (T1.setTop { method := m, pc := pc + 3, locals := ls, stack := .ref T.heap.size :: rest, locked := none }) _
  jvm_step X₁.here [X₁.here.top, hexec, d3', Value.category]
  exact X₁.ldcStringW hexec (own := own) (text := text) (index := is) (a := sa) hown' hstr'.1 hstr'.2
    (g := { method := m, pc := pc + 4, locals := ls, stack := .ref T.heap.size :: .ref T.heap.size :: rest, locked := none }) rfl d4' _ hsteps
end Ends
section Bodies
variable {l : Launch}
theorem vx_ofW {y : MethodName} {ws ws' : List Cond} {rm : Room} {Pc : Array Value → State → Prop} {Qc : Array Value → State → Outcome → State → Prop} {XC : String → State → State → Prop} {mc ms : Nat} {free : Addr → Prop} {cc : ByteArray} {maxL : Nat} {ret : Option FieldType}
    (hy : plainName y.cls = true) (hw : ws = Cond.code y cc maxL ret :: ws')
    (body : ∀ p e s m args below meth c s₁, BodyLoose p l y (headSpec ws rm) cc maxL ret e s m args below meth c s₁ → c.maxLocals = maxL → (∀ x ∈ c.exceptionTable.toList, False) → Pc args s →
      W p l e (headSpec ws rm).room s m args below meth c s.heap [] 0 0 (vx_MQ below Qc XC args s mc ms free) (entryFrame m args maxL)) : vx_Met l y ws rm Pc Qc XC mc ms free := by
  refine MetFree.of_bodyS (code := cc) (maxLocals := maxL) (ret := ret) hy ?_ ?_
  · intro args s m h hn
    obtain ⟨meth, c, h1, h2, h3, h4, h5, h6, -, -⟩ := Cond.code_spec hn (atoms_spec (ws := ws) h _ (by rw [hw]; exact List.mem_cons_self))
    exact ⟨meth, c, h1, h2, h3, h4, h5, h6⟩
  · intro p e s m args below meth c s₁ B hml hP _
    have hh0 : s₁.heap = s.heap := by rw [B.state]; rfl
    have ht : ∀ x ∈ c.exceptionTable.toList, False := by
      obtain ⟨meth9, c9, h1, h2, -, -, -, -, h7, -⟩ := Cond.code_spec B.named (atoms_spec (ws := ws) B.pre _ (by rw [hw]; exact List.mem_cons_self))
      cases Option.some.inj (h1.symm.trans B.method)
      cases Option.some.inj (h2.symm.trans (Stand.of_body B).code)
      intro x hx
      rw [Array.isEmpty_iff.mp h7] at hx
      cases hx
    obtain ⟨t, a1, o, b1, b2, b3⟩ := body p e s m args below meth c s₁ B hml ht hP s₁ hh0 (Stand.of_body B)
    exact ⟨t, o, a1, b1, b2, b3⟩
/-- the table of a body with handlers -/
theorem vx_table {p : Program} {x y : MethodName} {S : Spec} {cc bytes : ByteArray} {maxL maxL' : Nat} {ret ret' : Option FieldType} {e : Env} {s s₁ : State} {m : MethodId} {args : Array Value} {below : List Frame} {meth : Method} {c : Code} {hh : List (Nat × Nat × Nat × Nat)}
    (B : BodyLoose p l y S cc maxL ret e s m args below meth c s₁) (h : (Cond.codeWith y bytes maxL' ret' hh).before args s = true) : c.exceptionTable.toList = tableOf hh := by
  obtain ⟨m9, meth9, c9, hn9, h1, h2, -, -, h6, -⟩ := Cond.codeWith_spec h
  cases Option.some.inj (hn9.symm.trans B.named)
  cases Option.some.inj (h1.symm.trans B.method)
  cases Option.some.inj (h2.symm.trans (Stand.of_body B).code)
  rw [← h6, table_eq]
end Bodies
end VXA
/-! ===== END ===== -/
/-! ===== BEGIN a static call of a method with an exception table ===== -/
section VXS
variable {p : Program} {l : Launch} {e : Env} {R : Room} {s : State} {m : MethodId} {args : Array Value} {below : List Frame} {meth : Method} {c : Code} {T : State} {H : Heap} {locs : List Loc} {cells slots : Nat}
abbrev vx_CSW (R : Room) (s : State) (args : Array Value) (own : String) (index : Nat) (y : MethodName) (bytes : ByteArray) (maxL : Nat) (ret : Option FieldType) (hh : List (Nat × Nat × Nat × Nat)) (ws : List Cond) (rm : Room) (mc ms n : Nat) : Prop :=
  (rm.cells = mc ∧ rm.slots = ms ∧ rm.frames + 1 ≤ R.frames ∧ 8 + (maxL + 11) + rm.locals ≤ R.locals ∧ (∀ w ∈ ws, ∀ (a' : Array Value) (U : State), s.WarmedH U.vm → w.before a' U = true) ∧ Cond.codeWith y bytes maxL ret hh ∈ ws) ∧
  (Cond.codeWith y bytes maxL ret hh).before args s = true ∧ (Cond.initialized y.cls).before args s = true ∧ (y.cls ≠ "java/lang/invoke/MethodHandle" ∧ y.cls ≠ "java/lang/invoke/VarHandle") ∧
  (∀ sig, parseMethodDescriptor y.desc = some sig → n = sig.parameters.length) ∧ (Cond.methodLink own index y).before args s = true ∧ (Cond.static y).before args s = true
theorem vx_cwSW {own : String} {index maxL mc ms : Nat} {y : MethodName} {bytes : ByteArray} {ret : Option FieldType} {hh : List (Nat × Nat × Nat × Nat)} {Ts ws ws' : List Cond} {rm : Room} (n : Nat) (ht : ∀ w ∈ Ts, w.before args s = true) (hT : GoodIn Ts (va_wsS own index y ws)) (hw : ws = Cond.codeWith y bytes maxL ret hh :: ws') (hrc : rm.cells = mc) (hrs : rm.slots = ms)
    (hd : y.cls ≠ "java/lang/invoke/MethodHandle" ∧ y.cls ≠ "java/lang/invoke/VarHandle" ∧ (parseMethodDescriptor y.desc).map (fun d => d.parameters.length) = some n) (hR : rm.frames + 1 ≤ R.frames ∧ 8 + (maxL + 11) + rm.locals ≤ R.locals) :
    vx_CSW R s args own index y bytes maxL ret hh ws rm mc ms n := by
  have ok : ∀ w ∈ va_wsS own index y ws, w.before args s = true := fun w h => ht w (hT w h).1
  have hG : GoodIn Ts ws := fun w h => hT w (by unfold va_wsS; exact List.mem_append_right _ h)
  have hc : Cond.codeWith y bytes maxL ret hh ∈ ws := by rw [hw]; exact List.mem_cons_self
  refine ⟨⟨hrc, hrs, hR.1, hR.2, pay_in ht hG, hc⟩, ht _ (hG _ hc).1, ok _ (by simp [va_wsS]), ⟨hd.1, hd.2.1⟩, fun sig h => ?_, ok _ (by simp [va_wsS]), ok _ (by simp [va_wsS])⟩
  have h2 := hd.2.2
  rw [h] at h2
  exact (Option.some.inj h2).symm
theorem vx_callSW (X : Stand p l e R s m args below meth c T locs cells slots) (hexec : p.tables.exec = Jvm.exec) {own : String} {index : Nat} {y : MethodName} {bytes : ByteArray} {maxL : Nat} {ret : Option FieldType} {hh : List (Nat × Nat × Nat × Nat)}
    (hown : s.vm.findClass own = some m.cls) (hlink : (Cond.methodLink own index y).before args s = true) (hstat : (Cond.static y).before args s = true) (hinit : (Cond.initialized y.cls).before args s = true)
    (hcode : (Cond.codeWith y bytes maxL ret hh).before args s = true) (hy : y.cls ≠ "java/lang/invoke/MethodHandle" ∧ y.cls ≠ "java/lang/invoke/VarHandle")
    {W9 : Nat} {Pre : Pt → Array Value → Prop} {Post : Pt → Array Value → Option Value → Pt → Prop} (hK : Back l R p e below s args y 3 W9 Pre Post)
    {g : JFrame} (hg : g.method = m) (hsize : g.locals.size = c.maxLocals) {argsL rest : List Value} (hlen : ∀ sig, parseMethodDescriptor y.desc = some sig → argsL.length = sig.parameters.length)
    (hstack : g.stack = argsL.reverse ++ rest) (hW : 2 * g.monitorRoom + (rest.map fun v => v.category).sum ≤ W9) (hdg : decode c.code g.pc = .ok (.invokestatic index, 3))
    (hpre : ∀ vm₁, s.WarmedH vm₁ → Pre ⟨T.setVm vm₁, locs, cells, slots⟩ argsL.toArray) :
    ∃ (v : Option Value) (vm₁ : Vm) (B : Pt), s.WarmedH vm₁ ∧ Stand p l e R s m args below meth c B.U B.locs B.cells B.slots ∧ Post ⟨T.setVm vm₁, locs, cells, slots⟩ argsL.toArray v B ∧
      ∀ target, Steps p.tables e below (B.U.setTop { g with pc := g.pc + 3, stack := v.toList ++ rest }) target → Steps p.tables e below (T.setTop g) target := by
  obtain ⟨mk, methM, cM, hnamed, hmethM, -, -, -, -, -, -, hsigM⟩ := Cond.codeWith_spec hcode
  have hstatic : methM.isStatic = true := Cond.static_spec hnamed hmethM hstat
  obtain ⟨kP, hkP, -⟩ := className_of_methodNamed hnamed
  have hinitP : kP.init = .initialized := Cond.initialized_spec (findClass_of_methodNamed hnamed) hkP hinit
  obtain ⟨vm₁, X₁, hstep₁⟩ := X.invokestatic hexec hown hlink hnamed hmethM hstatic hkP hinitP hy (g := g) hg (argsL := argsL) (rest := rest) (hlen _ hsigM) hstack hdg
  obtain ⟨v, B, X', hpost, hsteps⟩ := hK m meth c ⟨T.setVm vm₁, locs, cells, slots⟩ { g with stack := rest } (.invokestatic index) mk argsL.toArray X₁ hg hsize hdg hW (X₁.named hnamed) (hpre vm₁ X₁.warmed)
  exact ⟨v, vm₁, B, X₁.warmed, X', hpost, fun target h => hstep₁ _ fun acts => by rw [doInvoke_state]; exact hsteps.trans h⟩
theorem vx_runSW {y : MethodName} {bytes cc : ByteArray} {maxL nL mc ms n index : Nat} {ret : Option FieldType} {hh : List (Nat × Nat × Nat × Nat)} {ws : List Cond} {rm : Room} {Pc : Array Value → State → Prop} {Qc : Array Value → State → Outcome → State → Prop} {free : Addr → Prop} {Ts : List Cond} {own : String} {As rest : List Value} {g : JFrame}
    (S : CallFix p m c cc nL s args Ts own) (hM : Met l y ws rm Pc Qc mc ms free) (cw : vx_CSW R s args own index y bytes maxL ret hh ws rm mc ms n) (hp : PreS s H Pc As)
    (hg : g.method = m) (hn : As.length = n) (hsize : g.locals.size = nL) (hstack : g.stack = As.reverse ++ rest) (hW : 2 * g.monitorRoom + (rest.map fun v => v.category).sum ≤ 8) (hdg : decode cc g.pc = .ok (.invokestatic index, 3)) (hf : cells + mc ≤ R.cells ∧ slots + ms ≤ R.slots) :
    va_Run p l e R s m args below meth c H locs cells slots mc ms g rest (Qc As.toArray) (free) := by
  obtain ⟨⟨hrc, hrs, hfr, hlo, hws, hcw⟩, hcode, hini, hy, hlen, hl, hstt⟩ := cw
  have hK : Back l R p e below s args y 3 8 (PreOf R mc ms Pc) (PostOf Qc mc ms free) := va_backW (hh := hh) (bytes := bytes) (maxL := maxL) (ret := ret) hM hp.1 hrc hrs hfr hlo hws hcw (fun a' U hW => word_at hW (Or.inl (by first | rfl | simp [Cond.onTables, Cond.keeps, Cond.steady])) hini)
  obtain ⟨hx, hb, hml, ho, -⟩ := S
  intro T hT X
  obtain ⟨v, vm₁, ⟨U', l2, c2, s2⟩, hW₁, X', ⟨g', mk, t, L, e1, e2, hq, h1, hL, h2, h3⟩, st⟩ := vx_callSW X hx (hh := hh) (bytes := bytes) (maxL := maxL) (ret := ret) ho hl hstt hini hcode hy hK hg (hsize.trans hml.symm) (argsL := As) (rest := rest) (fun sig h => hn.trans (hlen sig h)) hstack hW (by rw [hb]; exact hdg)
    (fun vm₁ hW₁ => ⟨hf.1, hf.2, hp.2 (T.setVm vm₁) hT hW₁⟩)
  dsimp only [Pt.U, Pt.locs, Pt.cells, Pt.slots] at X' e1 e2 h1 h2 h3 st
  subst h1; subst h2; subst h3
  exact ⟨v, (T.setVm vm₁).calling g' mk As.toArray, t, U', L, hT, X', hL, e1, e2, hq, st⟩
/-- not caught here, past rows that name other classes: it goes on to the caller -/
theorem vx_outP {p : Program} {l : Launch} {e : Env} {R : Room} {s : State} {m : MethodId} {args : Array Value} {below : List Frame} {meth : Method} {c : Code} {H : Heap} {locs : List Loc} {cells slots : Nat} {free : Addr → Prop} {ls : Array Slot} {rest : List Value} {Qc : Array Value → State → Outcome → State → Prop} {XC : String → State → State → Prop}
    {pc : Nat} {own E : String} {ce : Cell} {q : Addr} {mc ms : Nat} (hown : s.vm.findClass own = some m.cls) (hlocks : meth.locks = false)
    (hpass : ∀ z ∈ c.exceptionTable.toList, covers z pc = false ∨ (z.catchType ≠ 0 ∧ ∃ nm : String, (Cond.classLink own z.catchType nm).before args s = true ∧ va_Nc E nm s)) (hcell : H[q]? = some ce) (hv : ce.vm = .none) (hcl : s.vm.findClass E = some ce.cls)
    (hx : ∀ t : State, t.heap = H → s.vm.Alike t.vm → XC E s t) (hf : ∀ z ∈ locs, free z.base) (hc : cells ≤ mc) (hs : slots ≤ ms) :
    vx_W p l e R s m args below meth c H locs cells slots (vx_MQ below Qc XC args s mc ms free) (F0 m pc ls rest) q := by
  intro T hT X
  have hpl : e.platform.magicAccessors = ({} : Platform).magicAccessors := by rw [X.admits.platform]
  obtain ⟨vm', hW', X', st⟩ := X.outThrough hlocks q (g := F0 m pc ls rest) rfl rfl rfl (cell := ce) (by rw [hT]; exact hcell) (by rw [hv]; rfl)
    (by obtain ⟨k9, h9, -⟩ := Vm.findClass_spec hcl; exact ⟨k9, h9⟩) (fun z hz => by
      rcases hpass z hz with h | ⟨hz0, nm, hl1, hn1⟩
      · exact Or.inl h
      · obtain ⟨c6, hc6, hcl6⟩ := Cond.classLink_spec hown hl1 e.platform hpl
        obtain ⟨a8, b8, h1, h2, h3⟩ := hn1
        cases Option.some.inj (h1.symm.trans hcl)
        cases Option.some.inj (h2.symm.trans hc6)
        exact Or.inr ⟨hz0, _, hcl6, h3⟩)
  obtain ⟨g₀, hfr⟩ := X'.frames_eq
  have hcell9 : ((T.setVm vm').setFrames (.throwing q :: below)).heap[q]? = some ce := by
    show T.heap[q]? = some ce
    rw [hT]; exact hcell
  have hend : Ended ((T.setVm vm').setFrames (.throwing q :: below)) below (.threw q) := State.frames_setFrames _ (State.cur_lt_of_frames hfr)
  refine ⟨(T.setVm vm').setFrames (.throwing q :: below), ?_, .threw q, X'.here.running, hend, Or.inr ⟨q, rfl, E, ce, locs, hx _ hT (X'.ends _).1.alike, hcell9, hv, hcl, (X'.ends _).1, (X'.ends _).2.mono hc hs, hf⟩⟩
  rw [X.pushThrowing_eq]
  exact st
/-- a thing of a world lies in the heap -/
theorem vx_lt {D : va_G} {cl : List vw_C} {ws : va_W} {H1 : Heap} (h : va_P D cl ws H1) {k : Nat} {q : Nat × va_E} (hk : ws[k]? = some q) : q.1 < H1.size := (h k q hk).lt
end VXS
/-! ===== END ===== -/
/-! ===== BEGIN methods with a table of their own: called by a name, returning or throwing ===== -/
section VXH
/-! vx_backW, vx_callVX, vx_callSX, vx_callVW, vx_runVW, vx_runVX, vx_runSX, vx_ofWH follow the same proofs as their sisters above (Free/Laws.lean, Shelf42/LK1.lean); vx_outP calls Shelf42/NT130.lean (outThrough). -/
section
variable {l : Launch} {R : Room} {p : Program} {e : Env} {below : List Frame} {s : State} {sargs : Array Value} {y : MethodName} {len W9 : Nat}
theorem vx_backW {ws : List Cond} {rm : Room} {Pc : Array Value → State → Prop} {Qc : Array Value → State → Outcome → State → Prop} {XC : String → State → State → Prop} {mc ms : Nat} {free : Addr → Prop} {bytes : ByteArray} {maxL : Nat} {ret : Option FieldType} {hh : List (Nat × Nat × Nat × Nat)}
    (hM : vx_Met l y ws rm Pc Qc XC mc ms free) (hblind : FrameBlind Pc) (hrc : rm.cells = mc) (hrs : rm.slots = ms)
    (hframes : rm.frames + 1 ≤ R.frames) (hlocals : W9 + (maxL + 11) + rm.locals ≤ R.locals)
    (hws : ∀ w ∈ ws, ∀ a' U, s.WarmedH U.vm → w.before a' U = true) (hcode : Cond.codeWith y bytes maxL ret hh ∈ ws) (hinit : ∀ a' U, s.WarmedH U.vm → (Cond.initialized y.cls).before a' U = true) :
    vx_Back l R p e below s sargs y len W9 (PreOf R mc ms Pc) (PostOf Qc mc ms free) (vx_Post XC mc ms free) := by
  intro m meth c A g ig mk a X hg hsize hdg hW hn hp
  have h1 : (headSpec ws rm).pre.before a A.U = true := atoms_intro fun w hw => hws w hw _ _ X.warmed
  have h2 : (Cond.codeWith y bytes maxL ret hh).before a A.U = true := hws _ hcode _ _ X.warmed
  have h3 : (Cond.initialized y.cls).before a A.U = true := hinit _ _ X.warmed
  have h4 : A.cells + (headSpec ws rm).room.cells ≤ R.cells := by rw [show (headSpec ws rm).room.cells = mc from hrc]; exact hp.1
  have h5 : A.slots + (headSpec ws rm).room.slots ≤ R.slots := by rw [show (headSpec ws rm).room.slots = ms from hrs]; exact hp.2.1
  have hPc : Pc a (A.U.calling g mk a) := hblind _ _ _ _ hp.2.2
  obtain ⟨U, Ls, c0, s0⟩ := A
  dsimp only [Pt.U, Pt.locs, Pt.cells, Pt.slots] at h1 h2 h3 h4 h5 X hn hPc ⊢
  obtain ⟨m9, methY, cY, hn9, hmY, hcY, -, hlY, -⟩ := Cond.codeWith_spec h2
  cases Option.some.inj (hn9.symm.trans hn)
  obtain ⟨kY, hkY, -⟩ := className_of_methodNamed hn
  have hinitY : kY.init = .initialized := Cond.initialized_spec (findClass_of_methodNamed hn) hkY h3
  have h : At U g.method c below := by rw [hg]; exact X.here
  have hlocals9 : W9 + (maxL + 11) + (headSpec ws rm).room.locals ≤ R.locals := hlocals
  have happ : (headSpec ws rm).appliesLoose y e.platform (U.calling g mk a) = true :=
    Spec.appliesLoose_calling (g := g) h hdg hn hkY hinitY
      (X.room_calling (g := g) (R' := (headSpec ws rm).room) hsize hmY hcY hframes (by rw [hlY]; omega) h4 h5) h1
  obtain ⟨mid, hmid⟩ := h.above
  have hfr : (U.setTop g).frames = (.java g :: mid) ++ below := by rw [State.frames_setTop' g h.top, hmid]; rfl
  obtain ⟨o, s₂, hsteps, -, hend, hq⟩ := Steps.callFree hM p X.admits X.cas X.clock (acts := []) hfr happ hPc trivial
  have hq' : vx_Q Qc XC mc ms free a (U.calling g mk a) o s₂ := hq
  rw [State.frames_setTop' g h.top] at hend
  obtain ⟨g₀, hg0⟩ := Option.isSome_iff_exists.mp h.top
  obtain ⟨r, hr⟩ := State.topJava?_eq_some.mp hg0
  have hr' : (({ U with heap := s₂.heap, slotsUsed := s₂.slotsUsed } : State).setVm s₂.vm).frames = .java g₀ :: r := hr
  rcases hq' with ⟨hqc, L, hfe, hL⟩ | ⟨q, rfl, E, ce, L, hx, hce, hcv, hcl, hW₂, hsm, hL⟩
  · obtain ⟨⟨v, rfl⟩, hW₂, e2, q2, q3, q4, q5, q6⟩ := id hfe
    have e3 : s₂ = ({ (U.calling g mk a).setFrames s₂.frames with heap := s₂.heap, slotsUsed := s₂.slotsUsed } : State).setVm s₂.vm := by
      have : s₂ = ({ s₂ with vm := (U.calling g mk a).vm } : State).setVm s₂.vm := rfl
      rw [e2] at this
      exact this
    obtain ⟨c₂, i₂, len₂, hc₂, hd₂, hf₂⟩ := hend
    have hW' : U.WarmedH s₂.vm := hW₂
    have hcc : c₂ = c := by
      have h1 : s₂.code? g.method = U.code? g.method := by
        rw [State.code?_eq, State.code?_eq, hW'.alike.method?]
      exact Option.some.inj (hc₂.symm.trans (h1.trans h.code))
    subst hcc
    have hlen : len₂ = len := by rw [hdg] at hd₂; cases hd₂; rfl
    subst hlen
    have hs₂ : s₂ = (({ U with heap := s₂.heap, slotsUsed := s₂.slotsUsed } : State).setVm s₂.vm).setTop { g with pc := g.pc + len₂, stack := v.toList ++ g.stack } := by
      refine e3.trans ?_
      rw [hf₂, State.calling_eq h.top, State.setFrames_setFrames, State.setTop_of_frames _ hr', hr]
      rfl
    have hsame : U.sameButNew ({ U with heap := s₂.heap, slotsUsed := s₂.slotsUsed } : State) L mc ms := by
      refine ⟨?_, q2, q3, q4, q5, q6⟩
      obtain ⟨t, ht, -⟩ := State.frames_cons hr
      show ({ U with heap := s₂.heap, slotsUsed := s₂.slotsUsed } : State) = { U.setFrames U.frames with heap := s₂.heap, slotsUsed := s₂.slotsUsed }
      rw [State.setFrames_self ht]
    subst hg
    refine Or.inl ⟨v, ⟨(({ U with heap := s₂.heap, slotsUsed := s₂.slotsUsed } : State).setVm s₂.vm), Ls ++ L, c0 + mc, s0 + ms⟩,
      ⟨X.admits, X.cas, X.clock, X.frames, X.room, X.hears, X.method, X.code, (X.here.setHeapUsed s₂.heap s₂.slotsUsed).setVm hW'.alike, X.tail, State.WarmedH.trans X.warmed hW', X.limits, X.bytes, X.same.trans (hsame.setVm s.vm)⟩,
      ⟨g, mk, s₂, L, rfl, rfl, hqc, rfl, hL, rfl, rfl⟩, ?_⟩
    show Steps p.tables e below _ ((({ U with heap := s₂.heap, slotsUsed := s₂.slotsUsed } : State).setVm s₂.vm).setTop { g with pc := g.pc + len₂, stack := v.toList ++ g.stack })
    rw [← hs₂]
    exact hsteps
  · obtain ⟨e2, q2, q3, q4, q5, q6⟩ := id hsm
    have e3 : s₂ = ({ (U.calling g mk a).setFrames s₂.frames with heap := s₂.heap, slotsUsed := s₂.slotsUsed } : State).setVm s₂.vm := by
      have : s₂ = ({ s₂ with vm := (U.calling g mk a).vm } : State).setVm s₂.vm := rfl
      rw [e2] at this
      exact this
    have hf₂ : s₂.frames = .throwing q :: .java g :: U.frames.tail := hend
    have hW' : U.WarmedH s₂.vm := hW₂
    have hs₂ : s₂ = ((({ U with heap := s₂.heap, slotsUsed := s₂.slotsUsed } : State).setVm s₂.vm).setTop g).pushFrame (.throwing q) := by
      refine e3.trans ?_
      rw [hf₂, State.calling_eq h.top, State.setFrames_setFrames, State.pushFrame, State.frames_setTop _ hr', State.setTop_of_frames _ hr', State.setFrames_setFrames, hr]
      rfl
    have hsame : U.sameButNew ({ U with heap := s₂.heap, slotsUsed := s₂.slotsUsed } : State) L mc ms := by
      refine ⟨?_, q2, q3, q4, q5, q6⟩
      obtain ⟨t, ht, -⟩ := State.frames_cons hr
      show ({ U with heap := s₂.heap, slotsUsed := s₂.slotsUsed } : State) = { U.setFrames U.frames with heap := s₂.heap, slotsUsed := s₂.slotsUsed }
      rw [State.setFrames_self ht]
    subst hg
    refine Or.inr ⟨q, ⟨(({ U with heap := s₂.heap, slotsUsed := s₂.slotsUsed } : State).setVm s₂.vm), Ls ++ L, c0 + mc, s0 + ms⟩,
      ⟨X.admits, X.cas, X.clock, X.frames, X.room, X.hears, X.method, X.code, (X.here.setHeapUsed s₂.heap s₂.slotsUsed).setVm hW'.alike, X.tail, State.WarmedH.trans X.warmed hW', X.limits, X.bytes, X.same.trans (hsame.setVm s.vm)⟩,
      ⟨g, mk, s₂, L, E, ce, rfl, rfl, hx, hce, hcv, hcl, rfl, hL, rfl, rfl⟩, ?_⟩
    show Steps p.tables e below _ (((({ U with heap := s₂.heap, slotsUsed := s₂.slotsUsed } : State).setVm s₂.vm).setTop g).pushFrame (.throwing q))
    rw [← hs₂]
    exact hsteps
end
variable {p : Program} {l : Launch} {e : Env} {R : Room} {s : State} {m : MethodId} {args : Array Value} {below : List Frame} {meth : Method} {c : Code} {T : State} {H : Heap} {locs : List Loc} {cells slots : Nat}
theorem vx_callVX (X : Stand p l e R s m args below meth c T locs cells slots) (hexec : p.tables.exec = Jvm.exec) {own C : String} {index : Nat} {y : MethodName} {bytes : ByteArray} {maxL : Nat} {ret : Option FieldType} {hh : List (Nat × Nat × Nat × Nat)}
    (hown : s.vm.findClass own = some m.cls) (hlink : (Cond.methodLink own index y).before args s = true) (hinst : (Cond.instanceMethod y).before args s = true) (hsel : (Cond.selects C y y).before args s = true)
    (hcode : (Cond.codeWith y bytes maxL ret hh).before args s = true) (hy : y.cls ≠ "java/lang/invoke/MethodHandle" ∧ y.cls ≠ "java/lang/invoke/VarHandle")
    {W9 : Nat} {Pre : Pt → Array Value → Prop} {Post : Pt → Array Value → Option Value → Pt → Prop} {PostX : Pt → Array Value → Addr → Pt → Prop} (hK : vx_Back l R p e below s args y 3 W9 Pre Post PostX)
    {b : Addr} {cellB : Cell} (hcell : T.heap[b]? = some cellB) (hobj : cellB.vm.isStatics = false) (hcls : s.vm.findClass C = some cellB.cls)
    {g : JFrame} (hg : g.method = m) (hsize : g.locals.size = c.maxLocals) {argsL rest : List Value} (hlen : ∀ sig, parseMethodDescriptor y.desc = some sig → argsL.length = sig.parameters.length)
    (hstack : g.stack = argsL.reverse ++ .ref b :: rest) (hW : 2 * g.monitorRoom + (rest.map fun v => v.category).sum ≤ W9) (hdg : decode c.code g.pc = .ok (.invokevirtual index, 3))
    (hpre : ∀ vm₁, s.WarmedH vm₁ → Pre ⟨T.setVm vm₁, locs, cells, slots⟩ (Value.ref b :: argsL).toArray) :
    (∃ (v : Option Value) (vm₁ : Vm) (B : Pt), s.WarmedH vm₁ ∧ Stand p l e R s m args below meth c B.U B.locs B.cells B.slots ∧ Post ⟨T.setVm vm₁, locs, cells, slots⟩ (Value.ref b :: argsL).toArray v B ∧
      ∀ target, Steps p.tables e below (B.U.setTop { g with pc := g.pc + 3, stack := v.toList ++ rest }) target → Steps p.tables e below (T.setTop g) target) ∨
    (∃ (q : Addr) (vm₁ : Vm) (B : Pt), s.WarmedH vm₁ ∧ Stand p l e R s m args below meth c B.U B.locs B.cells B.slots ∧ PostX ⟨T.setVm vm₁, locs, cells, slots⟩ (Value.ref b :: argsL).toArray q B ∧
      Steps p.tables e below (T.setTop g) ((B.U.setTop { g with stack := rest }).pushFrame (.throwing q))) := by
  obtain ⟨mk, methM, hnamed, hmethM, hstM, habM⟩ := Cond.instanceMethod_spec hinst
  obtain ⟨m8, methM', cM, hn8, hmethM', -, -, -, -, -, -, hsigM⟩ := Cond.codeWith_spec hcode
  cases Option.some.inj (hn8.symm.trans hnamed)
  cases hmethM.symm.trans hmethM'
  obtain ⟨c2, r2, m2, q1, q2, q3, q4, kP, hkP, hkPi⟩ := Cond.selects_spec hsel
  cases hcls.symm.trans q1
  cases (State.methodFound?_of_named hnamed hy).symm.trans q2
  cases hnamed.symm.trans q3
  have hselP : selectMethod e.platform s.vm cellB.cls mk = .method mk := by rw [Launch.admits_selectMethod X.admits]; exact q4
  obtain ⟨vm₁, X₁, hstep₁⟩ := X.invokevirtual hexec hown hlink hnamed hmethM hstM hkP hkPi hy (a := b) (cell := cellB) hcell
    (fun z h => by rw [h] at hobj; cases hobj) hselP hmethM habM hkP hkPi (g := g) hg (argsL := argsL) (rest := rest) (hlen _ hsigM) hstack hdg
  rcases hK m meth c ⟨T.setVm vm₁, locs, cells, slots⟩ { g with stack := rest } (.invokevirtual index) mk (Value.ref b :: argsL).toArray X₁ hg hsize hdg hW (X₁.named hnamed) (hpre vm₁ X₁.warmed) with ⟨v, B, X', hpost, hsteps⟩ | ⟨q, B, X', hpost, hsteps⟩
  · exact Or.inl ⟨v, vm₁, B, X₁.warmed, X', hpost, fun target h => hstep₁ _ fun acts => by rw [doInvoke_state]; exact hsteps.trans h⟩
  · exact Or.inr ⟨q, vm₁, B, X₁.warmed, X', hpost, hstep₁ _ fun acts => by rw [doInvoke_state]; exact hsteps⟩
theorem vx_callSX (X : Stand p l e R s m args below meth c T locs cells slots) (hexec : p.tables.exec = Jvm.exec) {own : String} {index : Nat} {y : MethodName} {bytes : ByteArray} {maxL : Nat} {ret : Option FieldType} {hh : List (Nat × Nat × Nat × Nat)}
    (hown : s.vm.findClass own = some m.cls) (hlink : (Cond.methodLink own index y).before args s = true) (hstat : (Cond.static y).before args s = true) (hinit : (Cond.initialized y.cls).before args s = true)
    (hcode : (Cond.codeWith y bytes maxL ret hh).before args s = true) (hy : y.cls ≠ "java/lang/invoke/MethodHandle" ∧ y.cls ≠ "java/lang/invoke/VarHandle")
    {W9 : Nat} {Pre : Pt → Array Value → Prop} {Post : Pt → Array Value → Option Value → Pt → Prop} {PostX : Pt → Array Value → Addr → Pt → Prop} (hK : vx_Back l R p e below s args y 3 W9 Pre Post PostX)
    {g : JFrame} (hg : g.method = m) (hsize : g.locals.size = c.maxLocals) {argsL rest : List Value} (hlen : ∀ sig, parseMethodDescriptor y.desc = some sig → argsL.length = sig.parameters.length)
    (hstack : g.stack = argsL.reverse ++ rest) (hW : 2 * g.monitorRoom + (rest.map fun v => v.category).sum ≤ W9) (hdg : decode c.code g.pc = .ok (.invokestatic index, 3))
    (hpre : ∀ vm₁, s.WarmedH vm₁ → Pre ⟨T.setVm vm₁, locs, cells, slots⟩ argsL.toArray) :
    (∃ (v : Option Value) (vm₁ : Vm) (B : Pt), s.WarmedH vm₁ ∧ Stand p l e R s m args below meth c B.U B.locs B.cells B.slots ∧ Post ⟨T.setVm vm₁, locs, cells, slots⟩ argsL.toArray v B ∧
      ∀ target, Steps p.tables e below (B.U.setTop { g with pc := g.pc + 3, stack := v.toList ++ rest }) target → Steps p.tables e below (T.setTop g) target) ∨
    (∃ (q : Addr) (vm₁ : Vm) (B : Pt), s.WarmedH vm₁ ∧ Stand p l e R s m args below meth c B.U B.locs B.cells B.slots ∧ PostX ⟨T.setVm vm₁, locs, cells, slots⟩ argsL.toArray q B ∧
      Steps p.tables e below (T.setTop g) ((B.U.setTop { g with stack := rest }).pushFrame (.throwing q))) := by
  obtain ⟨mk, methM, cM, hnamed, hmethM, -, -, -, -, -, -, hsigM⟩ := Cond.codeWith_spec hcode
  have hstatic : methM.isStatic = true := Cond.static_spec hnamed hmethM hstat
  obtain ⟨kP, hkP, -⟩ := className_of_methodNamed hnamed
  have hinitP : kP.init = .initialized := Cond.initialized_spec (findClass_of_methodNamed hnamed) hkP hinit
  obtain ⟨vm₁, X₁, hstep₁⟩ := X.invokestatic hexec hown hlink hnamed hmethM hstatic hkP hinitP hy (g := g) hg (argsL := argsL) (rest := rest) (hlen _ hsigM) hstack hdg
  rcases hK m meth c ⟨T.setVm vm₁, locs, cells, slots⟩ { g with stack := rest } (.invokestatic index) mk argsL.toArray X₁ hg hsize hdg hW (X₁.named hnamed) (hpre vm₁ X₁.warmed) with ⟨v, B, X', hpost, hsteps⟩ | ⟨q, B, X', hpost, hsteps⟩
  · exact Or.inl ⟨v, vm₁, B, X₁.warmed, X', hpost, fun target h => hstep₁ _ fun acts => by rw [doInvoke_state]; exact hsteps.trans h⟩
  · exact Or.inr ⟨q, vm₁, B, X₁.warmed, X', hpost, hstep₁ _ fun acts => by rw [doInvoke_state]; exact hsteps⟩
theorem vx_callVW (X : Stand p l e R s m args below meth c T locs cells slots) (hexec : p.tables.exec = Jvm.exec) {own C : String} {index : Nat} {y : MethodName} {bytes : ByteArray} {maxL : Nat} {ret : Option FieldType} {hh : List (Nat × Nat × Nat × Nat)}
    (hown : s.vm.findClass own = some m.cls) (hlink : (Cond.methodLink own index y).before args s = true) (hinst : (Cond.instanceMethod y).before args s = true) (hsel : (Cond.selects C y y).before args s = true)
    (hcode : (Cond.codeWith y bytes maxL ret hh).before args s = true) (hy : y.cls ≠ "java/lang/invoke/MethodHandle" ∧ y.cls ≠ "java/lang/invoke/VarHandle")
    {W9 : Nat} {Pre : Pt → Array Value → Prop} {Post : Pt → Array Value → Option Value → Pt → Prop} (hK : Back l R p e below s args y 3 W9 Pre Post)
    {b : Addr} {cellB : Cell} (hcell : T.heap[b]? = some cellB) (hobj : cellB.vm.isStatics = false) (hcls : s.vm.findClass C = some cellB.cls)
    {g : JFrame} (hg : g.method = m) (hsize : g.locals.size = c.maxLocals) {argsL rest : List Value} (hlen : ∀ sig, parseMethodDescriptor y.desc = some sig → argsL.length = sig.parameters.length)
    (hstack : g.stack = argsL.reverse ++ .ref b :: rest) (hW : 2 * g.monitorRoom + (rest.map fun v => v.category).sum ≤ W9) (hdg : decode c.code g.pc = .ok (.invokevirtual index, 3))
    (hpre : ∀ vm₁, s.WarmedH vm₁ → Pre ⟨T.setVm vm₁, locs, cells, slots⟩ (Value.ref b :: argsL).toArray) :
    ∃ (v : Option Value) (vm₁ : Vm) (B : Pt), s.WarmedH vm₁ ∧ Stand p l e R s m args below meth c B.U B.locs B.cells B.slots ∧ Post ⟨T.setVm vm₁, locs, cells, slots⟩ (Value.ref b :: argsL).toArray v B ∧
      ∀ target, Steps p.tables e below (B.U.setTop { g with pc := g.pc + 3, stack := v.toList ++ rest }) target → Steps p.tables e below (T.setTop g) target := by
  obtain ⟨mk, methM, hnamed, hmethM, hstM, habM⟩ := Cond.instanceMethod_spec hinst
  obtain ⟨m8, methM', cM, hn8, hmethM', -, -, -, -, -, -, hsigM⟩ := Cond.codeWith_spec hcode
  cases Option.some.inj (hn8.symm.trans hnamed)
  cases hmethM.symm.trans hmethM'
  obtain ⟨c2, r2, m2, q1, q2, q3, q4, kP, hkP, hkPi⟩ := Cond.selects_spec hsel
  cases hcls.symm.trans q1
  cases (State.methodFound?_of_named hnamed hy).symm.trans q2
  cases hnamed.symm.trans q3
  have hselP : selectMethod e.platform s.vm cellB.cls mk = .method mk := by rw [Launch.admits_selectMethod X.admits]; exact q4
  obtain ⟨vm₁, X₁, hstep₁⟩ := X.invokevirtual hexec hown hlink hnamed hmethM hstM hkP hkPi hy (a := b) (cell := cellB) hcell
    (fun z h => by rw [h] at hobj; cases hobj) hselP hmethM habM hkP hkPi (g := g) hg (argsL := argsL) (rest := rest) (hlen _ hsigM) hstack hdg
  obtain ⟨v, B, X', hpost, hsteps⟩ := hK m meth c ⟨T.setVm vm₁, locs, cells, slots⟩ { g with stack := rest } (.invokevirtual index) mk (Value.ref b :: argsL).toArray X₁ hg hsize hdg hW (X₁.named hnamed) (hpre vm₁ X₁.warmed)
  exact ⟨v, vm₁, B, X₁.warmed, X', hpost, fun target h => hstep₁ _ fun acts => by rw [doInvoke_state]; exact hsteps.trans h⟩
abbrev vx_CVW (R : Room) (s : State) (args : Array Value) (own C : String) (index : Nat) (y : MethodName) (bytes : ByteArray) (maxL : Nat) (ret : Option FieldType) (hh : List (Nat × Nat × Nat × Nat)) (ws : List Cond) (rm : Room) (mc ms n : Nat) : Prop :=
  (rm.cells = mc ∧ rm.slots = ms ∧ rm.frames + 1 ≤ R.frames ∧ 8 + (maxL + 11) + rm.locals ≤ R.locals ∧ (∀ w ∈ ws, ∀ (a' : Array Value) (U : State), s.WarmedH U.vm → w.before a' U = true) ∧ Cond.codeWith y bytes maxL ret hh ∈ ws) ∧
  (Cond.codeWith y bytes maxL ret hh).before args s = true ∧ (Cond.initialized y.cls).before args s = true ∧ (y.cls ≠ "java/lang/invoke/MethodHandle" ∧ y.cls ≠ "java/lang/invoke/VarHandle") ∧
  (∀ sig, parseMethodDescriptor y.desc = some sig → n = sig.parameters.length) ∧ (Cond.methodLink own index y).before args s = true ∧ (Cond.instanceMethod y).before args s = true ∧ (Cond.selects C y y).before args s = true
theorem vx_cwVW {own C : String} {index maxL mc ms : Nat} {y : MethodName} {bytes : ByteArray} {ret : Option FieldType} {hh : List (Nat × Nat × Nat × Nat)} {Ts ws ws' : List Cond} {rm : Room} (n : Nat) (ht : ∀ w ∈ Ts, w.before args s = true) (hT : GoodIn Ts (wsV own index C y ws)) (hw : ws = Cond.codeWith y bytes maxL ret hh :: ws') (hrc : rm.cells = mc) (hrs : rm.slots = ms)
    (hd : y.cls = C ∧ y.cls ≠ "java/lang/invoke/MethodHandle" ∧ y.cls ≠ "java/lang/invoke/VarHandle" ∧ (parseMethodDescriptor y.desc).map (fun d => d.parameters.length) = some n) (hR : rm.frames + 1 ≤ R.frames ∧ 8 + (maxL + 11) + rm.locals ≤ R.locals) :
    vx_CVW R s args own C index y bytes maxL ret hh ws rm mc ms n := by
  obtain ⟨hC, hd⟩ := hd
  subst hC
  have ok : ∀ w ∈ wsV own index y.cls y ws, w.before args s = true := fun w h => ht w (hT w h).1
  have hG : GoodIn Ts ws := fun w h => hT w (by unfold wsV; exact List.mem_append_right _ h)
  have hc : Cond.codeWith y bytes maxL ret hh ∈ ws := by rw [hw]; exact List.mem_cons_self
  refine ⟨⟨hrc, hrs, hR.1, hR.2, pay_in ht hG, hc⟩, ht _ (hG _ hc).1, ok _ (by simp [wsV]), ⟨hd.1, hd.2.1⟩, fun sig h => ?_, ok _ (by simp [wsV]), ok _ (by simp [wsV]), ok _ (by simp [wsV])⟩
  have h2 := hd.2.2
  rw [h] at h2
  exact (Option.some.inj h2).symm
theorem vx_runVW {y : MethodName} {bytes cc : ByteArray} {maxL nL mc ms n index : Nat} {ret : Option FieldType} {hh : List (Nat × Nat × Nat × Nat)} {ws : List Cond} {rm : Room} {Pc : Array Value → State → Prop} {Qc : Array Value → State → Outcome → State → Prop} {free : Addr → Prop} {Ts : List Cond} {own C : String} {b : Addr} {As rest : List Value} {g : JFrame}
    (S : CallFix p m c cc nL s args Ts own) (hM : Met l y ws rm Pc Qc mc ms free) (cw : vx_CVW R s args own C index y bytes maxL ret hh ws rm mc ms n) (hp : PreV s H C b Pc As)
    (hg : g.method = m) (hn : As.length = n) (hsize : g.locals.size = nL) (hstack : g.stack = As.reverse ++ .ref b :: rest) (hW : 2 * g.monitorRoom + (rest.map fun v => v.category).sum ≤ 8) (hdg : decode cc g.pc = .ok (.invokevirtual index, 3)) (hf : cells + mc ≤ R.cells ∧ slots + ms ≤ R.slots) :
    va_Run p l e R s m args below meth c H locs cells slots mc ms g rest (Qc (Value.ref b :: As).toArray) free := by
  obtain ⟨⟨hrc, hrs, hfr, hlo, hws, hcw⟩, hcode, hini, hy, hlen, hl, hin, hse⟩ := cw
  have hK : Back l R p e below s args y 3 8 (PreOf R mc ms Pc) (PostOf Qc mc ms free) := va_backW (hh := hh) (bytes := bytes) (maxL := maxL) (ret := ret) hM hp.1 hrc hrs hfr hlo hws hcw (fun a' U hW => word_at hW (Or.inl (by first | rfl | simp [Cond.onTables, Cond.keeps, Cond.steady])) hini)
  obtain ⟨hx, hb, hml, ho, -⟩ := S
  obtain ⟨-, ⟨cellB, hcB, hoB, hclB⟩, hPc⟩ := hp
  intro T hT X
  obtain ⟨v, vm₁, ⟨U', l2, c2, s2⟩, hW₁, X', ⟨g', mk, t, L, e1, e2, hq, h1, hL, h2, h3⟩, st⟩ := vx_callVW X hx (C := C) (hh := hh) (bytes := bytes) (maxL := maxL) (ret := ret) ho hl hin hse hcode hy hK (by rw [hT]; exact hcB) hoB hclB hg (hsize.trans hml.symm) (argsL := As) (rest := rest) (fun sig h => hn.trans (hlen sig h)) hstack hW (by rw [hb]; exact hdg)
    (fun vm₁ hW₁ => ⟨hf.1, hf.2, hPc (T.setVm vm₁) hT hW₁⟩)
  dsimp only [Pt.U, Pt.locs, Pt.cells, Pt.slots] at X' e1 e2 h1 h2 h3 st
  subst h1; subst h2; subst h3
  exact ⟨v, (T.setVm vm₁).calling g' mk (Value.ref b :: As).toArray, t, U', L, hT, X', hL, e1, e2, hq, st⟩
section
variable {y : MethodName} {bytes cc : ByteArray} {maxL nL mc ms n index : Nat} {ret : Option FieldType} {ws : List Cond} {rm : Room} {Pc : Array Value → State → Prop} {Qc : Array Value → State → Outcome → State → Prop} {XC : String → State → State → Prop} {free : Addr → Prop} {Ts : List Cond} {own C : String} {b : Addr} {As rest : List Value} {g : JFrame}
theorem vx_runVX {hh : List (Nat × Nat × Nat × Nat)} (S : CallFix p m c cc nL s args Ts own) (hM : vx_Met l y ws rm Pc Qc XC mc ms free) (cw : vx_CVW R s args own C index y bytes maxL ret hh ws rm mc ms n) (hp : PreV s H C b Pc As)
    (hg : g.method = m) (hn : As.length = n) (hsize : g.locals.size = nL) (hstack : g.stack = As.reverse ++ .ref b :: rest) (hW : 2 * g.monitorRoom + (rest.map fun v => v.category).sum ≤ 8) (hdg : decode cc g.pc = .ok (.invokevirtual index, 3)) (hf : cells + mc ≤ R.cells ∧ slots + ms ≤ R.slots) :
    vx_Run p l e R s m args below meth c H locs cells slots mc ms g rest (Qc (Value.ref b :: As).toArray) XC free := by
  obtain ⟨⟨hrc, hrs, hfr, hlo, hws, hcw⟩, hcode, hini, hy, hlen, hl, hin, hse⟩ := cw
  have hK : vx_Back l R p e below s args y 3 8 (PreOf R mc ms Pc) (PostOf Qc mc ms free) (vx_Post XC mc ms free) := vx_backW (hh := hh) (bytes := bytes) (maxL := maxL) (ret := ret) hM hp.1 hrc hrs hfr hlo hws hcw (fun a' U hW => word_at hW (Or.inl (by first | rfl | simp [Cond.onTables, Cond.keeps, Cond.steady])) hini)
  obtain ⟨hx, hb, hml, ho, -⟩ := S
  obtain ⟨-, ⟨cellB, hcB, hoB, hclB⟩, hPc⟩ := hp
  intro T hT X
  rcases vx_callVX X hx (C := C) (hh := hh) (bytes := bytes) (maxL := maxL) (ret := ret) ho hl hin hse hcode hy hK (by rw [hT]; exact hcB) hoB hclB hg (hsize.trans hml.symm) (argsL := As) (rest := rest) (fun sig h => hn.trans (hlen sig h)) hstack hW (by rw [hb]; exact hdg)
    (fun vm₁ hW₁ => ⟨hf.1, hf.2, hPc (T.setVm vm₁) hT hW₁⟩) with ⟨v, vm₁, ⟨U', l2, c2, s2⟩, hW₁, X', ⟨g', mk, t, L, e1, e2, hq, h1, hL, h2, h3⟩, st⟩ | ⟨q, vm₁, ⟨U', l2, c2, s2⟩, hW₁, X', ⟨g', mk, t, L, E, ce, e1, e2, hq, hce, hcv, hcl, h1, hL, h2, h3⟩, st⟩
  · dsimp only [Pt.U, Pt.locs, Pt.cells, Pt.slots] at X' e1 e2 h1 h2 h3 st
    subst h1; subst h2; subst h3
    exact Or.inl ⟨v, (T.setVm vm₁).calling g' mk (Value.ref b :: As).toArray, t, U', L, hT, X', hL, e1, e2, hq, st⟩
  · dsimp only [Pt.U, Pt.locs, Pt.cells, Pt.slots] at X' e1 e2 h1 h2 h3 st hcl
    subst h1; subst h2; subst h3
    exact Or.inr ⟨q, (T.setVm vm₁).calling g' mk (Value.ref b :: As).toArray, t, U', L, E, ce, hT, X', hL, e1, e2, hq, hce, hcv, vx_cls hW₁ hcl, st⟩
theorem vx_runSX {hh : List (Nat × Nat × Nat × Nat)} (S : CallFix p m c cc nL s args Ts own) (hM : vx_Met l y ws rm Pc Qc XC mc ms free) (cw : vx_CSW R s args own index y bytes maxL ret hh ws rm mc ms n) (hp : PreS s H Pc As)
    (hg : g.method = m) (hn : As.length = n) (hsize : g.locals.size = nL) (hstack : g.stack = As.reverse ++ rest) (hW : 2 * g.monitorRoom + (rest.map fun v => v.category).sum ≤ 8) (hdg : decode cc g.pc = .ok (.invokestatic index, 3)) (hf : cells + mc ≤ R.cells ∧ slots + ms ≤ R.slots) :
    vx_Run p l e R s m args below meth c H locs cells slots mc ms g rest (Qc As.toArray) XC free := by
  obtain ⟨⟨hrc, hrs, hfr, hlo, hws, hcw⟩, hcode, hini, hy, hlen, hl, hstt⟩ := cw
  have hK : vx_Back l R p e below s args y 3 8 (PreOf R mc ms Pc) (PostOf Qc mc ms free) (vx_Post XC mc ms free) := vx_backW (hh := hh) (bytes := bytes) (maxL := maxL) (ret := ret) hM hp.1 hrc hrs hfr hlo hws hcw (fun a' U hW => word_at hW (Or.inl (by first | rfl | simp [Cond.onTables, Cond.keeps, Cond.steady])) hini)
  obtain ⟨hx, hb, hml, ho, -⟩ := S
  intro T hT X
  rcases vx_callSX X hx (hh := hh) (bytes := bytes) (maxL := maxL) (ret := ret) ho hl hstt hini hcode hy hK hg (hsize.trans hml.symm) (argsL := As) (rest := rest) (fun sig h => hn.trans (hlen sig h)) hstack hW (by rw [hb]; exact hdg)
    (fun vm₁ hW₁ => ⟨hf.1, hf.2, hp.2 (T.setVm vm₁) hT hW₁⟩) with ⟨v, vm₁, ⟨U', l2, c2, s2⟩, hW₁, X', ⟨g', mk, t, L, e1, e2, hq, h1, hL, h2, h3⟩, st⟩ | ⟨q, vm₁, ⟨U', l2, c2, s2⟩, hW₁, X', ⟨g', mk, t, L, E, ce, e1, e2, hq, hce, hcv, hcl, h1, hL, h2, h3⟩, st⟩
  · dsimp only [Pt.U, Pt.locs, Pt.cells, Pt.slots] at X' e1 e2 h1 h2 h3 st
    subst h1; subst h2; subst h3
    exact Or.inl ⟨v, (T.setVm vm₁).calling g' mk As.toArray, t, U', L, hT, X', hL, e1, e2, hq, st⟩
  · dsimp only [Pt.U, Pt.locs, Pt.cells, Pt.slots] at X' e1 e2 h1 h2 h3 st hcl
    subst h1; subst h2; subst h3
    exact Or.inr ⟨q, (T.setVm vm₁).calling g' mk As.toArray, t, U', L, E, ce, hT, X', hL, e1, e2, hq, hce, hcv, vx_cls hW₁ hcl, st⟩
end
end VXH
theorem vx_ofWH {l : Launch} {y : MethodName} {ws ws' : List Cond} {rm : Room} {Pc : Array Value → State → Prop} {Qc : Array Value → State → Outcome → State → Prop} {XC : String → State → State → Prop} {mc ms : Nat} {free : Addr → Prop} {cc : ByteArray} {maxL : Nat} {ret : Option FieldType} {hh : List (Nat × Nat × Nat × Nat)}
    (hy : plainName y.cls = true) (hw : ws = Cond.codeWith y cc maxL ret hh :: ws')
    (body : ∀ p e s m args below meth c s₁, BodyLoose p l y (headSpec ws rm) cc maxL ret e s m args below meth c s₁ → c.maxLocals = maxL → Pc args s →
      W p l e (headSpec ws rm).room s m args below meth c s.heap [] 0 0 (vx_MQ below Qc XC args s mc ms free) (entryFrame m args maxL)) : vx_Met l y ws rm Pc Qc XC mc ms free := by
  refine MetFree.of_bodyS (code := cc) (maxLocals := maxL) (ret := ret) hy ?_ ?_
  · intro args s m h hn
    obtain ⟨m9, meth, c, hn9, h1, h2, h3, h4, -, h5, h6, -⟩ := Cond.codeWith_spec (atoms_spec (ws := ws) h _ (by rw [hw]; exact List.mem_cons_self))
    cases hn.symm.trans hn9
    exact ⟨meth, c, h1, h2, h3, h4, h5, h6⟩
  · intro p e s m args below meth c s₁ B hml hP _
    have hh0 : s₁.heap = s.heap := by rw [B.state]; rfl
    obtain ⟨t, a1, o, b1, b2, b3⟩ := body p e s m args below meth c s₁ B hml hP s₁ hh0 (Stand.of_body B)
    exact ⟨t, o, a1, b1, b2, b3⟩
/-! ===== END ===== -/
end
section
/-! ===== BEGIN printed: names, fields, word lists, decode rows ===== -/
def RX0 : String := "ChicoryRoasters$Bed"
def TX0 : u_T := fun k => match k with
  | 0 => ("ChicoryRoasters$Bed", "grows", "I", false)
  | 1 => ("ChicoryRoasters$Bed", "most", "I", false)
  | _ => ("ChicoryRoasters$Bed", "roots", "I", false)
def tyX0 : Nat → FieldType := fun k => match k with
  | 0 => .int
  | 1 => .int
  | _ => .int
abbrev wsX00 : List Cond := u_ws RX0 TX0 3
theorem nmX0 : ∀ a, a < 3 → ∀ b, b < 3 → a ≠ b → (TX0 a).2.1 ≠ (TX0 b).2.1 := by decide +kernel
theorem tyX0_ok : ∀ k, k < 3 → parseFieldDescriptor (TX0 k).2.2.1 = some (tyX0 k) := by decide +kernel
abbrev cX0_init : ByteArray := prog_2_method_1_code
def yX0_init : MethodName := ⟨RX0, "<init>", "()V"⟩
abbrev cX0_lay : ByteArray := prog_2_method_2_code
def yX0_lay : MethodName := ⟨RX0, "lay", "(II)V"⟩
abbrev cX0_grow : ByteArray := prog_2_method_3_code
def yX0_grow : MethodName := ⟨RX0, "grow", "()V"⟩
abbrev cX0_size : ByteArray := prog_2_method_5_code
def yX0_size : MethodName := ⟨RX0, "size", "()I"⟩
abbrev cX0_tell : ByteArray := prog_2_method_6_code
def yX0_tell : MethodName := ⟨RX0, "tell", "(I)I"⟩
def RX1 : String := "ChicoryRoasters$Card"
def TX1 : u_T := fun k => match k with
  | 0 => ("ChicoryRoasters$Card", "allotted", "I", false)
  | 1 => ("ChicoryRoasters$Card", "picky", "I", false)
  | 2 => ("ChicoryRoasters$Card", "left", "I", false)
  | 3 => ("ChicoryRoasters$Card", "served", "I", false)
  | _ => ("ChicoryRoasters$Card", "refused", "I", false)
def tyX1 : Nat → FieldType := fun k => match k with
  | 0 => .int
  | 1 => .int
  | 2 => .int
  | 3 => .int
  | _ => .int
abbrev wsX10 : List Cond := u_ws RX1 TX1 5
theorem nmX1 : ∀ a, a < 5 → ∀ b, b < 5 → a ≠ b → (TX1 a).2.1 ≠ (TX1 b).2.1 := by decide +kernel
theorem tyX1_ok : ∀ k, k < 5 → parseFieldDescriptor (TX1 k).2.2.1 = some (tyX1 k) := by decide +kernel
abbrev cX1_init : ByteArray := prog_3_method_1_code
def yX1_init : MethodName := ⟨RX1, "<init>", "()V"⟩
abbrev cX1_issue : ByteArray := prog_3_method_2_code
def yX1_issue : MethodName := ⟨RX1, "issue", "(II)V"⟩
abbrev cX1_renew : ByteArray := prog_3_method_3_code
def yX1_renew : MethodName := ⟨RX1, "renew", "()V"⟩
abbrev cX1_serveDay : ByteArray := prog_3_method_4_code
def yX1_serveDay : MethodName := ⟨RX1, "serveDay", "(LChicoryRoasters$Store;)I"⟩
abbrev cX1_serveOne : ByteArray := prog_3_method_5_code
def yX1_serveOne : MethodName := ⟨RX1, "serveOne", "(LChicoryRoasters$Store;)Z"⟩
abbrev cX1_size : ByteArray := prog_3_method_7_code
def yX1_size : MethodName := ⟨RX1, "size", "()I"⟩
abbrev cX1_tell : ByteArray := prog_3_method_8_code
def yX1_tell : MethodName := ⟨RX1, "tell", "(I)I"⟩
def RX2 : String := "ChicoryRoasters$Drum"
def TX2 : u_T := fun k => match k with
  | 0 => ("ChicoryRoasters$Drum", "holds", "I", false)
  | 1 => ("ChicoryRoasters$Drum", "heat", "I", false)
  | 2 => ("ChicoryRoasters$Drum", "kind", "I", false)
  | 3 => ("ChicoryRoasters$Drum", "much", "I", false)
  | _ => ("ChicoryRoasters$Drum", "level", "I", false)
def tyX2 : Nat → FieldType := fun k => match k with
  | 0 => .int
  | 1 => .int
  | 2 => .int
  | 3 => .int
  | _ => .int
abbrev wsX20 : List Cond := u_ws RX2 TX2 5
theorem nmX2 : ∀ a, a < 5 → ∀ b, b < 5 → a ≠ b → (TX2 a).2.1 ≠ (TX2 b).2.1 := by decide +kernel
theorem tyX2_ok : ∀ k, k < 5 → parseFieldDescriptor (TX2 k).2.2.1 = some (tyX2 k) := by decide +kernel
abbrev cX2_init : ByteArray := prog_4_method_1_code
def yX2_init : MethodName := ⟨RX2, "<init>", "()V"⟩
abbrev cX2_install : ByteArray := prog_4_method_2_code
def yX2_install : MethodName := ⟨RX2, "install", "(II)V"⟩
abbrev cX2_fill : ByteArray := prog_4_method_3_code
def yX2_fill : MethodName := ⟨RX2, "fill", "(II)V"⟩
abbrev cX2_warm : ByteArray := prog_4_method_4_code
def yX2_warm : MethodName := ⟨RX2, "warm", "()V"⟩
abbrev cX2_levelAfter : ByteArray := prog_4_method_5_code
def yX2_levelAfter : MethodName := ⟨RX2, "levelAfter", "(I)I"⟩
abbrev cX2_partsAt : ByteArray := prog_4_method_6_code
def yX2_partsAt : MethodName := ⟨RX2, "partsAt", "(I)I"⟩
abbrev cX2_done : ByteArray := prog_4_method_7_code
def yX2_done : MethodName := ⟨RX2, "done", "()I"⟩
abbrev cX2_burnt : ByteArray := prog_4_method_8_code
def yX2_burnt : MethodName := ⟨RX2, "burnt", "()I"⟩
abbrev cX2_size : ByteArray := prog_4_method_11_code
def yX2_size : MethodName := ⟨RX2, "size", "()I"⟩
abbrev cX2_tell : ByteArray := prog_4_method_12_code
def yX2_tell : MethodName := ⟨RX2, "tell", "(I)I"⟩
def RX3 : String := "ChicoryRoasters$Smuggler"
def TX3 : u_T := fun k => match k with
  | 0 => ("ChicoryRoasters$Smuggler", "way", "I", false)
  | 1 => ("ChicoryRoasters$Smuggler", "cargo", "I", false)
  | 2 => ("ChicoryRoasters$Smuggler", "where", "I", false)
  | 3 => ("ChicoryRoasters$Smuggler", "left", "I", false)
  | _ => ("ChicoryRoasters$Smuggler", "arrests", "I", false)
def tyX3 : Nat → FieldType := fun k => match k with
  | 0 => .int
  | 1 => .int
  | 2 => .int
  | 3 => .int
  | _ => .int
abbrev wsX30 : List Cond := u_ws RX3 TX3 5
theorem nmX3 : ∀ a, a < 5 → ∀ b, b < 5 → a ≠ b → (TX3 a).2.1 ≠ (TX3 b).2.1 := by decide +kernel
theorem tyX3_ok : ∀ k, k < 5 → parseFieldDescriptor (TX3 k).2.2.1 = some (tyX3 k) := by decide +kernel
abbrev cX3_init : ByteArray := prog_5_method_1_code
def yX3_init : MethodName := ⟨RX3, "<init>", "()V"⟩
abbrev cX3_hire : ByteArray := prog_5_method_2_code
def yX3_hire : MethodName := ⟨RX3, "hire", "(II)V"⟩
abbrev cX3_setOut : ByteArray := prog_5_method_3_code
def yX3_setOut : MethodName := ⟨RX3, "setOut", "()V"⟩
abbrev cX3_travel : ByteArray := prog_5_method_5_code
def yX3_travel : MethodName := ⟨RX3, "travel", "(Z)I"⟩
abbrev cX3_comeHome : ByteArray := prog_5_method_6_code
def yX3_comeHome : MethodName := ⟨RX3, "comeHome", "()I"⟩
abbrev cX3_size : ByteArray := prog_5_method_8_code
def yX3_size : MethodName := ⟨RX3, "size", "()I"⟩
abbrev cX3_tell : ByteArray := prog_5_method_9_code
def yX3_tell : MethodName := ⟨RX3, "tell", "(I)I"⟩
def RX4 : String := "ChicoryRoasters$Store"
def TX4 : u_T := fun k => match k with
  | 0 => ("ChicoryRoasters$Store", "roots", "I", false)
  | 1 => ("ChicoryRoasters$Store", "beans", "I", false)
  | 2 => ("ChicoryRoasters$Store", "chicory", "I", false)
  | 3 => ("ChicoryRoasters$Store", "coffee", "I", false)
  | 4 => ("ChicoryRoasters$Store", "share", "I", false)
  | 5 => ("ChicoryRoasters$Store", "served", "I", false)
  | _ => ("ChicoryRoasters$Store", "thinned", "I", false)
def tyX4 : Nat → FieldType := fun k => match k with
  | 0 => .int
  | 1 => .int
  | 2 => .int
  | 3 => .int
  | 4 => .int
  | 5 => .int
  | _ => .int
abbrev wsX40 : List Cond := u_ws RX4 TX4 7
theorem nmX4 : ∀ a, a < 7 → ∀ b, b < 7 → a ≠ b → (TX4 a).2.1 ≠ (TX4 b).2.1 := by decide +kernel
theorem tyX4_ok : ∀ k, k < 7 → parseFieldDescriptor (TX4 k).2.2.1 = some (tyX4 k) := by decide +kernel
abbrev cX4_init : ByteArray := prog_6_method_1_code
def yX4_init : MethodName := ⟨RX4, "<init>", "()V"⟩
abbrev cX4_stock : ByteArray := prog_6_method_2_code
def yX4_stock : MethodName := ⟨RX4, "stock", "(I)I"⟩
abbrev cX4_add : ByteArray := prog_6_method_3_code
def yX4_add : MethodName := ⟨RX4, "add", "(II)V"⟩
abbrev cX4_addRoasted : ByteArray := prog_6_method_4_code
def yX4_addRoasted : MethodName := ⟨RX4, "addRoasted", "(II)V"⟩
abbrev cX4_coffeeOfPortion : ByteArray := prog_6_method_5_code
def yX4_coffeeOfPortion : MethodName := ⟨RX4, "coffeeOfPortion", "()I"⟩
abbrev cX4_canMix : ByteArray := prog_6_method_6_code
def yX4_canMix : MethodName := ⟨RX4, "canMix", "(I)Z"⟩
abbrev cX4_servePortion : ByteArray := prog_6_method_7_code
def yX4_servePortion : MethodName := ⟨RX4, "servePortion", "(I)V"⟩
def RX5 : String := "ChicoryRoasters$Teller"
def TX5 : u_T := fun k => match k with
  | _ => ("", "", "", false)
def tyX5 : Nat → FieldType := fun k => match k with
  | _ => .int
abbrev wsX50 : List Cond := u_ws RX5 TX5 0
theorem nmX5 : ∀ a, a < 0 → ∀ b, b < 0 → a ≠ b → (TX5 a).2.1 ≠ (TX5 b).2.1 := by decide +kernel
theorem tyX5_ok : ∀ k, k < 0 → parseFieldDescriptor (TX5 k).2.2.1 = some (tyX5 k) := by decide +kernel
abbrev cX5_init : ByteArray := prog_7_method_1_code
def yX5_init : MethodName := ⟨RX5, "<init>", "()V"⟩
def RX6 : String := "ChicoryRoasters$Town"
def TX6 : u_T := fun k => match k with
  | 0 => ("ChicoryRoasters$Town", "beds", "[LChicoryRoasters$Bed;", true)
  | 1 => ("ChicoryRoasters$Town", "drums", "[LChicoryRoasters$Drum;", true)
  | 2 => ("ChicoryRoasters$Town", "smugglers", "[LChicoryRoasters$Smuggler;", true)
  | 3 => ("ChicoryRoasters$Town", "cards", "[LChicoryRoasters$Card;", true)
  | 4 => ("ChicoryRoasters$Town", "store", "LChicoryRoasters$Store;", true)
  | 5 => ("ChicoryRoasters$Town", "bedCount", "I", false)
  | 6 => ("ChicoryRoasters$Town", "drumCount", "I", false)
  | 7 => ("ChicoryRoasters$Town", "smugglerCount", "I", false)
  | 8 => ("ChicoryRoasters$Town", "cardCount", "I", false)
  | 9 => ("ChicoryRoasters$Town", "day", "I", false)
  | _ => ("ChicoryRoasters$Town", "patrol", "I", false)
def tyX6 : Nat → FieldType := fun k => match k with
  | 0 => .array (.object "ChicoryRoasters$Bed")
  | 1 => .array (.object "ChicoryRoasters$Drum")
  | 2 => .array (.object "ChicoryRoasters$Smuggler")
  | 3 => .array (.object "ChicoryRoasters$Card")
  | 4 => .object "ChicoryRoasters$Store"
  | 5 => .int
  | 6 => .int
  | 7 => .int
  | 8 => .int
  | 9 => .int
  | _ => .int
abbrev wsX60 : List Cond := u_ws RX6 TX6 11
theorem nmX6 : ∀ a, a < 11 → ∀ b, b < 11 → a ≠ b → (TX6 a).2.1 ≠ (TX6 b).2.1 := by decide +kernel
theorem tyX6_ok : ∀ k, k < 11 → parseFieldDescriptor (TX6 k).2.2.1 = some (tyX6 k) := by decide +kernel
abbrev cX6_init : ByteArray := prog_8_method_1_code
def yX6_init : MethodName := ⟨RX6, "<init>", "()V"⟩
abbrev cX6_patrolled : ByteArray := prog_8_method_2_code
def yX6_patrolled : MethodName := ⟨RX6, "patrolled", "(I)Z"⟩
abbrev cX6_live : ByteArray := prog_8_method_3_code
def yX6_live : MethodName := ⟨RX6, "live", "(I)I"⟩
abbrev cX6_travel : ByteArray := prog_8_method_4_code
def yX6_travel : MethodName := ⟨RX6, "travel", "()V"⟩
abbrev cX6_warm : ByteArray := prog_8_method_5_code
def yX6_warm : MethodName := ⟨RX6, "warm", "()V"⟩
abbrev cX6_grow : ByteArray := prog_8_method_6_code
def yX6_grow : MethodName := ⟨RX6, "grow", "()V"⟩
abbrev cX6_serve : ByteArray := prog_8_method_7_code
def yX6_serve : MethodName := ⟨RX6, "serve", "()I"⟩
abbrev cX6_size : ByteArray := prog_8_method_9_code
def yX6_size : MethodName := ⟨RX6, "size", "()I"⟩
abbrev cX6_tell : ByteArray := prog_8_method_10_code
def yX6_tell : MethodName := ⟨RX6, "tell", "(I)I"⟩
def RX7 : String := "ChicoryRoasters"
def TX7 : u_T := fun k => match k with
  | 0 => ("ChicoryRoasters", "town", "LChicoryRoasters$Town;", true)
  | _ => ("ChicoryRoasters", "trial", "LChicoryRoasters$Town;", true)
def tyX7 : Nat → FieldType := fun k => match k with
  | 0 => .object "ChicoryRoasters$Town"
  | _ => .object "ChicoryRoasters$Town"
abbrev wsX70 : List Cond := u_ws RX7 TX7 2
theorem nmX7 : ∀ a, a < 2 → ∀ b, b < 2 → a ≠ b → (TX7 a).2.1 ≠ (TX7 b).2.1 := by decide +kernel
theorem tyX7_ok : ∀ k, k < 2 → parseFieldDescriptor (TX7 k).2.2.1 = some (tyX7 k) := by decide +kernel
abbrev cX7_init : ByteArray := prog_1_method_1_code
def yX7_init : MethodName := ⟨RX7, "<init>", "()V"⟩
abbrev cX7_bed : ByteArray := prog_1_method_2_code
def yX7_bed : MethodName := ⟨RX7, "bed", "(II)I"⟩
abbrev cX7_drum : ByteArray := prog_1_method_3_code
def yX7_drum : MethodName := ⟨RX7, "drum", "(II)I"⟩
abbrev cX7_smuggler : ByteArray := prog_1_method_4_code
def yX7_smuggler : MethodName := ⟨RX7, "smuggler", "(II)I"⟩
abbrev cX7_card : ByteArray := prog_1_method_5_code
def yX7_card : MethodName := ⟨RX7, "card", "(II)I"⟩
abbrev cX7_setPatrol : ByteArray := prog_1_method_6_code
def yX7_setPatrol : MethodName := ⟨RX7, "setPatrol", "(I)I"⟩
abbrev cX7_setShare : ByteArray := prog_1_method_7_code
def yX7_setShare : MethodName := ⟨RX7, "setShare", "(I)I"⟩
abbrev cX7_setHeat : ByteArray := prog_1_method_8_code
def yX7_setHeat : MethodName := ⟨RX7, "setHeat", "(II)I"⟩
abbrev cX7_dig : ByteArray := prog_1_method_9_code
def yX7_dig : MethodName := ⟨RX7, "dig", "(II)I"⟩
abbrev cX7_give : ByteArray := prog_1_method_10_code
def yX7_give : MethodName := ⟨RX7, "give", "(II)I"⟩
abbrev cX7_load : ByteArray := prog_1_method_11_code
def yX7_load : MethodName := ⟨RX7, "load", "(III)I"⟩
abbrev cX7_take : ByteArray := prog_1_method_12_code
def yX7_take : MethodName := ⟨RX7, "take", "(I)I"⟩
abbrev cX7_send : ByteArray := prog_1_method_13_code
def yX7_send : MethodName := ⟨RX7, "send", "(I)I"⟩
abbrev cX7_about : ByteArray := prog_1_method_14_code
def yX7_about : MethodName := ⟨RX7, "about", "(II)I"⟩
abbrev cX7_roast : ByteArray := prog_1_method_15_code
def yX7_roast : MethodName := ⟨RX7, "roast", "(II)I"⟩
abbrev cX7_told : ByteArray := prog_1_method_16_code
def yX7_told : MethodName := ⟨RX7, "told", "(II)I"⟩
abbrev cX7_ration : ByteArray := prog_1_method_17_code
def yX7_ration : MethodName := ⟨RX7, "ration", "(II)I"⟩
abbrev cX7_count : ByteArray := prog_1_method_18_code
def yX7_count : MethodName := ⟨RX7, "count", "(I)I"⟩
abbrev cX7_pass : ByteArray := prog_1_method_19_code
def yX7_pass : MethodName := ⟨RX7, "pass", "(I)I"⟩
abbrev cX7_mean : ByteArray := prog_1_method_24_code
def yX7_mean : MethodName := ⟨RX7, "mean", "()D"⟩
abbrev cX7_checkIndex : ByteArray := prog_1_method_26_code
def yX7_checkIndex : MethodName := ⟨RX7, "checkIndex", "(II)V"⟩
abbrev cX7_checkNumber : ByteArray := prog_1_method_27_code
def yX7_checkNumber : MethodName := ⟨RX7, "checkNumber", "(III)V"⟩
abbrev cX7_checkState : ByteArray := prog_1_method_28_code
def yX7_checkState : MethodName := ⟨RX7, "checkState", "(Z)V"⟩
abbrev cX7_ask : ByteArray := prog_1_method_29_code
def yX7_ask : MethodName := ⟨RX7, "ask", "(LChicoryRoasters$Teller;I)I"⟩
def RX8 : String := "ChicoryRoastersLaw$Sim"
def TX8 : u_T := fun k => match k with
  | 0 => ("ChicoryRoastersLaw$Sim", "day", "I", false)
  | 1 => ("ChicoryRoastersLaw$Sim", "store", "[I", false)
  | 2 => ("ChicoryRoastersLaw$Sim", "parts", "[I", false)
  | 3 => ("ChicoryRoastersLaw$Sim", "served", "I", false)
  | 4 => ("ChicoryRoastersLaw$Sim", "thinned", "I", false)
  | 5 => ("ChicoryRoastersLaw$Sim", "share", "I", false)
  | 6 => ("ChicoryRoastersLaw$Sim", "patrol", "I", false)
  | 7 => ("ChicoryRoastersLaw$Sim", "beds", "[[I", false)
  | 8 => ("ChicoryRoastersLaw$Sim", "drums", "[[I", false)
  | 9 => ("ChicoryRoastersLaw$Sim", "smugglers", "[[I", false)
  | _ => ("ChicoryRoastersLaw$Sim", "cards", "[[I", false)
def tyX8 : Nat → FieldType := fun k => match k with
  | 0 => .int
  | 1 => .array .int
  | 2 => .array .int
  | 3 => .int
  | 4 => .int
  | 5 => .int
  | 6 => .int
  | 7 => .array (.array .int)
  | 8 => .array (.array .int)
  | 9 => .array (.array .int)
  | _ => .array (.array .int)
abbrev wsX80 : List Cond := u_ws RX8 TX8 11
theorem nmX8 : ∀ a, a < 11 → ∀ b, b < 11 → a ≠ b → (TX8 a).2.1 ≠ (TX8 b).2.1 := by decide +kernel
theorem tyX8_ok : ∀ k, k < 11 → parseFieldDescriptor (TX8 k).2.2.1 = some (tyX8 k) := by decide +kernel
abbrev cX8_init : ByteArray := prog_10_method_1_code
def yX8_init : MethodName := ⟨RX8, "<init>", "()V"⟩
abbrev cX8_burnt : ByteArray := prog_10_method_4_code
def yX8_burnt : MethodName := ⟨RX8, "burnt", "(I)I"⟩
abbrev cX8_yields : ByteArray := prog_10_method_5_code
def yX8_yields : MethodName := ⟨RX8, "yields", "([I)I"⟩
abbrev cX8_isThere : ByteArray := prog_10_method_6_code
def yX8_isThere : MethodName := ⟨RX8, "isThere", "(I)Z"⟩
abbrev cX8_pass : ByteArray := prog_10_method_7_code
def yX8_pass : MethodName := ⟨RX8, "pass", "()V"⟩
abbrev cX8_behind : ByteArray := prog_10_method_8_code
def yX8_behind : MethodName := ⟨RX8, "behind", "(I)LChicoryRoastersLaw$Sim;"⟩
abbrev cX8_counted : ByteArray := prog_10_method_9_code
def yX8_counted : MethodName := ⟨RX8, "counted", "(I)I"⟩
abbrev cX8_isSame : ByteArray := prog_10_method_10_code
def yX8_isSame : MethodName := ⟨RX8, "isSame", "(LChicoryRoasters;)Z"⟩
def RX9 : String := "ChicoryRoastersModel"
def TX9 : u_T := fun k => match k with
  | _ => ("", "", "", false)
def tyX9 : Nat → FieldType := fun k => match k with
  | _ => .int
abbrev wsX90 : List Cond := u_ws RX9 TX9 0
theorem nmX9 : ∀ a, a < 0 → ∀ b, b < 0 → a ≠ b → (TX9 a).2.1 ≠ (TX9 b).2.1 := by decide +kernel
theorem tyX9_ok : ∀ k, k < 0 → parseFieldDescriptor (TX9 k).2.2.1 = some (tyX9 k) := by decide +kernel
def RJ9 : String := "java/lang/Math"
def TJ9 : u_T := fun k => match k with
  | _ => ("", "", "", false)
def tyJ9 : Nat → FieldType := fun k => match k with
  | _ => .int
abbrev wsJ90 : List Cond := u_ws RJ9 TJ9 0
theorem nmJ9 : ∀ a, a < 0 → ∀ b, b < 0 → a ≠ b → (TJ9 a).2.1 ≠ (TJ9 b).2.1 := by decide +kernel
theorem tyJ9_ok : ∀ k, k < 0 → parseFieldDescriptor (TJ9 k).2.2.1 = some (tyJ9 k) := by decide +kernel
abbrev cJ9_min_7cf53 : ByteArray := prog_16_method_69_code
def yJ9_min_7cf53 : MethodName := ⟨RJ9, "min", "(II)I"⟩
def RJ0 : String := "java/lang/String"
def TJ0 : u_T := fun k => match k with
  | _ => ("", "", "", false)
def tyJ0 : Nat → FieldType := fun k => match k with
  | _ => .int
abbrev wsJ00 : List Cond := u_ws RJ0 TJ0 0
theorem nmJ0 : ∀ a, a < 0 → ∀ b, b < 0 → a ≠ b → (TJ0 a).2.1 ≠ (TJ0 b).2.1 := by decide +kernel
theorem tyJ0_ok : ∀ k, k < 0 → parseFieldDescriptor (TJ0 k).2.2.1 = some (tyJ0 k) := by decide +kernel
def RL : String := "ChicoryRoastersLaw"
abbrev cL_below : ByteArray := method_2_code
def yL_below : MethodName := ⟨RL, "below", "(II)I"⟩
abbrev cL_cell : ByteArray := method_3_code
def yL_cell : MethodName := ⟨RL, "cell", "([II)I"⟩
abbrev cL_with : ByteArray := method_4_code
def yL_with : MethodName := ⟨RL, "with", "([[I[I)[[I"⟩
abbrev cL_act : ByteArray := method_5_code
def yL_act : MethodName := ⟨RL, "act", "(LChicoryRoasters;LChicoryRoastersLaw$Sim;I)Z"⟩
abbrev cL_build : ByteArray := method_6_code
def yL_build : MethodName := ⟨RL, "build", "(LChicoryRoasters;[I)LChicoryRoastersLaw$Sim;"⟩
abbrev cL_law : ByteArray := code
def yL_law : MethodName := ⟨RL, "law", "([I)Z"⟩
def wsX5_init : List Cond := .code yX5_init cX5_init 1 none :: ([.methodLink RX5 1 objectInit, .instanceMethod objectInit, .code objectInit ⟨#[0xb1]⟩ 1 none])
def wsX0_init : List Cond := .code yX0_init cX0_init 1 none :: ([.instanceMethod yX5_init, .initialized RX5, .code yX5_init cX5_init 1 none, .methodLink RX5 1 objectInit, .instanceMethod objectInit, .code objectInit ⟨#[0xb1]⟩ 1 none])
def wsX0_lay : List Cond := .code yX0_lay cX0_lay 3 none :: ([.fieldLink RX0 7 "ChicoryRoasters$Bed" "grows" "I", .fieldLink RX0 13 "ChicoryRoasters$Bed" "most" "I"] ++ wsX00)
def wsX0_grow : List Cond := .code yX0_grow cX0_grow 1 none :: ([.fieldLink RX0 16 "ChicoryRoasters$Bed" "roots" "I", .fieldLink RX0 7 "ChicoryRoasters$Bed" "grows" "I", .fieldLink RX0 13 "ChicoryRoasters$Bed" "most" "I", .methodLink RX0 19 Lib.Math.min.name, .static Lib.Math.min.name, .initialized "java/lang/Math", .code Lib.Math.min.name Lib.Math.min.code 2 (some .int)] ++ wsX00)
def wsX0_size : List Cond := .code yX0_size cX0_size 1 (some .int) :: ([])
def wsX0_tell : List Cond := .code yX0_tell cX0_tell 2 (some .int) :: ([.fieldLink RX0 7 "ChicoryRoasters$Bed" "grows" "I", .fieldLink RX0 13 "ChicoryRoasters$Bed" "most" "I", .fieldLink RX0 16 "ChicoryRoasters$Bed" "roots" "I"] ++ wsX00)
def wsX1_init : List Cond := .code yX1_init cX1_init 1 none :: ([.instanceMethod yX5_init, .initialized RX5, .code yX5_init cX5_init 1 none, .methodLink RX5 1 objectInit, .instanceMethod objectInit, .code objectInit ⟨#[0xb1]⟩ 1 none])
def wsX1_issue : List Cond := .code yX1_issue cX1_issue 3 none :: ([.fieldLink RX1 9 "ChicoryRoasters$Card" "allotted" "I", .fieldLink RX1 15 "ChicoryRoasters$Card" "picky" "I", .fieldLink RX1 18 "ChicoryRoasters$Card" "left" "I"] ++ wsX10)
def wsX1_renew : List Cond := .code yX1_renew cX1_renew 1 none :: ([.fieldLink RX1 9 "ChicoryRoasters$Card" "allotted" "I", .fieldLink RX1 18 "ChicoryRoasters$Card" "left" "I"] ++ wsX10)
def wsX4_coffeeOfPortion : List Cond := .code yX4_coffeeOfPortion cX4_coffeeOfPortion 1 (some .int) :: ([.fieldLink RX4 9 "ChicoryRoasters$Store" "share" "I", .fieldLink RX4 24 "ChicoryRoasters$Store" "coffee" "I", .methodLink RX4 27 Lib.Math.min.name, .static Lib.Math.min.name, .initialized "java/lang/Math", .code Lib.Math.min.name Lib.Math.min.code 2 (some .int)] ++ wsX40)
def wsX4_canMix : List Cond := .code yX4_canMix cX4_canMix 2 (some .boolean) :: ([.fieldLink RX4 21 "ChicoryRoasters$Store" "chicory" "I"] ++ wsX40)
def wsX4_servePortion : List Cond := .code yX4_servePortion cX4_servePortion 2 none :: ([.fieldLink RX4 9 "ChicoryRoasters$Store" "share" "I", .fieldLink RX4 33 "ChicoryRoasters$Store" "thinned" "I", .fieldLink RX4 24 "ChicoryRoasters$Store" "coffee" "I", .fieldLink RX4 21 "ChicoryRoasters$Store" "chicory" "I", .fieldLink RX4 36 "ChicoryRoasters$Store" "served" "I"] ++ wsX40)
def wsX1_serveOne_r1 : List Cond := [Cond.fieldLink RX1 18 "ChicoryRoasters$Card" "left" "I", Cond.fieldLink RX1 15 "ChicoryRoasters$Card" "picky" "I", Cond.fieldLink RX1 35 "ChicoryRoasters$Card" "refused" "I", Cond.fieldLink RX1 42 "ChicoryRoasters$Card" "served" "I", Cond.methodLink RX1 25 yX4_coffeeOfPortion, Cond.instanceMethod yX4_coffeeOfPortion, Cond.selects RX4 yX4_coffeeOfPortion yX4_coffeeOfPortion, Cond.initialized RX4, Cond.code yX4_coffeeOfPortion cX4_coffeeOfPortion 1 (some .int), Cond.fieldLink RX4 9 "ChicoryRoasters$Store" "share" "I", Cond.fieldLink RX4 24 "ChicoryRoasters$Store" "coffee" "I", Cond.methodLink RX4 27 Lib.Math.min.name, Cond.static Lib.Math.min.name, Cond.initialized "java/lang/Math", Cond.code Lib.Math.min.name Lib.Math.min.code 2 (some .int), Cond.methodLink RX1 31 yX4_canMix, Cond.instanceMethod yX4_canMix, Cond.selects RX4 yX4_canMix yX4_canMix, Cond.code yX4_canMix cX4_canMix 2 (some .boolean), Cond.fieldLink RX4 21 "ChicoryRoasters$Store" "chicory" "I", Cond.methodLink RX1 38 yX4_servePortion, Cond.instanceMethod yX4_servePortion, Cond.selects RX4 yX4_servePortion yX4_servePortion, Cond.code yX4_servePortion cX4_servePortion 2 none]
def wsX1_serveOne_r2 : List Cond := [Cond.fieldLink RX4 33 "ChicoryRoasters$Store" "thinned" "I", Cond.fieldLink RX4 36 "ChicoryRoasters$Store" "served" "I"]
def wsX1_serveOne : List Cond := .code yX1_serveOne cX1_serveOne 3 (some .boolean) :: ((wsX1_serveOne_r1 ++ wsX1_serveOne_r2) ++ wsX10 ++ wsX40)
def wsX1_serveDay_r1 : List Cond := [Cond.methodLink RX1 21 yX1_serveOne, Cond.instanceMethod yX1_serveOne, Cond.selects RX1 yX1_serveOne yX1_serveOne, Cond.initialized RX1, Cond.code yX1_serveOne cX1_serveOne 3 (some .boolean), Cond.fieldLink RX1 18 "ChicoryRoasters$Card" "left" "I", Cond.fieldLink RX1 15 "ChicoryRoasters$Card" "picky" "I", Cond.fieldLink RX1 35 "ChicoryRoasters$Card" "refused" "I", Cond.fieldLink RX1 42 "ChicoryRoasters$Card" "served" "I", Cond.methodLink RX1 25 yX4_coffeeOfPortion, Cond.instanceMethod yX4_coffeeOfPortion, Cond.selects RX4 yX4_coffeeOfPortion yX4_coffeeOfPortion, Cond.initialized RX4, Cond.code yX4_coffeeOfPortion cX4_coffeeOfPortion 1 (some .int), Cond.fieldLink RX4 9 "ChicoryRoasters$Store" "share" "I", Cond.fieldLink RX4 24 "ChicoryRoasters$Store" "coffee" "I", Cond.methodLink RX4 27 Lib.Math.min.name, Cond.static Lib.Math.min.name, Cond.initialized "java/lang/Math", Cond.code Lib.Math.min.name Lib.Math.min.code 2 (some .int), Cond.methodLink RX1 31 yX4_canMix, Cond.instanceMethod yX4_canMix, Cond.selects RX4 yX4_canMix yX4_canMix, Cond.code yX4_canMix cX4_canMix 2 (some .boolean)]
def wsX1_serveDay_r2 : List Cond := [Cond.fieldLink RX4 21 "ChicoryRoasters$Store" "chicory" "I", Cond.methodLink RX1 38 yX4_servePortion, Cond.instanceMethod yX4_servePortion, Cond.selects RX4 yX4_servePortion yX4_servePortion, Cond.code yX4_servePortion cX4_servePortion 2 none, Cond.fieldLink RX4 33 "ChicoryRoasters$Store" "thinned" "I", Cond.fieldLink RX4 36 "ChicoryRoasters$Store" "served" "I"]
def wsX1_serveDay : List Cond := .code yX1_serveDay cX1_serveDay 3 (some .int) :: ((wsX1_serveDay_r1 ++ wsX1_serveDay_r2) ++ wsX10 ++ wsX40)
def wsX1_size : List Cond := .code yX1_size cX1_size 1 (some .int) :: ([])
def wsX1_tell : List Cond := .code yX1_tell cX1_tell 2 (some .int) :: ([.fieldLink RX1 9 "ChicoryRoasters$Card" "allotted" "I", .fieldLink RX1 15 "ChicoryRoasters$Card" "picky" "I", .fieldLink RX1 18 "ChicoryRoasters$Card" "left" "I", .fieldLink RX1 42 "ChicoryRoasters$Card" "served" "I", .fieldLink RX1 35 "ChicoryRoasters$Card" "refused" "I"] ++ wsX10)
def wsX2_init : List Cond := .code yX2_init cX2_init 1 none :: ([.fieldLink RX2 9 "ChicoryRoasters$Drum" "kind" "I", .instanceMethod yX5_init, .initialized RX5, .code yX5_init cX5_init 1 none, .methodLink RX5 1 objectInit, .instanceMethod objectInit, .code objectInit ⟨#[0xb1]⟩ 1 none] ++ wsX20)
def wsX2_install : List Cond := .code yX2_install cX2_install 3 none :: ([.fieldLink RX2 15 "ChicoryRoasters$Drum" "holds" "I", .fieldLink RX2 18 "ChicoryRoasters$Drum" "heat" "I"] ++ wsX20)
def wsX2_fill : List Cond := .code yX2_fill cX2_fill 3 none :: ([.fieldLink RX2 9 "ChicoryRoasters$Drum" "kind" "I", .fieldLink RX2 21 "ChicoryRoasters$Drum" "much" "I", .fieldLink RX2 24 "ChicoryRoasters$Drum" "level" "I"] ++ wsX20)
def wsX2_burnt : List Cond := .code yX2_burnt cX2_burnt 1 (some .int) :: ([.fieldLink RX2 9 "ChicoryRoasters$Drum" "kind" "I"] ++ wsX20)
def wsX2_levelAfter : List Cond := .code yX2_levelAfter cX2_levelAfter 2 (some .int) :: ([.fieldLink RX2 9 "ChicoryRoasters$Drum" "kind" "I", .fieldLink RX2 18 "ChicoryRoasters$Drum" "heat" "I", .methodLink RX2 35 Lib.Math.min.name, .static Lib.Math.min.name, .initialized "java/lang/Math", .code Lib.Math.min.name Lib.Math.min.code 2 (some .int), .methodLink RX2 31 yX2_burnt, .instanceMethod yX2_burnt, .selects RX2 yX2_burnt yX2_burnt, .initialized RX2, .code yX2_burnt cX2_burnt 1 (some .int)] ++ wsX20)
def wsX2_warm : List Cond := .code yX2_warm cX2_warm 1 none :: ([.fieldLink RX2 24 "ChicoryRoasters$Drum" "level" "I", .methodLink RX2 27 yX2_levelAfter, .instanceMethod yX2_levelAfter, .selects RX2 yX2_levelAfter yX2_levelAfter, .initialized RX2, .code yX2_levelAfter cX2_levelAfter 2 (some .int), .fieldLink RX2 9 "ChicoryRoasters$Drum" "kind" "I", .fieldLink RX2 18 "ChicoryRoasters$Drum" "heat" "I", .methodLink RX2 35 Lib.Math.min.name, .static Lib.Math.min.name, .initialized "java/lang/Math", .code Lib.Math.min.name Lib.Math.min.code 2 (some .int), .methodLink RX2 31 yX2_burnt, .instanceMethod yX2_burnt, .selects RX2 yX2_burnt yX2_burnt, .code yX2_burnt cX2_burnt 1 (some .int)] ++ wsX20)
def wsX2_done : List Cond := .code yX2_done cX2_done 1 (some .int) :: ([.fieldLink RX2 9 "ChicoryRoasters$Drum" "kind" "I"] ++ wsX20)
def wsX2_partsAt : List Cond := .code yX2_partsAt cX2_partsAt 3 (some .int) :: ([.fieldLink RX2 9 "ChicoryRoasters$Drum" "kind" "I", .fieldLink RX2 21 "ChicoryRoasters$Drum" "much" "I", .methodLink RX2 41 yX2_done, .instanceMethod yX2_done, .selects RX2 yX2_done yX2_done, .initialized RX2, .code yX2_done cX2_done 1 (some .int), .methodLink RX2 31 yX2_burnt, .instanceMethod yX2_burnt, .selects RX2 yX2_burnt yX2_burnt, .code yX2_burnt cX2_burnt 1 (some .int)] ++ wsX20)
def wsX2_size : List Cond := .code yX2_size cX2_size 1 (some .int) :: ([])
def wsX2_tell : List Cond := .code yX2_tell cX2_tell 2 (some .int) :: ([.fieldLink RX2 15 "ChicoryRoasters$Drum" "holds" "I", .fieldLink RX2 18 "ChicoryRoasters$Drum" "heat" "I", .fieldLink RX2 9 "ChicoryRoasters$Drum" "kind" "I", .fieldLink RX2 21 "ChicoryRoasters$Drum" "much" "I", .fieldLink RX2 24 "ChicoryRoasters$Drum" "level" "I", .methodLink RX2 44 yX2_partsAt, .instanceMethod yX2_partsAt, .selects RX2 yX2_partsAt yX2_partsAt, .initialized RX2, .code yX2_partsAt cX2_partsAt 3 (some .int), .methodLink RX2 41 yX2_done, .instanceMethod yX2_done, .selects RX2 yX2_done yX2_done, .code yX2_done cX2_done 1 (some .int), .methodLink RX2 31 yX2_burnt, .instanceMethod yX2_burnt, .selects RX2 yX2_burnt yX2_burnt, .code yX2_burnt cX2_burnt 1 (some .int)] ++ wsX20)
def wsX3_init : List Cond := .code yX3_init cX3_init 1 none :: ([.instanceMethod yX5_init, .initialized RX5, .code yX5_init cX5_init 1 none, .methodLink RX5 1 objectInit, .instanceMethod objectInit, .code objectInit ⟨#[0xb1]⟩ 1 none])
def wsX3_hire : List Cond := .code yX3_hire cX3_hire 3 none :: ([.fieldLink RX3 9 "ChicoryRoasters$Smuggler" "way" "I", .fieldLink RX3 15 "ChicoryRoasters$Smuggler" "cargo" "I"] ++ wsX30)
def wsX3_setOut : List Cond := .code yX3_setOut cX3_setOut 1 none :: ([.fieldLink RX3 18 "ChicoryRoasters$Smuggler" "where" "I", .fieldLink RX3 9 "ChicoryRoasters$Smuggler" "way" "I", .fieldLink RX3 21 "ChicoryRoasters$Smuggler" "left" "I"] ++ wsX30)
def wsX3_comeHome : List Cond := .code yX3_comeHome cX3_comeHome 2 (some .int) :: ([.fieldLink RX3 18 "ChicoryRoasters$Smuggler" "where" "I", .fieldLink RX3 15 "ChicoryRoasters$Smuggler" "cargo" "I"] ++ wsX30)
def wsX3_travel : List Cond := .code yX3_travel cX3_travel 2 (some .int) :: ([.fieldLink RX3 18 "ChicoryRoasters$Smuggler" "where" "I", .fieldLink RX3 21 "ChicoryRoasters$Smuggler" "left" "I", .fieldLink RX3 9 "ChicoryRoasters$Smuggler" "way" "I", .fieldLink RX3 24 "ChicoryRoasters$Smuggler" "arrests" "I", .methodLink RX3 27 yX3_comeHome, .instanceMethod yX3_comeHome, .selects RX3 yX3_comeHome yX3_comeHome, .initialized RX3, .code yX3_comeHome cX3_comeHome 2 (some .int), .fieldLink RX3 15 "ChicoryRoasters$Smuggler" "cargo" "I"] ++ wsX30)
def wsX3_size : List Cond := .code yX3_size cX3_size 1 (some .int) :: ([])
def wsX3_tell : List Cond := .code yX3_tell cX3_tell 2 (some .int) :: ([.fieldLink RX3 9 "ChicoryRoasters$Smuggler" "way" "I", .fieldLink RX3 15 "ChicoryRoasters$Smuggler" "cargo" "I", .fieldLink RX3 18 "ChicoryRoasters$Smuggler" "where" "I", .fieldLink RX3 21 "ChicoryRoasters$Smuggler" "left" "I", .fieldLink RX3 24 "ChicoryRoasters$Smuggler" "arrests" "I"] ++ wsX30)
def wsX4_init : List Cond := .code yX4_init cX4_init 1 none :: ([.methodLink RX4 3 objectInit, .instanceMethod objectInit, .code objectInit ⟨#[0xb1]⟩ 1 none, .fieldLink RX4 9 "ChicoryRoasters$Store" "share" "I"] ++ wsX40)
def wsX4_stock : List Cond := .code yX4_stock cX4_stock 2 (some .int) :: ([.fieldLink RX4 15 "ChicoryRoasters$Store" "roots" "I", .fieldLink RX4 18 "ChicoryRoasters$Store" "beans" "I"] ++ wsX40)
def wsX4_add : List Cond := .code yX4_add cX4_add 3 none :: ([.fieldLink RX4 15 "ChicoryRoasters$Store" "roots" "I", .fieldLink RX4 18 "ChicoryRoasters$Store" "beans" "I"] ++ wsX40)
def wsX4_addRoasted : List Cond := .code yX4_addRoasted cX4_addRoasted 3 none :: ([.fieldLink RX4 21 "ChicoryRoasters$Store" "chicory" "I", .fieldLink RX4 24 "ChicoryRoasters$Store" "coffee" "I"] ++ wsX40)
def wsX6_init_r1 : List Cond := [Cond.classLink RX6 9 RX0, Cond.fieldLink RX6 11 "ChicoryRoasters$Town" "beds" "[LChicoryRoasters$Bed;", Cond.classLink RX6 17 RX2, Cond.fieldLink RX6 19 "ChicoryRoasters$Town" "drums" "[LChicoryRoasters$Drum;", Cond.classLink RX6 23 RX3, Cond.fieldLink RX6 25 "ChicoryRoasters$Town" "smugglers" "[LChicoryRoasters$Smuggler;", Cond.classLink RX6 29 RX1, Cond.fieldLink RX6 31 "ChicoryRoasters$Town" "cards" "[LChicoryRoasters$Card;", Cond.classLink RX6 35 RX4, Cond.instantiable RX4 7, Cond.initialized RX4, Cond.fieldLink RX6 38 "ChicoryRoasters$Town" "store" "LChicoryRoasters$Store;", Cond.instantiable RX0 3, Cond.initialized RX0, Cond.instantiable RX2 5, Cond.initialized RX2, Cond.instantiable RX3 5, Cond.initialized RX3, Cond.instantiable RX1 5, Cond.initialized RX1, Cond.instanceMethod yX5_init, Cond.initialized RX5, Cond.code yX5_init cX5_init 1 none, Cond.methodLink RX5 1 objectInit]
def wsX6_init_r2 : List Cond := [Cond.instanceMethod objectInit, Cond.code objectInit ⟨#[0xb1]⟩ 1 none, Cond.instanceMethod yX4_init, Cond.code yX4_init cX4_init 1 none, Cond.methodLink RX4 3 objectInit, Cond.fieldLink RX4 9 "ChicoryRoasters$Store" "share" "I", Cond.instanceMethod yX0_init, Cond.code yX0_init cX0_init 1 none, Cond.instanceMethod yX2_init, Cond.code yX2_init cX2_init 1 none, Cond.fieldLink RX2 9 "ChicoryRoasters$Drum" "kind" "I", Cond.instanceMethod yX3_init, Cond.code yX3_init cX3_init 1 none, Cond.instanceMethod yX1_init, Cond.code yX1_init cX1_init 1 none]
def wsX6_init : List Cond := .code yX6_init cX6_init 2 none :: ((wsX6_init_r1 ++ wsX6_init_r2) ++ wsX60 ++ wsX40 ++ wsX00 ++ wsX20 ++ wsX30 ++ wsX10)
def wsX6_patrolled : List Cond := .code yX6_patrolled cX6_patrolled 2 (some .boolean) :: ([.fieldLink RX6 46 "ChicoryRoasters$Town" "patrol" "I"] ++ wsX60)
def wsX6_travel_r1 : List Cond := [Cond.fieldLink RX6 66 "ChicoryRoasters$Town" "smugglerCount" "I", Cond.fieldLink RX6 38 "ChicoryRoasters$Town" "store" "LChicoryRoasters$Store;", Cond.fieldLink RX6 25 "ChicoryRoasters$Town" "smugglers" "[LChicoryRoasters$Smuggler;", Cond.fieldLink RX6 63 "ChicoryRoasters$Town" "day" "I", Cond.methodLink RX6 69 yX6_patrolled, Cond.instanceMethod yX6_patrolled, Cond.selects RX6 yX6_patrolled yX6_patrolled, Cond.initialized RX6, Cond.code yX6_patrolled cX6_patrolled 2 (some .boolean), Cond.fieldLink RX6 46 "ChicoryRoasters$Town" "patrol" "I", Cond.methodLink RX6 73 yX3_travel, Cond.instanceMethod yX3_travel, Cond.selects RX3 yX3_travel yX3_travel, Cond.initialized RX3, Cond.code yX3_travel cX3_travel 2 (some .int), Cond.fieldLink RX3 18 "ChicoryRoasters$Smuggler" "where" "I", Cond.fieldLink RX3 21 "ChicoryRoasters$Smuggler" "left" "I", Cond.fieldLink RX3 9 "ChicoryRoasters$Smuggler" "way" "I", Cond.fieldLink RX3 24 "ChicoryRoasters$Smuggler" "arrests" "I", Cond.methodLink RX3 27 yX3_comeHome, Cond.instanceMethod yX3_comeHome, Cond.selects RX3 yX3_comeHome yX3_comeHome, Cond.code yX3_comeHome cX3_comeHome 2 (some .int), Cond.fieldLink RX3 15 "ChicoryRoasters$Smuggler" "cargo" "I"]
def wsX6_travel_r2 : List Cond := [Cond.methodLink RX6 76 yX4_add, Cond.instanceMethod yX4_add, Cond.selects RX4 yX4_add yX4_add, Cond.initialized RX4, Cond.code yX4_add cX4_add 3 none, Cond.fieldLink RX4 15 "ChicoryRoasters$Store" "roots" "I", Cond.fieldLink RX4 18 "ChicoryRoasters$Store" "beans" "I"]
def wsX6_travel : List Cond := .code yX6_travel cX6_travel 2 none :: ((wsX6_travel_r1 ++ wsX6_travel_r2) ++ wsX60 ++ wsX30 ++ wsX40)
def wsX6_warm : List Cond := .code yX6_warm cX6_warm 2 none :: ([.fieldLink RX6 80 "ChicoryRoasters$Town" "drumCount" "I", .fieldLink RX6 19 "ChicoryRoasters$Town" "drums" "[LChicoryRoasters$Drum;", .methodLink RX6 83 yX2_warm, .instanceMethod yX2_warm, .selects RX2 yX2_warm yX2_warm, .initialized RX2, .code yX2_warm cX2_warm 1 none, .fieldLink RX2 24 "ChicoryRoasters$Drum" "level" "I", .methodLink RX2 27 yX2_levelAfter, .instanceMethod yX2_levelAfter, .selects RX2 yX2_levelAfter yX2_levelAfter, .code yX2_levelAfter cX2_levelAfter 2 (some .int), .fieldLink RX2 9 "ChicoryRoasters$Drum" "kind" "I", .fieldLink RX2 18 "ChicoryRoasters$Drum" "heat" "I", .methodLink RX2 35 Lib.Math.min.name, .static Lib.Math.min.name, .initialized "java/lang/Math", .code Lib.Math.min.name Lib.Math.min.code 2 (some .int), .methodLink RX2 31 yX2_burnt, .instanceMethod yX2_burnt, .selects RX2 yX2_burnt yX2_burnt, .code yX2_burnt cX2_burnt 1 (some .int)] ++ wsX60 ++ wsX20)
def wsX6_grow : List Cond := .code yX6_grow cX6_grow 2 none :: ([.fieldLink RX6 84 "ChicoryRoasters$Town" "bedCount" "I", .fieldLink RX6 11 "ChicoryRoasters$Town" "beds" "[LChicoryRoasters$Bed;", .methodLink RX6 87 yX0_grow, .instanceMethod yX0_grow, .selects RX0 yX0_grow yX0_grow, .initialized RX0, .code yX0_grow cX0_grow 1 none, .fieldLink RX0 16 "ChicoryRoasters$Bed" "roots" "I", .fieldLink RX0 7 "ChicoryRoasters$Bed" "grows" "I", .fieldLink RX0 13 "ChicoryRoasters$Bed" "most" "I", .methodLink RX0 19 Lib.Math.min.name, .static Lib.Math.min.name, .initialized "java/lang/Math", .code Lib.Math.min.name Lib.Math.min.code 2 (some .int)] ++ wsX60 ++ wsX00)
def wsX6_serve_r1 : List Cond := [Cond.fieldLink RX6 88 "ChicoryRoasters$Town" "cardCount" "I", Cond.fieldLink RX6 63 "ChicoryRoasters$Town" "day" "I", Cond.fieldLink RX6 31 "ChicoryRoasters$Town" "cards" "[LChicoryRoasters$Card;", Cond.fieldLink RX6 38 "ChicoryRoasters$Town" "store" "LChicoryRoasters$Store;", Cond.methodLink RX6 91 yX1_renew, Cond.instanceMethod yX1_renew, Cond.selects RX1 yX1_renew yX1_renew, Cond.initialized RX1, Cond.code yX1_renew cX1_renew 1 none, Cond.fieldLink RX1 9 "ChicoryRoasters$Card" "allotted" "I", Cond.fieldLink RX1 18 "ChicoryRoasters$Card" "left" "I", Cond.methodLink RX6 94 yX1_serveDay, Cond.instanceMethod yX1_serveDay, Cond.selects RX1 yX1_serveDay yX1_serveDay, Cond.code yX1_serveDay cX1_serveDay 3 (some .int), Cond.methodLink RX1 21 yX1_serveOne, Cond.instanceMethod yX1_serveOne, Cond.selects RX1 yX1_serveOne yX1_serveOne, Cond.code yX1_serveOne cX1_serveOne 3 (some .boolean), Cond.fieldLink RX1 15 "ChicoryRoasters$Card" "picky" "I", Cond.fieldLink RX1 35 "ChicoryRoasters$Card" "refused" "I", Cond.fieldLink RX1 42 "ChicoryRoasters$Card" "served" "I", Cond.methodLink RX1 25 yX4_coffeeOfPortion, Cond.instanceMethod yX4_coffeeOfPortion]
def wsX6_serve_r2 : List Cond := [Cond.selects RX4 yX4_coffeeOfPortion yX4_coffeeOfPortion, Cond.initialized RX4, Cond.code yX4_coffeeOfPortion cX4_coffeeOfPortion 1 (some .int), Cond.fieldLink RX4 9 "ChicoryRoasters$Store" "share" "I", Cond.fieldLink RX4 24 "ChicoryRoasters$Store" "coffee" "I", Cond.methodLink RX4 27 Lib.Math.min.name, Cond.static Lib.Math.min.name, Cond.initialized "java/lang/Math", Cond.code Lib.Math.min.name Lib.Math.min.code 2 (some .int), Cond.methodLink RX1 31 yX4_canMix, Cond.instanceMethod yX4_canMix, Cond.selects RX4 yX4_canMix yX4_canMix, Cond.code yX4_canMix cX4_canMix 2 (some .boolean), Cond.fieldLink RX4 21 "ChicoryRoasters$Store" "chicory" "I", Cond.methodLink RX1 38 yX4_servePortion, Cond.instanceMethod yX4_servePortion, Cond.selects RX4 yX4_servePortion yX4_servePortion, Cond.code yX4_servePortion cX4_servePortion 2 none, Cond.fieldLink RX4 33 "ChicoryRoasters$Store" "thinned" "I", Cond.fieldLink RX4 36 "ChicoryRoasters$Store" "served" "I"]
def wsX6_serve : List Cond := .code yX6_serve cX6_serve 3 (some .int) :: ((wsX6_serve_r1 ++ wsX6_serve_r2) ++ wsX60 ++ wsX10 ++ wsX40)
def wsX6_live_r1 : List Cond := [Cond.fieldLink RX6 63 "ChicoryRoasters$Town" "day" "I", Cond.methodLink RX6 50 yX6_travel, Cond.instanceMethod yX6_travel, Cond.selects RX6 yX6_travel yX6_travel, Cond.initialized RX6, Cond.code yX6_travel cX6_travel 2 none, Cond.fieldLink RX6 66 "ChicoryRoasters$Town" "smugglerCount" "I", Cond.fieldLink RX6 38 "ChicoryRoasters$Town" "store" "LChicoryRoasters$Store;", Cond.fieldLink RX6 25 "ChicoryRoasters$Town" "smugglers" "[LChicoryRoasters$Smuggler;", Cond.methodLink RX6 69 yX6_patrolled, Cond.instanceMethod yX6_patrolled, Cond.selects RX6 yX6_patrolled yX6_patrolled, Cond.code yX6_patrolled cX6_patrolled 2 (some .boolean), Cond.fieldLink RX6 46 "ChicoryRoasters$Town" "patrol" "I", Cond.methodLink RX6 73 yX3_travel, Cond.instanceMethod yX3_travel, Cond.selects RX3 yX3_travel yX3_travel, Cond.initialized RX3, Cond.code yX3_travel cX3_travel 2 (some .int), Cond.fieldLink RX3 18 "ChicoryRoasters$Smuggler" "where" "I", Cond.fieldLink RX3 21 "ChicoryRoasters$Smuggler" "left" "I", Cond.fieldLink RX3 9 "ChicoryRoasters$Smuggler" "way" "I", Cond.fieldLink RX3 24 "ChicoryRoasters$Smuggler" "arrests" "I", Cond.methodLink RX3 27 yX3_comeHome]
def wsX6_live_r2 : List Cond := [Cond.instanceMethod yX3_comeHome, Cond.selects RX3 yX3_comeHome yX3_comeHome, Cond.code yX3_comeHome cX3_comeHome 2 (some .int), Cond.fieldLink RX3 15 "ChicoryRoasters$Smuggler" "cargo" "I", Cond.methodLink RX6 76 yX4_add, Cond.instanceMethod yX4_add, Cond.selects RX4 yX4_add yX4_add, Cond.initialized RX4, Cond.code yX4_add cX4_add 3 none, Cond.fieldLink RX4 15 "ChicoryRoasters$Store" "roots" "I", Cond.fieldLink RX4 18 "ChicoryRoasters$Store" "beans" "I", Cond.methodLink RX6 53 yX6_warm, Cond.instanceMethod yX6_warm, Cond.selects RX6 yX6_warm yX6_warm, Cond.code yX6_warm cX6_warm 2 none, Cond.fieldLink RX6 80 "ChicoryRoasters$Town" "drumCount" "I", Cond.fieldLink RX6 19 "ChicoryRoasters$Town" "drums" "[LChicoryRoasters$Drum;", Cond.methodLink RX6 83 yX2_warm, Cond.instanceMethod yX2_warm, Cond.selects RX2 yX2_warm yX2_warm, Cond.initialized RX2, Cond.code yX2_warm cX2_warm 1 none, Cond.fieldLink RX2 24 "ChicoryRoasters$Drum" "level" "I", Cond.methodLink RX2 27 yX2_levelAfter]
def wsX6_live_r3 : List Cond := [Cond.instanceMethod yX2_levelAfter, Cond.selects RX2 yX2_levelAfter yX2_levelAfter, Cond.code yX2_levelAfter cX2_levelAfter 2 (some .int), Cond.fieldLink RX2 9 "ChicoryRoasters$Drum" "kind" "I", Cond.fieldLink RX2 18 "ChicoryRoasters$Drum" "heat" "I", Cond.methodLink RX2 35 Lib.Math.min.name, Cond.static Lib.Math.min.name, Cond.initialized "java/lang/Math", Cond.code Lib.Math.min.name Lib.Math.min.code 2 (some .int), Cond.methodLink RX2 31 yX2_burnt, Cond.instanceMethod yX2_burnt, Cond.selects RX2 yX2_burnt yX2_burnt, Cond.code yX2_burnt cX2_burnt 1 (some .int), Cond.methodLink RX6 56 yX6_grow, Cond.instanceMethod yX6_grow, Cond.selects RX6 yX6_grow yX6_grow, Cond.code yX6_grow cX6_grow 2 none, Cond.fieldLink RX6 84 "ChicoryRoasters$Town" "bedCount" "I", Cond.fieldLink RX6 11 "ChicoryRoasters$Town" "beds" "[LChicoryRoasters$Bed;", Cond.methodLink RX6 87 yX0_grow, Cond.instanceMethod yX0_grow, Cond.selects RX0 yX0_grow yX0_grow, Cond.initialized RX0, Cond.code yX0_grow cX0_grow 1 none]
def wsX6_live_r4 : List Cond := [Cond.fieldLink RX0 16 "ChicoryRoasters$Bed" "roots" "I", Cond.fieldLink RX0 7 "ChicoryRoasters$Bed" "grows" "I", Cond.fieldLink RX0 13 "ChicoryRoasters$Bed" "most" "I", Cond.methodLink RX0 19 Lib.Math.min.name, Cond.methodLink RX6 59 yX6_serve, Cond.instanceMethod yX6_serve, Cond.selects RX6 yX6_serve yX6_serve, Cond.code yX6_serve cX6_serve 3 (some .int), Cond.fieldLink RX6 88 "ChicoryRoasters$Town" "cardCount" "I", Cond.fieldLink RX6 31 "ChicoryRoasters$Town" "cards" "[LChicoryRoasters$Card;", Cond.methodLink RX6 91 yX1_renew, Cond.instanceMethod yX1_renew, Cond.selects RX1 yX1_renew yX1_renew, Cond.initialized RX1, Cond.code yX1_renew cX1_renew 1 none, Cond.fieldLink RX1 9 "ChicoryRoasters$Card" "allotted" "I", Cond.fieldLink RX1 18 "ChicoryRoasters$Card" "left" "I", Cond.methodLink RX6 94 yX1_serveDay, Cond.instanceMethod yX1_serveDay, Cond.selects RX1 yX1_serveDay yX1_serveDay, Cond.code yX1_serveDay cX1_serveDay 3 (some .int), Cond.methodLink RX1 21 yX1_serveOne, Cond.instanceMethod yX1_serveOne, Cond.selects RX1 yX1_serveOne yX1_serveOne]
def wsX6_live_r5 : List Cond := [Cond.code yX1_serveOne cX1_serveOne 3 (some .boolean), Cond.fieldLink RX1 15 "ChicoryRoasters$Card" "picky" "I", Cond.fieldLink RX1 35 "ChicoryRoasters$Card" "refused" "I", Cond.fieldLink RX1 42 "ChicoryRoasters$Card" "served" "I", Cond.methodLink RX1 25 yX4_coffeeOfPortion, Cond.instanceMethod yX4_coffeeOfPortion, Cond.selects RX4 yX4_coffeeOfPortion yX4_coffeeOfPortion, Cond.code yX4_coffeeOfPortion cX4_coffeeOfPortion 1 (some .int), Cond.fieldLink RX4 9 "ChicoryRoasters$Store" "share" "I", Cond.fieldLink RX4 24 "ChicoryRoasters$Store" "coffee" "I", Cond.methodLink RX4 27 Lib.Math.min.name, Cond.methodLink RX1 31 yX4_canMix, Cond.instanceMethod yX4_canMix, Cond.selects RX4 yX4_canMix yX4_canMix, Cond.code yX4_canMix cX4_canMix 2 (some .boolean), Cond.fieldLink RX4 21 "ChicoryRoasters$Store" "chicory" "I", Cond.methodLink RX1 38 yX4_servePortion, Cond.instanceMethod yX4_servePortion, Cond.selects RX4 yX4_servePortion yX4_servePortion, Cond.code yX4_servePortion cX4_servePortion 2 none, Cond.fieldLink RX4 33 "ChicoryRoasters$Store" "thinned" "I", Cond.fieldLink RX4 36 "ChicoryRoasters$Store" "served" "I"]
def wsX6_live : List Cond := .code yX6_live cX6_live 4 (some .int) :: ((wsX6_live_r1 ++ (wsX6_live_r2 ++ (wsX6_live_r3 ++ (wsX6_live_r4 ++ wsX6_live_r5)))) ++ wsX60 ++ wsX30 ++ wsX40 ++ wsX20 ++ wsX00 ++ wsX10)
def wsX6_size : List Cond := .code yX6_size cX6_size 1 (some .int) :: ([])
def wsX6_tell : List Cond := .code yX6_tell cX6_tell 2 (some .int) :: ([.fieldLink RX6 63 "ChicoryRoasters$Town" "day" "I", .fieldLink RX6 38 "ChicoryRoasters$Town" "store" "LChicoryRoasters$Store;", .fieldLink RX6 114 "ChicoryRoasters$Store" "roots" "I", .fieldLink RX6 117 "ChicoryRoasters$Store" "beans" "I", .fieldLink RX6 120 "ChicoryRoasters$Store" "chicory" "I", .fieldLink RX6 123 "ChicoryRoasters$Store" "coffee" "I", .fieldLink RX6 126 "ChicoryRoasters$Store" "served" "I", .fieldLink RX6 129 "ChicoryRoasters$Store" "thinned" "I", .fieldLink RX6 132 "ChicoryRoasters$Store" "share" "I", .fieldLink RX6 46 "ChicoryRoasters$Town" "patrol" "I"] ++ wsX60 ++ wsX40)
def wsX7_init_r1 : List Cond := [Cond.methodLink RX7 1 objectInit, Cond.instanceMethod objectInit, Cond.code objectInit ⟨#[0xb1]⟩ 1 none, Cond.classLink RX7 7 RX6, Cond.instantiable RX6 11, Cond.initialized RX6, Cond.fieldLink RX7 10 "ChicoryRoasters" "town" "LChicoryRoasters$Town;", Cond.fieldLink RX7 16 "ChicoryRoasters" "trial" "LChicoryRoasters$Town;", Cond.methodLink RX7 9 yX6_init, Cond.instanceMethod yX6_init, Cond.code yX6_init cX6_init 2 none, Cond.classLink RX6 9 RX0, Cond.fieldLink RX6 11 "ChicoryRoasters$Town" "beds" "[LChicoryRoasters$Bed;", Cond.classLink RX6 17 RX2, Cond.fieldLink RX6 19 "ChicoryRoasters$Town" "drums" "[LChicoryRoasters$Drum;", Cond.classLink RX6 23 RX3, Cond.fieldLink RX6 25 "ChicoryRoasters$Town" "smugglers" "[LChicoryRoasters$Smuggler;", Cond.classLink RX6 29 RX1, Cond.fieldLink RX6 31 "ChicoryRoasters$Town" "cards" "[LChicoryRoasters$Card;", Cond.classLink RX6 35 RX4, Cond.instantiable RX4 7, Cond.initialized RX4, Cond.fieldLink RX6 38 "ChicoryRoasters$Town" "store" "LChicoryRoasters$Store;", Cond.instantiable RX0 3]
def wsX7_init_r2 : List Cond := [Cond.initialized RX0, Cond.instantiable RX2 5, Cond.initialized RX2, Cond.instantiable RX3 5, Cond.initialized RX3, Cond.instantiable RX1 5, Cond.initialized RX1, Cond.instanceMethod yX5_init, Cond.initialized RX5, Cond.code yX5_init cX5_init 1 none, Cond.methodLink RX5 1 objectInit, Cond.instanceMethod yX4_init, Cond.code yX4_init cX4_init 1 none, Cond.methodLink RX4 3 objectInit, Cond.fieldLink RX4 9 "ChicoryRoasters$Store" "share" "I", Cond.instanceMethod yX0_init, Cond.code yX0_init cX0_init 1 none, Cond.instanceMethod yX2_init, Cond.code yX2_init cX2_init 1 none, Cond.fieldLink RX2 9 "ChicoryRoasters$Drum" "kind" "I", Cond.instanceMethod yX3_init, Cond.code yX3_init cX3_init 1 none, Cond.instanceMethod yX1_init, Cond.code yX1_init cX1_init 1 none]
def wsX7_init : List Cond := .code yX7_init cX7_init 1 none :: ((wsX7_init_r1 ++ wsX7_init_r2) ++ wsX60 ++ wsX70 ++ wsX40 ++ wsX00 ++ wsX20 ++ wsX30 ++ wsX10)
def wsX7_checkNumber : List Cond := .code yX7_checkNumber cX7_checkNumber 3 none :: ([.classLink RX7 182 "java/lang/IllegalArgumentException", .initialized "java/lang/IllegalArgumentException"] ++ (vx_atS RX7 186 "java/lang/IllegalArgumentException" ["java/lang/RuntimeException", "java/lang/Exception"]).filter goodWord)
def wsX7_checkState : List Cond := .code yX7_checkState cX7_checkState 1 none :: ([.classLink RX7 187 "java/lang/IllegalStateException", .initialized "java/lang/IllegalStateException"] ++ (vx_atS RX7 191 "java/lang/IllegalStateException" ["java/lang/RuntimeException", "java/lang/Exception"]).filter goodWord)
def wsX7_bed : List Cond := .code yX7_bed cX7_bed 3 (some .int) :: ([.fieldLink RX7 10 "ChicoryRoasters" "town" "LChicoryRoasters$Town;", .fieldLink RX7 23 "ChicoryRoasters$Town" "bedCount" "I", .fieldLink RX7 31 "ChicoryRoasters$Town" "beds" "[LChicoryRoasters$Bed;", .methodLink RX7 19 yX7_checkNumber, .static yX7_checkNumber, .initialized RX7, .code yX7_checkNumber cX7_checkNumber 3 none, .classLink RX7 182 "java/lang/IllegalArgumentException", .initialized "java/lang/IllegalArgumentException", .methodLink RX7 27 yX7_checkState, .static yX7_checkState, .code yX7_checkState cX7_checkState 1 none, .classLink RX7 187 "java/lang/IllegalStateException", .initialized "java/lang/IllegalStateException", .methodLink RX7 35 yX0_lay, .instanceMethod yX0_lay, .selects RX0 yX0_lay yX0_lay, .initialized RX0, .code yX0_lay cX0_lay 3 none, .fieldLink RX0 7 "ChicoryRoasters$Bed" "grows" "I", .fieldLink RX0 13 "ChicoryRoasters$Bed" "most" "I"] ++ wsX70 ++ wsX60 ++ wsX00 ++ (vx_atS RX7 186 "java/lang/IllegalArgumentException" ["java/lang/RuntimeException", "java/lang/Exception"]).filter goodWord ++ (vx_atS RX7 191 "java/lang/IllegalStateException" ["java/lang/RuntimeException", "java/lang/Exception"]).filter goodWord)
def wsX7_drum : List Cond := .code yX7_drum cX7_drum 3 (some .int) :: ([.fieldLink RX7 10 "ChicoryRoasters" "town" "LChicoryRoasters$Town;", .fieldLink RX7 41 "ChicoryRoasters$Town" "drumCount" "I", .fieldLink RX7 44 "ChicoryRoasters$Town" "drums" "[LChicoryRoasters$Drum;", .methodLink RX7 19 yX7_checkNumber, .static yX7_checkNumber, .initialized RX7, .code yX7_checkNumber cX7_checkNumber 3 none, .classLink RX7 182 "java/lang/IllegalArgumentException", .initialized "java/lang/IllegalArgumentException", .methodLink RX7 27 yX7_checkState, .static yX7_checkState, .code yX7_checkState cX7_checkState 1 none, .classLink RX7 187 "java/lang/IllegalStateException", .initialized "java/lang/IllegalStateException", .methodLink RX7 48 yX2_install, .instanceMethod yX2_install, .selects RX2 yX2_install yX2_install, .initialized RX2, .code yX2_install cX2_install 3 none, .fieldLink RX2 15 "ChicoryRoasters$Drum" "holds" "I", .fieldLink RX2 18 "ChicoryRoasters$Drum" "heat" "I"] ++ wsX70 ++ wsX60 ++ wsX20 ++ (vx_atS RX7 186 "java/lang/IllegalArgumentException" ["java/lang/RuntimeException", "java/lang/Exception"]).filter goodWord ++ (vx_atS RX7 191 "java/lang/IllegalStateException" ["java/lang/RuntimeException", "java/lang/Exception"]).filter goodWord)
def wsX7_smuggler : List Cond := .code yX7_smuggler cX7_smuggler 3 (some .int) :: ([.fieldLink RX7 10 "ChicoryRoasters" "town" "LChicoryRoasters$Town;", .fieldLink RX7 53 "ChicoryRoasters$Town" "smugglerCount" "I", .fieldLink RX7 56 "ChicoryRoasters$Town" "smugglers" "[LChicoryRoasters$Smuggler;", .methodLink RX7 19 yX7_checkNumber, .static yX7_checkNumber, .initialized RX7, .code yX7_checkNumber cX7_checkNumber 3 none, .classLink RX7 182 "java/lang/IllegalArgumentException", .initialized "java/lang/IllegalArgumentException", .methodLink RX7 27 yX7_checkState, .static yX7_checkState, .code yX7_checkState cX7_checkState 1 none, .classLink RX7 187 "java/lang/IllegalStateException", .initialized "java/lang/IllegalStateException", .methodLink RX7 60 yX3_hire, .instanceMethod yX3_hire, .selects RX3 yX3_hire yX3_hire, .initialized RX3, .code yX3_hire cX3_hire 3 none, .fieldLink RX3 9 "ChicoryRoasters$Smuggler" "way" "I", .fieldLink RX3 15 "ChicoryRoasters$Smuggler" "cargo" "I"] ++ wsX70 ++ wsX60 ++ wsX30 ++ (vx_atS RX7 186 "java/lang/IllegalArgumentException" ["java/lang/RuntimeException", "java/lang/Exception"]).filter goodWord ++ (vx_atS RX7 191 "java/lang/IllegalStateException" ["java/lang/RuntimeException", "java/lang/Exception"]).filter goodWord)
def wsX7_card : List Cond := .code yX7_card cX7_card 3 (some .int) :: ([.fieldLink RX7 10 "ChicoryRoasters" "town" "LChicoryRoasters$Town;", .fieldLink RX7 65 "ChicoryRoasters$Town" "cardCount" "I", .fieldLink RX7 68 "ChicoryRoasters$Town" "cards" "[LChicoryRoasters$Card;", .methodLink RX7 19 yX7_checkNumber, .static yX7_checkNumber, .initialized RX7, .code yX7_checkNumber cX7_checkNumber 3 none, .classLink RX7 182 "java/lang/IllegalArgumentException", .initialized "java/lang/IllegalArgumentException", .methodLink RX7 27 yX7_checkState, .static yX7_checkState, .code yX7_checkState cX7_checkState 1 none, .classLink RX7 187 "java/lang/IllegalStateException", .initialized "java/lang/IllegalStateException", .methodLink RX7 72 yX1_issue, .instanceMethod yX1_issue, .selects RX1 yX1_issue yX1_issue, .initialized RX1, .code yX1_issue cX1_issue 3 none, .fieldLink RX1 9 "ChicoryRoasters$Card" "allotted" "I", .fieldLink RX1 15 "ChicoryRoasters$Card" "picky" "I", .fieldLink RX1 18 "ChicoryRoasters$Card" "left" "I"] ++ wsX70 ++ wsX60 ++ wsX10 ++ (vx_atS RX7 186 "java/lang/IllegalArgumentException" ["java/lang/RuntimeException", "java/lang/Exception"]).filter goodWord ++ (vx_atS RX7 191 "java/lang/IllegalStateException" ["java/lang/RuntimeException", "java/lang/Exception"]).filter goodWord)
def wsX7_setPatrol : List Cond := .code yX7_setPatrol cX7_setPatrol 3 (some .int) :: ([.fieldLink RX7 10 "ChicoryRoasters" "town" "LChicoryRoasters$Town;", .fieldLink RX7 77 "ChicoryRoasters$Town" "patrol" "I", .methodLink RX7 19 yX7_checkNumber, .static yX7_checkNumber, .initialized RX7, .code yX7_checkNumber cX7_checkNumber 3 none, .classLink RX7 182 "java/lang/IllegalArgumentException", .initialized "java/lang/IllegalArgumentException"] ++ wsX70 ++ wsX60 ++ (vx_atS RX7 186 "java/lang/IllegalArgumentException" ["java/lang/RuntimeException", "java/lang/Exception"]).filter goodWord)
def wsX7_setShare : List Cond := .code yX7_setShare cX7_setShare 3 (some .int) :: ([.fieldLink RX7 10 "ChicoryRoasters" "town" "LChicoryRoasters$Town;", .fieldLink RX7 80 "ChicoryRoasters$Town" "store" "LChicoryRoasters$Store;", .fieldLink RX7 84 "ChicoryRoasters$Store" "share" "I", .methodLink RX7 19 yX7_checkNumber, .static yX7_checkNumber, .initialized RX7, .code yX7_checkNumber cX7_checkNumber 3 none, .classLink RX7 182 "java/lang/IllegalArgumentException", .initialized "java/lang/IllegalArgumentException"] ++ wsX70 ++ wsX60 ++ wsX40 ++ (vx_atS RX7 186 "java/lang/IllegalArgumentException" ["java/lang/RuntimeException", "java/lang/Exception"]).filter goodWord)
def wsX7_checkIndex : List Cond := .code yX7_checkIndex cX7_checkIndex 2 none :: ([.classLink RX7 139 "java/lang/IndexOutOfBoundsException", .initialized "java/lang/IndexOutOfBoundsException"] ++ (vx_atS RX7 143 "java/lang/IndexOutOfBoundsException" ["java/lang/RuntimeException", "java/lang/Exception"]).filter goodWord)
def wsX7_setHeat : List Cond := .code yX7_setHeat cX7_setHeat 4 (some .int) :: ([.fieldLink RX7 10 "ChicoryRoasters" "town" "LChicoryRoasters$Town;", .fieldLink RX7 41 "ChicoryRoasters$Town" "drumCount" "I", .fieldLink RX7 44 "ChicoryRoasters$Town" "drums" "[LChicoryRoasters$Drum;", .fieldLink RX7 92 "ChicoryRoasters$Drum" "heat" "I", .methodLink RX7 89 yX7_checkIndex, .static yX7_checkIndex, .initialized RX7, .code yX7_checkIndex cX7_checkIndex 2 none, .classLink RX7 139 "java/lang/IndexOutOfBoundsException", .initialized "java/lang/IndexOutOfBoundsException", .methodLink RX7 19 yX7_checkNumber, .static yX7_checkNumber, .code yX7_checkNumber cX7_checkNumber 3 none, .classLink RX7 182 "java/lang/IllegalArgumentException", .initialized "java/lang/IllegalArgumentException"] ++ wsX70 ++ wsX60 ++ wsX20 ++ (vx_atS RX7 143 "java/lang/IndexOutOfBoundsException" ["java/lang/RuntimeException", "java/lang/Exception"]).filter goodWord ++ (vx_atS RX7 186 "java/lang/IllegalArgumentException" ["java/lang/RuntimeException", "java/lang/Exception"]).filter goodWord)
def wsX7_dig_r1 : List Cond := [Cond.fieldLink RX7 10 "ChicoryRoasters" "town" "LChicoryRoasters$Town;", Cond.fieldLink RX7 23 "ChicoryRoasters$Town" "bedCount" "I", Cond.fieldLink RX7 31 "ChicoryRoasters$Town" "beds" "[LChicoryRoasters$Bed;", Cond.fieldLink RX7 95 "ChicoryRoasters$Bed" "roots" "I", Cond.fieldLink RX7 80 "ChicoryRoasters$Town" "store" "LChicoryRoasters$Store;", Cond.methodLink RX7 89 yX7_checkIndex, Cond.static yX7_checkIndex, Cond.initialized RX7, Cond.code yX7_checkIndex cX7_checkIndex 2 none, Cond.classLink RX7 139 "java/lang/IndexOutOfBoundsException", Cond.initialized "java/lang/IndexOutOfBoundsException", Cond.methodLink RX7 19 yX7_checkNumber, Cond.static yX7_checkNumber, Cond.code yX7_checkNumber cX7_checkNumber 3 none, Cond.classLink RX7 182 "java/lang/IllegalArgumentException", Cond.initialized "java/lang/IllegalArgumentException", Cond.methodLink RX7 27 yX7_checkState, Cond.static yX7_checkState, Cond.code yX7_checkState cX7_checkState 1 none, Cond.classLink RX7 187 "java/lang/IllegalStateException", Cond.initialized "java/lang/IllegalStateException", Cond.methodLink RX7 98 yX4_add, Cond.instanceMethod yX4_add, Cond.selects RX4 yX4_add yX4_add]
def wsX7_dig_r2 : List Cond := [Cond.initialized RX4, Cond.code yX4_add cX4_add 3 none, Cond.fieldLink RX4 15 "ChicoryRoasters$Store" "roots" "I", Cond.fieldLink RX4 18 "ChicoryRoasters$Store" "beans" "I"]
def wsX7_dig : List Cond := .code yX7_dig cX7_dig 3 (some .int) :: ((wsX7_dig_r1 ++ wsX7_dig_r2) ++ wsX70 ++ wsX60 ++ wsX00 ++ wsX40 ++ (vx_atS RX7 143 "java/lang/IndexOutOfBoundsException" ["java/lang/RuntimeException", "java/lang/Exception"]).filter goodWord ++ (vx_atS RX7 186 "java/lang/IllegalArgumentException" ["java/lang/RuntimeException", "java/lang/Exception"]).filter goodWord ++ (vx_atS RX7 191 "java/lang/IllegalStateException" ["java/lang/RuntimeException", "java/lang/Exception"]).filter goodWord)
def wsX7_give : List Cond := .code yX7_give cX7_give 3 (some .int) :: ([.fieldLink RX7 10 "ChicoryRoasters" "town" "LChicoryRoasters$Town;", .fieldLink RX7 80 "ChicoryRoasters$Town" "store" "LChicoryRoasters$Store;", .methodLink RX7 89 yX7_checkIndex, .static yX7_checkIndex, .initialized RX7, .code yX7_checkIndex cX7_checkIndex 2 none, .classLink RX7 139 "java/lang/IndexOutOfBoundsException", .initialized "java/lang/IndexOutOfBoundsException", .methodLink RX7 19 yX7_checkNumber, .static yX7_checkNumber, .code yX7_checkNumber cX7_checkNumber 3 none, .classLink RX7 182 "java/lang/IllegalArgumentException", .initialized "java/lang/IllegalArgumentException", .methodLink RX7 98 yX4_add, .instanceMethod yX4_add, .selects RX4 yX4_add yX4_add, .initialized RX4, .code yX4_add cX4_add 3 none, .fieldLink RX4 15 "ChicoryRoasters$Store" "roots" "I", .fieldLink RX4 18 "ChicoryRoasters$Store" "beans" "I", .methodLink RX7 101 yX4_stock, .instanceMethod yX4_stock, .selects RX4 yX4_stock yX4_stock, .code yX4_stock cX4_stock 2 (some .int)] ++ wsX70 ++ wsX60 ++ wsX40 ++ (vx_atS RX7 143 "java/lang/IndexOutOfBoundsException" ["java/lang/RuntimeException", "java/lang/Exception"]).filter goodWord ++ (vx_atS RX7 186 "java/lang/IllegalArgumentException" ["java/lang/RuntimeException", "java/lang/Exception"]).filter goodWord)
def wsX7_load_r1 : List Cond := [Cond.fieldLink RX7 10 "ChicoryRoasters" "town" "LChicoryRoasters$Town;", Cond.fieldLink RX7 41 "ChicoryRoasters$Town" "drumCount" "I", Cond.fieldLink RX7 44 "ChicoryRoasters$Town" "drums" "[LChicoryRoasters$Drum;", Cond.fieldLink RX7 105 "ChicoryRoasters$Drum" "holds" "I", Cond.fieldLink RX7 108 "ChicoryRoasters$Drum" "kind" "I", Cond.fieldLink RX7 80 "ChicoryRoasters$Town" "store" "LChicoryRoasters$Store;", Cond.methodLink RX7 89 yX7_checkIndex, Cond.static yX7_checkIndex, Cond.initialized RX7, Cond.code yX7_checkIndex cX7_checkIndex 2 none, Cond.classLink RX7 139 "java/lang/IndexOutOfBoundsException", Cond.initialized "java/lang/IndexOutOfBoundsException", Cond.methodLink RX7 19 yX7_checkNumber, Cond.static yX7_checkNumber, Cond.code yX7_checkNumber cX7_checkNumber 3 none, Cond.classLink RX7 182 "java/lang/IllegalArgumentException", Cond.initialized "java/lang/IllegalArgumentException", Cond.methodLink RX7 27 yX7_checkState, Cond.static yX7_checkState, Cond.code yX7_checkState cX7_checkState 1 none, Cond.classLink RX7 187 "java/lang/IllegalStateException", Cond.initialized "java/lang/IllegalStateException", Cond.methodLink RX7 101 yX4_stock, Cond.instanceMethod yX4_stock]
def wsX7_load_r2 : List Cond := [Cond.selects RX4 yX4_stock yX4_stock, Cond.initialized RX4, Cond.code yX4_stock cX4_stock 2 (some .int), Cond.fieldLink RX4 15 "ChicoryRoasters$Store" "roots" "I", Cond.fieldLink RX4 18 "ChicoryRoasters$Store" "beans" "I", Cond.methodLink RX7 98 yX4_add, Cond.instanceMethod yX4_add, Cond.selects RX4 yX4_add yX4_add, Cond.code yX4_add cX4_add 3 none, Cond.methodLink RX7 111 yX2_fill, Cond.instanceMethod yX2_fill, Cond.selects RX2 yX2_fill yX2_fill, Cond.initialized RX2, Cond.code yX2_fill cX2_fill 3 none, Cond.fieldLink RX2 9 "ChicoryRoasters$Drum" "kind" "I", Cond.fieldLink RX2 21 "ChicoryRoasters$Drum" "much" "I", Cond.fieldLink RX2 24 "ChicoryRoasters$Drum" "level" "I"]
def wsX7_load : List Cond := .code yX7_load cX7_load 4 (some .int) :: ((wsX7_load_r1 ++ wsX7_load_r2) ++ wsX70 ++ wsX60 ++ wsX20 ++ wsX40 ++ (vx_atS RX7 143 "java/lang/IndexOutOfBoundsException" ["java/lang/RuntimeException", "java/lang/Exception"]).filter goodWord ++ (vx_atS RX7 186 "java/lang/IllegalArgumentException" ["java/lang/RuntimeException", "java/lang/Exception"]).filter goodWord ++ (vx_atS RX7 191 "java/lang/IllegalStateException" ["java/lang/RuntimeException", "java/lang/Exception"]).filter goodWord)
def wsX7_take_r1 : List Cond := [Cond.fieldLink RX7 10 "ChicoryRoasters" "town" "LChicoryRoasters$Town;", Cond.fieldLink RX7 41 "ChicoryRoasters$Town" "drumCount" "I", Cond.fieldLink RX7 44 "ChicoryRoasters$Town" "drums" "[LChicoryRoasters$Drum;", Cond.fieldLink RX7 108 "ChicoryRoasters$Drum" "kind" "I", Cond.fieldLink RX7 114 "ChicoryRoasters$Drum" "level" "I", Cond.fieldLink RX7 80 "ChicoryRoasters$Town" "store" "LChicoryRoasters$Store;", Cond.methodLink RX7 89 yX7_checkIndex, Cond.static yX7_checkIndex, Cond.initialized RX7, Cond.code yX7_checkIndex cX7_checkIndex 2 none, Cond.classLink RX7 139 "java/lang/IndexOutOfBoundsException", Cond.initialized "java/lang/IndexOutOfBoundsException", Cond.methodLink RX7 27 yX7_checkState, Cond.static yX7_checkState, Cond.code yX7_checkState cX7_checkState 1 none, Cond.classLink RX7 187 "java/lang/IllegalStateException", Cond.initialized "java/lang/IllegalStateException", Cond.methodLink RX7 117 yX2_partsAt, Cond.instanceMethod yX2_partsAt, Cond.selects RX2 yX2_partsAt yX2_partsAt, Cond.initialized RX2, Cond.code yX2_partsAt cX2_partsAt 3 (some .int), Cond.fieldLink RX2 9 "ChicoryRoasters$Drum" "kind" "I", Cond.fieldLink RX2 21 "ChicoryRoasters$Drum" "much" "I"]
def wsX7_take_r2 : List Cond := [Cond.methodLink RX2 41 yX2_done, Cond.instanceMethod yX2_done, Cond.selects RX2 yX2_done yX2_done, Cond.code yX2_done cX2_done 1 (some .int), Cond.methodLink RX2 31 yX2_burnt, Cond.instanceMethod yX2_burnt, Cond.selects RX2 yX2_burnt yX2_burnt, Cond.code yX2_burnt cX2_burnt 1 (some .int), Cond.methodLink RX7 120 yX4_addRoasted, Cond.instanceMethod yX4_addRoasted, Cond.selects RX4 yX4_addRoasted yX4_addRoasted, Cond.initialized RX4, Cond.code yX4_addRoasted cX4_addRoasted 3 none, Cond.fieldLink RX4 21 "ChicoryRoasters$Store" "chicory" "I", Cond.fieldLink RX4 24 "ChicoryRoasters$Store" "coffee" "I", Cond.methodLink RX7 111 yX2_fill, Cond.instanceMethod yX2_fill, Cond.selects RX2 yX2_fill yX2_fill, Cond.code yX2_fill cX2_fill 3 none, Cond.fieldLink RX2 24 "ChicoryRoasters$Drum" "level" "I"]
def wsX7_take : List Cond := .code yX7_take cX7_take 4 (some .int) :: ((wsX7_take_r1 ++ wsX7_take_r2) ++ wsX70 ++ wsX60 ++ wsX20 ++ wsX40 ++ (vx_atS RX7 143 "java/lang/IndexOutOfBoundsException" ["java/lang/RuntimeException", "java/lang/Exception"]).filter goodWord ++ (vx_atS RX7 191 "java/lang/IllegalStateException" ["java/lang/RuntimeException", "java/lang/Exception"]).filter goodWord)
def wsX7_send : List Cond := .code yX7_send cX7_send 2 (some .int) :: ([.fieldLink RX7 10 "ChicoryRoasters" "town" "LChicoryRoasters$Town;", .fieldLink RX7 53 "ChicoryRoasters$Town" "smugglerCount" "I", .fieldLink RX7 56 "ChicoryRoasters$Town" "smugglers" "[LChicoryRoasters$Smuggler;", .fieldLink RX7 123 "ChicoryRoasters$Smuggler" "where" "I", .fieldLink RX7 129 "ChicoryRoasters$Smuggler" "left" "I", .methodLink RX7 89 yX7_checkIndex, .static yX7_checkIndex, .initialized RX7, .code yX7_checkIndex cX7_checkIndex 2 none, .classLink RX7 139 "java/lang/IndexOutOfBoundsException", .initialized "java/lang/IndexOutOfBoundsException", .methodLink RX7 27 yX7_checkState, .static yX7_checkState, .code yX7_checkState cX7_checkState 1 none, .classLink RX7 187 "java/lang/IllegalStateException", .initialized "java/lang/IllegalStateException", .methodLink RX7 126 yX3_setOut, .instanceMethod yX3_setOut, .selects RX3 yX3_setOut yX3_setOut, .initialized RX3, .code yX3_setOut cX3_setOut 1 none, .fieldLink RX3 18 "ChicoryRoasters$Smuggler" "where" "I", .fieldLink RX3 9 "ChicoryRoasters$Smuggler" "way" "I", .fieldLink RX3 21 "ChicoryRoasters$Smuggler" "left" "I"] ++ wsX70 ++ wsX60 ++ wsX30 ++ (vx_atS RX7 143 "java/lang/IndexOutOfBoundsException" ["java/lang/RuntimeException", "java/lang/Exception"]).filter goodWord ++ (vx_atS RX7 191 "java/lang/IllegalStateException" ["java/lang/RuntimeException", "java/lang/Exception"]).filter goodWord)
def wsX7_ask_r1 : List Cond := [Cond.methodLink RX7 192 ⟨"ChicoryRoasters$Teller", "size", "()I"⟩, Cond.sameMethod "ChicoryRoasters$Teller" "ChicoryRoasters$Teller" "size" "()I", Cond.selects RX0 ⟨"ChicoryRoasters$Teller", "size", "()I"⟩ yX0_size, Cond.instanceMethod yX0_size, Cond.initialized RX0, Cond.code yX0_size cX0_size 1 (some .int), Cond.selects RX1 ⟨"ChicoryRoasters$Teller", "size", "()I"⟩ yX1_size, Cond.instanceMethod yX1_size, Cond.initialized RX1, Cond.code yX1_size cX1_size 1 (some .int), Cond.selects RX2 ⟨"ChicoryRoasters$Teller", "size", "()I"⟩ yX2_size, Cond.instanceMethod yX2_size, Cond.initialized RX2, Cond.code yX2_size cX2_size 1 (some .int), Cond.selects RX3 ⟨"ChicoryRoasters$Teller", "size", "()I"⟩ yX3_size, Cond.instanceMethod yX3_size, Cond.initialized RX3, Cond.code yX3_size cX3_size 1 (some .int), Cond.selects RX6 ⟨"ChicoryRoasters$Teller", "size", "()I"⟩ yX6_size, Cond.instanceMethod yX6_size, Cond.initialized RX6, Cond.code yX6_size cX6_size 1 (some .int), Cond.methodLink RX7 89 yX7_checkIndex, Cond.static yX7_checkIndex]
def wsX7_ask_r2 : List Cond := [Cond.initialized RX7, Cond.code yX7_checkIndex cX7_checkIndex 2 none, Cond.classLink RX7 139 "java/lang/IndexOutOfBoundsException", Cond.initialized "java/lang/IndexOutOfBoundsException", Cond.methodLink RX7 197 ⟨"ChicoryRoasters$Teller", "tell", "(I)I"⟩, Cond.sameMethod "ChicoryRoasters$Teller" "ChicoryRoasters$Teller" "tell" "(I)I", Cond.selects RX0 ⟨"ChicoryRoasters$Teller", "tell", "(I)I"⟩ yX0_tell, Cond.instanceMethod yX0_tell, Cond.code yX0_tell cX0_tell 2 (some .int), Cond.fieldLink RX0 7 "ChicoryRoasters$Bed" "grows" "I", Cond.fieldLink RX0 13 "ChicoryRoasters$Bed" "most" "I", Cond.fieldLink RX0 16 "ChicoryRoasters$Bed" "roots" "I", Cond.selects RX1 ⟨"ChicoryRoasters$Teller", "tell", "(I)I"⟩ yX1_tell, Cond.instanceMethod yX1_tell, Cond.code yX1_tell cX1_tell 2 (some .int), Cond.fieldLink RX1 9 "ChicoryRoasters$Card" "allotted" "I", Cond.fieldLink RX1 15 "ChicoryRoasters$Card" "picky" "I", Cond.fieldLink RX1 18 "ChicoryRoasters$Card" "left" "I", Cond.fieldLink RX1 42 "ChicoryRoasters$Card" "served" "I", Cond.fieldLink RX1 35 "ChicoryRoasters$Card" "refused" "I", Cond.selects RX2 ⟨"ChicoryRoasters$Teller", "tell", "(I)I"⟩ yX2_tell, Cond.instanceMethod yX2_tell, Cond.code yX2_tell cX2_tell 2 (some .int), Cond.fieldLink RX2 15 "ChicoryRoasters$Drum" "holds" "I"]
def wsX7_ask_r3 : List Cond := [Cond.fieldLink RX2 18 "ChicoryRoasters$Drum" "heat" "I", Cond.fieldLink RX2 9 "ChicoryRoasters$Drum" "kind" "I", Cond.fieldLink RX2 21 "ChicoryRoasters$Drum" "much" "I", Cond.fieldLink RX2 24 "ChicoryRoasters$Drum" "level" "I", Cond.methodLink RX2 44 yX2_partsAt, Cond.instanceMethod yX2_partsAt, Cond.selects RX2 yX2_partsAt yX2_partsAt, Cond.code yX2_partsAt cX2_partsAt 3 (some .int), Cond.methodLink RX2 41 yX2_done, Cond.instanceMethod yX2_done, Cond.selects RX2 yX2_done yX2_done, Cond.code yX2_done cX2_done 1 (some .int), Cond.methodLink RX2 31 yX2_burnt, Cond.instanceMethod yX2_burnt, Cond.selects RX2 yX2_burnt yX2_burnt, Cond.code yX2_burnt cX2_burnt 1 (some .int), Cond.selects RX3 ⟨"ChicoryRoasters$Teller", "tell", "(I)I"⟩ yX3_tell, Cond.instanceMethod yX3_tell, Cond.code yX3_tell cX3_tell 2 (some .int), Cond.fieldLink RX3 9 "ChicoryRoasters$Smuggler" "way" "I", Cond.fieldLink RX3 15 "ChicoryRoasters$Smuggler" "cargo" "I", Cond.fieldLink RX3 18 "ChicoryRoasters$Smuggler" "where" "I", Cond.fieldLink RX3 21 "ChicoryRoasters$Smuggler" "left" "I", Cond.fieldLink RX3 24 "ChicoryRoasters$Smuggler" "arrests" "I"]
def wsX7_ask_r4 : List Cond := [Cond.selects RX6 ⟨"ChicoryRoasters$Teller", "tell", "(I)I"⟩ yX6_tell, Cond.instanceMethod yX6_tell, Cond.code yX6_tell cX6_tell 2 (some .int), Cond.fieldLink RX6 63 "ChicoryRoasters$Town" "day" "I", Cond.fieldLink RX6 38 "ChicoryRoasters$Town" "store" "LChicoryRoasters$Store;", Cond.fieldLink RX6 114 "ChicoryRoasters$Store" "roots" "I", Cond.fieldLink RX6 117 "ChicoryRoasters$Store" "beans" "I", Cond.fieldLink RX6 120 "ChicoryRoasters$Store" "chicory" "I", Cond.fieldLink RX6 123 "ChicoryRoasters$Store" "coffee" "I", Cond.fieldLink RX6 126 "ChicoryRoasters$Store" "served" "I", Cond.fieldLink RX6 129 "ChicoryRoasters$Store" "thinned" "I", Cond.fieldLink RX6 132 "ChicoryRoasters$Store" "share" "I", Cond.fieldLink RX6 46 "ChicoryRoasters$Town" "patrol" "I"]
def wsX7_ask : List Cond := .code yX7_ask cX7_ask 2 (some .int) :: ((wsX7_ask_r1 ++ (wsX7_ask_r2 ++ (wsX7_ask_r3 ++ wsX7_ask_r4))) ++ wsX00 ++ wsX10 ++ wsX20 ++ wsX30 ++ wsX60 ++ wsX40 ++ (vx_atS RX7 143 "java/lang/IndexOutOfBoundsException" ["java/lang/RuntimeException", "java/lang/Exception"]).filter goodWord)
def wsX7_about_r1 : List Cond := [Cond.fieldLink RX7 10 "ChicoryRoasters" "town" "LChicoryRoasters$Town;", Cond.fieldLink RX7 23 "ChicoryRoasters$Town" "bedCount" "I", Cond.fieldLink RX7 31 "ChicoryRoasters$Town" "beds" "[LChicoryRoasters$Bed;", Cond.methodLink RX7 89 yX7_checkIndex, Cond.static yX7_checkIndex, Cond.initialized RX7, Cond.code yX7_checkIndex cX7_checkIndex 2 none, Cond.classLink RX7 139 "java/lang/IndexOutOfBoundsException", Cond.initialized "java/lang/IndexOutOfBoundsException", Cond.methodLink RX7 132 yX7_ask, Cond.static yX7_ask, Cond.code yX7_ask cX7_ask 2 (some .int), Cond.methodLink RX7 192 ⟨"ChicoryRoasters$Teller", "size", "()I"⟩, Cond.sameMethod "ChicoryRoasters$Teller" "ChicoryRoasters$Teller" "size" "()I", Cond.selects RX0 ⟨"ChicoryRoasters$Teller", "size", "()I"⟩ yX0_size, Cond.instanceMethod yX0_size, Cond.initialized RX0, Cond.code yX0_size cX0_size 1 (some .int), Cond.selects RX1 ⟨"ChicoryRoasters$Teller", "size", "()I"⟩ yX1_size, Cond.instanceMethod yX1_size, Cond.initialized RX1, Cond.code yX1_size cX1_size 1 (some .int), Cond.selects RX2 ⟨"ChicoryRoasters$Teller", "size", "()I"⟩ yX2_size, Cond.instanceMethod yX2_size]
def wsX7_about_r2 : List Cond := [Cond.initialized RX2, Cond.code yX2_size cX2_size 1 (some .int), Cond.selects RX3 ⟨"ChicoryRoasters$Teller", "size", "()I"⟩ yX3_size, Cond.instanceMethod yX3_size, Cond.initialized RX3, Cond.code yX3_size cX3_size 1 (some .int), Cond.selects RX6 ⟨"ChicoryRoasters$Teller", "size", "()I"⟩ yX6_size, Cond.instanceMethod yX6_size, Cond.initialized RX6, Cond.code yX6_size cX6_size 1 (some .int), Cond.methodLink RX7 197 ⟨"ChicoryRoasters$Teller", "tell", "(I)I"⟩, Cond.sameMethod "ChicoryRoasters$Teller" "ChicoryRoasters$Teller" "tell" "(I)I", Cond.selects RX0 ⟨"ChicoryRoasters$Teller", "tell", "(I)I"⟩ yX0_tell, Cond.instanceMethod yX0_tell, Cond.code yX0_tell cX0_tell 2 (some .int), Cond.fieldLink RX0 7 "ChicoryRoasters$Bed" "grows" "I", Cond.fieldLink RX0 13 "ChicoryRoasters$Bed" "most" "I", Cond.fieldLink RX0 16 "ChicoryRoasters$Bed" "roots" "I", Cond.selects RX1 ⟨"ChicoryRoasters$Teller", "tell", "(I)I"⟩ yX1_tell, Cond.instanceMethod yX1_tell, Cond.code yX1_tell cX1_tell 2 (some .int), Cond.fieldLink RX1 9 "ChicoryRoasters$Card" "allotted" "I", Cond.fieldLink RX1 15 "ChicoryRoasters$Card" "picky" "I", Cond.fieldLink RX1 18 "ChicoryRoasters$Card" "left" "I"]
def wsX7_about_r3 : List Cond := [Cond.fieldLink RX1 42 "ChicoryRoasters$Card" "served" "I", Cond.fieldLink RX1 35 "ChicoryRoasters$Card" "refused" "I", Cond.selects RX2 ⟨"ChicoryRoasters$Teller", "tell", "(I)I"⟩ yX2_tell, Cond.instanceMethod yX2_tell, Cond.code yX2_tell cX2_tell 2 (some .int), Cond.fieldLink RX2 15 "ChicoryRoasters$Drum" "holds" "I", Cond.fieldLink RX2 18 "ChicoryRoasters$Drum" "heat" "I", Cond.fieldLink RX2 9 "ChicoryRoasters$Drum" "kind" "I", Cond.fieldLink RX2 21 "ChicoryRoasters$Drum" "much" "I", Cond.fieldLink RX2 24 "ChicoryRoasters$Drum" "level" "I", Cond.methodLink RX2 44 yX2_partsAt, Cond.instanceMethod yX2_partsAt, Cond.selects RX2 yX2_partsAt yX2_partsAt, Cond.code yX2_partsAt cX2_partsAt 3 (some .int), Cond.methodLink RX2 41 yX2_done, Cond.instanceMethod yX2_done, Cond.selects RX2 yX2_done yX2_done, Cond.code yX2_done cX2_done 1 (some .int), Cond.methodLink RX2 31 yX2_burnt, Cond.instanceMethod yX2_burnt, Cond.selects RX2 yX2_burnt yX2_burnt, Cond.code yX2_burnt cX2_burnt 1 (some .int), Cond.selects RX3 ⟨"ChicoryRoasters$Teller", "tell", "(I)I"⟩ yX3_tell, Cond.instanceMethod yX3_tell]
def wsX7_about_r4 : List Cond := [Cond.code yX3_tell cX3_tell 2 (some .int), Cond.fieldLink RX3 9 "ChicoryRoasters$Smuggler" "way" "I", Cond.fieldLink RX3 15 "ChicoryRoasters$Smuggler" "cargo" "I", Cond.fieldLink RX3 18 "ChicoryRoasters$Smuggler" "where" "I", Cond.fieldLink RX3 21 "ChicoryRoasters$Smuggler" "left" "I", Cond.fieldLink RX3 24 "ChicoryRoasters$Smuggler" "arrests" "I", Cond.selects RX6 ⟨"ChicoryRoasters$Teller", "tell", "(I)I"⟩ yX6_tell, Cond.instanceMethod yX6_tell, Cond.code yX6_tell cX6_tell 2 (some .int), Cond.fieldLink RX6 63 "ChicoryRoasters$Town" "day" "I", Cond.fieldLink RX6 38 "ChicoryRoasters$Town" "store" "LChicoryRoasters$Store;", Cond.fieldLink RX6 114 "ChicoryRoasters$Store" "roots" "I", Cond.fieldLink RX6 117 "ChicoryRoasters$Store" "beans" "I", Cond.fieldLink RX6 120 "ChicoryRoasters$Store" "chicory" "I", Cond.fieldLink RX6 123 "ChicoryRoasters$Store" "coffee" "I", Cond.fieldLink RX6 126 "ChicoryRoasters$Store" "served" "I", Cond.fieldLink RX6 129 "ChicoryRoasters$Store" "thinned" "I", Cond.fieldLink RX6 132 "ChicoryRoasters$Store" "share" "I", Cond.fieldLink RX6 46 "ChicoryRoasters$Town" "patrol" "I"]
def wsX7_about : List Cond := .code yX7_about cX7_about 3 (some .int) :: ((wsX7_about_r1 ++ (wsX7_about_r2 ++ (wsX7_about_r3 ++ wsX7_about_r4))) ++ wsX70 ++ wsX60 ++ wsX00 ++ wsX10 ++ wsX20 ++ wsX30 ++ wsX40 ++ (vx_atS RX7 143 "java/lang/IndexOutOfBoundsException" ["java/lang/RuntimeException", "java/lang/Exception"]).filter goodWord)
def wsX7_roast_r1 : List Cond := [Cond.fieldLink RX7 10 "ChicoryRoasters" "town" "LChicoryRoasters$Town;", Cond.fieldLink RX7 41 "ChicoryRoasters$Town" "drumCount" "I", Cond.fieldLink RX7 44 "ChicoryRoasters$Town" "drums" "[LChicoryRoasters$Drum;", Cond.methodLink RX7 89 yX7_checkIndex, Cond.static yX7_checkIndex, Cond.initialized RX7, Cond.code yX7_checkIndex cX7_checkIndex 2 none, Cond.classLink RX7 139 "java/lang/IndexOutOfBoundsException", Cond.initialized "java/lang/IndexOutOfBoundsException", Cond.methodLink RX7 132 yX7_ask, Cond.static yX7_ask, Cond.code yX7_ask cX7_ask 2 (some .int), Cond.methodLink RX7 192 ⟨"ChicoryRoasters$Teller", "size", "()I"⟩, Cond.sameMethod "ChicoryRoasters$Teller" "ChicoryRoasters$Teller" "size" "()I", Cond.selects RX0 ⟨"ChicoryRoasters$Teller", "size", "()I"⟩ yX0_size, Cond.instanceMethod yX0_size, Cond.initialized RX0, Cond.code yX0_size cX0_size 1 (some .int), Cond.selects RX1 ⟨"ChicoryRoasters$Teller", "size", "()I"⟩ yX1_size, Cond.instanceMethod yX1_size, Cond.initialized RX1, Cond.code yX1_size cX1_size 1 (some .int), Cond.selects RX2 ⟨"ChicoryRoasters$Teller", "size", "()I"⟩ yX2_size, Cond.instanceMethod yX2_size]
def wsX7_roast_r2 : List Cond := [Cond.initialized RX2, Cond.code yX2_size cX2_size 1 (some .int), Cond.selects RX3 ⟨"ChicoryRoasters$Teller", "size", "()I"⟩ yX3_size, Cond.instanceMethod yX3_size, Cond.initialized RX3, Cond.code yX3_size cX3_size 1 (some .int), Cond.selects RX6 ⟨"ChicoryRoasters$Teller", "size", "()I"⟩ yX6_size, Cond.instanceMethod yX6_size, Cond.initialized RX6, Cond.code yX6_size cX6_size 1 (some .int), Cond.methodLink RX7 197 ⟨"ChicoryRoasters$Teller", "tell", "(I)I"⟩, Cond.sameMethod "ChicoryRoasters$Teller" "ChicoryRoasters$Teller" "tell" "(I)I", Cond.selects RX0 ⟨"ChicoryRoasters$Teller", "tell", "(I)I"⟩ yX0_tell, Cond.instanceMethod yX0_tell, Cond.code yX0_tell cX0_tell 2 (some .int), Cond.fieldLink RX0 7 "ChicoryRoasters$Bed" "grows" "I", Cond.fieldLink RX0 13 "ChicoryRoasters$Bed" "most" "I", Cond.fieldLink RX0 16 "ChicoryRoasters$Bed" "roots" "I", Cond.selects RX1 ⟨"ChicoryRoasters$Teller", "tell", "(I)I"⟩ yX1_tell, Cond.instanceMethod yX1_tell, Cond.code yX1_tell cX1_tell 2 (some .int), Cond.fieldLink RX1 9 "ChicoryRoasters$Card" "allotted" "I", Cond.fieldLink RX1 15 "ChicoryRoasters$Card" "picky" "I", Cond.fieldLink RX1 18 "ChicoryRoasters$Card" "left" "I"]
def wsX7_roast_r3 : List Cond := [Cond.fieldLink RX1 42 "ChicoryRoasters$Card" "served" "I", Cond.fieldLink RX1 35 "ChicoryRoasters$Card" "refused" "I", Cond.selects RX2 ⟨"ChicoryRoasters$Teller", "tell", "(I)I"⟩ yX2_tell, Cond.instanceMethod yX2_tell, Cond.code yX2_tell cX2_tell 2 (some .int), Cond.fieldLink RX2 15 "ChicoryRoasters$Drum" "holds" "I", Cond.fieldLink RX2 18 "ChicoryRoasters$Drum" "heat" "I", Cond.fieldLink RX2 9 "ChicoryRoasters$Drum" "kind" "I", Cond.fieldLink RX2 21 "ChicoryRoasters$Drum" "much" "I", Cond.fieldLink RX2 24 "ChicoryRoasters$Drum" "level" "I", Cond.methodLink RX2 44 yX2_partsAt, Cond.instanceMethod yX2_partsAt, Cond.selects RX2 yX2_partsAt yX2_partsAt, Cond.code yX2_partsAt cX2_partsAt 3 (some .int), Cond.methodLink RX2 41 yX2_done, Cond.instanceMethod yX2_done, Cond.selects RX2 yX2_done yX2_done, Cond.code yX2_done cX2_done 1 (some .int), Cond.methodLink RX2 31 yX2_burnt, Cond.instanceMethod yX2_burnt, Cond.selects RX2 yX2_burnt yX2_burnt, Cond.code yX2_burnt cX2_burnt 1 (some .int), Cond.selects RX3 ⟨"ChicoryRoasters$Teller", "tell", "(I)I"⟩ yX3_tell, Cond.instanceMethod yX3_tell]
def wsX7_roast_r4 : List Cond := [Cond.code yX3_tell cX3_tell 2 (some .int), Cond.fieldLink RX3 9 "ChicoryRoasters$Smuggler" "way" "I", Cond.fieldLink RX3 15 "ChicoryRoasters$Smuggler" "cargo" "I", Cond.fieldLink RX3 18 "ChicoryRoasters$Smuggler" "where" "I", Cond.fieldLink RX3 21 "ChicoryRoasters$Smuggler" "left" "I", Cond.fieldLink RX3 24 "ChicoryRoasters$Smuggler" "arrests" "I", Cond.selects RX6 ⟨"ChicoryRoasters$Teller", "tell", "(I)I"⟩ yX6_tell, Cond.instanceMethod yX6_tell, Cond.code yX6_tell cX6_tell 2 (some .int), Cond.fieldLink RX6 63 "ChicoryRoasters$Town" "day" "I", Cond.fieldLink RX6 38 "ChicoryRoasters$Town" "store" "LChicoryRoasters$Store;", Cond.fieldLink RX6 114 "ChicoryRoasters$Store" "roots" "I", Cond.fieldLink RX6 117 "ChicoryRoasters$Store" "beans" "I", Cond.fieldLink RX6 120 "ChicoryRoasters$Store" "chicory" "I", Cond.fieldLink RX6 123 "ChicoryRoasters$Store" "coffee" "I", Cond.fieldLink RX6 126 "ChicoryRoasters$Store" "served" "I", Cond.fieldLink RX6 129 "ChicoryRoasters$Store" "thinned" "I", Cond.fieldLink RX6 132 "ChicoryRoasters$Store" "share" "I", Cond.fieldLink RX6 46 "ChicoryRoasters$Town" "patrol" "I"]
def wsX7_roast : List Cond := .code yX7_roast cX7_roast 3 (some .int) :: ((wsX7_roast_r1 ++ (wsX7_roast_r2 ++ (wsX7_roast_r3 ++ wsX7_roast_r4))) ++ wsX70 ++ wsX60 ++ wsX00 ++ wsX10 ++ wsX20 ++ wsX30 ++ wsX40 ++ (vx_atS RX7 143 "java/lang/IndexOutOfBoundsException" ["java/lang/RuntimeException", "java/lang/Exception"]).filter goodWord)
def wsX7_told_r1 : List Cond := [Cond.fieldLink RX7 10 "ChicoryRoasters" "town" "LChicoryRoasters$Town;", Cond.fieldLink RX7 53 "ChicoryRoasters$Town" "smugglerCount" "I", Cond.fieldLink RX7 56 "ChicoryRoasters$Town" "smugglers" "[LChicoryRoasters$Smuggler;", Cond.methodLink RX7 89 yX7_checkIndex, Cond.static yX7_checkIndex, Cond.initialized RX7, Cond.code yX7_checkIndex cX7_checkIndex 2 none, Cond.classLink RX7 139 "java/lang/IndexOutOfBoundsException", Cond.initialized "java/lang/IndexOutOfBoundsException", Cond.methodLink RX7 132 yX7_ask, Cond.static yX7_ask, Cond.code yX7_ask cX7_ask 2 (some .int), Cond.methodLink RX7 192 ⟨"ChicoryRoasters$Teller", "size", "()I"⟩, Cond.sameMethod "ChicoryRoasters$Teller" "ChicoryRoasters$Teller" "size" "()I", Cond.selects RX0 ⟨"ChicoryRoasters$Teller", "size", "()I"⟩ yX0_size, Cond.instanceMethod yX0_size, Cond.initialized RX0, Cond.code yX0_size cX0_size 1 (some .int), Cond.selects RX1 ⟨"ChicoryRoasters$Teller", "size", "()I"⟩ yX1_size, Cond.instanceMethod yX1_size, Cond.initialized RX1, Cond.code yX1_size cX1_size 1 (some .int), Cond.selects RX2 ⟨"ChicoryRoasters$Teller", "size", "()I"⟩ yX2_size, Cond.instanceMethod yX2_size]
def wsX7_told_r2 : List Cond := [Cond.initialized RX2, Cond.code yX2_size cX2_size 1 (some .int), Cond.selects RX3 ⟨"ChicoryRoasters$Teller", "size", "()I"⟩ yX3_size, Cond.instanceMethod yX3_size, Cond.initialized RX3, Cond.code yX3_size cX3_size 1 (some .int), Cond.selects RX6 ⟨"ChicoryRoasters$Teller", "size", "()I"⟩ yX6_size, Cond.instanceMethod yX6_size, Cond.initialized RX6, Cond.code yX6_size cX6_size 1 (some .int), Cond.methodLink RX7 197 ⟨"ChicoryRoasters$Teller", "tell", "(I)I"⟩, Cond.sameMethod "ChicoryRoasters$Teller" "ChicoryRoasters$Teller" "tell" "(I)I", Cond.selects RX0 ⟨"ChicoryRoasters$Teller", "tell", "(I)I"⟩ yX0_tell, Cond.instanceMethod yX0_tell, Cond.code yX0_tell cX0_tell 2 (some .int), Cond.fieldLink RX0 7 "ChicoryRoasters$Bed" "grows" "I", Cond.fieldLink RX0 13 "ChicoryRoasters$Bed" "most" "I", Cond.fieldLink RX0 16 "ChicoryRoasters$Bed" "roots" "I", Cond.selects RX1 ⟨"ChicoryRoasters$Teller", "tell", "(I)I"⟩ yX1_tell, Cond.instanceMethod yX1_tell, Cond.code yX1_tell cX1_tell 2 (some .int), Cond.fieldLink RX1 9 "ChicoryRoasters$Card" "allotted" "I", Cond.fieldLink RX1 15 "ChicoryRoasters$Card" "picky" "I", Cond.fieldLink RX1 18 "ChicoryRoasters$Card" "left" "I"]
def wsX7_told_r3 : List Cond := [Cond.fieldLink RX1 42 "ChicoryRoasters$Card" "served" "I", Cond.fieldLink RX1 35 "ChicoryRoasters$Card" "refused" "I", Cond.selects RX2 ⟨"ChicoryRoasters$Teller", "tell", "(I)I"⟩ yX2_tell, Cond.instanceMethod yX2_tell, Cond.code yX2_tell cX2_tell 2 (some .int), Cond.fieldLink RX2 15 "ChicoryRoasters$Drum" "holds" "I", Cond.fieldLink RX2 18 "ChicoryRoasters$Drum" "heat" "I", Cond.fieldLink RX2 9 "ChicoryRoasters$Drum" "kind" "I", Cond.fieldLink RX2 21 "ChicoryRoasters$Drum" "much" "I", Cond.fieldLink RX2 24 "ChicoryRoasters$Drum" "level" "I", Cond.methodLink RX2 44 yX2_partsAt, Cond.instanceMethod yX2_partsAt, Cond.selects RX2 yX2_partsAt yX2_partsAt, Cond.code yX2_partsAt cX2_partsAt 3 (some .int), Cond.methodLink RX2 41 yX2_done, Cond.instanceMethod yX2_done, Cond.selects RX2 yX2_done yX2_done, Cond.code yX2_done cX2_done 1 (some .int), Cond.methodLink RX2 31 yX2_burnt, Cond.instanceMethod yX2_burnt, Cond.selects RX2 yX2_burnt yX2_burnt, Cond.code yX2_burnt cX2_burnt 1 (some .int), Cond.selects RX3 ⟨"ChicoryRoasters$Teller", "tell", "(I)I"⟩ yX3_tell, Cond.instanceMethod yX3_tell]
def wsX7_told_r4 : List Cond := [Cond.code yX3_tell cX3_tell 2 (some .int), Cond.fieldLink RX3 9 "ChicoryRoasters$Smuggler" "way" "I", Cond.fieldLink RX3 15 "ChicoryRoasters$Smuggler" "cargo" "I", Cond.fieldLink RX3 18 "ChicoryRoasters$Smuggler" "where" "I", Cond.fieldLink RX3 21 "ChicoryRoasters$Smuggler" "left" "I", Cond.fieldLink RX3 24 "ChicoryRoasters$Smuggler" "arrests" "I", Cond.selects RX6 ⟨"ChicoryRoasters$Teller", "tell", "(I)I"⟩ yX6_tell, Cond.instanceMethod yX6_tell, Cond.code yX6_tell cX6_tell 2 (some .int), Cond.fieldLink RX6 63 "ChicoryRoasters$Town" "day" "I", Cond.fieldLink RX6 38 "ChicoryRoasters$Town" "store" "LChicoryRoasters$Store;", Cond.fieldLink RX6 114 "ChicoryRoasters$Store" "roots" "I", Cond.fieldLink RX6 117 "ChicoryRoasters$Store" "beans" "I", Cond.fieldLink RX6 120 "ChicoryRoasters$Store" "chicory" "I", Cond.fieldLink RX6 123 "ChicoryRoasters$Store" "coffee" "I", Cond.fieldLink RX6 126 "ChicoryRoasters$Store" "served" "I", Cond.fieldLink RX6 129 "ChicoryRoasters$Store" "thinned" "I", Cond.fieldLink RX6 132 "ChicoryRoasters$Store" "share" "I", Cond.fieldLink RX6 46 "ChicoryRoasters$Town" "patrol" "I"]
def wsX7_told : List Cond := .code yX7_told cX7_told 3 (some .int) :: ((wsX7_told_r1 ++ (wsX7_told_r2 ++ (wsX7_told_r3 ++ wsX7_told_r4))) ++ wsX70 ++ wsX60 ++ wsX00 ++ wsX10 ++ wsX20 ++ wsX30 ++ wsX40 ++ (vx_atS RX7 143 "java/lang/IndexOutOfBoundsException" ["java/lang/RuntimeException", "java/lang/Exception"]).filter goodWord)
def wsX7_ration_r1 : List Cond := [Cond.fieldLink RX7 10 "ChicoryRoasters" "town" "LChicoryRoasters$Town;", Cond.fieldLink RX7 65 "ChicoryRoasters$Town" "cardCount" "I", Cond.fieldLink RX7 68 "ChicoryRoasters$Town" "cards" "[LChicoryRoasters$Card;", Cond.methodLink RX7 89 yX7_checkIndex, Cond.static yX7_checkIndex, Cond.initialized RX7, Cond.code yX7_checkIndex cX7_checkIndex 2 none, Cond.classLink RX7 139 "java/lang/IndexOutOfBoundsException", Cond.initialized "java/lang/IndexOutOfBoundsException", Cond.methodLink RX7 132 yX7_ask, Cond.static yX7_ask, Cond.code yX7_ask cX7_ask 2 (some .int), Cond.methodLink RX7 192 ⟨"ChicoryRoasters$Teller", "size", "()I"⟩, Cond.sameMethod "ChicoryRoasters$Teller" "ChicoryRoasters$Teller" "size" "()I", Cond.selects RX0 ⟨"ChicoryRoasters$Teller", "size", "()I"⟩ yX0_size, Cond.instanceMethod yX0_size, Cond.initialized RX0, Cond.code yX0_size cX0_size 1 (some .int), Cond.selects RX1 ⟨"ChicoryRoasters$Teller", "size", "()I"⟩ yX1_size, Cond.instanceMethod yX1_size, Cond.initialized RX1, Cond.code yX1_size cX1_size 1 (some .int), Cond.selects RX2 ⟨"ChicoryRoasters$Teller", "size", "()I"⟩ yX2_size, Cond.instanceMethod yX2_size]
def wsX7_ration_r2 : List Cond := [Cond.initialized RX2, Cond.code yX2_size cX2_size 1 (some .int), Cond.selects RX3 ⟨"ChicoryRoasters$Teller", "size", "()I"⟩ yX3_size, Cond.instanceMethod yX3_size, Cond.initialized RX3, Cond.code yX3_size cX3_size 1 (some .int), Cond.selects RX6 ⟨"ChicoryRoasters$Teller", "size", "()I"⟩ yX6_size, Cond.instanceMethod yX6_size, Cond.initialized RX6, Cond.code yX6_size cX6_size 1 (some .int), Cond.methodLink RX7 197 ⟨"ChicoryRoasters$Teller", "tell", "(I)I"⟩, Cond.sameMethod "ChicoryRoasters$Teller" "ChicoryRoasters$Teller" "tell" "(I)I", Cond.selects RX0 ⟨"ChicoryRoasters$Teller", "tell", "(I)I"⟩ yX0_tell, Cond.instanceMethod yX0_tell, Cond.code yX0_tell cX0_tell 2 (some .int), Cond.fieldLink RX0 7 "ChicoryRoasters$Bed" "grows" "I", Cond.fieldLink RX0 13 "ChicoryRoasters$Bed" "most" "I", Cond.fieldLink RX0 16 "ChicoryRoasters$Bed" "roots" "I", Cond.selects RX1 ⟨"ChicoryRoasters$Teller", "tell", "(I)I"⟩ yX1_tell, Cond.instanceMethod yX1_tell, Cond.code yX1_tell cX1_tell 2 (some .int), Cond.fieldLink RX1 9 "ChicoryRoasters$Card" "allotted" "I", Cond.fieldLink RX1 15 "ChicoryRoasters$Card" "picky" "I", Cond.fieldLink RX1 18 "ChicoryRoasters$Card" "left" "I"]
def wsX7_ration_r3 : List Cond := [Cond.fieldLink RX1 42 "ChicoryRoasters$Card" "served" "I", Cond.fieldLink RX1 35 "ChicoryRoasters$Card" "refused" "I", Cond.selects RX2 ⟨"ChicoryRoasters$Teller", "tell", "(I)I"⟩ yX2_tell, Cond.instanceMethod yX2_tell, Cond.code yX2_tell cX2_tell 2 (some .int), Cond.fieldLink RX2 15 "ChicoryRoasters$Drum" "holds" "I", Cond.fieldLink RX2 18 "ChicoryRoasters$Drum" "heat" "I", Cond.fieldLink RX2 9 "ChicoryRoasters$Drum" "kind" "I", Cond.fieldLink RX2 21 "ChicoryRoasters$Drum" "much" "I", Cond.fieldLink RX2 24 "ChicoryRoasters$Drum" "level" "I", Cond.methodLink RX2 44 yX2_partsAt, Cond.instanceMethod yX2_partsAt, Cond.selects RX2 yX2_partsAt yX2_partsAt, Cond.code yX2_partsAt cX2_partsAt 3 (some .int), Cond.methodLink RX2 41 yX2_done, Cond.instanceMethod yX2_done, Cond.selects RX2 yX2_done yX2_done, Cond.code yX2_done cX2_done 1 (some .int), Cond.methodLink RX2 31 yX2_burnt, Cond.instanceMethod yX2_burnt, Cond.selects RX2 yX2_burnt yX2_burnt, Cond.code yX2_burnt cX2_burnt 1 (some .int), Cond.selects RX3 ⟨"ChicoryRoasters$Teller", "tell", "(I)I"⟩ yX3_tell, Cond.instanceMethod yX3_tell]
def wsX7_ration_r4 : List Cond := [Cond.code yX3_tell cX3_tell 2 (some .int), Cond.fieldLink RX3 9 "ChicoryRoasters$Smuggler" "way" "I", Cond.fieldLink RX3 15 "ChicoryRoasters$Smuggler" "cargo" "I", Cond.fieldLink RX3 18 "ChicoryRoasters$Smuggler" "where" "I", Cond.fieldLink RX3 21 "ChicoryRoasters$Smuggler" "left" "I", Cond.fieldLink RX3 24 "ChicoryRoasters$Smuggler" "arrests" "I", Cond.selects RX6 ⟨"ChicoryRoasters$Teller", "tell", "(I)I"⟩ yX6_tell, Cond.instanceMethod yX6_tell, Cond.code yX6_tell cX6_tell 2 (some .int), Cond.fieldLink RX6 63 "ChicoryRoasters$Town" "day" "I", Cond.fieldLink RX6 38 "ChicoryRoasters$Town" "store" "LChicoryRoasters$Store;", Cond.fieldLink RX6 114 "ChicoryRoasters$Store" "roots" "I", Cond.fieldLink RX6 117 "ChicoryRoasters$Store" "beans" "I", Cond.fieldLink RX6 120 "ChicoryRoasters$Store" "chicory" "I", Cond.fieldLink RX6 123 "ChicoryRoasters$Store" "coffee" "I", Cond.fieldLink RX6 126 "ChicoryRoasters$Store" "served" "I", Cond.fieldLink RX6 129 "ChicoryRoasters$Store" "thinned" "I", Cond.fieldLink RX6 132 "ChicoryRoasters$Store" "share" "I", Cond.fieldLink RX6 46 "ChicoryRoasters$Town" "patrol" "I"]
def wsX7_ration : List Cond := .code yX7_ration cX7_ration 3 (some .int) :: ((wsX7_ration_r1 ++ (wsX7_ration_r2 ++ (wsX7_ration_r3 ++ wsX7_ration_r4))) ++ wsX70 ++ wsX60 ++ wsX00 ++ wsX10 ++ wsX20 ++ wsX30 ++ wsX40 ++ (vx_atS RX7 143 "java/lang/IndexOutOfBoundsException" ["java/lang/RuntimeException", "java/lang/Exception"]).filter goodWord)
def wsX7_count_r1 : List Cond := [Cond.fieldLink RX7 10 "ChicoryRoasters" "town" "LChicoryRoasters$Town;", Cond.methodLink RX7 132 yX7_ask, Cond.static yX7_ask, Cond.initialized RX7, Cond.code yX7_ask cX7_ask 2 (some .int), Cond.methodLink RX7 192 ⟨"ChicoryRoasters$Teller", "size", "()I"⟩, Cond.sameMethod "ChicoryRoasters$Teller" "ChicoryRoasters$Teller" "size" "()I", Cond.selects RX0 ⟨"ChicoryRoasters$Teller", "size", "()I"⟩ yX0_size, Cond.instanceMethod yX0_size, Cond.initialized RX0, Cond.code yX0_size cX0_size 1 (some .int), Cond.selects RX1 ⟨"ChicoryRoasters$Teller", "size", "()I"⟩ yX1_size, Cond.instanceMethod yX1_size, Cond.initialized RX1, Cond.code yX1_size cX1_size 1 (some .int), Cond.selects RX2 ⟨"ChicoryRoasters$Teller", "size", "()I"⟩ yX2_size, Cond.instanceMethod yX2_size, Cond.initialized RX2, Cond.code yX2_size cX2_size 1 (some .int), Cond.selects RX3 ⟨"ChicoryRoasters$Teller", "size", "()I"⟩ yX3_size, Cond.instanceMethod yX3_size, Cond.initialized RX3, Cond.code yX3_size cX3_size 1 (some .int), Cond.selects RX6 ⟨"ChicoryRoasters$Teller", "size", "()I"⟩ yX6_size]
def wsX7_count_r2 : List Cond := [Cond.instanceMethod yX6_size, Cond.initialized RX6, Cond.code yX6_size cX6_size 1 (some .int), Cond.methodLink RX7 89 yX7_checkIndex, Cond.static yX7_checkIndex, Cond.code yX7_checkIndex cX7_checkIndex 2 none, Cond.classLink RX7 139 "java/lang/IndexOutOfBoundsException", Cond.initialized "java/lang/IndexOutOfBoundsException", Cond.methodLink RX7 197 ⟨"ChicoryRoasters$Teller", "tell", "(I)I"⟩, Cond.sameMethod "ChicoryRoasters$Teller" "ChicoryRoasters$Teller" "tell" "(I)I", Cond.selects RX0 ⟨"ChicoryRoasters$Teller", "tell", "(I)I"⟩ yX0_tell, Cond.instanceMethod yX0_tell, Cond.code yX0_tell cX0_tell 2 (some .int), Cond.fieldLink RX0 7 "ChicoryRoasters$Bed" "grows" "I", Cond.fieldLink RX0 13 "ChicoryRoasters$Bed" "most" "I", Cond.fieldLink RX0 16 "ChicoryRoasters$Bed" "roots" "I", Cond.selects RX1 ⟨"ChicoryRoasters$Teller", "tell", "(I)I"⟩ yX1_tell, Cond.instanceMethod yX1_tell, Cond.code yX1_tell cX1_tell 2 (some .int), Cond.fieldLink RX1 9 "ChicoryRoasters$Card" "allotted" "I", Cond.fieldLink RX1 15 "ChicoryRoasters$Card" "picky" "I", Cond.fieldLink RX1 18 "ChicoryRoasters$Card" "left" "I", Cond.fieldLink RX1 42 "ChicoryRoasters$Card" "served" "I", Cond.fieldLink RX1 35 "ChicoryRoasters$Card" "refused" "I"]
def wsX7_count_r3 : List Cond := [Cond.selects RX2 ⟨"ChicoryRoasters$Teller", "tell", "(I)I"⟩ yX2_tell, Cond.instanceMethod yX2_tell, Cond.code yX2_tell cX2_tell 2 (some .int), Cond.fieldLink RX2 15 "ChicoryRoasters$Drum" "holds" "I", Cond.fieldLink RX2 18 "ChicoryRoasters$Drum" "heat" "I", Cond.fieldLink RX2 9 "ChicoryRoasters$Drum" "kind" "I", Cond.fieldLink RX2 21 "ChicoryRoasters$Drum" "much" "I", Cond.fieldLink RX2 24 "ChicoryRoasters$Drum" "level" "I", Cond.methodLink RX2 44 yX2_partsAt, Cond.instanceMethod yX2_partsAt, Cond.selects RX2 yX2_partsAt yX2_partsAt, Cond.code yX2_partsAt cX2_partsAt 3 (some .int), Cond.methodLink RX2 41 yX2_done, Cond.instanceMethod yX2_done, Cond.selects RX2 yX2_done yX2_done, Cond.code yX2_done cX2_done 1 (some .int), Cond.methodLink RX2 31 yX2_burnt, Cond.instanceMethod yX2_burnt, Cond.selects RX2 yX2_burnt yX2_burnt, Cond.code yX2_burnt cX2_burnt 1 (some .int), Cond.selects RX3 ⟨"ChicoryRoasters$Teller", "tell", "(I)I"⟩ yX3_tell, Cond.instanceMethod yX3_tell, Cond.code yX3_tell cX3_tell 2 (some .int), Cond.fieldLink RX3 9 "ChicoryRoasters$Smuggler" "way" "I"]
def wsX7_count_r4 : List Cond := [Cond.fieldLink RX3 15 "ChicoryRoasters$Smuggler" "cargo" "I", Cond.fieldLink RX3 18 "ChicoryRoasters$Smuggler" "where" "I", Cond.fieldLink RX3 21 "ChicoryRoasters$Smuggler" "left" "I", Cond.fieldLink RX3 24 "ChicoryRoasters$Smuggler" "arrests" "I", Cond.selects RX6 ⟨"ChicoryRoasters$Teller", "tell", "(I)I"⟩ yX6_tell, Cond.instanceMethod yX6_tell, Cond.code yX6_tell cX6_tell 2 (some .int), Cond.fieldLink RX6 63 "ChicoryRoasters$Town" "day" "I", Cond.fieldLink RX6 38 "ChicoryRoasters$Town" "store" "LChicoryRoasters$Store;", Cond.fieldLink RX6 114 "ChicoryRoasters$Store" "roots" "I", Cond.fieldLink RX6 117 "ChicoryRoasters$Store" "beans" "I", Cond.fieldLink RX6 120 "ChicoryRoasters$Store" "chicory" "I", Cond.fieldLink RX6 123 "ChicoryRoasters$Store" "coffee" "I", Cond.fieldLink RX6 126 "ChicoryRoasters$Store" "served" "I", Cond.fieldLink RX6 129 "ChicoryRoasters$Store" "thinned" "I", Cond.fieldLink RX6 132 "ChicoryRoasters$Store" "share" "I", Cond.fieldLink RX6 46 "ChicoryRoasters$Town" "patrol" "I"]
def wsX7_count : List Cond := .code yX7_count cX7_count 2 (some .int) :: ((wsX7_count_r1 ++ (wsX7_count_r2 ++ (wsX7_count_r3 ++ wsX7_count_r4))) ++ wsX70 ++ wsX00 ++ wsX10 ++ wsX20 ++ wsX30 ++ wsX60 ++ wsX40 ++ (vx_atS RX7 143 "java/lang/IndexOutOfBoundsException" ["java/lang/RuntimeException", "java/lang/Exception"]).filter goodWord)
def wsX7_pass_r1 : List Cond := [Cond.fieldLink RX7 10 "ChicoryRoasters" "town" "LChicoryRoasters$Town;", Cond.methodLink RX7 19 yX7_checkNumber, Cond.static yX7_checkNumber, Cond.initialized RX7, Cond.code yX7_checkNumber cX7_checkNumber 3 none, Cond.classLink RX7 182 "java/lang/IllegalArgumentException", Cond.initialized "java/lang/IllegalArgumentException", Cond.methodLink RX7 136 yX6_live, Cond.instanceMethod yX6_live, Cond.selects RX6 yX6_live yX6_live, Cond.initialized RX6, Cond.code yX6_live cX6_live 4 (some .int), Cond.fieldLink RX6 63 "ChicoryRoasters$Town" "day" "I", Cond.methodLink RX6 50 yX6_travel, Cond.instanceMethod yX6_travel, Cond.selects RX6 yX6_travel yX6_travel, Cond.code yX6_travel cX6_travel 2 none, Cond.fieldLink RX6 66 "ChicoryRoasters$Town" "smugglerCount" "I", Cond.fieldLink RX6 38 "ChicoryRoasters$Town" "store" "LChicoryRoasters$Store;", Cond.fieldLink RX6 25 "ChicoryRoasters$Town" "smugglers" "[LChicoryRoasters$Smuggler;", Cond.methodLink RX6 69 yX6_patrolled, Cond.instanceMethod yX6_patrolled, Cond.selects RX6 yX6_patrolled yX6_patrolled, Cond.code yX6_patrolled cX6_patrolled 2 (some .boolean)]
def wsX7_pass_r2 : List Cond := [Cond.fieldLink RX6 46 "ChicoryRoasters$Town" "patrol" "I", Cond.methodLink RX6 73 yX3_travel, Cond.instanceMethod yX3_travel, Cond.selects RX3 yX3_travel yX3_travel, Cond.initialized RX3, Cond.code yX3_travel cX3_travel 2 (some .int), Cond.fieldLink RX3 18 "ChicoryRoasters$Smuggler" "where" "I", Cond.fieldLink RX3 21 "ChicoryRoasters$Smuggler" "left" "I", Cond.fieldLink RX3 9 "ChicoryRoasters$Smuggler" "way" "I", Cond.fieldLink RX3 24 "ChicoryRoasters$Smuggler" "arrests" "I", Cond.methodLink RX3 27 yX3_comeHome, Cond.instanceMethod yX3_comeHome, Cond.selects RX3 yX3_comeHome yX3_comeHome, Cond.code yX3_comeHome cX3_comeHome 2 (some .int), Cond.fieldLink RX3 15 "ChicoryRoasters$Smuggler" "cargo" "I", Cond.methodLink RX6 76 yX4_add, Cond.instanceMethod yX4_add, Cond.selects RX4 yX4_add yX4_add, Cond.initialized RX4, Cond.code yX4_add cX4_add 3 none, Cond.fieldLink RX4 15 "ChicoryRoasters$Store" "roots" "I", Cond.fieldLink RX4 18 "ChicoryRoasters$Store" "beans" "I", Cond.methodLink RX6 53 yX6_warm, Cond.instanceMethod yX6_warm]
def wsX7_pass_r3 : List Cond := [Cond.selects RX6 yX6_warm yX6_warm, Cond.code yX6_warm cX6_warm 2 none, Cond.fieldLink RX6 80 "ChicoryRoasters$Town" "drumCount" "I", Cond.fieldLink RX6 19 "ChicoryRoasters$Town" "drums" "[LChicoryRoasters$Drum;", Cond.methodLink RX6 83 yX2_warm, Cond.instanceMethod yX2_warm, Cond.selects RX2 yX2_warm yX2_warm, Cond.initialized RX2, Cond.code yX2_warm cX2_warm 1 none, Cond.fieldLink RX2 24 "ChicoryRoasters$Drum" "level" "I", Cond.methodLink RX2 27 yX2_levelAfter, Cond.instanceMethod yX2_levelAfter, Cond.selects RX2 yX2_levelAfter yX2_levelAfter, Cond.code yX2_levelAfter cX2_levelAfter 2 (some .int), Cond.fieldLink RX2 9 "ChicoryRoasters$Drum" "kind" "I", Cond.fieldLink RX2 18 "ChicoryRoasters$Drum" "heat" "I", Cond.methodLink RX2 35 Lib.Math.min.name, Cond.static Lib.Math.min.name, Cond.initialized "java/lang/Math", Cond.code Lib.Math.min.name Lib.Math.min.code 2 (some .int), Cond.methodLink RX2 31 yX2_burnt, Cond.instanceMethod yX2_burnt, Cond.selects RX2 yX2_burnt yX2_burnt, Cond.code yX2_burnt cX2_burnt 1 (some .int)]
def wsX7_pass_r4 : List Cond := [Cond.methodLink RX6 56 yX6_grow, Cond.instanceMethod yX6_grow, Cond.selects RX6 yX6_grow yX6_grow, Cond.code yX6_grow cX6_grow 2 none, Cond.fieldLink RX6 84 "ChicoryRoasters$Town" "bedCount" "I", Cond.fieldLink RX6 11 "ChicoryRoasters$Town" "beds" "[LChicoryRoasters$Bed;", Cond.methodLink RX6 87 yX0_grow, Cond.instanceMethod yX0_grow, Cond.selects RX0 yX0_grow yX0_grow, Cond.initialized RX0, Cond.code yX0_grow cX0_grow 1 none, Cond.fieldLink RX0 16 "ChicoryRoasters$Bed" "roots" "I", Cond.fieldLink RX0 7 "ChicoryRoasters$Bed" "grows" "I", Cond.fieldLink RX0 13 "ChicoryRoasters$Bed" "most" "I", Cond.methodLink RX0 19 Lib.Math.min.name, Cond.methodLink RX6 59 yX6_serve, Cond.instanceMethod yX6_serve, Cond.selects RX6 yX6_serve yX6_serve, Cond.code yX6_serve cX6_serve 3 (some .int), Cond.fieldLink RX6 88 "ChicoryRoasters$Town" "cardCount" "I", Cond.fieldLink RX6 31 "ChicoryRoasters$Town" "cards" "[LChicoryRoasters$Card;", Cond.methodLink RX6 91 yX1_renew, Cond.instanceMethod yX1_renew, Cond.selects RX1 yX1_renew yX1_renew]
def wsX7_pass_r5 : List Cond := [Cond.initialized RX1, Cond.code yX1_renew cX1_renew 1 none, Cond.fieldLink RX1 9 "ChicoryRoasters$Card" "allotted" "I", Cond.fieldLink RX1 18 "ChicoryRoasters$Card" "left" "I", Cond.methodLink RX6 94 yX1_serveDay, Cond.instanceMethod yX1_serveDay, Cond.selects RX1 yX1_serveDay yX1_serveDay, Cond.code yX1_serveDay cX1_serveDay 3 (some .int), Cond.methodLink RX1 21 yX1_serveOne, Cond.instanceMethod yX1_serveOne, Cond.selects RX1 yX1_serveOne yX1_serveOne, Cond.code yX1_serveOne cX1_serveOne 3 (some .boolean), Cond.fieldLink RX1 15 "ChicoryRoasters$Card" "picky" "I", Cond.fieldLink RX1 35 "ChicoryRoasters$Card" "refused" "I", Cond.fieldLink RX1 42 "ChicoryRoasters$Card" "served" "I", Cond.methodLink RX1 25 yX4_coffeeOfPortion, Cond.instanceMethod yX4_coffeeOfPortion, Cond.selects RX4 yX4_coffeeOfPortion yX4_coffeeOfPortion, Cond.code yX4_coffeeOfPortion cX4_coffeeOfPortion 1 (some .int), Cond.fieldLink RX4 9 "ChicoryRoasters$Store" "share" "I", Cond.fieldLink RX4 24 "ChicoryRoasters$Store" "coffee" "I", Cond.methodLink RX4 27 Lib.Math.min.name, Cond.methodLink RX1 31 yX4_canMix, Cond.instanceMethod yX4_canMix]
def wsX7_pass_r6 : List Cond := [Cond.selects RX4 yX4_canMix yX4_canMix, Cond.code yX4_canMix cX4_canMix 2 (some .boolean), Cond.fieldLink RX4 21 "ChicoryRoasters$Store" "chicory" "I", Cond.methodLink RX1 38 yX4_servePortion, Cond.instanceMethod yX4_servePortion, Cond.selects RX4 yX4_servePortion yX4_servePortion, Cond.code yX4_servePortion cX4_servePortion 2 none, Cond.fieldLink RX4 33 "ChicoryRoasters$Store" "thinned" "I", Cond.fieldLink RX4 36 "ChicoryRoasters$Store" "served" "I"]
def wsX7_pass : List Cond := .code yX7_pass cX7_pass 2 (some .int) :: ((wsX7_pass_r1 ++ (wsX7_pass_r2 ++ (wsX7_pass_r3 ++ (wsX7_pass_r4 ++ (wsX7_pass_r5 ++ wsX7_pass_r6))))) ++ wsX70 ++ wsX60 ++ wsX30 ++ wsX40 ++ wsX20 ++ wsX00 ++ wsX10 ++ (vx_atS RX7 186 "java/lang/IllegalArgumentException" ["java/lang/RuntimeException", "java/lang/Exception"]).filter goodWord)
def wsX7_mean : List Cond := .code yX7_mean cX7_mean 1 (some .double) :: ([.fieldLink RX7 10 "ChicoryRoasters" "town" "LChicoryRoasters$Town;", .fieldLink RX7 65 "ChicoryRoasters$Town" "cardCount" "I", .fieldLink RX7 80 "ChicoryRoasters$Town" "store" "LChicoryRoasters$Store;", .fieldLink RX7 167 "ChicoryRoasters$Store" "served" "I"] ++ wsX70 ++ wsX60 ++ wsX40)
def wsX8_init : List Cond := .code yX8_init cX8_init 1 none :: ([.methodLink RX8 1 objectInit, .instanceMethod objectInit, .code objectInit ⟨#[0xb1]⟩ 1 none, .arrayClass .int, .fieldLink RX8 7 "ChicoryRoastersLaw$Sim" "store" "[I", .fieldLink RX8 13 "ChicoryRoastersLaw$Sim" "parts" "[I", .fieldLink RX8 16 "ChicoryRoastersLaw$Sim" "share" "I", .classLink RX8 20 "[I", .fieldLink RX8 21 "ChicoryRoastersLaw$Sim" "beds" "[[I", .fieldLink RX8 25 "ChicoryRoastersLaw$Sim" "drums" "[[I", .fieldLink RX8 28 "ChicoryRoastersLaw$Sim" "smugglers" "[[I", .fieldLink RX8 31 "ChicoryRoastersLaw$Sim" "cards" "[[I"] ++ wsX80)
def wsX8_burnt : List Cond := .code yX8_burnt cX8_burnt 1 (some .int) :: ([])
def wsX8_yields : List Cond := .code yX8_yields cX8_yields 3 (some .int) :: ([.methodLink RX8 55 yX8_burnt, .static yX8_burnt, .initialized RX8, .code yX8_burnt cX8_burnt 1 (some .int)])
def wsX8_isThere : List Cond := .code yX8_isThere cX8_isThere 2 (some .boolean) :: ([.fieldLink RX8 48 "ChicoryRoastersLaw$Sim" "patrol" "I"] ++ wsX80)
def wsX8_pass : List Cond := .code yX8_pass cX8_pass 7 none :: ([.fieldLink RX8 28 "ChicoryRoastersLaw$Sim" "smugglers" "[[I", .fieldLink RX8 39 "ChicoryRoastersLaw$Sim" "day" "I", .fieldLink RX8 7 "ChicoryRoastersLaw$Sim" "store" "[I", .fieldLink RX8 25 "ChicoryRoastersLaw$Sim" "drums" "[[I", .fieldLink RX8 21 "ChicoryRoastersLaw$Sim" "beds" "[[I", .fieldLink RX8 31 "ChicoryRoastersLaw$Sim" "cards" "[[I", .fieldLink RX8 13 "ChicoryRoastersLaw$Sim" "parts" "[I", .fieldLink RX8 16 "ChicoryRoastersLaw$Sim" "share" "I", .fieldLink RX8 42 "ChicoryRoastersLaw$Sim" "served" "I", .fieldLink RX8 45 "ChicoryRoastersLaw$Sim" "thinned" "I", .methodLink RX8 59 yX8_isThere, .instanceMethod yX8_isThere, .selects RX8 yX8_isThere yX8_isThere, .initialized RX8, .code yX8_isThere cX8_isThere 2 (some .boolean), .fieldLink RX8 48 "ChicoryRoastersLaw$Sim" "patrol" "I", .methodLink RX8 55 yX8_burnt, .static yX8_burnt, .code yX8_burnt cX8_burnt 1 (some .int)] ++ wsX80)
def wsX8_behind : List Cond := .code yX8_behind cX8_behind 3 (some (.object "ChicoryRoastersLaw$Sim")) :: ([.methodLink RX8 63 yX8_pass, .instanceMethod yX8_pass, .selects RX8 yX8_pass yX8_pass, .initialized RX8, .code yX8_pass cX8_pass 7 none, .fieldLink RX8 28 "ChicoryRoastersLaw$Sim" "smugglers" "[[I", .fieldLink RX8 39 "ChicoryRoastersLaw$Sim" "day" "I", .fieldLink RX8 7 "ChicoryRoastersLaw$Sim" "store" "[I", .fieldLink RX8 25 "ChicoryRoastersLaw$Sim" "drums" "[[I", .fieldLink RX8 21 "ChicoryRoastersLaw$Sim" "beds" "[[I", .fieldLink RX8 31 "ChicoryRoastersLaw$Sim" "cards" "[[I", .fieldLink RX8 13 "ChicoryRoastersLaw$Sim" "parts" "[I", .fieldLink RX8 16 "ChicoryRoastersLaw$Sim" "share" "I", .fieldLink RX8 42 "ChicoryRoastersLaw$Sim" "served" "I", .fieldLink RX8 45 "ChicoryRoastersLaw$Sim" "thinned" "I", .methodLink RX8 59 yX8_isThere, .instanceMethod yX8_isThere, .selects RX8 yX8_isThere yX8_isThere, .code yX8_isThere cX8_isThere 2 (some .boolean), .fieldLink RX8 48 "ChicoryRoastersLaw$Sim" "patrol" "I", .methodLink RX8 55 yX8_burnt, .static yX8_burnt, .code yX8_burnt cX8_burnt 1 (some .int)] ++ wsX80)
def wsX8_counted : List Cond := .code yX8_counted cX8_counted 3 (some .int) :: ([.arrayClass .int, .fieldLink RX8 39 "ChicoryRoastersLaw$Sim" "day" "I", .fieldLink RX8 7 "ChicoryRoastersLaw$Sim" "store" "[I", .fieldLink RX8 13 "ChicoryRoastersLaw$Sim" "parts" "[I", .fieldLink RX8 42 "ChicoryRoastersLaw$Sim" "served" "I", .fieldLink RX8 45 "ChicoryRoastersLaw$Sim" "thinned" "I", .fieldLink RX8 16 "ChicoryRoastersLaw$Sim" "share" "I", .fieldLink RX8 48 "ChicoryRoastersLaw$Sim" "patrol" "I"] ++ wsX80)
def wsX8_isSame_r1 : List Cond := [Cond.fieldLink RX8 21 "ChicoryRoastersLaw$Sim" "beds" "[[I", Cond.fieldLink RX8 25 "ChicoryRoastersLaw$Sim" "drums" "[[I", Cond.fieldLink RX8 28 "ChicoryRoastersLaw$Sim" "smugglers" "[[I", Cond.fieldLink RX8 31 "ChicoryRoastersLaw$Sim" "cards" "[[I", Cond.methodLink RX8 66 yX7_count, Cond.instanceMethod yX7_count, Cond.selects RX7 yX7_count yX7_count, Cond.initialized RX7, Cond.code yX7_count cX7_count 2 (some .int), Cond.fieldLink RX7 10 "ChicoryRoasters" "town" "LChicoryRoasters$Town;", Cond.methodLink RX7 132 yX7_ask, Cond.static yX7_ask, Cond.code yX7_ask cX7_ask 2 (some .int), Cond.methodLink RX7 192 ⟨"ChicoryRoasters$Teller", "size", "()I"⟩, Cond.sameMethod "ChicoryRoasters$Teller" "ChicoryRoasters$Teller" "size" "()I", Cond.selects RX0 ⟨"ChicoryRoasters$Teller", "size", "()I"⟩ yX0_size, Cond.instanceMethod yX0_size, Cond.initialized RX0, Cond.code yX0_size cX0_size 1 (some .int), Cond.selects RX1 ⟨"ChicoryRoasters$Teller", "size", "()I"⟩ yX1_size, Cond.instanceMethod yX1_size, Cond.initialized RX1, Cond.code yX1_size cX1_size 1 (some .int), Cond.selects RX2 ⟨"ChicoryRoasters$Teller", "size", "()I"⟩ yX2_size]
def wsX8_isSame_r2 : List Cond := [Cond.instanceMethod yX2_size, Cond.initialized RX2, Cond.code yX2_size cX2_size 1 (some .int), Cond.selects RX3 ⟨"ChicoryRoasters$Teller", "size", "()I"⟩ yX3_size, Cond.instanceMethod yX3_size, Cond.initialized RX3, Cond.code yX3_size cX3_size 1 (some .int), Cond.selects RX6 ⟨"ChicoryRoasters$Teller", "size", "()I"⟩ yX6_size, Cond.instanceMethod yX6_size, Cond.initialized RX6, Cond.code yX6_size cX6_size 1 (some .int), Cond.methodLink RX7 89 yX7_checkIndex, Cond.static yX7_checkIndex, Cond.code yX7_checkIndex cX7_checkIndex 2 none, Cond.classLink RX7 139 "java/lang/IndexOutOfBoundsException", Cond.initialized "java/lang/IndexOutOfBoundsException", Cond.methodLink RX7 197 ⟨"ChicoryRoasters$Teller", "tell", "(I)I"⟩, Cond.sameMethod "ChicoryRoasters$Teller" "ChicoryRoasters$Teller" "tell" "(I)I", Cond.selects RX0 ⟨"ChicoryRoasters$Teller", "tell", "(I)I"⟩ yX0_tell, Cond.instanceMethod yX0_tell, Cond.code yX0_tell cX0_tell 2 (some .int), Cond.fieldLink RX0 7 "ChicoryRoasters$Bed" "grows" "I", Cond.fieldLink RX0 13 "ChicoryRoasters$Bed" "most" "I", Cond.fieldLink RX0 16 "ChicoryRoasters$Bed" "roots" "I"]
def wsX8_isSame_r3 : List Cond := [Cond.selects RX1 ⟨"ChicoryRoasters$Teller", "tell", "(I)I"⟩ yX1_tell, Cond.instanceMethod yX1_tell, Cond.code yX1_tell cX1_tell 2 (some .int), Cond.fieldLink RX1 9 "ChicoryRoasters$Card" "allotted" "I", Cond.fieldLink RX1 15 "ChicoryRoasters$Card" "picky" "I", Cond.fieldLink RX1 18 "ChicoryRoasters$Card" "left" "I", Cond.fieldLink RX1 42 "ChicoryRoasters$Card" "served" "I", Cond.fieldLink RX1 35 "ChicoryRoasters$Card" "refused" "I", Cond.selects RX2 ⟨"ChicoryRoasters$Teller", "tell", "(I)I"⟩ yX2_tell, Cond.instanceMethod yX2_tell, Cond.code yX2_tell cX2_tell 2 (some .int), Cond.fieldLink RX2 15 "ChicoryRoasters$Drum" "holds" "I", Cond.fieldLink RX2 18 "ChicoryRoasters$Drum" "heat" "I", Cond.fieldLink RX2 9 "ChicoryRoasters$Drum" "kind" "I", Cond.fieldLink RX2 21 "ChicoryRoasters$Drum" "much" "I", Cond.fieldLink RX2 24 "ChicoryRoasters$Drum" "level" "I", Cond.methodLink RX2 44 yX2_partsAt, Cond.instanceMethod yX2_partsAt, Cond.selects RX2 yX2_partsAt yX2_partsAt, Cond.code yX2_partsAt cX2_partsAt 3 (some .int), Cond.methodLink RX2 41 yX2_done, Cond.instanceMethod yX2_done, Cond.selects RX2 yX2_done yX2_done, Cond.code yX2_done cX2_done 1 (some .int)]
def wsX8_isSame_r4 : List Cond := [Cond.methodLink RX2 31 yX2_burnt, Cond.instanceMethod yX2_burnt, Cond.selects RX2 yX2_burnt yX2_burnt, Cond.code yX2_burnt cX2_burnt 1 (some .int), Cond.selects RX3 ⟨"ChicoryRoasters$Teller", "tell", "(I)I"⟩ yX3_tell, Cond.instanceMethod yX3_tell, Cond.code yX3_tell cX3_tell 2 (some .int), Cond.fieldLink RX3 9 "ChicoryRoasters$Smuggler" "way" "I", Cond.fieldLink RX3 15 "ChicoryRoasters$Smuggler" "cargo" "I", Cond.fieldLink RX3 18 "ChicoryRoasters$Smuggler" "where" "I", Cond.fieldLink RX3 21 "ChicoryRoasters$Smuggler" "left" "I", Cond.fieldLink RX3 24 "ChicoryRoasters$Smuggler" "arrests" "I", Cond.selects RX6 ⟨"ChicoryRoasters$Teller", "tell", "(I)I"⟩ yX6_tell, Cond.instanceMethod yX6_tell, Cond.code yX6_tell cX6_tell 2 (some .int), Cond.fieldLink RX6 63 "ChicoryRoasters$Town" "day" "I", Cond.fieldLink RX6 38 "ChicoryRoasters$Town" "store" "LChicoryRoasters$Store;", Cond.fieldLink RX6 114 "ChicoryRoasters$Store" "roots" "I", Cond.fieldLink RX6 117 "ChicoryRoasters$Store" "beans" "I", Cond.fieldLink RX6 120 "ChicoryRoasters$Store" "chicory" "I", Cond.fieldLink RX6 123 "ChicoryRoasters$Store" "coffee" "I", Cond.fieldLink RX6 126 "ChicoryRoasters$Store" "served" "I", Cond.fieldLink RX6 129 "ChicoryRoasters$Store" "thinned" "I", Cond.fieldLink RX6 132 "ChicoryRoasters$Store" "share" "I"]
def wsX8_isSame_r5 : List Cond := [Cond.fieldLink RX6 46 "ChicoryRoasters$Town" "patrol" "I", Cond.methodLink RX8 71 yX8_counted, Cond.instanceMethod yX8_counted, Cond.selects RX8 yX8_counted yX8_counted, Cond.initialized RX8, Cond.code yX8_counted cX8_counted 3 (some .int), Cond.arrayClass .int, Cond.fieldLink RX8 39 "ChicoryRoastersLaw$Sim" "day" "I", Cond.fieldLink RX8 7 "ChicoryRoastersLaw$Sim" "store" "[I", Cond.fieldLink RX8 13 "ChicoryRoastersLaw$Sim" "parts" "[I", Cond.fieldLink RX8 42 "ChicoryRoastersLaw$Sim" "served" "I", Cond.fieldLink RX8 45 "ChicoryRoastersLaw$Sim" "thinned" "I", Cond.fieldLink RX8 16 "ChicoryRoastersLaw$Sim" "share" "I", Cond.fieldLink RX8 48 "ChicoryRoastersLaw$Sim" "patrol" "I", Cond.methodLink RX8 74 yX7_about, Cond.instanceMethod yX7_about, Cond.selects RX7 yX7_about yX7_about, Cond.code yX7_about cX7_about 3 (some .int), Cond.fieldLink RX7 23 "ChicoryRoasters$Town" "bedCount" "I", Cond.fieldLink RX7 31 "ChicoryRoasters$Town" "beds" "[LChicoryRoasters$Bed;", Cond.methodLink RX8 78 yX7_roast, Cond.instanceMethod yX7_roast, Cond.selects RX7 yX7_roast yX7_roast, Cond.code yX7_roast cX7_roast 3 (some .int)]
def wsX8_isSame_r6 : List Cond := [Cond.fieldLink RX7 41 "ChicoryRoasters$Town" "drumCount" "I", Cond.fieldLink RX7 44 "ChicoryRoasters$Town" "drums" "[LChicoryRoasters$Drum;", Cond.methodLink RX8 81 yX8_yields, Cond.static yX8_yields, Cond.code yX8_yields cX8_yields 3 (some .int), Cond.methodLink RX8 55 yX8_burnt, Cond.static yX8_burnt, Cond.code yX8_burnt cX8_burnt 1 (some .int), Cond.methodLink RX8 85 yX7_told, Cond.instanceMethod yX7_told, Cond.selects RX7 yX7_told yX7_told, Cond.code yX7_told cX7_told 3 (some .int), Cond.fieldLink RX7 53 "ChicoryRoasters$Town" "smugglerCount" "I", Cond.fieldLink RX7 56 "ChicoryRoasters$Town" "smugglers" "[LChicoryRoasters$Smuggler;", Cond.methodLink RX8 88 yX7_ration, Cond.instanceMethod yX7_ration, Cond.selects RX7 yX7_ration yX7_ration, Cond.code yX7_ration cX7_ration 3 (some .int), Cond.fieldLink RX7 65 "ChicoryRoasters$Town" "cardCount" "I", Cond.fieldLink RX7 68 "ChicoryRoasters$Town" "cards" "[LChicoryRoasters$Card;", Cond.methodLink RX8 91 yX7_mean, Cond.instanceMethod yX7_mean, Cond.selects RX7 yX7_mean yX7_mean, Cond.code yX7_mean cX7_mean 1 (some .double)]
def wsX8_isSame_r7 : List Cond := [Cond.fieldLink RX7 80 "ChicoryRoasters$Town" "store" "LChicoryRoasters$Store;", Cond.fieldLink RX7 167 "ChicoryRoasters$Store" "served" "I"]
def wsX8_isSame : List Cond := .code yX8_isSame cX8_isSame 5 (some .boolean) :: ((wsX8_isSame_r1 ++ (wsX8_isSame_r2 ++ (wsX8_isSame_r3 ++ (wsX8_isSame_r4 ++ (wsX8_isSame_r5 ++ (wsX8_isSame_r6 ++ wsX8_isSame_r7)))))) ++ wsX80 ++ wsX70 ++ wsX00 ++ wsX10 ++ wsX20 ++ wsX30 ++ wsX60 ++ wsX40 ++ (vx_atS RX7 143 "java/lang/IndexOutOfBoundsException" ["java/lang/RuntimeException", "java/lang/Exception"]).filter goodWord)
def wsJ9_min_7cf53 : List Cond := .code yJ9_min_7cf53 cJ9_min_7cf53 2 (some .int) :: ([])
def wsL_below : List Cond := .code yL_below cL_below 2 (some .int) :: ([.constant RL 7 (2147483647)])
def wsL_cell : List Cond := .code yL_cell cL_cell 2 (some .int) :: ([.constant RL 8 (790386105)])
def wsL_with : List Cond := .code yL_with cL_with 4 (some (.array (.array .int))) :: ([.classLink RL 9 "[I"])
def wsL_act_r1 : List Cond := [Cond.fieldLink RL 17 "ChicoryRoastersLaw$Sim" "beds" "[[I", Cond.arrayClass .int, Cond.fieldLink RL 32 "ChicoryRoastersLaw$Sim" "drums" "[[I", Cond.fieldLink RL 38 "ChicoryRoastersLaw$Sim" "smugglers" "[[I", Cond.fieldLink RL 44 "ChicoryRoastersLaw$Sim" "cards" "[[I", Cond.fieldLink RL 50 "ChicoryRoastersLaw$Sim" "patrol" "I", Cond.fieldLink RL 58 "ChicoryRoastersLaw$Sim" "share" "I", Cond.fieldLink RL 67 "ChicoryRoastersLaw$Sim" "store" "[I", Cond.fieldLink RL 84 "ChicoryRoastersLaw$Sim" "parts" "[I", Cond.fieldLink RL 93 "ChicoryRoastersLaw$Sim" "served" "I", Cond.methodLink RL 11 yL_below, Cond.static yL_below, Cond.initialized RL, Cond.code yL_below cL_below 2 (some .int), Cond.constant RL 7 (2147483647), Cond.methodLink RL 23 yL_with, Cond.static yL_with, Cond.code yL_with cL_with 4 (some (.array (.array .int))), Cond.classLink RL 9 "[I", Cond.methodLink RL 27 yX7_bed, Cond.instanceMethod yX7_bed, Cond.selects RX7 yX7_bed yX7_bed, Cond.initialized RX7, Cond.code yX7_bed cX7_bed 3 (some .int)]
def wsL_act_r2 : List Cond := [Cond.fieldLink RX7 10 "ChicoryRoasters" "town" "LChicoryRoasters$Town;", Cond.fieldLink RX7 23 "ChicoryRoasters$Town" "bedCount" "I", Cond.fieldLink RX7 31 "ChicoryRoasters$Town" "beds" "[LChicoryRoasters$Bed;", Cond.methodLink RX7 19 yX7_checkNumber, Cond.static yX7_checkNumber, Cond.code yX7_checkNumber cX7_checkNumber 3 none, Cond.classLink RX7 182 "java/lang/IllegalArgumentException", Cond.initialized "java/lang/IllegalArgumentException", Cond.methodLink RX7 27 yX7_checkState, Cond.static yX7_checkState, Cond.code yX7_checkState cX7_checkState 1 none, Cond.classLink RX7 187 "java/lang/IllegalStateException", Cond.initialized "java/lang/IllegalStateException", Cond.methodLink RX7 35 yX0_lay, Cond.instanceMethod yX0_lay, Cond.selects RX0 yX0_lay yX0_lay, Cond.initialized RX0, Cond.code yX0_lay cX0_lay 3 none, Cond.fieldLink RX0 7 "ChicoryRoasters$Bed" "grows" "I", Cond.fieldLink RX0 13 "ChicoryRoasters$Bed" "most" "I", Cond.methodLink RL 35 yX7_drum, Cond.instanceMethod yX7_drum, Cond.selects RX7 yX7_drum yX7_drum, Cond.code yX7_drum cX7_drum 3 (some .int)]
def wsL_act_r3 : List Cond := [Cond.fieldLink RX7 41 "ChicoryRoasters$Town" "drumCount" "I", Cond.fieldLink RX7 44 "ChicoryRoasters$Town" "drums" "[LChicoryRoasters$Drum;", Cond.methodLink RX7 48 yX2_install, Cond.instanceMethod yX2_install, Cond.selects RX2 yX2_install yX2_install, Cond.initialized RX2, Cond.code yX2_install cX2_install 3 none, Cond.fieldLink RX2 15 "ChicoryRoasters$Drum" "holds" "I", Cond.fieldLink RX2 18 "ChicoryRoasters$Drum" "heat" "I", Cond.methodLink RL 41 yX7_smuggler, Cond.instanceMethod yX7_smuggler, Cond.selects RX7 yX7_smuggler yX7_smuggler, Cond.code yX7_smuggler cX7_smuggler 3 (some .int), Cond.fieldLink RX7 53 "ChicoryRoasters$Town" "smugglerCount" "I", Cond.fieldLink RX7 56 "ChicoryRoasters$Town" "smugglers" "[LChicoryRoasters$Smuggler;", Cond.methodLink RX7 60 yX3_hire, Cond.instanceMethod yX3_hire, Cond.selects RX3 yX3_hire yX3_hire, Cond.initialized RX3, Cond.code yX3_hire cX3_hire 3 none, Cond.fieldLink RX3 9 "ChicoryRoasters$Smuggler" "way" "I", Cond.fieldLink RX3 15 "ChicoryRoasters$Smuggler" "cargo" "I", Cond.methodLink RL 47 yX7_card, Cond.instanceMethod yX7_card]
def wsL_act_r4 : List Cond := [Cond.selects RX7 yX7_card yX7_card, Cond.code yX7_card cX7_card 3 (some .int), Cond.fieldLink RX7 65 "ChicoryRoasters$Town" "cardCount" "I", Cond.fieldLink RX7 68 "ChicoryRoasters$Town" "cards" "[LChicoryRoasters$Card;", Cond.methodLink RX7 72 yX1_issue, Cond.instanceMethod yX1_issue, Cond.selects RX1 yX1_issue yX1_issue, Cond.initialized RX1, Cond.code yX1_issue cX1_issue 3 none, Cond.fieldLink RX1 9 "ChicoryRoasters$Card" "allotted" "I", Cond.fieldLink RX1 15 "ChicoryRoasters$Card" "picky" "I", Cond.fieldLink RX1 18 "ChicoryRoasters$Card" "left" "I", Cond.methodLink RL 54 yX7_setPatrol, Cond.instanceMethod yX7_setPatrol, Cond.selects RX7 yX7_setPatrol yX7_setPatrol, Cond.code yX7_setPatrol cX7_setPatrol 3 (some .int), Cond.fieldLink RX7 77 "ChicoryRoasters$Town" "patrol" "I", Cond.methodLink RL 61 yX7_setShare, Cond.instanceMethod yX7_setShare, Cond.selects RX7 yX7_setShare yX7_setShare, Cond.code yX7_setShare cX7_setShare 3 (some .int), Cond.fieldLink RX7 80 "ChicoryRoasters$Town" "store" "LChicoryRoasters$Store;", Cond.fieldLink RX7 84 "ChicoryRoasters$Store" "share" "I", Cond.methodLink RL 64 yX7_setHeat]
def wsL_act_r5 : List Cond := [Cond.instanceMethod yX7_setHeat, Cond.selects RX7 yX7_setHeat yX7_setHeat, Cond.code yX7_setHeat cX7_setHeat 4 (some .int), Cond.fieldLink RX7 92 "ChicoryRoasters$Drum" "heat" "I", Cond.methodLink RX7 89 yX7_checkIndex, Cond.static yX7_checkIndex, Cond.code yX7_checkIndex cX7_checkIndex 2 none, Cond.classLink RX7 139 "java/lang/IndexOutOfBoundsException", Cond.initialized "java/lang/IndexOutOfBoundsException", Cond.methodLink RL 70 yX7_dig, Cond.instanceMethod yX7_dig, Cond.selects RX7 yX7_dig yX7_dig, Cond.code yX7_dig cX7_dig 3 (some .int), Cond.fieldLink RX7 95 "ChicoryRoasters$Bed" "roots" "I", Cond.methodLink RX7 98 yX4_add, Cond.instanceMethod yX4_add, Cond.selects RX4 yX4_add yX4_add, Cond.initialized RX4, Cond.code yX4_add cX4_add 3 none, Cond.fieldLink RX4 15 "ChicoryRoasters$Store" "roots" "I", Cond.fieldLink RX4 18 "ChicoryRoasters$Store" "beans" "I", Cond.methodLink RL 73 yX7_give, Cond.instanceMethod yX7_give, Cond.selects RX7 yX7_give yX7_give]
def wsL_act_r6 : List Cond := [Cond.code yX7_give cX7_give 3 (some .int), Cond.methodLink RX7 101 yX4_stock, Cond.instanceMethod yX4_stock, Cond.selects RX4 yX4_stock yX4_stock, Cond.code yX4_stock cX4_stock 2 (some .int), Cond.methodLink RL 76 yX7_load, Cond.instanceMethod yX7_load, Cond.selects RX7 yX7_load yX7_load, Cond.code yX7_load cX7_load 4 (some .int), Cond.fieldLink RX7 105 "ChicoryRoasters$Drum" "holds" "I", Cond.fieldLink RX7 108 "ChicoryRoasters$Drum" "kind" "I", Cond.methodLink RX7 111 yX2_fill, Cond.instanceMethod yX2_fill, Cond.selects RX2 yX2_fill yX2_fill, Cond.code yX2_fill cX2_fill 3 none, Cond.fieldLink RX2 9 "ChicoryRoasters$Drum" "kind" "I", Cond.fieldLink RX2 21 "ChicoryRoasters$Drum" "much" "I", Cond.fieldLink RX2 24 "ChicoryRoasters$Drum" "level" "I", Cond.methodLink RL 80 yX8_yields, Cond.static yX8_yields, Cond.initialized RX8, Cond.code yX8_yields cX8_yields 3 (some .int), Cond.methodLink RX8 55 yX8_burnt, Cond.static yX8_burnt]
def wsL_act_r7 : List Cond := [Cond.code yX8_burnt cX8_burnt 1 (some .int), Cond.methodLink RL 87 yX7_take, Cond.instanceMethod yX7_take, Cond.selects RX7 yX7_take yX7_take, Cond.code yX7_take cX7_take 4 (some .int), Cond.fieldLink RX7 114 "ChicoryRoasters$Drum" "level" "I", Cond.methodLink RX7 117 yX2_partsAt, Cond.instanceMethod yX2_partsAt, Cond.selects RX2 yX2_partsAt yX2_partsAt, Cond.code yX2_partsAt cX2_partsAt 3 (some .int), Cond.methodLink RX2 41 yX2_done, Cond.instanceMethod yX2_done, Cond.selects RX2 yX2_done yX2_done, Cond.code yX2_done cX2_done 1 (some .int), Cond.methodLink RX2 31 yX2_burnt, Cond.instanceMethod yX2_burnt, Cond.selects RX2 yX2_burnt yX2_burnt, Cond.code yX2_burnt cX2_burnt 1 (some .int), Cond.methodLink RX7 120 yX4_addRoasted, Cond.instanceMethod yX4_addRoasted, Cond.selects RX4 yX4_addRoasted yX4_addRoasted, Cond.code yX4_addRoasted cX4_addRoasted 3 none, Cond.fieldLink RX4 21 "ChicoryRoasters$Store" "chicory" "I", Cond.fieldLink RX4 24 "ChicoryRoasters$Store" "coffee" "I"]
def wsL_act_r8 : List Cond := [Cond.methodLink RL 90 yX7_send, Cond.instanceMethod yX7_send, Cond.selects RX7 yX7_send yX7_send, Cond.code yX7_send cX7_send 2 (some .int), Cond.fieldLink RX7 123 "ChicoryRoasters$Smuggler" "where" "I", Cond.fieldLink RX7 129 "ChicoryRoasters$Smuggler" "left" "I", Cond.methodLink RX7 126 yX3_setOut, Cond.instanceMethod yX3_setOut, Cond.selects RX3 yX3_setOut yX3_setOut, Cond.code yX3_setOut cX3_setOut 1 none, Cond.fieldLink RX3 18 "ChicoryRoasters$Smuggler" "where" "I", Cond.fieldLink RX3 21 "ChicoryRoasters$Smuggler" "left" "I", Cond.methodLink RL 96 yX8_behind, Cond.instanceMethod yX8_behind, Cond.selects RX8 yX8_behind yX8_behind, Cond.code yX8_behind cX8_behind 3 (some (.object "ChicoryRoastersLaw$Sim")), Cond.methodLink RX8 63 yX8_pass, Cond.instanceMethod yX8_pass, Cond.selects RX8 yX8_pass yX8_pass, Cond.code yX8_pass cX8_pass 7 none, Cond.fieldLink RX8 28 "ChicoryRoastersLaw$Sim" "smugglers" "[[I", Cond.fieldLink RX8 39 "ChicoryRoastersLaw$Sim" "day" "I", Cond.fieldLink RX8 7 "ChicoryRoastersLaw$Sim" "store" "[I", Cond.fieldLink RX8 25 "ChicoryRoastersLaw$Sim" "drums" "[[I"]
def wsL_act_r9 : List Cond := [Cond.fieldLink RX8 21 "ChicoryRoastersLaw$Sim" "beds" "[[I", Cond.fieldLink RX8 31 "ChicoryRoastersLaw$Sim" "cards" "[[I", Cond.fieldLink RX8 13 "ChicoryRoastersLaw$Sim" "parts" "[I", Cond.fieldLink RX8 16 "ChicoryRoastersLaw$Sim" "share" "I", Cond.fieldLink RX8 42 "ChicoryRoastersLaw$Sim" "served" "I", Cond.fieldLink RX8 45 "ChicoryRoastersLaw$Sim" "thinned" "I", Cond.methodLink RX8 59 yX8_isThere, Cond.instanceMethod yX8_isThere, Cond.selects RX8 yX8_isThere yX8_isThere, Cond.code yX8_isThere cX8_isThere 2 (some .boolean), Cond.fieldLink RX8 48 "ChicoryRoastersLaw$Sim" "patrol" "I", Cond.methodLink RL 100 yX7_pass, Cond.instanceMethod yX7_pass, Cond.selects RX7 yX7_pass yX7_pass, Cond.code yX7_pass cX7_pass 2 (some .int), Cond.methodLink RX7 136 yX6_live, Cond.instanceMethod yX6_live, Cond.selects RX6 yX6_live yX6_live, Cond.initialized RX6, Cond.code yX6_live cX6_live 4 (some .int), Cond.fieldLink RX6 63 "ChicoryRoasters$Town" "day" "I", Cond.methodLink RX6 50 yX6_travel, Cond.instanceMethod yX6_travel, Cond.selects RX6 yX6_travel yX6_travel]
def wsL_act_r10 : List Cond := [Cond.code yX6_travel cX6_travel 2 none, Cond.fieldLink RX6 66 "ChicoryRoasters$Town" "smugglerCount" "I", Cond.fieldLink RX6 38 "ChicoryRoasters$Town" "store" "LChicoryRoasters$Store;", Cond.fieldLink RX6 25 "ChicoryRoasters$Town" "smugglers" "[LChicoryRoasters$Smuggler;", Cond.methodLink RX6 69 yX6_patrolled, Cond.instanceMethod yX6_patrolled, Cond.selects RX6 yX6_patrolled yX6_patrolled, Cond.code yX6_patrolled cX6_patrolled 2 (some .boolean), Cond.fieldLink RX6 46 "ChicoryRoasters$Town" "patrol" "I", Cond.methodLink RX6 73 yX3_travel, Cond.instanceMethod yX3_travel, Cond.selects RX3 yX3_travel yX3_travel, Cond.code yX3_travel cX3_travel 2 (some .int), Cond.fieldLink RX3 24 "ChicoryRoasters$Smuggler" "arrests" "I", Cond.methodLink RX3 27 yX3_comeHome, Cond.instanceMethod yX3_comeHome, Cond.selects RX3 yX3_comeHome yX3_comeHome, Cond.code yX3_comeHome cX3_comeHome 2 (some .int), Cond.methodLink RX6 76 yX4_add, Cond.methodLink RX6 53 yX6_warm, Cond.instanceMethod yX6_warm, Cond.selects RX6 yX6_warm yX6_warm, Cond.code yX6_warm cX6_warm 2 none, Cond.fieldLink RX6 80 "ChicoryRoasters$Town" "drumCount" "I"]
def wsL_act_r11 : List Cond := [Cond.fieldLink RX6 19 "ChicoryRoasters$Town" "drums" "[LChicoryRoasters$Drum;", Cond.methodLink RX6 83 yX2_warm, Cond.instanceMethod yX2_warm, Cond.selects RX2 yX2_warm yX2_warm, Cond.code yX2_warm cX2_warm 1 none, Cond.methodLink RX2 27 yX2_levelAfter, Cond.instanceMethod yX2_levelAfter, Cond.selects RX2 yX2_levelAfter yX2_levelAfter, Cond.code yX2_levelAfter cX2_levelAfter 2 (some .int), Cond.methodLink RX2 35 Lib.Math.min.name, Cond.static Lib.Math.min.name, Cond.initialized "java/lang/Math", Cond.code Lib.Math.min.name Lib.Math.min.code 2 (some .int), Cond.methodLink RX6 56 yX6_grow, Cond.instanceMethod yX6_grow, Cond.selects RX6 yX6_grow yX6_grow, Cond.code yX6_grow cX6_grow 2 none, Cond.fieldLink RX6 84 "ChicoryRoasters$Town" "bedCount" "I", Cond.fieldLink RX6 11 "ChicoryRoasters$Town" "beds" "[LChicoryRoasters$Bed;", Cond.methodLink RX6 87 yX0_grow, Cond.instanceMethod yX0_grow, Cond.selects RX0 yX0_grow yX0_grow, Cond.code yX0_grow cX0_grow 1 none, Cond.fieldLink RX0 16 "ChicoryRoasters$Bed" "roots" "I"]
def wsL_act_r12 : List Cond := [Cond.methodLink RX0 19 Lib.Math.min.name, Cond.methodLink RX6 59 yX6_serve, Cond.instanceMethod yX6_serve, Cond.selects RX6 yX6_serve yX6_serve, Cond.code yX6_serve cX6_serve 3 (some .int), Cond.fieldLink RX6 88 "ChicoryRoasters$Town" "cardCount" "I", Cond.fieldLink RX6 31 "ChicoryRoasters$Town" "cards" "[LChicoryRoasters$Card;", Cond.methodLink RX6 91 yX1_renew, Cond.instanceMethod yX1_renew, Cond.selects RX1 yX1_renew yX1_renew, Cond.code yX1_renew cX1_renew 1 none, Cond.methodLink RX6 94 yX1_serveDay, Cond.instanceMethod yX1_serveDay, Cond.selects RX1 yX1_serveDay yX1_serveDay, Cond.code yX1_serveDay cX1_serveDay 3 (some .int), Cond.methodLink RX1 21 yX1_serveOne, Cond.instanceMethod yX1_serveOne, Cond.selects RX1 yX1_serveOne yX1_serveOne, Cond.code yX1_serveOne cX1_serveOne 3 (some .boolean), Cond.fieldLink RX1 35 "ChicoryRoasters$Card" "refused" "I", Cond.fieldLink RX1 42 "ChicoryRoasters$Card" "served" "I", Cond.methodLink RX1 25 yX4_coffeeOfPortion, Cond.instanceMethod yX4_coffeeOfPortion, Cond.selects RX4 yX4_coffeeOfPortion yX4_coffeeOfPortion]
def wsL_act_r13 : List Cond := [Cond.code yX4_coffeeOfPortion cX4_coffeeOfPortion 1 (some .int), Cond.fieldLink RX4 9 "ChicoryRoasters$Store" "share" "I", Cond.methodLink RX4 27 Lib.Math.min.name, Cond.methodLink RX1 31 yX4_canMix, Cond.instanceMethod yX4_canMix, Cond.selects RX4 yX4_canMix yX4_canMix, Cond.code yX4_canMix cX4_canMix 2 (some .boolean), Cond.methodLink RX1 38 yX4_servePortion, Cond.instanceMethod yX4_servePortion, Cond.selects RX4 yX4_servePortion yX4_servePortion, Cond.code yX4_servePortion cX4_servePortion 2 none, Cond.fieldLink RX4 33 "ChicoryRoasters$Store" "thinned" "I", Cond.fieldLink RX4 36 "ChicoryRoasters$Store" "served" "I"]
def wsL_act : List Cond := .code yL_act cL_act 21 (some .boolean) :: ((wsL_act_r1 ++ (wsL_act_r2 ++ (wsL_act_r3 ++ (wsL_act_r4 ++ (wsL_act_r5 ++ (wsL_act_r6 ++ (wsL_act_r7 ++ (wsL_act_r8 ++ (wsL_act_r9 ++ (wsL_act_r10 ++ (wsL_act_r11 ++ (wsL_act_r12 ++ wsL_act_r13)))))))))))) ++ wsX80 ++ wsX70 ++ wsX60 ++ wsX00 ++ wsX20 ++ wsX30 ++ wsX10 ++ wsX40 ++ (vx_atS RX7 186 "java/lang/IllegalArgumentException" ["java/lang/RuntimeException", "java/lang/Exception"]).filter goodWord ++ (vx_atS RX7 191 "java/lang/IllegalStateException" ["java/lang/RuntimeException", "java/lang/Exception"]).filter goodWord ++ (vx_atS RX7 143 "java/lang/IndexOutOfBoundsException" ["java/lang/RuntimeException", "java/lang/Exception"]).filter goodWord)
def wsL_build_r1 : List Cond := [Cond.classLink RL 18 RX8, Cond.instantiable RX8 11, Cond.initialized RX8, Cond.instanceMethod yX8_init, Cond.code yX8_init cX8_init 1 none, Cond.methodLink RX8 1 objectInit, Cond.instanceMethod objectInit, Cond.code objectInit ⟨#[0xb1]⟩ 1 none, Cond.arrayClass .int, Cond.fieldLink RX8 7 "ChicoryRoastersLaw$Sim" "store" "[I", Cond.fieldLink RX8 13 "ChicoryRoastersLaw$Sim" "parts" "[I", Cond.fieldLink RX8 16 "ChicoryRoastersLaw$Sim" "share" "I", Cond.classLink RX8 20 "[I", Cond.fieldLink RX8 21 "ChicoryRoastersLaw$Sim" "beds" "[[I", Cond.fieldLink RX8 25 "ChicoryRoastersLaw$Sim" "drums" "[[I", Cond.fieldLink RX8 28 "ChicoryRoastersLaw$Sim" "smugglers" "[[I", Cond.fieldLink RX8 31 "ChicoryRoastersLaw$Sim" "cards" "[[I", Cond.methodLink RL 104 yL_cell, Cond.static yL_cell, Cond.initialized RL, Cond.code yL_cell cL_cell 2 (some .int), Cond.constant RL 8 (790386105), Cond.methodLink RL 11 yL_below, Cond.static yL_below]
def wsL_build_r2 : List Cond := [Cond.code yL_below cL_below 2 (some .int), Cond.constant RL 7 (2147483647), Cond.methodLink RL 108 yL_act, Cond.static yL_act, Cond.code yL_act cL_act 21 (some .boolean), Cond.fieldLink RL 17 "ChicoryRoastersLaw$Sim" "beds" "[[I", Cond.fieldLink RL 32 "ChicoryRoastersLaw$Sim" "drums" "[[I", Cond.fieldLink RL 38 "ChicoryRoastersLaw$Sim" "smugglers" "[[I", Cond.fieldLink RL 44 "ChicoryRoastersLaw$Sim" "cards" "[[I", Cond.fieldLink RL 50 "ChicoryRoastersLaw$Sim" "patrol" "I", Cond.fieldLink RL 58 "ChicoryRoastersLaw$Sim" "share" "I", Cond.fieldLink RL 67 "ChicoryRoastersLaw$Sim" "store" "[I", Cond.fieldLink RL 84 "ChicoryRoastersLaw$Sim" "parts" "[I", Cond.fieldLink RL 93 "ChicoryRoastersLaw$Sim" "served" "I", Cond.methodLink RL 23 yL_with, Cond.static yL_with, Cond.code yL_with cL_with 4 (some (.array (.array .int))), Cond.classLink RL 9 "[I", Cond.methodLink RL 27 yX7_bed, Cond.instanceMethod yX7_bed, Cond.selects RX7 yX7_bed yX7_bed, Cond.initialized RX7, Cond.code yX7_bed cX7_bed 3 (some .int), Cond.fieldLink RX7 10 "ChicoryRoasters" "town" "LChicoryRoasters$Town;"]
def wsL_build_r3 : List Cond := [Cond.fieldLink RX7 23 "ChicoryRoasters$Town" "bedCount" "I", Cond.fieldLink RX7 31 "ChicoryRoasters$Town" "beds" "[LChicoryRoasters$Bed;", Cond.methodLink RX7 19 yX7_checkNumber, Cond.static yX7_checkNumber, Cond.code yX7_checkNumber cX7_checkNumber 3 none, Cond.classLink RX7 182 "java/lang/IllegalArgumentException", Cond.initialized "java/lang/IllegalArgumentException", Cond.methodLink RX7 27 yX7_checkState, Cond.static yX7_checkState, Cond.code yX7_checkState cX7_checkState 1 none, Cond.classLink RX7 187 "java/lang/IllegalStateException", Cond.initialized "java/lang/IllegalStateException", Cond.methodLink RX7 35 yX0_lay, Cond.instanceMethod yX0_lay, Cond.selects RX0 yX0_lay yX0_lay, Cond.initialized RX0, Cond.code yX0_lay cX0_lay 3 none, Cond.fieldLink RX0 7 "ChicoryRoasters$Bed" "grows" "I", Cond.fieldLink RX0 13 "ChicoryRoasters$Bed" "most" "I", Cond.methodLink RL 35 yX7_drum, Cond.instanceMethod yX7_drum, Cond.selects RX7 yX7_drum yX7_drum, Cond.code yX7_drum cX7_drum 3 (some .int), Cond.fieldLink RX7 41 "ChicoryRoasters$Town" "drumCount" "I"]
def wsL_build_r4 : List Cond := [Cond.fieldLink RX7 44 "ChicoryRoasters$Town" "drums" "[LChicoryRoasters$Drum;", Cond.methodLink RX7 48 yX2_install, Cond.instanceMethod yX2_install, Cond.selects RX2 yX2_install yX2_install, Cond.initialized RX2, Cond.code yX2_install cX2_install 3 none, Cond.fieldLink RX2 15 "ChicoryRoasters$Drum" "holds" "I", Cond.fieldLink RX2 18 "ChicoryRoasters$Drum" "heat" "I", Cond.methodLink RL 41 yX7_smuggler, Cond.instanceMethod yX7_smuggler, Cond.selects RX7 yX7_smuggler yX7_smuggler, Cond.code yX7_smuggler cX7_smuggler 3 (some .int), Cond.fieldLink RX7 53 "ChicoryRoasters$Town" "smugglerCount" "I", Cond.fieldLink RX7 56 "ChicoryRoasters$Town" "smugglers" "[LChicoryRoasters$Smuggler;", Cond.methodLink RX7 60 yX3_hire, Cond.instanceMethod yX3_hire, Cond.selects RX3 yX3_hire yX3_hire, Cond.initialized RX3, Cond.code yX3_hire cX3_hire 3 none, Cond.fieldLink RX3 9 "ChicoryRoasters$Smuggler" "way" "I", Cond.fieldLink RX3 15 "ChicoryRoasters$Smuggler" "cargo" "I", Cond.methodLink RL 47 yX7_card, Cond.instanceMethod yX7_card, Cond.selects RX7 yX7_card yX7_card]
def wsL_build_r5 : List Cond := [Cond.code yX7_card cX7_card 3 (some .int), Cond.fieldLink RX7 65 "ChicoryRoasters$Town" "cardCount" "I", Cond.fieldLink RX7 68 "ChicoryRoasters$Town" "cards" "[LChicoryRoasters$Card;", Cond.methodLink RX7 72 yX1_issue, Cond.instanceMethod yX1_issue, Cond.selects RX1 yX1_issue yX1_issue, Cond.initialized RX1, Cond.code yX1_issue cX1_issue 3 none, Cond.fieldLink RX1 9 "ChicoryRoasters$Card" "allotted" "I", Cond.fieldLink RX1 15 "ChicoryRoasters$Card" "picky" "I", Cond.fieldLink RX1 18 "ChicoryRoasters$Card" "left" "I", Cond.methodLink RL 54 yX7_setPatrol, Cond.instanceMethod yX7_setPatrol, Cond.selects RX7 yX7_setPatrol yX7_setPatrol, Cond.code yX7_setPatrol cX7_setPatrol 3 (some .int), Cond.fieldLink RX7 77 "ChicoryRoasters$Town" "patrol" "I", Cond.methodLink RL 61 yX7_setShare, Cond.instanceMethod yX7_setShare, Cond.selects RX7 yX7_setShare yX7_setShare, Cond.code yX7_setShare cX7_setShare 3 (some .int), Cond.fieldLink RX7 80 "ChicoryRoasters$Town" "store" "LChicoryRoasters$Store;", Cond.fieldLink RX7 84 "ChicoryRoasters$Store" "share" "I", Cond.methodLink RL 64 yX7_setHeat, Cond.instanceMethod yX7_setHeat]
def wsL_build_r6 : List Cond := [Cond.selects RX7 yX7_setHeat yX7_setHeat, Cond.code yX7_setHeat cX7_setHeat 4 (some .int), Cond.fieldLink RX7 92 "ChicoryRoasters$Drum" "heat" "I", Cond.methodLink RX7 89 yX7_checkIndex, Cond.static yX7_checkIndex, Cond.code yX7_checkIndex cX7_checkIndex 2 none, Cond.classLink RX7 139 "java/lang/IndexOutOfBoundsException", Cond.initialized "java/lang/IndexOutOfBoundsException", Cond.methodLink RL 70 yX7_dig, Cond.instanceMethod yX7_dig, Cond.selects RX7 yX7_dig yX7_dig, Cond.code yX7_dig cX7_dig 3 (some .int), Cond.fieldLink RX7 95 "ChicoryRoasters$Bed" "roots" "I", Cond.methodLink RX7 98 yX4_add, Cond.instanceMethod yX4_add, Cond.selects RX4 yX4_add yX4_add, Cond.initialized RX4, Cond.code yX4_add cX4_add 3 none, Cond.fieldLink RX4 15 "ChicoryRoasters$Store" "roots" "I", Cond.fieldLink RX4 18 "ChicoryRoasters$Store" "beans" "I", Cond.methodLink RL 73 yX7_give, Cond.instanceMethod yX7_give, Cond.selects RX7 yX7_give yX7_give, Cond.code yX7_give cX7_give 3 (some .int)]
def wsL_build_r7 : List Cond := [Cond.methodLink RX7 101 yX4_stock, Cond.instanceMethod yX4_stock, Cond.selects RX4 yX4_stock yX4_stock, Cond.code yX4_stock cX4_stock 2 (some .int), Cond.methodLink RL 76 yX7_load, Cond.instanceMethod yX7_load, Cond.selects RX7 yX7_load yX7_load, Cond.code yX7_load cX7_load 4 (some .int), Cond.fieldLink RX7 105 "ChicoryRoasters$Drum" "holds" "I", Cond.fieldLink RX7 108 "ChicoryRoasters$Drum" "kind" "I", Cond.methodLink RX7 111 yX2_fill, Cond.instanceMethod yX2_fill, Cond.selects RX2 yX2_fill yX2_fill, Cond.code yX2_fill cX2_fill 3 none, Cond.fieldLink RX2 9 "ChicoryRoasters$Drum" "kind" "I", Cond.fieldLink RX2 21 "ChicoryRoasters$Drum" "much" "I", Cond.fieldLink RX2 24 "ChicoryRoasters$Drum" "level" "I", Cond.methodLink RL 80 yX8_yields, Cond.static yX8_yields, Cond.code yX8_yields cX8_yields 3 (some .int), Cond.methodLink RX8 55 yX8_burnt, Cond.static yX8_burnt, Cond.code yX8_burnt cX8_burnt 1 (some .int), Cond.methodLink RL 87 yX7_take]
def wsL_build_r8 : List Cond := [Cond.instanceMethod yX7_take, Cond.selects RX7 yX7_take yX7_take, Cond.code yX7_take cX7_take 4 (some .int), Cond.fieldLink RX7 114 "ChicoryRoasters$Drum" "level" "I", Cond.methodLink RX7 117 yX2_partsAt, Cond.instanceMethod yX2_partsAt, Cond.selects RX2 yX2_partsAt yX2_partsAt, Cond.code yX2_partsAt cX2_partsAt 3 (some .int), Cond.methodLink RX2 41 yX2_done, Cond.instanceMethod yX2_done, Cond.selects RX2 yX2_done yX2_done, Cond.code yX2_done cX2_done 1 (some .int), Cond.methodLink RX2 31 yX2_burnt, Cond.instanceMethod yX2_burnt, Cond.selects RX2 yX2_burnt yX2_burnt, Cond.code yX2_burnt cX2_burnt 1 (some .int), Cond.methodLink RX7 120 yX4_addRoasted, Cond.instanceMethod yX4_addRoasted, Cond.selects RX4 yX4_addRoasted yX4_addRoasted, Cond.code yX4_addRoasted cX4_addRoasted 3 none, Cond.fieldLink RX4 21 "ChicoryRoasters$Store" "chicory" "I", Cond.fieldLink RX4 24 "ChicoryRoasters$Store" "coffee" "I", Cond.methodLink RL 90 yX7_send, Cond.instanceMethod yX7_send]
def wsL_build_r9 : List Cond := [Cond.selects RX7 yX7_send yX7_send, Cond.code yX7_send cX7_send 2 (some .int), Cond.fieldLink RX7 123 "ChicoryRoasters$Smuggler" "where" "I", Cond.fieldLink RX7 129 "ChicoryRoasters$Smuggler" "left" "I", Cond.methodLink RX7 126 yX3_setOut, Cond.instanceMethod yX3_setOut, Cond.selects RX3 yX3_setOut yX3_setOut, Cond.code yX3_setOut cX3_setOut 1 none, Cond.fieldLink RX3 18 "ChicoryRoasters$Smuggler" "where" "I", Cond.fieldLink RX3 21 "ChicoryRoasters$Smuggler" "left" "I", Cond.methodLink RL 96 yX8_behind, Cond.instanceMethod yX8_behind, Cond.selects RX8 yX8_behind yX8_behind, Cond.code yX8_behind cX8_behind 3 (some (.object "ChicoryRoastersLaw$Sim")), Cond.methodLink RX8 63 yX8_pass, Cond.instanceMethod yX8_pass, Cond.selects RX8 yX8_pass yX8_pass, Cond.code yX8_pass cX8_pass 7 none, Cond.fieldLink RX8 39 "ChicoryRoastersLaw$Sim" "day" "I", Cond.fieldLink RX8 42 "ChicoryRoastersLaw$Sim" "served" "I", Cond.fieldLink RX8 45 "ChicoryRoastersLaw$Sim" "thinned" "I", Cond.methodLink RX8 59 yX8_isThere, Cond.instanceMethod yX8_isThere, Cond.selects RX8 yX8_isThere yX8_isThere]
def wsL_build_r10 : List Cond := [Cond.code yX8_isThere cX8_isThere 2 (some .boolean), Cond.fieldLink RX8 48 "ChicoryRoastersLaw$Sim" "patrol" "I", Cond.methodLink RL 100 yX7_pass, Cond.instanceMethod yX7_pass, Cond.selects RX7 yX7_pass yX7_pass, Cond.code yX7_pass cX7_pass 2 (some .int), Cond.methodLink RX7 136 yX6_live, Cond.instanceMethod yX6_live, Cond.selects RX6 yX6_live yX6_live, Cond.initialized RX6, Cond.code yX6_live cX6_live 4 (some .int), Cond.fieldLink RX6 63 "ChicoryRoasters$Town" "day" "I", Cond.methodLink RX6 50 yX6_travel, Cond.instanceMethod yX6_travel, Cond.selects RX6 yX6_travel yX6_travel, Cond.code yX6_travel cX6_travel 2 none, Cond.fieldLink RX6 66 "ChicoryRoasters$Town" "smugglerCount" "I", Cond.fieldLink RX6 38 "ChicoryRoasters$Town" "store" "LChicoryRoasters$Store;", Cond.fieldLink RX6 25 "ChicoryRoasters$Town" "smugglers" "[LChicoryRoasters$Smuggler;", Cond.methodLink RX6 69 yX6_patrolled, Cond.instanceMethod yX6_patrolled, Cond.selects RX6 yX6_patrolled yX6_patrolled, Cond.code yX6_patrolled cX6_patrolled 2 (some .boolean), Cond.fieldLink RX6 46 "ChicoryRoasters$Town" "patrol" "I"]
def wsL_build_r11 : List Cond := [Cond.methodLink RX6 73 yX3_travel, Cond.instanceMethod yX3_travel, Cond.selects RX3 yX3_travel yX3_travel, Cond.code yX3_travel cX3_travel 2 (some .int), Cond.fieldLink RX3 24 "ChicoryRoasters$Smuggler" "arrests" "I", Cond.methodLink RX3 27 yX3_comeHome, Cond.instanceMethod yX3_comeHome, Cond.selects RX3 yX3_comeHome yX3_comeHome, Cond.code yX3_comeHome cX3_comeHome 2 (some .int), Cond.methodLink RX6 76 yX4_add, Cond.methodLink RX6 53 yX6_warm, Cond.instanceMethod yX6_warm, Cond.selects RX6 yX6_warm yX6_warm, Cond.code yX6_warm cX6_warm 2 none, Cond.fieldLink RX6 80 "ChicoryRoasters$Town" "drumCount" "I", Cond.fieldLink RX6 19 "ChicoryRoasters$Town" "drums" "[LChicoryRoasters$Drum;", Cond.methodLink RX6 83 yX2_warm, Cond.instanceMethod yX2_warm, Cond.selects RX2 yX2_warm yX2_warm, Cond.code yX2_warm cX2_warm 1 none, Cond.methodLink RX2 27 yX2_levelAfter, Cond.instanceMethod yX2_levelAfter, Cond.selects RX2 yX2_levelAfter yX2_levelAfter, Cond.code yX2_levelAfter cX2_levelAfter 2 (some .int)]
def wsL_build_r12 : List Cond := [Cond.methodLink RX2 35 Lib.Math.min.name, Cond.static Lib.Math.min.name, Cond.initialized "java/lang/Math", Cond.code Lib.Math.min.name Lib.Math.min.code 2 (some .int), Cond.methodLink RX6 56 yX6_grow, Cond.instanceMethod yX6_grow, Cond.selects RX6 yX6_grow yX6_grow, Cond.code yX6_grow cX6_grow 2 none, Cond.fieldLink RX6 84 "ChicoryRoasters$Town" "bedCount" "I", Cond.fieldLink RX6 11 "ChicoryRoasters$Town" "beds" "[LChicoryRoasters$Bed;", Cond.methodLink RX6 87 yX0_grow, Cond.instanceMethod yX0_grow, Cond.selects RX0 yX0_grow yX0_grow, Cond.code yX0_grow cX0_grow 1 none, Cond.fieldLink RX0 16 "ChicoryRoasters$Bed" "roots" "I", Cond.methodLink RX0 19 Lib.Math.min.name, Cond.methodLink RX6 59 yX6_serve, Cond.instanceMethod yX6_serve, Cond.selects RX6 yX6_serve yX6_serve, Cond.code yX6_serve cX6_serve 3 (some .int), Cond.fieldLink RX6 88 "ChicoryRoasters$Town" "cardCount" "I", Cond.fieldLink RX6 31 "ChicoryRoasters$Town" "cards" "[LChicoryRoasters$Card;", Cond.methodLink RX6 91 yX1_renew, Cond.instanceMethod yX1_renew]
def wsL_build_r13 : List Cond := [Cond.selects RX1 yX1_renew yX1_renew, Cond.code yX1_renew cX1_renew 1 none, Cond.methodLink RX6 94 yX1_serveDay, Cond.instanceMethod yX1_serveDay, Cond.selects RX1 yX1_serveDay yX1_serveDay, Cond.code yX1_serveDay cX1_serveDay 3 (some .int), Cond.methodLink RX1 21 yX1_serveOne, Cond.instanceMethod yX1_serveOne, Cond.selects RX1 yX1_serveOne yX1_serveOne, Cond.code yX1_serveOne cX1_serveOne 3 (some .boolean), Cond.fieldLink RX1 35 "ChicoryRoasters$Card" "refused" "I", Cond.fieldLink RX1 42 "ChicoryRoasters$Card" "served" "I", Cond.methodLink RX1 25 yX4_coffeeOfPortion, Cond.instanceMethod yX4_coffeeOfPortion, Cond.selects RX4 yX4_coffeeOfPortion yX4_coffeeOfPortion, Cond.code yX4_coffeeOfPortion cX4_coffeeOfPortion 1 (some .int), Cond.fieldLink RX4 9 "ChicoryRoasters$Store" "share" "I", Cond.methodLink RX4 27 Lib.Math.min.name, Cond.methodLink RX1 31 yX4_canMix, Cond.instanceMethod yX4_canMix, Cond.selects RX4 yX4_canMix yX4_canMix, Cond.code yX4_canMix cX4_canMix 2 (some .boolean), Cond.methodLink RX1 38 yX4_servePortion, Cond.instanceMethod yX4_servePortion]
def wsL_build_r14 : List Cond := [Cond.selects RX4 yX4_servePortion yX4_servePortion, Cond.code yX4_servePortion cX4_servePortion 2 none, Cond.fieldLink RX4 33 "ChicoryRoasters$Store" "thinned" "I", Cond.fieldLink RX4 36 "ChicoryRoasters$Store" "served" "I"]
def wsL_build : List Cond := .code yL_build cL_build 5 (some (.object "ChicoryRoastersLaw$Sim")) :: ((wsL_build_r1 ++ (wsL_build_r2 ++ (wsL_build_r3 ++ (wsL_build_r4 ++ (wsL_build_r5 ++ (wsL_build_r6 ++ (wsL_build_r7 ++ (wsL_build_r8 ++ (wsL_build_r9 ++ (wsL_build_r10 ++ (wsL_build_r11 ++ (wsL_build_r12 ++ (wsL_build_r13 ++ wsL_build_r14))))))))))))) ++ wsX80 ++ wsX70 ++ wsX60 ++ wsX00 ++ wsX20 ++ wsX30 ++ wsX10 ++ wsX40 ++ (vx_atS RX7 186 "java/lang/IllegalArgumentException" ["java/lang/RuntimeException", "java/lang/Exception"]).filter goodWord ++ (vx_atS RX7 191 "java/lang/IllegalStateException" ["java/lang/RuntimeException", "java/lang/Exception"]).filter goodWord ++ (vx_atS RX7 143 "java/lang/IndexOutOfBoundsException" ["java/lang/RuntimeException", "java/lang/Exception"]).filter goodWord)
def wsL_law0_r1 : List Cond := [Cond.classLink RL 28 RX7, Cond.instantiable RX7 2, Cond.initialized RX7, Cond.fieldLink RL 32 "ChicoryRoastersLaw$Sim" "drums" "[[I", Cond.fieldLink RL 84 "ChicoryRoastersLaw$Sim" "parts" "[I", Cond.fieldLink RL 44 "ChicoryRoastersLaw$Sim" "cards" "[[I", Cond.methodLink RL 126 Lib.Math.min.name, Cond.static Lib.Math.min.name, Cond.initialized "java/lang/Math", Cond.code Lib.Math.min.name Lib.Math.min.code 2 (some .int), Cond.fieldLink RL 17 "ChicoryRoastersLaw$Sim" "beds" "[[I", Cond.fieldLink RL 38 "ChicoryRoastersLaw$Sim" "smugglers" "[[I", Cond.methodLink RL 112 yX7_init, Cond.instanceMethod yX7_init, Cond.code yX7_init cX7_init 1 none, Cond.methodLink RX7 1 objectInit, Cond.instanceMethod objectInit, Cond.code objectInit ⟨#[0xb1]⟩ 1 none, Cond.classLink RX7 7 RX6, Cond.instantiable RX6 11, Cond.initialized RX6, Cond.fieldLink RX7 10 "ChicoryRoasters" "town" "LChicoryRoasters$Town;", Cond.fieldLink RX7 16 "ChicoryRoasters" "trial" "LChicoryRoasters$Town;", Cond.methodLink RX7 9 yX6_init]
def wsL_law0_r2 : List Cond := [Cond.instanceMethod yX6_init, Cond.code yX6_init cX6_init 2 none, Cond.classLink RX6 9 RX0, Cond.fieldLink RX6 11 "ChicoryRoasters$Town" "beds" "[LChicoryRoasters$Bed;", Cond.classLink RX6 17 RX2, Cond.fieldLink RX6 19 "ChicoryRoasters$Town" "drums" "[LChicoryRoasters$Drum;", Cond.classLink RX6 23 RX3, Cond.fieldLink RX6 25 "ChicoryRoasters$Town" "smugglers" "[LChicoryRoasters$Smuggler;", Cond.classLink RX6 29 RX1, Cond.fieldLink RX6 31 "ChicoryRoasters$Town" "cards" "[LChicoryRoasters$Card;", Cond.classLink RX6 35 RX4, Cond.instantiable RX4 7, Cond.initialized RX4, Cond.fieldLink RX6 38 "ChicoryRoasters$Town" "store" "LChicoryRoasters$Store;", Cond.instantiable RX0 3, Cond.initialized RX0, Cond.instantiable RX2 5, Cond.initialized RX2, Cond.instantiable RX3 5, Cond.initialized RX3, Cond.instantiable RX1 5, Cond.initialized RX1, Cond.instanceMethod yX5_init, Cond.initialized RX5]
def wsL_law0_r3 : List Cond := [Cond.code yX5_init cX5_init 1 none, Cond.methodLink RX5 1 objectInit, Cond.instanceMethod yX4_init, Cond.code yX4_init cX4_init 1 none, Cond.methodLink RX4 3 objectInit, Cond.fieldLink RX4 9 "ChicoryRoasters$Store" "share" "I", Cond.instanceMethod yX0_init, Cond.code yX0_init cX0_init 1 none, Cond.instanceMethod yX2_init, Cond.code yX2_init cX2_init 1 none, Cond.fieldLink RX2 9 "ChicoryRoasters$Drum" "kind" "I", Cond.instanceMethod yX3_init, Cond.code yX3_init cX3_init 1 none, Cond.instanceMethod yX1_init, Cond.code yX1_init cX1_init 1 none, Cond.methodLink RL 113 yL_build, Cond.static yL_build, Cond.initialized RL, Cond.code yL_build cL_build 5 (some (.object "ChicoryRoastersLaw$Sim")), Cond.classLink RL 18 RX8, Cond.instantiable RX8 11, Cond.initialized RX8, Cond.instanceMethod yX8_init, Cond.code yX8_init cX8_init 1 none]
def wsL_law0_r4 : List Cond := [Cond.methodLink RX8 1 objectInit, Cond.arrayClass .int, Cond.fieldLink RX8 7 "ChicoryRoastersLaw$Sim" "store" "[I", Cond.fieldLink RX8 13 "ChicoryRoastersLaw$Sim" "parts" "[I", Cond.fieldLink RX8 16 "ChicoryRoastersLaw$Sim" "share" "I", Cond.classLink RX8 20 "[I", Cond.fieldLink RX8 21 "ChicoryRoastersLaw$Sim" "beds" "[[I", Cond.fieldLink RX8 25 "ChicoryRoastersLaw$Sim" "drums" "[[I", Cond.fieldLink RX8 28 "ChicoryRoastersLaw$Sim" "smugglers" "[[I", Cond.fieldLink RX8 31 "ChicoryRoastersLaw$Sim" "cards" "[[I", Cond.methodLink RL 104 yL_cell, Cond.static yL_cell, Cond.code yL_cell cL_cell 2 (some .int), Cond.constant RL 8 (790386105), Cond.methodLink RL 11 yL_below, Cond.static yL_below, Cond.code yL_below cL_below 2 (some .int), Cond.constant RL 7 (2147483647), Cond.methodLink RL 108 yL_act, Cond.static yL_act, Cond.code yL_act cL_act 21 (some .boolean), Cond.fieldLink RL 50 "ChicoryRoastersLaw$Sim" "patrol" "I", Cond.fieldLink RL 58 "ChicoryRoastersLaw$Sim" "share" "I", Cond.fieldLink RL 67 "ChicoryRoastersLaw$Sim" "store" "[I"]
def wsL_law0_r5 : List Cond := [Cond.fieldLink RL 93 "ChicoryRoastersLaw$Sim" "served" "I", Cond.methodLink RL 23 yL_with, Cond.static yL_with, Cond.code yL_with cL_with 4 (some (.array (.array .int))), Cond.classLink RL 9 "[I", Cond.methodLink RL 27 yX7_bed, Cond.instanceMethod yX7_bed, Cond.selects RX7 yX7_bed yX7_bed, Cond.code yX7_bed cX7_bed 3 (some .int), Cond.fieldLink RX7 23 "ChicoryRoasters$Town" "bedCount" "I", Cond.fieldLink RX7 31 "ChicoryRoasters$Town" "beds" "[LChicoryRoasters$Bed;", Cond.methodLink RX7 19 yX7_checkNumber, Cond.static yX7_checkNumber, Cond.code yX7_checkNumber cX7_checkNumber 3 none, Cond.classLink RX7 182 "java/lang/IllegalArgumentException", Cond.initialized "java/lang/IllegalArgumentException", Cond.methodLink RX7 27 yX7_checkState, Cond.static yX7_checkState, Cond.code yX7_checkState cX7_checkState 1 none, Cond.classLink RX7 187 "java/lang/IllegalStateException", Cond.initialized "java/lang/IllegalStateException", Cond.methodLink RX7 35 yX0_lay, Cond.instanceMethod yX0_lay, Cond.selects RX0 yX0_lay yX0_lay]
def wsL_law0_r6 : List Cond := [Cond.code yX0_lay cX0_lay 3 none, Cond.fieldLink RX0 7 "ChicoryRoasters$Bed" "grows" "I", Cond.fieldLink RX0 13 "ChicoryRoasters$Bed" "most" "I", Cond.methodLink RL 35 yX7_drum, Cond.instanceMethod yX7_drum, Cond.selects RX7 yX7_drum yX7_drum, Cond.code yX7_drum cX7_drum 3 (some .int), Cond.fieldLink RX7 41 "ChicoryRoasters$Town" "drumCount" "I", Cond.fieldLink RX7 44 "ChicoryRoasters$Town" "drums" "[LChicoryRoasters$Drum;", Cond.methodLink RX7 48 yX2_install, Cond.instanceMethod yX2_install, Cond.selects RX2 yX2_install yX2_install, Cond.code yX2_install cX2_install 3 none, Cond.fieldLink RX2 15 "ChicoryRoasters$Drum" "holds" "I", Cond.fieldLink RX2 18 "ChicoryRoasters$Drum" "heat" "I", Cond.methodLink RL 41 yX7_smuggler, Cond.instanceMethod yX7_smuggler, Cond.selects RX7 yX7_smuggler yX7_smuggler, Cond.code yX7_smuggler cX7_smuggler 3 (some .int), Cond.fieldLink RX7 53 "ChicoryRoasters$Town" "smugglerCount" "I", Cond.fieldLink RX7 56 "ChicoryRoasters$Town" "smugglers" "[LChicoryRoasters$Smuggler;", Cond.methodLink RX7 60 yX3_hire, Cond.instanceMethod yX3_hire, Cond.selects RX3 yX3_hire yX3_hire]
def wsL_law0_r7 : List Cond := [Cond.code yX3_hire cX3_hire 3 none, Cond.fieldLink RX3 9 "ChicoryRoasters$Smuggler" "way" "I", Cond.fieldLink RX3 15 "ChicoryRoasters$Smuggler" "cargo" "I", Cond.methodLink RL 47 yX7_card, Cond.instanceMethod yX7_card, Cond.selects RX7 yX7_card yX7_card, Cond.code yX7_card cX7_card 3 (some .int), Cond.fieldLink RX7 65 "ChicoryRoasters$Town" "cardCount" "I", Cond.fieldLink RX7 68 "ChicoryRoasters$Town" "cards" "[LChicoryRoasters$Card;", Cond.methodLink RX7 72 yX1_issue, Cond.instanceMethod yX1_issue, Cond.selects RX1 yX1_issue yX1_issue, Cond.code yX1_issue cX1_issue 3 none, Cond.fieldLink RX1 9 "ChicoryRoasters$Card" "allotted" "I", Cond.fieldLink RX1 15 "ChicoryRoasters$Card" "picky" "I", Cond.fieldLink RX1 18 "ChicoryRoasters$Card" "left" "I", Cond.methodLink RL 54 yX7_setPatrol, Cond.instanceMethod yX7_setPatrol, Cond.selects RX7 yX7_setPatrol yX7_setPatrol, Cond.code yX7_setPatrol cX7_setPatrol 3 (some .int), Cond.fieldLink RX7 77 "ChicoryRoasters$Town" "patrol" "I", Cond.methodLink RL 61 yX7_setShare, Cond.instanceMethod yX7_setShare, Cond.selects RX7 yX7_setShare yX7_setShare]
def wsL_law0_r8 : List Cond := [Cond.code yX7_setShare cX7_setShare 3 (some .int), Cond.fieldLink RX7 80 "ChicoryRoasters$Town" "store" "LChicoryRoasters$Store;", Cond.fieldLink RX7 84 "ChicoryRoasters$Store" "share" "I", Cond.methodLink RL 64 yX7_setHeat, Cond.instanceMethod yX7_setHeat, Cond.selects RX7 yX7_setHeat yX7_setHeat, Cond.code yX7_setHeat cX7_setHeat 4 (some .int), Cond.fieldLink RX7 92 "ChicoryRoasters$Drum" "heat" "I", Cond.methodLink RX7 89 yX7_checkIndex, Cond.static yX7_checkIndex, Cond.code yX7_checkIndex cX7_checkIndex 2 none, Cond.classLink RX7 139 "java/lang/IndexOutOfBoundsException", Cond.initialized "java/lang/IndexOutOfBoundsException", Cond.methodLink RL 70 yX7_dig, Cond.instanceMethod yX7_dig, Cond.selects RX7 yX7_dig yX7_dig, Cond.code yX7_dig cX7_dig 3 (some .int), Cond.fieldLink RX7 95 "ChicoryRoasters$Bed" "roots" "I", Cond.methodLink RX7 98 yX4_add, Cond.instanceMethod yX4_add, Cond.selects RX4 yX4_add yX4_add, Cond.code yX4_add cX4_add 3 none, Cond.fieldLink RX4 15 "ChicoryRoasters$Store" "roots" "I", Cond.fieldLink RX4 18 "ChicoryRoasters$Store" "beans" "I"]
def wsL_law0_r9 : List Cond := [Cond.methodLink RL 73 yX7_give, Cond.instanceMethod yX7_give, Cond.selects RX7 yX7_give yX7_give, Cond.code yX7_give cX7_give 3 (some .int), Cond.methodLink RX7 101 yX4_stock, Cond.instanceMethod yX4_stock, Cond.selects RX4 yX4_stock yX4_stock, Cond.code yX4_stock cX4_stock 2 (some .int), Cond.methodLink RL 76 yX7_load, Cond.instanceMethod yX7_load, Cond.selects RX7 yX7_load yX7_load, Cond.code yX7_load cX7_load 4 (some .int), Cond.fieldLink RX7 105 "ChicoryRoasters$Drum" "holds" "I", Cond.fieldLink RX7 108 "ChicoryRoasters$Drum" "kind" "I", Cond.methodLink RX7 111 yX2_fill, Cond.instanceMethod yX2_fill, Cond.selects RX2 yX2_fill yX2_fill, Cond.code yX2_fill cX2_fill 3 none, Cond.fieldLink RX2 21 "ChicoryRoasters$Drum" "much" "I", Cond.fieldLink RX2 24 "ChicoryRoasters$Drum" "level" "I", Cond.methodLink RL 80 yX8_yields, Cond.static yX8_yields, Cond.code yX8_yields cX8_yields 3 (some .int), Cond.methodLink RX8 55 yX8_burnt]
def wsL_law0_r10 : List Cond := [Cond.static yX8_burnt, Cond.code yX8_burnt cX8_burnt 1 (some .int), Cond.methodLink RL 87 yX7_take, Cond.instanceMethod yX7_take, Cond.selects RX7 yX7_take yX7_take, Cond.code yX7_take cX7_take 4 (some .int), Cond.fieldLink RX7 114 "ChicoryRoasters$Drum" "level" "I", Cond.methodLink RX7 117 yX2_partsAt, Cond.instanceMethod yX2_partsAt, Cond.selects RX2 yX2_partsAt yX2_partsAt, Cond.code yX2_partsAt cX2_partsAt 3 (some .int), Cond.methodLink RX2 41 yX2_done, Cond.instanceMethod yX2_done, Cond.selects RX2 yX2_done yX2_done, Cond.code yX2_done cX2_done 1 (some .int), Cond.methodLink RX2 31 yX2_burnt, Cond.instanceMethod yX2_burnt, Cond.selects RX2 yX2_burnt yX2_burnt, Cond.code yX2_burnt cX2_burnt 1 (some .int), Cond.methodLink RX7 120 yX4_addRoasted, Cond.instanceMethod yX4_addRoasted, Cond.selects RX4 yX4_addRoasted yX4_addRoasted, Cond.code yX4_addRoasted cX4_addRoasted 3 none, Cond.fieldLink RX4 21 "ChicoryRoasters$Store" "chicory" "I"]
def wsL_law0_r11 : List Cond := [Cond.fieldLink RX4 24 "ChicoryRoasters$Store" "coffee" "I", Cond.methodLink RL 90 yX7_send, Cond.instanceMethod yX7_send, Cond.selects RX7 yX7_send yX7_send, Cond.code yX7_send cX7_send 2 (some .int), Cond.fieldLink RX7 123 "ChicoryRoasters$Smuggler" "where" "I", Cond.fieldLink RX7 129 "ChicoryRoasters$Smuggler" "left" "I", Cond.methodLink RX7 126 yX3_setOut, Cond.instanceMethod yX3_setOut, Cond.selects RX3 yX3_setOut yX3_setOut, Cond.code yX3_setOut cX3_setOut 1 none, Cond.fieldLink RX3 18 "ChicoryRoasters$Smuggler" "where" "I", Cond.fieldLink RX3 21 "ChicoryRoasters$Smuggler" "left" "I", Cond.methodLink RL 96 yX8_behind, Cond.instanceMethod yX8_behind, Cond.selects RX8 yX8_behind yX8_behind, Cond.code yX8_behind cX8_behind 3 (some (.object "ChicoryRoastersLaw$Sim")), Cond.methodLink RX8 63 yX8_pass, Cond.instanceMethod yX8_pass, Cond.selects RX8 yX8_pass yX8_pass, Cond.code yX8_pass cX8_pass 7 none, Cond.fieldLink RX8 39 "ChicoryRoastersLaw$Sim" "day" "I", Cond.fieldLink RX8 42 "ChicoryRoastersLaw$Sim" "served" "I", Cond.fieldLink RX8 45 "ChicoryRoastersLaw$Sim" "thinned" "I"]
def wsL_law0_r12 : List Cond := [Cond.methodLink RX8 59 yX8_isThere, Cond.instanceMethod yX8_isThere, Cond.selects RX8 yX8_isThere yX8_isThere, Cond.code yX8_isThere cX8_isThere 2 (some .boolean), Cond.fieldLink RX8 48 "ChicoryRoastersLaw$Sim" "patrol" "I", Cond.methodLink RL 100 yX7_pass, Cond.instanceMethod yX7_pass, Cond.selects RX7 yX7_pass yX7_pass, Cond.code yX7_pass cX7_pass 2 (some .int), Cond.methodLink RX7 136 yX6_live, Cond.instanceMethod yX6_live, Cond.selects RX6 yX6_live yX6_live, Cond.code yX6_live cX6_live 4 (some .int), Cond.fieldLink RX6 63 "ChicoryRoasters$Town" "day" "I", Cond.methodLink RX6 50 yX6_travel, Cond.instanceMethod yX6_travel, Cond.selects RX6 yX6_travel yX6_travel, Cond.code yX6_travel cX6_travel 2 none, Cond.fieldLink RX6 66 "ChicoryRoasters$Town" "smugglerCount" "I", Cond.methodLink RX6 69 yX6_patrolled, Cond.instanceMethod yX6_patrolled, Cond.selects RX6 yX6_patrolled yX6_patrolled, Cond.code yX6_patrolled cX6_patrolled 2 (some .boolean), Cond.fieldLink RX6 46 "ChicoryRoasters$Town" "patrol" "I"]
def wsL_law0_r13 : List Cond := [Cond.methodLink RX6 73 yX3_travel, Cond.instanceMethod yX3_travel, Cond.selects RX3 yX3_travel yX3_travel, Cond.code yX3_travel cX3_travel 2 (some .int), Cond.fieldLink RX3 24 "ChicoryRoasters$Smuggler" "arrests" "I", Cond.methodLink RX3 27 yX3_comeHome, Cond.instanceMethod yX3_comeHome, Cond.selects RX3 yX3_comeHome yX3_comeHome, Cond.code yX3_comeHome cX3_comeHome 2 (some .int), Cond.methodLink RX6 76 yX4_add, Cond.methodLink RX6 53 yX6_warm, Cond.instanceMethod yX6_warm, Cond.selects RX6 yX6_warm yX6_warm, Cond.code yX6_warm cX6_warm 2 none, Cond.fieldLink RX6 80 "ChicoryRoasters$Town" "drumCount" "I", Cond.methodLink RX6 83 yX2_warm, Cond.instanceMethod yX2_warm, Cond.selects RX2 yX2_warm yX2_warm, Cond.code yX2_warm cX2_warm 1 none, Cond.methodLink RX2 27 yX2_levelAfter, Cond.instanceMethod yX2_levelAfter, Cond.selects RX2 yX2_levelAfter yX2_levelAfter, Cond.code yX2_levelAfter cX2_levelAfter 2 (some .int), Cond.methodLink RX2 35 Lib.Math.min.name]
def wsL_law0_r14 : List Cond := [Cond.methodLink RX6 56 yX6_grow, Cond.instanceMethod yX6_grow, Cond.selects RX6 yX6_grow yX6_grow, Cond.code yX6_grow cX6_grow 2 none, Cond.fieldLink RX6 84 "ChicoryRoasters$Town" "bedCount" "I", Cond.methodLink RX6 87 yX0_grow, Cond.instanceMethod yX0_grow, Cond.selects RX0 yX0_grow yX0_grow, Cond.code yX0_grow cX0_grow 1 none, Cond.fieldLink RX0 16 "ChicoryRoasters$Bed" "roots" "I", Cond.methodLink RX0 19 Lib.Math.min.name, Cond.methodLink RX6 59 yX6_serve, Cond.instanceMethod yX6_serve, Cond.selects RX6 yX6_serve yX6_serve, Cond.code yX6_serve cX6_serve 3 (some .int), Cond.fieldLink RX6 88 "ChicoryRoasters$Town" "cardCount" "I", Cond.methodLink RX6 91 yX1_renew, Cond.instanceMethod yX1_renew, Cond.selects RX1 yX1_renew yX1_renew, Cond.code yX1_renew cX1_renew 1 none, Cond.methodLink RX6 94 yX1_serveDay, Cond.instanceMethod yX1_serveDay, Cond.selects RX1 yX1_serveDay yX1_serveDay, Cond.code yX1_serveDay cX1_serveDay 3 (some .int)]
def wsL_law0_r15 : List Cond := [Cond.methodLink RX1 21 yX1_serveOne, Cond.instanceMethod yX1_serveOne, Cond.selects RX1 yX1_serveOne yX1_serveOne, Cond.code yX1_serveOne cX1_serveOne 3 (some .boolean), Cond.fieldLink RX1 35 "ChicoryRoasters$Card" "refused" "I", Cond.fieldLink RX1 42 "ChicoryRoasters$Card" "served" "I", Cond.methodLink RX1 25 yX4_coffeeOfPortion, Cond.instanceMethod yX4_coffeeOfPortion, Cond.selects RX4 yX4_coffeeOfPortion yX4_coffeeOfPortion, Cond.code yX4_coffeeOfPortion cX4_coffeeOfPortion 1 (some .int), Cond.methodLink RX4 27 Lib.Math.min.name, Cond.methodLink RX1 31 yX4_canMix, Cond.instanceMethod yX4_canMix, Cond.selects RX4 yX4_canMix yX4_canMix, Cond.code yX4_canMix cX4_canMix 2 (some .boolean), Cond.methodLink RX1 38 yX4_servePortion, Cond.instanceMethod yX4_servePortion, Cond.selects RX4 yX4_servePortion yX4_servePortion, Cond.code yX4_servePortion cX4_servePortion 2 none, Cond.fieldLink RX4 33 "ChicoryRoasters$Store" "thinned" "I", Cond.fieldLink RX4 36 "ChicoryRoasters$Store" "served" "I", Cond.methodLink RL 117 yX7_count, Cond.instanceMethod yX7_count, Cond.selects RX7 yX7_count yX7_count]
def wsL_law0_r16 : List Cond := [Cond.code yX7_count cX7_count 2 (some .int), Cond.methodLink RX7 132 yX7_ask, Cond.static yX7_ask, Cond.code yX7_ask cX7_ask 2 (some .int), Cond.methodLink RX7 192 ⟨"ChicoryRoasters$Teller", "size", "()I"⟩, Cond.sameMethod "ChicoryRoasters$Teller" "ChicoryRoasters$Teller" "size" "()I", Cond.selects RX0 ⟨"ChicoryRoasters$Teller", "size", "()I"⟩ yX0_size, Cond.instanceMethod yX0_size, Cond.code yX0_size cX0_size 1 (some .int), Cond.selects RX1 ⟨"ChicoryRoasters$Teller", "size", "()I"⟩ yX1_size, Cond.instanceMethod yX1_size, Cond.code yX1_size cX1_size 1 (some .int), Cond.selects RX2 ⟨"ChicoryRoasters$Teller", "size", "()I"⟩ yX2_size, Cond.instanceMethod yX2_size, Cond.code yX2_size cX2_size 1 (some .int), Cond.selects RX3 ⟨"ChicoryRoasters$Teller", "size", "()I"⟩ yX3_size, Cond.instanceMethod yX3_size, Cond.code yX3_size cX3_size 1 (some .int), Cond.selects RX6 ⟨"ChicoryRoasters$Teller", "size", "()I"⟩ yX6_size, Cond.instanceMethod yX6_size, Cond.code yX6_size cX6_size 1 (some .int), Cond.methodLink RX7 197 ⟨"ChicoryRoasters$Teller", "tell", "(I)I"⟩, Cond.sameMethod "ChicoryRoasters$Teller" "ChicoryRoasters$Teller" "tell" "(I)I", Cond.selects RX0 ⟨"ChicoryRoasters$Teller", "tell", "(I)I"⟩ yX0_tell]
def wsL_law0_r17 : List Cond := [Cond.instanceMethod yX0_tell, Cond.code yX0_tell cX0_tell 2 (some .int), Cond.selects RX1 ⟨"ChicoryRoasters$Teller", "tell", "(I)I"⟩ yX1_tell, Cond.instanceMethod yX1_tell, Cond.code yX1_tell cX1_tell 2 (some .int), Cond.selects RX2 ⟨"ChicoryRoasters$Teller", "tell", "(I)I"⟩ yX2_tell, Cond.instanceMethod yX2_tell, Cond.code yX2_tell cX2_tell 2 (some .int), Cond.methodLink RX2 44 yX2_partsAt, Cond.selects RX3 ⟨"ChicoryRoasters$Teller", "tell", "(I)I"⟩ yX3_tell, Cond.instanceMethod yX3_tell, Cond.code yX3_tell cX3_tell 2 (some .int), Cond.selects RX6 ⟨"ChicoryRoasters$Teller", "tell", "(I)I"⟩ yX6_tell, Cond.instanceMethod yX6_tell, Cond.code yX6_tell cX6_tell 2 (some .int), Cond.fieldLink RX6 114 "ChicoryRoasters$Store" "roots" "I", Cond.fieldLink RX6 117 "ChicoryRoasters$Store" "beans" "I", Cond.fieldLink RX6 120 "ChicoryRoasters$Store" "chicory" "I", Cond.fieldLink RX6 123 "ChicoryRoasters$Store" "coffee" "I", Cond.fieldLink RX6 126 "ChicoryRoasters$Store" "served" "I", Cond.fieldLink RX6 129 "ChicoryRoasters$Store" "thinned" "I", Cond.fieldLink RX6 132 "ChicoryRoasters$Store" "share" "I", Cond.methodLink RL 120 yX7_roast, Cond.instanceMethod yX7_roast]
def wsL_law0_r18 : List Cond := [Cond.selects RX7 yX7_roast yX7_roast, Cond.code yX7_roast cX7_roast 3 (some .int), Cond.methodLink RL 123 yX7_ration, Cond.instanceMethod yX7_ration, Cond.selects RX7 yX7_ration yX7_ration, Cond.code yX7_ration cX7_ration 3 (some .int), Cond.methodLink RL 131 yX7_about, Cond.instanceMethod yX7_about, Cond.selects RX7 yX7_about yX7_about, Cond.code yX7_about cX7_about 3 (some .int), Cond.methodLink RL 134 yX7_told, Cond.instanceMethod yX7_told, Cond.selects RX7 yX7_told yX7_told, Cond.code yX7_told cX7_told 3 (some .int), Cond.methodLink RL 137 yX8_isSame, Cond.instanceMethod yX8_isSame, Cond.selects RX8 yX8_isSame yX8_isSame, Cond.code yX8_isSame cX8_isSame 5 (some .boolean), Cond.methodLink RX8 66 yX7_count, Cond.methodLink RX8 71 yX8_counted, Cond.instanceMethod yX8_counted, Cond.selects RX8 yX8_counted yX8_counted, Cond.code yX8_counted cX8_counted 3 (some .int), Cond.methodLink RX8 74 yX7_about]
def wsL_law0_r19 : List Cond := [Cond.methodLink RX8 78 yX7_roast, Cond.methodLink RX8 81 yX8_yields, Cond.methodLink RX8 85 yX7_told, Cond.methodLink RX8 88 yX7_ration, Cond.methodLink RX8 91 yX7_mean, Cond.instanceMethod yX7_mean, Cond.selects RX7 yX7_mean yX7_mean, Cond.code yX7_mean cX7_mean 1 (some .double), Cond.fieldLink RX7 167 "ChicoryRoasters$Store" "served" "I"]
def wsL_law0 : List Cond := (wsL_law0_r1 ++ (wsL_law0_r2 ++ (wsL_law0_r3 ++ (wsL_law0_r4 ++ (wsL_law0_r5 ++ (wsL_law0_r6 ++ (wsL_law0_r7 ++ (wsL_law0_r8 ++ (wsL_law0_r9 ++ (wsL_law0_r10 ++ (wsL_law0_r11 ++ (wsL_law0_r12 ++ (wsL_law0_r13 ++ (wsL_law0_r14 ++ (wsL_law0_r15 ++ (wsL_law0_r16 ++ (wsL_law0_r17 ++ (wsL_law0_r18 ++ wsL_law0_r19)))))))))))))))))) ++ wsX70 ++ wsX80 ++ wsX60 ++ wsX40 ++ wsX00 ++ wsX20 ++ wsX30 ++ wsX10 ++ ([] : List Cond)
def wsL_law : List Cond := wsL_law0 ++ (vx_atS RX7 186 "java/lang/IllegalArgumentException" ["java/lang/RuntimeException", "java/lang/Exception"]).filter goodWord ++ (vx_atS RX7 191 "java/lang/IllegalStateException" ["java/lang/RuntimeException", "java/lang/Exception"]).filter goodWord ++ (vx_atS RX7 143 "java/lang/IndexOutOfBoundsException" ["java/lang/RuntimeException", "java/lang/Exception"]).filter goodWord
abbrev vwCl : List vw_C := [(RX0, TX0, 3), (RX1, TX1, 5), (RX2, TX2, 5), (RX3, TX3, 5), (RX4, TX4, 7), (RX6, TX6, 11), (RX7, TX7, 2), (RX8, TX8, 11)]
end
section
/-! THE WORLD, BY PLACES. Place 0: the class's object; 1..28 its town (1 the town, 2..5 its four rows, 6 its store, 7..10 beds, 11..14 drums, 15..18 smugglers, 19..28 cards); 29 the law's Sim, 30 its store, 31 its parts, 32..35 its rows of rows (beds, drums, smugglers, cards), 36..57 the rows (36.. beds, 40.. drums, 44.. smugglers, 48.. cards). A row that isn't made yet: the like object of the class's trial town lies at its place. Behind the places: further cells (what is being made). What moves is a table of numbers: place, field (or index). How many rows there are, and the addresses, stand in E. -/
abbrev gT : Type := (va_G × (Nat → Nat) × va_W) × (Nat → ClassId) × (Nat → Nat)
abbrev gS : Type := (Nat → Nat → Int32) × (Nat → Int64)
def gTown : List Nat := [5, 10, 11, 12, 13, 4, 0, 0, 0, 0, 2, 2, 2, 2, 3, 3, 3, 3, 1, 1, 1, 1, 1, 1, 1, 1, 1, 1]
def gTab : List Nat := [6] ++ gTown ++ [7, 8, 8, 14, 14, 14, 14, 15, 15, 15, 15, 15, 15, 15, 15, 15, 15, 15, 15, 15, 15, 15, 15, 15, 15, 15, 15, 15, 15]
def gK (k : Nat) : Nat := gTab.getD k 99
def gN (c : Nat) : Nat := [3, 5, 5, 5, 7].getD c 0
/-- how many rows of the sort o (0 beds, 1 drums, 2 smugglers, 3 cards) -/
abbrev gNo (E : gT) (o : Nat) : Nat := E.1.2.1 o
/-- from here on the heap is the law's own -/
abbrev gN0 (E : gT) : Nat := E.1.2.1 100
abbrev gTr (E : gT) : Nat := E.1.2.1 101
/-- of a row's place: its sort, its number, its length, the kind of what lies there before -/
def gqS (k : Nat) : Nat := if k < 40 then 0 else if k < 44 then 1 else if k < 48 then 2 else 3
def gqI (k : Nat) : Nat := k - (36 + 4 * gqS k)
def gqL (k : Nat) : Nat := if k < 40 then 3 else 5
def gqK (k : Nat) : Nat := [0, 2, 3, 1].getD (gqS k) 0
def gO (σ : gS) (k c : Nat) : va_E := .inr (c, (List.range (gN c)).map (fun j => Value.int (σ.1 k j)))
/-- what lies at a place -/
def gw (E : gT) (σ : gS) (k : Nat) : va_E := match gK k with
  | 5 => .inr (5, [.ref (E.2.2 (k + 1)), .ref (E.2.2 (k + 2)), .ref (E.2.2 (k + 3)), .ref (E.2.2 (k + 4)), .ref (E.2.2 (k + 5)), .int (σ.1 k 5), .int (σ.1 k 6), .int (σ.1 k 7), .int (σ.1 k 8), .int (σ.1 k 9), .int (σ.1 k 10)])
  | 6 => .inr (6, [.ref (E.2.2 1), .ref (gTr E)])
  | 7 => .inr (7, [.int (σ.1 k 0), .ref (E.2.2 30), .ref (E.2.2 31), .int (σ.1 k 3), .int (σ.1 k 4), .int (σ.1 k 5), .int (σ.1 k 6), .ref (E.2.2 32), .ref (E.2.2 33), .ref (E.2.2 34), .ref (E.2.2 35)])
  | 8 => .inl (E.2.1 0, 2, .inl (σ.1 k))
  | 10 => .inl (E.2.1 2, 4, .inr (.inr (.inr (.inr (fun j => some (E.2.2 (k + 5 + j)))))))
  | 11 => .inl (E.2.1 3, 4, .inr (.inr (.inr (.inr (fun j => some (E.2.2 (k + 8 + j)))))))
  | 12 => .inl (E.2.1 4, 4, .inr (.inr (.inr (.inr (fun j => some (E.2.2 (k + 11 + j)))))))
  | 13 => .inl (E.2.1 5, 10, .inr (.inr (.inr (.inr (fun j => some (E.2.2 (k + 14 + j)))))))
  | 14 => .inl (E.2.1 1, gNo E (k - 32), .inr (.inr (.inr (.inr (fun j => some (E.2.2 (36 + 4 * (k - 32) + j)))))))
  | 15 => if gqI k < gNo E (gqS k) then .inl (E.2.1 0, gqL k, .inl (σ.1 k)) else gO σ k (gqK k)
  | c => gO σ k c
/-- the places, and what lies behind them -/
def gl (E : gT) (σ : gS) : va_W := (List.range 58).map (fun k => (E.2.2 k, gw E σ k)) ++ E.1.2.2
def gTys (E : gT) : List (ClassId × FieldType) := [(E.2.1 0, .int), (E.2.1 1, .array .int), (E.2.1 2, .object RX0), (E.2.1 3, .object RX2), (E.2.1 4, .object RX3), (E.2.1 5, .object RX1)]
/-- which cells may be changed: the law's own -/
def gA (E : gT) (_ : Nat) : Nat → Prop := fun q => gN0 E ≤ q
/-- the heap holds the world, its cells apart -/
def gP (E : gT) (σ : gS) (H : Heap) : Prop := va_P E.1.1 vwCl (gl E σ) H ∧ va_D (gA E 0) (gl E σ)
/-- a number put -/
def gu (σ : gS) (k j : Nat) (v : Int32) : gS := (fun a b => if a = k ∧ b = j then v else σ.1 a b, σ.2)
theorem gl_plen {E : gT} {σ : gS} : ((List.range 58).map (fun k => (E.2.2 k, gw E σ k))).length = 58 := by simp
theorem gl_at {E : gT} {σ : gS} {k : Nat} (h : k < 58) : (gl E σ)[k]? = some (E.2.2 k, gw E σ k) := by
  unfold gl
  rw [List.getElem?_append_left (by rw [gl_plen]; exact h)]
  simp [h]
theorem gl_x {E : gT} {σ : gS} {k : Nat} : (gl E σ)[58 + k]? = E.1.2.2[k]? := by
  unfold gl
  rw [List.getElem?_append_right (by rw [gl_plen]; omega), gl_plen]
  congr 1
  omega
theorem gl_len {E : gT} {σ : gS} : (gl E σ).length = 58 + E.1.2.2.length := by simp [gl]
theorem gl_set {E : gT} {σ σ' : gS} {k : Nat} (h : k < 58) (hq : ∀ q, q ≠ k → gw E σ' q = gw E σ q) : (gl E σ).set k (E.2.2 k, gw E σ' k) = gl E σ' := by
  apply List.ext_getElem?
  intro j
  by_cases hj : j = k
  · subst hj
    rw [List.getElem?_set_self (by rw [gl_len]; omega), gl_at h]
  · rw [List.getElem?_set_ne (Ne.symm hj)]
    by_cases hl : j < 58
    · rw [gl_at hl, gl_at hl, hq j hj]
    · obtain ⟨i, rfl⟩ : ∃ i, j = 58 + i := ⟨j - 58, by omega⟩
      rw [gl_x, gl_x]
theorem gu_ne {σ : gS} {k j q : Nat} {v : Int32} (h : q ≠ k) : (gu σ k j v).1 q = σ.1 q := by
  funext b
  simp [gu, h]
theorem gu_at {σ : gS} {k j : Nat} {v : Int32} (b : Nat) : (gu σ k j v).1 k b = if b = j then v else σ.1 k b := by
  simp [gu]
theorem gw_ne {E : gT} {σ σ' : gS} {q : Nat} (h : σ'.1 q = σ.1 q) : gw E σ' q = gw E σ q := by
  simp only [gw, gO, h]
theorem gw_gu {E : gT} {σ : gS} {k j q : Nat} {v : Int32} (h : q ≠ k) : gw E (gu σ k j v) q = gw E σ q := gw_ne (gu_ne h)
theorem gK_o {E : gT} {σ : gS} {k c : Nat} (h : gK k = c) (hc : c < 5) : gw E σ k = gO σ k c := by
  unfold gw
  rw [h]
  rcases (show c = 0 ∨ c = 1 ∨ c = 2 ∨ c = 3 ∨ c = 4 by omega) with rfl | rfl | rfl | rfl | rfl <;> rfl
theorem gO_get {σ : gS} {k c j : Nat} (h : j < gN c) : ((List.range (gN c)).map (fun j => Value.int (σ.1 k j)))[j]? = some (.int (σ.1 k j)) := by
  simp [h]
theorem gO_set {σ : gS} {k c j : Nat} {v : Int32} : ((List.range (gN c)).map (fun j => Value.int (σ.1 k j))).set j (.int v) = (List.range (gN c)).map (fun i => Value.int ((gu σ k j v).1 k i)) := by
  apply List.ext_getElem?
  intro i
  rw [List.getElem?_set]
  by_cases h : j = i
  · subst h
    by_cases h2 : j < gN c
    · simp [h2, gu]
    · simp [h2]
  · rw [if_neg h]
    by_cases h2 : i < gN c
    · simp [h2, gu, Ne.symm h]
    · simp [h2]
theorem gA_mono {E : gT} {a b : Nat} (_ : a ≤ b) : ∀ q, gA E b q → gA E a q := fun _ hq => hq
/-- statics and texts that a throw needs -/
def gX (A : Nat → Prop) (U : State) (H : Heap) : Prop :=
  (vx_Zq Bundle.tN "UNASSIGNED_STACK" Bundle.steD A U H ∧ vx_Zq Bundle.tN "SUPPRESSED_SENTINEL" Bundle.listD A U H) ∧
  ((∃ a, vk_R RX7 180 "there is no such number" a U) ∧ (∃ a, vk_R RX7 184 "the number is too small or too great" a U) ∧ (∃ a, vk_R RX7 189 "this cannot be done as things are" a U))
theorem gX.moved {A : Nat → Prop} {u U : State} {H : Heap} (hv : U.vm = u.vm) (h : gX A u H) : gX A U H := by
  have ha : u.vm.Alike U.vm := by rw [hv]; exact Vm.Alike.refl _
  obtain ⟨⟨a1, a2⟩, ⟨⟨q2, b2⟩, ⟨q3, b3⟩, ⟨q4, b4⟩⟩⟩ := h
  exact ⟨⟨a1.moved ha, a2.moved ha⟩, ⟨⟨q2, b2.same hv⟩, ⟨q3, b3.same hv⟩, ⟨q4, b4.same hv⟩⟩⟩
theorem gX.warm {A B : Nat → Prop} {s U : State} {H H1 : Heap} (hW : s.WarmedH U.vm) (hq : ∀ a : Nat, a < H.size → ¬ A a → H1[a]? = H[a]?) (hAB : ∀ q, B q → A q) (h : gX A s H) : gX B U H1 := by
  have ha := hW.alike
  obtain ⟨⟨a1, a2⟩, ⟨⟨q2, b2⟩, ⟨q3, b3⟩, ⟨q4, b4⟩⟩⟩ := h
  exact ⟨⟨((a1.kept hq).narrow hAB).moved ha, ((a2.kept hq).narrow hAB).moved ha⟩, ⟨⟨q2, b2.warm hW⟩, ⟨q3, b3.warm hW⟩, ⟨q4, b4.warm hW⟩⟩⟩
abbrev gIA : String := "java/lang/IllegalArgumentException"
abbrev gIS : String := "java/lang/IllegalStateException"
abbrev gIO : String := "java/lang/IndexOutOfBoundsException"
/-- words that a class's tables alone don't keep: what is declared, what may be cast, rows of rows -/
def gF (U : State) : Prop :=
  (va_Nw (.declares ⟨RX5, "size", "()I"⟩) U ∧ va_Nw (.declares ⟨RX5, "tell", "(I)I"⟩) U ∧ va_Nw (.declares (Bundle.initS "java/lang/RuntimeException")) U ∧ va_Nw (.declares (Bundle.initS "java/lang/Exception")) U ∧ va_Nw (.declares (Bundle.initS Bundle.tN)) U) ∧
  (va_Nw (.castable gIA gIA) U ∧ va_Nw (.castable gIS gIS) U ∧ va_Nw (.castable gIO gIO) U) ∧
  (Cond.arrayOver (.array .int)).before #[] U = true
theorem gF.warm {s U : State} (hW : s.WarmedH U.vm) (h : gF s) : gF U := by
  obtain ⟨⟨a1, a2, a3, a4, a5⟩, ⟨b1, b2, b3⟩, n1⟩ := h
  exact ⟨⟨va_Nw.warmD hW a1, va_Nw.warmD hW a2, va_Nw.warmD hW a3, va_Nw.warmD hW a4, va_Nw.warmD hW a5⟩, ⟨va_Nw.warmC hW b1, va_Nw.warmC hW b2, va_Nw.warmC hW b3⟩, over_moved hW.alike n1⟩
theorem gF.same {u U : State} (hv : U.vm = u.vm) (h : gF u) : gF U := by
  obtain ⟨⟨a1, a2, a3, a4, a5⟩, ⟨b1, b2, b3⟩, n1⟩ := h
  have ha : u.vm.Alike U.vm := by rw [hv]; exact Vm.Alike.refl _
  exact ⟨⟨va_Nw.same rfl hv.symm a1, va_Nw.same rfl hv.symm a2, va_Nw.same rfl hv.symm a3, va_Nw.same rfl hv.symm a4, va_Nw.same rfl hv.symm a5⟩, ⟨va_Nw.same rfl hv.symm b1, va_Nw.same rfl hv.symm b2, va_Nw.same rfl hv.symm b3⟩, over_moved ha n1⟩
/-- what holds of the tables and of all that lies about the world, at any method's entry -/
def gC (E : gT) (U : State) : Prop :=
  va_K E.1.1 vwCl (gTys E) U ∧ (gN0 E ≤ U.heap.size ∧ gNo E 0 ≤ 4 ∧ gNo E 1 ≤ 4 ∧ gNo E 2 ≤ 4 ∧ gNo E 3 ≤ 10) ∧ gF U ∧ gX (gA E 0) U U.heap
theorem gC.same {E : gT} {u U : State} (hv : U.vm = u.vm) (hh : U.heap = u.heap) (h : gC E u) : gC E U := by
  obtain ⟨h1, h2, h3, h5⟩ := h
  refine ⟨h1.moved (by rw [hv]; exact Vm.Alike.refl _), by rw [hh]; exact h2, h3.same hv, ?_⟩
  rw [hh]
  exact h5.moved hv
theorem gC.go {E : gT} {s U : State} {H : Heap} {locs : List Loc} (h : gC E s) (hS : va_S (gA E s.heap.size) s.heap H locs) (hU : U.heap = H) (hW : s.WarmedH U.vm) : gC E U := by
  obtain ⟨h1, h2, h3, h5⟩ := h
  refine ⟨h1.moved hW.alike, by rw [hU]; exact ⟨Nat.le_trans h2.1 hS.1, h2.2⟩, h3.warm hW, ?_⟩
  rw [hU]
  exact h5.warm hW hS.2.1 (fun _ h => h)
theorem gC.new {E : gT} {s : State} {sz : Nat} (h : gC E s) : ∀ q, s.heap.size ≤ q → gA E sz q := fun _ hq => Nat.le_trans h.2.1.1 hq
end
section
section GR
variable {p : Program} {l : Launch} {e : Env} {R : Room} {s : State} {m : MethodId} {args : Array Value} {below : List Frame} {meth : Method} {c : Code} {Q : State → Prop}
variable {cc : ByteArray} {nL : Nat} {Ts : List Cond} {own : String} {E : gT} {σ : gS} {cells slots pc : Nat} {lv lv' : List (Nat × Value)} {rest : List Value}
/-- a walk's point: the world's numbers, the room used, the pc, locals, stack: from any heap that holds them -/
def gJ (p : Program) (l : Launch) (e : Env) (R : Room) (s : State) (m : MethodId) (args : Array Value) (below : List Frame) (meth : Method) (c : Code) (Q : State → Prop) (nL : Nat) (E : gT) (σ : gS) (cells slots pc : Nat) (lv : List (Nat × Value)) (st : List Value) : Prop :=
  ∀ (H : Heap) (locs : List Loc) (ls : Array Slot), gP E σ H → va_S (gA E s.heap.size) s.heap H locs → lv_has ls nL lv → W p l e R s m args below meth c H locs cells slots Q (F0 m pc ls st)
theorem g_eq {σ' : gS} {st st' : List Value} (h1 : σ = σ') (h2 : st = st') (k : gJ p l e R s m args below meth c Q nL E σ' cells slots pc lv st') : gJ p l e R s m args below meth c Q nL E σ cells slots pc lv st := by
  subst h1; subst h2; exact k
theorem g_wid {k n : Nat} (h1 : cells ≤ k) (h2 : slots ≤ n) (kk : gJ p l e R s m args below meth c Q nL E σ k n pc lv rest) : gJ p l e R s m args below meth c Q nL E σ cells slots pc lv rest :=
  fun H locs ls hP hS hl => W.widen h1 h2 (kk H locs ls hP hS hl)
theorem g_lvs (ks : List Nat) (h : lv_pick lv ks = lv') (kk : gJ p l e R s m args below meth c Q nL E σ cells slots pc lv' rest) : gJ p l e R s m args below meth c Q nL E σ cells slots pc lv rest :=
  fun H locs ls hP hS hl => kk H locs ls hP hS (lv_sub hl ks h)
theorem g_const (S : CallFix p m c cc nL s args Ts own) {n : Int} {v : Int32} (d : decode cc pc = .ok (.iconst n, 1)) (hv : Int32.ofInt n = v) (kk : gJ p l e R s m args below meth c Q nL E σ cells slots (pc + 1) lv (.int v :: rest)) : gJ p l e R s m args below meth c Q nL E σ cells slots pc lv rest :=
  fun H locs ls hP hS hl => lv_iconst S.1 S.2.1 d hv (kk H locs ls hP hS hl)
theorem g_bipush (S : CallFix p m c cc nL s args Ts own) {n : Int} {v : Int32} (d : decode cc pc = .ok (.bipush n, 2)) (hv : (Int8.ofInt n).toInt32 = v) (kk : gJ p l e R s m args below meth c Q nL E σ cells slots (pc + 2) lv (.int v :: rest)) : gJ p l e R s m args below meth c Q nL E σ cells slots pc lv rest :=
  fun H locs ls hP hS hl => lv_bipush S.1 S.2.1 d hv (kk H locs ls hP hS hl)
theorem g_lconst (S : CallFix p m c cc nL s args Ts own) {n : Fin 2} {v : Int64} (d : decode cc pc = .ok (.lconst n, 1)) (hv : Int64.ofNat (n : Nat) = v) (kk : gJ p l e R s m args below meth c Q nL E σ cells slots (pc + 1) lv (.long v :: rest)) : gJ p l e R s m args below meth c Q nL E σ cells slots pc lv rest :=
  fun H locs ls hP hS hl => lv_lconst S.1 S.2.1 d hv (kk H locs ls hP hS hl)
theorem g_dconst (S : CallFix p m c cc nL s args Ts own) (d : decode cc pc = .ok (.dconst 0, 1)) (kk : gJ p l e R s m args below meth c Q nL E σ cells slots (pc + 1) lv (.double FP.dconst0 :: rest)) : gJ p l e R s m args below meth c Q nL E σ cells slots pc lv rest :=
  fun H locs ls hP hS hl => lv_dconst0 S.1 S.2.1 d (kk H locs ls hP hS hl)
theorem g_ldc2 (S : CallFix p m c cc nL s args Ts own) {index : Nat} {v : Int64} (hw : Cond.constantLong own index v ∈ Ts) (d : decode cc pc = .ok (.ldc2_w index, 3)) (kk : gJ p l e R s m args below meth c Q nL E σ cells slots (pc + 3) lv (.long v :: rest)) : gJ p l e R s m args below meth c Q nL E σ cells slots pc lv rest :=
  fun H locs ls hP hS hl => lv_ldc2 S.1 S.2.1 S.2.2.2.1 (S.2.2.2.2 _ hw) d (kk H locs ls hP hS hl)
theorem g_iload_n (S : CallFix p m c cc nL s args Ts own) (j : Nat) {k : Fin 4} {x : Int32} (d : decode cc pc = .ok (.iload_n k, 1)) (hj : lv[j]? = some ((k : Nat), .int x)) (kk : gJ p l e R s m args below meth c Q nL E σ cells slots (pc + 1) lv (.int x :: rest)) : gJ p l e R s m args below meth c Q nL E σ cells slots pc lv rest :=
  fun H locs ls hP hS hl => lv_iload_n S.1 S.2.1 d rfl (lv_at hl j hj) (kk H locs ls hP hS hl)
theorem g_iload (S : CallFix p m c cc nL s args Ts own) (j : Nat) {i : Nat} {x : Int32} (d : decode cc pc = .ok (.iload i, 2)) (hj : lv[j]? = some (i, .int x)) (kk : gJ p l e R s m args below meth c Q nL E σ cells slots (pc + 2) lv (.int x :: rest)) : gJ p l e R s m args below meth c Q nL E σ cells slots pc lv rest :=
  fun H locs ls hP hS hl => lv_iload S.1 S.2.1 d (lv_at hl j hj) (kk H locs ls hP hS hl)
theorem g_lload_n (S : CallFix p m c cc nL s args Ts own) (j : Nat) {k : Fin 4} {x : Int64} (d : decode cc pc = .ok (.lload_n k, 1)) (hj : lv[j]? = some ((k : Nat), .long x)) (kk : gJ p l e R s m args below meth c Q nL E σ cells slots (pc + 1) lv (.long x :: rest)) : gJ p l e R s m args below meth c Q nL E σ cells slots pc lv rest :=
  fun H locs ls hP hS hl => lv_lload_n S.1 S.2.1 d rfl (lv_at hl j hj) (kk H locs ls hP hS hl)
theorem g_lload (S : CallFix p m c cc nL s args Ts own) (j : Nat) {i : Nat} {x : Int64} (d : decode cc pc = .ok (.lload i, 2)) (hj : lv[j]? = some (i, .long x)) (kk : gJ p l e R s m args below meth c Q nL E σ cells slots (pc + 2) lv (.long x :: rest)) : gJ p l e R s m args below meth c Q nL E σ cells slots pc lv rest :=
  fun H locs ls hP hS hl => lv_lload S.1 S.2.1 d (lv_at hl j hj) (kk H locs ls hP hS hl)
theorem g_aload_n (S : CallFix p m c cc nL s args Ts own) (j : Nat) {k : Fin 4} {x : Nat} (d : decode cc pc = .ok (.aload_n k, 1)) (hj : lv[j]? = some ((k : Nat), .ref x)) (kk : gJ p l e R s m args below meth c Q nL E σ cells slots (pc + 1) lv (.ref x :: rest)) : gJ p l e R s m args below meth c Q nL E σ cells slots pc lv rest :=
  fun H locs ls hP hS hl => lv_aload_n S.1 S.2.1 d rfl (lv_at hl j hj) (kk H locs ls hP hS hl)
theorem g_aload (S : CallFix p m c cc nL s args Ts own) (j : Nat) {i : Nat} {x : Nat} (d : decode cc pc = .ok (.aload i, 2)) (hj : lv[j]? = some (i, .ref x)) (kk : gJ p l e R s m args below meth c Q nL E σ cells slots (pc + 2) lv (.ref x :: rest)) : gJ p l e R s m args below meth c Q nL E σ cells slots pc lv rest :=
  fun H locs ls hP hS hl => lv_aload S.1 S.2.1 d (lv_at hl j hj) (kk H locs ls hP hS hl)
theorem g_dload_n (S : CallFix p m c cc nL s args Ts own) (j : Nat) {k : Fin 4} {x : UInt64} (d : decode cc pc = .ok (.dload_n k, 1)) (hj : lv[j]? = some ((k : Nat), .double x)) (kk : gJ p l e R s m args below meth c Q nL E σ cells slots (pc + 1) lv (.double x :: rest)) : gJ p l e R s m args below meth c Q nL E σ cells slots pc lv rest :=
  fun H locs ls hP hS hl => lv_dload_n S.1 S.2.1 d rfl (lv_at hl j hj) (kk H locs ls hP hS hl)
theorem g_dload (S : CallFix p m c cc nL s args Ts own) (j : Nat) {i : Nat} {x : UInt64} (d : decode cc pc = .ok (.dload i, 2)) (hj : lv[j]? = some (i, .double x)) (kk : gJ p l e R s m args below meth c Q nL E σ cells slots (pc + 2) lv (.double x :: rest)) : gJ p l e R s m args below meth c Q nL E σ cells slots pc lv rest :=
  fun H locs ls hP hS hl => lv_dload S.1 S.2.1 d (lv_at hl j hj) (kk H locs ls hP hS hl)
theorem g_istore_n (S : CallFix p m c cc nL s args Ts own) (lv' : List (Nat × Value)) {k : Fin 4} {x : Int32} (d : decode cc pc = .ok (.istore_n k, 1)) (hn : (k : Nat) < nL) (hl' : ((k : Nat), Value.int x) :: lv.filter (fun q => !(q.1 == (k : Nat)) && !(q.1 + 1 == (k : Nat) && q.2.category == 2)) = lv') (kk : gJ p l e R s m args below meth c Q nL E σ cells slots (pc + 1) lv' rest) : gJ p l e R s m args below meth c Q nL E σ cells slots pc lv (.int x :: rest) :=
  fun H locs ls hP hS hl => lv_istore_n S.1 S.2.1 d rfl hl hn hl' (fun ls' hl' => kk H locs ls' hP hS hl')
theorem g_istore (S : CallFix p m c cc nL s args Ts own) (lv' : List (Nat × Value)) {i : Nat} {x : Int32} (d : decode cc pc = .ok (.istore i, 2)) (hn : i < nL) (hl' : (i, Value.int x) :: lv.filter (fun q => !(q.1 == i) && !(q.1 + 1 == i && q.2.category == 2)) = lv') (kk : gJ p l e R s m args below meth c Q nL E σ cells slots (pc + 2) lv' rest) : gJ p l e R s m args below meth c Q nL E σ cells slots pc lv (.int x :: rest) :=
  fun H locs ls hP hS hl => lv_istore S.1 S.2.1 d hl hn hl' (fun ls' hl' => kk H locs ls' hP hS hl')
theorem g_lstore_n (S : CallFix p m c cc nL s args Ts own) (lv' : List (Nat × Value)) {k : Fin 4} {x : Int64} (d : decode cc pc = .ok (.lstore_n k, 1)) (hn : (k : Nat) + 1 < nL) (hl' : ((k : Nat), Value.long x) :: lv.filter (fun q => !(q.1 == (k : Nat)) && (!(q.1 == (k : Nat) + 1) && !(q.1 + 1 == (k : Nat) && q.2.category == 2))) = lv') (kk : gJ p l e R s m args below meth c Q nL E σ cells slots (pc + 1) lv' rest) : gJ p l e R s m args below meth c Q nL E σ cells slots pc lv (.long x :: rest) :=
  fun H locs ls hP hS hl => lv_lstore_n S.1 S.2.1 d rfl hl hn hl' (fun ls' hl' => kk H locs ls' hP hS hl')
theorem g_lstore (S : CallFix p m c cc nL s args Ts own) (lv' : List (Nat × Value)) {i : Nat} {x : Int64} (d : decode cc pc = .ok (.lstore i, 2)) (hn : i + 1 < nL) (hl' : (i, Value.long x) :: lv.filter (fun q => !(q.1 == i) && (!(q.1 == i + 1) && !(q.1 + 1 == i && q.2.category == 2))) = lv') (kk : gJ p l e R s m args below meth c Q nL E σ cells slots (pc + 2) lv' rest) : gJ p l e R s m args below meth c Q nL E σ cells slots pc lv (.long x :: rest) :=
  fun H locs ls hP hS hl => lv_lstore S.1 S.2.1 d hl hn hl' (fun ls' hl' => kk H locs ls' hP hS hl')
theorem g_astore_n (S : CallFix p m c cc nL s args Ts own) (lv' : List (Nat × Value)) {k : Fin 4} {x : Nat} (d : decode cc pc = .ok (.astore_n k, 1)) (hn : (k : Nat) < nL) (hl' : ((k : Nat), Value.ref x) :: lv.filter (fun q => !(q.1 == (k : Nat)) && !(q.1 + 1 == (k : Nat) && q.2.category == 2)) = lv') (kk : gJ p l e R s m args below meth c Q nL E σ cells slots (pc + 1) lv' rest) : gJ p l e R s m args below meth c Q nL E σ cells slots pc lv (.ref x :: rest) :=
  fun H locs ls hP hS hl => lv_astore_n S.1 S.2.1 d rfl hl hn hl' (fun ls' hl' => kk H locs ls' hP hS hl')
theorem g_astore (S : CallFix p m c cc nL s args Ts own) (lv' : List (Nat × Value)) {i : Nat} {x : Nat} (d : decode cc pc = .ok (.astore i, 2)) (hn : i < nL) (hl' : (i, Value.ref x) :: lv.filter (fun q => !(q.1 == i) && !(q.1 + 1 == i && q.2.category == 2)) = lv') (kk : gJ p l e R s m args below meth c Q nL E σ cells slots (pc + 2) lv' rest) : gJ p l e R s m args below meth c Q nL E σ cells slots pc lv (.ref x :: rest) :=
  fun H locs ls hP hS hl => lv_astore S.1 S.2.1 d hl hn hl' (fun ls' hl' => kk H locs ls' hP hS hl')
theorem g_dstore_n (S : CallFix p m c cc nL s args Ts own) (lv' : List (Nat × Value)) {k : Fin 4} {x : UInt64} (d : decode cc pc = .ok (.dstore_n k, 1)) (hn : (k : Nat) + 1 < nL) (hl' : ((k : Nat), Value.double x) :: lv.filter (fun q => !(q.1 == (k : Nat)) && (!(q.1 == (k : Nat) + 1) && !(q.1 + 1 == (k : Nat) && q.2.category == 2))) = lv') (kk : gJ p l e R s m args below meth c Q nL E σ cells slots (pc + 1) lv' rest) : gJ p l e R s m args below meth c Q nL E σ cells slots pc lv (.double x :: rest) :=
  fun H locs ls hP hS hl => lv_dstore_n S.1 S.2.1 d rfl hl hn hl' (fun ls' hl' => kk H locs ls' hP hS hl')
theorem g_dstore (S : CallFix p m c cc nL s args Ts own) (lv' : List (Nat × Value)) {i : Nat} {x : UInt64} (d : decode cc pc = .ok (.dstore i, 2)) (hn : i + 1 < nL) (hl' : (i, Value.double x) :: lv.filter (fun q => !(q.1 == i) && (!(q.1 == i + 1) && !(q.1 + 1 == i && q.2.category == 2))) = lv') (kk : gJ p l e R s m args below meth c Q nL E σ cells slots (pc + 2) lv' rest) : gJ p l e R s m args below meth c Q nL E σ cells slots pc lv (.double x :: rest) :=
  fun H locs ls hP hS hl => lv_dstore S.1 S.2.1 d hl hn hl' (fun ls' hl' => kk H locs ls' hP hS hl')
theorem g_iinc (S : CallFix p m c cc nL s args Ts own) (lv' : List (Nat × Value)) (j : Nat) (v : Int32) {i : Nat} {n : Int} {x : Int32} (d : decode cc pc = .ok (.iinc i n, 3)) (hj : lv[j]? = some (i, .int x)) (hv : x + Int32.ofInt n = v) (hn : i < nL) (hl' : (i, Value.int v) :: lv.filter (fun q => !(q.1 == i) && !(q.1 + 1 == i && q.2.category == 2)) = lv') (kk : gJ p l e R s m args below meth c Q nL E σ cells slots (pc + 3) lv' rest) : gJ p l e R s m args below meth c Q nL E σ cells slots pc lv rest :=
  fun H locs ls hP hS hl => lv_iinc S.1 S.2.1 d hl hj hv hn hl' (fun ls' hl' => kk H locs ls' hP hS hl')
theorem g_iadd (S : CallFix p m c cc nL s args Ts own) {x y : Int32} (d : decode cc pc = .ok (.iadd, 1)) (kk : gJ p l e R s m args below meth c Q nL E σ cells slots (pc + 1) lv (.int (x + y) :: rest)) : gJ p l e R s m args below meth c Q nL E σ cells slots pc lv (.int y :: .int x :: rest) :=
  fun H locs ls hP hS hl => lv_iadd S.1 S.2.1 d (kk H locs ls hP hS hl)
theorem g_isub (S : CallFix p m c cc nL s args Ts own) {x y : Int32} (d : decode cc pc = .ok (.isub, 1)) (kk : gJ p l e R s m args below meth c Q nL E σ cells slots (pc + 1) lv (.int (x - y) :: rest)) : gJ p l e R s m args below meth c Q nL E σ cells slots pc lv (.int y :: .int x :: rest) :=
  fun H locs ls hP hS hl => lv_isub S.1 S.2.1 d (kk H locs ls hP hS hl)
theorem g_imul (S : CallFix p m c cc nL s args Ts own) {x y : Int32} (d : decode cc pc = .ok (.imul, 1)) (kk : gJ p l e R s m args below meth c Q nL E σ cells slots (pc + 1) lv (.int (x * y) :: rest)) : gJ p l e R s m args below meth c Q nL E σ cells slots pc lv (.int y :: .int x :: rest) :=
  fun H locs ls hP hS hl => lv_imul S.1 S.2.1 d (kk H locs ls hP hS hl)
theorem g_iand (S : CallFix p m c cc nL s args Ts own) {x y : Int32} (d : decode cc pc = .ok (.iand, 1)) (kk : gJ p l e R s m args below meth c Q nL E σ cells slots (pc + 1) lv (.int (x &&& y) :: rest)) : gJ p l e R s m args below meth c Q nL E σ cells slots pc lv (.int y :: .int x :: rest) :=
  fun H locs ls hP hS hl => lv_iand S.1 S.2.1 d (kk H locs ls hP hS hl)
theorem g_ishr (S : CallFix p m c cc nL s args Ts own) {x y : Int32} (d : decode cc pc = .ok (.ishr, 1)) (kk : gJ p l e R s m args below meth c Q nL E σ cells slots (pc + 1) lv (.int (x >>> (y &&& 31)) :: rest)) : gJ p l e R s m args below meth c Q nL E σ cells slots pc lv (.int y :: .int x :: rest) :=
  fun H locs ls hP hS hl => lv_ishr S.1 S.2.1 d (kk H locs ls hP hS hl)
theorem g_ladd (S : CallFix p m c cc nL s args Ts own) {x y : Int64} (d : decode cc pc = .ok (.ladd, 1)) (kk : gJ p l e R s m args below meth c Q nL E σ cells slots (pc + 1) lv (.long (x + y) :: rest)) : gJ p l e R s m args below meth c Q nL E σ cells slots pc lv (.long y :: .long x :: rest) :=
  fun H locs ls hP hS hl => lv_ladd S.1 S.2.1 d (kk H locs ls hP hS hl)
theorem g_lmul (S : CallFix p m c cc nL s args Ts own) {x y : Int64} (d : decode cc pc = .ok (.lmul, 1)) (kk : gJ p l e R s m args below meth c Q nL E σ cells slots (pc + 1) lv (.long (x * y) :: rest)) : gJ p l e R s m args below meth c Q nL E σ cells slots pc lv (.long y :: .long x :: rest) :=
  fun H locs ls hP hS hl => lv_lmul S.1 S.2.1 d (kk H locs ls hP hS hl)
theorem g_idiv (S : CallFix p m c cc nL s args Ts own) {x y : Int32} (d : decode cc pc = .ok (.idiv, 1)) (hne : ¬ y = 0) (kk : gJ p l e R s m args below meth c Q nL E σ cells slots (pc + 1) lv (.int (x / y) :: rest)) : gJ p l e R s m args below meth c Q nL E σ cells slots pc lv (.int y :: .int x :: rest) :=
  fun H locs ls hP hS hl => lv_idiv S.1 S.2.1 d hne (kk H locs ls hP hS hl)
theorem g_irem (S : CallFix p m c cc nL s args Ts own) {x y : Int32} (d : decode cc pc = .ok (.irem, 1)) (hne : ¬ y = 0) (kk : gJ p l e R s m args below meth c Q nL E σ cells slots (pc + 1) lv (.int (x - x / y * y) :: rest)) : gJ p l e R s m args below meth c Q nL E σ cells slots pc lv (.int y :: .int x :: rest) :=
  fun H locs ls hP hS hl => lv_irem S.1 S.2.1 d hne (kk H locs ls hP hS hl)
theorem g_ineg (S : CallFix p m c cc nL s args Ts own) {x : Int32} (d : decode cc pc = .ok (.ineg, 1)) (kk : gJ p l e R s m args below meth c Q nL E σ cells slots (pc + 1) lv (.int (-x) :: rest)) : gJ p l e R s m args below meth c Q nL E σ cells slots pc lv (.int x :: rest) :=
  fun H locs ls hP hS hl => lv_ineg S.1 S.2.1 d (kk H locs ls hP hS hl)
theorem g_i2l (S : CallFix p m c cc nL s args Ts own) {x : Int32} (d : decode cc pc = .ok (.i2l, 1)) (kk : gJ p l e R s m args below meth c Q nL E σ cells slots (pc + 1) lv (.long x.toInt64 :: rest)) : gJ p l e R s m args below meth c Q nL E σ cells slots pc lv (.int x :: rest) :=
  fun H locs ls hP hS hl => lv_i2l S.1 S.2.1 d rfl (kk H locs ls hP hS hl)
theorem g_i2d (S : CallFix p m c cc nL s args Ts own) {x : Int32} (d : decode cc pc = .ok (.i2d, 1)) (kk : gJ p l e R s m args below meth c Q nL E σ cells slots (pc + 1) lv (.double (FP.i2d x) :: rest)) : gJ p l e R s m args below meth c Q nL E σ cells slots pc lv (.int x :: rest) :=
  fun H locs ls hP hS hl => lv_i2d S.1 S.2.1 d (kk H locs ls hP hS hl)
theorem g_dcmp (S : CallFix p m c cc nL s args Ts own) {x y : UInt64} {op : CmpOp} (d : decode cc pc = .ok (.dcmp op, 1)) (kk : gJ p l e R s m args below meth c Q nL E σ cells slots (pc + 1) lv (.int (Op.cmpValue (FP.dcmp x y) op) :: rest)) : gJ p l e R s m args below meth c Q nL E σ cells slots pc lv (.double y :: .double x :: rest) :=
  fun H locs ls hP hS hl => lv_dcmp S.1 S.2.1 d (kk H locs ls hP hS hl)
theorem g_dup (S : CallFix p m c cc nL s args Ts own) {va : Value} (d : decode cc pc = .ok (.dup, 1)) (h1 : va.category = 1) (kk : gJ p l e R s m args below meth c Q nL E σ cells slots (pc + 1) lv (va :: va :: rest)) : gJ p l e R s m args below meth c Q nL E σ cells slots pc lv (va :: rest) :=
  fun H locs ls hP hS hl => lv_dup S.1 S.2.1 d h1 (kk H locs ls hP hS hl)
theorem g_dup_x1 (S : CallFix p m c cc nL s args Ts own) {va vb : Value} (d : decode cc pc = .ok (.dup_x1, 1)) (h1 : va.category = 1) (h2 : vb.category = 1) (kk : gJ p l e R s m args below meth c Q nL E σ cells slots (pc + 1) lv (va :: vb :: va :: rest)) : gJ p l e R s m args below meth c Q nL E σ cells slots pc lv (va :: vb :: rest) :=
  fun H locs ls hP hS hl => lv_dup_x1 S.1 S.2.1 d h1 h2 (kk H locs ls hP hS hl)
theorem g_dup2 (S : CallFix p m c cc nL s args Ts own) {va vb : Value} (d : decode cc pc = .ok (.dup2, 1)) (h1 : va.category = 1) (h2 : vb.category = 1) (kk : gJ p l e R s m args below meth c Q nL E σ cells slots (pc + 1) lv (va :: vb :: va :: vb :: rest)) : gJ p l e R s m args below meth c Q nL E σ cells slots pc lv (va :: vb :: rest) :=
  fun H locs ls hP hS hl => lv_dup2_11 S.1 S.2.1 d h1 h2 (kk H locs ls hP hS hl)
theorem g_pop (S : CallFix p m c cc nL s args Ts own) {va : Value} (d : decode cc pc = .ok (.pop, 1)) (h1 : va.category = 1) (kk : gJ p l e R s m args below meth c Q nL E σ cells slots (pc + 1) lv rest) : gJ p l e R s m args below meth c Q nL E σ cells slots pc lv (va :: rest) :=
  fun H locs ls hP hS hl => lv_pop S.1 S.2.1 d h1 (kk H locs ls hP hS hl)
theorem g_goto (S : CallFix p m c cc nL s args Ts own) {off : Int} (tgt : Nat) (d : decode cc pc = .ok (.goto off, 3)) (ht : (pc : Int) + off = (tgt : Int)) (kk : gJ p l e R s m args below meth c Q nL E σ cells slots tgt lv rest) : gJ p l e R s m args below meth c Q nL E σ cells slots pc lv rest :=
  fun H locs ls hP hS hl => lv_goto S.1 S.2.1 d ht (kk H locs ls hP hS hl)
theorem g_lcmp (S : CallFix p m c cc nL s args Ts own) {x y : Int64} (d : decode cc pc = .ok (.lcmp, 1)) (kk : gJ p l e R s m args below meth c Q nL E σ cells slots (pc + 1) lv (.int (lg_cmp x y) :: rest)) : gJ p l e R s m args below meth c Q nL E σ cells slots pc lv (.long y :: .long x :: rest) :=
  fun H locs ls hP hS hl => W.lcmp S.1 S.2.1 d (kk H locs ls hP hS hl)
theorem g_if_eq (S : CallFix p m c cc nL s args Ts own) {x : Int32} {off : Int} (tgt : Nat) (d : decode cc pc = .ok (.ifCond .eq off, 3)) (ht : (pc : Int) + off = (tgt : Int)) (kt : x = 0 → gJ p l e R s m args below meth c Q nL E σ cells slots tgt lv rest) (kf : ¬ (x = 0) → gJ p l e R s m args below meth c Q nL E σ cells slots (pc + 3) lv rest) : gJ p l e R s m args below meth c Q nL E σ cells slots pc lv (.int x :: rest) :=
  fun H locs ls hP hS hl => lv_if_eq S.1 S.2.1 d ht (fun h => kt h H locs ls hP hS hl) (fun h => kf h H locs ls hP hS hl)
theorem g_if_ne (S : CallFix p m c cc nL s args Ts own) {x : Int32} {off : Int} (tgt : Nat) (d : decode cc pc = .ok (.ifCond .ne off, 3)) (ht : (pc : Int) + off = (tgt : Int)) (kt : ¬ x = 0 → gJ p l e R s m args below meth c Q nL E σ cells slots tgt lv rest) (kf : x = 0 → gJ p l e R s m args below meth c Q nL E σ cells slots (pc + 3) lv rest) : gJ p l e R s m args below meth c Q nL E σ cells slots pc lv (.int x :: rest) :=
  fun H locs ls hP hS hl => lv_if_ne S.1 S.2.1 d ht (fun h => kt h H locs ls hP hS hl) (fun h => kf h H locs ls hP hS hl)
theorem g_if_lt (S : CallFix p m c cc nL s args Ts own) {x : Int32} {off : Int} (tgt : Nat) (d : decode cc pc = .ok (.ifCond .lt off, 3)) (ht : (pc : Int) + off = (tgt : Int)) (kt : x < 0 → gJ p l e R s m args below meth c Q nL E σ cells slots tgt lv rest) (kf : ¬ (x < 0) → gJ p l e R s m args below meth c Q nL E σ cells slots (pc + 3) lv rest) : gJ p l e R s m args below meth c Q nL E σ cells slots pc lv (.int x :: rest) :=
  fun H locs ls hP hS hl => lv_if_lt S.1 S.2.1 d ht (fun h => kt h H locs ls hP hS hl) (fun h => kf h H locs ls hP hS hl)
theorem g_if_ge (S : CallFix p m c cc nL s args Ts own) {x : Int32} {off : Int} (tgt : Nat) (d : decode cc pc = .ok (.ifCond .ge off, 3)) (ht : (pc : Int) + off = (tgt : Int)) (kt : 0 ≤ x → gJ p l e R s m args below meth c Q nL E σ cells slots tgt lv rest) (kf : ¬ (0 ≤ x) → gJ p l e R s m args below meth c Q nL E σ cells slots (pc + 3) lv rest) : gJ p l e R s m args below meth c Q nL E σ cells slots pc lv (.int x :: rest) :=
  fun H locs ls hP hS hl => lv_if_ge S.1 S.2.1 d ht (fun h => kt h H locs ls hP hS hl) (fun h => kf h H locs ls hP hS hl)
theorem g_if_gt (S : CallFix p m c cc nL s args Ts own) {x : Int32} {off : Int} (tgt : Nat) (d : decode cc pc = .ok (.ifCond .gt off, 3)) (ht : (pc : Int) + off = (tgt : Int)) (kt : 0 < x → gJ p l e R s m args below meth c Q nL E σ cells slots tgt lv rest) (kf : ¬ (0 < x) → gJ p l e R s m args below meth c Q nL E σ cells slots (pc + 3) lv rest) : gJ p l e R s m args below meth c Q nL E σ cells slots pc lv (.int x :: rest) :=
  fun H locs ls hP hS hl => lv_if_gt S.1 S.2.1 d ht (fun h => kt h H locs ls hP hS hl) (fun h => kf h H locs ls hP hS hl)
theorem g_if_le (S : CallFix p m c cc nL s args Ts own) {x : Int32} {off : Int} (tgt : Nat) (d : decode cc pc = .ok (.ifCond .le off, 3)) (ht : (pc : Int) + off = (tgt : Int)) (kt : x ≤ 0 → gJ p l e R s m args below meth c Q nL E σ cells slots tgt lv rest) (kf : ¬ (x ≤ 0) → gJ p l e R s m args below meth c Q nL E σ cells slots (pc + 3) lv rest) : gJ p l e R s m args below meth c Q nL E σ cells slots pc lv (.int x :: rest) :=
  fun H locs ls hP hS hl => lv_if_le S.1 S.2.1 d ht (fun h => kt h H locs ls hP hS hl) (fun h => kf h H locs ls hP hS hl)
theorem g_icmp_eq (S : CallFix p m c cc nL s args Ts own) {x y : Int32} {off : Int} (tgt : Nat) (d : decode cc pc = .ok (.if_icmp .eq off, 3)) (ht : (pc : Int) + off = (tgt : Int)) (kt : x = y → gJ p l e R s m args below meth c Q nL E σ cells slots tgt lv rest) (kf : ¬ (x = y) → gJ p l e R s m args below meth c Q nL E σ cells slots (pc + 3) lv rest) : gJ p l e R s m args below meth c Q nL E σ cells slots pc lv (.int y :: .int x :: rest) :=
  fun H locs ls hP hS hl => lv_icmp_eq S.1 S.2.1 d ht (fun h => kt h H locs ls hP hS hl) (fun h => kf h H locs ls hP hS hl)
theorem g_icmp_ne (S : CallFix p m c cc nL s args Ts own) {x y : Int32} {off : Int} (tgt : Nat) (d : decode cc pc = .ok (.if_icmp .ne off, 3)) (ht : (pc : Int) + off = (tgt : Int)) (kt : ¬ x = y → gJ p l e R s m args below meth c Q nL E σ cells slots tgt lv rest) (kf : x = y → gJ p l e R s m args below meth c Q nL E σ cells slots (pc + 3) lv rest) : gJ p l e R s m args below meth c Q nL E σ cells slots pc lv (.int y :: .int x :: rest) :=
  fun H locs ls hP hS hl => lv_icmp_ne S.1 S.2.1 d ht (fun h => kt h H locs ls hP hS hl) (fun h => kf h H locs ls hP hS hl)
theorem g_icmp_lt (S : CallFix p m c cc nL s args Ts own) {x y : Int32} {off : Int} (tgt : Nat) (d : decode cc pc = .ok (.if_icmp .lt off, 3)) (ht : (pc : Int) + off = (tgt : Int)) (kt : x < y → gJ p l e R s m args below meth c Q nL E σ cells slots tgt lv rest) (kf : ¬ (x < y) → gJ p l e R s m args below meth c Q nL E σ cells slots (pc + 3) lv rest) : gJ p l e R s m args below meth c Q nL E σ cells slots pc lv (.int y :: .int x :: rest) :=
  fun H locs ls hP hS hl => lv_icmp_lt S.1 S.2.1 d ht (fun h => kt h H locs ls hP hS hl) (fun h => kf h H locs ls hP hS hl)
theorem g_icmp_ge (S : CallFix p m c cc nL s args Ts own) {x y : Int32} {off : Int} (tgt : Nat) (d : decode cc pc = .ok (.if_icmp .ge off, 3)) (ht : (pc : Int) + off = (tgt : Int)) (kt : y ≤ x → gJ p l e R s m args below meth c Q nL E σ cells slots tgt lv rest) (kf : ¬ (y ≤ x) → gJ p l e R s m args below meth c Q nL E σ cells slots (pc + 3) lv rest) : gJ p l e R s m args below meth c Q nL E σ cells slots pc lv (.int y :: .int x :: rest) :=
  fun H locs ls hP hS hl => lv_icmp_ge S.1 S.2.1 d ht (fun h => kt h H locs ls hP hS hl) (fun h => kf h H locs ls hP hS hl)
theorem g_icmp_gt (S : CallFix p m c cc nL s args Ts own) {x y : Int32} {off : Int} (tgt : Nat) (d : decode cc pc = .ok (.if_icmp .gt off, 3)) (ht : (pc : Int) + off = (tgt : Int)) (kt : y < x → gJ p l e R s m args below meth c Q nL E σ cells slots tgt lv rest) (kf : ¬ (y < x) → gJ p l e R s m args below meth c Q nL E σ cells slots (pc + 3) lv rest) : gJ p l e R s m args below meth c Q nL E σ cells slots pc lv (.int y :: .int x :: rest) :=
  fun H locs ls hP hS hl => lv_icmp_gt S.1 S.2.1 d ht (fun h => kt h H locs ls hP hS hl) (fun h => kf h H locs ls hP hS hl)
theorem g_icmp_le (S : CallFix p m c cc nL s args Ts own) {x y : Int32} {off : Int} (tgt : Nat) (d : decode cc pc = .ok (.if_icmp .le off, 3)) (ht : (pc : Int) + off = (tgt : Int)) (kt : x ≤ y → gJ p l e R s m args below meth c Q nL E σ cells slots tgt lv rest) (kf : ¬ (x ≤ y) → gJ p l e R s m args below meth c Q nL E σ cells slots (pc + 3) lv rest) : gJ p l e R s m args below meth c Q nL E σ cells slots pc lv (.int y :: .int x :: rest) :=
  fun H locs ls hP hS hl => lv_icmp_le S.1 S.2.1 d ht (fun h => kt h H locs ls hP hS hl) (fun h => kf h H locs ls hP hS hl)
theorem g_tabOut (S : CallFix p m c cc nL s args Ts own) {dflt lo hi : Int} {offs : Array Int} {len : Nat} {x : Int32} (tgt : Nat) (d : decode cc pc = .ok (.tableswitch dflt lo hi offs, len)) (h : x.toInt < lo ∨ hi < x.toInt) (ht : (pc : Int) + dflt = (tgt : Int)) (kk : gJ p l e R s m args below meth c Q nL E σ cells slots tgt lv rest) : gJ p l e R s m args below meth c Q nL E σ cells slots pc lv (.int x :: rest) :=
  fun H locs ls hP hS hl => lv_tableOut S.1 S.2.1 d h ht (kk H locs ls hP hS hl)
theorem g_tabIn (S : CallFix p m c cc nL s args Ts own) {dflt lo hi : Int} {offs : Array Int} {len : Nat} {x : Int32} {off : Int} (tgt : Nat) (d : decode cc pc = .ok (.tableswitch dflt lo hi offs, len)) (h1 : ¬ x.toInt < lo) (h2 : ¬ hi < x.toInt) (ho : offs[(x.toInt - lo).toNat]? = some off) (ht : (pc : Int) + off = (tgt : Int)) (kk : gJ p l e R s m args below meth c Q nL E σ cells slots tgt lv rest) : gJ p l e R s m args below meth c Q nL E σ cells slots pc lv (.int x :: rest) :=
  fun H locs ls hP hS hl => lv_tableIn S.1 S.2.1 d h1 h2 ho ht (kk H locs ls hP hS hl)
end GR
end
section
section GH
variable {p : Program} {l : Launch} {e : Env} {R : Room} {s : State} {m : MethodId} {args : Array Value} {below : List Frame} {meth : Method} {c : Code} {Q : State → Prop}
variable {cc : ByteArray} {nL : Nat} {Ts : List Cond} {own : String} {E : gT} {σ : gS} {cells slots pc : Nat} {lv lv' : List (Nat × Value)} {rest : List Value}
/-- getfield of any cell of the world -/
theorem g_getc (S : CallFix p m c cc nL s args Ts own) (hC : gC E s) {C : String} {T : u_T} {N : Nat} (ci : Nat) {fs : List Value} (j : Nat) {k : Nat} (hk : k < 58) (hw : gw E σ k = .inr (ci, fs)) (hcl : vwCl[ci]? = some (C, T, N)) (hj : j < N) (hin : ∀ w ∈ u_ws C T N, w ∈ Ts) {index : Nat} (hlk : Cond.fieldLink own index (T j).1 (T j).2.1 (T j).2.2.1 ∈ Ts) {v : Value} (hv : fs[j]? = some v) (d : decode cc pc = .ok (.getfield index, 3))
    (kk : gJ p l e R s m args below meth c Q nL E σ cells slots (pc + 3) lv (v :: rest)) : gJ p l e R s m args below meth c Q nL E σ cells slots pc lv (.ref (E.2.2 k) :: rest) :=
  fun H locs ls hP hS hl => va_get (D := E.1.1) (cl := vwCl) S.1 S.2.1 S.2.2.2.2 hin S.2.2.2.1 hC.1 hP.1 k (by rw [gl_at hk, hw]) hcl j hj (S.2.2.2.2 _ hlk) (fun _ h => h) hv d (kk H locs ls hP hS hl)
/-- putfield of a number, any cell of the world -/
theorem g_putc (S : CallFix p m c cc nL s args Ts own) (hC : gC E s) {C : String} {T : u_T} {N : Nat} (ty0 : Nat → FieldType) (hty : ∀ k, k < N → parseFieldDescriptor (T k).2.2.1 = some (ty0 k)) (hnm : ∀ a, a < N → ∀ b, b < N → a ≠ b → (T a).2.1 ≠ (T b).2.1) (ci : Nat) {fs : List Value} (j : Nat) {k : Nat} {x : Int32} (hk : k < 58) (hw : gw E σ k = .inr (ci, fs)) (hw2 : gw E (gu σ k j x) k = .inr (ci, fs.set j (.int x))) (hcl : vwCl[ci]? = some (C, T, N)) (hj : j < N) (hin : ∀ w ∈ u_ws C T N, w ∈ Ts) {index : Nat} (hlk : Cond.fieldLink own index (T j).1 (T j).2.1 (T j).2.2.1 ∈ Ts) (hfin : (T j).2.2.2 = false) (hint : ty0 j = .int) (hl : j < fs.length) (d : decode cc pc = .ok (.putfield index, 3))
    (kk : gJ p l e R s m args below meth c Q nL E (gu σ k j x) cells slots (pc + 3) lv rest) : gJ p l e R s m args below meth c Q nL E σ cells slots pc lv (.int x :: .ref (E.2.2 k) :: rest) :=
  fun H locs ls hP hS hl' => va_put (D := E.1.1) (cl := vwCl) (ty := .int) (v := .int x) S.1 S.2.1 S.2.2.2.2 hin ty0 hty hnm S.2.2.2.1 hC.1 hP.1 hP.2 hS k (by rw [gl_at hk, hw]) hcl j hj (S.2.2.2.2 _ hlk) (fun _ h => h) hfin (by rw [hty j hj, hint]) rfl rfl hl d (fun H1 locs1 hP1 hD1 hS1 => by
    rw [← hw2, gl_set hk (fun q hq => gw_gu hq)] at hP1 hD1
    exact kk H1 locs1 ls ⟨hP1, hD1⟩ hS1 hl')
theorem gw_5 {k : Nat} (h : gK k = 5) : gw E σ k = .inr (5, [.ref (E.2.2 (k + 1)), .ref (E.2.2 (k + 2)), .ref (E.2.2 (k + 3)), .ref (E.2.2 (k + 4)), .ref (E.2.2 (k + 5)), .int (σ.1 k 5), .int (σ.1 k 6), .int (σ.1 k 7), .int (σ.1 k 8), .int (σ.1 k 9), .int (σ.1 k 10)]) := by unfold gw; rw [h]; try rfl
theorem gw_8 {k : Nat} (h : gK k = 8) : gw E σ k = .inl (E.2.1 0, 2, .inl (σ.1 k)) := by unfold gw; rw [h]; try rfl
theorem gu_self {σ : gS} {k j : Nat} {x : Int32} : (gu σ k j x).1 k = upd (σ.1 k) j x := by
  funext b
  simp [gu, upd]
/-- a row of numbers read -/
theorem g_iald (S : CallFix p m c cc nL s args Ts own) (hC : gC E s) {k : Nat} (hk : k < 58) (hkd : gK k = 8) (j : Nat) {i : Int32} (hi : i = nI j) (hj : j < 2) (d : decode cc pc = .ok (.iaload, 1))
    (kk : gJ p l e R s m args below meth c Q nL E σ cells slots (pc + 1) lv (.int (σ.1 k j) :: rest)) : gJ p l e R s m args below meth c Q nL E σ cells slots pc lv (.int i :: .ref (E.2.2 k) :: rest) := by
  intro H locs ls hP hS hl
  have hcl : i.toNatClampNeg = j := by rw [hi]; exact nI_clamp (by omega)
  refine va_iald (D := E.1.1) (cl := vwCl) S.1 S.2.1 hC.1 hP.1 k 0 (by rw [gl_at hk, gw_8 hkd]) rfl (by rw [hi]; exact vp_in_nI hj (by omega)) d ?_
  rw [hcl]
  exact kk H locs ls hP hS hl
/-- .. and written -/
theorem g_iast (S : CallFix p m c cc nL s args Ts own) (hC : gC E s) {k : Nat} (hk : k < 58) (hkd : gK k = 8) (j : Nat) {i x : Int32} (hi : i = nI j) (hj : j < 2) (d : decode cc pc = .ok (.iastore, 1))
    (kk : gJ p l e R s m args below meth c Q nL E (gu σ k j x) cells slots (pc + 1) lv rest) : gJ p l e R s m args below meth c Q nL E σ cells slots pc lv (.int x :: .int i :: .ref (E.2.2 k) :: rest) := by
  intro H locs ls hP hS hl
  have hcl : i.toNatClampNeg = j := by rw [hi]; exact nI_clamp (by omega)
  refine va_iast (D := E.1.1) (cl := vwCl) S.1 S.2.1 hC.1 hP.1 hP.2 hS k 0 (by rw [gl_at hk, gw_8 hkd]) rfl (by rw [hi]; exact vp_in_nI hj (by omega)) d (fun H1 locs1 hP1 hD1 hS1 => ?_)
  rw [hcl, ← gu_self, ← gw_8 hkd, gl_set hk (fun q hq => gw_gu hq)] at hP1 hD1
  exact kk H1 locs1 ls ⟨hP1, hD1⟩ hS1 hl
/-- a town's rows of objects -/
theorem g_aald (S : CallFix p m c cc nL s args Ts own) (hC : gC E s) {k : Nat} (hk : k < 58) (kd n off t0 ci : Nat) {C : String} (hw : gw E σ k = .inl (E.2.1 ci, n, .inr (.inr (.inr (.inr (fun j => some (E.2.2 (k + off + j)))))))) (ht : (gTys E)[t0]? = some (E.2.1 ci, .object C)) (hn : n ≤ 10) (j : Nat) {i : Int32} (hi : i = nI j) (hj : j < n) (q : Nat) (hq : k + off + j = q) (d : decode cc pc = .ok (.aaload, 1))
    (kk : gJ p l e R s m args below meth c Q nL E σ cells slots (pc + 1) lv (.ref (E.2.2 q) :: rest)) : gJ p l e R s m args below meth c Q nL E σ cells slots pc lv (.int i :: .ref (E.2.2 k) :: rest) := by
  intro H locs ls hP hS hl
  have hcl : i.toNatClampNeg = j := by rw [hi]; exact nI_clamp (by omega)
  refine va_aldq (D := E.1.1) (cl := vwCl) S.1 S.2.1 hC.1 hP.1 k t0 (by rw [gl_at hk, hw]) ht (by rw [hi]; exact vp_in_nI hj (by omega)) d ?_
  rw [hcl]
  show W p l e R s m args below meth c H locs cells slots Q (F0 m (pc + 1) ls (va_rf (some (E.2.2 (k + off + j))) :: rest))
  rw [hq]
  exact kk H locs ls hP hS hl
theorem g_min (S : CallFix p m c cc nL s args Ts own) {index : Nat} (h1 : Cond.methodLink own index Lib.Math.min.name ∈ Ts) (h2 : Cond.static Lib.Math.min.name ∈ Ts) (h3 : Cond.initialized "java/lang/Math" ∈ Ts) (h4 : Cond.code Lib.Math.min.name Lib.Math.min.code 2 (some .int) ∈ Ts) (hR : 1 ≤ R.frames) (hR2 : (rest.map fun v => v.category).sum + 13 ≤ R.locals) (hc : cells ≤ R.cells) (hs : slots ≤ R.slots) {x y : Int32} (d : decode cc pc = .ok (.invokestatic index, 3))
    (kk : gJ p l e R s m args below meth c Q nL E σ cells slots (pc + 3) lv (.int (if y < x then y else x) :: rest)) : gJ p l e R s m args below meth c Q nL E σ cells slots pc lv (.int y :: .int x :: rest) :=
  fun H locs ls hP hS hl => va_mmin S.1 S.2.1 (S.2.2.1.trans hl.1.symm) S.2.2.2.1 (S.2.2.2.2 _ h1) (S.2.2.2.2 _ h2) (S.2.2.2.2 _ h3) (S.2.2.2.2 _ h4) hR hR2 hc hs d (kk H locs ls hP hS hl)
end GH
section GF
variable {p : Program} {l : Launch} {e : Env} {R : Room} {s : State} {m : MethodId} {args : Array Value} {below : List Frame} {meth : Method} {c : Code} {Q : State → Prop}
variable {cc : ByteArray} {nL : Nat} {Ts : List Cond} {own : String} {E : gT} {σ : gS} {cells slots pc : Nat} {lv lv' : List (Nat × Value)} {rest : List Value}
theorem gg0 (S : CallFix p m c cc nL s args Ts own) (hC : gC E s) (hin : ∀ w ∈ wsX00, w ∈ Ts) {k : Nat} (hk : k < 58) (hkd : gK k = 0) (j : Nat) (hj : j < 3) {index : Nat} (hlk : Cond.fieldLink own index (TX0 j).1 (TX0 j).2.1 (TX0 j).2.2.1 ∈ Ts)  (d : decode cc pc = .ok (.getfield index, 3)) (kk : gJ p l e R s m args below meth c Q nL E σ cells slots (pc + 3) lv (.int (σ.1 k j) :: rest)) : gJ p l e R s m args below meth c Q nL E σ cells slots pc lv (.ref (E.2.2 k) :: rest) :=
  g_getc S hC (C := RX0) (T := TX0) (N := 3) 0 j hk (gK_o hkd (by decide)) rfl (by omega) hin hlk (gO_get hj) d kk
theorem gp0 (S : CallFix p m c cc nL s args Ts own) (hC : gC E s) (hin : ∀ w ∈ wsX00, w ∈ Ts) {k : Nat} (hk : k < 58) (hkd : gK k = 0) (j : Nat) (hj : j < 3) {index : Nat} (hlk : Cond.fieldLink own index (TX0 j).1 (TX0 j).2.1 (TX0 j).2.2.1 ∈ Ts) {x : Int32} (d : decode cc pc = .ok (.putfield index, 3)) (kk : gJ p l e R s m args below meth c Q nL E (gu σ k j x) cells slots (pc + 3) lv rest) : gJ p l e R s m args below meth c Q nL E σ cells slots pc lv (.int x :: .ref (E.2.2 k) :: rest) :=
  g_putc S hC (C := RX0) (T := TX0) (N := 3) tyX0 tyX0_ok nmX0 0 j hk (gK_o hkd (by decide)) (by rw [gO_set]; exact gK_o hkd (by decide)) rfl hj hin hlk (by rcases (show j = 0 ∨ j = 1 ∨ j = 2 by omega) with rfl | rfl | rfl <;> rfl) (by rcases (show j = 0 ∨ j = 1 ∨ j = 2 by omega) with rfl | rfl | rfl <;> rfl) (by rw [List.length_map, List.length_range]; exact hj) d kk
theorem gg1 (S : CallFix p m c cc nL s args Ts own) (hC : gC E s) (hin : ∀ w ∈ wsX10, w ∈ Ts) {k : Nat} (hk : k < 58) (hkd : gK k = 1) (j : Nat) (hj : j < 5) {index : Nat} (hlk : Cond.fieldLink own index (TX1 j).1 (TX1 j).2.1 (TX1 j).2.2.1 ∈ Ts)  (d : decode cc pc = .ok (.getfield index, 3)) (kk : gJ p l e R s m args below meth c Q nL E σ cells slots (pc + 3) lv (.int (σ.1 k j) :: rest)) : gJ p l e R s m args below meth c Q nL E σ cells slots pc lv (.ref (E.2.2 k) :: rest) :=
  g_getc S hC (C := RX1) (T := TX1) (N := 5) 1 j hk (gK_o hkd (by decide)) rfl (by omega) hin hlk (gO_get hj) d kk
theorem gp1 (S : CallFix p m c cc nL s args Ts own) (hC : gC E s) (hin : ∀ w ∈ wsX10, w ∈ Ts) {k : Nat} (hk : k < 58) (hkd : gK k = 1) (j : Nat) (hj : j < 5) {index : Nat} (hlk : Cond.fieldLink own index (TX1 j).1 (TX1 j).2.1 (TX1 j).2.2.1 ∈ Ts) {x : Int32} (d : decode cc pc = .ok (.putfield index, 3)) (kk : gJ p l e R s m args below meth c Q nL E (gu σ k j x) cells slots (pc + 3) lv rest) : gJ p l e R s m args below meth c Q nL E σ cells slots pc lv (.int x :: .ref (E.2.2 k) :: rest) :=
  g_putc S hC (C := RX1) (T := TX1) (N := 5) tyX1 tyX1_ok nmX1 1 j hk (gK_o hkd (by decide)) (by rw [gO_set]; exact gK_o hkd (by decide)) rfl hj hin hlk (by rcases (show j = 0 ∨ j = 1 ∨ j = 2 ∨ j = 3 ∨ j = 4 by omega) with rfl | rfl | rfl | rfl | rfl <;> rfl) (by rcases (show j = 0 ∨ j = 1 ∨ j = 2 ∨ j = 3 ∨ j = 4 by omega) with rfl | rfl | rfl | rfl | rfl <;> rfl) (by rw [List.length_map, List.length_range]; exact hj) d kk
theorem gg2 (S : CallFix p m c cc nL s args Ts own) (hC : gC E s) (hin : ∀ w ∈ wsX20, w ∈ Ts) {k : Nat} (hk : k < 58) (hkd : gK k = 2) (j : Nat) (hj : j < 5) {index : Nat} (hlk : Cond.fieldLink own index (TX2 j).1 (TX2 j).2.1 (TX2 j).2.2.1 ∈ Ts)  (d : decode cc pc = .ok (.getfield index, 3)) (kk : gJ p l e R s m args below meth c Q nL E σ cells slots (pc + 3) lv (.int (σ.1 k j) :: rest)) : gJ p l e R s m args below meth c Q nL E σ cells slots pc lv (.ref (E.2.2 k) :: rest) :=
  g_getc S hC (C := RX2) (T := TX2) (N := 5) 2 j hk (gK_o hkd (by decide)) rfl (by omega) hin hlk (gO_get hj) d kk
theorem gp2 (S : CallFix p m c cc nL s args Ts own) (hC : gC E s) (hin : ∀ w ∈ wsX20, w ∈ Ts) {k : Nat} (hk : k < 58) (hkd : gK k = 2) (j : Nat) (hj : j < 5) {index : Nat} (hlk : Cond.fieldLink own index (TX2 j).1 (TX2 j).2.1 (TX2 j).2.2.1 ∈ Ts) {x : Int32} (d : decode cc pc = .ok (.putfield index, 3)) (kk : gJ p l e R s m args below meth c Q nL E (gu σ k j x) cells slots (pc + 3) lv rest) : gJ p l e R s m args below meth c Q nL E σ cells slots pc lv (.int x :: .ref (E.2.2 k) :: rest) :=
  g_putc S hC (C := RX2) (T := TX2) (N := 5) tyX2 tyX2_ok nmX2 2 j hk (gK_o hkd (by decide)) (by rw [gO_set]; exact gK_o hkd (by decide)) rfl hj hin hlk (by rcases (show j = 0 ∨ j = 1 ∨ j = 2 ∨ j = 3 ∨ j = 4 by omega) with rfl | rfl | rfl | rfl | rfl <;> rfl) (by rcases (show j = 0 ∨ j = 1 ∨ j = 2 ∨ j = 3 ∨ j = 4 by omega) with rfl | rfl | rfl | rfl | rfl <;> rfl) (by rw [List.length_map, List.length_range]; exact hj) d kk
theorem gg3 (S : CallFix p m c cc nL s args Ts own) (hC : gC E s) (hin : ∀ w ∈ wsX30, w ∈ Ts) {k : Nat} (hk : k < 58) (hkd : gK k = 3) (j : Nat) (hj : j < 5) {index : Nat} (hlk : Cond.fieldLink own index (TX3 j).1 (TX3 j).2.1 (TX3 j).2.2.1 ∈ Ts)  (d : decode cc pc = .ok (.getfield index, 3)) (kk : gJ p l e R s m args below meth c Q nL E σ cells slots (pc + 3) lv (.int (σ.1 k j) :: rest)) : gJ p l e R s m args below meth c Q nL E σ cells slots pc lv (.ref (E.2.2 k) :: rest) :=
  g_getc S hC (C := RX3) (T := TX3) (N := 5) 3 j hk (gK_o hkd (by decide)) rfl (by omega) hin hlk (gO_get hj) d kk
theorem gp3 (S : CallFix p m c cc nL s args Ts own) (hC : gC E s) (hin : ∀ w ∈ wsX30, w ∈ Ts) {k : Nat} (hk : k < 58) (hkd : gK k = 3) (j : Nat) (hj : j < 5) {index : Nat} (hlk : Cond.fieldLink own index (TX3 j).1 (TX3 j).2.1 (TX3 j).2.2.1 ∈ Ts) {x : Int32} (d : decode cc pc = .ok (.putfield index, 3)) (kk : gJ p l e R s m args below meth c Q nL E (gu σ k j x) cells slots (pc + 3) lv rest) : gJ p l e R s m args below meth c Q nL E σ cells slots pc lv (.int x :: .ref (E.2.2 k) :: rest) :=
  g_putc S hC (C := RX3) (T := TX3) (N := 5) tyX3 tyX3_ok nmX3 3 j hk (gK_o hkd (by decide)) (by rw [gO_set]; exact gK_o hkd (by decide)) rfl hj hin hlk (by rcases (show j = 0 ∨ j = 1 ∨ j = 2 ∨ j = 3 ∨ j = 4 by omega) with rfl | rfl | rfl | rfl | rfl <;> rfl) (by rcases (show j = 0 ∨ j = 1 ∨ j = 2 ∨ j = 3 ∨ j = 4 by omega) with rfl | rfl | rfl | rfl | rfl <;> rfl) (by rw [List.length_map, List.length_range]; exact hj) d kk
theorem gg4 (S : CallFix p m c cc nL s args Ts own) (hC : gC E s) (hin : ∀ w ∈ wsX40, w ∈ Ts) {k : Nat} (hk : k < 58) (hkd : gK k = 4) (j : Nat) (hj : j < 7) {index : Nat} (hlk : Cond.fieldLink own index (TX4 j).1 (TX4 j).2.1 (TX4 j).2.2.1 ∈ Ts)  (d : decode cc pc = .ok (.getfield index, 3)) (kk : gJ p l e R s m args below meth c Q nL E σ cells slots (pc + 3) lv (.int (σ.1 k j) :: rest)) : gJ p l e R s m args below meth c Q nL E σ cells slots pc lv (.ref (E.2.2 k) :: rest) :=
  g_getc S hC (C := RX4) (T := TX4) (N := 7) 4 j hk (gK_o hkd (by decide)) rfl (by omega) hin hlk (gO_get hj) d kk
theorem gp4 (S : CallFix p m c cc nL s args Ts own) (hC : gC E s) (hin : ∀ w ∈ wsX40, w ∈ Ts) {k : Nat} (hk : k < 58) (hkd : gK k = 4) (j : Nat) (hj : j < 7) {index : Nat} (hlk : Cond.fieldLink own index (TX4 j).1 (TX4 j).2.1 (TX4 j).2.2.1 ∈ Ts) {x : Int32} (d : decode cc pc = .ok (.putfield index, 3)) (kk : gJ p l e R s m args below meth c Q nL E (gu σ k j x) cells slots (pc + 3) lv rest) : gJ p l e R s m args below meth c Q nL E σ cells slots pc lv (.int x :: .ref (E.2.2 k) :: rest) :=
  g_putc S hC (C := RX4) (T := TX4) (N := 7) tyX4 tyX4_ok nmX4 4 j hk (gK_o hkd (by decide)) (by rw [gO_set]; exact gK_o hkd (by decide)) rfl hj hin hlk (by rcases (show j = 0 ∨ j = 1 ∨ j = 2 ∨ j = 3 ∨ j = 4 ∨ j = 5 ∨ j = 6 by omega) with rfl | rfl | rfl | rfl | rfl | rfl | rfl <;> rfl) (by rcases (show j = 0 ∨ j = 1 ∨ j = 2 ∨ j = 3 ∨ j = 4 ∨ j = 5 ∨ j = 6 by omega) with rfl | rfl | rfl | rfl | rfl | rfl | rfl <;> rfl) (by rw [List.length_map, List.length_range]; exact hj) d kk
theorem gg5r (S : CallFix p m c cc nL s args Ts own) (hC : gC E s) (hin : ∀ w ∈ wsX60, w ∈ Ts) {k : Nat} (hk : k < 58) (hkd : gK k = 5) (j : Nat) (hj : j < 5) {index : Nat} (hlk : Cond.fieldLink own index (TX6 j).1 (TX6 j).2.1 (TX6 j).2.2.1 ∈ Ts)  (d : decode cc pc = .ok (.getfield index, 3)) (kk : gJ p l e R s m args below meth c Q nL E σ cells slots (pc + 3) lv (.ref (E.2.2 (k + 1 + j)) :: rest)) : gJ p l e R s m args below meth c Q nL E σ cells slots pc lv (.ref (E.2.2 k) :: rest) :=
  g_getc S hC (C := RX6) (T := TX6) (N := 11) 5 j hk (gw_5 hkd) rfl (by omega) hin hlk (by rcases (show j = 0 ∨ j = 1 ∨ j = 2 ∨ j = 3 ∨ j = 4 by omega) with rfl | rfl | rfl | rfl | rfl <;> rfl) d kk
theorem gg5 (S : CallFix p m c cc nL s args Ts own) (hC : gC E s) (hin : ∀ w ∈ wsX60, w ∈ Ts) {k : Nat} (hk : k < 58) (hkd : gK k = 5) (j : Nat) (hj : 5 ≤ j ∧ j < 11) {index : Nat} (hlk : Cond.fieldLink own index (TX6 j).1 (TX6 j).2.1 (TX6 j).2.2.1 ∈ Ts)  (d : decode cc pc = .ok (.getfield index, 3)) (kk : gJ p l e R s m args below meth c Q nL E σ cells slots (pc + 3) lv (.int (σ.1 k j) :: rest)) : gJ p l e R s m args below meth c Q nL E σ cells slots pc lv (.ref (E.2.2 k) :: rest) :=
  g_getc S hC (C := RX6) (T := TX6) (N := 11) 5 j hk (gw_5 hkd) rfl (by omega) hin hlk (by rcases (show j = 5 ∨ j = 6 ∨ j = 7 ∨ j = 8 ∨ j = 9 ∨ j = 10 by omega) with rfl | rfl | rfl | rfl | rfl | rfl <;> rfl) d kk
theorem gp5 (S : CallFix p m c cc nL s args Ts own) (hC : gC E s) (hin : ∀ w ∈ wsX60, w ∈ Ts) {k : Nat} (hk : k < 58) (hkd : gK k = 5) (j : Nat) (hj : 5 ≤ j ∧ j < 11) {index : Nat} (hlk : Cond.fieldLink own index (TX6 j).1 (TX6 j).2.1 (TX6 j).2.2.1 ∈ Ts) {x : Int32} (d : decode cc pc = .ok (.putfield index, 3)) (kk : gJ p l e R s m args below meth c Q nL E (gu σ k j x) cells slots (pc + 3) lv rest) : gJ p l e R s m args below meth c Q nL E σ cells slots pc lv (.int x :: .ref (E.2.2 k) :: rest) :=
  g_putc S hC (C := RX6) (T := TX6) (N := 11) tyX6 tyX6_ok nmX6 5 j hk (gw_5 hkd) (by rw [gw_5 hkd]; simp only [gu_self]; rcases (show j = 5 ∨ j = 6 ∨ j = 7 ∨ j = 8 ∨ j = 9 ∨ j = 10 by omega) with rfl | rfl | rfl | rfl | rfl | rfl <;> simp [upd]) rfl (by omega) hin hlk (by rcases (show j = 5 ∨ j = 6 ∨ j = 7 ∨ j = 8 ∨ j = 9 ∨ j = 10 by omega) with rfl | rfl | rfl | rfl | rfl | rfl <;> rfl) (by rcases (show j = 5 ∨ j = 6 ∨ j = 7 ∨ j = 8 ∨ j = 9 ∨ j = 10 by omega) with rfl | rfl | rfl | rfl | rfl | rfl <;> rfl) (by show j < 11; omega) d kk
theorem gg6 (S : CallFix p m c cc nL s args Ts own) (hC : gC E s) (hin : ∀ w ∈ wsX70, w ∈ Ts) {index : Nat} (hlk : Cond.fieldLink own index (TX7 0).1 (TX7 0).2.1 (TX7 0).2.2.1 ∈ Ts) (d : decode cc pc = .ok (.getfield index, 3)) (kk : gJ p l e R s m args below meth c Q nL E σ cells slots (pc + 3) lv (.ref (E.2.2 1) :: rest)) : gJ p l e R s m args below meth c Q nL E σ cells slots pc lv (.ref (E.2.2 0) :: rest) :=
  g_getc S hC (C := RX7) (T := TX7) (N := 2) (fs := [.ref (E.2.2 1), .ref (gTr E)]) 6 0 (by omega) rfl rfl (by omega) hin hlk rfl d kk
theorem gw_7 : gw E σ 29 = .inr (7, [.int (σ.1 29 0), .ref (E.2.2 30), .ref (E.2.2 31), .int (σ.1 29 3), .int (σ.1 29 4), .int (σ.1 29 5), .int (σ.1 29 6), .ref (E.2.2 32), .ref (E.2.2 33), .ref (E.2.2 34), .ref (E.2.2 35)]) := rfl
/-- Sim's numbers: its fields 0, 3, 4, 5, 6 -/
theorem gg7 (S : CallFix p m c cc nL s args Ts own) (hC : gC E s) (hin : ∀ w ∈ wsX80, w ∈ Ts) (j : Nat) (hj : j = 0 ∨ j = 3 ∨ j = 4 ∨ j = 5 ∨ j = 6) {index : Nat} (hlk : Cond.fieldLink own index (TX8 j).1 (TX8 j).2.1 (TX8 j).2.2.1 ∈ Ts)  (d : decode cc pc = .ok (.getfield index, 3)) (kk : gJ p l e R s m args below meth c Q nL E σ cells slots (pc + 3) lv (.int (σ.1 29 j) :: rest)) : gJ p l e R s m args below meth c Q nL E σ cells slots pc lv (.ref (E.2.2 29) :: rest) :=
  g_getc S hC (C := RX8) (T := TX8) (N := 11) 7 j (by omega) gw_7 rfl (by omega) hin hlk (by rcases hj with rfl | rfl | rfl | rfl | rfl <;> rfl) d kk
/-- .. its rows: fields 1, 2 (store, parts), 7..10 (rows of rows) -/
theorem gg7r (S : CallFix p m c cc nL s args Ts own) (hC : gC E s) (hin : ∀ w ∈ wsX80, w ∈ Ts) (j q : Nat) (hj : (j = 1 ∧ q = 30) ∨ (j = 2 ∧ q = 31) ∨ (j = 7 ∧ q = 32) ∨ (j = 8 ∧ q = 33) ∨ (j = 9 ∧ q = 34) ∨ (j = 10 ∧ q = 35)) {index : Nat} (hlk : Cond.fieldLink own index (TX8 j).1 (TX8 j).2.1 (TX8 j).2.2.1 ∈ Ts)  (d : decode cc pc = .ok (.getfield index, 3)) (kk : gJ p l e R s m args below meth c Q nL E σ cells slots (pc + 3) lv (.ref (E.2.2 q) :: rest)) : gJ p l e R s m args below meth c Q nL E σ cells slots pc lv (.ref (E.2.2 29) :: rest) :=
  g_getc S hC (C := RX8) (T := TX8) (N := 11) 7 j (by omega) gw_7 rfl (by omega) hin hlk (by rcases hj with ⟨rfl, rfl⟩ | ⟨rfl, rfl⟩ | ⟨rfl, rfl⟩ | ⟨rfl, rfl⟩ | ⟨rfl, rfl⟩ | ⟨rfl, rfl⟩ <;> rfl) d kk
theorem gp7 (S : CallFix p m c cc nL s args Ts own) (hC : gC E s) (hin : ∀ w ∈ wsX80, w ∈ Ts) (j : Nat) (hj : j = 0 ∨ j = 3 ∨ j = 4 ∨ j = 5 ∨ j = 6) {index : Nat} (hlk : Cond.fieldLink own index (TX8 j).1 (TX8 j).2.1 (TX8 j).2.2.1 ∈ Ts) {x : Int32} (d : decode cc pc = .ok (.putfield index, 3)) (kk : gJ p l e R s m args below meth c Q nL E (gu σ 29 j x) cells slots (pc + 3) lv rest) : gJ p l e R s m args below meth c Q nL E σ cells slots pc lv (.int x :: .ref (E.2.2 29) :: rest) :=
  g_putc S hC (C := RX8) (T := TX8) (N := 11) tyX8 tyX8_ok nmX8 7 j (by omega) gw_7 (by rw [gw_7]; simp only [gu_self]; rcases hj with rfl | rfl | rfl | rfl | rfl <;> simp [upd]) rfl (by omega) hin hlk (by rcases hj with rfl | rfl | rfl | rfl | rfl <;> rfl) (by rcases hj with rfl | rfl | rfl | rfl | rfl <;> rfl) (by show j < 11; omega) d kk
/-- Sim's rows: how many -/
theorem gw_14 {k : Nat} (h : gK k = 14) : gw E σ k = .inl (E.2.1 1, gNo E (k - 32), .inr (.inr (.inr (.inr (fun j => some (E.2.2 (36 + 4 * (k - 32) + j))))))) := by unfold gw; rw [h]; try rfl
theorem gw_15 {k : Nat} (h : gK k = 15) (hL : gqI k < gNo E (gqS k)) : gw E σ k = .inl (E.2.1 0, gqL k, .inl (σ.1 k)) := by unfold gw; rw [h]; exact if_pos hL
theorem gk14 {o : Nat} (ho : o < 4) : gK (32 + o) = 14 := by
  rcases (show o = 0 ∨ o = 1 ∨ o = 2 ∨ o = 3 by omega) with rfl | rfl | rfl | rfl <;> rfl
/-- a row's place: sort o, number i -/
def gqR (o i : Nat) : Prop := (o = 0 ∧ i < 4) ∨ (o = 1 ∧ i < 4) ∨ (o = 2 ∧ i < 4) ∨ (o = 3 ∧ i < 10)
theorem gqR.lt {o i : Nat} (h : gqR o i) : 36 + 4 * o + i < 58 := by
  rcases h with ⟨rfl, h⟩ | ⟨rfl, h⟩ | ⟨rfl, h⟩ | ⟨rfl, h⟩ <;> omega
theorem gqR.K {o i : Nat} (h : gqR o i) : gK (36 + 4 * o + i) = 15 := by
  have key : ∀ k, k < 58 → 36 ≤ k → gK k = 15 := by decide
  exact key _ h.lt (by omega)
theorem gqR.srt {o i : Nat} (h : gqR o i) : gqS (36 + 4 * o + i) = o := by
  rcases h with ⟨rfl, h⟩ | ⟨rfl, h⟩ | ⟨rfl, h⟩ | ⟨rfl, h⟩ <;> unfold gqS
  · rw [if_pos (by omega)]
  · rw [if_neg (by omega), if_pos (by omega)]
  · rw [if_neg (by omega), if_neg (by omega), if_pos (by omega)]
  · rw [if_neg (by omega), if_neg (by omega), if_neg (by omega)]
theorem gqR.ix {o i : Nat} (h : gqR o i) : gqI (36 + 4 * o + i) = i := by
  unfold gqI
  rw [h.srt]
  omega
theorem gqR.len {o i : Nat} (h : gqR o i) : gqL (36 + 4 * o + i) = if o = 0 then 3 else 5 := by
  rcases h with ⟨rfl, h⟩ | ⟨rfl, h⟩ | ⟨rfl, h⟩ | ⟨rfl, h⟩ <;> unfold gqL
  · rw [if_pos (by omega), if_pos rfl]
  · rw [if_neg (by omega), if_neg (by omega)]
  · rw [if_neg (by omega), if_neg (by omega)]
  · rw [if_neg (by omega), if_neg (by omega)]
theorem gqR.of {s : State} {o i : Nat} (hC : gC E s) (ho : o < 4) (hi : i < gNo E o) : gqR o i := by
  have h := hC.2.1
  unfold gqR
  rcases (show o = 0 ∨ o = 1 ∨ o = 2 ∨ o = 3 by omega) with rfl | rfl | rfl | rfl <;> omega
theorem gqR.w {o i : Nat} (h : gqR o i) (hi : i < gNo E o) : gw E σ (36 + 4 * o + i) = .inl (E.2.1 0, if o = 0 then 3 else 5, .inl (σ.1 (36 + 4 * o + i))) := by
  rw [gw_15 h.K (by rw [h.ix, h.srt]; exact hi), h.len]
theorem gNo_le {s : State} {o : Nat} (hC : gC E s) (ho : o < 4) : gNo E o ≤ 10 := by
  have h2 := hC.2.1
  rcases (show o = 0 ∨ o = 1 ∨ o = 2 ∨ o = 3 by omega) with rfl | rfl | rfl | rfl <;> omega
theorem g_alenR (S : CallFix p m c cc nL s args Ts own) (hC : gC E s) (o : Nat) {k : Nat} (hk : k = 32 + o) (ho : o < 4) (d : decode cc pc = .ok (.arraylength, 1))
    (kk : gJ p l e R s m args below meth c Q nL E σ cells slots (pc + 1) lv (.int (nI (gNo E o)) :: rest)) : gJ p l e R s m args below meth c Q nL E σ cells slots pc lv (.ref (E.2.2 k) :: rest) := by
  subst hk
  intro H locs ls hP hS hl
  refine va_alen (D := E.1.1) (cl := vwCl) (tys := gTys E) (ty := .array .int) (v := nI (gNo E o)) S.1 S.2.1 hC.1 hP.1 (32 + o) 1 (by rw [gl_at (by omega), gw_14 (gk14 ho)]) rfl ?_ d (kk H locs ls hP hS hl)
  show Int32.ofNat (gNo E (32 + o - 32)) = _
  rw [show 32 + o - 32 = o by omega]
  rfl
/-- Sim's store and parts: how long -/
theorem g_alenI (S : CallFix p m c cc nL s args Ts own) (hC : gC E s) {k : Nat} (hk : k < 58) (hkd : gK k = 8) (d : decode cc pc = .ok (.arraylength, 1))
    (kk : gJ p l e R s m args below meth c Q nL E σ cells slots (pc + 1) lv (.int 2 :: rest)) : gJ p l e R s m args below meth c Q nL E σ cells slots pc lv (.ref (E.2.2 k) :: rest) := by
  intro H locs ls hP hS hl
  exact va_alen (D := E.1.1) (cl := vwCl) (tys := gTys E) (ty := .int) (v := 2) S.1 S.2.1 hC.1 hP.1 k 0 (by rw [gl_at hk, gw_8 hkd]) rfl rfl d (kk H locs ls hP hS hl)
/-- a row out of Sim's rows -/
theorem g_aaldR (S : CallFix p m c cc nL s args Ts own) (hC : gC E s) (o : Nat) {k : Nat} (hk : k = 32 + o) (ho : o < 4) (j : Nat) {i : Int32} (hi : i = nI j) (hj : j < gNo E o) (q : Nat) (hq : 36 + 4 * o + j = q) (d : decode cc pc = .ok (.aaload, 1))
    (kk : gJ p l e R s m args below meth c Q nL E σ cells slots (pc + 1) lv (.ref (E.2.2 q) :: rest)) : gJ p l e R s m args below meth c Q nL E σ cells slots pc lv (.int i :: .ref (E.2.2 k) :: rest) := by
  subst hk
  have hR := gqR.of (i := j) hC ho hj
  have hjb : j < 10 := by rcases hR with h | h | h | h <;> omega
  intro H locs ls hP hS hl
  have hcl : i.toNatClampNeg = j := by rw [hi]; exact nI_clamp (by omega)
  have hat : va_at E.1.1 vwCl (E.2.2 (32 + o), gw E σ (32 + o)) H := hP.1 (32 + o) _ (gl_at (by omega))
  rw [gw_14 (gk14 ho), show 32 + o - 32 = o by omega] at hat
  refine W.aald (v := .ref (E.2.2 q)) (ty := .array .int) S.1 S.2.1 hat ((hC.1.2 1 _ rfl).1 _ _) rfl (fun q => by cases q) ?_ ?_ rfl rfl d (kk H locs ls hP hS hl)
  · show ¬ (i < 0 ∨ (arrV _ _ _).slots.size ≤ _)
    rw [arrV_size, hi]
    exact vp_in_nI (n := j) (N := gNo E o) hj (Nat.lt_of_le_of_lt (gNo_le hC ho) (by decide))
  · show (arrV _ _ _).slots[_]? = _
    rw [hcl, arrV_read _ _ hj]
    show some (va_rf (some (E.2.2 (36 + 4 * o + j)))) = _
    rw [hq]
    rfl
/-- a number of a row -/
theorem g_ialdR (S : CallFix p m c cc nL s args Ts own) (hC : gC E s) (o a : Nat) {k : Nat} (hk : k = 36 + 4 * o + a) (ho : o < 4) (ha : a < gNo E o) (j : Nat) {i : Int32} (hi : i = nI j) (hj : j < if o = 0 then 3 else 5) (d : decode cc pc = .ok (.iaload, 1))
    (kk : gJ p l e R s m args below meth c Q nL E σ cells slots (pc + 1) lv (.int (σ.1 k j) :: rest)) : gJ p l e R s m args below meth c Q nL E σ cells slots pc lv (.int i :: .ref (E.2.2 k) :: rest) := by
  subst hk
  have hR := gqR.of (i := a) hC ho ha
  intro H locs ls hP hS hl
  have hj5 : j < 5 := by split at hj <;> omega
  have hcl : i.toNatClampNeg = j := by rw [hi]; exact nI_clamp (by omega)
  refine va_iald (D := E.1.1) (cl := vwCl) (tys := gTys E) S.1 S.2.1 hC.1 hP.1 (36 + 4 * o + a) 0 (by rw [gl_at hR.lt, hR.w ha]) rfl (by rw [hi]; exact vp_in_nI hj (by split <;> omega)) d ?_
  rw [hcl]
  exact kk H locs ls hP hS hl
/-- .. and put -/
theorem g_iastR (S : CallFix p m c cc nL s args Ts own) (hC : gC E s) (o a : Nat) {k : Nat} (hk : k = 36 + 4 * o + a) (ho : o < 4) (ha : a < gNo E o) (j : Nat) {i x : Int32} (hi : i = nI j) (hj : j < if o = 0 then 3 else 5) (d : decode cc pc = .ok (.iastore, 1))
    (kk : gJ p l e R s m args below meth c Q nL E (gu σ k j x) cells slots (pc + 1) lv rest) : gJ p l e R s m args below meth c Q nL E σ cells slots pc lv (.int x :: .int i :: .ref (E.2.2 k) :: rest) := by
  subst hk
  have hR := gqR.of (i := a) hC ho ha
  intro H locs ls hP hS hl
  have hj5 : j < 5 := by split at hj <;> omega
  have hcl : i.toNatClampNeg = j := by rw [hi]; exact nI_clamp (by omega)
  refine va_iast (D := E.1.1) (cl := vwCl) (tys := gTys E) S.1 S.2.1 hC.1 hP.1 hP.2 hS (36 + 4 * o + a) 0 (by rw [gl_at hR.lt, hR.w ha]) rfl (by rw [hi]; exact vp_in_nI hj (by split <;> omega)) d (fun H1 locs1 hP1 hD1 hS1 => ?_)
  rw [hcl, ← gu_self, ← hR.w (σ := gu σ (36 + 4 * o + a) j x) ha, gl_set hR.lt (fun q hq => gw_gu hq)] at hP1 hD1
  exact kk H1 locs1 ls ⟨hP1, hD1⟩ hS1 hl
end GF
end
section
section GM
variable {p : Program} {l : Launch} {e : Env} {R : Room} {s : State} {m : MethodId} {args : Array Value} {below : List Frame} {meth : Method} {c : Code} {Q : State → Prop}
variable {cc : ByteArray} {nL : Nat} {Ts : List Cond} {own : String} {E : gT} {σ σ' : gS} {cells slots pc : Nat} {lv lv' : List (Nat × Value)} {rest st0 : List Value}
/-- a method's entry -/
def gB (E : gT) (σ : gS) (sz : Nat) (U : State) : Prop := U.heap.size = sz ∧ gC E U ∧ gP E σ U.heap
abbrev gPre (E : gT) (σ : gS) (sz : Nat) (av : List Value) : Array Value → State → Prop := va_Pc av (gB E σ sz)
abbrev gBt (E : gT) (σ : gS) (t : State) : Prop := gP E σ t.heap
abbrev gRi (E : gT) (σ : gS) (r : Int32) (sz : Nat) : Array Value → State → Outcome → State → Prop := va_Qi (fun (r' : Int32) (_ : Unit) => r' = r) (fun _ => gBt E σ) (gA E sz)
abbrev gRl (E : gT) (σ : gS) (r : Int64) (sz : Nat) : Array Value → State → Outcome → State → Prop := va_Ql (fun (r' : Int64) (_ : Unit) => r' = r) (fun _ => gBt E σ) (gA E sz)
abbrev gRv (E : gT) (σ : gS) (sz : Nat) : Array Value → State → Outcome → State → Prop := va_Qv (fun (_ : Unit) => True) (fun _ => gBt E σ) (gA E sz)
/-- contracts: what comes in, the answer, the numbers behind it; room for mc cells of ms slots -/
def gMi (l : Launch) (y : MethodName) (ws : List Cond) (rm : Room) (mc ms : Nat) (E : gT) (σ : gS) (av : List Value) (r : Int32) (σ' : gS) : Prop := ∀ sz, Met l y ws rm (gPre E σ sz av) (gRi E σ' r sz) mc ms (gA E sz)
def gMl (l : Launch) (y : MethodName) (ws : List Cond) (rm : Room) (mc ms : Nat) (E : gT) (σ : gS) (av : List Value) (r : Int64) (σ' : gS) : Prop := ∀ sz, Met l y ws rm (gPre E σ sz av) (gRl E σ' r sz) mc ms (gA E sz)
def gMv (l : Launch) (y : MethodName) (ws : List Cond) (rm : Room) (mc ms : Nat) (E : gT) (σ : gS) (av : List Value) (σ' : gS) : Prop := ∀ sz, Met l y ws rm (gPre E σ sz av) (gRv E σ' sz) mc ms (gA E sz)
theorem gPre_blind {E : gT} {σ : gS} {sz : Nat} {av : List Value} : FrameBlind (gPre E σ sz av) := fun _ _ _ _ h => ⟨h.1, h.2.1, h.2.2.1.same rfl rfl, h.2.2.2⟩
/-- from a method's entry: the head of any body -/
theorem g_ent {k : List Value → Prop} {ls : Array Slot} {av : List Value} {nL : Nat} {lv : List (Nat × Value)} (hlv : lv_args 0 av = lv) (hsz : (lg_sl av).length ≤ nL) (K : gJ p l e R s m av.toArray below meth c Q nL E σ 0 0 0 lv []) (hP : gP E σ s.heap) : W p l e R s m av.toArray below meth c s.heap [] 0 0 Q (entryFrame m av.toArray nL) := by
  rw [lg_entry_eq]
  exact K s.heap [] _ hP va_S.rf (by rw [← hlv]; exact lv_entry av hsz)
theorem g_met {y : MethodName} {ws ws' : List Cond} {rm : Room} {mc ms : Nat} {av : List Value} {ret : Option FieldType} {Qc : Nat → Array Value → State → Outcome → State → Prop} (hy : plainName y.cls = true) (hw : ws = Cond.code y cc nL ret :: ws') (hlv : lv_args 0 av = lv) (hsz : (lg_sl av).length ≤ nL)
    (body : ∀ (p : Program) (e : Env) (s : State) (m : MethodId) (below : List Frame) (meth : Method) (c : Code), CallFix p m c cc nL s av.toArray ws y.cls → meth.sig.returnType = ret → meth.locks = false → gC E s →
      gJ p l e rm s m av.toArray below meth c (MQ below (Qc s.heap.size) av.toArray s mc ms (gA E s.heap.size)) nL E σ 0 0 0 lv []) : ∀ sz, Met l y ws rm (gPre E σ sz av) (Qc sz) mc ms (gA E sz) := by
  intro sz
  refine Met.ofW (cc := cc) (maxL := nL) (ret := ret) hy hw ?_
  intro p e s m args below meth c s₁ B hml hv
  obtain ⟨rfl, rfl, hC, hP⟩ := hv
  exact g_ent (k := fun _ => True) (ls := #[]) hlv hsz (body p e s m below meth c ⟨B.exec, B.bytes, hml, findClass_of_methodNamed B.named, atoms_spec (ws := ws) B.pre⟩ B.returns B.notSynchronized hC) hP
/-- ends -/
theorem g_iret (S : CallFix p m c cc nL s args Ts own) (hr : meth.sig.returnType = some .int) (hlocks : meth.locks = false) {r r' : Int32} {mc ms : Nat} (d : decode cc pc = .ok (.ireturn, 1)) (h1 : r = r') (h2 : σ = σ') (h3 : cells ≤ mc) (h4 : slots ≤ ms) :
    gJ p l e R s m args below meth c (MQ below (gRi E σ' r' s.heap.size) args s mc ms (gA E s.heap.size)) nL E σ cells slots pc lv [.int r] := by
  subst h1; subst h2
  exact fun H locs ls hP hS hl => W.widen h3 h4 (W.iret S.1 S.2.1 hr (fun t ht _ => ⟨⟨r, (), rfl, rfl, by show gP _ _ t.heap; rw [ht]; exact hP⟩, hS.F ht⟩) hS.2.2 d)
theorem g_zret (S : CallFix p m c cc nL s args Ts own) (hr : meth.sig.returnType = some .boolean) (hlocks : meth.locks = false) {r r' : Int32} {mc ms : Nat} (d : decode cc pc = .ok (.ireturn, 1)) (h0 : narrow .boolean (.int r) = .int r) (h1 : r = r') (h2 : σ = σ') (h3 : cells ≤ mc) (h4 : slots ≤ ms) :
    gJ p l e R s m args below meth c (MQ below (gRi E σ' r' s.heap.size) args s mc ms (gA E s.heap.size)) nL E σ cells slots pc lv [.int r] := by
  subst h1; subst h2
  exact fun H locs ls hP hS hl => W.widen h3 h4 (W.zret S.1 S.2.1 hr h0 (fun t ht _ => ⟨⟨r, (), rfl, rfl, by show gP _ _ t.heap; rw [ht]; exact hP⟩, hS.F ht⟩) hS.2.2 d)
theorem g_lret (S : CallFix p m c cc nL s args Ts own) (hr : meth.sig.returnType = some .long) (hlocks : meth.locks = false) {r r' : Int64} {mc ms : Nat} (d : decode cc pc = .ok (.lreturn, 1)) (h1 : r = r') (h2 : σ = σ') (h3 : cells ≤ mc) (h4 : slots ≤ ms) :
    gJ p l e R s m args below meth c (MQ below (gRl E σ' r' s.heap.size) args s mc ms (gA E s.heap.size)) nL E σ cells slots pc lv [.long r] := by
  subst h1; subst h2
  exact fun H locs ls hP hS hl => W.widen h3 h4 (W.lret S.1 S.2.1 hr (fun t ht _ => ⟨⟨r, (), rfl, rfl, by show gP _ _ t.heap; rw [ht]; exact hP⟩, hS.F ht⟩) hS.2.2 d)
theorem g_vret (S : CallFix p m c cc nL s args Ts own) (hr : meth.sig.returnType = none) (hlocks : meth.locks = false) {mc ms : Nat} (d : decode cc pc = .ok (.return_, 1)) (h2 : σ = σ') (h3 : cells ≤ mc) (h4 : slots ≤ ms) :
    gJ p l e R s m args below meth c (MQ below (gRv E σ' s.heap.size) args s mc ms (gA E s.heap.size)) nL E σ cells slots pc lv [] := by
  subst h2
  exact fun H locs ls hP hS hl => W.widen h3 h4 (W.vret S.1 S.2.1 hr (fun t ht _ => ⟨⟨(), rfl, trivial, by show gP _ _ t.heap; rw [ht]; exact hP⟩, hS.F ht⟩) hS.2.2 d)
/-- which cells are objects -/
theorem gw_obj {k ci : Nat} (h : gK k = ci) (hc : ci < 8) : ∃ fs, gw E σ k = .inr (ci, fs) := by
  rcases (show ci < 5 ∨ ci = 5 ∨ ci = 6 ∨ ci = 7 by omega) with h5 | rfl | rfl | rfl
  · exact ⟨_, gK_o h h5⟩
  · exact ⟨_, gw_5 h⟩
  · exact ⟨[.ref (E.2.2 1), .ref (gTr E)], by unfold gw; rw [h]; try rfl⟩
  · exact ⟨_, by unfold gw; rw [h]; try rfl⟩
/-- a call under way -/
def gRun (p : Program) (l : Launch) (e : Env) (R : Room) (s : State) (m : MethodId) (args : Array Value) (below : List Frame) (meth : Method) (c : Code) (nL : Nat) (E : gT) (σ : gS) (cells slots pc : Nat) (lv : List (Nat × Value)) (st0 rest : List Value) (Qa : Nat → State → Outcome → State → Prop) (mc ms : Nat) : Prop :=
  ∀ (H : Heap) (locs : List Loc) (ls : Array Slot), gP E σ H → va_S (gA E s.heap.size) s.heap H locs → lv_has ls nL lv → va_Run p l e R s m args below meth c H locs cells slots mc ms (F0 m pc ls st0) rest (Qa H.size) (gA E H.size)
variable {y : MethodName} {bytes : ByteArray} {maxL n index mc ms : Nat} {ret : Option FieldType} {ws : List Cond} {rm : Room} {As : List Value} {Qc : Nat → Array Value → State → Outcome → State → Prop}
theorem g_recv (hC : gC E s) {k ci : Nat} {q : vw_C} (hk : k < 58) (hkd : gK k = ci) (hci : ci < 8) (hcl : vwCl[ci]? = some q) {H : Heap} (hP : gP E σ H) : ∃ cell : Cell, H[E.2.2 k]? = some cell ∧ cell.vm.isStatics = false ∧ s.vm.findClass q.1 = some cell.cls := by
  obtain ⟨fs, hw⟩ := gw_obj (E := E) (σ := σ) hkd hci
  exact va_recv hC.1 hP.1 (ci := ci) (q0 := k) hcl (by rw [gl_at hk, hw])
theorem g_runV (S : CallFix p m c cc nL s args Ts own) (hC : gC E s) {k ci : Nat} {q : vw_C} (hk : k < 58) (hkd : gK k = ci) (hci : ci < 8) (hcl : vwCl[ci]? = some q) (hM : ∀ sz, Met l y ws rm (gPre E σ sz (.ref (E.2.2 k) :: As)) (Qc sz) mc ms (gA E sz)) (cw : CallW R s args own q.1 index y bytes maxL ret ws rm mc ms n) (hn : As.length = n) (hst : st0 = As.reverse ++ .ref (E.2.2 k) :: rest) (hcat : (rest.map fun v => v.category).sum ≤ 8) (d : decode cc pc = .ok (.invokevirtual index, 3)) (hf : cells + mc ≤ R.cells ∧ slots + ms ≤ R.slots) :
    gRun p l e R s m args below meth c nL E σ cells slots pc lv st0 rest (fun sz => Qc sz (Value.ref (E.2.2 k) :: As).toArray) mc ms :=
  fun H locs ls hP hS hl => va_runV S (hM H.size) cw ⟨gPre_blind, g_recv hC hk hkd hci hcl hP, fun U hU hW => ⟨rfl, by rw [hU], hC.go hS hU hW, by rw [hU]; exact hP⟩⟩ rfl hn hl.1 hst (lv_room hcat) d hf
theorem g_runS (S : CallFix p m c cc nL s args Ts own) (hC : gC E s) (hM : ∀ sz, Met l y ws rm (gPre E σ sz As) (Qc sz) mc ms (gA E sz)) (cw : CallB R s args own index y bytes maxL ret ws rm mc ms n ∧ (Cond.static y).before args s = true) (hn : As.length = n) (hst : st0 = As.reverse ++ rest) (hcat : (rest.map fun v => v.category).sum ≤ 8) (d : decode cc pc = .ok (.invokestatic index, 3)) (hf : cells + mc ≤ R.cells ∧ slots + ms ≤ R.slots) :
    gRun p l e R s m args below meth c nL E σ cells slots pc lv st0 rest (fun sz => Qc sz As.toArray) mc ms :=
  fun H locs ls hP hS hl => va_runS S (hM H.size) cw ⟨gPre_blind, fun U hU hW => ⟨rfl, by rw [hU], hC.go hS hU hW, by rw [hU]; exact hP⟩⟩ rfl hn hl.1 hst (lv_room hcat) d hf
theorem g_runU {x : MethodName} {owner : String} (S : CallFix p m c cc nL s args Ts own) (hC : gC E s) {k ci : Nat} {q : vw_C} (hk : k < 58) (hkd : gK k = ci) (hci : ci < 8) (hcl : vwCl[ci]? = some q) (hM : ∀ sz, Met l y ws rm (gPre E σ sz (.ref (E.2.2 k) :: As)) (Qc sz) mc ms (gA E sz)) (cw : va_CU R s args own q.1 owner index x y bytes maxL ret ws rm mc ms n) (hn : As.length = n) (hst : st0 = As.reverse ++ .ref (E.2.2 k) :: rest) (hcat : (rest.map fun v => v.category).sum ≤ 8) (d : decode cc pc = .ok (.invokevirtual index, 3)) (hf : cells + mc ≤ R.cells ∧ slots + ms ≤ R.slots) :
    gRun p l e R s m args below meth c nL E σ cells slots pc lv st0 rest (fun sz => Qc sz (Value.ref (E.2.2 k) :: As).toArray) mc ms :=
  fun H locs ls hP hS hl => va_runU S (hM H.size) cw ⟨gPre_blind, g_recv hC hk hkd hci hcl hP, fun U hU hW => ⟨rfl, by rw [hU], hC.go hS hU hW, by rw [hU]; exact hP⟩⟩ rfl hn hl.1 hst (lv_room hcat) d hf
/-- a static method with handlers -/
theorem g_runSW {hh : List (Nat × Nat × Nat × Nat)} (S : CallFix p m c cc nL s args Ts own) (hC : gC E s) (hM : ∀ sz, Met l y ws rm (gPre E σ sz As) (Qc sz) mc ms (gA E sz)) (cw : vx_CSW R s args own index y bytes maxL ret hh ws rm mc ms n) (hn : As.length = n) (hst : st0 = As.reverse ++ rest) (hcat : (rest.map fun v => v.category).sum ≤ 8) (d : decode cc pc = .ok (.invokestatic index, 3)) (hf : cells + mc ≤ R.cells ∧ slots + ms ≤ R.slots) :
    gRun p l e R s m args below meth c nL E σ cells slots pc lv st0 rest (fun sz => Qc sz As.toArray) mc ms :=
  fun H locs ls hP hS hl => vx_runSW S (hM H.size) cw ⟨gPre_blind, fun U hU hW => ⟨rfl, by rw [hU], hC.go hS hU hW, by rw [hU]; exact hP⟩⟩ rfl hn hl.1 hst (lv_room hcat) d hf
variable {a : Array Value}
theorem g_calli {r : Int32} (hr : gRun p l e R s m args below meth c nL E σ cells slots pc lv st0 rest (fun sz => gRi E σ' r sz a) mc ms) (kk : gJ p l e R s m args below meth c Q nL E σ' (cells + mc) (slots + ms) (pc + 3) lv (.int r :: rest)) : gJ p l e R s m args below meth c Q nL E σ cells slots pc lv st0 := by
  intro H locs ls hP hS hl
  refine va_calli (hr H locs ls hP hS hl) hS (fun q _ h => gA_mono hS.1 q h) (gA_mono hS.1) (fun r' u t H1 locs1 ht hvm hr' hB hz hk hS1 => ?_)
  subst hr'
  have hB : gP _ _ t.heap := hB
  rw [ht] at hB
  exact kk H1 locs1 ls hB hS1 hl
theorem g_calll {r : Int64} (hr : gRun p l e R s m args below meth c nL E σ cells slots pc lv st0 rest (fun sz => gRl E σ' r sz a) mc ms) (kk : gJ p l e R s m args below meth c Q nL E σ' (cells + mc) (slots + ms) (pc + 3) lv (.long r :: rest)) : gJ p l e R s m args below meth c Q nL E σ cells slots pc lv st0 := by
  intro H locs ls hP hS hl
  refine va_calll (hr H locs ls hP hS hl) hS (fun q _ h => gA_mono hS.1 q h) (gA_mono hS.1) (fun r' u t H1 locs1 ht hvm hr' hB hz hk hS1 => ?_)
  subst hr'
  have hB : gP _ _ t.heap := hB
  rw [ht] at hB
  exact kk H1 locs1 ls hB hS1 hl
theorem g_callv (hr : gRun p l e R s m args below meth c nL E σ cells slots pc lv st0 rest (fun sz => gRv E σ' sz a) mc ms) (kk : gJ p l e R s m args below meth c Q nL E σ' (cells + mc) (slots + ms) (pc + 3) lv rest) : gJ p l e R s m args below meth c Q nL E σ cells slots pc lv st0 := by
  intro H locs ls hP hS hl
  refine va_callv (hr H locs ls hP hS hl) hS (fun q _ h => gA_mono hS.1 q h) (gA_mono hS.1) (fun u t H1 locs1 ht hvm hr' hB hz hk hS1 => ?_)
  have hB : gP _ _ t.heap := hB
  rw [ht] at hB
  exact kk H1 locs1 ls hB hS1 hl
end GM
end
section
section GT
variable {p : Program} {l : Launch} {e : Env} {R : Room} {s : State} {m : MethodId} {args : Array Value} {below : List Frame} {meth : Method} {c : Code} {Q : State → Prop}
variable {cc : ByteArray} {nL : Nat} {Ts : List Cond} {own : String} {E : gT} {σ σ' : gS} {cells slots pc : Nat} {lv lv' : List (Nat × Value)} {rest st0 : List Value}
/-- which exception: 1, 2, 3; 0 is none -/
def gEx (n : Nat) : String := if n = 1 then gIA else if n = 2 then gIS else gIO
abbrev gXi (E : gT) (σ : gS) (th : Nat) (r : Int32) (sz : Nat) : Array Value → State → Outcome → State → Prop := va_Qi (fun (r' : Int32) (_ : Unit) => th = 0 ∧ r' = r) (fun _ => gBt E σ) (gA E sz)
abbrev gXv (E : gT) (σ : gS) (th : Nat) (sz : Nat) : Array Value → State → Outcome → State → Prop := va_Qv (fun (_ : Unit) => th = 0) (fun _ => gBt E σ) (gA E sz)
abbrev gXx (E : gT) (σ : gS) (th : Nat) (sz : Nat) : String → State → State → Prop := vx_X (fun (_ : Unit) => th ≠ 0) (fun En _ t => En = gEx th ∧ gBt E σ t) (gA E sz)
/-- a method that returns r, or throws number th (0: it returns): the numbers behind it are σ' -/
def gYi (l : Launch) (y : MethodName) (ws : List Cond) (rm : Room) (mc ms : Nat) (E : gT) (σ : gS) (av : List Value) (th : Nat) (r : Int32) (σ' : gS) : Prop := ∀ sz, vx_Met l y ws rm (gPre E σ sz av) (gXi E σ' th r sz) (gXx E σ' th sz) mc ms (gA E sz)
def gYv (l : Launch) (y : MethodName) (ws : List Cond) (rm : Room) (mc ms : Nat) (E : gT) (σ : gS) (av : List Value) (th : Nat) (σ' : gS) : Prop := ∀ sz, vx_Met l y ws rm (gPre E σ sz av) (gXv E σ' th sz) (gXx E σ' th sz) mc ms (gA E sz)
theorem g_vmet {y : MethodName} {ws ws' : List Cond} {rm : Room} {mc ms : Nat} {av : List Value} {ret : Option FieldType} {Qc : Nat → Array Value → State → Outcome → State → Prop} {XC : Nat → String → State → State → Prop} (hy : plainName y.cls = true) (hw : ws = Cond.code y cc nL ret :: ws') (hlv : lv_args 0 av = lv) (hsz : (lg_sl av).length ≤ nL)
    (body : ∀ (p : Program) (e : Env) (s : State) (m : MethodId) (below : List Frame) (meth : Method) (c : Code), CallFix p m c cc nL s av.toArray ws y.cls → meth.sig.returnType = ret → meth.locks = false → (∀ x ∈ c.exceptionTable.toList, False) → gC E s →
      gJ p l e rm s m av.toArray below meth c (vx_MQ below (Qc s.heap.size) (XC s.heap.size) av.toArray s mc ms (gA E s.heap.size)) nL E σ 0 0 0 lv []) : ∀ sz, vx_Met l y ws rm (gPre E σ sz av) (Qc sz) (XC sz) mc ms (gA E sz) := by
  intro sz
  refine vx_ofW (cc := cc) (maxL := nL) (ret := ret) hy hw ?_
  intro p e s m args below meth c s₁ B hml hout hv
  obtain ⟨rfl, rfl, hC, hP⟩ := hv
  exact g_ent (k := fun _ => True) (ls := #[]) hlv hsz (body p e s m below meth c ⟨B.exec, B.bytes, hml, findClass_of_methodNamed B.named, atoms_spec (ws := ws) B.pre⟩ B.returns B.notSynchronized hout hC) hP
/-- ends of such a method -/
theorem g_xiret (S : CallFix p m c cc nL s args Ts own) (hr : meth.sig.returnType = some .int) (hlocks : meth.locks = false) {XC : String → State → State → Prop} {th : Nat} {r r' : Int32} {mc ms : Nat} (d : decode cc pc = .ok (.ireturn, 1)) (h0 : th = 0) (h1 : r = r') (h2 : σ = σ') (h3 : cells ≤ mc) (h4 : slots ≤ ms) :
    gJ p l e R s m args below meth c (vx_MQ below (gXi E σ' th r' s.heap.size) XC args s mc ms (gA E s.heap.size)) nL E σ cells slots pc lv [.int r] := by
  subst h1; subst h2
  exact fun H locs ls hP hS hl => vx_ret (W.widen h3 h4 (W.iret S.1 S.2.1 hr (fun t ht _ => ⟨⟨r, (), rfl, ⟨h0, rfl⟩, by show gP _ _ t.heap; rw [ht]; exact hP⟩, hS.F ht⟩) hS.2.2 d))
theorem g_xzret (S : CallFix p m c cc nL s args Ts own) (hr : meth.sig.returnType = some .boolean) (hlocks : meth.locks = false) {XC : String → State → State → Prop} {th : Nat} {r r' : Int32} {mc ms : Nat} (d : decode cc pc = .ok (.ireturn, 1)) (hn : narrow .boolean (.int r) = .int r) (h0 : th = 0) (h1 : r = r') (h2 : σ = σ') (h3 : cells ≤ mc) (h4 : slots ≤ ms) :
    gJ p l e R s m args below meth c (vx_MQ below (gXi E σ' th r' s.heap.size) XC args s mc ms (gA E s.heap.size)) nL E σ cells slots pc lv [.int r] := by
  subst h1; subst h2
  exact fun H locs ls hP hS hl => vx_ret (W.widen h3 h4 (W.zret S.1 S.2.1 hr hn (fun t ht _ => ⟨⟨r, (), rfl, ⟨h0, rfl⟩, by show gP _ _ t.heap; rw [ht]; exact hP⟩, hS.F ht⟩) hS.2.2 d))
theorem g_xvret (S : CallFix p m c cc nL s args Ts own) (hr : meth.sig.returnType = none) (hlocks : meth.locks = false) {XC : String → State → State → Prop} {th : Nat} {mc ms : Nat} (d : decode cc pc = .ok (.return_, 1)) (h0 : th = 0) (h2 : σ = σ') (h3 : cells ≤ mc) (h4 : slots ≤ ms) :
    gJ p l e R s m args below meth c (vx_MQ below (gXv E σ' th s.heap.size) XC args s mc ms (gA E s.heap.size)) nL E σ cells slots pc lv [] := by
  subst h2
  exact fun H locs ls hP hS hl => vx_ret (W.widen h3 h4 (W.vret S.1 S.2.1 hr (fun t ht _ => ⟨⟨(), rfl, h0, by show gP _ _ t.heap; rw [ht]; exact hP⟩, hS.F ht⟩) hS.2.2 d))
/-- throw new X(text) -/
theorem g_throw (S : CallFix p m c cc nL s args Ts own) (hC : gC E s) (hfl : l.stackTraces = false) (hlocks : meth.locks = false) (hout : ∀ x ∈ c.exceptionTable.toList, False) {cls text : String} {names : List String} {ik is ic : Nat} (th : Nat) {th' mc ms : Nat} {Qc : Array Value → State → Outcome → State → Prop} (hth : th ≠ 0) (hcls0 : cls = gEx th)
    (hcls : Bundle.fit cls = true) (hnames : ∀ n ∈ names, Bundle.fit n = true) (hk : Cond.classLink own ik cls ∈ Ts) (hini : Cond.initialized cls ∈ Ts) (hstr : ∃ sa, vk_R own is text sa s) (hat : ∀ w ∈ (vx_atS own ic cls names).filter goodWord, w ∈ Ts) (hat2 : ∀ w ∈ (vx_atS own ic cls names).filter (fun w => !goodWord w), w ∈ [Cond.declares (Bundle.initS "java/lang/RuntimeException"), Cond.declares (Bundle.initS "java/lang/Exception"), Cond.declares (Bundle.initS Bundle.tN), Cond.castable gIA gIA, Cond.castable gIS gIS, Cond.castable gIO gIO])
    (hgood : ∀ w ∈ Cond.classLink own ik cls :: Cond.initialized cls :: vx_atS own ic cls names, vx_ot w = true)
    (d0 : decode cc pc = .ok (.new ik, 3)) (d3 : decode cc (pc + 3) = .ok (.dup, 1)) (d4 : decode cc (pc + 4) = .ok (.ldc is, 2)) (d6 : decode cc (pc + 6) = .ok (.invokespecial ic, 3)) (d9 : decode cc (pc + 9) = .ok (.athrow, 1))
    (hRf : names.length + 3 < R.frames) (hRl : (rest.map fun v => v.category).sum + (13 * (names.length + 1) + 43) ≤ R.locals) (hRc : cells + 1 ≤ R.cells) (hRs : slots + 6 ≤ R.slots) (h3 : cells + 1 ≤ mc) (h4 : slots + 6 ≤ ms) (h0 : th' = th) (h2 : σ = σ') :
    gJ p l e R s m args below meth c (vx_MQ below Qc (gXx E σ' th' s.heap.size) args s mc ms (gA E s.heap.size)) nL E σ cells slots pc lv rest := by
  subst h0; subst h2
  intro H locs ls hP hS hl
  obtain ⟨sa, hsa⟩ := hstr
  have hat := vx_hat (fun w h => S.2.2.2.2 w (hat w h)) hat2 (vx_c (va_Nw.use rfl hC.2.2.1.1.2.2.1) (vx_c (va_Nw.use rfl hC.2.2.1.1.2.2.2.1) (vx_c (va_Nw.use rfl hC.2.2.1.1.2.2.2.2) (vx_c (va_Nw.use rfl hC.2.2.1.2.1.1) (vx_c (va_Nw.use rfl hC.2.2.1.2.1.2.1) (vx_c (va_Nw.use rfl hC.2.2.1.2.1.2.2) vx_n))))))
  refine vx_throwS S.1 S.2.1 hfl S.2.2.2.1 hcls hnames (S.2.2.2.2 _ hk) (S.2.2.2.2 _ hini) hsa hat hgood hC.2.2.2.1.1 hC.2.2.2.1.2 hS (hl.1.trans S.2.2.1.symm) d0 d3 d4 d6 d9 (fun x hx => (hout x hx).elim) hRf hRl hRc hRs hlocks (fun t _ hz hk9 => ⟨(), hth, ⟨hcls0, ?_⟩, ?_⟩) hS.2.2 h3 h4
  · exact ⟨hP.1.kept (fun k q hk => hk9 _ (vx_lt hP.1 hk)), hP.2⟩
  · exact ⟨Nat.le_trans hS.1 hz, fun q h1 h2 => by rw [hk9 q (Nat.lt_of_lt_of_le h1 hS.1)]; exact hS.2.1 q h1 h2⟩
/-- a call under way that may throw -/
def gXun (p : Program) (l : Launch) (e : Env) (R : Room) (s : State) (m : MethodId) (args : Array Value) (below : List Frame) (meth : Method) (c : Code) (nL : Nat) (E : gT) (σ : gS) (cells slots pc : Nat) (lv : List (Nat × Value)) (st0 rest : List Value) (Qa : Nat → State → Outcome → State → Prop) (XC : Nat → String → State → State → Prop) (mc ms : Nat) : Prop :=
  ∀ (H : Heap) (locs : List Loc) (ls : Array Slot), gP E σ H → va_S (gA E s.heap.size) s.heap H locs → lv_has ls nL lv → vx_Run p l e R s m args below meth c H locs cells slots mc ms (F0 m pc ls st0) rest (Qa H.size) (XC H.size) (gA E H.size)
variable {y : MethodName} {bytes : ByteArray} {maxL n index mc ms : Nat} {ret : Option FieldType} {ws : List Cond} {rm : Room} {As : List Value} {Qc : Nat → Array Value → State → Outcome → State → Prop} {XC : Nat → String → State → State → Prop}
theorem g_xunV (S : CallFix p m c cc nL s args Ts own) (hC : gC E s) {k ci : Nat} {q : vw_C} (hk : k < 58) (hkd : gK k = ci) (hci : ci < 8) (hcl : vwCl[ci]? = some q) (hM : ∀ sz, vx_Met l y ws rm (gPre E σ sz (.ref (E.2.2 k) :: As)) (Qc sz) (XC sz) mc ms (gA E sz)) (cw : CallW R s args own q.1 index y bytes maxL ret ws rm mc ms n) (hn : As.length = n) (hst : st0 = As.reverse ++ .ref (E.2.2 k) :: rest) (hcat : (rest.map fun v => v.category).sum ≤ 8) (d : decode cc pc = .ok (.invokevirtual index, 3)) (hf : cells + mc ≤ R.cells ∧ slots + ms ≤ R.slots) :
    gXun p l e R s m args below meth c nL E σ cells slots pc lv st0 rest (fun sz => Qc sz (Value.ref (E.2.2 k) :: As).toArray) XC mc ms :=
  fun H locs ls hP hS hl => vx_runV S (hM H.size) cw ⟨gPre_blind, g_recv hC hk hkd hci hcl hP, fun U hU hW => ⟨rfl, by rw [hU], hC.go hS hU hW, by rw [hU]; exact hP⟩⟩ rfl hn hl.1 hst (lv_room hcat) d hf
theorem g_xunS (S : CallFix p m c cc nL s args Ts own) (hC : gC E s) (hM : ∀ sz, vx_Met l y ws rm (gPre E σ sz As) (Qc sz) (XC sz) mc ms (gA E sz)) (cw : CallB R s args own index y bytes maxL ret ws rm mc ms n ∧ (Cond.static y).before args s = true) (hn : As.length = n) (hst : st0 = As.reverse ++ rest) (hcat : (rest.map fun v => v.category).sum ≤ 8) (d : decode cc pc = .ok (.invokestatic index, 3)) (hf : cells + mc ≤ R.cells ∧ slots + ms ≤ R.slots) :
    gXun p l e R s m args below meth c nL E σ cells slots pc lv st0 rest (fun sz => Qc sz As.toArray) XC mc ms :=
  fun H locs ls hP hS hl => vx_runS S (hM H.size) cw ⟨gPre_blind, fun U hU hW => ⟨rfl, by rw [hU], hC.go hS hU hW, by rw [hU]; exact hP⟩⟩ rfl hn hl.1 hst (lv_room hcat) d hf
variable {a : Array Value} {th : Nat}
/-- thrown here: the frame, with an exception of number th over it -/
def gV (p : Program) (l : Launch) (e : Env) (R : Room) (s : State) (m : MethodId) (args : Array Value) (below : List Frame) (meth : Method) (c : Code) (Q : State → Prop) (nL : Nat) (E : gT) (th : Nat) (σ : gS) (cells slots pc : Nat) (lv : List (Nat × Value)) (rest : List Value) : Prop :=
  ∀ (H : Heap) (locs : List Loc) (ls : Array Slot) (q : Addr) (ce : Cell), gP E σ H → va_S (gA E s.heap.size) s.heap H locs → lv_has ls nL lv → H[q]? = some ce → ce.vm = .none → s.vm.findClass (gEx th) = some ce.cls → vx_W p l e R s m args below meth c H locs cells slots Q (F0 m pc ls rest) q
theorem g_callxi {r : Int32} (hr : gXun p l e R s m args below meth c nL E σ cells slots pc lv st0 rest (fun sz => gXi E σ' th r sz a) (fun sz => gXx E σ' th sz) mc ms) (kx : th ≠ 0 → gV p l e R s m args below meth c Q nL E th σ' (cells + mc) (slots + ms) pc lv rest) (kk : th = 0 → gJ p l e R s m args below meth c Q nL E σ' (cells + mc) (slots + ms) (pc + 3) lv (.int r :: rest)) : gJ p l e R s m args below meth c Q nL E σ cells slots pc lv st0 := by
  intro H locs ls hP hS hl
  refine vx_calli (hr H locs ls hP hS hl) hS (fun q _ h => gA_mono hS.1 q h) (gA_mono hS.1) (fun q _ h => gA_mono hS.1 q h) (fun En ce q9 u t H1 locs1 ht hvm hp hB hz hk hS1 hce hv hcl => ?_) (fun r' u t H1 locs1 ht hvm hr' hB hz hk hS1 => ?_)
  · obtain ⟨rfl, hB⟩ := hB
    have hB : gP _ _ t.heap := hB
    rw [ht] at hB
    exact kx hp H1 locs1 ls q9 ce hB hS1 hl hce hv hcl
  · obtain ⟨h0, rfl⟩ := hr'
    have hB : gP _ _ t.heap := hB
    rw [ht] at hB
    exact kk h0 H1 locs1 ls hB hS1 hl
theorem g_callxv (hr : gXun p l e R s m args below meth c nL E σ cells slots pc lv st0 rest (fun sz => gXv E σ' th sz a) (fun sz => gXx E σ' th sz) mc ms) (kx : th ≠ 0 → gV p l e R s m args below meth c Q nL E th σ' (cells + mc) (slots + ms) pc lv rest) (kk : th = 0 → gJ p l e R s m args below meth c Q nL E σ' (cells + mc) (slots + ms) (pc + 3) lv rest) : gJ p l e R s m args below meth c Q nL E σ cells slots pc lv st0 := by
  intro H locs ls hP hS hl
  refine vx_callv (hr H locs ls hP hS hl) hS (fun q _ h => gA_mono hS.1 q h) (gA_mono hS.1) (fun q _ h => gA_mono hS.1 q h) (fun En ce q9 u t H1 locs1 ht hvm hp hB hz hk hS1 hce hv hcl => ?_) (fun u t H1 locs1 ht hvm hr' hB hz hk hS1 => ?_)
  · obtain ⟨rfl, hB⟩ := hB
    have hB : gP _ _ t.heap := hB
    rw [ht] at hB
    exact kx hp H1 locs1 ls q9 ce hB hS1 hl hce hv hcl
  · have hB : gP _ _ t.heap := hB
    rw [ht] at hB
    exact kk hr' H1 locs1 ls hB hS1 hl
/-- it goes on to the caller -/
theorem g_out (hlocks : meth.locks = false) (hout : ∀ x ∈ c.exceptionTable.toList, False) {Qc : Array Value → State → Outcome → State → Prop} {th' : Nat} (hth : th ≠ 0) (h0 : th' = th) (h2 : σ = σ') (h3 : cells ≤ mc) (h4 : slots ≤ ms) :
    gV p l e R s m args below meth c (vx_MQ below Qc (gXx E σ' th' s.heap.size) args s mc ms (gA E s.heap.size)) nL E th σ cells slots pc lv rest := by
  subst h0; subst h2
  intro H locs ls q ce hP hS hl hce hv hcl
  exact vx_out (fun x hx => (hout x hx).elim) hlocks hce hv hcl (fun t ht _ => ⟨(), hth, ⟨rfl, by show gP _ _ t.heap; rw [ht]; exact hP⟩, hS.F ht⟩) hS.2.2 h3 h4
end GT
end
section
section GO
variable {p : Program} {l : Launch} {e : Env} {R : Room} {s : State} {m : MethodId} {args : Array Value} {below : List Frame} {meth : Method} {c : Code} {Q : State → Prop}
variable {cc : ByteArray} {nL : Nat} {Ts : List Cond} {own : String} {E : gT} {σ σ' : gS} {cells slots pc : Nat} {lv lv' : List (Nat × Value)} {rest st0 : List Value}
/-- the town's base place, or the trial's -/
def gTw (t : Nat) : Prop := t = 1
theorem gTw.lt {t : Nat} (h : gTw t) {j : Nat} (hj : j < 28) : t + j < 58 := by obtain rfl : t = 1 := h <;> omega
theorem gTw.lt2 {t : Nat} (h : gTw t) {a i : Nat} (hj : a + i < 28) : t + a + i < 58 := by obtain rfl : t = 1 := h <;> omega
theorem gTw.town {t : Nat} (h : gTw t) : gK t = 5 := by obtain rfl : t = 1 := h <;> rfl
theorem gTw.r1 {t : Nat} (h : gTw t) : gK (t + 1) = 10 := by obtain rfl : t = 1 := h <;> rfl
theorem gTw.r2 {t : Nat} (h : gTw t) : gK (t + 2) = 11 := by obtain rfl : t = 1 := h <;> rfl
theorem gTw.r3 {t : Nat} (h : gTw t) : gK (t + 3) = 12 := by obtain rfl : t = 1 := h <;> rfl
theorem gTw.r4 {t : Nat} (h : gTw t) : gK (t + 4) = 13 := by obtain rfl : t = 1 := h <;> rfl
theorem gTw.store {t : Nat} (h : gTw t) : gK (t + 5) = 4 := by obtain rfl : t = 1 := h <;> rfl
theorem gTw.bed {t : Nat} (h : gTw t) {i : Nat} (hi : i < 4) : gK (t + 6 + i) = 0 := by
  obtain rfl : t = 1 := h <;> rcases (show i = 0 ∨ i = 1 ∨ i = 2 ∨ i = 3 by omega) with rfl | rfl | rfl | rfl <;> rfl
theorem gTw.drum {t : Nat} (h : gTw t) {i : Nat} (hi : i < 4) : gK (t + 10 + i) = 2 := by
  obtain rfl : t = 1 := h <;> rcases (show i = 0 ∨ i = 1 ∨ i = 2 ∨ i = 3 by omega) with rfl | rfl | rfl | rfl <;> rfl
theorem gTw.smug {t : Nat} (h : gTw t) {i : Nat} (hi : i < 4) : gK (t + 14 + i) = 3 := by
  obtain rfl : t = 1 := h <;> rcases (show i = 0 ∨ i = 1 ∨ i = 2 ∨ i = 3 by omega) with rfl | rfl | rfl | rfl <;> rfl
theorem gTw.card {t : Nat} (h : gTw t) {i : Nat} (hi : i < 10) : gK (t + 18 + i) = 1 := by
  obtain rfl : t = 1 := h <;> rcases (show i = 0 ∨ i = 1 ∨ i = 2 ∨ i = 3 ∨ i = 4 ∨ i = 5 ∨ i = 6 ∨ i = 7 ∨ i = 8 ∨ i = 9 by omega) with rfl | rfl | rfl | rfl | rfl | rfl | rfl | rfl | rfl | rfl <;> rfl
theorem ga10 (S : CallFix p m c cc nL s args Ts own) (hC : gC E s) {k : Nat} (hk : k < 58) (hkd : gK k = 10) (j : Nat) {i : Int32} (hi : i = nI j) (hj : j < 4) (q : Nat) (hq : k + 5 + j = q) (d : decode cc pc = .ok (.aaload, 1)) (kk : gJ p l e R s m args below meth c Q nL E σ cells slots (pc + 1) lv (.ref (E.2.2 q) :: rest)) : gJ p l e R s m args below meth c Q nL E σ cells slots pc lv (.int i :: .ref (E.2.2 k) :: rest) :=
  g_aald S hC hk 10 4 5 2 2 (by unfold gw; rw [hkd]; try rfl) rfl (by omega) j hi hj q hq d kk
theorem ga11 (S : CallFix p m c cc nL s args Ts own) (hC : gC E s) {k : Nat} (hk : k < 58) (hkd : gK k = 11) (j : Nat) {i : Int32} (hi : i = nI j) (hj : j < 4) (q : Nat) (hq : k + 8 + j = q) (d : decode cc pc = .ok (.aaload, 1)) (kk : gJ p l e R s m args below meth c Q nL E σ cells slots (pc + 1) lv (.ref (E.2.2 q) :: rest)) : gJ p l e R s m args below meth c Q nL E σ cells slots pc lv (.int i :: .ref (E.2.2 k) :: rest) :=
  g_aald S hC hk 11 4 8 3 3 (by unfold gw; rw [hkd]; try rfl) rfl (by omega) j hi hj q hq d kk
theorem ga12 (S : CallFix p m c cc nL s args Ts own) (hC : gC E s) {k : Nat} (hk : k < 58) (hkd : gK k = 12) (j : Nat) {i : Int32} (hi : i = nI j) (hj : j < 4) (q : Nat) (hq : k + 11 + j = q) (d : decode cc pc = .ok (.aaload, 1)) (kk : gJ p l e R s m args below meth c Q nL E σ cells slots (pc + 1) lv (.ref (E.2.2 q) :: rest)) : gJ p l e R s m args below meth c Q nL E σ cells slots pc lv (.int i :: .ref (E.2.2 k) :: rest) :=
  g_aald S hC hk 12 4 11 4 4 (by unfold gw; rw [hkd]; try rfl) rfl (by omega) j hi hj q hq d kk
theorem ga13 (S : CallFix p m c cc nL s args Ts own) (hC : gC E s) {k : Nat} (hk : k < 58) (hkd : gK k = 13) (j : Nat) {i : Int32} (hi : i = nI j) (hj : j < 10) (q : Nat) (hq : k + 14 + j = q) (d : decode cc pc = .ok (.aaload, 1)) (kk : gJ p l e R s m args below meth c Q nL E σ cells slots (pc + 1) lv (.ref (E.2.2 q) :: rest)) : gJ p l e R s m args below meth c Q nL E σ cells slots pc lv (.int i :: .ref (E.2.2 k) :: rest) :=
  g_aald S hC hk 13 10 14 5 5 (by unfold gw; rw [hkd]; try rfl) rfl (by omega) j hi hj q hq d kk
/-- from one point to the same, otherwise written -/
theorem g_to {st st' : List Value} (k : gJ p l e R s m args below meth c Q nL E σ' cells slots pc lv' st') (h1 : σ = σ') (h2 : lv = lv') (h3 : st = st') : gJ p l e R s m args below meth c Q nL E σ cells slots pc lv st := by
  subst h1; subst h2; subst h3; exact k
/-- a loop that counts up: its world, its locals by the count -/
theorem g_loop (N : Nat) (Fs : Nat → gS) (Fl : Nat → List (Nat × Value)) (st : List Value) (h1 : σ = Fs 0) (h2 : lv = Fl 0)
    (hs : ∀ i, i < N → gJ p l e R s m args below meth c Q nL E (Fs (i + 1)) cells slots pc (Fl (i + 1)) st → gJ p l e R s m args below meth c Q nL E (Fs i) cells slots pc (Fl i) st)
    (hx : gJ p l e R s m args below meth c Q nL E (Fs N) cells slots pc (Fl N) st) : gJ p l e R s m args below meth c Q nL E σ cells slots pc lv st := by
  subst h1; subst h2
  have key : ∀ d i, i + d = N → gJ p l e R s m args below meth c Q nL E (Fs i) cells slots pc (Fl i) st := by
    intro d
    induction d with
    | zero => intro i hi; obtain rfl : i = N := by omega
              exact hx
    | succ d ih => intro i hi; exact hs i (by omega) (ih (i + 1) (by omega))
  exact key N 0 (by omega)
/-- numbers written as literals -/
theorem gI (n : Nat) : (OfNat.ofNat n : Int32) = nI n := rfl
end GO
/-- n steps of a thing, the first step's number 0 -/
def itr {α : Type} (f : Nat → α → α) : Nat → α → α
  | 0, a => a
  | n + 1, a => f n (itr f n a)
end
