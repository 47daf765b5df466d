section
-- ===== PART A: goes FIRST, ahead of the names: the tables' words, and 'selects' of the private methods out of them =====
/-- a private method of a class that the tables say can be made, by its rows of tables_1 -/
def lw_okq (q : MethodName × Nat) : Prop := (q.1.cls ≠ "java/lang/invoke/MethodHandle" ∧ q.1.cls ≠ "java/lang/invoke/VarHandle") ∧ Cond.instantiable q.1.cls q.2 ∈ tables_1 ∧ Cond.privateMethod q.1 ∈ tables_1 ∧ Cond.instanceMethod q.1 ∈ tables_1
theorem lw_p0 : lw_okq (⟨"java/lang/Throwable", "fillInStackTrace", "(I)Ljava/lang/Throwable;"⟩, 6) := ⟨⟨by decide +kernel, by decide +kernel⟩, List.mem_of_getElem? (i := 261) (by decide +kernel), List.mem_of_getElem? (i := 259) (by decide +kernel), List.mem_of_getElem? (i := 260) (by decide +kernel)⟩
def lw_privs_1 : List (MethodName × Nat) := [(⟨"java/lang/Throwable", "fillInStackTrace", "(I)Ljava/lang/Throwable;"⟩, 6)]
theorem lw_r1 : ∀ q ∈ lw_privs_1, lw_okq q := List.forall_mem_cons.mpr ⟨lw_p0, fun _ h => absurd h List.not_mem_nil⟩
def lw_privs : List (MethodName × Nat) := lw_privs_1
def lw_tbl : List Cond := k2_sels lw_privs ++ tables_1
theorem lw_privs_ok : ∀ q ∈ lw_privs, lw_okq q := lw_r1
/-- the streams that the claim lets the run draw from -/
abbrev lw_cs : List Choice := [Jvm.Choice.named "NaN.bits"]
theorem lw_bits : nanBits ∈ lw_cs := by first | decide | exact List.mem_cons_self | simp [lw_cs, nanBits]
-- ===== end of PART A; then your names; then what follows =====
/-! ===== BEGIN words of one list among another's, by their places ===== -/
theorem goodIn_r {big : List Cond} (ws : List Cond) (ps : List Nat) (hp : ws = ps.filterMap (fun i => big[i]?)) (h : ws.all goodWord = true) : GoodIn big ws := by
  intro w hw
  have h1 := List.all_eq_true.mp h w hw
  rw [hp] at hw
  obtain ⟨i, -, hi⟩ := List.mem_filterMap.mp hw
  have hm : w ∈ big := by first | exact List.mem_of_getElem? hi | exact List.getElem?_mem hi
  exact ⟨hm, good_of_word h1⟩
theorem goodIn_app {big a b : List Cond} (ha : GoodIn big a) (hb : GoodIn big b) : GoodIn big (a ++ b) := fun w h => (List.mem_append.mp h).elim (ha w) (hb w)
theorem goodIn_ca {big a b : List Cond} {c : Cond} (ha : GoodIn big (c :: a)) (hb : GoodIn big b) : GoodIn big (c :: (a ++ b)) := fun w h => (List.mem_cons.mp h).elim (fun e => ha w (List.mem_cons.mpr (Or.inl e))) (fun h => (List.mem_append.mp h).elim (fun h => ha w (List.mem_cons.mpr (Or.inr h))) (hb w))
theorem goodIn_sub {big ws : List Cond} (hm : ∀ w ∈ ws, w ∈ big) (h : ws.all goodWord = true) : GoodIn big ws := fun w hw => ⟨hm w hw, good_of_word (List.all_eq_true.mp h w hw)⟩
/-! ===== END ===== -/

/-! ===== BEGIN exceptions that leave a method, and their catching by the caller (launches without stack traces) ===== -/
section VXA
/-! The laws vx_back, vx_callV, vx_callS, vx_callSW, vx_throw0, vx_throwS follow proofs of the library, with one case more: JvmDerived/Free/Laws.lean (Back.of_free), Shelf42/LK1.lean (callV, callS), Shelf/KitTraced.lean (throwNew0V, throwNewS). -/
/-- where a method has thrown q: the class by its name, the cell, what was written, the world -/
def vx_T (XC : String → State → State → Prop) (st : State) (q : Addr) (t : State) (mc ms : Nat) (free : Addr → Prop) : Prop :=
  ∃ (E : String) (ce : Cell) (L : List Loc), XC E st t ∧ t.heap[q]? = some ce ∧ ce.vm = .none ∧ st.vm.findClass E = some ce.cls ∧ st.WarmedH t.vm ∧ st.sameButNew ({ t with vm := st.vm } : State) L mc ms ∧ ∀ z ∈ L, free z.base
def vx_Q (Qc : Array Value → State → Outcome → State → Prop) (XC : String → State → State → Prop) (mc ms : Nat) (free : Addr → Prop) : Array Value → State → Outcome → State → Prop := fun a st o t =>
  (Qc a st o t ∧ ∃ L, FrameEnd st o t L mc ms ∧ ∀ q ∈ L, free q.base) ∨ ∃ q, o = .threw q ∧ vx_T XC st q t mc ms free
/-- a callee that returns or throws -/
def vx_Met (l : Launch) (y : MethodName) (ws : List Cond) (rm : Room) (Pc : Array Value → State → Prop) (Qc : Array Value → State → Outcome → State → Prop) (XC : String → State → State → Prop) (mc ms : Nat) (free : Addr → Prop) : Prop :=
  MetFree l y (headSpec ws rm) Pc (fun _ _ _ _ _ => True) (vx_Q Qc XC mc ms free)
def vx_Post (XC : String → State → State → Prop) (mc ms : Nat) (free : Addr → Prop) : Pt → Array Value → Addr → Pt → Prop := fun A a q B =>
  ∃ (g : JFrame) (mk : MethodId) (t : State) (L : List Loc) (E : String) (ce : Cell), B.U.heap = t.heap ∧ B.U.vm = t.vm ∧ XC E (A.U.calling g mk a) t ∧ t.heap[q]? = some ce ∧ ce.vm = .none ∧ A.U.vm.findClass E = some ce.cls ∧ B.locs = A.locs ++ L ∧ (∀ z ∈ L, free z.base) ∧ B.cells = A.cells + mc ∧ B.slots = A.slots + ms
def vx_Back (l : Launch) (R : Room) (p : Program) (e : Env) (below : List Frame) (s : State) (sargs : Array Value) (y : MethodName) (len W9 : Nat)
    (Pre : Pt → Array Value → Prop) (Post : Pt → Array Value → Option Value → Pt → Prop) (PostX : Pt → Array Value → Addr → Pt → Prop) : Prop :=
  ∀ (m : MethodId) (meth : Method) (c : Code) (A : Pt) (g : JFrame) (ig : Instr) (mk : MethodId) (a : Array Value),
    Stand p l e R s m sargs below meth c A.U A.locs A.cells A.slots → g.method = m → g.locals.size = c.maxLocals → decode c.code g.pc = .ok (ig, len) →
    2 * g.monitorRoom + (g.stack.map fun v => v.category).sum ≤ W9 → A.U.methodNamed? y = some mk → Pre A a →
    (∃ (v : Option Value) (B : Pt), Stand p l e R s m sargs below meth c B.U B.locs B.cells B.slots ∧ Post A a v B ∧
      Steps p.tables e below (doInvoke e (A.U.setTop g) [] mk a).1 (B.U.setTop { g with pc := g.pc + len, stack := v.toList ++ g.stack })) ∨
    (∃ (q : Addr) (B : Pt), Stand p l e R s m sargs below meth c B.U B.locs B.cells B.slots ∧ PostX A a q B ∧
      Steps p.tables e below (doInvoke e (A.U.setTop g) [] mk a).1 ((B.U.setTop g).pushFrame (.throwing q)))
section Payer
variable {l : Launch} {R : Room} {p : Program} {e : Env} {below : List Frame} {s : State} {sargs : Array Value} {y : MethodName} {len W9 : Nat}
theorem vx_back {ws : List Cond} {rm : Room} {Pc : Array Value → State → Prop} {Qc : Array Value → State → Outcome → State → Prop} {XC : String → State → State → Prop} {mc ms : Nat} {free : Addr → Prop} {bytes : ByteArray} {maxL : Nat} {ret : Option FieldType}
    (hM : vx_Met l y ws rm Pc Qc XC mc ms free) (hblind : FrameBlind Pc) (hrc : rm.cells = mc) (hrs : rm.slots = ms)
    (hframes : rm.frames + 1 ≤ R.frames) (hlocals : W9 + (maxL + 11) + rm.locals ≤ R.locals)
    (hws : ∀ w ∈ ws, ∀ a' U, s.WarmedH U.vm → w.before a' U = true) (hcode : Cond.code y bytes maxL ret ∈ ws) (hinit : ∀ a' U, s.WarmedH U.vm → (Cond.initialized y.cls).before a' U = true) :
    vx_Back l R p e below s sargs y len W9 (PreOf R mc ms Pc) (PostOf Qc mc ms free) (vx_Post XC mc ms free) := by
  intro m meth c A g ig mk a X hg hsize hdg hW hn hp
  have h1 : (headSpec ws rm).pre.before a A.U = true := atoms_intro fun w hw => hws w hw _ _ X.warmed
  have h2 : (Cond.code y bytes maxL ret).before a A.U = true := hws _ hcode _ _ X.warmed
  have h3 : (Cond.initialized y.cls).before a A.U = true := hinit _ _ X.warmed
  have h4 : A.cells + (headSpec ws rm).room.cells ≤ R.cells := by rw [show (headSpec ws rm).room.cells = mc from hrc]; exact hp.1
  have h5 : A.slots + (headSpec ws rm).room.slots ≤ R.slots := by rw [show (headSpec ws rm).room.slots = ms from hrs]; exact hp.2.1
  have hPc : Pc a (A.U.calling g mk a) := hblind _ _ _ _ hp.2.2
  obtain ⟨U, Ls, c0, s0⟩ := A
  dsimp only [Pt.U, Pt.locs, Pt.cells, Pt.slots] at h1 h2 h3 h4 h5 X hn hPc ⊢
  obtain ⟨methY, cY, hmY, hcY, -, hlY, -, -, -, -⟩ := Cond.code_spec hn h2
  obtain ⟨kY, hkY, -⟩ := className_of_methodNamed hn
  have hinitY : kY.init = .initialized := Cond.initialized_spec (findClass_of_methodNamed hn) hkY h3
  have h : At U g.method c below := by rw [hg]; exact X.here
  have hlocals9 : W9 + (maxL + 11) + (headSpec ws rm).room.locals ≤ R.locals := hlocals
  have happ : (headSpec ws rm).appliesLoose y e.platform (U.calling g mk a) = true :=
    Spec.appliesLoose_calling (g := g) h hdg hn hkY hinitY
      (X.room_calling (g := g) (R' := (headSpec ws rm).room) hsize hmY hcY hframes (by rw [hlY]; omega) h4 h5) h1
  obtain ⟨mid, hmid⟩ := h.above
  have hfr : (U.setTop g).frames = (.java g :: mid) ++ below := by rw [State.frames_setTop' g h.top, hmid]; rfl
  obtain ⟨o, s₂, hsteps, -, hend, hq⟩ := Steps.callFree hM p X.admits X.cas X.clock (acts := []) hfr happ hPc trivial
  have hq' : vx_Q Qc XC mc ms free a (U.calling g mk a) o s₂ := hq
  rw [State.frames_setTop' g h.top] at hend
  obtain ⟨g₀, hg0⟩ := Option.isSome_iff_exists.mp h.top
  obtain ⟨r, hr⟩ := State.topJava?_eq_some.mp hg0
  have hr' : (({ U with heap := s₂.heap, slotsUsed := s₂.slotsUsed } : State).setVm s₂.vm).frames = .java g₀ :: r := hr
  rcases hq' with ⟨hqc, L, hfe, hL⟩ | ⟨q, rfl, E, ce, L, hx, hce, hcv, hcl, hW₂, hsm, hL⟩
  · obtain ⟨⟨v, rfl⟩, hW₂, e2, q2, q3, q4, q5, q6⟩ := id hfe
    have e3 : s₂ = ({ (U.calling g mk a).setFrames s₂.frames with heap := s₂.heap, slotsUsed := s₂.slotsUsed } : State).setVm s₂.vm := by
      have : s₂ = ({ s₂ with vm := (U.calling g mk a).vm } : State).setVm s₂.vm := rfl
      rw [e2] at this
      exact this
    obtain ⟨c₂, i₂, len₂, hc₂, hd₂, hf₂⟩ := hend
    have hW' : U.WarmedH s₂.vm := hW₂
    have hcc : c₂ = c := by
      have h1 : s₂.code? g.method = U.code? g.method := by
        rw [State.code?_eq, State.code?_eq, hW'.alike.method?]
      exact Option.some.inj (hc₂.symm.trans (h1.trans h.code))
    subst hcc
    have hlen : len₂ = len := by rw [hdg] at hd₂; cases hd₂; rfl
    subst hlen
    have hs₂ : s₂ = (({ U with heap := s₂.heap, slotsUsed := s₂.slotsUsed } : State).setVm s₂.vm).setTop { g with pc := g.pc + len₂, stack := v.toList ++ g.stack } := by
      refine e3.trans ?_
      rw [hf₂, State.calling_eq h.top, State.setFrames_setFrames, State.setTop_of_frames _ hr', hr]
      rfl
    have hsame : U.sameButNew ({ U with heap := s₂.heap, slotsUsed := s₂.slotsUsed } : State) L mc ms := by
      refine ⟨?_, q2, q3, q4, q5, q6⟩
      obtain ⟨t, ht, -⟩ := State.frames_cons hr
      show ({ U with heap := s₂.heap, slotsUsed := s₂.slotsUsed } : State) = { U.setFrames U.frames with heap := s₂.heap, slotsUsed := s₂.slotsUsed }
      rw [State.setFrames_self ht]
    subst hg
    refine Or.inl ⟨v, ⟨(({ U with heap := s₂.heap, slotsUsed := s₂.slotsUsed } : State).setVm s₂.vm), Ls ++ L, c0 + mc, s0 + ms⟩,
      ⟨X.admits, X.cas, X.clock, X.frames, X.room, X.hears, X.method, X.code, (X.here.setHeapUsed s₂.heap s₂.slotsUsed).setVm hW'.alike, X.tail, State.WarmedH.trans X.warmed hW', X.limits, X.bytes, X.same.trans (hsame.setVm s.vm)⟩,
      ⟨g, mk, s₂, L, rfl, rfl, hqc, rfl, hL, rfl, rfl⟩, ?_⟩
    show Steps p.tables e below _ ((({ U with heap := s₂.heap, slotsUsed := s₂.slotsUsed } : State).setVm s₂.vm).setTop { g with pc := g.pc + len₂, stack := v.toList ++ g.stack })
    rw [← hs₂]
    exact hsteps
  · obtain ⟨e2, q2, q3, q4, q5, q6⟩ := id hsm
    have e3 : s₂ = ({ (U.calling g mk a).setFrames s₂.frames with heap := s₂.heap, slotsUsed := s₂.slotsUsed } : State).setVm s₂.vm := by
      have : s₂ = ({ s₂ with vm := (U.calling g mk a).vm } : State).setVm s₂.vm := rfl
      rw [e2] at this
      exact this
    have hf₂ : s₂.frames = .throwing q :: .java g :: U.frames.tail := hend
    have hW' : U.WarmedH s₂.vm := hW₂
    have hs₂ : s₂ = ((({ U with heap := s₂.heap, slotsUsed := s₂.slotsUsed } : State).setVm s₂.vm).setTop g).pushFrame (.throwing q) := by
      refine e3.trans ?_
      rw [hf₂, State.calling_eq h.top, State.setFrames_setFrames, State.pushFrame, State.frames_setTop _ hr', State.setTop_of_frames _ hr', State.setFrames_setFrames, hr]
      rfl
    have hsame : U.sameButNew ({ U with heap := s₂.heap, slotsUsed := s₂.slotsUsed } : State) L mc ms := by
      refine ⟨?_, q2, q3, q4, q5, q6⟩
      obtain ⟨t, ht, -⟩ := State.frames_cons hr
      show ({ U with heap := s₂.heap, slotsUsed := s₂.slotsUsed } : State) = { U.setFrames U.frames with heap := s₂.heap, slotsUsed := s₂.slotsUsed }
      rw [State.setFrames_self ht]
    subst hg
    refine Or.inr ⟨q, ⟨(({ U with heap := s₂.heap, slotsUsed := s₂.slotsUsed } : State).setVm s₂.vm), Ls ++ L, c0 + mc, s0 + ms⟩,
      ⟨X.admits, X.cas, X.clock, X.frames, X.room, X.hears, X.method, X.code, (X.here.setHeapUsed s₂.heap s₂.slotsUsed).setVm hW'.alike, X.tail, State.WarmedH.trans X.warmed hW', X.limits, X.bytes, X.same.trans (hsame.setVm s.vm)⟩,
      ⟨g, mk, s₂, L, E, ce, rfl, rfl, hx, hce, hcv, hcl, rfl, hL, rfl, rfl⟩, ?_⟩
    show Steps p.tables e below _ (((({ U with heap := s₂.heap, slotsUsed := s₂.slotsUsed } : State).setVm s₂.vm).setTop g).pushFrame (.throwing q))
    rw [← hs₂]
    exact hsteps
end Payer
section Calls
variable {p : Program} {l : Launch} {e : Env} {R : Room} {s : State} {m : MethodId} {args : Array Value} {below : List Frame} {meth : Method} {c : Code} {T : State} {locs : List Loc} {cells slots : Nat}
theorem vx_callV (X : Stand p l e R s m args below meth c T locs cells slots) (hexec : p.tables.exec = Jvm.exec) {own C : String} {index : Nat} {y : MethodName} {bytes : ByteArray} {maxL : Nat} {ret : Option FieldType}
    (hown : s.vm.findClass own = some m.cls) (hlink : (Cond.methodLink own index y).before args s = true) (hinst : (Cond.instanceMethod y).before args s = true) (hsel : (Cond.selects C y y).before args s = true)
    (hcode : (Cond.code y bytes maxL ret).before args s = true) (hy : y.cls ≠ "java/lang/invoke/MethodHandle" ∧ y.cls ≠ "java/lang/invoke/VarHandle")
    {W9 : Nat} {Pre : Pt → Array Value → Prop} {Post : Pt → Array Value → Option Value → Pt → Prop} {PostX : Pt → Array Value → Addr → Pt → Prop} (hK : vx_Back l R p e below s args y 3 W9 Pre Post PostX)
    {b : Addr} {cellB : Cell} (hcell : T.heap[b]? = some cellB) (hobj : cellB.vm.isStatics = false) (hcls : s.vm.findClass C = some cellB.cls)
    {g : JFrame} (hg : g.method = m) (hsize : g.locals.size = c.maxLocals) {argsL rest : List Value} (hlen : ∀ sig, parseMethodDescriptor y.desc = some sig → argsL.length = sig.parameters.length)
    (hstack : g.stack = argsL.reverse ++ .ref b :: rest) (hW : 2 * g.monitorRoom + (rest.map fun v => v.category).sum ≤ W9) (hdg : decode c.code g.pc = .ok (.invokevirtual index, 3))
    (hpre : ∀ vm₁, s.WarmedH vm₁ → Pre ⟨T.setVm vm₁, locs, cells, slots⟩ (Value.ref b :: argsL).toArray) :
    (∃ (v : Option Value) (vm₁ : Vm) (B : Pt), s.WarmedH vm₁ ∧ Stand p l e R s m args below meth c B.U B.locs B.cells B.slots ∧ Post ⟨T.setVm vm₁, locs, cells, slots⟩ (Value.ref b :: argsL).toArray v B ∧
      ∀ target, Steps p.tables e below (B.U.setTop { g with pc := g.pc + 3, stack := v.toList ++ rest }) target → Steps p.tables e below (T.setTop g) target) ∨
    (∃ (q : Addr) (vm₁ : Vm) (B : Pt), s.WarmedH vm₁ ∧ Stand p l e R s m args below meth c B.U B.locs B.cells B.slots ∧ PostX ⟨T.setVm vm₁, locs, cells, slots⟩ (Value.ref b :: argsL).toArray q B ∧
      Steps p.tables e below (T.setTop g) ((B.U.setTop { g with stack := rest }).pushFrame (.throwing q))) := by
  obtain ⟨mk, methM, hnamed, hmethM, hstM, habM⟩ := Cond.instanceMethod_spec hinst
  obtain ⟨methM', cM, hmethM', -, -, -, -, -, -, hsigM⟩ := Cond.code_spec hnamed hcode
  cases hmethM.symm.trans hmethM'
  obtain ⟨c2, r2, m2, q1, q2, q3, q4, kP, hkP, hkPi⟩ := Cond.selects_spec hsel
  cases hcls.symm.trans q1
  cases (State.methodFound?_of_named hnamed hy).symm.trans q2
  cases hnamed.symm.trans q3
  have hselP : selectMethod e.platform s.vm cellB.cls mk = .method mk := by rw [Launch.admits_selectMethod X.admits]; exact q4
  obtain ⟨vm₁, X₁, hstep₁⟩ := X.invokevirtual hexec hown hlink hnamed hmethM hstM hkP hkPi hy (a := b) (cell := cellB) hcell
    (fun z h => by rw [h] at hobj; cases hobj) hselP hmethM habM hkP hkPi (g := g) hg (argsL := argsL) (rest := rest) (hlen _ hsigM) hstack hdg
  rcases hK m meth c ⟨T.setVm vm₁, locs, cells, slots⟩ { g with stack := rest } (.invokevirtual index) mk (Value.ref b :: argsL).toArray X₁ hg hsize hdg hW (X₁.named hnamed) (hpre vm₁ X₁.warmed) with ⟨v, B, X', hpost, hsteps⟩ | ⟨q, B, X', hpost, hsteps⟩
  · exact Or.inl ⟨v, vm₁, B, X₁.warmed, X', hpost, fun target h => hstep₁ _ fun acts => by rw [doInvoke_state]; exact hsteps.trans h⟩
  · exact Or.inr ⟨q, vm₁, B, X₁.warmed, X', hpost, hstep₁ _ fun acts => by rw [doInvoke_state]; exact hsteps⟩
theorem vx_callS (X : Stand p l e R s m args below meth c T locs cells slots) (hexec : p.tables.exec = Jvm.exec) {own : String} {index : Nat} {y : MethodName} {bytes : ByteArray} {maxL : Nat} {ret : Option FieldType}
    (hown : s.vm.findClass own = some m.cls) (hlink : (Cond.methodLink own index y).before args s = true) (hstat : (Cond.static y).before args s = true) (hinit : (Cond.initialized y.cls).before args s = true)
    (hcode : (Cond.code y bytes maxL ret).before args s = true) (hy : y.cls ≠ "java/lang/invoke/MethodHandle" ∧ y.cls ≠ "java/lang/invoke/VarHandle")
    {W9 : Nat} {Pre : Pt → Array Value → Prop} {Post : Pt → Array Value → Option Value → Pt → Prop} {PostX : Pt → Array Value → Addr → Pt → Prop} (hK : vx_Back l R p e below s args y 3 W9 Pre Post PostX)
    {g : JFrame} (hg : g.method = m) (hsize : g.locals.size = c.maxLocals) {argsL rest : List Value} (hlen : ∀ sig, parseMethodDescriptor y.desc = some sig → argsL.length = sig.parameters.length)
    (hstack : g.stack = argsL.reverse ++ rest) (hW : 2 * g.monitorRoom + (rest.map fun v => v.category).sum ≤ W9) (hdg : decode c.code g.pc = .ok (.invokestatic index, 3))
    (hpre : ∀ vm₁, s.WarmedH vm₁ → Pre ⟨T.setVm vm₁, locs, cells, slots⟩ argsL.toArray) :
    (∃ (v : Option Value) (vm₁ : Vm) (B : Pt), s.WarmedH vm₁ ∧ Stand p l e R s m args below meth c B.U B.locs B.cells B.slots ∧ Post ⟨T.setVm vm₁, locs, cells, slots⟩ argsL.toArray v B ∧
      ∀ target, Steps p.tables e below (B.U.setTop { g with pc := g.pc + 3, stack := v.toList ++ rest }) target → Steps p.tables e below (T.setTop g) target) ∨
    (∃ (q : Addr) (vm₁ : Vm) (B : Pt), s.WarmedH vm₁ ∧ Stand p l e R s m args below meth c B.U B.locs B.cells B.slots ∧ PostX ⟨T.setVm vm₁, locs, cells, slots⟩ argsL.toArray q B ∧
      Steps p.tables e below (T.setTop g) ((B.U.setTop { g with stack := rest }).pushFrame (.throwing q))) := by
  obtain ⟨mk, hnamed⟩ := Cond.code_named hcode
  obtain ⟨methM, cM, hmethM, -, -, -, -, -, -, hsigM⟩ := Cond.code_spec hnamed hcode
  have hstatic : methM.isStatic = true := Cond.static_spec hnamed hmethM hstat
  obtain ⟨kP, hkP, -⟩ := className_of_methodNamed hnamed
  have hinitP : kP.init = .initialized := Cond.initialized_spec (findClass_of_methodNamed hnamed) hkP hinit
  obtain ⟨vm₁, X₁, hstep₁⟩ := X.invokestatic hexec hown hlink hnamed hmethM hstatic hkP hinitP hy (g := g) hg (argsL := argsL) (rest := rest) (hlen _ hsigM) hstack hdg
  rcases hK m meth c ⟨T.setVm vm₁, locs, cells, slots⟩ { g with stack := rest } (.invokestatic index) mk argsL.toArray X₁ hg hsize hdg hW (X₁.named hnamed) (hpre vm₁ X₁.warmed) with ⟨v, B, X', hpost, hsteps⟩ | ⟨q, B, X', hpost, hsteps⟩
  · exact Or.inl ⟨v, vm₁, B, X₁.warmed, X', hpost, fun target h => hstep₁ _ fun acts => by rw [doInvoke_state]; exact hsteps.trans h⟩
  · exact Or.inr ⟨q, vm₁, B, X₁.warmed, X', hpost, hstep₁ _ fun acts => by rw [doInvoke_state]; exact hsteps⟩
end Calls
theorem vx_cls {s : State} {T : State} {vm₁ : Vm} {E : String} {k : ClassId} (hW : s.WarmedH vm₁) (h : (T.setVm vm₁).vm.findClass E = some k) : s.vm.findClass E = some k := by
  have h1 : vm₁.findClass E = some k := h
  rw [hW.alike.findClass] at h1
  exact h1
/-- the method's frame g, with q thrown over it -/
def vx_W (p : Program) (l : Launch) (e : Env) (R : Room) (s : State) (m : MethodId) (args : Array Value) (below : List Frame) (meth : Method) (c : Code) (H : Heap) (locs : List Loc) (cells slots : Nat) (Q : State → Prop) (g : JFrame) (q : Addr) : Prop :=
  ∀ T : State, T.heap = H → Stand p l e R s m args below meth c T locs cells slots → ∃ t, Steps p.tables e below ((T.setTop g).pushFrame (.throwing q)) t ∧ Q t
def vx_Run (p : Program) (l : Launch) (e : Env) (R : Room) (s : State) (m : MethodId) (args : Array Value) (below : List Frame) (meth : Method) (c : Code) (H : Heap) (locs : List Loc) (cells slots mc ms : Nat) (g : JFrame) (rest : List Value) (Qa : State → Outcome → State → Prop) (XC : String → State → State → Prop) (free : Addr → Prop) : Prop :=
  ∀ T : State, T.heap = H → Stand p l e R s m args below meth c T locs cells slots →
    (∃ (v : Option Value) (st₀ t T' : State) (L : List Loc), st₀.heap = H ∧ Stand p l e R s m args below meth c T' (locs ++ L) (cells + mc) (slots + ms) ∧ (∀ q ∈ L, free q.base) ∧ T'.heap = t.heap ∧ T'.vm = t.vm ∧ Qa st₀ (.returned v) t ∧
      Goes p e below T g T' { g with pc := g.pc + 3, stack := v.toList ++ rest }) ∨
    (∃ (q : Addr) (st₀ t T' : State) (L : List Loc) (E : String) (ce : Cell), st₀.heap = H ∧ Stand p l e R s m args below meth c T' (locs ++ L) (cells + mc) (slots + ms) ∧ (∀ z ∈ L, free z.base) ∧ T'.heap = t.heap ∧ T'.vm = t.vm ∧ XC E st₀ t ∧ t.heap[q]? = some ce ∧ ce.vm = .none ∧ s.vm.findClass E = some ce.cls ∧
      Steps p.tables e below (T.setTop g) ((T'.setTop { g with stack := rest }).pushFrame (.throwing q)))
def vx_X {S : Type} (px : S → Prop) (B : String → S → State → Prop) (A : Nat → Prop) : String → State → State → Prop := fun E st t => ∃ u : S, px u ∧ B E u t ∧ va_F A st t
section Runs
variable {p : Program} {l : Launch} {e : Env} {R : Room} {s : State} {m : MethodId} {args : Array Value} {below : List Frame} {meth : Method} {c : Code} {H : Heap} {locs : List Loc} {cells slots : Nat}
variable {y : MethodName} {bytes cc : ByteArray} {maxL nL mc ms n index : Nat} {ret : Option FieldType} {ws : List Cond} {rm : Room} {Pc : Array Value → State → Prop} {Qc : Array Value → State → Outcome → State → Prop} {XC : String → State → State → Prop} {free : Addr → Prop} {Ts : List Cond} {own C : String} {b : Addr} {As rest : List Value} {g : JFrame}
theorem vx_callBack (cb : CallB R s args own index y bytes maxL ret ws rm mc ms n) (hM : vx_Met l y ws rm Pc Qc XC mc ms free) (hbl : FrameBlind Pc) : vx_Back l R p e below s args y 3 8 (PreOf R mc ms Pc) (PostOf Qc mc ms free) (vx_Post XC mc ms free) := by
  obtain ⟨hrc, hrs, hfr, hlo, hws, hcw, -, hini, -⟩ := cb
  exact vx_back (bytes := bytes) (maxL := maxL) (ret := ret) hM hbl hrc hrs hfr hlo hws hcw (fun a' U hW => word_at hW (Or.inl (by first | rfl | simp [Cond.onTables, Cond.keeps, Cond.steady])) hini)
theorem vx_runV (S : CallFix p m c cc nL s args Ts own) (hM : vx_Met l y ws rm Pc Qc XC mc ms free) (cw : CallW R s args own C index y bytes maxL ret ws rm mc ms n) (hp : PreV s H C b Pc As)
    (hg : g.method = m) (hn : As.length = n) (hsize : g.locals.size = nL) (hstack : g.stack = As.reverse ++ .ref b :: rest) (hW : 2 * g.monitorRoom + (rest.map fun v => v.category).sum ≤ 8) (hdg : decode cc g.pc = .ok (.invokevirtual index, 3)) (hf : cells + mc ≤ R.cells ∧ slots + ms ≤ R.slots) :
    vx_Run p l e R s m args below meth c H locs cells slots mc ms g rest (Qc (Value.ref b :: As).toArray) XC free := by
  have hK : vx_Back l R p e below s args y 3 8 (PreOf R mc ms Pc) (PostOf Qc mc ms free) (vx_Post XC mc ms free) := vx_callBack cw.1 hM hp.1
  obtain ⟨⟨-, -, -, -, -, -, hcode, -, hy, hlen, hl⟩, hin, hse⟩ := cw
  obtain ⟨hx, hb, hml, ho, -⟩ := S
  obtain ⟨-, ⟨cellB, hcB, hoB, hclB⟩, hPc⟩ := hp
  intro T hT X
  rcases vx_callV X hx (C := C) (bytes := bytes) (maxL := maxL) (ret := ret) ho hl hin hse hcode hy hK (by rw [hT]; exact hcB) hoB hclB hg (hsize.trans hml.symm) (argsL := As) (rest := rest) (fun sig h => hn.trans (hlen sig h)) hstack hW (by rw [hb]; exact hdg)
    (fun vm₁ hW₁ => ⟨hf.1, hf.2, hPc (T.setVm vm₁) hT hW₁⟩) with ⟨v, vm₁, ⟨U', l2, c2, s2⟩, hW₁, X', ⟨g', mk, t, L, e1, e2, hq, h1, hL, h2, h3⟩, st⟩ | ⟨q, vm₁, ⟨U', l2, c2, s2⟩, hW₁, X', ⟨g', mk, t, L, E, ce, e1, e2, hq, hce, hcv, hcl, h1, hL, h2, h3⟩, st⟩
  · dsimp only [Pt.U, Pt.locs, Pt.cells, Pt.slots] at X' e1 e2 h1 h2 h3 st
    subst h1; subst h2; subst h3
    exact Or.inl ⟨v, (T.setVm vm₁).calling g' mk (Value.ref b :: As).toArray, t, U', L, hT, X', hL, e1, e2, hq, st⟩
  · dsimp only [Pt.U, Pt.locs, Pt.cells, Pt.slots] at X' e1 e2 h1 h2 h3 st hcl
    subst h1; subst h2; subst h3
    exact Or.inr ⟨q, (T.setVm vm₁).calling g' mk (Value.ref b :: As).toArray, t, U', L, E, ce, hT, X', hL, e1, e2, hq, hce, hcv, vx_cls hW₁ hcl, st⟩
theorem vx_runS (S : CallFix p m c cc nL s args Ts own) (hM : vx_Met l y ws rm Pc Qc XC mc ms free) (cw : CallB R s args own index y bytes maxL ret ws rm mc ms n ∧ (Cond.static y).before args s = true) (hp : PreS s H Pc As)
    (hg : g.method = m) (hn : As.length = n) (hsize : g.locals.size = nL) (hstack : g.stack = As.reverse ++ rest) (hW : 2 * g.monitorRoom + (rest.map fun v => v.category).sum ≤ 8) (hdg : decode cc g.pc = .ok (.invokestatic index, 3)) (hf : cells + mc ≤ R.cells ∧ slots + ms ≤ R.slots) :
    vx_Run p l e R s m args below meth c H locs cells slots mc ms g rest (Qc As.toArray) XC free := by
  have hK : vx_Back l R p e below s args y 3 8 (PreOf R mc ms Pc) (PostOf Qc mc ms free) (vx_Post XC mc ms free) := vx_callBack cw.1 hM hp.1
  obtain ⟨⟨-, -, -, -, -, -, hcode, hini, hy, hlen, hl⟩, hstt⟩ := cw
  obtain ⟨hx, hb, hml, ho, -⟩ := S
  intro T hT X
  rcases vx_callS X hx (bytes := bytes) (maxL := maxL) (ret := ret) ho hl hstt hini hcode hy hK hg (hsize.trans hml.symm) (argsL := As) (rest := rest) (fun sig h => hn.trans (hlen sig h)) hstack hW (by rw [hb]; exact hdg)
    (fun vm₁ hW₁ => ⟨hf.1, hf.2, hp.2 (T.setVm vm₁) hT hW₁⟩) with ⟨v, vm₁, ⟨U', l2, c2, s2⟩, hW₁, X', ⟨g', mk, t, L, e1, e2, hq, h1, hL, h2, h3⟩, st⟩ | ⟨q, vm₁, ⟨U', l2, c2, s2⟩, hW₁, X', ⟨g', mk, t, L, E, ce, e1, e2, hq, hce, hcv, hcl, h1, hL, h2, h3⟩, st⟩
  · dsimp only [Pt.U, Pt.locs, Pt.cells, Pt.slots] at X' e1 e2 h1 h2 h3 st
    subst h1; subst h2; subst h3
    exact Or.inl ⟨v, (T.setVm vm₁).calling g' mk As.toArray, t, U', L, hT, X', hL, e1, e2, hq, st⟩
  · dsimp only [Pt.U, Pt.locs, Pt.cells, Pt.slots] at X' e1 e2 h1 h2 h3 st hcl
    subst h1; subst h2; subst h3
    exact Or.inr ⟨q, (T.setVm vm₁).calling g' mk As.toArray, t, U', L, E, ce, hT, X', hL, e1, e2, hq, hce, hcv, vx_cls hW₁ hcl, st⟩
end Runs
section Rows
variable {p : Program} {l : Launch} {e : Env} {R : Room} {s : State} {m : MethodId} {args : Array Value} {below : List Frame} {meth : Method} {c : Code} {H : Heap} {locs : List Loc} {cells slots : Nat} {Q : State → Prop}
variable {mc ms : Nat} {free : Addr → Prop} {A0 A1 : Nat → Prop} {H0 : Heap} {a : Array Value} {pc : Nat} {ls : Array Slot} {st0 rest : List Value}
theorem vx_keep {st₀ t T' : State} {L : List Loc} (h0 : st₀.heap = H) (e1 : T'.heap = t.heap) (hS : va_S A0 H0 H locs) (hA : ∀ q, q < H.size → A1 q → A0 q) (hf : ∀ q, free q → A0 q) (hL : ∀ q ∈ L, free q.base) (hF : va_F A1 st₀ t) :
    H.size ≤ T'.heap.size ∧ (∀ q : Nat, q < H.size → ¬ A1 q → T'.heap[q]? = H[q]?) ∧ va_S A0 H0 T'.heap (locs ++ L) := by
  obtain ⟨hz, hk⟩ := hF
  rw [h0] at hz hk
  exact ⟨by rw [e1]; exact hz, fun q h1 h2 => by rw [e1]; exact hk q h1 h2,
    ⟨Nat.le_trans hS.1 (by rw [e1]; exact hz), fun q h1 h2 => by rw [e1, hk q (Nat.lt_of_lt_of_le h1 hS.1) (fun z => h2 (hA q (Nat.lt_of_lt_of_le h1 hS.1) z))]; exact hS.2.1 q h1 h2, fun q hq => by
      rcases List.mem_append.mp hq with h | h
      · exact hS.2.2 q h
      · exact hf _ (hL q h)⟩⟩
theorem vx_calli {S SX : Type} {post : Int32 → S → Prop} {px : SX → Prop} {B : S → State → Prop} {BX : String → SX → State → Prop} {AX : Nat → Prop} (hr : vx_Run p l e R s m args below meth c H locs cells slots mc ms (F0 m pc ls st0) rest (va_Qi post B A1 a) (vx_X px BX AX) free) (hS : va_S A0 H0 H locs) (hA : ∀ q, q < H.size → A1 q → A0 q) (hf : ∀ q, free q → A0 q) (hAX : ∀ q, q < H.size → AX q → A0 q)
    (kx : ∀ (E : String) (ce : Cell) (q9 : Addr) (u : SX) (t : State) (H1 : Heap) (locs1 : List Loc), t.heap = H1 → s.vm.Alike t.vm → px u → BX E u t → H.size ≤ H1.size → (∀ q : Nat, q < H.size → ¬ AX q → H1[q]? = H[q]?) → va_S A0 H0 H1 locs1 → H1[q9]? = some ce → ce.vm = .none → s.vm.findClass E = some ce.cls → vx_W p l e R s m args below meth c H1 locs1 (cells + mc) (slots + ms) Q (F0 m pc ls rest) q9)
    (kk : ∀ (r : Int32) (u : S) (t : State) (H1 : Heap) (locs1 : List Loc), t.heap = H1 → s.vm.Alike t.vm → post r u → B u t → H.size ≤ H1.size → (∀ q : Nat, q < H.size → ¬ A1 q → H1[q]? = H[q]?) → va_S A0 H0 H1 locs1 → W p l e R s m args below meth c H1 locs1 (cells + mc) (slots + ms) Q (F0 m (pc + 3) ls (.int r :: rest))) : W p l e R s m args below meth c H locs cells slots Q (F0 m pc ls st0) := by
  intro T hT X
  rcases hr T hT X with ⟨v, st₀, t, T', L, h0, X', hL, e1, e2, ⟨⟨r, u, hv, hp, hb⟩, hF⟩, st⟩ | ⟨q, st₀, t, T', L, E, ce, h0, X', hL, e1, e2, ⟨u, hp, hb, hF⟩, hce, hcv, hcl, st⟩
  · cases hv
    obtain ⟨k1, k2, k3⟩ := vx_keep h0 e1 hS hA hf hL hF
    obtain ⟨t2, a1, b1⟩ := kk r u t T'.heap (locs ++ L) e1.symm (by rw [← e2]; exact X'.warmed.alike) hp hb k1 k2 k3 T' rfl X'
    exact ⟨t2, st t2 a1, b1⟩
  · obtain ⟨k1, k2, k3⟩ := vx_keep h0 e1 hS hAX hf hL hF
    obtain ⟨t2, a1, b1⟩ := kx E ce q u t T'.heap (locs ++ L) e1.symm (by rw [← e2]; exact X'.warmed.alike) hp hb k1 k2 k3 (by rw [e1]; exact hce) hcv hcl T' rfl X'
    exact ⟨t2, st.trans a1, b1⟩
theorem vx_calll {S SX : Type} {post : Int64 → S → Prop} {px : SX → Prop} {B : S → State → Prop} {BX : String → SX → State → Prop} {AX : Nat → Prop} (hr : vx_Run p l e R s m args below meth c H locs cells slots mc ms (F0 m pc ls st0) rest (va_Ql post B A1 a) (vx_X px BX AX) free) (hS : va_S A0 H0 H locs) (hA : ∀ q, q < H.size → A1 q → A0 q) (hf : ∀ q, free q → A0 q) (hAX : ∀ q, q < H.size → AX q → A0 q)
    (kx : ∀ (E : String) (ce : Cell) (q9 : Addr) (u : SX) (t : State) (H1 : Heap) (locs1 : List Loc), t.heap = H1 → s.vm.Alike t.vm → px u → BX E u t → H.size ≤ H1.size → (∀ q : Nat, q < H.size → ¬ AX q → H1[q]? = H[q]?) → va_S A0 H0 H1 locs1 → H1[q9]? = some ce → ce.vm = .none → s.vm.findClass E = some ce.cls → vx_W p l e R s m args below meth c H1 locs1 (cells + mc) (slots + ms) Q (F0 m pc ls rest) q9)
    (kk : ∀ (r : Int64) (u : S) (t : State) (H1 : Heap) (locs1 : List Loc), t.heap = H1 → s.vm.Alike t.vm → post r u → B u t → H.size ≤ H1.size → (∀ q : Nat, q < H.size → ¬ A1 q → H1[q]? = H[q]?) → va_S A0 H0 H1 locs1 → W p l e R s m args below meth c H1 locs1 (cells + mc) (slots + ms) Q (F0 m (pc + 3) ls (.long r :: rest))) : W p l e R s m args below meth c H locs cells slots Q (F0 m pc ls st0) := by
  intro T hT X
  rcases hr T hT X with ⟨v, st₀, t, T', L, h0, X', hL, e1, e2, ⟨⟨r, u, hv, hp, hb⟩, hF⟩, st⟩ | ⟨q, st₀, t, T', L, E, ce, h0, X', hL, e1, e2, ⟨u, hp, hb, hF⟩, hce, hcv, hcl, st⟩
  · cases hv
    obtain ⟨k1, k2, k3⟩ := vx_keep h0 e1 hS hA hf hL hF
    obtain ⟨t2, a1, b1⟩ := kk r u t T'.heap (locs ++ L) e1.symm (by rw [← e2]; exact X'.warmed.alike) hp hb k1 k2 k3 T' rfl X'
    exact ⟨t2, st t2 a1, b1⟩
  · obtain ⟨k1, k2, k3⟩ := vx_keep h0 e1 hS hAX hf hL hF
    obtain ⟨t2, a1, b1⟩ := kx E ce q u t T'.heap (locs ++ L) e1.symm (by rw [← e2]; exact X'.warmed.alike) hp hb k1 k2 k3 (by rw [e1]; exact hce) hcv hcl T' rfl X'
    exact ⟨t2, st.trans a1, b1⟩
theorem vx_callf {S SX : Type} {post : UInt32 → S → Prop} {px : SX → Prop} {B : S → State → Prop} {BX : String → SX → State → Prop} {AX : Nat → Prop} (hr : vx_Run p l e R s m args below meth c H locs cells slots mc ms (F0 m pc ls st0) rest (va_Qf post B A1 a) (vx_X px BX AX) free) (hS : va_S A0 H0 H locs) (hA : ∀ q, q < H.size → A1 q → A0 q) (hf : ∀ q, free q → A0 q) (hAX : ∀ q, q < H.size → AX q → A0 q)
    (kx : ∀ (E : String) (ce : Cell) (q9 : Addr) (u : SX) (t : State) (H1 : Heap) (locs1 : List Loc), t.heap = H1 → s.vm.Alike t.vm → px u → BX E u t → H.size ≤ H1.size → (∀ q : Nat, q < H.size → ¬ AX q → H1[q]? = H[q]?) → va_S A0 H0 H1 locs1 → H1[q9]? = some ce → ce.vm = .none → s.vm.findClass E = some ce.cls → vx_W p l e R s m args below meth c H1 locs1 (cells + mc) (slots + ms) Q (F0 m pc ls rest) q9)
    (kk : ∀ (r : UInt32) (u : S) (t : State) (H1 : Heap) (locs1 : List Loc), t.heap = H1 → s.vm.Alike t.vm → post r u → B u t → H.size ≤ H1.size → (∀ q : Nat, q < H.size → ¬ A1 q → H1[q]? = H[q]?) → va_S A0 H0 H1 locs1 → W p l e R s m args below meth c H1 locs1 (cells + mc) (slots + ms) Q (F0 m (pc + 3) ls (.float r :: rest))) : W p l e R s m args below meth c H locs cells slots Q (F0 m pc ls st0) := by
  intro T hT X
  rcases hr T hT X with ⟨v, st₀, t, T', L, h0, X', hL, e1, e2, ⟨⟨r, u, hv, hp, hb⟩, hF⟩, st⟩ | ⟨q, st₀, t, T', L, E, ce, h0, X', hL, e1, e2, ⟨u, hp, hb, hF⟩, hce, hcv, hcl, st⟩
  · cases hv
    obtain ⟨k1, k2, k3⟩ := vx_keep h0 e1 hS hA hf hL hF
    obtain ⟨t2, a1, b1⟩ := kk r u t T'.heap (locs ++ L) e1.symm (by rw [← e2]; exact X'.warmed.alike) hp hb k1 k2 k3 T' rfl X'
    exact ⟨t2, st t2 a1, b1⟩
  · obtain ⟨k1, k2, k3⟩ := vx_keep h0 e1 hS hAX hf hL hF
    obtain ⟨t2, a1, b1⟩ := kx E ce q u t T'.heap (locs ++ L) e1.symm (by rw [← e2]; exact X'.warmed.alike) hp hb k1 k2 k3 (by rw [e1]; exact hce) hcv hcl T' rfl X'
    exact ⟨t2, st.trans a1, b1⟩
theorem vx_calld {S SX : Type} {post : UInt64 → S → Prop} {px : SX → Prop} {B : S → State → Prop} {BX : String → SX → State → Prop} {AX : Nat → Prop} (hr : vx_Run p l e R s m args below meth c H locs cells slots mc ms (F0 m pc ls st0) rest (va_Qd post B A1 a) (vx_X px BX AX) free) (hS : va_S A0 H0 H locs) (hA : ∀ q, q < H.size → A1 q → A0 q) (hf : ∀ q, free q → A0 q) (hAX : ∀ q, q < H.size → AX q → A0 q)
    (kx : ∀ (E : String) (ce : Cell) (q9 : Addr) (u : SX) (t : State) (H1 : Heap) (locs1 : List Loc), t.heap = H1 → s.vm.Alike t.vm → px u → BX E u t → H.size ≤ H1.size → (∀ q : Nat, q < H.size → ¬ AX q → H1[q]? = H[q]?) → va_S A0 H0 H1 locs1 → H1[q9]? = some ce → ce.vm = .none → s.vm.findClass E = some ce.cls → vx_W p l e R s m args below meth c H1 locs1 (cells + mc) (slots + ms) Q (F0 m pc ls rest) q9)
    (kk : ∀ (r : UInt64) (u : S) (t : State) (H1 : Heap) (locs1 : List Loc), t.heap = H1 → s.vm.Alike t.vm → post r u → B u t → H.size ≤ H1.size → (∀ q : Nat, q < H.size → ¬ A1 q → H1[q]? = H[q]?) → va_S A0 H0 H1 locs1 → W p l e R s m args below meth c H1 locs1 (cells + mc) (slots + ms) Q (F0 m (pc + 3) ls (.double r :: rest))) : W p l e R s m args below meth c H locs cells slots Q (F0 m pc ls st0) := by
  intro T hT X
  rcases hr T hT X with ⟨v, st₀, t, T', L, h0, X', hL, e1, e2, ⟨⟨r, u, hv, hp, hb⟩, hF⟩, st⟩ | ⟨q, st₀, t, T', L, E, ce, h0, X', hL, e1, e2, ⟨u, hp, hb, hF⟩, hce, hcv, hcl, st⟩
  · cases hv
    obtain ⟨k1, k2, k3⟩ := vx_keep h0 e1 hS hA hf hL hF
    obtain ⟨t2, a1, b1⟩ := kk r u t T'.heap (locs ++ L) e1.symm (by rw [← e2]; exact X'.warmed.alike) hp hb k1 k2 k3 T' rfl X'
    exact ⟨t2, st t2 a1, b1⟩
  · obtain ⟨k1, k2, k3⟩ := vx_keep h0 e1 hS hAX hf hL hF
    obtain ⟨t2, a1, b1⟩ := kx E ce q u t T'.heap (locs ++ L) e1.symm (by rw [← e2]; exact X'.warmed.alike) hp hb k1 k2 k3 (by rw [e1]; exact hce) hcv hcl T' rfl X'
    exact ⟨t2, st.trans a1, b1⟩
theorem vx_callv {S SX : Type} {post : S → Prop} {px : SX → Prop} {B : S → State → Prop} {BX : String → SX → State → Prop} {AX : Nat → Prop} (hr : vx_Run p l e R s m args below meth c H locs cells slots mc ms (F0 m pc ls st0) rest (va_Qv post B A1 a) (vx_X px BX AX) free) (hS : va_S A0 H0 H locs) (hA : ∀ q, q < H.size → A1 q → A0 q) (hf : ∀ q, free q → A0 q) (hAX : ∀ q, q < H.size → AX q → A0 q)
    (kx : ∀ (E : String) (ce : Cell) (q9 : Addr) (u : SX) (t : State) (H1 : Heap) (locs1 : List Loc), t.heap = H1 → s.vm.Alike t.vm → px u → BX E u t → H.size ≤ H1.size → (∀ q : Nat, q < H.size → ¬ AX q → H1[q]? = H[q]?) → va_S A0 H0 H1 locs1 → H1[q9]? = some ce → ce.vm = .none → s.vm.findClass E = some ce.cls → vx_W p l e R s m args below meth c H1 locs1 (cells + mc) (slots + ms) Q (F0 m pc ls rest) q9)
    (kk : ∀ (u : S) (t : State) (H1 : Heap) (locs1 : List Loc), t.heap = H1 → s.vm.Alike t.vm → post u → B u t → H.size ≤ H1.size → (∀ q : Nat, q < H.size → ¬ A1 q → H1[q]? = H[q]?) → va_S A0 H0 H1 locs1 → W p l e R s m args below meth c H1 locs1 (cells + mc) (slots + ms) Q (F0 m (pc + 3) ls (rest))) : W p l e R s m args below meth c H locs cells slots Q (F0 m pc ls st0) := by
  intro T hT X
  rcases hr T hT X with ⟨v, st₀, t, T', L, h0, X', hL, e1, e2, ⟨⟨u, hv, hp, hb⟩, hF⟩, st⟩ | ⟨q, st₀, t, T', L, E, ce, h0, X', hL, e1, e2, ⟨u, hp, hb, hF⟩, hce, hcv, hcl, st⟩
  · cases hv
    obtain ⟨k1, k2, k3⟩ := vx_keep h0 e1 hS hA hf hL hF
    obtain ⟨t2, a1, b1⟩ := kk u t T'.heap (locs ++ L) e1.symm (by rw [← e2]; exact X'.warmed.alike) hp hb k1 k2 k3 T' rfl X'
    exact ⟨t2, st t2 a1, b1⟩
  · obtain ⟨k1, k2, k3⟩ := vx_keep h0 e1 hS hAX hf hL hF
    obtain ⟨t2, a1, b1⟩ := kx E ce q u t T'.heap (locs ++ L) e1.symm (by rw [← e2]; exact X'.warmed.alike) hp hb k1 k2 k3 (by rw [e1]; exact hce) hcv hcl T' rfl X'
    exact ⟨t2, st.trans a1, b1⟩
/-- caught by the row x of this method's table; the rows ahead don't take it -/
theorem vx_catch {own name : String} {E : String} {ce : Cell} {q : Addr} (hown : s.vm.findClass own = some m.cls) (pre : List ExceptionTableEntry) (x : ExceptionTableEntry) (suf : List ExceptionTableEntry) (hsplit : c.exceptionTable.toList = pre ++ x :: suf)
    (hpass : ∀ z ∈ pre, covers z pc = false ∨ (z.catchType ≠ 0 ∧ ∃ nm : String, (Cond.classLink own z.catchType nm).before args s = true ∧ va_Nc E nm s)) (hx : covers x pc = true) (h0 : x.catchType ≠ 0)
    (hlink : (Cond.classLink own x.catchType name).before args s = true) (hcast : (Cond.castable E name).before args s = true) (hcell : H[q]? = some ce) (hv : ce.vm = .none) (hcl : s.vm.findClass E = some ce.cls)
    (kk : W p l e R s m args below meth c H locs cells slots Q (F0 m x.handlerPc ls [.ref q])) : vx_W p l e R s m args below meth c H locs cells slots Q (F0 m pc ls rest) q := by
  intro T hT X
  have hpl : e.platform.magicAccessors = ({} : Platform).magicAccessors := by rw [X.admits.platform]
  obtain ⟨c3, c4, hc3, hc4, hasg⟩ := Cond.castable_spec hcast
  cases Option.some.inj (hc3.symm.trans hcl)
  obtain ⟨c5, hc5, hcl5⟩ := Cond.classLink_spec hown hlink e.platform hpl
  cases Option.some.inj (hc4.symm.trans hc5)
  obtain ⟨vm', X', st⟩ := X.thenCaughtThrough q (g := F0 m pc ls rest) rfl (Steps.refl _) (by rw [hT]; exact hcell) (by rw [hv]; rfl) (by obtain ⟨k9, h9, -⟩ := Vm.findClass_spec hcl; exact ⟨k9, h9⟩) pre x suf hsplit
    (fun z hz => by
      rcases hpass z hz with h | ⟨hz0, nm, hl1, hn1⟩
      · exact Or.inl h
      · obtain ⟨c6, hc6, hcl6⟩ := Cond.classLink_spec hown hl1 e.platform hpl
        obtain ⟨a8, b8, h1, h2, h3⟩ := hn1
        cases Option.some.inj (h1.symm.trans hcl)
        cases Option.some.inj (h2.symm.trans hc6)
        exact Or.inr ⟨hz0, _, hcl6, h3⟩) hx (Or.inr ⟨h0, c4, hcl5, hasg⟩)
  obtain ⟨t, a1, b1⟩ := kk (T.setVm vm') hT X'
  exact ⟨t, st.trans a1, b1⟩
end Rows
section Ends
variable {p : Program} {l : Launch} {e : Env} {R : Room} {s : State} {m : MethodId} {args : Array Value} {below : List Frame} {meth : Method} {c : Code} {H : Heap} {locs : List Loc} {cells slots : Nat} {Q : State → Prop}
variable {mc ms : Nat} {free : Addr → Prop} {A0 A1 : Nat → Prop} {H0 : Heap} {a : Array Value} {ls : Array Slot} {st0 rest : List Value}
variable {Qc : Array Value → State → Outcome → State → Prop} {XC : String → State → State → Prop}
/-- what a body that may throw owes at its end -/
def vx_MQ (below : List Frame) (Qc : Array Value → State → Outcome → State → Prop) (XC : String → State → State → Prop) (a : Array Value) (s : State) (mc ms : Nat) (free : Addr → Prop) : State → Prop := fun t =>
  ∃ o, t.status = .running ∧ Ended t below o ∧ vx_Q Qc XC mc ms free a s o t
theorem vx_ret {g : JFrame} {mc ms : Nat} (k : W p l e R s m args below meth c H locs cells slots (MQ below Qc args s mc ms free) g) : W p l e R s m args below meth c H locs cells slots (vx_MQ below Qc XC args s mc ms free) g := by
  intro T hT X
  obtain ⟨t, a1, o, b1, b2, b3, b4⟩ := k T hT X
  exact ⟨t, a1, o, b1, b2, Or.inl ⟨b3, b4⟩⟩
/-- not caught here: it goes on to the caller -/
theorem vx_widen {g : JFrame} {q : Addr} {k n : Nat} (h1 : cells ≤ k) (h2 : slots ≤ n) (kk : vx_W p l e R s m args below meth c H locs k n Q g q) : vx_W p l e R s m args below meth c H locs cells slots Q g q := fun T hT X => kk T hT (stand_widen X h1 h2)
theorem vx_out {pc : Nat} {E : String} {ce : Cell} {q : Addr} {mc ms : Nat} (hout : ∀ x ∈ c.exceptionTable.toList, covers x pc = false) (hlocks : meth.locks = false) (hcell : H[q]? = some ce) (hv : ce.vm = .none) (hcl : s.vm.findClass E = some ce.cls)
    (hx : ∀ t : State, t.heap = H → s.vm.Alike t.vm → XC E s t) (hf : ∀ z ∈ locs, free z.base) (hc : cells ≤ mc) (hs : slots ≤ ms) :
    vx_W p l e R s m args below meth c H locs cells slots (vx_MQ below Qc XC args s mc ms free) (F0 m pc ls rest) q := by
  intro T hT X
  obtain ⟨st1, hrun, hend, hW, hsm⟩ := X.leaveThrown q (g := F0 m pc ls rest) rfl rfl rfl hout hlocks
  have hcell9 : (T.setFrames (.throwing q :: below)).heap[q]? = some ce := by
    show T.heap[q]? = some ce
    rw [hT]; exact hcell
  exact ⟨_, st1, .threw q, hrun, hend, Or.inr ⟨q, rfl, E, ce, locs, hx _ hT hW.alike, hcell9, hv, hcl, hW, hsm.mono hc hs, hf⟩⟩
theorem vx_frame {U : State} {k n : Nat} (h : s.sameButNew ({ U with vm := s.vm } : State) locs k n) : s.heap.size ≤ U.heap.size ∧ ∀ q : Nat, q < s.heap.size → (∀ z ∈ locs, z.base ≠ q) → U.heap[q]? = s.heap[q]? := by
  obtain ⟨-, h2, -, -, -, h6⟩ := h
  refine ⟨h2, fun q hq hz => ?_⟩
  obtain ⟨c9, e1, e2, e3, e4⟩ := h6 q _ (Array.getElem?_eq_getElem hq)
  have hs : c9.slots = (s.heap[q]).slots := Array.ext_getElem? fun i => e4 i fun hm => hz _ hm rfl
  have h9 : c9 = s.heap[q] := by
    rw [hs] at e2
    exact e2
  have e5 : U.heap[q]? = some c9 := e1
  rw [e5, h9, Array.getElem?_eq_getElem hq]
/-- the words of a throw but the four that speak of the heap -/
def vx_no (w : Cond) : Bool := decide (w ≠ .isRef (.static Bundle.tN "UNASSIGNED_STACK" Bundle.steD)) && decide (w ≠ .isRef (.static Bundle.tN "SUPPRESSED_SENTINEL" Bundle.listD)) && decide (w ≠ .laysStatic Bundle.tN "UNASSIGNED_STACK" Bundle.steD) && decide (w ≠ .laysStatic Bundle.tN "SUPPRESSED_SENTINEL" Bundle.listD)
def vx_at0 (own : String) (ic : Nat) (X : String) (names : List String) : List Cond := (Bundle.ownAtoms0 own ic X names).filter vx_no
def vx_atS (own : String) (ic : Nat) (X : String) (names : List String) : List Cond := (Bundle.ownAtoms own ic X names).filter vx_no
/-- a word that the tables alone decide, or a good one -/
def vx_ot (w : Cond) : Bool := w.onTables || goodWord w
theorem vx_ot_at {args a' : Array Value} {s U : State} {w : Cond} (hW : s.WarmedH U.vm) (hvm : s.vm = U.vm) (hg : vx_ot w = true) (h : w.before args s = true) : w.before a' U = true := by
  simp only [vx_ot, Bool.or_eq_true] at hg
  rcases hg with hg | hg
  · exact va_tabs hg hvm h
  · exact word_at hW (good_of_word hg) h
/-- a list's words: the good ones out of the method's own list, the others by premises of their own -/
theorem vx_hat {args : Array Value} {s : State} {L B : List Cond} (h1 : ∀ w ∈ L.filter goodWord, w.before args s = true) (h2 : ∀ w ∈ L.filter (fun w => !goodWord w), w ∈ B) (h3 : ∀ w ∈ B, w.before args s = true) : ∀ w ∈ L, w.before args s = true := by
  intro w hw
  by_cases g : goodWord w = true
  · exact h1 w (List.mem_filter.mpr ⟨hw, g⟩)
  · refine h3 w (h2 w (List.mem_filter.mpr ⟨hw, ?_⟩))
    show (!goodWord w) = true
    cases hgw : goodWord w
    · rfl
    · exact absurd hgw g
theorem vx_c {args : Array Value} {s : State} {w : Cond} {B : List Cond} (h : w.before args s = true) (t : ∀ w ∈ B, w.before args s = true) : ∀ w' ∈ w :: B, w'.before args s = true := fun w' h' => (List.mem_cons.mp h').elim (fun e => by rw [e]; exact h) (t w')
theorem vx_n {args : Array Value} {s : State} : ∀ w ∈ ([] : List Cond), w.before args s = true := fun _ h => nomatch h
theorem vx_own {args : Array Value} {s : State} {L : List Cond} (h1 : ∀ w ∈ L.filter vx_no, w.before args s = true)
    (hU : (Cond.isRef (.static Bundle.tN "UNASSIGNED_STACK" Bundle.steD)).before args s = true) (hN : (Cond.isRef (.static Bundle.tN "SUPPRESSED_SENTINEL" Bundle.listD)).before args s = true)
    (lU : (Cond.laysStatic Bundle.tN "UNASSIGNED_STACK" Bundle.steD).before args s = true) (lN : (Cond.laysStatic Bundle.tN "SUPPRESSED_SENTINEL" Bundle.listD).before args s = true) : ∀ w ∈ L, w.before args s = true := by
  intro w hw
  by_cases e1 : w = .isRef (.static Bundle.tN "UNASSIGNED_STACK" Bundle.steD)
  · rw [e1]; exact hU
  · by_cases e2 : w = .isRef (.static Bundle.tN "SUPPRESSED_SENTINEL" Bundle.listD)
    · rw [e2]; exact hN
    · by_cases e3 : w = .laysStatic Bundle.tN "UNASSIGNED_STACK" Bundle.steD
      · rw [e3]; exact lU
      · by_cases e4 : w = .laysStatic Bundle.tN "SUPPRESSED_SENTINEL" Bundle.listD
        · rw [e4]; exact lN
        · exact h1 w (List.mem_filter.mpr ⟨hw, by unfold vx_no; rw [decide_eq_true e1, decide_eq_true e2, decide_eq_true e3, decide_eq_true e4]; rfl⟩)
/-- where a static field lies, its class's statics cell in H -/
def vx_L (C n d : String) (A : Nat → Prop) (U : State) (H : Heap) : Prop := ∃ (c : ClassId) (k : Class) (i : Nat) (f : Field) (a : Nat) (cell : Cell), U.vm.findClass C = some c ∧ U.fieldFound? C n d = some (c, k, i, f) ∧ f.isStatic = true ∧ k.statics = some a ∧ H[a]? = some cell ∧ cell.vm.isStatics = true ∧ cell.cls = c ∧ f.slot < cell.slots.size ∧ k.staticTypes[f.slot]? = some f.type ∧ ¬ A a
theorem vx_L.moved {C n d : String} {A : Nat → Prop} {u U : State} {H : Heap} (hvm : u.vm.Alike U.vm) (h : vx_L C n d A u H) : vx_L C n d A U H := by
  obtain ⟨c, k, i, f, a, cell, h1, h2, h3, h4, h5, h6, h7, h8, h9, h10⟩ := h
  obtain ⟨k', hi', he⟩ := State.fieldFound?_setVm hvm h2
  exact ⟨c, k', i, f, a, cell, by rw [hvm.findClass]; exact h1, hi', h3, by rw [he]; exact h4, h5, h6, h7, h8, by rw [he]; exact h9, h10⟩
theorem vx_L.kept {C n d : String} {A : Nat → Prop} {U : State} {H H1 : Heap} (h : vx_L C n d A U H) (hq : ∀ a : Nat, a < H.size → ¬ A a → H1[a]? = H[a]?) : vx_L C n d A U H1 := by
  obtain ⟨c, k, i, f, a, cell, h1, h2, h3, h4, h5, h6, h7, h8, h9, h10⟩ := h
  exact ⟨c, k, i, f, a, cell, h1, h2, h3, h4, by rw [hq a (Array.getElem?_eq_some_iff.mp h5).1 h10]; exact h5, h6, h7, h8, h9, h10⟩
theorem vx_L.narrow {C n d : String} {A B : Nat → Prop} {U : State} {H : Heap} (h : vx_L C n d A U H) (hAB : ∀ q, B q → A q) : vx_L C n d B U H := by
  obtain ⟨c, k, i, f, a, cell, h1, h2, h3, h4, h5, h6, h7, h8, h9, h10⟩ := h
  exact ⟨c, k, i, f, a, cell, h1, h2, h3, h4, h5, h6, h7, h8, h9, fun z => h10 (hAB _ z)⟩
theorem vx_L.word {C n d : String} {A : Nat → Prop} {s : State} {args : Array Value} (h : vx_L C n d A s s.heap) : (Cond.laysStatic C n d).before args s = true := by
  obtain ⟨c, k, i, f, a, cell, h1, h2, h3, h4, h5, h6, h7, h8, h9, -⟩ := h
  show (Cond.laysStatic C n d).holds args s none s [] = true
  exact Cond.laysStatic_of h1 h2 h3 h4 h5 h6 h7 h8 h9
/-- .. and what it holds: null or some reference -/
def vx_Zq (C n d : String) (A : Nat → Prop) (U : State) (H : Heap) : Prop := va_Zq C n d A U H ∧ vx_L C n d A U H
theorem vx_Zq.moved {C n d : String} {A : Nat → Prop} {u U : State} {H : Heap} (hvm : u.vm.Alike U.vm) (h : vx_Zq C n d A u H) : vx_Zq C n d A U H := ⟨va_Zq.moved hvm h.1, vx_L.moved hvm h.2⟩
theorem vx_Zq.kept {C n d : String} {A : Nat → Prop} {U : State} {H H1 : Heap} (h : vx_Zq C n d A U H) (hq : ∀ a : Nat, a < H.size → ¬ A a → H1[a]? = H[a]?) : vx_Zq C n d A U H1 := ⟨va_Zq.kept h.1 hq, vx_L.kept h.2 hq⟩
theorem vx_Zq.narrow {C n d : String} {A B : Nat → Prop} {U : State} {H : Heap} (h : vx_Zq C n d A U H) (hAB : ∀ q, B q → A q) : vx_Zq C n d B U H := ⟨va_Zq.narrow h.1 hAB, vx_L.narrow h.2 hAB⟩
theorem vx_Zqof {args : Array Value} {s : State} {C n d : String} {A : Nat → Prop} (hl : (Cond.laysStatic C n d).before args s = true) (hini : (Cond.initialized C).before args s = true) (h : (Cond.isRef (.static C n d)).before args s = true) (hA : ∀ a : Nat, a < s.heap.size → ¬ A a) : vx_Zq C n d A s s.heap := by
  refine ⟨va_Zqof hl hini h hA, ?_⟩
  obtain ⟨c, k, i, f, a, cell, h1, h2, h3, h4, h5, h6, h7, h8, h9⟩ := Cond.laysStatic_spec hl
  exact ⟨c, k, i, f, a, cell, h1, h2, h3, h4, h5, h6, h7, h8, h9, hA a (Array.getElem?_eq_some_iff.mp h5).1⟩
theorem vx_isRef {C n d : String} {v : Value} {A : Nat → Prop} {s : State} {args : Array Value} (h : va_Z C n d v A s s.heap) (hv : v.isRef = true) : (Cond.isRef (.static C n d)).before args s = true := by
  obtain ⟨cf, kf, fi, f, a, cell, h1, h2, h3, h4, h5, h6, h7, -⟩ := h
  have he : (Term.static C n d).eval args s none [] s = some v := by
    simp [Term.eval, State.fieldNamed?, h1, h2, h4, h5, h6, h7]
  simp only [Cond.before, Cond.holds, Cond.value, he]
  cases v <;> simp_all [Value.isRef]
theorem vx_isRefq {C n d : String} {A : Nat → Prop} {s : State} {args : Array Value} (h : va_Zq C n d A s s.heap) : (Cond.isRef (.static C n d)).before args s = true := by
  rcases h with h | ⟨t, h⟩
  · exact vx_isRef h rfl
  · exact vx_isRef h rfl
/-- the same frame, seen from here: as if the method were called anew in this heap -/
theorem vx_rebase {T : State} (X : Stand p l e R s m args below meth c T locs cells slots) {R' : Room} (hf : R'.frames ≤ R.frames) (hl : R'.locals ≤ R.locals) (hc : cells + R'.cells ≤ R.cells) (hs : slots + R'.slots ≤ R.slots) :
    Stand p l e R' ((T.setVm s.vm).setFrames (.invoking m args :: below)) m args below meth c T [] 0 0 := by
  have htop : (T.setVm s.vm).topJava?.isSome := X.here.top
  have hF : ((T.setVm s.vm).setFrames (.invoking m args :: below)).frames = .invoking m args :: below := State.frames_setFrames _ (State.cur_lt_of_top htop)
  obtain ⟨g₀, hg0⟩ := Option.isSome_iff_exists.mp htop
  obtain ⟨r, hr⟩ := State.topJava?_eq_some.mp hg0
  have hl9 : e.platform.stackLimits (T.setVm s.vm).me = e.platform.stackLimits s.me := X.limits
  have hb9 : (T.setVm s.vm).me.stackBytes = s.me.stackBytes := X.bytes
  refine ⟨X.admits, X.cas, X.clock, hF, ?_, X.hears, X.method, X.code, X.here, X.tail, X.warmed, ?_, ?_, ?_⟩
  · have h := X.room
    have hU : ((T.setVm s.vm).setFrames (.invoking m args :: below)).localsInUse = s.localsInUse := by
      rw [State.localsInUse_invoking hF (meth := meth) (c := c) X.method X.code, State.localsInUse_invoking X.frames X.method X.code]
    simp only [State.hasRoom, Bool.and_eq_true, decide_eq_true_eq] at h ⊢
    obtain ⟨⟨⟨⟨h1, h2, h3, h4, h5, h6⟩, h7⟩, h8⟩, h9⟩ := h
    rw [X.frames, List.length_cons] at h2 h3
    have q1 := X.heapSize
    have q2 := X.used
    simp only [hF, hU, List.length_cons, State.stackLimits_setFrames, State.stackBytes_setFrames, hl9, hb9]
    refine ⟨⟨⟨⟨by omega, by omega, by omega, by omega, by omega, h6⟩, ?_⟩, ?_⟩, X.book⟩
    · show T.heap.size + R'.cells ≤ e.platform.maxCells
      omega
    · show T.slotsUsed + R'.slots ≤ e.platform.maxSlots
      omega
  · rw [State.stackLimits_setFrames]; rfl
  · rw [State.stackBytes_setFrames]; rfl
  · refine ⟨?_, Nat.le_refl _, Nat.le_refl _, ?_, ?_, fun a c9 h9 => ⟨c9, h9, rfl, rfl, fun _ _ => rfl⟩⟩
    · obtain ⟨t, ht, -⟩ := State.frames_cons hr
      show T.setVm s.vm = { ((T.setVm s.vm).setFrames (.invoking m args :: below)).setFrames (T.setVm s.vm).frames with heap := T.heap, slotsUsed := T.slotsUsed }
      rw [State.setFrames_setFrames, State.setFrames_self ht]
      rfl
    · show T.slotsUsed = T.slotsUsed + ((T.heap.toList.drop T.heap.size).map (·.slots.size)).sum
      rw [List.drop_eq_nil_of_le (Nat.le_of_eq Array.length_toList)]
      rfl
    · show ((T.heap.toList.drop T.heap.size).map (·.slots.size)).sum ≤ 0
      rw [List.drop_eq_nil_of_le (Nat.le_of_eq Array.length_toList)]
      exact Nat.le_refl _
/-- 'throw new E()': new; dup; invokespecial; athrow -/
theorem vx_throw0 {cc : ByteArray} {pc : Nat} (hexec : p.tables.exec = Jvm.exec) (hb : c.code = cc) (hl : l.stackTraces = false) {own cls : String} {names : List String} {ik ic mc ms : Nat} {A : Nat → Prop}
    (hown : s.vm.findClass own = some m.cls) (hcls : Bundle.fit cls = true) (hnames : ∀ n ∈ names, Bundle.fit n = true)
    (hk : (Cond.classLink own ik cls).before args s = true) (hini : (Cond.initialized cls).before args s = true) (hat : ∀ w ∈ vx_at0 own ic cls names, w.before args s = true)
    (hgood : ∀ w ∈ Cond.classLink own ik cls :: Cond.initialized cls :: vx_at0 own ic cls names, vx_ot w = true)
    (hU : vx_Zq Bundle.tN "UNASSIGNED_STACK" Bundle.steD A s s.heap) (hN : vx_Zq Bundle.tN "SUPPRESSED_SENTINEL" Bundle.listD A s s.heap) (hS : va_S A s.heap H locs) (hsize : ls.size = c.maxLocals)
    (d0 : decode cc pc = .ok (.new ik, 3)) (d3 : decode cc (pc + 3) = .ok (.dup, 1)) (d4 : decode cc (pc + 4) = .ok (.invokespecial ic, 3)) (d7 : decode cc (pc + 7) = .ok (.athrow, 1))
    (hout : ∀ x ∈ c.exceptionTable.toList, covers x (pc + 7) = false)
    (hRframes : names.length + 3 < R.frames) (hRlocals : (rest.map fun v => v.category).sum + (13 * (names.length + 1) + 42) ≤ R.locals) (hRcells : cells + 1 ≤ R.cells) (hRslots : slots + 6 ≤ R.slots) (hlocks : meth.locks = false)
    (hx : ∀ t : State, s.vm.Alike t.vm → H.size ≤ t.heap.size → (∀ q : Nat, q < H.size → t.heap[q]? = H[q]?) → XC cls s t)
    (hf : ∀ z ∈ locs, free z.base) (hc : cells + 1 ≤ mc) (hs : slots + 6 ≤ ms) :
    W p l e R s m args below meth c H locs cells slots (vx_MQ below Qc XC args s mc ms free) (F0 m pc ls rest) := by
  intro T hT X
  have htr : e.platform.stackTraces = false := (show e.platform.stackTraces = l.stackTraces by rw [X.admits.platform]).trans hl
  have Y := vx_rebase X (R' := { frames := R.frames, locals := R.locals, cells := 1, slots := 6 }) (Nat.le_refl _) (Nat.le_refl _) hRcells hRslots
  obtain ⟨s', hA⟩ : ∃ z, z = (T.setVm s.vm).setFrames (.invoking m args :: below) := ⟨_, rfl⟩
  rw [← hA] at Y
  have hvm : s'.vm = s.vm := by rw [hA]; rfl
  have hhp : s'.heap = H := by rw [hA]; exact hT
  have hW0 : s.WarmedH s'.vm := by rw [hvm]; exact State.WarmedH.refl s
  have hat' : ∀ w ∈ vx_at0 own ic cls names, w.before args s' = true := fun w hw => vx_ot_at hW0 hvm.symm (hgood w (List.mem_cons_of_mem _ (List.mem_cons_of_mem _ hw))) (hat w hw)
  have hk' : (Cond.classLink own ik cls).before args s' = true := vx_ot_at hW0 hvm.symm (hgood _ List.mem_cons_self) hk
  have hini' : (Cond.initialized cls).before args s' = true := vx_ot_at hW0 hvm.symm (hgood _ (List.mem_cons_of_mem _ List.mem_cons_self)) hini
  have hU' : vx_Zq Bundle.tN "UNASSIGNED_STACK" Bundle.steD A s' s'.heap := by rw [hhp]; exact vx_Zq.moved hW0.alike (hU.kept hS.2.1)
  have hN' : vx_Zq Bundle.tN "SUPPRESSED_SENTINEL" Bundle.listD A s' s'.heap := by rw [hhp]; exact vx_Zq.moved hW0.alike (hN.kept hS.2.1)
  have h : ∀ w ∈ Bundle.ownAtoms0 own ic cls names, w.before args s' = true := vx_own hat' (vx_isRefq hU'.1) (vx_isRefq hN'.1) hU'.2.word hN'.2.word
  have hown' : s'.vm.findClass own = some m.cls := by rw [hvm]; exact hown
  have hins : (Cond.instantiable cls 6).before args s' = true := h _ (by simp [Bundle.ownAtoms0])
  obtain ⟨vm₁, cX, kX, hfX, hkX, -, -, X₁, st1⟩ := Y.newCold hexec (own := own) (C := cls) (index := ik) (n := 6) hown' hk' hins hini'
    (g := F0 m pc ls rest) rfl (by rw [hb]; exact d0) (Nat.le_refl _) (Nat.le_refl _)
  generalize hT1 : (T.setVm vm₁).pushCell { cls := cX, slots := kX.instanceTypes.map defaultValue, vm := .none } = T1 at X₁ st1
  have hcat : (Value.ref T.heap.size).category = 1 := rfl
  have hcellA : T1.heap[T.heap.size]? = some (freshCell cX kX) := by rw [← hT1]; exact State.heap_pushCell_size _ _
  have d3' : decode c.code (pc + 3) = .ok (.dup, 1) := by rw [hb]; exact d3
  obtain ⟨U, hsteps, hrun, hend, hW, hsame, ce, hce, hO⟩ := X₁.ctorThrow0 hexec htr (own := own) (cls := cls) (names := names) (ic := ic) hown' hcls hnames h (fun x hx => nomatch hx) hfX hkX hcellA (by rw [hhp, hT]; exact Nat.le_refl _)
    (g := { method := m, pc := pc + 4, locals := ls, stack := .ref T.heap.size :: .ref T.heap.size :: rest, locked := none }) rfl hsize rfl rfl (rest := rest) rfl
    (by rw [hb]; exact d4) (by rw [hb]; exact d7) hout hRframes (by simp only [List.map_cons, List.sum_cons, hcat]; omega) hlocks
  obtain ⟨f1, f2⟩ := vx_frame hsame
  rw [hhp] at f1 f2
  have hWs : s.WarmedH U.vm := State.WarmedH.trans hW0 hW
  have hcl : s.vm.findClass cls = some ce.cls := by
    have h9 := hO.cls
    rw [hvm] at h9
    exact h9
  have hall : s.sameButNew ({ U with vm := s.vm } : State) locs mc ms := by
    subst hA
    obtain ⟨e1, e2⟩ := hsame
    rw [State.setFrames_setFrames] at e1
    have h2 : (T.setVm s.vm).sameButNew ({ U with vm := s.vm } : State) [] (0 + 1) (0 + 6) := ⟨e1, e2⟩
    have h3 := X.same.trans h2
    rw [List.append_nil] at h3
    exact h3.mono hc hs
  refine ⟨U, ?_, .threw T.heap.size, hrun, hend, Or.inr ⟨T.heap.size, rfl, cls, ce, locs, hx U hWs.alike f1 (fun q hq => f2 q hq (fun z hz => nomatch hz)), hce, hO.vm, hcl, hWs, hall, hf⟩⟩
  refine st1 _ ?_
  show Steps p.tables e below (T1.setTop { method := m, pc := pc + 3, locals := ls, stack := .ref T.heap.size :: rest, locked := none }) _
  jvm_step X₁.here [X₁.here.top, hexec, d3', Value.category]
  exact hsteps
/-- 'throw new E("text")': new; dup; ldc; invokespecial; athrow -/
theorem vx_throwS {cc : ByteArray} {pc : Nat} (hexec : p.tables.exec = Jvm.exec) (hb : c.code = cc) (hl : l.stackTraces = false) {own cls text : String} {names : List String} {ik is ic mc ms sa : Nat} {A : Nat → Prop}
    (hown : s.vm.findClass own = some m.cls) (hcls : Bundle.fit cls = true) (hnames : ∀ n ∈ names, Bundle.fit n = true)
    (hk : (Cond.classLink own ik cls).before args s = true) (hini : (Cond.initialized cls).before args s = true) (hstr : vk_R own is text sa s) (hat : ∀ w ∈ vx_atS own ic cls names, w.before args s = true)
    (hgood : ∀ w ∈ Cond.classLink own ik cls :: Cond.initialized cls :: vx_atS own ic cls names, vx_ot w = true)
    (hU : vx_Zq Bundle.tN "UNASSIGNED_STACK" Bundle.steD A s s.heap) (hN : vx_Zq Bundle.tN "SUPPRESSED_SENTINEL" Bundle.listD A s s.heap) (hS : va_S A s.heap H locs) (hsize : ls.size = c.maxLocals)
    (d0 : decode cc pc = .ok (.new ik, 3)) (d3 : decode cc (pc + 3) = .ok (.dup, 1)) (d4 : decode cc (pc + 4) = .ok (.ldc is, 2)) (d6 : decode cc (pc + 6) = .ok (.invokespecial ic, 3)) (d9 : decode cc (pc + 9) = .ok (.athrow, 1))
    (hout : ∀ x ∈ c.exceptionTable.toList, covers x (pc + 9) = false)
    (hRframes : names.length + 3 < R.frames) (hRlocals : (rest.map fun v => v.category).sum + (13 * (names.length + 1) + 43) ≤ R.locals) (hRcells : cells + 1 ≤ R.cells) (hRslots : slots + 6 ≤ R.slots) (hlocks : meth.locks = false)
    (hx : ∀ t : State, s.vm.Alike t.vm → H.size ≤ t.heap.size → (∀ q : Nat, q < H.size → t.heap[q]? = H[q]?) → XC cls s t)
    (hf : ∀ z ∈ locs, free z.base) (hc : cells + 1 ≤ mc) (hs : slots + 6 ≤ ms) :
    W p l e R s m args below meth c H locs cells slots (vx_MQ below Qc XC args s mc ms free) (F0 m pc ls rest) := by
  intro T hT X
  have htr : e.platform.stackTraces = false := (show e.platform.stackTraces = l.stackTraces by rw [X.admits.platform]).trans hl
  have Y := vx_rebase X (R' := { frames := R.frames, locals := R.locals, cells := 1, slots := 6 }) (Nat.le_refl _) (Nat.le_refl _) hRcells hRslots
  obtain ⟨s', hA⟩ : ∃ z, z = (T.setVm s.vm).setFrames (.invoking m args :: below) := ⟨_, rfl⟩
  rw [← hA] at Y
  have hvm : s'.vm = s.vm := by rw [hA]; rfl
  have hhp : s'.heap = H := by rw [hA]; exact hT
  have hW0 : s.WarmedH s'.vm := by rw [hvm]; exact State.WarmedH.refl s
  have hat' : ∀ w ∈ vx_atS own ic cls names, w.before args s' = true := fun w hw => vx_ot_at hW0 hvm.symm (hgood w (List.mem_cons_of_mem _ (List.mem_cons_of_mem _ hw))) (hat w hw)
  have hk' : (Cond.classLink own ik cls).before args s' = true := vx_ot_at hW0 hvm.symm (hgood _ List.mem_cons_self) hk
  have hini' : (Cond.initialized cls).before args s' = true := vx_ot_at hW0 hvm.symm (hgood _ (List.mem_cons_of_mem _ List.mem_cons_self)) hini
  have hU' : vx_Zq Bundle.tN "UNASSIGNED_STACK" Bundle.steD A s' s'.heap := by rw [hhp]; exact vx_Zq.moved hW0.alike (hU.kept hS.2.1)
  have hN' : vx_Zq Bundle.tN "SUPPRESSED_SENTINEL" Bundle.listD A s' s'.heap := by rw [hhp]; exact vx_Zq.moved hW0.alike (hN.kept hS.2.1)
  have h : ∀ w ∈ Bundle.ownAtoms own ic cls names, w.before args s' = true := vx_own hat' (vx_isRefq hU'.1) (vx_isRefq hN'.1) hU'.2.word hN'.2.word
  have hown' : s'.vm.findClass own = some m.cls := by rw [hvm]; exact hown
  have hins : (Cond.instantiable cls 6).before args s' = true := h _ (by simp [Bundle.ownAtoms])
  obtain ⟨vm₁, cX, kX, hfX, hkX, -, -, X₁, st1⟩ := Y.newCold hexec (own := own) (C := cls) (index := ik) (n := 6) hown' hk' hins hini'
    (g := F0 m pc ls rest) rfl (by rw [hb]; exact d0) (Nat.le_refl _) (Nat.le_refl _)
  generalize hT1 : (T.setVm vm₁).pushCell { cls := cX, slots := kX.instanceTypes.map defaultValue, vm := .none } = T1 at X₁ st1
  have hcat : (Value.ref T.heap.size).category = 1 := rfl
  have hcellA : T1.heap[T.heap.size]? = some (freshCell cX kX) := by rw [← hT1]; exact State.heap_pushCell_size _ _
  have d3' : decode c.code (pc + 3) = .ok (.dup, 1) := by rw [hb]; exact d3
  have d4' : decode c.code (pc + 4) = .ok (.ldc is, 2) := by rw [hb]; exact d4
  have hstr' : vk_R own is text sa s' := vk_R.warm hW0 hstr
  obtain ⟨U, hsteps, hrun, hend, hW, hsame, ce, hce, hO⟩ := X₁.ctorThrowS hexec htr (own := own) (cls := cls) (names := names) (ic := ic) hown' hcls hnames h (fun x hx => nomatch hx) hfX hkX hcellA (by rw [hhp, hT]; exact Nat.le_refl _) (msg := .ref sa) rfl
    (g := { method := m, pc := pc + 6, locals := ls, stack := .ref sa :: .ref T.heap.size :: .ref T.heap.size :: rest, locked := none }) rfl hsize rfl rfl (rest := rest) rfl
    (by rw [hb]; exact d6) (by rw [hb]; exact d9) hout hRframes (by simp only [List.map_cons, List.sum_cons, hcat]; omega) hlocks
  obtain ⟨f1, f2⟩ := vx_frame hsame
  rw [hhp] at f1 f2
  have hWs : s.WarmedH U.vm := State.WarmedH.trans hW0 hW
  have hcl : s.vm.findClass cls = some ce.cls := by
    have h9 := hO.cls
    rw [hvm] at h9
    exact h9
  have hall : s.sameButNew ({ U with vm := s.vm } : State) locs mc ms := by
    subst hA
    obtain ⟨e1, e2⟩ := hsame
    rw [State.setFrames_setFrames] at e1
    have h2 : (T.setVm s.vm).sameButNew ({ U with vm := s.vm } : State) [] (0 + 1) (0 + 6) := ⟨e1, e2⟩
    have h3 := X.same.trans h2
    rw [List.append_nil] at h3
    exact h3.mono hc hs
  refine ⟨U, ?_, .threw T.heap.size, hrun, hend, Or.inr ⟨T.heap.size, rfl, cls, ce, locs, hx U hWs.alike f1 (fun q hq => f2 q hq (fun z hz => nomatch hz)), hce, hO.vm, hcl, hWs, hall, hf⟩⟩
  refine st1 _ ?_
  show Steps p.tables e below (T1.setTop { method := m, pc := pc + 3, locals := ls, stack := .ref T.heap.size :: rest, locked := none }) _
  jvm_step X₁.here [X₁.here.top, hexec, d3', Value.category]
  exact X₁.ldcString hexec (own := own) (text := text) (index := is) (a := sa) hown' hstr'.1 hstr'.2
    (g := { method := m, pc := pc + 4, locals := ls, stack := .ref T.heap.size :: .ref T.heap.size :: rest, locked := none }) rfl d4' _ hsteps
/-- 'throw new E("text")', the text by a wide index -/
theorem vx_throwSW {cc : ByteArray} {pc : Nat} (hexec : p.tables.exec = Jvm.exec) (hb : c.code = cc) (hl : l.stackTraces = false) {own cls text : String} {names : List String} {ik is ic mc ms sa : Nat} {A : Nat → Prop}
    (hown : s.vm.findClass own = some m.cls) (hcls : Bundle.fit cls = true) (hnames : ∀ n ∈ names, Bundle.fit n = true)
    (hk : (Cond.classLink own ik cls).before args s = true) (hini : (Cond.initialized cls).before args s = true) (hstr : vk_R own is text sa s) (hat : ∀ w ∈ vx_atS own ic cls names, w.before args s = true)
    (hgood : ∀ w ∈ Cond.classLink own ik cls :: Cond.initialized cls :: vx_atS own ic cls names, vx_ot w = true)
    (hU : vx_Zq Bundle.tN "UNASSIGNED_STACK" Bundle.steD A s s.heap) (hN : vx_Zq Bundle.tN "SUPPRESSED_SENTINEL" Bundle.listD A s s.heap) (hS : va_S A s.heap H locs) (hsize : ls.size = c.maxLocals)
    (d0 : decode cc pc = .ok (.new ik, 3)) (d3 : decode cc (pc + 3) = .ok (.dup, 1)) (d4 : decode cc (pc + 4) = .ok (.ldc_w is, 3)) (d7 : decode cc (pc + 7) = .ok (.invokespecial ic, 3)) (d10 : decode cc (pc + 10) = .ok (.athrow, 1))
    (hout : ∀ x ∈ c.exceptionTable.toList, covers x (pc + 10) = false)
    (hRframes : names.length + 3 < R.frames) (hRlocals : (rest.map fun v => v.category).sum + (13 * (names.length + 1) + 43) ≤ R.locals) (hRcells : cells + 1 ≤ R.cells) (hRslots : slots + 6 ≤ R.slots) (hlocks : meth.locks = false)
    (hx : ∀ t : State, s.vm.Alike t.vm → H.size ≤ t.heap.size → (∀ q : Nat, q < H.size → t.heap[q]? = H[q]?) → XC cls s t)
    (hf : ∀ z ∈ locs, free z.base) (hc : cells + 1 ≤ mc) (hs : slots + 6 ≤ ms) :
    W p l e R s m args below meth c H locs cells slots (vx_MQ below Qc XC args s mc ms free) (F0 m pc ls rest) := by
  intro T hT X
  have htr : e.platform.stackTraces = false := (show e.platform.stackTraces = l.stackTraces by rw [X.admits.platform]).trans hl
  have Y := vx_rebase X (R' := { frames := R.frames, locals := R.locals, cells := 1, slots := 6 }) (Nat.le_refl _) (Nat.le_refl _) hRcells hRslots
  obtain ⟨s', hA⟩ : ∃ z, z = (T.setVm s.vm).setFrames (.invoking m args :: below) := ⟨_, rfl⟩
  rw [← hA] at Y
  have hvm : s'.vm = s.vm := by rw [hA]; rfl
  have hhp : s'.heap = H := by rw [hA]; exact hT
  have hW0 : s.WarmedH s'.vm := by rw [hvm]; exact State.WarmedH.refl s
  have hat' : ∀ w ∈ vx_atS own ic cls names, w.before args s' = true := fun w hw => vx_ot_at hW0 hvm.symm (hgood w (List.mem_cons_of_mem _ (List.mem_cons_of_mem _ hw))) (hat w hw)
  have hk' : (Cond.classLink own ik cls).before args s' = true := vx_ot_at hW0 hvm.symm (hgood _ List.mem_cons_self) hk
  have hini' : (Cond.initialized cls).before args s' = true := vx_ot_at hW0 hvm.symm (hgood _ (List.mem_cons_of_mem _ List.mem_cons_self)) hini
  have hU' : vx_Zq Bundle.tN "UNASSIGNED_STACK" Bundle.steD A s' s'.heap := by rw [hhp]; exact vx_Zq.moved hW0.alike (hU.kept hS.2.1)
  have hN' : vx_Zq Bundle.tN "SUPPRESSED_SENTINEL" Bundle.listD A s' s'.heap := by rw [hhp]; exact vx_Zq.moved hW0.alike (hN.kept hS.2.1)
  have h : ∀ w ∈ Bundle.ownAtoms own ic cls names, w.before args s' = true := vx_own hat' (vx_isRefq hU'.1) (vx_isRefq hN'.1) hU'.2.word hN'.2.word
  have hown' : s'.vm.findClass own = some m.cls := by rw [hvm]; exact hown
  have hins : (Cond.instantiable cls 6).before args s' = true := h _ (by simp [Bundle.ownAtoms])
  obtain ⟨vm₁, cX, kX, hfX, hkX, -, -, X₁, st1⟩ := Y.newCold hexec (own := own) (C := cls) (index := ik) (n := 6) hown' hk' hins hini'
    (g := F0 m pc ls rest) rfl (by rw [hb]; exact d0) (Nat.le_refl _) (Nat.le_refl _)
  generalize hT1 : (T.setVm vm₁).pushCell { cls := cX, slots := kX.instanceTypes.map defaultValue, vm := .none } = T1 at X₁ st1
  have hcat : (Value.ref T.heap.size).category = 1 := rfl
  have hcellA : T1.heap[T.heap.size]? = some (freshCell cX kX) := by rw [← hT1]; exact State.heap_pushCell_size _ _
  have d3' : decode c.code (pc + 3) = .ok (.dup, 1) := by rw [hb]; exact d3
  have d4' : decode c.code (pc + 4) = .ok (.ldc_w is, 3) := by rw [hb]; exact d4
  have hstr' : vk_R own is text sa s' := vk_R.warm hW0 hstr
  obtain ⟨U, hsteps, hrun, hend, hW, hsame, ce, hce, hO⟩ := X₁.ctorThrowS hexec htr (own := own) (cls := cls) (names := names) (ic := ic) hown' hcls hnames h (fun x hx => nomatch hx) hfX hkX hcellA (by rw [hhp, hT]; exact Nat.le_refl _) (msg := .ref sa) rfl
    (g := { method := m, pc := pc + 7, locals := ls, stack := .ref sa :: .ref T.heap.size :: .ref T.heap.size :: rest, locked := none }) rfl hsize rfl rfl (rest := rest) rfl
    (by rw [hb]; exact d7) (by rw [hb]; exact d10) hout hRframes (by simp only [List.map_cons, List.sum_cons, hcat]; omega) hlocks
  obtain ⟨f1, f2⟩ := vx_frame hsame
  rw [hhp] at f1 f2
  have hWs : s.WarmedH U.vm := State.WarmedH.trans hW0 hW
  have hcl : s.vm.findClass cls = some ce.cls := by
    have h9 := hO.cls
    rw [hvm] at h9
    exact h9
  have hall : s.sameButNew ({ U with vm := s.vm } : State) locs mc ms := by
    subst hA
    obtain ⟨e1, e2⟩ := hsame
    rw [State.setFrames_setFrames] at e1
    have h2 : (T.setVm s.vm).sameButNew ({ U with vm := s.vm } : State) [] (0 + 1) (0 + 6) := ⟨e1, e2⟩
    have h3 := X.same.trans h2
    rw [List.append_nil] at h3
    exact h3.mono hc hs
  refine ⟨U, ?_, .threw T.heap.size, hrun, hend, Or.inr ⟨T.heap.size, rfl, cls, ce, locs, hx U hWs.alike f1 (fun q hq => f2 q hq (fun z hz => nomatch hz)), hce, hO.vm, hcl, hWs, hall, hf⟩⟩
  refine st1 _ ?_
  show Steps p.tables e below (T1.setTop { method := m, pc := pc + 3, locals := ls, stack := .ref T.heap.size :: rest, locked := none }) _
  jvm_step X₁.here [X₁.here.top, hexec, d3', Value.category]
  exact X₁.ldcStringW hexec (own := own) (text := text) (index := is) (a := sa) hown' hstr'.1 hstr'.2
    (g := { method := m, pc := pc + 4, locals := ls, stack := .ref T.heap.size :: .ref T.heap.size :: rest, locked := none }) rfl d4' _ hsteps
end Ends
section Bodies
variable {l : Launch}
theorem vx_ofW {y : MethodName} {ws ws' : List Cond} {rm : Room} {Pc : Array Value → State → Prop} {Qc : Array Value → State → Outcome → State → Prop} {XC : String → State → State → Prop} {mc ms : Nat} {free : Addr → Prop} {cc : ByteArray} {maxL : Nat} {ret : Option FieldType}
    (hy : plainName y.cls = true) (hw : ws = Cond.code y cc maxL ret :: ws')
    (body : ∀ p e s m args below meth c s₁, BodyLoose p l y (headSpec ws rm) cc maxL ret e s m args below meth c s₁ → c.maxLocals = maxL → (∀ x ∈ c.exceptionTable.toList, False) → Pc args s →
      W p l e (headSpec ws rm).room s m args below meth c s.heap [] 0 0 (vx_MQ below Qc XC args s mc ms free) (entryFrame m args maxL)) : vx_Met l y ws rm Pc Qc XC mc ms free := by
  refine MetFree.of_bodyS (code := cc) (maxLocals := maxL) (ret := ret) hy ?_ ?_
  · intro args s m h hn
    obtain ⟨meth, c, h1, h2, h3, h4, h5, h6, -, -⟩ := Cond.code_spec hn (atoms_spec (ws := ws) h _ (by rw [hw]; exact List.mem_cons_self))
    exact ⟨meth, c, h1, h2, h3, h4, h5, h6⟩
  · intro p e s m args below meth c s₁ B hml hP _
    have hh0 : s₁.heap = s.heap := by rw [B.state]; rfl
    have ht : ∀ x ∈ c.exceptionTable.toList, False := by
      obtain ⟨meth9, c9, h1, h2, -, -, -, -, h7, -⟩ := Cond.code_spec B.named (atoms_spec (ws := ws) B.pre _ (by rw [hw]; exact List.mem_cons_self))
      cases Option.some.inj (h1.symm.trans B.method)
      cases Option.some.inj (h2.symm.trans (Stand.of_body B).code)
      intro x hx
      rw [Array.isEmpty_iff.mp h7] at hx
      cases hx
    obtain ⟨t, a1, o, b1, b2, b3⟩ := body p e s m args below meth c s₁ B hml ht hP s₁ hh0 (Stand.of_body B)
    exact ⟨t, o, a1, b1, b2, b3⟩
/-- the table of a body with handlers -/
theorem vx_table {p : Program} {x y : MethodName} {S : Spec} {cc bytes : ByteArray} {maxL maxL' : Nat} {ret ret' : Option FieldType} {e : Env} {s s₁ : State} {m : MethodId} {args : Array Value} {below : List Frame} {meth : Method} {c : Code} {hh : List (Nat × Nat × Nat × Nat)}
    (B : BodyLoose p l y S cc maxL ret e s m args below meth c s₁) (h : (Cond.codeWith y bytes maxL' ret' hh).before args s = true) : c.exceptionTable.toList = tableOf hh := by
  obtain ⟨m9, meth9, c9, hn9, h1, h2, -, -, h6, -⟩ := Cond.codeWith_spec h
  cases Option.some.inj (hn9.symm.trans B.named)
  cases Option.some.inj (h1.symm.trans B.method)
  cases Option.some.inj (h2.symm.trans (Stand.of_body B).code)
  rw [← h6, table_eq]
end Bodies
end VXA
/-! ===== END ===== -/
/-! ===== BEGIN a static call of a method with an exception table ===== -/
section VXS
variable {p : Program} {l : Launch} {e : Env} {R : Room} {s : State} {m : MethodId} {args : Array Value} {below : List Frame} {meth : Method} {c : Code} {T : State} {H : Heap} {locs : List Loc} {cells slots : Nat}
abbrev vx_CSW (R : Room) (s : State) (args : Array Value) (own : String) (index : Nat) (y : MethodName) (bytes : ByteArray) (maxL : Nat) (ret : Option FieldType) (hh : List (Nat × Nat × Nat × Nat)) (ws : List Cond) (rm : Room) (mc ms n : Nat) : Prop :=
  (rm.cells = mc ∧ rm.slots = ms ∧ rm.frames + 1 ≤ R.frames ∧ 8 + (maxL + 11) + rm.locals ≤ R.locals ∧ (∀ w ∈ ws, ∀ (a' : Array Value) (U : State), s.WarmedH U.vm → w.before a' U = true) ∧ Cond.codeWith y bytes maxL ret hh ∈ ws) ∧
  (Cond.codeWith y bytes maxL ret hh).before args s = true ∧ (Cond.initialized y.cls).before args s = true ∧ (y.cls ≠ "java/lang/invoke/MethodHandle" ∧ y.cls ≠ "java/lang/invoke/VarHandle") ∧
  (∀ sig, parseMethodDescriptor y.desc = some sig → n = sig.parameters.length) ∧ (Cond.methodLink own index y).before args s = true ∧ (Cond.static y).before args s = true
theorem vx_cwSW {own : String} {index maxL mc ms : Nat} {y : MethodName} {bytes : ByteArray} {ret : Option FieldType} {hh : List (Nat × Nat × Nat × Nat)} {Ts ws ws' : List Cond} {rm : Room} (n : Nat) (ht : ∀ w ∈ Ts, w.before args s = true) (hT : GoodIn Ts (va_wsS own index y ws)) (hw : ws = Cond.codeWith y bytes maxL ret hh :: ws') (hrc : rm.cells = mc) (hrs : rm.slots = ms)
    (hd : y.cls ≠ "java/lang/invoke/MethodHandle" ∧ y.cls ≠ "java/lang/invoke/VarHandle" ∧ (parseMethodDescriptor y.desc).map (fun d => d.parameters.length) = some n) (hR : rm.frames + 1 ≤ R.frames ∧ 8 + (maxL + 11) + rm.locals ≤ R.locals) :
    vx_CSW R s args own index y bytes maxL ret hh ws rm mc ms n := by
  have ok : ∀ w ∈ va_wsS own index y ws, w.before args s = true := fun w h => ht w (hT w h).1
  have hG : GoodIn Ts ws := fun w h => hT w (by unfold va_wsS; exact List.mem_append_right _ h)
  have hc : Cond.codeWith y bytes maxL ret hh ∈ ws := by rw [hw]; exact List.mem_cons_self
  refine ⟨⟨hrc, hrs, hR.1, hR.2, pay_in ht hG, hc⟩, ht _ (hG _ hc).1, ok _ (by simp [va_wsS]), ⟨hd.1, hd.2.1⟩, fun sig h => ?_, ok _ (by simp [va_wsS]), ok _ (by simp [va_wsS])⟩
  have h2 := hd.2.2
  rw [h] at h2
  exact (Option.some.inj h2).symm
theorem vx_callSW (X : Stand p l e R s m args below meth c T locs cells slots) (hexec : p.tables.exec = Jvm.exec) {own : String} {index : Nat} {y : MethodName} {bytes : ByteArray} {maxL : Nat} {ret : Option FieldType} {hh : List (Nat × Nat × Nat × Nat)}
    (hown : s.vm.findClass own = some m.cls) (hlink : (Cond.methodLink own index y).before args s = true) (hstat : (Cond.static y).before args s = true) (hinit : (Cond.initialized y.cls).before args s = true)
    (hcode : (Cond.codeWith y bytes maxL ret hh).before args s = true) (hy : y.cls ≠ "java/lang/invoke/MethodHandle" ∧ y.cls ≠ "java/lang/invoke/VarHandle")
    {W9 : Nat} {Pre : Pt → Array Value → Prop} {Post : Pt → Array Value → Option Value → Pt → Prop} (hK : Back l R p e below s args y 3 W9 Pre Post)
    {g : JFrame} (hg : g.method = m) (hsize : g.locals.size = c.maxLocals) {argsL rest : List Value} (hlen : ∀ sig, parseMethodDescriptor y.desc = some sig → argsL.length = sig.parameters.length)
    (hstack : g.stack = argsL.reverse ++ rest) (hW : 2 * g.monitorRoom + (rest.map fun v => v.category).sum ≤ W9) (hdg : decode c.code g.pc = .ok (.invokestatic index, 3))
    (hpre : ∀ vm₁, s.WarmedH vm₁ → Pre ⟨T.setVm vm₁, locs, cells, slots⟩ argsL.toArray) :
    ∃ (v : Option Value) (vm₁ : Vm) (B : Pt), s.WarmedH vm₁ ∧ Stand p l e R s m args below meth c B.U B.locs B.cells B.slots ∧ Post ⟨T.setVm vm₁, locs, cells, slots⟩ argsL.toArray v B ∧
      ∀ target, Steps p.tables e below (B.U.setTop { g with pc := g.pc + 3, stack := v.toList ++ rest }) target → Steps p.tables e below (T.setTop g) target := by
  obtain ⟨mk, methM, cM, hnamed, hmethM, -, -, -, -, -, -, hsigM⟩ := Cond.codeWith_spec hcode
  have hstatic : methM.isStatic = true := Cond.static_spec hnamed hmethM hstat
  obtain ⟨kP, hkP, -⟩ := className_of_methodNamed hnamed
  have hinitP : kP.init = .initialized := Cond.initialized_spec (findClass_of_methodNamed hnamed) hkP hinit
  obtain ⟨vm₁, X₁, hstep₁⟩ := X.invokestatic hexec hown hlink hnamed hmethM hstatic hkP hinitP hy (g := g) hg (argsL := argsL) (rest := rest) (hlen _ hsigM) hstack hdg
  obtain ⟨v, B, X', hpost, hsteps⟩ := hK m meth c ⟨T.setVm vm₁, locs, cells, slots⟩ { g with stack := rest } (.invokestatic index) mk argsL.toArray X₁ hg hsize hdg hW (X₁.named hnamed) (hpre vm₁ X₁.warmed)
  exact ⟨v, vm₁, B, X₁.warmed, X', hpost, fun target h => hstep₁ _ fun acts => by rw [doInvoke_state]; exact hsteps.trans h⟩
theorem vx_runSW {y : MethodName} {bytes cc : ByteArray} {maxL nL mc ms n index : Nat} {ret : Option FieldType} {hh : List (Nat × Nat × Nat × Nat)} {ws : List Cond} {rm : Room} {Pc : Array Value → State → Prop} {Qc : Array Value → State → Outcome → State → Prop} {free : Addr → Prop} {Ts : List Cond} {own : String} {As rest : List Value} {g : JFrame}
    (S : CallFix p m c cc nL s args Ts own) (hM : Met l y ws rm Pc Qc mc ms free) (cw : vx_CSW R s args own index y bytes maxL ret hh ws rm mc ms n) (hp : PreS s H Pc As)
    (hg : g.method = m) (hn : As.length = n) (hsize : g.locals.size = nL) (hstack : g.stack = As.reverse ++ rest) (hW : 2 * g.monitorRoom + (rest.map fun v => v.category).sum ≤ 8) (hdg : decode cc g.pc = .ok (.invokestatic index, 3)) (hf : cells + mc ≤ R.cells ∧ slots + ms ≤ R.slots) :
    va_Run p l e R s m args below meth c H locs cells slots mc ms g rest (Qc As.toArray) (free) := by
  obtain ⟨⟨hrc, hrs, hfr, hlo, hws, hcw⟩, hcode, hini, hy, hlen, hl, hstt⟩ := cw
  have hK : Back l R p e below s args y 3 8 (PreOf R mc ms Pc) (PostOf Qc mc ms free) := va_backW (hh := hh) (bytes := bytes) (maxL := maxL) (ret := ret) hM hp.1 hrc hrs hfr hlo hws hcw (fun a' U hW => word_at hW (Or.inl (by first | rfl | simp [Cond.onTables, Cond.keeps, Cond.steady])) hini)
  obtain ⟨hx, hb, hml, ho, -⟩ := S
  intro T hT X
  obtain ⟨v, vm₁, ⟨U', l2, c2, s2⟩, hW₁, X', ⟨g', mk, t, L, e1, e2, hq, h1, hL, h2, h3⟩, st⟩ := vx_callSW X hx (hh := hh) (bytes := bytes) (maxL := maxL) (ret := ret) ho hl hstt hini hcode hy hK hg (hsize.trans hml.symm) (argsL := As) (rest := rest) (fun sig h => hn.trans (hlen sig h)) hstack hW (by rw [hb]; exact hdg)
    (fun vm₁ hW₁ => ⟨hf.1, hf.2, hp.2 (T.setVm vm₁) hT hW₁⟩)
  dsimp only [Pt.U, Pt.locs, Pt.cells, Pt.slots] at X' e1 e2 h1 h2 h3 st
  subst h1; subst h2; subst h3
  exact ⟨v, (T.setVm vm₁).calling g' mk As.toArray, t, U', L, hT, X', hL, e1, e2, hq, st⟩
/-- not caught here, past rows that name other classes: it goes on to the caller -/
theorem vx_outP {p : Program} {l : Launch} {e : Env} {R : Room} {s : State} {m : MethodId} {args : Array Value} {below : List Frame} {meth : Method} {c : Code} {H : Heap} {locs : List Loc} {cells slots : Nat} {free : Addr → Prop} {ls : Array Slot} {rest : List Value} {Qc : Array Value → State → Outcome → State → Prop} {XC : String → State → State → Prop}
    {pc : Nat} {own E : String} {ce : Cell} {q : Addr} {mc ms : Nat} (hown : s.vm.findClass own = some m.cls) (hlocks : meth.locks = false)
    (hpass : ∀ z ∈ c.exceptionTable.toList, covers z pc = false ∨ (z.catchType ≠ 0 ∧ ∃ nm : String, (Cond.classLink own z.catchType nm).before args s = true ∧ va_Nc E nm s)) (hcell : H[q]? = some ce) (hv : ce.vm = .none) (hcl : s.vm.findClass E = some ce.cls)
    (hx : ∀ t : State, t.heap = H → s.vm.Alike t.vm → XC E s t) (hf : ∀ z ∈ locs, free z.base) (hc : cells ≤ mc) (hs : slots ≤ ms) :
    vx_W p l e R s m args below meth c H locs cells slots (vx_MQ below Qc XC args s mc ms free) (F0 m pc ls rest) q := by
  intro T hT X
  have hpl : e.platform.magicAccessors = ({} : Platform).magicAccessors := by rw [X.admits.platform]
  obtain ⟨vm', hW', X', st⟩ := X.outThrough hlocks q (g := F0 m pc ls rest) rfl rfl rfl (cell := ce) (by rw [hT]; exact hcell) (by rw [hv]; rfl)
    (by obtain ⟨k9, h9, -⟩ := Vm.findClass_spec hcl; exact ⟨k9, h9⟩) (fun z hz => by
      rcases hpass z hz with h | ⟨hz0, nm, hl1, hn1⟩
      · exact Or.inl h
      · obtain ⟨c6, hc6, hcl6⟩ := Cond.classLink_spec hown hl1 e.platform hpl
        obtain ⟨a8, b8, h1, h2, h3⟩ := hn1
        cases Option.some.inj (h1.symm.trans hcl)
        cases Option.some.inj (h2.symm.trans hc6)
        exact Or.inr ⟨hz0, _, hcl6, h3⟩)
  obtain ⟨g₀, hfr⟩ := X'.frames_eq
  have hcell9 : ((T.setVm vm').setFrames (.throwing q :: below)).heap[q]? = some ce := by
    show T.heap[q]? = some ce
    rw [hT]; exact hcell
  have hend : Ended ((T.setVm vm').setFrames (.throwing q :: below)) below (.threw q) := State.frames_setFrames _ (State.cur_lt_of_frames hfr)
  refine ⟨(T.setVm vm').setFrames (.throwing q :: below), ?_, .threw q, X'.here.running, hend, Or.inr ⟨q, rfl, E, ce, locs, hx _ hT (X'.ends _).1.alike, hcell9, hv, hcl, (X'.ends _).1, (X'.ends _).2.mono hc hs, hf⟩⟩
  rw [X.pushThrowing_eq]
  exact st
/-- a thing of a world lies in the heap -/
theorem vx_lt {D : va_G} {cl : List vw_C} {ws : va_W} {H1 : Heap} (h : va_P D cl ws H1) {k : Nat} {q : Nat × va_E} (hk : ws[k]? = some q) : q.1 < H1.size := (h k q hk).lt
end VXS
/-! ===== END ===== -/
/-! ===== BEGIN methods with a table of their own: called by a name, returning or throwing ===== -/
section VXH
/-! vx_backW, vx_callVX, vx_callSX, vx_callVW, vx_runVW, vx_runVX, vx_runSX, vx_ofWH follow the same proofs as their sisters above (Free/Laws.lean, Shelf42/LK1.lean); vx_outP calls Shelf42/NT130.lean (outThrough). -/
section
variable {l : Launch} {R : Room} {p : Program} {e : Env} {below : List Frame} {s : State} {sargs : Array Value} {y : MethodName} {len W9 : Nat}
theorem vx_backW {ws : List Cond} {rm : Room} {Pc : Array Value → State → Prop} {Qc : Array Value → State → Outcome → State → Prop} {XC : String → State → State → Prop} {mc ms : Nat} {free : Addr → Prop} {bytes : ByteArray} {maxL : Nat} {ret : Option FieldType} {hh : List (Nat × Nat × Nat × Nat)}
    (hM : vx_Met l y ws rm Pc Qc XC mc ms free) (hblind : FrameBlind Pc) (hrc : rm.cells = mc) (hrs : rm.slots = ms)
    (hframes : rm.frames + 1 ≤ R.frames) (hlocals : W9 + (maxL + 11) + rm.locals ≤ R.locals)
    (hws : ∀ w ∈ ws, ∀ a' U, s.WarmedH U.vm → w.before a' U = true) (hcode : Cond.codeWith y bytes maxL ret hh ∈ ws) (hinit : ∀ a' U, s.WarmedH U.vm → (Cond.initialized y.cls).before a' U = true) :
    vx_Back l R p e below s sargs y len W9 (PreOf R mc ms Pc) (PostOf Qc mc ms free) (vx_Post XC mc ms free) := by
  intro m meth c A g ig mk a X hg hsize hdg hW hn hp
  have h1 : (headSpec ws rm).pre.before a A.U = true := atoms_intro fun w hw => hws w hw _ _ X.warmed
  have h2 : (Cond.codeWith y bytes maxL ret hh).before a A.U = true := hws _ hcode _ _ X.warmed
  have h3 : (Cond.initialized y.cls).before a A.U = true := hinit _ _ X.warmed
  have h4 : A.cells + (headSpec ws rm).room.cells ≤ R.cells := by rw [show (headSpec ws rm).room.cells = mc from hrc]; exact hp.1
  have h5 : A.slots + (headSpec ws rm).room.slots ≤ R.slots := by rw [show (headSpec ws rm).room.slots = ms from hrs]; exact hp.2.1
  have hPc : Pc a (A.U.calling g mk a) := hblind _ _ _ _ hp.2.2
  obtain ⟨U, Ls, c0, s0⟩ := A
  dsimp only [Pt.U, Pt.locs, Pt.cells, Pt.slots] at h1 h2 h3 h4 h5 X hn hPc ⊢
  obtain ⟨m9, methY, cY, hn9, hmY, hcY, -, hlY, -⟩ := Cond.codeWith_spec h2
  cases Option.some.inj (hn9.symm.trans hn)
  obtain ⟨kY, hkY, -⟩ := className_of_methodNamed hn
  have hinitY : kY.init = .initialized := Cond.initialized_spec (findClass_of_methodNamed hn) hkY h3
  have h : At U g.method c below := by rw [hg]; exact X.here
  have hlocals9 : W9 + (maxL + 11) + (headSpec ws rm).room.locals ≤ R.locals := hlocals
  have happ : (headSpec ws rm).appliesLoose y e.platform (U.calling g mk a) = true :=
    Spec.appliesLoose_calling (g := g) h hdg hn hkY hinitY
      (X.room_calling (g := g) (R' := (headSpec ws rm).room) hsize hmY hcY hframes (by rw [hlY]; omega) h4 h5) h1
  obtain ⟨mid, hmid⟩ := h.above
  have hfr : (U.setTop g).frames = (.java g :: mid) ++ below := by rw [State.frames_setTop' g h.top, hmid]; rfl
  obtain ⟨o, s₂, hsteps, -, hend, hq⟩ := Steps.callFree hM p X.admits X.cas X.clock (acts := []) hfr happ hPc trivial
  have hq' : vx_Q Qc XC mc ms free a (U.calling g mk a) o s₂ := hq
  rw [State.frames_setTop' g h.top] at hend
  obtain ⟨g₀, hg0⟩ := Option.isSome_iff_exists.mp h.top
  obtain ⟨r, hr⟩ := State.topJava?_eq_some.mp hg0
  have hr' : (({ U with heap := s₂.heap, slotsUsed := s₂.slotsUsed } : State).setVm s₂.vm).frames = .java g₀ :: r := hr
  rcases hq' with ⟨hqc, L, hfe, hL⟩ | ⟨q, rfl, E, ce, L, hx, hce, hcv, hcl, hW₂, hsm, hL⟩
  · obtain ⟨⟨v, rfl⟩, hW₂, e2, q2, q3, q4, q5, q6⟩ := id hfe
    have e3 : s₂ = ({ (U.calling g mk a).setFrames s₂.frames with heap := s₂.heap, slotsUsed := s₂.slotsUsed } : State).setVm s₂.vm := by
      have : s₂ = ({ s₂ with vm := (U.calling g mk a).vm } : State).setVm s₂.vm := rfl
      rw [e2] at this
      exact this
    obtain ⟨c₂, i₂, len₂, hc₂, hd₂, hf₂⟩ := hend
    have hW' : U.WarmedH s₂.vm := hW₂
    have hcc : c₂ = c := by
      have h1 : s₂.code? g.method = U.code? g.method := by
        rw [State.code?_eq, State.code?_eq, hW'.alike.method?]
      exact Option.some.inj (hc₂.symm.trans (h1.trans h.code))
    subst hcc
    have hlen : len₂ = len := by rw [hdg] at hd₂; cases hd₂; rfl
    subst hlen
    have hs₂ : s₂ = (({ U with heap := s₂.heap, slotsUsed := s₂.slotsUsed } : State).setVm s₂.vm).setTop { g with pc := g.pc + len₂, stack := v.toList ++ g.stack } := by
      refine e3.trans ?_
      rw [hf₂, State.calling_eq h.top, State.setFrames_setFrames, State.setTop_of_frames _ hr', hr]
      rfl
    have hsame : U.sameButNew ({ U with heap := s₂.heap, slotsUsed := s₂.slotsUsed } : State) L mc ms := by
      refine ⟨?_, q2, q3, q4, q5, q6⟩
      obtain ⟨t, ht, -⟩ := State.frames_cons hr
      show ({ U with heap := s₂.heap, slotsUsed := s₂.slotsUsed } : State) = { U.setFrames U.frames with heap := s₂.heap, slotsUsed := s₂.slotsUsed }
      rw [State.setFrames_self ht]
    subst hg
    refine Or.inl ⟨v, ⟨(({ U with heap := s₂.heap, slotsUsed := s₂.slotsUsed } : State).setVm s₂.vm), Ls ++ L, c0 + mc, s0 + ms⟩,
      ⟨X.admits, X.cas, X.clock, X.frames, X.room, X.hears, X.method, X.code, (X.here.setHeapUsed s₂.heap s₂.slotsUsed).setVm hW'.alike, X.tail, State.WarmedH.trans X.warmed hW', X.limits, X.bytes, X.same.trans (hsame.setVm s.vm)⟩,
      ⟨g, mk, s₂, L, rfl, rfl, hqc, rfl, hL, rfl, rfl⟩, ?_⟩
    show Steps p.tables e below _ ((({ U with heap := s₂.heap, slotsUsed := s₂.slotsUsed } : State).setVm s₂.vm).setTop { g with pc := g.pc + len₂, stack := v.toList ++ g.stack })
    rw [← hs₂]
    exact hsteps
  · obtain ⟨e2, q2, q3, q4, q5, q6⟩ := id hsm
    have e3 : s₂ = ({ (U.calling g mk a).setFrames s₂.frames with heap := s₂.heap, slotsUsed := s₂.slotsUsed } : State).setVm s₂.vm := by
      have : s₂ = ({ s₂ with vm := (U.calling g mk a).vm } : State).setVm s₂.vm := rfl
      rw [e2] at this
      exact this
    have hf₂ : s₂.frames = .throwing q :: .java g :: U.frames.tail := hend
    have hW' : U.WarmedH s₂.vm := hW₂
    have hs₂ : s₂ = ((({ U with heap := s₂.heap, slotsUsed := s₂.slotsUsed } : State).setVm s₂.vm).setTop g).pushFrame (.throwing q) := by
      refine e3.trans ?_
      rw [hf₂, State.calling_eq h.top, State.setFrames_setFrames, State.pushFrame, State.frames_setTop _ hr', State.setTop_of_frames _ hr', State.setFrames_setFrames, hr]
      rfl
    have hsame : U.sameButNew ({ U with heap := s₂.heap, slotsUsed := s₂.slotsUsed } : State) L mc ms := by
      refine ⟨?_, q2, q3, q4, q5, q6⟩
      obtain ⟨t, ht, -⟩ := State.frames_cons hr
      show ({ U with heap := s₂.heap, slotsUsed := s₂.slotsUsed } : State) = { U.setFrames U.frames with heap := s₂.heap, slotsUsed := s₂.slotsUsed }
      rw [State.setFrames_self ht]
    subst hg
    refine Or.inr ⟨q, ⟨(({ U with heap := s₂.heap, slotsUsed := s₂.slotsUsed } : State).setVm s₂.vm), Ls ++ L, c0 + mc, s0 + ms⟩,
      ⟨X.admits, X.cas, X.clock, X.frames, X.room, X.hears, X.method, X.code, (X.here.setHeapUsed s₂.heap s₂.slotsUsed).setVm hW'.alike, X.tail, State.WarmedH.trans X.warmed hW', X.limits, X.bytes, X.same.trans (hsame.setVm s.vm)⟩,
      ⟨g, mk, s₂, L, E, ce, rfl, rfl, hx, hce, hcv, hcl, rfl, hL, rfl, rfl⟩, ?_⟩
    show Steps p.tables e below _ (((({ U with heap := s₂.heap, slotsUsed := s₂.slotsUsed } : State).setVm s₂.vm).setTop g).pushFrame (.throwing q))
    rw [← hs₂]
    exact hsteps
end
variable {p : Program} {l : Launch} {e : Env} {R : Room} {s : State} {m : MethodId} {args : Array Value} {below : List Frame} {meth : Method} {c : Code} {T : State} {H : Heap} {locs : List Loc} {cells slots : Nat}
theorem vx_callVX (X : Stand p l e R s m args below meth c T locs cells slots) (hexec : p.tables.exec = Jvm.exec) {own C : String} {index : Nat} {y : MethodName} {bytes : ByteArray} {maxL : Nat} {ret : Option FieldType} {hh : List (Nat × Nat × Nat × Nat)}
    (hown : s.vm.findClass own = some m.cls) (hlink : (Cond.methodLink own index y).before args s = true) (hinst : (Cond.instanceMethod y).before args s = true) (hsel : (Cond.selects C y y).before args s = true)
    (hcode : (Cond.codeWith y bytes maxL ret hh).before args s = true) (hy : y.cls ≠ "java/lang/invoke/MethodHandle" ∧ y.cls ≠ "java/lang/invoke/VarHandle")
    {W9 : Nat} {Pre : Pt → Array Value → Prop} {Post : Pt → Array Value → Option Value → Pt → Prop} {PostX : Pt → Array Value → Addr → Pt → Prop} (hK : vx_Back l R p e below s args y 3 W9 Pre Post PostX)
    {b : Addr} {cellB : Cell} (hcell : T.heap[b]? = some cellB) (hobj : cellB.vm.isStatics = false) (hcls : s.vm.findClass C = some cellB.cls)
    {g : JFrame} (hg : g.method = m) (hsize : g.locals.size = c.maxLocals) {argsL rest : List Value} (hlen : ∀ sig, parseMethodDescriptor y.desc = some sig → argsL.length = sig.parameters.length)
    (hstack : g.stack = argsL.reverse ++ .ref b :: rest) (hW : 2 * g.monitorRoom + (rest.map fun v => v.category).sum ≤ W9) (hdg : decode c.code g.pc = .ok (.invokevirtual index, 3))
    (hpre : ∀ vm₁, s.WarmedH vm₁ → Pre ⟨T.setVm vm₁, locs, cells, slots⟩ (Value.ref b :: argsL).toArray) :
    (∃ (v : Option Value) (vm₁ : Vm) (B : Pt), s.WarmedH vm₁ ∧ Stand p l e R s m args below meth c B.U B.locs B.cells B.slots ∧ Post ⟨T.setVm vm₁, locs, cells, slots⟩ (Value.ref b :: argsL).toArray v B ∧
      ∀ target, Steps p.tables e below (B.U.setTop { g with pc := g.pc + 3, stack := v.toList ++ rest }) target → Steps p.tables e below (T.setTop g) target) ∨
    (∃ (q : Addr) (vm₁ : Vm) (B : Pt), s.WarmedH vm₁ ∧ Stand p l e R s m args below meth c B.U B.locs B.cells B.slots ∧ PostX ⟨T.setVm vm₁, locs, cells, slots⟩ (Value.ref b :: argsL).toArray q B ∧
      Steps p.tables e below (T.setTop g) ((B.U.setTop { g with stack := rest }).pushFrame (.throwing q))) := by
  obtain ⟨mk, methM, hnamed, hmethM, hstM, habM⟩ := Cond.instanceMethod_spec hinst
  obtain ⟨m8, methM', cM, hn8, hmethM', -, -, -, -, -, -, hsigM⟩ := Cond.codeWith_spec hcode
  cases Option.some.inj (hn8.symm.trans hnamed)
  cases hmethM.symm.trans hmethM'
  obtain ⟨c2, r2, m2, q1, q2, q3, q4, kP, hkP, hkPi⟩ := Cond.selects_spec hsel
  cases hcls.symm.trans q1
  cases (State.methodFound?_of_named hnamed hy).symm.trans q2
  cases hnamed.symm.trans q3
  have hselP : selectMethod e.platform s.vm cellB.cls mk = .method mk := by rw [Launch.admits_selectMethod X.admits]; exact q4
  obtain ⟨vm₁, X₁, hstep₁⟩ := X.invokevirtual hexec hown hlink hnamed hmethM hstM hkP hkPi hy (a := b) (cell := cellB) hcell
    (fun z h => by rw [h] at hobj; cases hobj) hselP hmethM habM hkP hkPi (g := g) hg (argsL := argsL) (rest := rest) (hlen _ hsigM) hstack hdg
  rcases hK m meth c ⟨T.setVm vm₁, locs, cells, slots⟩ { g with stack := rest } (.invokevirtual index) mk (Value.ref b :: argsL).toArray X₁ hg hsize hdg hW (X₁.named hnamed) (hpre vm₁ X₁.warmed) with ⟨v, B, X', hpost, hsteps⟩ | ⟨q, B, X', hpost, hsteps⟩
  · exact Or.inl ⟨v, vm₁, B, X₁.warmed, X', hpost, fun target h => hstep₁ _ fun acts => by rw [doInvoke_state]; exact hsteps.trans h⟩
  · exact Or.inr ⟨q, vm₁, B, X₁.warmed, X', hpost, hstep₁ _ fun acts => by rw [doInvoke_state]; exact hsteps⟩
theorem vx_callSX (X : Stand p l e R s m args below meth c T locs cells slots) (hexec : p.tables.exec = Jvm.exec) {own : String} {index : Nat} {y : MethodName} {bytes : ByteArray} {maxL : Nat} {ret : Option FieldType} {hh : List (Nat × Nat × Nat × Nat)}
    (hown : s.vm.findClass own = some m.cls) (hlink : (Cond.methodLink own index y).before args s = true) (hstat : (Cond.static y).before args s = true) (hinit : (Cond.initialized y.cls).before args s = true)
    (hcode : (Cond.codeWith y bytes maxL ret hh).before args s = true) (hy : y.cls ≠ "java/lang/invoke/MethodHandle" ∧ y.cls ≠ "java/lang/invoke/VarHandle")
    {W9 : Nat} {Pre : Pt → Array Value → Prop} {Post : Pt → Array Value → Option Value → Pt → Prop} {PostX : Pt → Array Value → Addr → Pt → Prop} (hK : vx_Back l R p e below s args y 3 W9 Pre Post PostX)
    {g : JFrame} (hg : g.method = m) (hsize : g.locals.size = c.maxLocals) {argsL rest : List Value} (hlen : ∀ sig, parseMethodDescriptor y.desc = some sig → argsL.length = sig.parameters.length)
    (hstack : g.stack = argsL.reverse ++ rest) (hW : 2 * g.monitorRoom + (rest.map fun v => v.category).sum ≤ W9) (hdg : decode c.code g.pc = .ok (.invokestatic index, 3))
    (hpre : ∀ vm₁, s.WarmedH vm₁ → Pre ⟨T.setVm vm₁, locs, cells, slots⟩ argsL.toArray) :
    (∃ (v : Option Value) (vm₁ : Vm) (B : Pt), s.WarmedH vm₁ ∧ Stand p l e R s m args below meth c B.U B.locs B.cells B.slots ∧ Post ⟨T.setVm vm₁, locs, cells, slots⟩ argsL.toArray v B ∧
      ∀ target, Steps p.tables e below (B.U.setTop { g with pc := g.pc + 3, stack := v.toList ++ rest }) target → Steps p.tables e below (T.setTop g) target) ∨
    (∃ (q : Addr) (vm₁ : Vm) (B : Pt), s.WarmedH vm₁ ∧ Stand p l e R s m args below meth c B.U B.locs B.cells B.slots ∧ PostX ⟨T.setVm vm₁, locs, cells, slots⟩ argsL.toArray q B ∧
      Steps p.tables e below (T.setTop g) ((B.U.setTop { g with stack := rest }).pushFrame (.throwing q))) := by
  obtain ⟨mk, methM, cM, hnamed, hmethM, -, -, -, -, -, -, hsigM⟩ := Cond.codeWith_spec hcode
  have hstatic : methM.isStatic = true := Cond.static_spec hnamed hmethM hstat
  obtain ⟨kP, hkP, -⟩ := className_of_methodNamed hnamed
  have hinitP : kP.init = .initialized := Cond.initialized_spec (findClass_of_methodNamed hnamed) hkP hinit
  obtain ⟨vm₁, X₁, hstep₁⟩ := X.invokestatic hexec hown hlink hnamed hmethM hstatic hkP hinitP hy (g := g) hg (argsL := argsL) (rest := rest) (hlen _ hsigM) hstack hdg
  rcases hK m meth c ⟨T.setVm vm₁, locs, cells, slots⟩ { g with stack := rest } (.invokestatic index) mk argsL.toArray X₁ hg hsize hdg hW (X₁.named hnamed) (hpre vm₁ X₁.warmed) with ⟨v, B, X', hpost, hsteps⟩ | ⟨q, B, X', hpost, hsteps⟩
  · exact Or.inl ⟨v, vm₁, B, X₁.warmed, X', hpost, fun target h => hstep₁ _ fun acts => by rw [doInvoke_state]; exact hsteps.trans h⟩
  · exact Or.inr ⟨q, vm₁, B, X₁.warmed, X', hpost, hstep₁ _ fun acts => by rw [doInvoke_state]; exact hsteps⟩
theorem vx_callVW (X : Stand p l e R s m args below meth c T locs cells slots) (hexec : p.tables.exec = Jvm.exec) {own C : String} {index : Nat} {y : MethodName} {bytes : ByteArray} {maxL : Nat} {ret : Option FieldType} {hh : List (Nat × Nat × Nat × Nat)}
    (hown : s.vm.findClass own = some m.cls) (hlink : (Cond.methodLink own index y).before args s = true) (hinst : (Cond.instanceMethod y).before args s = true) (hsel : (Cond.selects C y y).before args s = true)
    (hcode : (Cond.codeWith y bytes maxL ret hh).before args s = true) (hy : y.cls ≠ "java/lang/invoke/MethodHandle" ∧ y.cls ≠ "java/lang/invoke/VarHandle")
    {W9 : Nat} {Pre : Pt → Array Value → Prop} {Post : Pt → Array Value → Option Value → Pt → Prop} (hK : Back l R p e below s args y 3 W9 Pre Post)
    {b : Addr} {cellB : Cell} (hcell : T.heap[b]? = some cellB) (hobj : cellB.vm.isStatics = false) (hcls : s.vm.findClass C = some cellB.cls)
    {g : JFrame} (hg : g.method = m) (hsize : g.locals.size = c.maxLocals) {argsL rest : List Value} (hlen : ∀ sig, parseMethodDescriptor y.desc = some sig → argsL.length = sig.parameters.length)
    (hstack : g.stack = argsL.reverse ++ .ref b :: rest) (hW : 2 * g.monitorRoom + (rest.map fun v => v.category).sum ≤ W9) (hdg : decode c.code g.pc = .ok (.invokevirtual index, 3))
    (hpre : ∀ vm₁, s.WarmedH vm₁ → Pre ⟨T.setVm vm₁, locs, cells, slots⟩ (Value.ref b :: argsL).toArray) :
    ∃ (v : Option Value) (vm₁ : Vm) (B : Pt), s.WarmedH vm₁ ∧ Stand p l e R s m args below meth c B.U B.locs B.cells B.slots ∧ Post ⟨T.setVm vm₁, locs, cells, slots⟩ (Value.ref b :: argsL).toArray v B ∧
      ∀ target, Steps p.tables e below (B.U.setTop { g with pc := g.pc + 3, stack := v.toList ++ rest }) target → Steps p.tables e below (T.setTop g) target := by
  obtain ⟨mk, methM, hnamed, hmethM, hstM, habM⟩ := Cond.instanceMethod_spec hinst
  obtain ⟨m8, methM', cM, hn8, hmethM', -, -, -, -, -, -, hsigM⟩ := Cond.codeWith_spec hcode
  cases Option.some.inj (hn8.symm.trans hnamed)
  cases hmethM.symm.trans hmethM'
  obtain ⟨c2, r2, m2, q1, q2, q3, q4, kP, hkP, hkPi⟩ := Cond.selects_spec hsel
  cases hcls.symm.trans q1
  cases (State.methodFound?_of_named hnamed hy).symm.trans q2
  cases hnamed.symm.trans q3
  have hselP : selectMethod e.platform s.vm cellB.cls mk = .method mk := by rw [Launch.admits_selectMethod X.admits]; exact q4
  obtain ⟨vm₁, X₁, hstep₁⟩ := X.invokevirtual hexec hown hlink hnamed hmethM hstM hkP hkPi hy (a := b) (cell := cellB) hcell
    (fun z h => by rw [h] at hobj; cases hobj) hselP hmethM habM hkP hkPi (g := g) hg (argsL := argsL) (rest := rest) (hlen _ hsigM) hstack hdg
  obtain ⟨v, B, X', hpost, hsteps⟩ := hK m meth c ⟨T.setVm vm₁, locs, cells, slots⟩ { g with stack := rest } (.invokevirtual index) mk (Value.ref b :: argsL).toArray X₁ hg hsize hdg hW (X₁.named hnamed) (hpre vm₁ X₁.warmed)
  exact ⟨v, vm₁, B, X₁.warmed, X', hpost, fun target h => hstep₁ _ fun acts => by rw [doInvoke_state]; exact hsteps.trans h⟩
abbrev vx_CVW (R : Room) (s : State) (args : Array Value) (own C : String) (index : Nat) (y : MethodName) (bytes : ByteArray) (maxL : Nat) (ret : Option FieldType) (hh : List (Nat × Nat × Nat × Nat)) (ws : List Cond) (rm : Room) (mc ms n : Nat) : Prop :=
  (rm.cells = mc ∧ rm.slots = ms ∧ rm.frames + 1 ≤ R.frames ∧ 8 + (maxL + 11) + rm.locals ≤ R.locals ∧ (∀ w ∈ ws, ∀ (a' : Array Value) (U : State), s.WarmedH U.vm → w.before a' U = true) ∧ Cond.codeWith y bytes maxL ret hh ∈ ws) ∧
  (Cond.codeWith y bytes maxL ret hh).before args s = true ∧ (Cond.initialized y.cls).before args s = true ∧ (y.cls ≠ "java/lang/invoke/MethodHandle" ∧ y.cls ≠ "java/lang/invoke/VarHandle") ∧
  (∀ sig, parseMethodDescriptor y.desc = some sig → n = sig.parameters.length) ∧ (Cond.methodLink own index y).before args s = true ∧ (Cond.instanceMethod y).before args s = true ∧ (Cond.selects C y y).before args s = true
theorem vx_cwVW {own C : String} {index maxL mc ms : Nat} {y : MethodName} {bytes : ByteArray} {ret : Option FieldType} {hh : List (Nat × Nat × Nat × Nat)} {Ts ws ws' : List Cond} {rm : Room} (n : Nat) (ht : ∀ w ∈ Ts, w.before args s = true) (hT : GoodIn Ts (wsV own index C y ws)) (hw : ws = Cond.codeWith y bytes maxL ret hh :: ws') (hrc : rm.cells = mc) (hrs : rm.slots = ms)
    (hd : y.cls = C ∧ y.cls ≠ "java/lang/invoke/MethodHandle" ∧ y.cls ≠ "java/lang/invoke/VarHandle" ∧ (parseMethodDescriptor y.desc).map (fun d => d.parameters.length) = some n) (hR : rm.frames + 1 ≤ R.frames ∧ 8 + (maxL + 11) + rm.locals ≤ R.locals) :
    vx_CVW R s args own C index y bytes maxL ret hh ws rm mc ms n := by
  obtain ⟨hC, hd⟩ := hd
  subst hC
  have ok : ∀ w ∈ wsV own index y.cls y ws, w.before args s = true := fun w h => ht w (hT w h).1
  have hG : GoodIn Ts ws := fun w h => hT w (by unfold wsV; exact List.mem_append_right _ h)
  have hc : Cond.codeWith y bytes maxL ret hh ∈ ws := by rw [hw]; exact List.mem_cons_self
  refine ⟨⟨hrc, hrs, hR.1, hR.2, pay_in ht hG, hc⟩, ht _ (hG _ hc).1, ok _ (by simp [wsV]), ⟨hd.1, hd.2.1⟩, fun sig h => ?_, ok _ (by simp [wsV]), ok _ (by simp [wsV]), ok _ (by simp [wsV])⟩
  have h2 := hd.2.2
  rw [h] at h2
  exact (Option.some.inj h2).symm
theorem vx_runVW {y : MethodName} {bytes cc : ByteArray} {maxL nL mc ms n index : Nat} {ret : Option FieldType} {hh : List (Nat × Nat × Nat × Nat)} {ws : List Cond} {rm : Room} {Pc : Array Value → State → Prop} {Qc : Array Value → State → Outcome → State → Prop} {free : Addr → Prop} {Ts : List Cond} {own C : String} {b : Addr} {As rest : List Value} {g : JFrame}
    (S : CallFix p m c cc nL s args Ts own) (hM : Met l y ws rm Pc Qc mc ms free) (cw : vx_CVW R s args own C index y bytes maxL ret hh ws rm mc ms n) (hp : PreV s H C b Pc As)
    (hg : g.method = m) (hn : As.length = n) (hsize : g.locals.size = nL) (hstack : g.stack = As.reverse ++ .ref b :: rest) (hW : 2 * g.monitorRoom + (rest.map fun v => v.category).sum ≤ 8) (hdg : decode cc g.pc = .ok (.invokevirtual index, 3)) (hf : cells + mc ≤ R.cells ∧ slots + ms ≤ R.slots) :
    va_Run p l e R s m args below meth c H locs cells slots mc ms g rest (Qc (Value.ref b :: As).toArray) free := by
  obtain ⟨⟨hrc, hrs, hfr, hlo, hws, hcw⟩, hcode, hini, hy, hlen, hl, hin, hse⟩ := cw
  have hK : Back l R p e below s args y 3 8 (PreOf R mc ms Pc) (PostOf Qc mc ms free) := va_backW (hh := hh) (bytes := bytes) (maxL := maxL) (ret := ret) hM hp.1 hrc hrs hfr hlo hws hcw (fun a' U hW => word_at hW (Or.inl (by first | rfl | simp [Cond.onTables, Cond.keeps, Cond.steady])) hini)
  obtain ⟨hx, hb, hml, ho, -⟩ := S
  obtain ⟨-, ⟨cellB, hcB, hoB, hclB⟩, hPc⟩ := hp
  intro T hT X
  obtain ⟨v, vm₁, ⟨U', l2, c2, s2⟩, hW₁, X', ⟨g', mk, t, L, e1, e2, hq, h1, hL, h2, h3⟩, st⟩ := vx_callVW X hx (C := C) (hh := hh) (bytes := bytes) (maxL := maxL) (ret := ret) ho hl hin hse hcode hy hK (by rw [hT]; exact hcB) hoB hclB hg (hsize.trans hml.symm) (argsL := As) (rest := rest) (fun sig h => hn.trans (hlen sig h)) hstack hW (by rw [hb]; exact hdg)
    (fun vm₁ hW₁ => ⟨hf.1, hf.2, hPc (T.setVm vm₁) hT hW₁⟩)
  dsimp only [Pt.U, Pt.locs, Pt.cells, Pt.slots] at X' e1 e2 h1 h2 h3 st
  subst h1; subst h2; subst h3
  exact ⟨v, (T.setVm vm₁).calling g' mk (Value.ref b :: As).toArray, t, U', L, hT, X', hL, e1, e2, hq, st⟩
section
variable {y : MethodName} {bytes cc : ByteArray} {maxL nL mc ms n index : Nat} {ret : Option FieldType} {ws : List Cond} {rm : Room} {Pc : Array Value → State → Prop} {Qc : Array Value → State → Outcome → State → Prop} {XC : String → State → State → Prop} {free : Addr → Prop} {Ts : List Cond} {own C : String} {b : Addr} {As rest : List Value} {g : JFrame}
theorem vx_runVX {hh : List (Nat × Nat × Nat × Nat)} (S : CallFix p m c cc nL s args Ts own) (hM : vx_Met l y ws rm Pc Qc XC mc ms free) (cw : vx_CVW R s args own C index y bytes maxL ret hh ws rm mc ms n) (hp : PreV s H C b Pc As)
    (hg : g.method = m) (hn : As.length = n) (hsize : g.locals.size = nL) (hstack : g.stack = As.reverse ++ .ref b :: rest) (hW : 2 * g.monitorRoom + (rest.map fun v => v.category).sum ≤ 8) (hdg : decode cc g.pc = .ok (.invokevirtual index, 3)) (hf : cells + mc ≤ R.cells ∧ slots + ms ≤ R.slots) :
    vx_Run p l e R s m args below meth c H locs cells slots mc ms g rest (Qc (Value.ref b :: As).toArray) XC free := by
  obtain ⟨⟨hrc, hrs, hfr, hlo, hws, hcw⟩, hcode, hini, hy, hlen, hl, hin, hse⟩ := cw
  have hK : vx_Back l R p e below s args y 3 8 (PreOf R mc ms Pc) (PostOf Qc mc ms free) (vx_Post XC mc ms free) := vx_backW (hh := hh) (bytes := bytes) (maxL := maxL) (ret := ret) hM hp.1 hrc hrs hfr hlo hws hcw (fun a' U hW => word_at hW (Or.inl (by first | rfl | simp [Cond.onTables, Cond.keeps, Cond.steady])) hini)
  obtain ⟨hx, hb, hml, ho, -⟩ := S
  obtain ⟨-, ⟨cellB, hcB, hoB, hclB⟩, hPc⟩ := hp
  intro T hT X
  rcases vx_callVX X hx (C := C) (hh := hh) (bytes := bytes) (maxL := maxL) (ret := ret) ho hl hin hse hcode hy hK (by rw [hT]; exact hcB) hoB hclB hg (hsize.trans hml.symm) (argsL := As) (rest := rest) (fun sig h => hn.trans (hlen sig h)) hstack hW (by rw [hb]; exact hdg)
    (fun vm₁ hW₁ => ⟨hf.1, hf.2, hPc (T.setVm vm₁) hT hW₁⟩) with ⟨v, vm₁, ⟨U', l2, c2, s2⟩, hW₁, X', ⟨g', mk, t, L, e1, e2, hq, h1, hL, h2, h3⟩, st⟩ | ⟨q, vm₁, ⟨U', l2, c2, s2⟩, hW₁, X', ⟨g', mk, t, L, E, ce, e1, e2, hq, hce, hcv, hcl, h1, hL, h2, h3⟩, st⟩
  · dsimp only [Pt.U, Pt.locs, Pt.cells, Pt.slots] at X' e1 e2 h1 h2 h3 st
    subst h1; subst h2; subst h3
    exact Or.inl ⟨v, (T.setVm vm₁).calling g' mk (Value.ref b :: As).toArray, t, U', L, hT, X', hL, e1, e2, hq, st⟩
  · dsimp only [Pt.U, Pt.locs, Pt.cells, Pt.slots] at X' e1 e2 h1 h2 h3 st hcl
    subst h1; subst h2; subst h3
    exact Or.inr ⟨q, (T.setVm vm₁).calling g' mk (Value.ref b :: As).toArray, t, U', L, E, ce, hT, X', hL, e1, e2, hq, hce, hcv, vx_cls hW₁ hcl, st⟩
theorem vx_runSX {hh : List (Nat × Nat × Nat × Nat)} (S : CallFix p m c cc nL s args Ts own) (hM : vx_Met l y ws rm Pc Qc XC mc ms free) (cw : vx_CSW R s args own index y bytes maxL ret hh ws rm mc ms n) (hp : PreS s H Pc As)
    (hg : g.method = m) (hn : As.length = n) (hsize : g.locals.size = nL) (hstack : g.stack = As.reverse ++ rest) (hW : 2 * g.monitorRoom + (rest.map fun v => v.category).sum ≤ 8) (hdg : decode cc g.pc = .ok (.invokestatic index, 3)) (hf : cells + mc ≤ R.cells ∧ slots + ms ≤ R.slots) :
    vx_Run p l e R s m args below meth c H locs cells slots mc ms g rest (Qc As.toArray) XC free := by
  obtain ⟨⟨hrc, hrs, hfr, hlo, hws, hcw⟩, hcode, hini, hy, hlen, hl, hstt⟩ := cw
  have hK : vx_Back l R p e below s args y 3 8 (PreOf R mc ms Pc) (PostOf Qc mc ms free) (vx_Post XC mc ms free) := vx_backW (hh := hh) (bytes := bytes) (maxL := maxL) (ret := ret) hM hp.1 hrc hrs hfr hlo hws hcw (fun a' U hW => word_at hW (Or.inl (by first | rfl | simp [Cond.onTables, Cond.keeps, Cond.steady])) hini)
  obtain ⟨hx, hb, hml, ho, -⟩ := S
  intro T hT X
  rcases vx_callSX X hx (hh := hh) (bytes := bytes) (maxL := maxL) (ret := ret) ho hl hstt hini hcode hy hK hg (hsize.trans hml.symm) (argsL := As) (rest := rest) (fun sig h => hn.trans (hlen sig h)) hstack hW (by rw [hb]; exact hdg)
    (fun vm₁ hW₁ => ⟨hf.1, hf.2, hp.2 (T.setVm vm₁) hT hW₁⟩) with ⟨v, vm₁, ⟨U', l2, c2, s2⟩, hW₁, X', ⟨g', mk, t, L, e1, e2, hq, h1, hL, h2, h3⟩, st⟩ | ⟨q, vm₁, ⟨U', l2, c2, s2⟩, hW₁, X', ⟨g', mk, t, L, E, ce, e1, e2, hq, hce, hcv, hcl, h1, hL, h2, h3⟩, st⟩
  · dsimp only [Pt.U, Pt.locs, Pt.cells, Pt.slots] at X' e1 e2 h1 h2 h3 st
    subst h1; subst h2; subst h3
    exact Or.inl ⟨v, (T.setVm vm₁).calling g' mk As.toArray, t, U', L, hT, X', hL, e1, e2, hq, st⟩
  · dsimp only [Pt.U, Pt.locs, Pt.cells, Pt.slots] at X' e1 e2 h1 h2 h3 st hcl
    subst h1; subst h2; subst h3
    exact Or.inr ⟨q, (T.setVm vm₁).calling g' mk As.toArray, t, U', L, E, ce, hT, X', hL, e1, e2, hq, hce, hcv, vx_cls hW₁ hcl, st⟩
end
end VXH
theorem vx_ofWH {l : Launch} {y : MethodName} {ws ws' : List Cond} {rm : Room} {Pc : Array Value → State → Prop} {Qc : Array Value → State → Outcome → State → Prop} {XC : String → State → State → Prop} {mc ms : Nat} {free : Addr → Prop} {cc : ByteArray} {maxL : Nat} {ret : Option FieldType} {hh : List (Nat × Nat × Nat × Nat)}
    (hy : plainName y.cls = true) (hw : ws = Cond.codeWith y cc maxL ret hh :: ws')
    (body : ∀ p e s m args below meth c s₁, BodyLoose p l y (headSpec ws rm) cc maxL ret e s m args below meth c s₁ → c.maxLocals = maxL → Pc args s →
      W p l e (headSpec ws rm).room s m args below meth c s.heap [] 0 0 (vx_MQ below Qc XC args s mc ms free) (entryFrame m args maxL)) : vx_Met l y ws rm Pc Qc XC mc ms free := by
  refine MetFree.of_bodyS (code := cc) (maxLocals := maxL) (ret := ret) hy ?_ ?_
  · intro args s m h hn
    obtain ⟨m9, meth, c, hn9, h1, h2, h3, h4, -, h5, h6, -⟩ := Cond.codeWith_spec (atoms_spec (ws := ws) h _ (by rw [hw]; exact List.mem_cons_self))
    cases hn.symm.trans hn9
    exact ⟨meth, c, h1, h2, h3, h4, h5, h6⟩
  · intro p e s m args below meth c s₁ B hml hP _
    have hh0 : s₁.heap = s.heap := by rw [B.state]; rfl
    obtain ⟨t, a1, o, b1, b2, b3⟩ := body p e s m args below meth c s₁ B hml hP s₁ hh0 (Stand.of_body B)
    exact ⟨t, o, a1, b1, b2, b3⟩
/-! ===== END ===== -/
end
section
/-! ===== BEGIN printed: names, fields, word lists, decode rows ===== -/
def RX0 : String := "ChicoryRoasters$Bed"
def TX0 : u_T := fun k => match k with
  | 0 => ("ChicoryRoasters$Bed", "grows", "I", false)
  | 1 => ("ChicoryRoasters$Bed", "most", "I", false)
  | _ => ("ChicoryRoasters$Bed", "roots", "I", false)
def tyX0 : Nat → FieldType := fun k => match k with
  | 0 => .int
  | 1 => .int
  | _ => .int
abbrev wsX00 : List Cond := u_ws RX0 TX0 3
theorem nmX0 : ∀ a, a < 3 → ∀ b, b < 3 → a ≠ b → (TX0 a).2.1 ≠ (TX0 b).2.1 := by decide +kernel
theorem tyX0_ok : ∀ k, k < 3 → parseFieldDescriptor (TX0 k).2.2.1 = some (tyX0 k) := by decide +kernel
abbrev cX0_init : ByteArray := prog_2_method_1_code
def yX0_init : MethodName := ⟨RX0, "<init>", "()V"⟩
abbrev cX0_lay : ByteArray := prog_2_method_2_code
def yX0_lay : MethodName := ⟨RX0, "lay", "(II)V"⟩
abbrev cX0_grow : ByteArray := prog_2_method_3_code
def yX0_grow : MethodName := ⟨RX0, "grow", "()V"⟩
abbrev cX0_size : ByteArray := prog_2_method_5_code
def yX0_size : MethodName := ⟨RX0, "size", "()I"⟩
abbrev cX0_tell : ByteArray := prog_2_method_6_code
def yX0_tell : MethodName := ⟨RX0, "tell", "(I)I"⟩
def RX1 : String := "ChicoryRoasters$Card"
def TX1 : u_T := fun k => match k with
  | 0 => ("ChicoryRoasters$Card", "allotted", "I", false)
  | 1 => ("ChicoryRoasters$Card", "picky", "I", false)
  | 2 => ("ChicoryRoasters$Card", "left", "I", false)
  | 3 => ("ChicoryRoasters$Card", "served", "I", false)
  | _ => ("ChicoryRoasters$Card", "refused", "I", false)
def tyX1 : Nat → FieldType := fun k => match k with
  | 0 => .int
  | 1 => .int
  | 2 => .int
  | 3 => .int
  | _ => .int
abbrev wsX10 : List Cond := u_ws RX1 TX1 5
theorem nmX1 : ∀ a, a < 5 → ∀ b, b < 5 → a ≠ b → (TX1 a).2.1 ≠ (TX1 b).2.1 := by decide +kernel
theorem tyX1_ok : ∀ k, k < 5 → parseFieldDescriptor (TX1 k).2.2.1 = some (tyX1 k) := by decide +kernel
abbrev cX1_init : ByteArray := prog_3_method_1_code
def yX1_init : MethodName := ⟨RX1, "<init>", "()V"⟩
abbrev cX1_issue : ByteArray := prog_3_method_2_code
def yX1_issue : MethodName := ⟨RX1, "issue", "(II)V"⟩
abbrev cX1_renew : ByteArray := prog_3_method_3_code
def yX1_renew : MethodName := ⟨RX1, "renew", "()V"⟩
abbrev cX1_serveDay : ByteArray := prog_3_method_4_code
def yX1_serveDay : MethodName := ⟨RX1, "serveDay", "(LChicoryRoasters$Store;)I"⟩
abbrev cX1_serveOne : ByteArray := prog_3_method_5_code
def yX1_serveOne : MethodName := ⟨RX1, "serveOne", "(LChicoryRoasters$Store;)Z"⟩
abbrev cX1_size : ByteArray := prog_3_method_7_code
def yX1_size : MethodName := ⟨RX1, "size", "()I"⟩
abbrev cX1_tell : ByteArray := prog_3_method_8_code
def yX1_tell : MethodName := ⟨RX1, "tell", "(I)I"⟩
def RX2 : String := "ChicoryRoasters$Drum"
def TX2 : u_T := fun k => match k with
  | 0 => ("ChicoryRoasters$Drum", "holds", "I", false)
  | 1 => ("ChicoryRoasters$Drum", "heat", "I", false)
  | 2 => ("ChicoryRoasters$Drum", "kind", "I", false)
  | 3 => ("ChicoryRoasters$Drum", "much", "I", false)
  | _ => ("ChicoryRoasters$Drum", "level", "I", false)
def tyX2 : Nat → FieldType := fun k => match k with
  | 0 => .int
  | 1 => .int
  | 2 => .int
  | 3 => .int
  | _ => .int
abbrev wsX20 : List Cond := u_ws RX2 TX2 5
theorem nmX2 : ∀ a, a < 5 → ∀ b, b < 5 → a ≠ b → (TX2 a).2.1 ≠ (TX2 b).2.1 := by decide +kernel
theorem tyX2_ok : ∀ k, k < 5 → parseFieldDescriptor (TX2 k).2.2.1 = some (tyX2 k) := by decide +kernel
abbrev cX2_init : ByteArray := prog_4_method_1_code
def yX2_init : MethodName := ⟨RX2, "<init>", "()V"⟩
abbrev cX2_install : ByteArray := prog_4_method_2_code
def yX2_install : MethodName := ⟨RX2, "install", "(II)V"⟩
abbrev cX2_fill : ByteArray := prog_4_method_3_code
def yX2_fill : MethodName := ⟨RX2, "fill", "(II)V"⟩
abbrev cX2_warm : ByteArray := prog_4_method_4_code
def yX2_warm : MethodName := ⟨RX2, "warm", "()V"⟩
abbrev cX2_levelAfter : ByteArray := prog_4_method_5_code
def yX2_levelAfter : MethodName := ⟨RX2, "levelAfter", "(I)I"⟩
abbrev cX2_partsAt : ByteArray := prog_4_method_6_code
def yX2_partsAt : MethodName := ⟨RX2, "partsAt", "(I)I"⟩
abbrev cX2_done : ByteArray := prog_4_method_7_code
def yX2_done : MethodName := ⟨RX2, "done", "()I"⟩
abbrev cX2_burnt : ByteArray := prog_4_method_8_code
def yX2_burnt : MethodName := ⟨RX2, "burnt", "()I"⟩
abbrev cX2_size : ByteArray := prog_4_method_11_code
def yX2_size : MethodName := ⟨RX2, "size", "()I"⟩
abbrev cX2_tell : ByteArray := prog_4_method_12_code
def yX2_tell : MethodName := ⟨RX2, "tell", "(I)I"⟩
def RX3 : String := "ChicoryRoasters$Smuggler"
def TX3 : u_T := fun k => match k with
  | 0 => ("ChicoryRoasters$Smuggler", "way", "I", false)
  | 1 => ("ChicoryRoasters$Smuggler", "cargo", "I", false)
  | 2 => ("ChicoryRoasters$Smuggler", "where", "I", false)
  | 3 => ("ChicoryRoasters$Smuggler", "left", "I", false)
  | _ => ("ChicoryRoasters$Smuggler", "arrests", "I", false)
def tyX3 : Nat → FieldType := fun k => match k with
  | 0 => .int
  | 1 => .int
  | 2 => .int
  | 3 => .int
  | _ => .int
abbrev wsX30 : List Cond := u_ws RX3 TX3 5
theorem nmX3 : ∀ a, a < 5 → ∀ b, b < 5 → a ≠ b → (TX3 a).2.1 ≠ (TX3 b).2.1 := by decide +kernel
theorem tyX3_ok : ∀ k, k < 5 → parseFieldDescriptor (TX3 k).2.2.1 = some (tyX3 k) := by decide +kernel
abbrev cX3_init : ByteArray := prog_5_method_1_code
def yX3_init : MethodName := ⟨RX3, "<init>", "()V"⟩
abbrev cX3_hire : ByteArray := prog_5_method_2_code
def yX3_hire : MethodName := ⟨RX3, "hire", "(II)V"⟩
abbrev cX3_setOut : ByteArray := prog_5_method_3_code
def yX3_setOut : MethodName := ⟨RX3, "setOut", "()V"⟩
abbrev cX3_travel : ByteArray := prog_5_method_5_code
def yX3_travel : MethodName := ⟨RX3, "travel", "(Z)I"⟩
abbrev cX3_comeHome : ByteArray := prog_5_method_6_code
def yX3_comeHome : MethodName := ⟨RX3, "comeHome", "()I"⟩
abbrev cX3_size : ByteArray := prog_5_method_8_code
def yX3_size : MethodName := ⟨RX3, "size", "()I"⟩
abbrev cX3_tell : ByteArray := prog_5_method_9_code
def yX3_tell : MethodName := ⟨RX3, "tell", "(I)I"⟩
def RX4 : String := "ChicoryRoasters$Store"
def TX4 : u_T := fun k => match k with
  | 0 => ("ChicoryRoasters$Store", "roots", "I", false)
  | 1 => ("ChicoryRoasters$Store", "beans", "I", false)
  | 2 => ("ChicoryRoasters$Store", "chicory", "I", false)
  | 3 => ("ChicoryRoasters$Store", "coffee", "I", false)
  | 4 => ("ChicoryRoasters$Store", "share", "I", false)
  | 5 => ("ChicoryRoasters$Store", "served", "I", false)
  | _ => ("ChicoryRoasters$Store", "thinned", "I", false)
def tyX4 : Nat → FieldType := fun k => match k with
  | 0 => .int
  | 1 => .int
  | 2 => .int
  | 3 => .int
  | 4 => .int
  | 5 => .int
  | _ => .int
abbrev wsX40 : List Cond := u_ws RX4 TX4 7
theorem nmX4 : ∀ a, a < 7 → ∀ b, b < 7 → a ≠ b → (TX4 a).2.1 ≠ (TX4 b).2.1 := by decide +kernel
theorem tyX4_ok : ∀ k, k < 7 → parseFieldDescriptor (TX4 k).2.2.1 = some (tyX4 k) := by decide +kernel
abbrev cX4_init : ByteArray := prog_6_method_1_code
def yX4_init : MethodName := ⟨RX4, "<init>", "()V"⟩
abbrev cX4_stock : ByteArray := prog_6_method_2_code
def yX4_stock : MethodName := ⟨RX4, "stock", "(I)I"⟩
abbrev cX4_add : ByteArray := prog_6_method_3_code
def yX4_add : MethodName := ⟨RX4, "add", "(II)V"⟩
abbrev cX4_addRoasted : ByteArray := prog_6_method_4_code
def yX4_addRoasted : MethodName := ⟨RX4, "addRoasted", "(II)V"⟩
abbrev cX4_coffeeOfPortion : ByteArray := prog_6_method_5_code
def yX4_coffeeOfPortion : MethodName := ⟨RX4, "coffeeOfPortion", "()I"⟩
abbrev cX4_canMix : ByteArray := prog_6_method_6_code
def yX4_canMix : MethodName := ⟨RX4, "canMix", "(I)Z"⟩
abbrev cX4_servePortion : ByteArray := prog_6_method_7_code
def yX4_servePortion : MethodName := ⟨RX4, "servePortion", "(I)V"⟩
def RX5 : String := "ChicoryRoasters$Teller"
def TX5 : u_T := fun k => match k with
  | _ => ("", "", "", false)
def tyX5 : Nat → FieldType := fun k => match k with
  | _ => .int
abbrev wsX50 : List Cond := u_ws RX5 TX5 0
theorem nmX5 : ∀ a, a < 0 → ∀ b, b < 0 → a ≠ b → (TX5 a).2.1 ≠ (TX5 b).2.1 := by decide +kernel
theorem tyX5_ok : ∀ k, k < 0 → parseFieldDescriptor (TX5 k).2.2.1 = some (tyX5 k) := by decide +kernel
abbrev cX5_init : ByteArray := prog_7_method_1_code
def yX5_init : MethodName := ⟨RX5, "<init>", "()V"⟩
def RX6 : String := "ChicoryRoasters$Town"
def TX6 : u_T := fun k => match k with
  | 0 => ("ChicoryRoasters$Town", "beds", "[LChicoryRoasters$Bed;", true)
  | 1 => ("ChicoryRoasters$Town", "drums", "[LChicoryRoasters$Drum;", true)
  | 2 => ("ChicoryRoasters$Town", "smugglers", "[LChicoryRoasters$Smuggler;", true)
  | 3 => ("ChicoryRoasters$Town", "cards", "[LChicoryRoasters$Card;", true)
  | 4 => ("ChicoryRoasters$Town", "store", "LChicoryRoasters$Store;", true)
  | 5 => ("ChicoryRoasters$Town", "bedCount", "I", false)
  | 6 => ("ChicoryRoasters$Town", "drumCount", "I", false)
  | 7 => ("ChicoryRoasters$Town", "smugglerCount", "I", false)
  | 8 => ("ChicoryRoasters$Town", "cardCount", "I", false)
  | 9 => ("ChicoryRoasters$Town", "day", "I", false)
  | _ => ("ChicoryRoasters$Town", "patrol", "I", false)
def tyX6 : Nat → FieldType := fun k => match k with
  | 0 => .array (.object "ChicoryRoasters$Bed")
  | 1 => .array (.object "ChicoryRoasters$Drum")
  | 2 => .array (.object "ChicoryRoasters$Smuggler")
  | 3 => .array (.object "ChicoryRoasters$Card")
  | 4 => .object "ChicoryRoasters$Store"
  | 5 => .int
  | 6 => .int
  | 7 => .int
  | 8 => .int
  | 9 => .int
  | _ => .int
abbrev wsX60 : List Cond := u_ws RX6 TX6 11
theorem nmX6 : ∀ a, a < 11 → ∀ b, b < 11 → a ≠ b → (TX6 a).2.1 ≠ (TX6 b).2.1 := by decide +kernel
theorem tyX6_ok : ∀ k, k < 11 → parseFieldDescriptor (TX6 k).2.2.1 = some (tyX6 k) := by decide +kernel
abbrev cX6_init : ByteArray := prog_8_method_1_code
def yX6_init : MethodName := ⟨RX6, "<init>", "()V"⟩
abbrev cX6_patrolled : ByteArray := prog_8_method_2_code
def yX6_patrolled : MethodName := ⟨RX6, "patrolled", "(I)Z"⟩
abbrev cX6_live : ByteArray := prog_8_method_3_code
def yX6_live : MethodName := ⟨RX6, "live", "(I)I"⟩
abbrev cX6_travel : ByteArray := prog_8_method_4_code
def yX6_travel : MethodName := ⟨RX6, "travel", "()V"⟩
abbrev cX6_warm : ByteArray := prog_8_method_5_code
def yX6_warm : MethodName := ⟨RX6, "warm", "()V"⟩
abbrev cX6_grow : ByteArray := prog_8_method_6_code
def yX6_grow : MethodName := ⟨RX6, "grow", "()V"⟩
abbrev cX6_serve : ByteArray := prog_8_method_7_code
def yX6_serve : MethodName := ⟨RX6, "serve", "()I"⟩
abbrev cX6_size : ByteArray := prog_8_method_9_code
def yX6_size : MethodName := ⟨RX6, "size", "()I"⟩
abbrev cX6_tell : ByteArray := prog_8_method_10_code
def yX6_tell : MethodName := ⟨RX6, "tell", "(I)I"⟩
def RX7 : String := "ChicoryRoasters"
def TX7 : u_T := fun k => match k with
  | 0 => ("ChicoryRoasters", "town", "LChicoryRoasters$Town;", true)
  | _ => ("ChicoryRoasters", "trial", "LChicoryRoasters$Town;", true)
def tyX7 : Nat → FieldType := fun k => match k with
  | 0 => .object "ChicoryRoasters$Town"
  | _ => .object "ChicoryRoasters$Town"
abbrev wsX70 : List Cond := u_ws RX7 TX7 2
theorem nmX7 : ∀ a, a < 2 → ∀ b, b < 2 → a ≠ b → (TX7 a).2.1 ≠ (TX7 b).2.1 := by decide +kernel
theorem tyX7_ok : ∀ k, k < 2 → parseFieldDescriptor (TX7 k).2.2.1 = some (tyX7 k) := by decide +kernel
abbrev cX7_init : ByteArray := prog_1_method_1_code
def yX7_init : MethodName := ⟨RX7, "<init>", "()V"⟩
abbrev cX7_bed : ByteArray := prog_1_method_2_code
def yX7_bed : MethodName := ⟨RX7, "bed", "(II)I"⟩
abbrev cX7_drum : ByteArray := prog_1_method_3_code
def yX7_drum : MethodName := ⟨RX7, "drum", "(II)I"⟩
abbrev cX7_smuggler : ByteArray := prog_1_method_4_code
def yX7_smuggler : MethodName := ⟨RX7, "smuggler", "(II)I"⟩
abbrev cX7_card : ByteArray := prog_1_method_5_code
def yX7_card : MethodName := ⟨RX7, "card", "(II)I"⟩
abbrev cX7_setPatrol : ByteArray := prog_1_method_6_code
def yX7_setPatrol : MethodName := ⟨RX7, "setPatrol", "(I)I"⟩
abbrev cX7_setShare : ByteArray := prog_1_method_7_code
def yX7_setShare : MethodName := ⟨RX7, "setShare", "(I)I"⟩
abbrev cX7_setHeat : ByteArray := prog_1_method_8_code
def yX7_setHeat : MethodName := ⟨RX7, "setHeat", "(II)I"⟩
abbrev cX7_dig : ByteArray := prog_1_method_9_code
def yX7_dig : MethodName := ⟨RX7, "dig", "(II)I"⟩
abbrev cX7_give : ByteArray := prog_1_method_10_code
def yX7_give : MethodName := ⟨RX7, "give", "(II)I"⟩
abbrev cX7_load : ByteArray := prog_1_method_11_code
def yX7_load : MethodName := ⟨RX7, "load", "(III)I"⟩
abbrev cX7_take : ByteArray := prog_1_method_12_code
def yX7_take : MethodName := ⟨RX7, "take", "(I)I"⟩
abbrev cX7_send : ByteArray := prog_1_method_13_code
def yX7_send : MethodName := ⟨RX7, "send", "(I)I"⟩
abbrev cX7_about : ByteArray := prog_1_method_14_code
def yX7_about : MethodName := ⟨RX7, "about", "(II)I"⟩
abbrev cX7_roast : ByteArray := prog_1_method_15_code
def yX7_roast : MethodName := ⟨RX7, "roast", "(II)I"⟩
abbrev cX7_told : ByteArray := prog_1_method_16_code
def yX7_told : MethodName := ⟨RX7, "told", "(II)I"⟩
abbrev cX7_ration : ByteArray := prog_1_method_17_code
def yX7_ration : MethodName := ⟨RX7, "ration", "(II)I"⟩
abbrev cX7_count : ByteArray := prog_1_method_18_code
def yX7_count : MethodName := ⟨RX7, "count", "(I)I"⟩
abbrev cX7_pass : ByteArray := prog_1_method_19_code
def yX7_pass : MethodName := ⟨RX7, "pass", "(I)I"⟩
abbrev cX7_mean : ByteArray := prog_1_method_24_code
def yX7_mean : MethodName := ⟨RX7, "mean", "()D"⟩
abbrev cX7_checkIndex : ByteArray := prog_1_method_26_code
def yX7_checkIndex : MethodName := ⟨RX7, "checkIndex", "(II)V"⟩
abbrev cX7_checkNumber : ByteArray := prog_1_method_27_code
def yX7_checkNumber : MethodName := ⟨RX7, "checkNumber", "(III)V"⟩
abbrev cX7_checkState : ByteArray := prog_1_method_28_code
def yX7_checkState : MethodName := ⟨RX7, "checkState", "(Z)V"⟩
abbrev cX7_ask : ByteArray := prog_1_method_29_code
def yX7_ask : MethodName := ⟨RX7, "ask", "(LChicoryRoasters$Teller;I)I"⟩
def RX8 : String := "ChicoryRoastersLaw$Sim"
def TX8 : u_T := fun k => match k with
  | 0 => ("ChicoryRoastersLaw$Sim", "day", "I", false)
  | 1 => ("ChicoryRoastersLaw$Sim", "store", "[I", false)
  | 2 => ("ChicoryRoastersLaw$Sim", "parts", "[I", false)
  | 3 => ("ChicoryRoastersLaw$Sim", "served", "I", false)
  | 4 => ("ChicoryRoastersLaw$Sim", "thinned", "I", false)
  | 5 => ("ChicoryRoastersLaw$Sim", "share", "I", false)
  | 6 => ("ChicoryRoastersLaw$Sim", "patrol", "I", false)
  | 7 => ("ChicoryRoastersLaw$Sim", "beds", "[[I", false)
  | 8 => ("ChicoryRoastersLaw$Sim", "drums", "[[I", false)
  | 9 => ("ChicoryRoastersLaw$Sim", "smugglers", "[[I", false)
  | _ => ("ChicoryRoastersLaw$Sim", "cards", "[[I", false)
def tyX8 : Nat → FieldType := fun k => match k with
  | 0 => .int
  | 1 => .array .int
  | 2 => .array .int
  | 3 => .int
  | 4 => .int
  | 5 => .int
  | 6 => .int
  | 7 => .array (.array .int)
  | 8 => .array (.array .int)
  | 9 => .array (.array .int)
  | _ => .array (.array .int)
abbrev wsX80 : List Cond := u_ws RX8 TX8 11
theorem nmX8 : ∀ a, a < 11 → ∀ b, b < 11 → a ≠ b → (TX8 a).2.1 ≠ (TX8 b).2.1 := by decide +kernel
theorem tyX8_ok : ∀ k, k < 11 → parseFieldDescriptor (TX8 k).2.2.1 = some (tyX8 k) := by decide +kernel
abbrev cX8_init : ByteArray := prog_10_method_1_code
def yX8_init : MethodName := ⟨RX8, "<init>", "()V"⟩
abbrev cX8_burnt : ByteArray := prog_10_method_4_code
def yX8_burnt : MethodName := ⟨RX8, "burnt", "(I)I"⟩
abbrev cX8_yields : ByteArray := prog_10_method_5_code
def yX8_yields : MethodName := ⟨RX8, "yields", "([I)I"⟩
abbrev cX8_isThere : ByteArray := prog_10_method_6_code
def yX8_isThere : MethodName := ⟨RX8, "isThere", "(I)Z"⟩
abbrev cX8_pass : ByteArray := prog_10_method_7_code
def yX8_pass : MethodName := ⟨RX8, "pass", "()V"⟩
abbrev cX8_behind : ByteArray := prog_10_method_8_code
def yX8_behind : MethodName := ⟨RX8, "behind", "(I)LChicoryRoastersLaw$Sim;"⟩
abbrev cX8_counted : ByteArray := prog_10_method_9_code
def yX8_counted : MethodName := ⟨RX8, "counted", "(I)I"⟩
abbrev cX8_isSame : ByteArray := prog_10_method_10_code
def yX8_isSame : MethodName := ⟨RX8, "isSame", "(LChicoryRoasters;)Z"⟩
def RX9 : String := "ChicoryRoastersModel"
def TX9 : u_T := fun k => match k with
  | _ => ("", "", "", false)
def tyX9 : Nat → FieldType := fun k => match k with
  | _ => .int
abbrev wsX90 : List Cond := u_ws RX9 TX9 0
theorem nmX9 : ∀ a, a < 0 → ∀ b, b < 0 → a ≠ b → (TX9 a).2.1 ≠ (TX9 b).2.1 := by decide +kernel
theorem tyX9_ok : ∀ k, k < 0 → parseFieldDescriptor (TX9 k).2.2.1 = some (tyX9 k) := by decide +kernel
def RJ9 : String := "java/lang/Math"
def TJ9 : u_T := fun k => match k with
  | _ => ("", "", "", false)
def tyJ9 : Nat → FieldType := fun k => match k with
  | _ => .int
abbrev wsJ90 : List Cond := u_ws RJ9 TJ9 0
theorem nmJ9 : ∀ a, a < 0 → ∀ b, b < 0 → a ≠ b → (TJ9 a).2.1 ≠ (TJ9 b).2.1 := by decide +kernel
theorem tyJ9_ok : ∀ k, k < 0 → parseFieldDescriptor (TJ9 k).2.2.1 = some (tyJ9 k) := by decide +kernel
abbrev cJ9_min_7cf53 : ByteArray := prog_16_method_69_code
def yJ9_min_7cf53 : MethodName := ⟨RJ9, "min", "(II)I"⟩
def RJ0 : String := "java/lang/String"
def TJ0 : u_T := fun k => match k with
  | _ => ("", "", "", false)
def tyJ0 : Nat → FieldType := fun k => match k with
  | _ => .int
abbrev wsJ00 : List Cond := u_ws RJ0 TJ0 0
theorem nmJ0 : ∀ a, a < 0 → ∀ b, b < 0 → a ≠ b → (TJ0 a).2.1 ≠ (TJ0 b).2.1 := by decide +kernel
theorem tyJ0_ok : ∀ k, k < 0 → parseFieldDescriptor (TJ0 k).2.2.1 = some (tyJ0 k) := by decide +kernel
def RL : String := "ChicoryRoastersLaw"
abbrev cL_below : ByteArray := method_2_code
def yL_below : MethodName := ⟨RL, "below", "(II)I"⟩
abbrev cL_cell : ByteArray := method_3_code
def yL_cell : MethodName := ⟨RL, "cell", "([II)I"⟩
abbrev cL_with : ByteArray := method_4_code
def yL_with : MethodName := ⟨RL, "with", "([[I[I)[[I"⟩
abbrev cL_act : ByteArray := method_5_code
def yL_act : MethodName := ⟨RL, "act", "(LChicoryRoasters;LChicoryRoastersLaw$Sim;I)Z"⟩
abbrev cL_build : ByteArray := method_6_code
def yL_build : MethodName := ⟨RL, "build", "(LChicoryRoasters;[I)LChicoryRoastersLaw$Sim;"⟩
abbrev cL_law : ByteArray := code
def yL_law : MethodName := ⟨RL, "law", "([I)Z"⟩
def wsX5_init : List Cond := .code yX5_init cX5_init 1 none :: ([.methodLink RX5 1 objectInit, .instanceMethod objectInit, .code objectInit ⟨#[0xb1]⟩ 1 none])
def wsX0_init : List Cond := .code yX0_init cX0_init 1 none :: ([.instanceMethod yX5_init, .initialized RX5, .code yX5_init cX5_init 1 none, .methodLink RX5 1 objectInit, .instanceMethod objectInit, .code objectInit ⟨#[0xb1]⟩ 1 none])
def wsX0_lay : List Cond := .code yX0_lay cX0_lay 3 none :: ([.fieldLink RX0 7 "ChicoryRoasters$Bed" "grows" "I", .fieldLink RX0 13 "ChicoryRoasters$Bed" "most" "I"] ++ wsX00)
def wsX0_grow : List Cond := .code yX0_grow cX0_grow 1 none :: ([.fieldLink RX0 16 "ChicoryRoasters$Bed" "roots" "I", .fieldLink RX0 7 "ChicoryRoasters$Bed" "grows" "I", .fieldLink RX0 13 "ChicoryRoasters$Bed" "most" "I", .methodLink RX0 19 Lib.Math.min.name, .static Lib.Math.min.name, .initialized "java/lang/Math", .code Lib.Math.min.name Lib.Math.min.code 2 (some .int)] ++ wsX00)
def wsX0_size : List Cond := .code yX0_size cX0_size 1 (some .int) :: ([])
def wsX0_tell : List Cond := .code yX0_tell cX0_tell 2 (some .int) :: ([.fieldLink RX0 7 "ChicoryRoasters$Bed" "grows" "I", .fieldLink RX0 13 "ChicoryRoasters$Bed" "most" "I", .fieldLink RX0 16 "ChicoryRoasters$Bed" "roots" "I"] ++ wsX00)
def wsX1_init : List Cond := .code yX1_init cX1_init 1 none :: ([.instanceMethod yX5_init, .initialized RX5, .code yX5_init cX5_init 1 none, .methodLink RX5 1 objectInit, .instanceMethod objectInit, .code objectInit ⟨#[0xb1]⟩ 1 none])
def wsX1_issue : List Cond := .code yX1_issue cX1_issue 3 none :: ([.fieldLink RX1 9 "ChicoryRoasters$Card" "allotted" "I", .fieldLink RX1 15 "ChicoryRoasters$Card" "picky" "I", .fieldLink RX1 18 "ChicoryRoasters$Card" "left" "I"] ++ wsX10)
def wsX1_renew : List Cond := .code yX1_renew cX1_renew 1 none :: ([.fieldLink RX1 9 "ChicoryRoasters$Card" "allotted" "I", .fieldLink RX1 18 "ChicoryRoasters$Card" "left" "I"] ++ wsX10)
def wsX4_coffeeOfPortion : List Cond := .code yX4_coffeeOfPortion cX4_coffeeOfPortion 1 (some .int) :: ([.fieldLink RX4 9 "ChicoryRoasters$Store" "share" "I", .fieldLink RX4 24 "ChicoryRoasters$Store" "coffee" "I", .methodLink RX4 27 Lib.Math.min.name, .static Lib.Math.min.name, .initialized "java/lang/Math", .code Lib.Math.min.name Lib.Math.min.code 2 (some .int)] ++ wsX40)
def wsX4_canMix : List Cond := .code yX4_canMix cX4_canMix 2 (some .boolean) :: ([.fieldLink RX4 21 "ChicoryRoasters$Store" "chicory" "I"] ++ wsX40)
def wsX4_servePortion : List Cond := .code yX4_servePortion cX4_servePortion 2 none :: ([.fieldLink RX4 9 "ChicoryRoasters$Store" "share" "I", .fieldLink RX4 33 "ChicoryRoasters$Store" "thinned" "I", .fieldLink RX4 24 "ChicoryRoasters$Store" "coffee" "I", .fieldLink RX4 21 "ChicoryRoasters$Store" "chicory" "I", .fieldLink RX4 36 "ChicoryRoasters$Store" "served" "I"] ++ wsX40)
def wsX1_serveOne_r1 : List Cond := [Cond.fieldLink RX1 18 "ChicoryRoasters$Card" "left" "I", Cond.fieldLink RX1 15 "ChicoryRoasters$Card" "picky" "I", Cond.fieldLink RX1 35 "ChicoryRoasters$Card" "refused" "I", Cond.fieldLink RX1 42 "ChicoryRoasters$Card" "served" "I", Cond.methodLink RX1 25 yX4_coffeeOfPortion, Cond.instanceMethod yX4_coffeeOfPortion, Cond.selects RX4 yX4_coffeeOfPortion yX4_coffeeOfPortion, Cond.initialized RX4, Cond.code yX4_coffeeOfPortion cX4_coffeeOfPortion 1 (some .int), Cond.fieldLink RX4 9 "ChicoryRoasters$Store" "share" "I", Cond.fieldLink RX4 24 "ChicoryRoasters$Store" "coffee" "I", Cond.methodLink RX4 27 Lib.Math.min.name, Cond.static Lib.Math.min.name, Cond.initialized "java/lang/Math", Cond.code Lib.Math.min.name Lib.Math.min.code 2 (some .int), Cond.methodLink RX1 31 yX4_canMix, Cond.instanceMethod yX4_canMix, Cond.selects RX4 yX4_canMix yX4_canMix, Cond.code yX4_canMix cX4_canMix 2 (some .boolean), Cond.fieldLink RX4 21 "ChicoryRoasters$Store" "chicory" "I", Cond.methodLink RX1 38 yX4_servePortion, Cond.instanceMethod yX4_servePortion, Cond.selects RX4 yX4_servePortion yX4_servePortion, Cond.code yX4_servePortion cX4_servePortion 2 none]
def wsX1_serveOne_r2 : List Cond := [Cond.fieldLink RX4 33 "ChicoryRoasters$Store" "thinned" "I", Cond.fieldLink RX4 36 "ChicoryRoasters$Store" "served" "I"]
def wsX1_serveOne : List Cond := .code yX1_serveOne cX1_serveOne 3 (some .boolean) :: ((wsX1_serveOne_r1 ++ wsX1_serveOne_r2) ++ wsX10 ++ wsX40)
def wsX1_serveDay_r1 : List Cond := [Cond.methodLink RX1 21 yX1_serveOne, Cond.instanceMethod yX1_serveOne, Cond.selects RX1 yX1_serveOne yX1_serveOne, Cond.initialized RX1, Cond.code yX1_serveOne cX1_serveOne 3 (some .boolean), Cond.fieldLink RX1 18 "ChicoryRoasters$Card" "left" "I", Cond.fieldLink RX1 15 "ChicoryRoasters$Card" "picky" "I", Cond.fieldLink RX1 35 "ChicoryRoasters$Card" "refused" "I", Cond.fieldLink RX1 42 "ChicoryRoasters$Card" "served" "I", Cond.methodLink RX1 25 yX4_coffeeOfPortion, Cond.instanceMethod yX4_coffeeOfPortion, Cond.selects RX4 yX4_coffeeOfPortion yX4_coffeeOfPortion, Cond.initialized RX4, Cond.code yX4_coffeeOfPortion cX4_coffeeOfPortion 1 (some .int), Cond.fieldLink RX4 9 "ChicoryRoasters$Store" "share" "I", Cond.fieldLink RX4 24 "ChicoryRoasters$Store" "coffee" "I", Cond.methodLink RX4 27 Lib.Math.min.name, Cond.static Lib.Math.min.name, Cond.initialized "java/lang/Math", Cond.code Lib.Math.min.name Lib.Math.min.code 2 (some .int), Cond.methodLink RX1 31 yX4_canMix, Cond.instanceMethod yX4_canMix, Cond.selects RX4 yX4_canMix yX4_canMix, Cond.code yX4_canMix cX4_canMix 2 (some .boolean)]
def wsX1_serveDay_r2 : List Cond := [Cond.fieldLink RX4 21 "ChicoryRoasters$Store" "chicory" "I", Cond.methodLink RX1 38 yX4_servePortion, Cond.instanceMethod yX4_servePortion, Cond.selects RX4 yX4_servePortion yX4_servePortion, Cond.code yX4_servePortion cX4_servePortion 2 none, Cond.fieldLink RX4 33 "ChicoryRoasters$Store" "thinned" "I", Cond.fieldLink RX4 36 "ChicoryRoasters$Store" "served" "I"]
def wsX1_serveDay : List Cond := .code yX1_serveDay cX1_serveDay 3 (some .int) :: ((wsX1_serveDay_r1 ++ wsX1_serveDay_r2) ++ wsX10 ++ wsX40)
def wsX1_size : List Cond := .code yX1_size cX1_size 1 (some .int) :: ([])
def wsX1_tell : List Cond := .code yX1_tell cX1_tell 2 (some .int) :: ([.fieldLink RX1 9 "ChicoryRoasters$Card" "allotted" "I", .fieldLink RX1 15 "ChicoryRoasters$Card" "picky" "I", .fieldLink RX1 18 "ChicoryRoasters$Card" "left" "I", .fieldLink RX1 42 "ChicoryRoasters$Card" "served" "I", .fieldLink RX1 35 "ChicoryRoasters$Card" "refused" "I"] ++ wsX10)
def wsX2_init : List Cond := .code yX2_init cX2_init 1 none :: ([.fieldLink RX2 9 "ChicoryRoasters$Drum" "kind" "I", .instanceMethod yX5_init, .initialized RX5, .code yX5_init cX5_init 1 none, .methodLink RX5 1 objectInit, .instanceMethod objectInit, .code objectInit ⟨#[0xb1]⟩ 1 none] ++ wsX20)
def wsX2_install : List Cond := .code yX2_install cX2_install 3 none :: ([.fieldLink RX2 15 "ChicoryRoasters$Drum" "holds" "I", .fieldLink RX2 18 "ChicoryRoasters$Drum" "heat" "I"] ++ wsX20)
def wsX2_fill : List Cond := .code yX2_fill cX2_fill 3 none :: ([.fieldLink RX2 9 "ChicoryRoasters$Drum" "kind" "I", .fieldLink RX2 21 "ChicoryRoasters$Drum" "much" "I", .fieldLink RX2 24 "ChicoryRoasters$Drum" "level" "I"] ++ wsX20)
def wsX2_burnt : List Cond := .code yX2_burnt cX2_burnt 1 (some .int) :: ([.fieldLink RX2 9 "ChicoryRoasters$Drum" "kind" "I"] ++ wsX20)
def wsX2_levelAfter : List Cond := .code yX2_levelAfter cX2_levelAfter 2 (some .int) :: ([.fieldLink RX2 9 "ChicoryRoasters$Drum" "kind" "I", .fieldLink RX2 18 "ChicoryRoasters$Drum" "heat" "I", .methodLink RX2 35 Lib.Math.min.name, .static Lib.Math.min.name, .initialized "java/lang/Math", .code Lib.Math.min.name Lib.Math.min.code 2 (some .int), .methodLink RX2 31 yX2_burnt, .instanceMethod yX2_burnt, .selects RX2 yX2_burnt yX2_burnt, .initialized RX2, .code yX2_burnt cX2_burnt 1 (some .int)] ++ wsX20)
def wsX2_warm : List Cond := .code yX2_warm cX2_warm 1 none :: ([.fieldLink RX2 24 "ChicoryRoasters$Drum" "level" "I", .methodLink RX2 27 yX2_levelAfter, .instanceMethod yX2_levelAfter, .selects RX2 yX2_levelAfter yX2_levelAfter, .initialized RX2, .code yX2_levelAfter cX2_levelAfter 2 (some .int), .fieldLink RX2 9 "ChicoryRoasters$Drum" "kind" "I", .fieldLink RX2 18 "ChicoryRoasters$Drum" "heat" "I", .methodLink RX2 35 Lib.Math.min.name, .static Lib.Math.min.name, .initialized "java/lang/Math", .code Lib.Math.min.name Lib.Math.min.code 2 (some .int), .methodLink RX2 31 yX2_burnt, .instanceMethod yX2_burnt, .selects RX2 yX2_burnt yX2_burnt, .code yX2_burnt cX2_burnt 1 (some .int)] ++ wsX20)
def wsX2_done : List Cond := .code yX2_done cX2_done 1 (some .int) :: ([.fieldLink RX2 9 "ChicoryRoasters$Drum" "kind" "I"] ++ wsX20)
def wsX2_partsAt : List Cond := .code yX2_partsAt cX2_partsAt 3 (some .int) :: ([.fieldLink RX2 9 "ChicoryRoasters$Drum" "kind" "I", .fieldLink RX2 21 "ChicoryRoasters$Drum" "much" "I", .methodLink RX2 41 yX2_done, .instanceMethod yX2_done, .selects RX2 yX2_done yX2_done, .initialized RX2, .code yX2_done cX2_done 1 (some .int), .methodLink RX2 31 yX2_burnt, .instanceMethod yX2_burnt, .selects RX2 yX2_burnt yX2_burnt, .code yX2_burnt cX2_burnt 1 (some .int)] ++ wsX20)
def wsX2_size : List Cond := .code yX2_size cX2_size 1 (some .int) :: ([])
def wsX2_tell : List Cond := .code yX2_tell cX2_tell 2 (some .int) :: ([.fieldLink RX2 15 "ChicoryRoasters$Drum" "holds" "I", .fieldLink RX2 18 "ChicoryRoasters$Drum" "heat" "I", .fieldLink RX2 9 "ChicoryRoasters$Drum" "kind" "I", .fieldLink RX2 21 "ChicoryRoasters$Drum" "much" "I", .fieldLink RX2 24 "ChicoryRoasters$Drum" "level" "I", .methodLink RX2 44 yX2_partsAt, .instanceMethod yX2_partsAt, .selects RX2 yX2_partsAt yX2_partsAt, .initialized RX2, .code yX2_partsAt cX2_partsAt 3 (some .int), .methodLink RX2 41 yX2_done, .instanceMethod yX2_done, .selects RX2 yX2_done yX2_done, .code yX2_done cX2_done 1 (some .int), .methodLink RX2 31 yX2_burnt, .instanceMethod yX2_burnt, .selects RX2 yX2_burnt yX2_burnt, .code yX2_burnt cX2_burnt 1 (some .int)] ++ wsX20)
def wsX3_init : List Cond := .code yX3_init cX3_init 1 none :: ([.instanceMethod yX5_init, .initialized RX5, .code yX5_init cX5_init 1 none, .methodLink RX5 1 objectInit, .instanceMethod objectInit, .code objectInit ⟨#[0xb1]⟩ 1 none])
def wsX3_hire : List Cond := .code yX3_hire cX3_hire 3 none :: ([.fieldLink RX3 9 "ChicoryRoasters$Smuggler" "way" "I", .fieldLink RX3 15 "ChicoryRoasters$Smuggler" "cargo" "I"] ++ wsX30)
def wsX3_setOut : List Cond := .code yX3_setOut cX3_setOut 1 none :: ([.fieldLink RX3 18 "ChicoryRoasters$Smuggler" "where" "I", .fieldLink RX3 9 "ChicoryRoasters$Smuggler" "way" "I", .fieldLink RX3 21 "ChicoryRoasters$Smuggler" "left" "I"] ++ wsX30)
def wsX3_comeHome : List Cond := .code yX3_comeHome cX3_comeHome 2 (some .int) :: ([.fieldLink RX3 18 "ChicoryRoasters$Smuggler" "where" "I", .fieldLink RX3 15 "ChicoryRoasters$Smuggler" "cargo" "I"] ++ wsX30)
def wsX3_travel : List Cond := .code yX3_travel cX3_travel 2 (some .int) :: ([.fieldLink RX3 18 "ChicoryRoasters$Smuggler" "where" "I", .fieldLink RX3 21 "ChicoryRoasters$Smuggler" "left" "I", .fieldLink RX3 9 "ChicoryRoasters$Smuggler" "way" "I", .fieldLink RX3 24 "ChicoryRoasters$Smuggler" "arrests" "I", .methodLink RX3 27 yX3_comeHome, .instanceMethod yX3_comeHome, .selects RX3 yX3_comeHome yX3_comeHome, .initialized RX3, .code yX3_comeHome cX3_comeHome 2 (some .int), .fieldLink RX3 15 "ChicoryRoasters$Smuggler" "cargo" "I"] ++ wsX30)
def wsX3_size : List Cond := .code yX3_size cX3_size 1 (some .int) :: ([])
def wsX3_tell : List Cond := .code yX3_tell cX3_tell 2 (some .int) :: ([.fieldLink RX3 9 "ChicoryRoasters$Smuggler" "way" "I", .fieldLink RX3 15 "ChicoryRoasters$Smuggler" "cargo" "I", .fieldLink RX3 18 "ChicoryRoasters$Smuggler" "where" "I", .fieldLink RX3 21 "ChicoryRoasters$Smuggler" "left" "I", .fieldLink RX3 24 "ChicoryRoasters$Smuggler" "arrests" "I"] ++ wsX30)
def wsX4_init : List Cond := .code yX4_init cX4_init 1 none :: ([.methodLink RX4 3 objectInit, .instanceMethod objectInit, .code objectInit ⟨#[0xb1]⟩ 1 none, .fieldLink RX4 9 "ChicoryRoasters$Store" "share" "I"] ++ wsX40)
def wsX4_stock : List Cond := .code yX4_stock cX4_stock 2 (some .int) :: ([.fieldLink RX4 15 "ChicoryRoasters$Store" "roots" "I", .fieldLink RX4 18 "ChicoryRoasters$Store" "beans" "I"] ++ wsX40)
def wsX4_add : List Cond := .code yX4_add cX4_add 3 none :: ([.fieldLink RX4 15 "ChicoryRoasters$Store" "roots" "I", .fieldLink RX4 18 "ChicoryRoasters$Store" "beans" "I"] ++ wsX40)
def wsX4_addRoasted : List Cond := .code yX4_addRoasted cX4_addRoasted 3 none :: ([.fieldLink RX4 21 "ChicoryRoasters$Store" "chicory" "I", .fieldLink RX4 24 "ChicoryRoasters$Store" "coffee" "I"] ++ wsX40)
def wsX6_init_r1 : List Cond := [Cond.classLink RX6 9 RX0, Cond.fieldLink RX6 11 "ChicoryRoasters$Town" "beds" "[LChicoryRoasters$Bed;", Cond.classLink RX6 17 RX2, Cond.fieldLink RX6 19 "ChicoryRoasters$Town" "drums" "[LChicoryRoasters$Drum;", Cond.classLink RX6 23 RX3, Cond.fieldLink RX6 25 "ChicoryRoasters$Town" "smugglers" "[LChicoryRoasters$Smuggler;", Cond.classLink RX6 29 RX1, Cond.fieldLink RX6 31 "ChicoryRoasters$Town" "cards" "[LChicoryRoasters$Card;", Cond.classLink RX6 35 RX4, Cond.instantiable RX4 7, Cond.initialized RX4, Cond.fieldLink RX6 38 "ChicoryRoasters$Town" "store" "LChicoryRoasters$Store;", Cond.instantiable RX0 3, Cond.initialized RX0, Cond.instantiable RX2 5, Cond.initialized RX2, Cond.instantiable RX3 5, Cond.initialized RX3, Cond.instantiable RX1 5, Cond.initialized RX1, Cond.instanceMethod yX5_init, Cond.initialized RX5, Cond.code yX5_init cX5_init 1 none, Cond.methodLink RX5 1 objectInit]
def wsX6_init_r2 : List Cond := [Cond.instanceMethod objectInit, Cond.code objectInit ⟨#[0xb1]⟩ 1 none, Cond.instanceMethod yX4_init, Cond.code yX4_init cX4_init 1 none, Cond.methodLink RX4 3 objectInit, Cond.fieldLink RX4 9 "ChicoryRoasters$Store" "share" "I", Cond.instanceMethod yX0_init, Cond.code yX0_init cX0_init 1 none, Cond.instanceMethod yX2_init, Cond.code yX2_init cX2_init 1 none, Cond.fieldLink RX2 9 "ChicoryRoasters$Drum" "kind" "I", Cond.instanceMethod yX3_init, Cond.code yX3_init cX3_init 1 none, Cond.instanceMethod yX1_init, Cond.code yX1_init cX1_init 1 none]
def wsX6_init : List Cond := .code yX6_init cX6_init 2 none :: ((wsX6_init_r1 ++ wsX6_init_r2) ++ wsX60 ++ wsX40 ++ wsX00 ++ wsX20 ++ wsX30 ++ wsX10)
def wsX6_patrolled : List Cond := .code yX6_patrolled cX6_patrolled 2 (some .boolean) :: ([.fieldLink RX6 46 "ChicoryRoasters$Town" "patrol" "I"] ++ wsX60)
def wsX6_travel_r1 : List Cond := [Cond.fieldLink RX6 66 "ChicoryRoasters$Town" "smugglerCount" "I", Cond.fieldLink RX6 38 "ChicoryRoasters$Town" "store" "LChicoryRoasters$Store;", Cond.fieldLink RX6 25 "ChicoryRoasters$Town" "smugglers" "[LChicoryRoasters$Smuggler;", Cond.fieldLink RX6 63 "ChicoryRoasters$Town" "day" "I", Cond.methodLink RX6 69 yX6_patrolled, Cond.instanceMethod yX6_patrolled, Cond.selects RX6 yX6_patrolled yX6_patrolled, Cond.initialized RX6, Cond.code yX6_patrolled cX6_patrolled 2 (some .boolean), Cond.fieldLink RX6 46 "ChicoryRoasters$Town" "patrol" "I", Cond.methodLink RX6 73 yX3_travel, Cond.instanceMethod yX3_travel, Cond.selects RX3 yX3_travel yX3_travel, Cond.initialized RX3, Cond.code yX3_travel cX3_travel 2 (some .int), Cond.fieldLink RX3 18 "ChicoryRoasters$Smuggler" "where" "I", Cond.fieldLink RX3 21 "ChicoryRoasters$Smuggler" "left" "I", Cond.fieldLink RX3 9 "ChicoryRoasters$Smuggler" "way" "I", Cond.fieldLink RX3 24 "ChicoryRoasters$Smuggler" "arrests" "I", Cond.methodLink RX3 27 yX3_comeHome, Cond.instanceMethod yX3_comeHome, Cond.selects RX3 yX3_comeHome yX3_comeHome, Cond.code yX3_comeHome cX3_comeHome 2 (some .int), Cond.fieldLink RX3 15 "ChicoryRoasters$Smuggler" "cargo" "I"]
def wsX6_travel_r2 : List Cond := [Cond.methodLink RX6 76 yX4_add, Cond.instanceMethod yX4_add, Cond.selects RX4 yX4_add yX4_add, Cond.initialized RX4, Cond.code yX4_add cX4_add 3 none, Cond.fieldLink RX4 15 "ChicoryRoasters$Store" "roots" "I", Cond.fieldLink RX4 18 "ChicoryRoasters$Store" "beans" "I"]
def wsX6_travel : List Cond := .code yX6_travel cX6_travel 2 none :: ((wsX6_travel_r1 ++ wsX6_travel_r2) ++ wsX60 ++ wsX30 ++ wsX40)
def wsX6_warm : List Cond := .code yX6_warm cX6_warm 2 none :: ([.fieldLink RX6 80 "ChicoryRoasters$Town" "drumCount" "I", .fieldLink RX6 19 "ChicoryRoasters$Town" "drums" "[LChicoryRoasters$Drum;", .methodLink RX6 83 yX2_warm, .instanceMethod yX2_warm, .selects RX2 yX2_warm yX2_warm, .initialized RX2, .code yX2_warm cX2_warm 1 none, .fieldLink RX2 24 "ChicoryRoasters$Drum" "level" "I", .methodLink RX2 27 yX2_levelAfter, .instanceMethod yX2_levelAfter, .selects RX2 yX2_levelAfter yX2_levelAfter, .code yX2_levelAfter cX2_levelAfter 2 (some .int), .fieldLink RX2 9 "ChicoryRoasters$Drum" "kind" "I", .fieldLink RX2 18 "ChicoryRoasters$Drum" "heat" "I", .methodLink RX2 35 Lib.Math.min.name, .static Lib.Math.min.name, .initialized "java/lang/Math", .code Lib.Math.min.name Lib.Math.min.code 2 (some .int), .methodLink RX2 31 yX2_burnt, .instanceMethod yX2_burnt, .selects RX2 yX2_burnt yX2_burnt, .code yX2_burnt cX2_burnt 1 (some .int)] ++ wsX60 ++ wsX20)
def wsX6_grow : List Cond := .code yX6_grow cX6_grow 2 none :: ([.fieldLink RX6 84 "ChicoryRoasters$Town" "bedCount" "I", .fieldLink RX6 11 "ChicoryRoasters$Town" "beds" "[LChicoryRoasters$Bed;", .methodLink RX6 87 yX0_grow, .instanceMethod yX0_grow, .selects RX0 yX0_grow yX0_grow, .initialized RX0, .code yX0_grow cX0_grow 1 none, .fieldLink RX0 16 "ChicoryRoasters$Bed" "roots" "I", .fieldLink RX0 7 "ChicoryRoasters$Bed" "grows" "I", .fieldLink RX0 13 "ChicoryRoasters$Bed" "most" "I", .methodLink RX0 19 Lib.Math.min.name, .static Lib.Math.min.name, .initialized "java/lang/Math", .code Lib.Math.min.name Lib.Math.min.code 2 (some .int)] ++ wsX60 ++ wsX00)
def wsX6_serve_r1 : List Cond := [Cond.fieldLink RX6 88 "ChicoryRoasters$Town" "cardCount" "I", Cond.fieldLink RX6 63 "ChicoryRoasters$Town" "day" "I", Cond.fieldLink RX6 31 "ChicoryRoasters$Town" "cards" "[LChicoryRoasters$Card;", Cond.fieldLink RX6 38 "ChicoryRoasters$Town" "store" "LChicoryRoasters$Store;", Cond.methodLink RX6 91 yX1_renew, Cond.instanceMethod yX1_renew, Cond.selects RX1 yX1_renew yX1_renew, Cond.initialized RX1, Cond.code yX1_renew cX1_renew 1 none, Cond.fieldLink RX1 9 "ChicoryRoasters$Card" "allotted" "I", Cond.fieldLink RX1 18 "ChicoryRoasters$Card" "left" "I", Cond.methodLink RX6 94 yX1_serveDay, Cond.instanceMethod yX1_serveDay, Cond.selects RX1 yX1_serveDay yX1_serveDay, Cond.code yX1_serveDay cX1_serveDay 3 (some .int), Cond.methodLink RX1 21 yX1_serveOne, Cond.instanceMethod yX1_serveOne, Cond.selects RX1 yX1_serveOne yX1_serveOne, Cond.code yX1_serveOne cX1_serveOne 3 (some .boolean), Cond.fieldLink RX1 15 "ChicoryRoasters$Card" "picky" "I", Cond.fieldLink RX1 35 "ChicoryRoasters$Card" "refused" "I", Cond.fieldLink RX1 42 "ChicoryRoasters$Card" "served" "I", Cond.methodLink RX1 25 yX4_coffeeOfPortion, Cond.instanceMethod yX4_coffeeOfPortion]
def wsX6_serve_r2 : List Cond := [Cond.selects RX4 yX4_coffeeOfPortion yX4_coffeeOfPortion, Cond.initialized RX4, Cond.code yX4_coffeeOfPortion cX4_coffeeOfPortion 1 (some .int), Cond.fieldLink RX4 9 "ChicoryRoasters$Store" "share" "I", Cond.fieldLink RX4 24 "ChicoryRoasters$Store" "coffee" "I", Cond.methodLink RX4 27 Lib.Math.min.name, Cond.static Lib.Math.min.name, Cond.initialized "java/lang/Math", Cond.code Lib.Math.min.name Lib.Math.min.code 2 (some .int), Cond.methodLink RX1 31 yX4_canMix, Cond.instanceMethod yX4_canMix, Cond.selects RX4 yX4_canMix yX4_canMix, Cond.code yX4_canMix cX4_canMix 2 (some .boolean), Cond.fieldLink RX4 21 "ChicoryRoasters$Store" "chicory" "I", Cond.methodLink RX1 38 yX4_servePortion, Cond.instanceMethod yX4_servePortion, Cond.selects RX4 yX4_servePortion yX4_servePortion, Cond.code yX4_servePortion cX4_servePortion 2 none, Cond.fieldLink RX4 33 "ChicoryRoasters$Store" "thinned" "I", Cond.fieldLink RX4 36 "ChicoryRoasters$Store" "served" "I"]
def wsX6_serve : List Cond := .code yX6_serve cX6_serve 3 (some .int) :: ((wsX6_serve_r1 ++ wsX6_serve_r2) ++ wsX60 ++ wsX10 ++ wsX40)
def wsX6_live_r1 : List Cond := [Cond.fieldLink RX6 63 "ChicoryRoasters$Town" "day" "I", Cond.methodLink RX6 50 yX6_travel, Cond.instanceMethod yX6_travel, Cond.selects RX6 yX6_travel yX6_travel, Cond.initialized RX6, Cond.code yX6_travel cX6_travel 2 none, Cond.fieldLink RX6 66 "ChicoryRoasters$Town" "smugglerCount" "I", Cond.fieldLink RX6 38 "ChicoryRoasters$Town" "store" "LChicoryRoasters$Store;", Cond.fieldLink RX6 25 "ChicoryRoasters$Town" "smugglers" "[LChicoryRoasters$Smuggler;", Cond.methodLink RX6 69 yX6_patrolled, Cond.instanceMethod yX6_patrolled, Cond.selects RX6 yX6_patrolled yX6_patrolled, Cond.code yX6_patrolled cX6_patrolled 2 (some .boolean), Cond.fieldLink RX6 46 "ChicoryRoasters$Town" "patrol" "I", Cond.methodLink RX6 73 yX3_travel, Cond.instanceMethod yX3_travel, Cond.selects RX3 yX3_travel yX3_travel, Cond.initialized RX3, Cond.code yX3_travel cX3_travel 2 (some .int), Cond.fieldLink RX3 18 "ChicoryRoasters$Smuggler" "where" "I", Cond.fieldLink RX3 21 "ChicoryRoasters$Smuggler" "left" "I", Cond.fieldLink RX3 9 "ChicoryRoasters$Smuggler" "way" "I", Cond.fieldLink RX3 24 "ChicoryRoasters$Smuggler" "arrests" "I", Cond.methodLink RX3 27 yX3_comeHome]
def wsX6_live_r2 : List Cond := [Cond.instanceMethod yX3_comeHome, Cond.selects RX3 yX3_comeHome yX3_comeHome, Cond.code yX3_comeHome cX3_comeHome 2 (some .int), Cond.fieldLink RX3 15 "ChicoryRoasters$Smuggler" "cargo" "I", Cond.methodLink RX6 76 yX4_add, Cond.instanceMethod yX4_add, Cond.selects RX4 yX4_add yX4_add, Cond.initialized RX4, Cond.code yX4_add cX4_add 3 none, Cond.fieldLink RX4 15 "ChicoryRoasters$Store" "roots" "I", Cond.fieldLink RX4 18 "ChicoryRoasters$Store" "beans" "I", Cond.methodLink RX6 53 yX6_warm, Cond.instanceMethod yX6_warm, Cond.selects RX6 yX6_warm yX6_warm, Cond.code yX6_warm cX6_warm 2 none, Cond.fieldLink RX6 80 "ChicoryRoasters$Town" "drumCount" "I", Cond.fieldLink RX6 19 "ChicoryRoasters$Town" "drums" "[LChicoryRoasters$Drum;", Cond.methodLink RX6 83 yX2_warm, Cond.instanceMethod yX2_warm, Cond.selects RX2 yX2_warm yX2_warm, Cond.initialized RX2, Cond.code yX2_warm cX2_warm 1 none, Cond.fieldLink RX2 24 "ChicoryRoasters$Drum" "level" "I", Cond.methodLink RX2 27 yX2_levelAfter]
def wsX6_live_r3 : List Cond := [Cond.instanceMethod yX2_levelAfter, Cond.selects RX2 yX2_levelAfter yX2_levelAfter, Cond.code yX2_levelAfter cX2_levelAfter 2 (some .int), Cond.fieldLink RX2 9 "ChicoryRoasters$Drum" "kind" "I", Cond.fieldLink RX2 18 "ChicoryRoasters$Drum" "heat" "I", Cond.methodLink RX2 35 Lib.Math.min.name, Cond.static Lib.Math.min.name, Cond.initialized "java/lang/Math", Cond.code Lib.Math.min.name Lib.Math.min.code 2 (some .int), Cond.methodLink RX2 31 yX2_burnt, Cond.instanceMethod yX2_burnt, Cond.selects RX2 yX2_burnt yX2_burnt, Cond.code yX2_burnt cX2_burnt 1 (some .int), Cond.methodLink RX6 56 yX6_grow, Cond.instanceMethod yX6_grow, Cond.selects RX6 yX6_grow yX6_grow, Cond.code yX6_grow cX6_grow 2 none, Cond.fieldLink RX6 84 "ChicoryRoasters$Town" "bedCount" "I", Cond.fieldLink RX6 11 "ChicoryRoasters$Town" "beds" "[LChicoryRoasters$Bed;", Cond.methodLink RX6 87 yX0_grow, Cond.instanceMethod yX0_grow, Cond.selects RX0 yX0_grow yX0_grow, Cond.initialized RX0, Cond.code yX0_grow cX0_grow 1 none]
def wsX6_live_r4 : List Cond := [Cond.fieldLink RX0 16 "ChicoryRoasters$Bed" "roots" "I", Cond.fieldLink RX0 7 "ChicoryRoasters$Bed" "grows" "I", Cond.fieldLink RX0 13 "ChicoryRoasters$Bed" "most" "I", Cond.methodLink RX0 19 Lib.Math.min.name, Cond.methodLink RX6 59 yX6_serve, Cond.instanceMethod yX6_serve, Cond.selects RX6 yX6_serve yX6_serve, Cond.code yX6_serve cX6_serve 3 (some .int), Cond.fieldLink RX6 88 "ChicoryRoasters$Town" "cardCount" "I", Cond.fieldLink RX6 31 "ChicoryRoasters$Town" "cards" "[LChicoryRoasters$Card;", Cond.methodLink RX6 91 yX1_renew, Cond.instanceMethod yX1_renew, Cond.selects RX1 yX1_renew yX1_renew, Cond.initialized RX1, Cond.code yX1_renew cX1_renew 1 none, Cond.fieldLink RX1 9 "ChicoryRoasters$Card" "allotted" "I", Cond.fieldLink RX1 18 "ChicoryRoasters$Card" "left" "I", Cond.methodLink RX6 94 yX1_serveDay, Cond.instanceMethod yX1_serveDay, Cond.selects RX1 yX1_serveDay yX1_serveDay, Cond.code yX1_serveDay cX1_serveDay 3 (some .int), Cond.methodLink RX1 21 yX1_serveOne, Cond.instanceMethod yX1_serveOne, Cond.selects RX1 yX1_serveOne yX1_serveOne]
def wsX6_live_r5 : List Cond := [Cond.code yX1_serveOne cX1_serveOne 3 (some .boolean), Cond.fieldLink RX1 15 "ChicoryRoasters$Card" "picky" "I", Cond.fieldLink RX1 35 "ChicoryRoasters$Card" "refused" "I", Cond.fieldLink RX1 42 "ChicoryRoasters$Card" "served" "I", Cond.methodLink RX1 25 yX4_coffeeOfPortion, Cond.instanceMethod yX4_coffeeOfPortion, Cond.selects RX4 yX4_coffeeOfPortion yX4_coffeeOfPortion, Cond.code yX4_coffeeOfPortion cX4_coffeeOfPortion 1 (some .int), Cond.fieldLink RX4 9 "ChicoryRoasters$Store" "share" "I", Cond.fieldLink RX4 24 "ChicoryRoasters$Store" "coffee" "I", Cond.methodLink RX4 27 Lib.Math.min.name, Cond.methodLink RX1 31 yX4_canMix, Cond.instanceMethod yX4_canMix, Cond.selects RX4 yX4_canMix yX4_canMix, Cond.code yX4_canMix cX4_canMix 2 (some .boolean), Cond.fieldLink RX4 21 "ChicoryRoasters$Store" "chicory" "I", Cond.methodLink RX1 38 yX4_servePortion, Cond.instanceMethod yX4_servePortion, Cond.selects RX4 yX4_servePortion yX4_servePortion, Cond.code yX4_servePortion cX4_servePortion 2 none, Cond.fieldLink RX4 33 "ChicoryRoasters$Store" "thinned" "I", Cond.fieldLink RX4 36 "ChicoryRoasters$Store" "served" "I"]
def wsX6_live : List Cond := .code yX6_live cX6_live 4 (some .int) :: ((wsX6_live_r1 ++ (wsX6_live_r2 ++ (wsX6_live_r3 ++ (wsX6_live_r4 ++ wsX6_live_r5)))) ++ wsX60 ++ wsX30 ++ wsX40 ++ wsX20 ++ wsX00 ++ wsX10)
def wsX6_size : List Cond := .code yX6_size cX6_size 1 (some .int) :: ([])
def wsX6_tell : List Cond := .code yX6_tell cX6_tell 2 (some .int) :: ([.fieldLink RX6 63 "ChicoryRoasters$Town" "day" "I", .fieldLink RX6 38 "ChicoryRoasters$Town" "store" "LChicoryRoasters$Store;", .fieldLink RX6 114 "ChicoryRoasters$Store" "roots" "I", .fieldLink RX6 117 "ChicoryRoasters$Store" "beans" "I", .fieldLink RX6 120 "ChicoryRoasters$Store" "chicory" "I", .fieldLink RX6 123 "ChicoryRoasters$Store" "coffee" "I", .fieldLink RX6 126 "ChicoryRoasters$Store" "served" "I", .fieldLink RX6 129 "ChicoryRoasters$Store" "thinned" "I", .fieldLink RX6 132 "ChicoryRoasters$Store" "share" "I", .fieldLink RX6 46 "ChicoryRoasters$Town" "patrol" "I"] ++ wsX60 ++ wsX40)
def wsX7_init_r1 : List Cond := [Cond.methodLink RX7 1 objectInit, Cond.instanceMethod objectInit, Cond.code objectInit ⟨#[0xb1]⟩ 1 none, Cond.classLink RX7 7 RX6, Cond.instantiable RX6 11, Cond.initialized RX6, Cond.fieldLink RX7 10 "ChicoryRoasters" "town" "LChicoryRoasters$Town;", Cond.fieldLink RX7 16 "ChicoryRoasters" "trial" "LChicoryRoasters$Town;", Cond.methodLink RX7 9 yX6_init, Cond.instanceMethod yX6_init, Cond.code yX6_init cX6_init 2 none, Cond.classLink RX6 9 RX0, Cond.fieldLink RX6 11 "ChicoryRoasters$Town" "beds" "[LChicoryRoasters$Bed;", Cond.classLink RX6 17 RX2, Cond.fieldLink RX6 19 "ChicoryRoasters$Town" "drums" "[LChicoryRoasters$Drum;", Cond.classLink RX6 23 RX3, Cond.fieldLink RX6 25 "ChicoryRoasters$Town" "smugglers" "[LChicoryRoasters$Smuggler;", Cond.classLink RX6 29 RX1, Cond.fieldLink RX6 31 "ChicoryRoasters$Town" "cards" "[LChicoryRoasters$Card;", Cond.classLink RX6 35 RX4, Cond.instantiable RX4 7, Cond.initialized RX4, Cond.fieldLink RX6 38 "ChicoryRoasters$Town" "store" "LChicoryRoasters$Store;", Cond.instantiable RX0 3]
def wsX7_init_r2 : List Cond := [Cond.initialized RX0, Cond.instantiable RX2 5, Cond.initialized RX2, Cond.instantiable RX3 5, Cond.initialized RX3, Cond.instantiable RX1 5, Cond.initialized RX1, Cond.instanceMethod yX5_init, Cond.initialized RX5, Cond.code yX5_init cX5_init 1 none, Cond.methodLink RX5 1 objectInit, Cond.instanceMethod yX4_init, Cond.code yX4_init cX4_init 1 none, Cond.methodLink RX4 3 objectInit, Cond.fieldLink RX4 9 "ChicoryRoasters$Store" "share" "I", Cond.instanceMethod yX0_init, Cond.code yX0_init cX0_init 1 none, Cond.instanceMethod yX2_init, Cond.code yX2_init cX2_init 1 none, Cond.fieldLink RX2 9 "ChicoryRoasters$Drum" "kind" "I", Cond.instanceMethod yX3_init, Cond.code yX3_init cX3_init 1 none, Cond.instanceMethod yX1_init, Cond.code yX1_init cX1_init 1 none]
def wsX7_init : List Cond := .code yX7_init cX7_init 1 none :: ((wsX7_init_r1 ++ wsX7_init_r2) ++ wsX60 ++ wsX70 ++ wsX40 ++ wsX00 ++ wsX20 ++ wsX30 ++ wsX10)
def wsX7_checkNumber : List Cond := .code yX7_checkNumber cX7_checkNumber 3 none :: ([.classLink RX7 182 "java/lang/IllegalArgumentException", .initialized "java/lang/IllegalArgumentException"] ++ (vx_atS RX7 186 "java/lang/IllegalArgumentException" ["java/lang/RuntimeException", "java/lang/Exception"]).filter goodWord)
def wsX7_checkState : List Cond := .code yX7_checkState cX7_checkState 1 none :: ([.classLink RX7 187 "java/lang/IllegalStateException", .initialized "java/lang/IllegalStateException"] ++ (vx_atS RX7 191 "java/lang/IllegalStateException" ["java/lang/RuntimeException", "java/lang/Exception"]).filter goodWord)
def wsX7_bed : List Cond := .code yX7_bed cX7_bed 3 (some .int) :: ([.fieldLink RX7 10 "ChicoryRoasters" "town" "LChicoryRoasters$Town;", .fieldLink RX7 23 "ChicoryRoasters$Town" "bedCount" "I", .fieldLink RX7 31 "ChicoryRoasters$Town" "beds" "[LChicoryRoasters$Bed;", .methodLink RX7 19 yX7_checkNumber, .static yX7_checkNumber, .initialized RX7, .code yX7_checkNumber cX7_checkNumber 3 none, .classLink RX7 182 "java/lang/IllegalArgumentException", .initialized "java/lang/IllegalArgumentException", .methodLink RX7 27 yX7_checkState, .static yX7_checkState, .code yX7_checkState cX7_checkState 1 none, .classLink RX7 187 "java/lang/IllegalStateException", .initialized "java/lang/IllegalStateException", .methodLink RX7 35 yX0_lay, .instanceMethod yX0_lay, .selects RX0 yX0_lay yX0_lay, .initialized RX0, .code yX0_lay cX0_lay 3 none, .fieldLink RX0 7 "ChicoryRoasters$Bed" "grows" "I", .fieldLink RX0 13 "ChicoryRoasters$Bed" "most" "I"] ++ wsX70 ++ wsX60 ++ wsX00 ++ (vx_atS RX7 186 "java/lang/IllegalArgumentException" ["java/lang/RuntimeException", "java/lang/Exception"]).filter goodWord ++ (vx_atS RX7 191 "java/lang/IllegalStateException" ["java/lang/RuntimeException", "java/lang/Exception"]).filter goodWord)
def wsX7_drum : List Cond := .code yX7_drum cX7_drum 3 (some .int) :: ([.fieldLink RX7 10 "ChicoryRoasters" "town" "LChicoryRoasters$Town;", .fieldLink RX7 41 "ChicoryRoasters$Town" "drumCount" "I", .fieldLink RX7 44 "ChicoryRoasters$Town" "drums" "[LChicoryRoasters$Drum;", .methodLink RX7 19 yX7_checkNumber, .static yX7_checkNumber, .initialized RX7, .code yX7_checkNumber cX7_checkNumber 3 none, .classLink RX7 182 "java/lang/IllegalArgumentException", .initialized "java/lang/IllegalArgumentException", .methodLink RX7 27 yX7_checkState, .static yX7_checkState, .code yX7_checkState cX7_checkState 1 none, .classLink RX7 187 "java/lang/IllegalStateException", .initialized "java/lang/IllegalStateException", .methodLink RX7 48 yX2_install, .instanceMethod yX2_install, .selects RX2 yX2_install yX2_install, .initialized RX2, .code yX2_install cX2_install 3 none, .fieldLink RX2 15 "ChicoryRoasters$Drum" "holds" "I", .fieldLink RX2 18 "ChicoryRoasters$Drum" "heat" "I"] ++ wsX70 ++ wsX60 ++ wsX20 ++ (vx_atS RX7 186 "java/lang/IllegalArgumentException" ["java/lang/RuntimeException", "java/lang/Exception"]).filter goodWord ++ (vx_atS RX7 191 "java/lang/IllegalStateException" ["java/lang/RuntimeException", "java/lang/Exception"]).filter goodWord)
def wsX7_smuggler : List Cond := .code yX7_smuggler cX7_smuggler 3 (some .int) :: ([.fieldLink RX7 10 "ChicoryRoasters" "town" "LChicoryRoasters$Town;", .fieldLink RX7 53 "ChicoryRoasters$Town" "smugglerCount" "I", .fieldLink RX7 56 "ChicoryRoasters$Town" "smugglers" "[LChicoryRoasters$Smuggler;", .methodLink RX7 19 yX7_checkNumber, .static yX7_checkNumber, .initialized RX7, .code yX7_checkNumber cX7_checkNumber 3 none, .classLink RX7 182 "java/lang/IllegalArgumentException", .initialized "java/lang/IllegalArgumentException", .methodLink RX7 27 yX7_checkState, .static yX7_checkState, .code yX7_checkState cX7_checkState 1 none, .classLink RX7 187 "java/lang/IllegalStateException", .initialized "java/lang/IllegalStateException", .methodLink RX7 60 yX3_hire, .instanceMethod yX3_hire, .selects RX3 yX3_hire yX3_hire, .initialized RX3, .code yX3_hire cX3_hire 3 none, .fieldLink RX3 9 "ChicoryRoasters$Smuggler" "way" "I", .fieldLink RX3 15 "ChicoryRoasters$Smuggler" "cargo" "I"] ++ wsX70 ++ wsX60 ++ wsX30 ++ (vx_atS RX7 186 "java/lang/IllegalArgumentException" ["java/lang/RuntimeException", "java/lang/Exception"]).filter goodWord ++ (vx_atS RX7 191 "java/lang/IllegalStateException" ["java/lang/RuntimeException", "java/lang/Exception"]).filter goodWord)
def wsX7_card : List Cond := .code yX7_card cX7_card 3 (some .int) :: ([.fieldLink RX7 10 "ChicoryRoasters" "town" "LChicoryRoasters$Town;", .fieldLink RX7 65 "ChicoryRoasters$Town" "cardCount" "I", .fieldLink RX7 68 "ChicoryRoasters$Town" "cards" "[LChicoryRoasters$Card;", .methodLink RX7 19 yX7_checkNumber, .static yX7_checkNumber, .initialized RX7, .code yX7_checkNumber cX7_checkNumber 3 none, .classLink RX7 182 "java/lang/IllegalArgumentException", .initialized "java/lang/IllegalArgumentException", .methodLink RX7 27 yX7_checkState, .static yX7_checkState, .code yX7_checkState cX7_checkState 1 none, .classLink RX7 187 "java/lang/IllegalStateException", .initialized "java/lang/IllegalStateException", .methodLink RX7 72 yX1_issue, .instanceMethod yX1_issue, .selects RX1 yX1_issue yX1_issue, .initialized RX1, .code yX1_issue cX1_issue 3 none, .fieldLink RX1 9 "ChicoryRoasters$Card" "allotted" "I", .fieldLink RX1 15 "ChicoryRoasters$Card" "picky" "I", .fieldLink RX1 18 "ChicoryRoasters$Card" "left" "I"] ++ wsX70 ++ wsX60 ++ wsX10 ++ (vx_atS RX7 186 "java/lang/IllegalArgumentException" ["java/lang/RuntimeException", "java/lang/Exception"]).filter goodWord ++ (vx_atS RX7 191 "java/lang/IllegalStateException" ["java/lang/RuntimeException", "java/lang/Exception"]).filter goodWord)
def wsX7_setPatrol : List Cond := .code yX7_setPatrol cX7_setPatrol 3 (some .int) :: ([.fieldLink RX7 10 "ChicoryRoasters" "town" "LChicoryRoasters$Town;", .fieldLink RX7 77 "ChicoryRoasters$Town" "patrol" "I", .methodLink RX7 19 yX7_checkNumber, .static yX7_checkNumber, .initialized RX7, .code yX7_checkNumber cX7_checkNumber 3 none, .classLink RX7 182 "java/lang/IllegalArgumentException", .initialized "java/lang/IllegalArgumentException"] ++ wsX70 ++ wsX60 ++ (vx_atS RX7 186 "java/lang/IllegalArgumentException" ["java/lang/RuntimeException", "java/lang/Exception"]).filter goodWord)
def wsX7_setShare : List Cond := .code yX7_setShare cX7_setShare 3 (some .int) :: ([.fieldLink RX7 10 "ChicoryRoasters" "town" "LChicoryRoasters$Town;", .fieldLink RX7 80 "ChicoryRoasters$Town" "store" "LChicoryRoasters$Store;", .fieldLink RX7 84 "ChicoryRoasters$Store" "share" "I", .methodLink RX7 19 yX7_checkNumber, .static yX7_checkNumber, .initialized RX7, .code yX7_checkNumber cX7_checkNumber 3 none, .classLink RX7 182 "java/lang/IllegalArgumentException", .initialized "java/lang/IllegalArgumentException"] ++ wsX70 ++ wsX60 ++ wsX40 ++ (vx_atS RX7 186 "java/lang/IllegalArgumentException" ["java/lang/RuntimeException", "java/lang/Exception"]).filter goodWord)
def wsX7_checkIndex : List Cond := .code yX7_checkIndex cX7_checkIndex 2 none :: ([.classLink RX7 139 "java/lang/IndexOutOfBoundsException", .initialized "java/lang/IndexOutOfBoundsException"] ++ (vx_atS RX7 143 "java/lang/IndexOutOfBoundsException" ["java/lang/RuntimeException", "java/lang/Exception"]).filter goodWord)
def wsX7_setHeat : List Cond := .code yX7_setHeat cX7_setHeat 4 (some .int) :: ([.fieldLink RX7 10 "ChicoryRoasters" "town" "LChicoryRoasters$Town;", .fieldLink RX7 41 "ChicoryRoasters$Town" "drumCount" "I", .fieldLink RX7 44 "ChicoryRoasters$Town" "drums" "[LChicoryRoasters$Drum;", .fieldLink RX7 92 "ChicoryRoasters$Drum" "heat" "I", .methodLink RX7 89 yX7_checkIndex, .static yX7_checkIndex, .initialized RX7, .code yX7_checkIndex cX7_checkIndex 2 none, .classLink RX7 139 "java/lang/IndexOutOfBoundsException", .initialized "java/lang/IndexOutOfBoundsException", .methodLink RX7 19 yX7_checkNumber, .static yX7_checkNumber, .code yX7_checkNumber cX7_checkNumber 3 none, .classLink RX7 182 "java/lang/IllegalArgumentException", .initialized "java/lang/IllegalArgumentException"] ++ wsX70 ++ wsX60 ++ wsX20 ++ (vx_atS RX7 143 "java/lang/IndexOutOfBoundsException" ["java/lang/RuntimeException", "java/lang/Exception"]).filter goodWord ++ (vx_atS RX7 186 "java/lang/IllegalArgumentException" ["java/lang/RuntimeException", "java/lang/Exception"]).filter goodWord)
def wsX7_dig_r1 : List Cond := [Cond.fieldLink RX7 10 "ChicoryRoasters" "town" "LChicoryRoasters$Town;", Cond.fieldLink RX7 23 "ChicoryRoasters$Town" "bedCount" "I", Cond.fieldLink RX7 31 "ChicoryRoasters$Town" "beds" "[LChicoryRoasters$Bed;", Cond.fieldLink RX7 95 "ChicoryRoasters$Bed" "roots" "I", Cond.fieldLink RX7 80 "ChicoryRoasters$Town" "store" "LChicoryRoasters$Store;", Cond.methodLink RX7 89 yX7_checkIndex, Cond.static yX7_checkIndex, Cond.initialized RX7, Cond.code yX7_checkIndex cX7_checkIndex 2 none, Cond.classLink RX7 139 "java/lang/IndexOutOfBoundsException", Cond.initialized "java/lang/IndexOutOfBoundsException", Cond.methodLink RX7 19 yX7_checkNumber, Cond.static yX7_checkNumber, Cond.code yX7_checkNumber cX7_checkNumber 3 none, Cond.classLink RX7 182 "java/lang/IllegalArgumentException", Cond.initialized "java/lang/IllegalArgumentException", Cond.methodLink RX7 27 yX7_checkState, Cond.static yX7_checkState, Cond.code yX7_checkState cX7_checkState 1 none, Cond.classLink RX7 187 "java/lang/IllegalStateException", Cond.initialized "java/lang/IllegalStateException", Cond.methodLink RX7 98 yX4_add, Cond.instanceMethod yX4_add, Cond.selects RX4 yX4_add yX4_add]
def wsX7_dig_r2 : List Cond := [Cond.initialized RX4, Cond.code yX4_add cX4_add 3 none, Cond.fieldLink RX4 15 "ChicoryRoasters$Store" "roots" "I", Cond.fieldLink RX4 18 "ChicoryRoasters$Store" "beans" "I"]
def wsX7_dig : List Cond := .code yX7_dig cX7_dig 3 (some .int) :: ((wsX7_dig_r1 ++ wsX7_dig_r2) ++ wsX70 ++ wsX60 ++ wsX00 ++ wsX40 ++ (vx_atS RX7 143 "java/lang/IndexOutOfBoundsException" ["java/lang/RuntimeException", "java/lang/Exception"]).filter goodWord ++ (vx_atS RX7 186 "java/lang/IllegalArgumentException" ["java/lang/RuntimeException", "java/lang/Exception"]).filter goodWord ++ (vx_atS RX7 191 "java/lang/IllegalStateException" ["java/lang/RuntimeException", "java/lang/Exception"]).filter goodWord)
def wsX7_give : List Cond := .code yX7_give cX7_give 3 (some .int) :: ([.fieldLink RX7 10 "ChicoryRoasters" "town" "LChicoryRoasters$Town;", .fieldLink RX7 80 "ChicoryRoasters$Town" "store" "LChicoryRoasters$Store;", .methodLink RX7 89 yX7_checkIndex, .static yX7_checkIndex, .initialized RX7, .code yX7_checkIndex cX7_checkIndex 2 none, .classLink RX7 139 "java/lang/IndexOutOfBoundsException", .initialized "java/lang/IndexOutOfBoundsException", .methodLink RX7 19 yX7_checkNumber, .static yX7_checkNumber, .code yX7_checkNumber cX7_checkNumber 3 none, .classLink RX7 182 "java/lang/IllegalArgumentException", .initialized "java/lang/IllegalArgumentException", .methodLink RX7 98 yX4_add, .instanceMethod yX4_add, .selects RX4 yX4_add yX4_add, .initialized RX4, .code yX4_add cX4_add 3 none, .fieldLink RX4 15 "ChicoryRoasters$Store" "roots" "I", .fieldLink RX4 18 "ChicoryRoasters$Store" "beans" "I", .methodLink RX7 101 yX4_stock, .instanceMethod yX4_stock, .selects RX4 yX4_stock yX4_stock, .code yX4_stock cX4_stock 2 (some .int)] ++ wsX70 ++ wsX60 ++ wsX40 ++ (vx_atS RX7 143 "java/lang/IndexOutOfBoundsException" ["java/lang/RuntimeException", "java/lang/Exception"]).filter goodWord ++ (vx_atS RX7 186 "java/lang/IllegalArgumentException" ["java/lang/RuntimeException", "java/lang/Exception"]).filter goodWord)
def wsX7_load_r1 : List Cond := [Cond.fieldLink RX7 10 "ChicoryRoasters" "town" "LChicoryRoasters$Town;", Cond.fieldLink RX7 41 "ChicoryRoasters$Town" "drumCount" "I", Cond.fieldLink RX7 44 "ChicoryRoasters$Town" "drums" "[LChicoryRoasters$Drum;", Cond.fieldLink RX7 105 "ChicoryRoasters$Drum" "holds" "I", Cond.fieldLink RX7 108 "ChicoryRoasters$Drum" "kind" "I", Cond.fieldLink RX7 80 "ChicoryRoasters$Town" "store" "LChicoryRoasters$Store;", Cond.methodLink RX7 89 yX7_checkIndex, Cond.static yX7_checkIndex, Cond.initialized RX7, Cond.code yX7_checkIndex cX7_checkIndex 2 none, Cond.classLink RX7 139 "java/lang/IndexOutOfBoundsException", Cond.initialized "java/lang/IndexOutOfBoundsException", Cond.methodLink RX7 19 yX7_checkNumber, Cond.static yX7_checkNumber, Cond.code yX7_checkNumber cX7_checkNumber 3 none, Cond.classLink RX7 182 "java/lang/IllegalArgumentException", Cond.initialized "java/lang/IllegalArgumentException", Cond.methodLink RX7 27 yX7_checkState, Cond.static yX7_checkState, Cond.code yX7_checkState cX7_checkState 1 none, Cond.classLink RX7 187 "java/lang/IllegalStateException", Cond.initialized "java/lang/IllegalStateException", Cond.methodLink RX7 101 yX4_stock, Cond.instanceMethod yX4_stock]
def wsX7_load_r2 : List Cond := [Cond.selects RX4 yX4_stock yX4_stock, Cond.initialized RX4, Cond.code yX4_stock cX4_stock 2 (some .int), Cond.fieldLink RX4 15 "ChicoryRoasters$Store" "roots" "I", Cond.fieldLink RX4 18 "ChicoryRoasters$Store" "beans" "I", Cond.methodLink RX7 98 yX4_add, Cond.instanceMethod yX4_add, Cond.selects RX4 yX4_add yX4_add, Cond.code yX4_add cX4_add 3 none, Cond.methodLink RX7 111 yX2_fill, Cond.instanceMethod yX2_fill, Cond.selects RX2 yX2_fill yX2_fill, Cond.initialized RX2, Cond.code yX2_fill cX2_fill 3 none, Cond.fieldLink RX2 9 "ChicoryRoasters$Drum" "kind" "I", Cond.fieldLink RX2 21 "ChicoryRoasters$Drum" "much" "I", Cond.fieldLink RX2 24 "ChicoryRoasters$Drum" "level" "I"]
def wsX7_load : List Cond := .code yX7_load cX7_load 4 (some .int) :: ((wsX7_load_r1 ++ wsX7_load_r2) ++ wsX70 ++ wsX60 ++ wsX20 ++ wsX40 ++ (vx_atS RX7 143 "java/lang/IndexOutOfBoundsException" ["java/lang/RuntimeException", "java/lang/Exception"]).filter goodWord ++ (vx_atS RX7 186 "java/lang/IllegalArgumentException" ["java/lang/RuntimeException", "java/lang/Exception"]).filter goodWord ++ (vx_atS RX7 191 "java/lang/IllegalStateException" ["java/lang/RuntimeException", "java/lang/Exception"]).filter goodWord)
def wsX7_take_r1 : List Cond := [Cond.fieldLink RX7 10 "ChicoryRoasters" "town" "LChicoryRoasters$Town;", Cond.fieldLink RX7 41 "ChicoryRoasters$Town" "drumCount" "I", Cond.fieldLink RX7 44 "ChicoryRoasters$Town" "drums" "[LChicoryRoasters$Drum;", Cond.fieldLink RX7 108 "ChicoryRoasters$Drum" "kind" "I", Cond.fieldLink RX7 114 "ChicoryRoasters$Drum" "level" "I", Cond.fieldLink RX7 80 "ChicoryRoasters$Town" "store" "LChicoryRoasters$Store;", Cond.methodLink RX7 89 yX7_checkIndex, Cond.static yX7_checkIndex, Cond.initialized RX7, Cond.code yX7_checkIndex cX7_checkIndex 2 none, Cond.classLink RX7 139 "java/lang/IndexOutOfBoundsException", Cond.initialized "java/lang/IndexOutOfBoundsException", Cond.methodLink RX7 27 yX7_checkState, Cond.static yX7_checkState, Cond.code yX7_checkState cX7_checkState 1 none, Cond.classLink RX7 187 "java/lang/IllegalStateException", Cond.initialized "java/lang/IllegalStateException", Cond.methodLink RX7 117 yX2_partsAt, Cond.instanceMethod yX2_partsAt, Cond.selects RX2 yX2_partsAt yX2_partsAt, Cond.initialized RX2, Cond.code yX2_partsAt cX2_partsAt 3 (some .int), Cond.fieldLink RX2 9 "ChicoryRoasters$Drum" "kind" "I", Cond.fieldLink RX2 21 "ChicoryRoasters$Drum" "much" "I"]
def wsX7_take_r2 : List Cond := [Cond.methodLink RX2 41 yX2_done, Cond.instanceMethod yX2_done, Cond.selects RX2 yX2_done yX2_done, Cond.code yX2_done cX2_done 1 (some .int), Cond.methodLink RX2 31 yX2_burnt, Cond.instanceMethod yX2_burnt, Cond.selects RX2 yX2_burnt yX2_burnt, Cond.code yX2_burnt cX2_burnt 1 (some .int), Cond.methodLink RX7 120 yX4_addRoasted, Cond.instanceMethod yX4_addRoasted, Cond.selects RX4 yX4_addRoasted yX4_addRoasted, Cond.initialized RX4, Cond.code yX4_addRoasted cX4_addRoasted 3 none, Cond.fieldLink RX4 21 "ChicoryRoasters$Store" "chicory" "I", Cond.fieldLink RX4 24 "ChicoryRoasters$Store" "coffee" "I", Cond.methodLink RX7 111 yX2_fill, Cond.instanceMethod yX2_fill, Cond.selects RX2 yX2_fill yX2_fill, Cond.code yX2_fill cX2_fill 3 none, Cond.fieldLink RX2 24 "ChicoryRoasters$Drum" "level" "I"]
def wsX7_take : List Cond := .code yX7_take cX7_take 4 (some .int) :: ((wsX7_take_r1 ++ wsX7_take_r2) ++ wsX70 ++ wsX60 ++ wsX20 ++ wsX40 ++ (vx_atS RX7 143 "java/lang/IndexOutOfBoundsException" ["java/lang/RuntimeException", "java/lang/Exception"]).filter goodWord ++ (vx_atS RX7 191 "java/lang/IllegalStateException" ["java/lang/RuntimeException", "java/lang/Exception"]).filter goodWord)
def wsX7_send : List Cond := .code yX7_send cX7_send 2 (some .int) :: ([.fieldLink RX7 10 "ChicoryRoasters" "town" "LChicoryRoasters$Town;", .fieldLink RX7 53 "ChicoryRoasters$Town" "smugglerCount" "I", .fieldLink RX7 56 "ChicoryRoasters$Town" "smugglers" "[LChicoryRoasters$Smuggler;", .fieldLink RX7 123 "ChicoryRoasters$Smuggler" "where" "I", .fieldLink RX7 129 "ChicoryRoasters$Smuggler" "left" "I", .methodLink RX7 89 yX7_checkIndex, .static yX7_checkIndex, .initialized RX7, .code yX7_checkIndex cX7_checkIndex 2 none, .classLink RX7 139 "java/lang/IndexOutOfBoundsException", .initialized "java/lang/IndexOutOfBoundsException", .methodLink RX7 27 yX7_checkState, .static yX7_checkState, .code yX7_checkState cX7_checkState 1 none, .classLink RX7 187 "java/lang/IllegalStateException", .initialized "java/lang/IllegalStateException", .methodLink RX7 126 yX3_setOut, .instanceMethod yX3_setOut, .selects RX3 yX3_setOut yX3_setOut, .initialized RX3, .code yX3_setOut cX3_setOut 1 none, .fieldLink RX3 18 "ChicoryRoasters$Smuggler" "where" "I", .fieldLink RX3 9 "ChicoryRoasters$Smuggler" "way" "I", .fieldLink RX3 21 "ChicoryRoasters$Smuggler" "left" "I"] ++ wsX70 ++ wsX60 ++ wsX30 ++ (vx_atS RX7 143 "java/lang/IndexOutOfBoundsException" ["java/lang/RuntimeException", "java/lang/Exception"]).filter goodWord ++ (vx_atS RX7 191 "java/lang/IllegalStateException" ["java/lang/RuntimeException", "java/lang/Exception"]).filter goodWord)
def wsX7_ask_r1 : List Cond := [Cond.methodLink RX7 192 ⟨"ChicoryRoasters$Teller", "size", "()I"⟩, Cond.sameMethod "ChicoryRoasters$Teller" "ChicoryRoasters$Teller" "size" "()I", Cond.selects RX0 ⟨"ChicoryRoasters$Teller", "size", "()I"⟩ yX0_size, Cond.instanceMethod yX0_size, Cond.initialized RX0, Cond.code yX0_size cX0_size 1 (some .int), Cond.selects RX1 ⟨"ChicoryRoasters$Teller", "size", "()I"⟩ yX1_size, Cond.instanceMethod yX1_size, Cond.initialized RX1, Cond.code yX1_size cX1_size 1 (some .int), Cond.selects RX2 ⟨"ChicoryRoasters$Teller", "size", "()I"⟩ yX2_size, Cond.instanceMethod yX2_size, Cond.initialized RX2, Cond.code yX2_size cX2_size 1 (some .int), Cond.selects RX3 ⟨"ChicoryRoasters$Teller", "size", "()I"⟩ yX3_size, Cond.instanceMethod yX3_size, Cond.initialized RX3, Cond.code yX3_size cX3_size 1 (some .int), Cond.selects RX6 ⟨"ChicoryRoasters$Teller", "size", "()I"⟩ yX6_size, Cond.instanceMethod yX6_size, Cond.initialized RX6, Cond.code yX6_size cX6_size 1 (some .int), Cond.methodLink RX7 89 yX7_checkIndex, Cond.static yX7_checkIndex]
def wsX7_ask_r2 : List Cond := [Cond.initialized RX7, Cond.code yX7_checkIndex cX7_checkIndex 2 none, Cond.classLink RX7 139 "java/lang/IndexOutOfBoundsException", Cond.initialized "java/lang/IndexOutOfBoundsException", Cond.methodLink RX7 197 ⟨"ChicoryRoasters$Teller", "tell", "(I)I"⟩, Cond.sameMethod "ChicoryRoasters$Teller" "ChicoryRoasters$Teller" "tell" "(I)I", Cond.selects RX0 ⟨"ChicoryRoasters$Teller", "tell", "(I)I"⟩ yX0_tell, Cond.instanceMethod yX0_tell, Cond.code yX0_tell cX0_tell 2 (some .int), Cond.fieldLink RX0 7 "ChicoryRoasters$Bed" "grows" "I", Cond.fieldLink RX0 13 "ChicoryRoasters$Bed" "most" "I", Cond.fieldLink RX0 16 "ChicoryRoasters$Bed" "roots" "I", Cond.selects RX1 ⟨"ChicoryRoasters$Teller", "tell", "(I)I"⟩ yX1_tell, Cond.instanceMethod yX1_tell, Cond.code yX1_tell cX1_tell 2 (some .int), Cond.fieldLink RX1 9 "ChicoryRoasters$Card" "allotted" "I", Cond.fieldLink RX1 15 "ChicoryRoasters$Card" "picky" "I", Cond.fieldLink RX1 18 "ChicoryRoasters$Card" "left" "I", Cond.fieldLink RX1 42 "ChicoryRoasters$Card" "served" "I", Cond.fieldLink RX1 35 "ChicoryRoasters$Card" "refused" "I", Cond.selects RX2 ⟨"ChicoryRoasters$Teller", "tell", "(I)I"⟩ yX2_tell, Cond.instanceMethod yX2_tell, Cond.code yX2_tell cX2_tell 2 (some .int), Cond.fieldLink RX2 15 "ChicoryRoasters$Drum" "holds" "I"]
def wsX7_ask_r3 : List Cond := [Cond.fieldLink RX2 18 "ChicoryRoasters$Drum" "heat" "I", Cond.fieldLink RX2 9 "ChicoryRoasters$Drum" "kind" "I", Cond.fieldLink RX2 21 "ChicoryRoasters$Drum" "much" "I", Cond.fieldLink RX2 24 "ChicoryRoasters$Drum" "level" "I", Cond.methodLink RX2 44 yX2_partsAt, Cond.instanceMethod yX2_partsAt, Cond.selects RX2 yX2_partsAt yX2_partsAt, Cond.code yX2_partsAt cX2_partsAt 3 (some .int), Cond.methodLink RX2 41 yX2_done, Cond.instanceMethod yX2_done, Cond.selects RX2 yX2_done yX2_done, Cond.code yX2_done cX2_done 1 (some .int), Cond.methodLink RX2 31 yX2_burnt, Cond.instanceMethod yX2_burnt, Cond.selects RX2 yX2_burnt yX2_burnt, Cond.code yX2_burnt cX2_burnt 1 (some .int), Cond.selects RX3 ⟨"ChicoryRoasters$Teller", "tell", "(I)I"⟩ yX3_tell, Cond.instanceMethod yX3_tell, Cond.code yX3_tell cX3_tell 2 (some .int), Cond.fieldLink RX3 9 "ChicoryRoasters$Smuggler" "way" "I", Cond.fieldLink RX3 15 "ChicoryRoasters$Smuggler" "cargo" "I", Cond.fieldLink RX3 18 "ChicoryRoasters$Smuggler" "where" "I", Cond.fieldLink RX3 21 "ChicoryRoasters$Smuggler" "left" "I", Cond.fieldLink RX3 24 "ChicoryRoasters$Smuggler" "arrests" "I"]
def wsX7_ask_r4 : List Cond := [Cond.selects RX6 ⟨"ChicoryRoasters$Teller", "tell", "(I)I"⟩ yX6_tell, Cond.instanceMethod yX6_tell, Cond.code yX6_tell cX6_tell 2 (some .int), Cond.fieldLink RX6 63 "ChicoryRoasters$Town" "day" "I", Cond.fieldLink RX6 38 "ChicoryRoasters$Town" "store" "LChicoryRoasters$Store;", Cond.fieldLink RX6 114 "ChicoryRoasters$Store" "roots" "I", Cond.fieldLink RX6 117 "ChicoryRoasters$Store" "beans" "I", Cond.fieldLink RX6 120 "ChicoryRoasters$Store" "chicory" "I", Cond.fieldLink RX6 123 "ChicoryRoasters$Store" "coffee" "I", Cond.fieldLink RX6 126 "ChicoryRoasters$Store" "served" "I", Cond.fieldLink RX6 129 "ChicoryRoasters$Store" "thinned" "I", Cond.fieldLink RX6 132 "ChicoryRoasters$Store" "share" "I", Cond.fieldLink RX6 46 "ChicoryRoasters$Town" "patrol" "I"]
def wsX7_ask : List Cond := .code yX7_ask cX7_ask 2 (some .int) :: ((wsX7_ask_r1 ++ (wsX7_ask_r2 ++ (wsX7_ask_r3 ++ wsX7_ask_r4))) ++ wsX00 ++ wsX10 ++ wsX20 ++ wsX30 ++ wsX60 ++ wsX40 ++ (vx_atS RX7 143 "java/lang/IndexOutOfBoundsException" ["java/lang/RuntimeException", "java/lang/Exception"]).filter goodWord)
def wsX7_about_r1 : List Cond := [Cond.fieldLink RX7 10 "ChicoryRoasters" "town" "LChicoryRoasters$Town;", Cond.fieldLink RX7 23 "ChicoryRoasters$Town" "bedCount" "I", Cond.fieldLink RX7 31 "ChicoryRoasters$Town" "beds" "[LChicoryRoasters$Bed;", Cond.methodLink RX7 89 yX7_checkIndex, Cond.static yX7_checkIndex, Cond.initialized RX7, Cond.code yX7_checkIndex cX7_checkIndex 2 none, Cond.classLink RX7 139 "java/lang/IndexOutOfBoundsException", Cond.initialized "java/lang/IndexOutOfBoundsException", Cond.methodLink RX7 132 yX7_ask, Cond.static yX7_ask, Cond.code yX7_ask cX7_ask 2 (some .int), Cond.methodLink RX7 192 ⟨"ChicoryRoasters$Teller", "size", "()I"⟩, Cond.sameMethod "ChicoryRoasters$Teller" "ChicoryRoasters$Teller" "size" "()I", Cond.selects RX0 ⟨"ChicoryRoasters$Teller", "size", "()I"⟩ yX0_size, Cond.instanceMethod yX0_size, Cond.initialized RX0, Cond.code yX0_size cX0_size 1 (some .int), Cond.selects RX1 ⟨"ChicoryRoasters$Teller", "size", "()I"⟩ yX1_size, Cond.instanceMethod yX1_size, Cond.initialized RX1, Cond.code yX1_size cX1_size 1 (some .int), Cond.selects RX2 ⟨"ChicoryRoasters$Teller", "size", "()I"⟩ yX2_size, Cond.instanceMethod yX2_size]
def wsX7_about_r2 : List Cond := [Cond.initialized RX2, Cond.code yX2_size cX2_size 1 (some .int), Cond.selects RX3 ⟨"ChicoryRoasters$Teller", "size", "()I"⟩ yX3_size, Cond.instanceMethod yX3_size, Cond.initialized RX3, Cond.code yX3_size cX3_size 1 (some .int), Cond.selects RX6 ⟨"ChicoryRoasters$Teller", "size", "()I"⟩ yX6_size, Cond.instanceMethod yX6_size, Cond.initialized RX6, Cond.code yX6_size cX6_size 1 (some .int), Cond.methodLink RX7 197 ⟨"ChicoryRoasters$Teller", "tell", "(I)I"⟩, Cond.sameMethod "ChicoryRoasters$Teller" "ChicoryRoasters$Teller" "tell" "(I)I", Cond.selects RX0 ⟨"ChicoryRoasters$Teller", "tell", "(I)I"⟩ yX0_tell, Cond.instanceMethod yX0_tell, Cond.code yX0_tell cX0_tell 2 (some .int), Cond.fieldLink RX0 7 "ChicoryRoasters$Bed" "grows" "I", Cond.fieldLink RX0 13 "ChicoryRoasters$Bed" "most" "I", Cond.fieldLink RX0 16 "ChicoryRoasters$Bed" "roots" "I", Cond.selects RX1 ⟨"ChicoryRoasters$Teller", "tell", "(I)I"⟩ yX1_tell, Cond.instanceMethod yX1_tell, Cond.code yX1_tell cX1_tell 2 (some .int), Cond.fieldLink RX1 9 "ChicoryRoasters$Card" "allotted" "I", Cond.fieldLink RX1 15 "ChicoryRoasters$Card" "picky" "I", Cond.fieldLink RX1 18 "ChicoryRoasters$Card" "left" "I"]
def wsX7_about_r3 : List Cond := [Cond.fieldLink RX1 42 "ChicoryRoasters$Card" "served" "I", Cond.fieldLink RX1 35 "ChicoryRoasters$Card" "refused" "I", Cond.selects RX2 ⟨"ChicoryRoasters$Teller", "tell", "(I)I"⟩ yX2_tell, Cond.instanceMethod yX2_tell, Cond.code yX2_tell cX2_tell 2 (some .int), Cond.fieldLink RX2 15 "ChicoryRoasters$Drum" "holds" "I", Cond.fieldLink RX2 18 "ChicoryRoasters$Drum" "heat" "I", Cond.fieldLink RX2 9 "ChicoryRoasters$Drum" "kind" "I", Cond.fieldLink RX2 21 "ChicoryRoasters$Drum" "much" "I", Cond.fieldLink RX2 24 "ChicoryRoasters$Drum" "level" "I", Cond.methodLink RX2 44 yX2_partsAt, Cond.instanceMethod yX2_partsAt, Cond.selects RX2 yX2_partsAt yX2_partsAt, Cond.code yX2_partsAt cX2_partsAt 3 (some .int), Cond.methodLink RX2 41 yX2_done, Cond.instanceMethod yX2_done, Cond.selects RX2 yX2_done yX2_done, Cond.code yX2_done cX2_done 1 (some .int), Cond.methodLink RX2 31 yX2_burnt, Cond.instanceMethod yX2_burnt, Cond.selects RX2 yX2_burnt yX2_burnt, Cond.code yX2_burnt cX2_burnt 1 (some .int), Cond.selects RX3 ⟨"ChicoryRoasters$Teller", "tell", "(I)I"⟩ yX3_tell, Cond.instanceMethod yX3_tell]
def wsX7_about_r4 : List Cond := [Cond.code yX3_tell cX3_tell 2 (some .int), Cond.fieldLink RX3 9 "ChicoryRoasters$Smuggler" "way" "I", Cond.fieldLink RX3 15 "ChicoryRoasters$Smuggler" "cargo" "I", Cond.fieldLink RX3 18 "ChicoryRoasters$Smuggler" "where" "I", Cond.fieldLink RX3 21 "ChicoryRoasters$Smuggler" "left" "I", Cond.fieldLink RX3 24 "ChicoryRoasters$Smuggler" "arrests" "I", Cond.selects RX6 ⟨"ChicoryRoasters$Teller", "tell", "(I)I"⟩ yX6_tell, Cond.instanceMethod yX6_tell, Cond.code yX6_tell cX6_tell 2 (some .int), Cond.fieldLink RX6 63 "ChicoryRoasters$Town" "day" "I", Cond.fieldLink RX6 38 "ChicoryRoasters$Town" "store" "LChicoryRoasters$Store;", Cond.fieldLink RX6 114 "ChicoryRoasters$Store" "roots" "I", Cond.fieldLink RX6 117 "ChicoryRoasters$Store" "beans" "I", Cond.fieldLink RX6 120 "ChicoryRoasters$Store" "chicory" "I", Cond.fieldLink RX6 123 "ChicoryRoasters$Store" "coffee" "I", Cond.fieldLink RX6 126 "ChicoryRoasters$Store" "served" "I", Cond.fieldLink RX6 129 "ChicoryRoasters$Store" "thinned" "I", Cond.fieldLink RX6 132 "ChicoryRoasters$Store" "share" "I", Cond.fieldLink RX6 46 "ChicoryRoasters$Town" "patrol" "I"]
def wsX7_about : List Cond := .code yX7_about cX7_about 3 (some .int) :: ((wsX7_about_r1 ++ (wsX7_about_r2 ++ (wsX7_about_r3 ++ wsX7_about_r4))) ++ wsX70 ++ wsX60 ++ wsX00 ++ wsX10 ++ wsX20 ++ wsX30 ++ wsX40 ++ (vx_atS RX7 143 "java/lang/IndexOutOfBoundsException" ["java/lang/RuntimeException", "java/lang/Exception"]).filter goodWord)
def wsX7_roast_r1 : List Cond := [Cond.fieldLink RX7 10 "ChicoryRoasters" "town" "LChicoryRoasters$Town;", Cond.fieldLink RX7 41 "ChicoryRoasters$Town" "drumCount" "I", Cond.fieldLink RX7 44 "ChicoryRoasters$Town" "drums" "[LChicoryRoasters$Drum;", Cond.methodLink RX7 89 yX7_checkIndex, Cond.static yX7_checkIndex, Cond.initialized RX7, Cond.code yX7_checkIndex cX7_checkIndex 2 none, Cond.classLink RX7 139 "java/lang/IndexOutOfBoundsException", Cond.initialized "java/lang/IndexOutOfBoundsException", Cond.methodLink RX7 132 yX7_ask, Cond.static yX7_ask, Cond.code yX7_ask cX7_ask 2 (some .int), Cond.methodLink RX7 192 ⟨"ChicoryRoasters$Teller", "size", "()I"⟩, Cond.sameMethod "ChicoryRoasters$Teller" "ChicoryRoasters$Teller" "size" "()I", Cond.selects RX0 ⟨"ChicoryRoasters$Teller", "size", "()I"⟩ yX0_size, Cond.instanceMethod yX0_size, Cond.initialized RX0, Cond.code yX0_size cX0_size 1 (some .int), Cond.selects RX1 ⟨"ChicoryRoasters$Teller", "size", "()I"⟩ yX1_size, Cond.instanceMethod yX1_size, Cond.initialized RX1, Cond.code yX1_size cX1_size 1 (some .int), Cond.selects RX2 ⟨"ChicoryRoasters$Teller", "size", "()I"⟩ yX2_size, Cond.instanceMethod yX2_size]
def wsX7_roast_r2 : List Cond := [Cond.initialized RX2, Cond.code yX2_size cX2_size 1 (some .int), Cond.selects RX3 ⟨"ChicoryRoasters$Teller", "size", "()I"⟩ yX3_size, Cond.instanceMethod yX3_size, Cond.initialized RX3, Cond.code yX3_size cX3_size 1 (some .int), Cond.selects RX6 ⟨"ChicoryRoasters$Teller", "size", "()I"⟩ yX6_size, Cond.instanceMethod yX6_size, Cond.initialized RX6, Cond.code yX6_size cX6_size 1 (some .int), Cond.methodLink RX7 197 ⟨"ChicoryRoasters$Teller", "tell", "(I)I"⟩, Cond.sameMethod "ChicoryRoasters$Teller" "ChicoryRoasters$Teller" "tell" "(I)I", Cond.selects RX0 ⟨"ChicoryRoasters$Teller", "tell", "(I)I"⟩ yX0_tell, Cond.instanceMethod yX0_tell, Cond.code yX0_tell cX0_tell 2 (some .int), Cond.fieldLink RX0 7 "ChicoryRoasters$Bed" "grows" "I", Cond.fieldLink RX0 13 "ChicoryRoasters$Bed" "most" "I", Cond.fieldLink RX0 16 "ChicoryRoasters$Bed" "roots" "I", Cond.selects RX1 ⟨"ChicoryRoasters$Teller", "tell", "(I)I"⟩ yX1_tell, Cond.instanceMethod yX1_tell, Cond.code yX1_tell cX1_tell 2 (some .int), Cond.fieldLink RX1 9 "ChicoryRoasters$Card" "allotted" "I", Cond.fieldLink RX1 15 "ChicoryRoasters$Card" "picky" "I", Cond.fieldLink RX1 18 "ChicoryRoasters$Card" "left" "I"]
def wsX7_roast_r3 : List Cond := [Cond.fieldLink RX1 42 "ChicoryRoasters$Card" "served" "I", Cond.fieldLink RX1 35 "ChicoryRoasters$Card" "refused" "I", Cond.selects RX2 ⟨"ChicoryRoasters$Teller", "tell", "(I)I"⟩ yX2_tell, Cond.instanceMethod yX2_tell, Cond.code yX2_tell cX2_tell 2 (some .int), Cond.fieldLink RX2 15 "ChicoryRoasters$Drum" "holds" "I", Cond.fieldLink RX2 18 "ChicoryRoasters$Drum" "heat" "I", Cond.fieldLink RX2 9 "ChicoryRoasters$Drum" "kind" "I", Cond.fieldLink RX2 21 "ChicoryRoasters$Drum" "much" "I", Cond.fieldLink RX2 24 "ChicoryRoasters$Drum" "level" "I", Cond.methodLink RX2 44 yX2_partsAt, Cond.instanceMethod yX2_partsAt, Cond.selects RX2 yX2_partsAt yX2_partsAt, Cond.code yX2_partsAt cX2_partsAt 3 (some .int), Cond.methodLink RX2 41 yX2_done, Cond.instanceMethod yX2_done, Cond.selects RX2 yX2_done yX2_done, Cond.code yX2_done cX2_done 1 (some .int), Cond.methodLink RX2 31 yX2_burnt, Cond.instanceMethod yX2_burnt, Cond.selects RX2 yX2_burnt yX2_burnt, Cond.code yX2_burnt cX2_burnt 1 (some .int), Cond.selects RX3 ⟨"ChicoryRoasters$Teller", "tell", "(I)I"⟩ yX3_tell, Cond.instanceMethod yX3_tell]
def wsX7_roast_r4 : List Cond := [Cond.code yX3_tell cX3_tell 2 (some .int), Cond.fieldLink RX3 9 "ChicoryRoasters$Smuggler" "way" "I", Cond.fieldLink RX3 15 "ChicoryRoasters$Smuggler" "cargo" "I", Cond.fieldLink RX3 18 "ChicoryRoasters$Smuggler" "where" "I", Cond.fieldLink RX3 21 "ChicoryRoasters$Smuggler" "left" "I", Cond.fieldLink RX3 24 "ChicoryRoasters$Smuggler" "arrests" "I", Cond.selects RX6 ⟨"ChicoryRoasters$Teller", "tell", "(I)I"⟩ yX6_tell, Cond.instanceMethod yX6_tell, Cond.code yX6_tell cX6_tell 2 (some .int), Cond.fieldLink RX6 63 "ChicoryRoasters$Town" "day" "I", Cond.fieldLink RX6 38 "ChicoryRoasters$Town" "store" "LChicoryRoasters$Store;", Cond.fieldLink RX6 114 "ChicoryRoasters$Store" "roots" "I", Cond.fieldLink RX6 117 "ChicoryRoasters$Store" "beans" "I", Cond.fieldLink RX6 120 "ChicoryRoasters$Store" "chicory" "I", Cond.fieldLink RX6 123 "ChicoryRoasters$Store" "coffee" "I", Cond.fieldLink RX6 126 "ChicoryRoasters$Store" "served" "I", Cond.fieldLink RX6 129 "ChicoryRoasters$Store" "thinned" "I", Cond.fieldLink RX6 132 "ChicoryRoasters$Store" "share" "I", Cond.fieldLink RX6 46 "ChicoryRoasters$Town" "patrol" "I"]
def wsX7_roast : List Cond := .code yX7_roast cX7_roast 3 (some .int) :: ((wsX7_roast_r1 ++ (wsX7_roast_r2 ++ (wsX7_roast_r3 ++ wsX7_roast_r4))) ++ wsX70 ++ wsX60 ++ wsX00 ++ wsX10 ++ wsX20 ++ wsX30 ++ wsX40 ++ (vx_atS RX7 143 "java/lang/IndexOutOfBoundsException" ["java/lang/RuntimeException", "java/lang/Exception"]).filter goodWord)
def wsX7_told_r1 : List Cond := [Cond.fieldLink RX7 10 "ChicoryRoasters" "town" "LChicoryRoasters$Town;", Cond.fieldLink RX7 53 "ChicoryRoasters$Town" "smugglerCount" "I", Cond.fieldLink RX7 56 "ChicoryRoasters$Town" "smugglers" "[LChicoryRoasters$Smuggler;", Cond.methodLink RX7 89 yX7_checkIndex, Cond.static yX7_checkIndex, Cond.initialized RX7, Cond.code yX7_checkIndex cX7_checkIndex 2 none, Cond.classLink RX7 139 "java/lang/IndexOutOfBoundsException", Cond.initialized "java/lang/IndexOutOfBoundsException", Cond.methodLink RX7 132 yX7_ask, Cond.static yX7_ask, Cond.code yX7_ask cX7_ask 2 (some .int), Cond.methodLink RX7 192 ⟨"ChicoryRoasters$Teller", "size", "()I"⟩, Cond.sameMethod "ChicoryRoasters$Teller" "ChicoryRoasters$Teller" "size" "()I", Cond.selects RX0 ⟨"ChicoryRoasters$Teller", "size", "()I"⟩ yX0_size, Cond.instanceMethod yX0_size, Cond.initialized RX0, Cond.code yX0_size cX0_size 1 (some .int), Cond.selects RX1 ⟨"ChicoryRoasters$Teller", "size", "()I"⟩ yX1_size, Cond.instanceMethod yX1_size, Cond.initialized RX1, Cond.code yX1_size cX1_size 1 (some .int), Cond.selects RX2 ⟨"ChicoryRoasters$Teller", "size", "()I"⟩ yX2_size, Cond.instanceMethod yX2_size]
def wsX7_told_r2 : List Cond := [Cond.initialized RX2, Cond.code yX2_size cX2_size 1 (some .int), Cond.selects RX3 ⟨"ChicoryRoasters$Teller", "size", "()I"⟩ yX3_size, Cond.instanceMethod yX3_size, Cond.initialized RX3, Cond.code yX3_size cX3_size 1 (some .int), Cond.selects RX6 ⟨"ChicoryRoasters$Teller", "size", "()I"⟩ yX6_size, Cond.instanceMethod yX6_size, Cond.initialized RX6, Cond.code yX6_size cX6_size 1 (some .int), Cond.methodLink RX7 197 ⟨"ChicoryRoasters$Teller", "tell", "(I)I"⟩, Cond.sameMethod "ChicoryRoasters$Teller" "ChicoryRoasters$Teller" "tell" "(I)I", Cond.selects RX0 ⟨"ChicoryRoasters$Teller", "tell", "(I)I"⟩ yX0_tell, Cond.instanceMethod yX0_tell, Cond.code yX0_tell cX0_tell 2 (some .int), Cond.fieldLink RX0 7 "ChicoryRoasters$Bed" "grows" "I", Cond.fieldLink RX0 13 "ChicoryRoasters$Bed" "most" "I", Cond.fieldLink RX0 16 "ChicoryRoasters$Bed" "roots" "I", Cond.selects RX1 ⟨"ChicoryRoasters$Teller", "tell", "(I)I"⟩ yX1_tell, Cond.instanceMethod yX1_tell, Cond.code yX1_tell cX1_tell 2 (some .int), Cond.fieldLink RX1 9 "ChicoryRoasters$Card" "allotted" "I", Cond.fieldLink RX1 15 "ChicoryRoasters$Card" "picky" "I", Cond.fieldLink RX1 18 "ChicoryRoasters$Card" "left" "I"]
def wsX7_told_r3 : List Cond := [Cond.fieldLink RX1 42 "ChicoryRoasters$Card" "served" "I", Cond.fieldLink RX1 35 "ChicoryRoasters$Card" "refused" "I", Cond.selects RX2 ⟨"ChicoryRoasters$Teller", "tell", "(I)I"⟩ yX2_tell, Cond.instanceMethod yX2_tell, Cond.code yX2_tell cX2_tell 2 (some .int), Cond.fieldLink RX2 15 "ChicoryRoasters$Drum" "holds" "I", Cond.fieldLink RX2 18 "ChicoryRoasters$Drum" "heat" "I", Cond.fieldLink RX2 9 "ChicoryRoasters$Drum" "kind" "I", Cond.fieldLink RX2 21 "ChicoryRoasters$Drum" "much" "I", Cond.fieldLink RX2 24 "ChicoryRoasters$Drum" "level" "I", Cond.methodLink RX2 44 yX2_partsAt, Cond.instanceMethod yX2_partsAt, Cond.selects RX2 yX2_partsAt yX2_partsAt, Cond.code yX2_partsAt cX2_partsAt 3 (some .int), Cond.methodLink RX2 41 yX2_done, Cond.instanceMethod yX2_done, Cond.selects RX2 yX2_done yX2_done, Cond.code yX2_done cX2_done 1 (some .int), Cond.methodLink RX2 31 yX2_burnt, Cond.instanceMethod yX2_burnt, Cond.selects RX2 yX2_burnt yX2_burnt, Cond.code yX2_burnt cX2_burnt 1 (some .int), Cond.selects RX3 ⟨"ChicoryRoasters$Teller", "tell", "(I)I"⟩ yX3_tell, Cond.instanceMethod yX3_tell]
def wsX7_told_r4 : List Cond := [Cond.code yX3_tell cX3_tell 2 (some .int), Cond.fieldLink RX3 9 "ChicoryRoasters$Smuggler" "way" "I", Cond.fieldLink RX3 15 "ChicoryRoasters$Smuggler" "cargo" "I", Cond.fieldLink RX3 18 "ChicoryRoasters$Smuggler" "where" "I", Cond.fieldLink RX3 21 "ChicoryRoasters$Smuggler" "left" "I", Cond.fieldLink RX3 24 "ChicoryRoasters$Smuggler" "arrests" "I", Cond.selects RX6 ⟨"ChicoryRoasters$Teller", "tell", "(I)I"⟩ yX6_tell, Cond.instanceMethod yX6_tell, Cond.code yX6_tell cX6_tell 2 (some .int), Cond.fieldLink RX6 63 "ChicoryRoasters$Town" "day" "I", Cond.fieldLink RX6 38 "ChicoryRoasters$Town" "store" "LChicoryRoasters$Store;", Cond.fieldLink RX6 114 "ChicoryRoasters$Store" "roots" "I", Cond.fieldLink RX6 117 "ChicoryRoasters$Store" "beans" "I", Cond.fieldLink RX6 120 "ChicoryRoasters$Store" "chicory" "I", Cond.fieldLink RX6 123 "ChicoryRoasters$Store" "coffee" "I", Cond.fieldLink RX6 126 "ChicoryRoasters$Store" "served" "I", Cond.fieldLink RX6 129 "ChicoryRoasters$Store" "thinned" "I", Cond.fieldLink RX6 132 "ChicoryRoasters$Store" "share" "I", Cond.fieldLink RX6 46 "ChicoryRoasters$Town" "patrol" "I"]
def wsX7_told : List Cond := .code yX7_told cX7_told 3 (some .int) :: ((wsX7_told_r1 ++ (wsX7_told_r2 ++ (wsX7_told_r3 ++ wsX7_told_r4))) ++ wsX70 ++ wsX60 ++ wsX00 ++ wsX10 ++ wsX20 ++ wsX30 ++ wsX40 ++ (vx_atS RX7 143 "java/lang/IndexOutOfBoundsException" ["java/lang/RuntimeException", "java/lang/Exception"]).filter goodWord)
def wsX7_ration_r1 : List Cond := [Cond.fieldLink RX7 10 "ChicoryRoasters" "town" "LChicoryRoasters$Town;", Cond.fieldLink RX7 65 "ChicoryRoasters$Town" "cardCount" "I", Cond.fieldLink RX7 68 "ChicoryRoasters$Town" "cards" "[LChicoryRoasters$Card;", Cond.methodLink RX7 89 yX7_checkIndex, Cond.static yX7_checkIndex, Cond.initialized RX7, Cond.code yX7_checkIndex cX7_checkIndex 2 none, Cond.classLink RX7 139 "java/lang/IndexOutOfBoundsException", Cond.initialized "java/lang/IndexOutOfBoundsException", Cond.methodLink RX7 132 yX7_ask, Cond.static yX7_ask, Cond.code yX7_ask cX7_ask 2 (some .int), Cond.methodLink RX7 192 ⟨"ChicoryRoasters$Teller", "size", "()I"⟩, Cond.sameMethod "ChicoryRoasters$Teller" "ChicoryRoasters$Teller" "size" "()I", Cond.selects RX0 ⟨"ChicoryRoasters$Teller", "size", "()I"⟩ yX0_size, Cond.instanceMethod yX0_size, Cond.initialized RX0, Cond.code yX0_size cX0_size 1 (some .int), Cond.selects RX1 ⟨"ChicoryRoasters$Teller", "size", "()I"⟩ yX1_size, Cond.instanceMethod yX1_size, Cond.initialized RX1, Cond.code yX1_size cX1_size 1 (some .int), Cond.selects RX2 ⟨"ChicoryRoasters$Teller", "size", "()I"⟩ yX2_size, Cond.instanceMethod yX2_size]
def wsX7_ration_r2 : List Cond := [Cond.initialized RX2, Cond.code yX2_size cX2_size 1 (some .int), Cond.selects RX3 ⟨"ChicoryRoasters$Teller", "size", "()I"⟩ yX3_size, Cond.instanceMethod yX3_size, Cond.initialized RX3, Cond.code yX3_size cX3_size 1 (some .int), Cond.selects RX6 ⟨"ChicoryRoasters$Teller", "size", "()I"⟩ yX6_size, Cond.instanceMethod yX6_size, Cond.initialized RX6, Cond.code yX6_size cX6_size 1 (some .int), Cond.methodLink RX7 197 ⟨"ChicoryRoasters$Teller", "tell", "(I)I"⟩, Cond.sameMethod "ChicoryRoasters$Teller" "ChicoryRoasters$Teller" "tell" "(I)I", Cond.selects RX0 ⟨"ChicoryRoasters$Teller", "tell", "(I)I"⟩ yX0_tell, Cond.instanceMethod yX0_tell, Cond.code yX0_tell cX0_tell 2 (some .int), Cond.fieldLink RX0 7 "ChicoryRoasters$Bed" "grows" "I", Cond.fieldLink RX0 13 "ChicoryRoasters$Bed" "most" "I", Cond.fieldLink RX0 16 "ChicoryRoasters$Bed" "roots" "I", Cond.selects RX1 ⟨"ChicoryRoasters$Teller", "tell", "(I)I"⟩ yX1_tell, Cond.instanceMethod yX1_tell, Cond.code yX1_tell cX1_tell 2 (some .int), Cond.fieldLink RX1 9 "ChicoryRoasters$Card" "allotted" "I", Cond.fieldLink RX1 15 "ChicoryRoasters$Card" "picky" "I", Cond.fieldLink RX1 18 "ChicoryRoasters$Card" "left" "I"]
def wsX7_ration_r3 : List Cond := [Cond.fieldLink RX1 42 "ChicoryRoasters$Card" "served" "I", Cond.fieldLink RX1 35 "ChicoryRoasters$Card" "refused" "I", Cond.selects RX2 ⟨"ChicoryRoasters$Teller", "tell", "(I)I"⟩ yX2_tell, Cond.instanceMethod yX2_tell, Cond.code yX2_tell cX2_tell 2 (some .int), Cond.fieldLink RX2 15 "ChicoryRoasters$Drum" "holds" "I", Cond.fieldLink RX2 18 "ChicoryRoasters$Drum" "heat" "I", Cond.fieldLink RX2 9 "ChicoryRoasters$Drum" "kind" "I", Cond.fieldLink RX2 21 "ChicoryRoasters$Drum" "much" "I", Cond.fieldLink RX2 24 "ChicoryRoasters$Drum" "level" "I", Cond.methodLink RX2 44 yX2_partsAt, Cond.instanceMethod yX2_partsAt, Cond.selects RX2 yX2_partsAt yX2_partsAt, Cond.code yX2_partsAt cX2_partsAt 3 (some .int), Cond.methodLink RX2 41 yX2_done, Cond.instanceMethod yX2_done, Cond.selects RX2 yX2_done yX2_done, Cond.code yX2_done cX2_done 1 (some .int), Cond.methodLink RX2 31 yX2_burnt, Cond.instanceMethod yX2_burnt, Cond.selects RX2 yX2_burnt yX2_burnt, Cond.code yX2_burnt cX2_burnt 1 (some .int), Cond.selects RX3 ⟨"ChicoryRoasters$Teller", "tell", "(I)I"⟩ yX3_tell, Cond.instanceMethod yX3_tell]
def wsX7_ration_r4 : List Cond := [Cond.code yX3_tell cX3_tell 2 (some .int), Cond.fieldLink RX3 9 "ChicoryRoasters$Smuggler" "way" "I", Cond.fieldLink RX3 15 "ChicoryRoasters$Smuggler" "cargo" "I", Cond.fieldLink RX3 18 "ChicoryRoasters$Smuggler" "where" "I", Cond.fieldLink RX3 21 "ChicoryRoasters$Smuggler" "left" "I", Cond.fieldLink RX3 24 "ChicoryRoasters$Smuggler" "arrests" "I", Cond.selects RX6 ⟨"ChicoryRoasters$Teller", "tell", "(I)I"⟩ yX6_tell, Cond.instanceMethod yX6_tell, Cond.code yX6_tell cX6_tell 2 (some .int), Cond.fieldLink RX6 63 "ChicoryRoasters$Town" "day" "I", Cond.fieldLink RX6 38 "ChicoryRoasters$Town" "store" "LChicoryRoasters$Store;", Cond.fieldLink RX6 114 "ChicoryRoasters$Store" "roots" "I", Cond.fieldLink RX6 117 "ChicoryRoasters$Store" "beans" "I", Cond.fieldLink RX6 120 "ChicoryRoasters$Store" "chicory" "I", Cond.fieldLink RX6 123 "ChicoryRoasters$Store" "coffee" "I", Cond.fieldLink RX6 126 "ChicoryRoasters$Store" "served" "I", Cond.fieldLink RX6 129 "ChicoryRoasters$Store" "thinned" "I", Cond.fieldLink RX6 132 "ChicoryRoasters$Store" "share" "I", Cond.fieldLink RX6 46 "ChicoryRoasters$Town" "patrol" "I"]
def wsX7_ration : List Cond := .code yX7_ration cX7_ration 3 (some .int) :: ((wsX7_ration_r1 ++ (wsX7_ration_r2 ++ (wsX7_ration_r3 ++ wsX7_ration_r4))) ++ wsX70 ++ wsX60 ++ wsX00 ++ wsX10 ++ wsX20 ++ wsX30 ++ wsX40 ++ (vx_atS RX7 143 "java/lang/IndexOutOfBoundsException" ["java/lang/RuntimeException", "java/lang/Exception"]).filter goodWord)
def wsX7_count_r1 : List Cond := [Cond.fieldLink RX7 10 "ChicoryRoasters" "town" "LChicoryRoasters$Town;", Cond.methodLink RX7 132 yX7_ask, Cond.static yX7_ask, Cond.initialized RX7, Cond.code yX7_ask cX7_ask 2 (some .int), Cond.methodLink RX7 192 ⟨"ChicoryRoasters$Teller", "size", "()I"⟩, Cond.sameMethod "ChicoryRoasters$Teller" "ChicoryRoasters$Teller" "size" "()I", Cond.selects RX0 ⟨"ChicoryRoasters$Teller", "size", "()I"⟩ yX0_size, Cond.instanceMethod yX0_size, Cond.initialized RX0, Cond.code yX0_size cX0_size 1 (some .int), Cond.selects RX1 ⟨"ChicoryRoasters$Teller", "size", "()I"⟩ yX1_size, Cond.instanceMethod yX1_size, Cond.initialized RX1, Cond.code yX1_size cX1_size 1 (some .int), Cond.selects RX2 ⟨"ChicoryRoasters$Teller", "size", "()I"⟩ yX2_size, Cond.instanceMethod yX2_size, Cond.initialized RX2, Cond.code yX2_size cX2_size 1 (some .int), Cond.selects RX3 ⟨"ChicoryRoasters$Teller", "size", "()I"⟩ yX3_size, Cond.instanceMethod yX3_size, Cond.initialized RX3, Cond.code yX3_size cX3_size 1 (some .int), Cond.selects RX6 ⟨"ChicoryRoasters$Teller", "size", "()I"⟩ yX6_size]
def wsX7_count_r2 : List Cond := [Cond.instanceMethod yX6_size, Cond.initialized RX6, Cond.code yX6_size cX6_size 1 (some .int), Cond.methodLink RX7 89 yX7_checkIndex, Cond.static yX7_checkIndex, Cond.code yX7_checkIndex cX7_checkIndex 2 none, Cond.classLink RX7 139 "java/lang/IndexOutOfBoundsException", Cond.initialized "java/lang/IndexOutOfBoundsException", Cond.methodLink RX7 197 ⟨"ChicoryRoasters$Teller", "tell", "(I)I"⟩, Cond.sameMethod "ChicoryRoasters$Teller" "ChicoryRoasters$Teller" "tell" "(I)I", Cond.selects RX0 ⟨"ChicoryRoasters$Teller", "tell", "(I)I"⟩ yX0_tell, Cond.instanceMethod yX0_tell, Cond.code yX0_tell cX0_tell 2 (some .int), Cond.fieldLink RX0 7 "ChicoryRoasters$Bed" "grows" "I", Cond.fieldLink RX0 13 "ChicoryRoasters$Bed" "most" "I", Cond.fieldLink RX0 16 "ChicoryRoasters$Bed" "roots" "I", Cond.selects RX1 ⟨"ChicoryRoasters$Teller", "tell", "(I)I"⟩ yX1_tell, Cond.instanceMethod yX1_tell, Cond.code yX1_tell cX1_tell 2 (some .int), Cond.fieldLink RX1 9 "ChicoryRoasters$Card" "allotted" "I", Cond.fieldLink RX1 15 "ChicoryRoasters$Card" "picky" "I", Cond.fieldLink RX1 18 "ChicoryRoasters$Card" "left" "I", Cond.fieldLink RX1 42 "ChicoryRoasters$Card" "served" "I", Cond.fieldLink RX1 35 "ChicoryRoasters$Card" "refused" "I"]
def wsX7_count_r3 : List Cond := [Cond.selects RX2 ⟨"ChicoryRoasters$Teller", "tell", "(I)I"⟩ yX2_tell, Cond.instanceMethod yX2_tell, Cond.code yX2_tell cX2_tell 2 (some .int), Cond.fieldLink RX2 15 "ChicoryRoasters$Drum" "holds" "I", Cond.fieldLink RX2 18 "ChicoryRoasters$Drum" "heat" "I", Cond.fieldLink RX2 9 "ChicoryRoasters$Drum" "kind" "I", Cond.fieldLink RX2 21 "ChicoryRoasters$Drum" "much" "I", Cond.fieldLink RX2 24 "ChicoryRoasters$Drum" "level" "I", Cond.methodLink RX2 44 yX2_partsAt, Cond.instanceMethod yX2_partsAt, Cond.selects RX2 yX2_partsAt yX2_partsAt, Cond.code yX2_partsAt cX2_partsAt 3 (some .int), Cond.methodLink RX2 41 yX2_done, Cond.instanceMethod yX2_done, Cond.selects RX2 yX2_done yX2_done, Cond.code yX2_done cX2_done 1 (some .int), Cond.methodLink RX2 31 yX2_burnt, Cond.instanceMethod yX2_burnt, Cond.selects RX2 yX2_burnt yX2_burnt, Cond.code yX2_burnt cX2_burnt 1 (some .int), Cond.selects RX3 ⟨"ChicoryRoasters$Teller", "tell", "(I)I"⟩ yX3_tell, Cond.instanceMethod yX3_tell, Cond.code yX3_tell cX3_tell 2 (some .int), Cond.fieldLink RX3 9 "ChicoryRoasters$Smuggler" "way" "I"]
def wsX7_count_r4 : List Cond := [Cond.fieldLink RX3 15 "ChicoryRoasters$Smuggler" "cargo" "I", Cond.fieldLink RX3 18 "ChicoryRoasters$Smuggler" "where" "I", Cond.fieldLink RX3 21 "ChicoryRoasters$Smuggler" "left" "I", Cond.fieldLink RX3 24 "ChicoryRoasters$Smuggler" "arrests" "I", Cond.selects RX6 ⟨"ChicoryRoasters$Teller", "tell", "(I)I"⟩ yX6_tell, Cond.instanceMethod yX6_tell, Cond.code yX6_tell cX6_tell 2 (some .int), Cond.fieldLink RX6 63 "ChicoryRoasters$Town" "day" "I", Cond.fieldLink RX6 38 "ChicoryRoasters$Town" "store" "LChicoryRoasters$Store;", Cond.fieldLink RX6 114 "ChicoryRoasters$Store" "roots" "I", Cond.fieldLink RX6 117 "ChicoryRoasters$Store" "beans" "I", Cond.fieldLink RX6 120 "ChicoryRoasters$Store" "chicory" "I", Cond.fieldLink RX6 123 "ChicoryRoasters$Store" "coffee" "I", Cond.fieldLink RX6 126 "ChicoryRoasters$Store" "served" "I", Cond.fieldLink RX6 129 "ChicoryRoasters$Store" "thinned" "I", Cond.fieldLink RX6 132 "ChicoryRoasters$Store" "share" "I", Cond.fieldLink RX6 46 "ChicoryRoasters$Town" "patrol" "I"]
def wsX7_count : List Cond := .code yX7_count cX7_count 2 (some .int) :: ((wsX7_count_r1 ++ (wsX7_count_r2 ++ (wsX7_count_r3 ++ wsX7_count_r4))) ++ wsX70 ++ wsX00 ++ wsX10 ++ wsX20 ++ wsX30 ++ wsX60 ++ wsX40 ++ (vx_atS RX7 143 "java/lang/IndexOutOfBoundsException" ["java/lang/RuntimeException", "java/lang/Exception"]).filter goodWord)
def wsX7_pass_r1 : List Cond := [Cond.fieldLink RX7 10 "ChicoryRoasters" "town" "LChicoryRoasters$Town;", Cond.methodLink RX7 19 yX7_checkNumber, Cond.static yX7_checkNumber, Cond.initialized RX7, Cond.code yX7_checkNumber cX7_checkNumber 3 none, Cond.classLink RX7 182 "java/lang/IllegalArgumentException", Cond.initialized "java/lang/IllegalArgumentException", Cond.methodLink RX7 136 yX6_live, Cond.instanceMethod yX6_live, Cond.selects RX6 yX6_live yX6_live, Cond.initialized RX6, Cond.code yX6_live cX6_live 4 (some .int), Cond.fieldLink RX6 63 "ChicoryRoasters$Town" "day" "I", Cond.methodLink RX6 50 yX6_travel, Cond.instanceMethod yX6_travel, Cond.selects RX6 yX6_travel yX6_travel, Cond.code yX6_travel cX6_travel 2 none, Cond.fieldLink RX6 66 "ChicoryRoasters$Town" "smugglerCount" "I", Cond.fieldLink RX6 38 "ChicoryRoasters$Town" "store" "LChicoryRoasters$Store;", Cond.fieldLink RX6 25 "ChicoryRoasters$Town" "smugglers" "[LChicoryRoasters$Smuggler;", Cond.methodLink RX6 69 yX6_patrolled, Cond.instanceMethod yX6_patrolled, Cond.selects RX6 yX6_patrolled yX6_patrolled, Cond.code yX6_patrolled cX6_patrolled 2 (some .boolean)]
def wsX7_pass_r2 : List Cond := [Cond.fieldLink RX6 46 "ChicoryRoasters$Town" "patrol" "I", Cond.methodLink RX6 73 yX3_travel, Cond.instanceMethod yX3_travel, Cond.selects RX3 yX3_travel yX3_travel, Cond.initialized RX3, Cond.code yX3_travel cX3_travel 2 (some .int), Cond.fieldLink RX3 18 "ChicoryRoasters$Smuggler" "where" "I", Cond.fieldLink RX3 21 "ChicoryRoasters$Smuggler" "left" "I", Cond.fieldLink RX3 9 "ChicoryRoasters$Smuggler" "way" "I", Cond.fieldLink RX3 24 "ChicoryRoasters$Smuggler" "arrests" "I", Cond.methodLink RX3 27 yX3_comeHome, Cond.instanceMethod yX3_comeHome, Cond.selects RX3 yX3_comeHome yX3_comeHome, Cond.code yX3_comeHome cX3_comeHome 2 (some .int), Cond.fieldLink RX3 15 "ChicoryRoasters$Smuggler" "cargo" "I", Cond.methodLink RX6 76 yX4_add, Cond.instanceMethod yX4_add, Cond.selects RX4 yX4_add yX4_add, Cond.initialized RX4, Cond.code yX4_add cX4_add 3 none, Cond.fieldLink RX4 15 "ChicoryRoasters$Store" "roots" "I", Cond.fieldLink RX4 18 "ChicoryRoasters$Store" "beans" "I", Cond.methodLink RX6 53 yX6_warm, Cond.instanceMethod yX6_warm]
def wsX7_pass_r3 : List Cond := [Cond.selects RX6 yX6_warm yX6_warm, Cond.code yX6_warm cX6_warm 2 none, Cond.fieldLink RX6 80 "ChicoryRoasters$Town" "drumCount" "I", Cond.fieldLink RX6 19 "ChicoryRoasters$Town" "drums" "[LChicoryRoasters$Drum;", Cond.methodLink RX6 83 yX2_warm, Cond.instanceMethod yX2_warm, Cond.selects RX2 yX2_warm yX2_warm, Cond.initialized RX2, Cond.code yX2_warm cX2_warm 1 none, Cond.fieldLink RX2 24 "ChicoryRoasters$Drum" "level" "I", Cond.methodLink RX2 27 yX2_levelAfter, Cond.instanceMethod yX2_levelAfter, Cond.selects RX2 yX2_levelAfter yX2_levelAfter, Cond.code yX2_levelAfter cX2_levelAfter 2 (some .int), Cond.fieldLink RX2 9 "ChicoryRoasters$Drum" "kind" "I", Cond.fieldLink RX2 18 "ChicoryRoasters$Drum" "heat" "I", Cond.methodLink RX2 35 Lib.Math.min.name, Cond.static Lib.Math.min.name, Cond.initialized "java/lang/Math", Cond.code Lib.Math.min.name Lib.Math.min.code 2 (some .int), Cond.methodLink RX2 31 yX2_burnt, Cond.instanceMethod yX2_burnt, Cond.selects RX2 yX2_burnt yX2_burnt, Cond.code yX2_burnt cX2_burnt 1 (some .int)]
def wsX7_pass_r4 : List Cond := [Cond.methodLink RX6 56 yX6_grow, Cond.instanceMethod yX6_grow, Cond.selects RX6 yX6_grow yX6_grow, Cond.code yX6_grow cX6_grow 2 none, Cond.fieldLink RX6 84 "ChicoryRoasters$Town" "bedCount" "I", Cond.fieldLink RX6 11 "ChicoryRoasters$Town" "beds" "[LChicoryRoasters$Bed;", Cond.methodLink RX6 87 yX0_grow, Cond.instanceMethod yX0_grow, Cond.selects RX0 yX0_grow yX0_grow, Cond.initialized RX0, Cond.code yX0_grow cX0_grow 1 none, Cond.fieldLink RX0 16 "ChicoryRoasters$Bed" "roots" "I", Cond.fieldLink RX0 7 "ChicoryRoasters$Bed" "grows" "I", Cond.fieldLink RX0 13 "ChicoryRoasters$Bed" "most" "I", Cond.methodLink RX0 19 Lib.Math.min.name, Cond.methodLink RX6 59 yX6_serve, Cond.instanceMethod yX6_serve, Cond.selects RX6 yX6_serve yX6_serve, Cond.code yX6_serve cX6_serve 3 (some .int), Cond.fieldLink RX6 88 "ChicoryRoasters$Town" "cardCount" "I", Cond.fieldLink RX6 31 "ChicoryRoasters$Town" "cards" "[LChicoryRoasters$Card;", Cond.methodLink RX6 91 yX1_renew, Cond.instanceMethod yX1_renew, Cond.selects RX1 yX1_renew yX1_renew]
def wsX7_pass_r5 : List Cond := [Cond.initialized RX1, Cond.code yX1_renew cX1_renew 1 none, Cond.fieldLink RX1 9 "ChicoryRoasters$Card" "allotted" "I", Cond.fieldLink RX1 18 "ChicoryRoasters$Card" "left" "I", Cond.methodLink RX6 94 yX1_serveDay, Cond.instanceMethod yX1_serveDay, Cond.selects RX1 yX1_serveDay yX1_serveDay, Cond.code yX1_serveDay cX1_serveDay 3 (some .int), Cond.methodLink RX1 21 yX1_serveOne, Cond.instanceMethod yX1_serveOne, Cond.selects RX1 yX1_serveOne yX1_serveOne, Cond.code yX1_serveOne cX1_serveOne 3 (some .boolean), Cond.fieldLink RX1 15 "ChicoryRoasters$Card" "picky" "I", Cond.fieldLink RX1 35 "ChicoryRoasters$Card" "refused" "I", Cond.fieldLink RX1 42 "ChicoryRoasters$Card" "served" "I", Cond.methodLink RX1 25 yX4_coffeeOfPortion, Cond.instanceMethod yX4_coffeeOfPortion, Cond.selects RX4 yX4_coffeeOfPortion yX4_coffeeOfPortion, Cond.code yX4_coffeeOfPortion cX4_coffeeOfPortion 1 (some .int), Cond.fieldLink RX4 9 "ChicoryRoasters$Store" "share" "I", Cond.fieldLink RX4 24 "ChicoryRoasters$Store" "coffee" "I", Cond.methodLink RX4 27 Lib.Math.min.name, Cond.methodLink RX1 31 yX4_canMix, Cond.instanceMethod yX4_canMix]
def wsX7_pass_r6 : List Cond := [Cond.selects RX4 yX4_canMix yX4_canMix, Cond.code yX4_canMix cX4_canMix 2 (some .boolean), Cond.fieldLink RX4 21 "ChicoryRoasters$Store" "chicory" "I", Cond.methodLink RX1 38 yX4_servePortion, Cond.instanceMethod yX4_servePortion, Cond.selects RX4 yX4_servePortion yX4_servePortion, Cond.code yX4_servePortion cX4_servePortion 2 none, Cond.fieldLink RX4 33 "ChicoryRoasters$Store" "thinned" "I", Cond.fieldLink RX4 36 "ChicoryRoasters$Store" "served" "I"]
def wsX7_pass : List Cond := .code yX7_pass cX7_pass 2 (some .int) :: ((wsX7_pass_r1 ++ (wsX7_pass_r2 ++ (wsX7_pass_r3 ++ (wsX7_pass_r4 ++ (wsX7_pass_r5 ++ wsX7_pass_r6))))) ++ wsX70 ++ wsX60 ++ wsX30 ++ wsX40 ++ wsX20 ++ wsX00 ++ wsX10 ++ (vx_atS RX7 186 "java/lang/IllegalArgumentException" ["java/lang/RuntimeException", "java/lang/Exception"]).filter goodWord)
def wsX7_mean : List Cond := .code yX7_mean cX7_mean 1 (some .double) :: ([.fieldLink RX7 10 "ChicoryRoasters" "town" "LChicoryRoasters$Town;", .fieldLink RX7 65 "ChicoryRoasters$Town" "cardCount" "I", .fieldLink RX7 80 "ChicoryRoasters$Town" "store" "LChicoryRoasters$Store;", .fieldLink RX7 167 "ChicoryRoasters$Store" "served" "I"] ++ wsX70 ++ wsX60 ++ wsX40)
def wsX8_init : List Cond := .code yX8_init cX8_init 1 none :: ([.methodLink RX8 1 objectInit, .instanceMethod objectInit, .code objectInit ⟨#[0xb1]⟩ 1 none, .arrayClass .int, .fieldLink RX8 7 "ChicoryRoastersLaw$Sim" "store" "[I", .fieldLink RX8 13 "ChicoryRoastersLaw$Sim" "parts" "[I", .fieldLink RX8 16 "ChicoryRoastersLaw$Sim" "share" "I", .classLink RX8 20 "[I", .fieldLink RX8 21 "ChicoryRoastersLaw$Sim" "beds" "[[I", .fieldLink RX8 25 "ChicoryRoastersLaw$Sim" "drums" "[[I", .fieldLink RX8 28 "ChicoryRoastersLaw$Sim" "smugglers" "[[I", .fieldLink RX8 31 "ChicoryRoastersLaw$Sim" "cards" "[[I"] ++ wsX80)
def wsX8_burnt : List Cond := .code yX8_burnt cX8_burnt 1 (some .int) :: ([])
def wsX8_yields : List Cond := .code yX8_yields cX8_yields 3 (some .int) :: ([.methodLink RX8 55 yX8_burnt, .static yX8_burnt, .initialized RX8, .code yX8_burnt cX8_burnt 1 (some .int)])
def wsX8_isThere : List Cond := .code yX8_isThere cX8_isThere 2 (some .boolean) :: ([.fieldLink RX8 48 "ChicoryRoastersLaw$Sim" "patrol" "I"] ++ wsX80)
def wsX8_pass : List Cond := .code yX8_pass cX8_pass 7 none :: ([.fieldLink RX8 28 "ChicoryRoastersLaw$Sim" "smugglers" "[[I", .fieldLink RX8 39 "ChicoryRoastersLaw$Sim" "day" "I", .fieldLink RX8 7 "ChicoryRoastersLaw$Sim" "store" "[I", .fieldLink RX8 25 "ChicoryRoastersLaw$Sim" "drums" "[[I", .fieldLink RX8 21 "ChicoryRoastersLaw$Sim" "beds" "[[I", .fieldLink RX8 31 "ChicoryRoastersLaw$Sim" "cards" "[[I", .fieldLink RX8 13 "ChicoryRoastersLaw$Sim" "parts" "[I", .fieldLink RX8 16 "ChicoryRoastersLaw$Sim" "share" "I", .fieldLink RX8 42 "ChicoryRoastersLaw$Sim" "served" "I", .fieldLink RX8 45 "ChicoryRoastersLaw$Sim" "thinned" "I", .methodLink RX8 59 yX8_isThere, .instanceMethod yX8_isThere, .selects RX8 yX8_isThere yX8_isThere, .initialized RX8, .code yX8_isThere cX8_isThere 2 (some .boolean), .fieldLink RX8 48 "ChicoryRoastersLaw$Sim" "patrol" "I", .methodLink RX8 55 yX8_burnt, .static yX8_burnt, .code yX8_burnt cX8_burnt 1 (some .int)] ++ wsX80)
def wsX8_behind : List Cond := .code yX8_behind cX8_behind 3 (some (.object "ChicoryRoastersLaw$Sim")) :: ([.methodLink RX8 63 yX8_pass, .instanceMethod yX8_pass, .selects RX8 yX8_pass yX8_pass, .initialized RX8, .code yX8_pass cX8_pass 7 none, .fieldLink RX8 28 "ChicoryRoastersLaw$Sim" "smugglers" "[[I", .fieldLink RX8 39 "ChicoryRoastersLaw$Sim" "day" "I", .fieldLink RX8 7 "ChicoryRoastersLaw$Sim" "store" "[I", .fieldLink RX8 25 "ChicoryRoastersLaw$Sim" "drums" "[[I", .fieldLink RX8 21 "ChicoryRoastersLaw$Sim" "beds" "[[I", .fieldLink RX8 31 "ChicoryRoastersLaw$Sim" "cards" "[[I", .fieldLink RX8 13 "ChicoryRoastersLaw$Sim" "parts" "[I", .fieldLink RX8 16 "ChicoryRoastersLaw$Sim" "share" "I", .fieldLink RX8 42 "ChicoryRoastersLaw$Sim" "served" "I", .fieldLink RX8 45 "ChicoryRoastersLaw$Sim" "thinned" "I", .methodLink RX8 59 yX8_isThere, .instanceMethod yX8_isThere, .selects RX8 yX8_isThere yX8_isThere, .code yX8_isThere cX8_isThere 2 (some .boolean), .fieldLink RX8 48 "ChicoryRoastersLaw$Sim" "patrol" "I", .methodLink RX8 55 yX8_burnt, .static yX8_burnt, .code yX8_burnt cX8_burnt 1 (some .int)] ++ wsX80)
def wsX8_counted : List Cond := .code yX8_counted cX8_counted 3 (some .int) :: ([.arrayClass .int, .fieldLink RX8 39 "ChicoryRoastersLaw$Sim" "day" "I", .fieldLink RX8 7 "ChicoryRoastersLaw$Sim" "store" "[I", .fieldLink RX8 13 "ChicoryRoastersLaw$Sim" "parts" "[I", .fieldLink RX8 42 "ChicoryRoastersLaw$Sim" "served" "I", .fieldLink RX8 45 "ChicoryRoastersLaw$Sim" "thinned" "I", .fieldLink RX8 16 "ChicoryRoastersLaw$Sim" "share" "I", .fieldLink RX8 48 "ChicoryRoastersLaw$Sim" "patrol" "I"] ++ wsX80)
def wsX8_isSame_r1 : List Cond := [Cond.fieldLink RX8 21 "ChicoryRoastersLaw$Sim" "beds" "[[I", Cond.fieldLink RX8 25 "ChicoryRoastersLaw$Sim" "drums" "[[I", Cond.fieldLink RX8 28 "ChicoryRoastersLaw$Sim" "smugglers" "[[I", Cond.fieldLink RX8 31 "ChicoryRoastersLaw$Sim" "cards" "[[I", Cond.methodLink RX8 66 yX7_count, Cond.instanceMethod yX7_count, Cond.selects RX7 yX7_count yX7_count, Cond.initialized RX7, Cond.code yX7_count cX7_count 2 (some .int), Cond.fieldLink RX7 10 "ChicoryRoasters" "town" "LChicoryRoasters$Town;", Cond.methodLink RX7 132 yX7_ask, Cond.static yX7_ask, Cond.code yX7_ask cX7_ask 2 (some .int), Cond.methodLink RX7 192 ⟨"ChicoryRoasters$Teller", "size", "()I"⟩, Cond.sameMethod "ChicoryRoasters$Teller" "ChicoryRoasters$Teller" "size" "()I", Cond.selects RX0 ⟨"ChicoryRoasters$Teller", "size", "()I"⟩ yX0_size, Cond.instanceMethod yX0_size, Cond.initialized RX0, Cond.code yX0_size cX0_size 1 (some .int), Cond.selects RX1 ⟨"ChicoryRoasters$Teller", "size", "()I"⟩ yX1_size, Cond.instanceMethod yX1_size, Cond.initialized RX1, Cond.code yX1_size cX1_size 1 (some .int), Cond.selects RX2 ⟨"ChicoryRoasters$Teller", "size", "()I"⟩ yX2_size]
def wsX8_isSame_r2 : List Cond := [Cond.instanceMethod yX2_size, Cond.initialized RX2, Cond.code yX2_size cX2_size 1 (some .int), Cond.selects RX3 ⟨"ChicoryRoasters$Teller", "size", "()I"⟩ yX3_size, Cond.instanceMethod yX3_size, Cond.initialized RX3, Cond.code yX3_size cX3_size 1 (some .int), Cond.selects RX6 ⟨"ChicoryRoasters$Teller", "size", "()I"⟩ yX6_size, Cond.instanceMethod yX6_size, Cond.initialized RX6, Cond.code yX6_size cX6_size 1 (some .int), Cond.methodLink RX7 89 yX7_checkIndex, Cond.static yX7_checkIndex, Cond.code yX7_checkIndex cX7_checkIndex 2 none, Cond.classLink RX7 139 "java/lang/IndexOutOfBoundsException", Cond.initialized "java/lang/IndexOutOfBoundsException", Cond.methodLink RX7 197 ⟨"ChicoryRoasters$Teller", "tell", "(I)I"⟩, Cond.sameMethod "ChicoryRoasters$Teller" "ChicoryRoasters$Teller" "tell" "(I)I", Cond.selects RX0 ⟨"ChicoryRoasters$Teller", "tell", "(I)I"⟩ yX0_tell, Cond.instanceMethod yX0_tell, Cond.code yX0_tell cX0_tell 2 (some .int), Cond.fieldLink RX0 7 "ChicoryRoasters$Bed" "grows" "I", Cond.fieldLink RX0 13 "ChicoryRoasters$Bed" "most" "I", Cond.fieldLink RX0 16 "ChicoryRoasters$Bed" "roots" "I"]
def wsX8_isSame_r3 : List Cond := [Cond.selects RX1 ⟨"ChicoryRoasters$Teller", "tell", "(I)I"⟩ yX1_tell, Cond.instanceMethod yX1_tell, Cond.code yX1_tell cX1_tell 2 (some .int), Cond.fieldLink RX1 9 "ChicoryRoasters$Card" "allotted" "I", Cond.fieldLink RX1 15 "ChicoryRoasters$Card" "picky" "I", Cond.fieldLink RX1 18 "ChicoryRoasters$Card" "left" "I", Cond.fieldLink RX1 42 "ChicoryRoasters$Card" "served" "I", Cond.fieldLink RX1 35 "ChicoryRoasters$Card" "refused" "I", Cond.selects RX2 ⟨"ChicoryRoasters$Teller", "tell", "(I)I"⟩ yX2_tell, Cond.instanceMethod yX2_tell, Cond.code yX2_tell cX2_tell 2 (some .int), Cond.fieldLink RX2 15 "ChicoryRoasters$Drum" "holds" "I", Cond.fieldLink RX2 18 "ChicoryRoasters$Drum" "heat" "I", Cond.fieldLink RX2 9 "ChicoryRoasters$Drum" "kind" "I", Cond.fieldLink RX2 21 "ChicoryRoasters$Drum" "much" "I", Cond.fieldLink RX2 24 "ChicoryRoasters$Drum" "level" "I", Cond.methodLink RX2 44 yX2_partsAt, Cond.instanceMethod yX2_partsAt, Cond.selects RX2 yX2_partsAt yX2_partsAt, Cond.code yX2_partsAt cX2_partsAt 3 (some .int), Cond.methodLink RX2 41 yX2_done, Cond.instanceMethod yX2_done, Cond.selects RX2 yX2_done yX2_done, Cond.code yX2_done cX2_done 1 (some .int)]
def wsX8_isSame_r4 : List Cond := [Cond.methodLink RX2 31 yX2_burnt, Cond.instanceMethod yX2_burnt, Cond.selects RX2 yX2_burnt yX2_burnt, Cond.code yX2_burnt cX2_burnt 1 (some .int), Cond.selects RX3 ⟨"ChicoryRoasters$Teller", "tell", "(I)I"⟩ yX3_tell, Cond.instanceMethod yX3_tell, Cond.code yX3_tell cX3_tell 2 (some .int), Cond.fieldLink RX3 9 "ChicoryRoasters$Smuggler" "way" "I", Cond.fieldLink RX3 15 "ChicoryRoasters$Smuggler" "cargo" "I", Cond.fieldLink RX3 18 "ChicoryRoasters$Smuggler" "where" "I", Cond.fieldLink RX3 21 "ChicoryRoasters$Smuggler" "left" "I", Cond.fieldLink RX3 24 "ChicoryRoasters$Smuggler" "arrests" "I", Cond.selects RX6 ⟨"ChicoryRoasters$Teller", "tell", "(I)I"⟩ yX6_tell, Cond.instanceMethod yX6_tell, Cond.code yX6_tell cX6_tell 2 (some .int), Cond.fieldLink RX6 63 "ChicoryRoasters$Town" "day" "I", Cond.fieldLink RX6 38 "ChicoryRoasters$Town" "store" "LChicoryRoasters$Store;", Cond.fieldLink RX6 114 "ChicoryRoasters$Store" "roots" "I", Cond.fieldLink RX6 117 "ChicoryRoasters$Store" "beans" "I", Cond.fieldLink RX6 120 "ChicoryRoasters$Store" "chicory" "I", Cond.fieldLink RX6 123 "ChicoryRoasters$Store" "coffee" "I", Cond.fieldLink RX6 126 "ChicoryRoasters$Store" "served" "I", Cond.fieldLink RX6 129 "ChicoryRoasters$Store" "thinned" "I", Cond.fieldLink RX6 132 "ChicoryRoasters$Store" "share" "I"]
def wsX8_isSame_r5 : List Cond := [Cond.fieldLink RX6 46 "ChicoryRoasters$Town" "patrol" "I", Cond.methodLink RX8 71 yX8_counted, Cond.instanceMethod yX8_counted, Cond.selects RX8 yX8_counted yX8_counted, Cond.initialized RX8, Cond.code yX8_counted cX8_counted 3 (some .int), Cond.arrayClass .int, Cond.fieldLink RX8 39 "ChicoryRoastersLaw$Sim" "day" "I", Cond.fieldLink RX8 7 "ChicoryRoastersLaw$Sim" "store" "[I", Cond.fieldLink RX8 13 "ChicoryRoastersLaw$Sim" "parts" "[I", Cond.fieldLink RX8 42 "ChicoryRoastersLaw$Sim" "served" "I", Cond.fieldLink RX8 45 "ChicoryRoastersLaw$Sim" "thinned" "I", Cond.fieldLink RX8 16 "ChicoryRoastersLaw$Sim" "share" "I", Cond.fieldLink RX8 48 "ChicoryRoastersLaw$Sim" "patrol" "I", Cond.methodLink RX8 74 yX7_about, Cond.instanceMethod yX7_about, Cond.selects RX7 yX7_about yX7_about, Cond.code yX7_about cX7_about 3 (some .int), Cond.fieldLink RX7 23 "ChicoryRoasters$Town" "bedCount" "I", Cond.fieldLink RX7 31 "ChicoryRoasters$Town" "beds" "[LChicoryRoasters$Bed;", Cond.methodLink RX8 78 yX7_roast, Cond.instanceMethod yX7_roast, Cond.selects RX7 yX7_roast yX7_roast, Cond.code yX7_roast cX7_roast 3 (some .int)]
def wsX8_isSame_r6 : List Cond := [Cond.fieldLink RX7 41 "ChicoryRoasters$Town" "drumCount" "I", Cond.fieldLink RX7 44 "ChicoryRoasters$Town" "drums" "[LChicoryRoasters$Drum;", Cond.methodLink RX8 81 yX8_yields, Cond.static yX8_yields, Cond.code yX8_yields cX8_yields 3 (some .int), Cond.methodLink RX8 55 yX8_burnt, Cond.static yX8_burnt, Cond.code yX8_burnt cX8_burnt 1 (some .int), Cond.methodLink RX8 85 yX7_told, Cond.instanceMethod yX7_told, Cond.selects RX7 yX7_told yX7_told, Cond.code yX7_told cX7_told 3 (some .int), Cond.fieldLink RX7 53 "ChicoryRoasters$Town" "smugglerCount" "I", Cond.fieldLink RX7 56 "ChicoryRoasters$Town" "smugglers" "[LChicoryRoasters$Smuggler;", Cond.methodLink RX8 88 yX7_ration, Cond.instanceMethod yX7_ration, Cond.selects RX7 yX7_ration yX7_ration, Cond.code yX7_ration cX7_ration 3 (some .int), Cond.fieldLink RX7 65 "ChicoryRoasters$Town" "cardCount" "I", Cond.fieldLink RX7 68 "ChicoryRoasters$Town" "cards" "[LChicoryRoasters$Card;", Cond.methodLink RX8 91 yX7_mean, Cond.instanceMethod yX7_mean, Cond.selects RX7 yX7_mean yX7_mean, Cond.code yX7_mean cX7_mean 1 (some .double)]
def wsX8_isSame_r7 : List Cond := [Cond.fieldLink RX7 80 "ChicoryRoasters$Town" "store" "LChicoryRoasters$Store;", Cond.fieldLink RX7 167 "ChicoryRoasters$Store" "served" "I"]
def wsX8_isSame : List Cond := .code yX8_isSame cX8_isSame 5 (some .boolean) :: ((wsX8_isSame_r1 ++ (wsX8_isSame_r2 ++ (wsX8_isSame_r3 ++ (wsX8_isSame_r4 ++ (wsX8_isSame_r5 ++ (wsX8_isSame_r6 ++ wsX8_isSame_r7)))))) ++ wsX80 ++ wsX70 ++ wsX00 ++ wsX10 ++ wsX20 ++ wsX30 ++ wsX60 ++ wsX40 ++ (vx_atS RX7 143 "java/lang/IndexOutOfBoundsException" ["java/lang/RuntimeException", "java/lang/Exception"]).filter goodWord)
def wsJ9_min_7cf53 : List Cond := .code yJ9_min_7cf53 cJ9_min_7cf53 2 (some .int) :: ([])
def wsL_below : List Cond := .code yL_below cL_below 2 (some .int) :: ([.constant RL 7 (2147483647)])
def wsL_cell : List Cond := .code yL_cell cL_cell 2 (some .int) :: ([.constant RL 8 (790386105)])
def wsL_with : List Cond := .code yL_with cL_with 4 (some (.array (.array .int))) :: ([.classLink RL 9 "[I"])
def wsL_act_r1 : List Cond := [Cond.fieldLink RL 17 "ChicoryRoastersLaw$Sim" "beds" "[[I", Cond.arrayClass .int, Cond.fieldLink RL 32 "ChicoryRoastersLaw$Sim" "drums" "[[I", Cond.fieldLink RL 38 "ChicoryRoastersLaw$Sim" "smugglers" "[[I", Cond.fieldLink RL 44 "ChicoryRoastersLaw$Sim" "cards" "[[I", Cond.fieldLink RL 50 "ChicoryRoastersLaw$Sim" "patrol" "I", Cond.fieldLink RL 58 "ChicoryRoastersLaw$Sim" "share" "I", Cond.fieldLink RL 67 "ChicoryRoastersLaw$Sim" "store" "[I", Cond.fieldLink RL 84 "ChicoryRoastersLaw$Sim" "parts" "[I", Cond.fieldLink RL 93 "ChicoryRoastersLaw$Sim" "served" "I", Cond.methodLink RL 11 yL_below, Cond.static yL_below, Cond.initialized RL, Cond.code yL_below cL_below 2 (some .int), Cond.constant RL 7 (2147483647), Cond.methodLink RL 23 yL_with, Cond.static yL_with, Cond.code yL_with cL_with 4 (some (.array (.array .int))), Cond.classLink RL 9 "[I", Cond.methodLink RL 27 yX7_bed, Cond.instanceMethod yX7_bed, Cond.selects RX7 yX7_bed yX7_bed, Cond.initialized RX7, Cond.code yX7_bed cX7_bed 3 (some .int)]
def wsL_act_r2 : List Cond := [Cond.fieldLink RX7 10 "ChicoryRoasters" "town" "LChicoryRoasters$Town;", Cond.fieldLink RX7 23 "ChicoryRoasters$Town" "bedCount" "I", Cond.fieldLink RX7 31 "ChicoryRoasters$Town" "beds" "[LChicoryRoasters$Bed;", Cond.methodLink RX7 19 yX7_checkNumber, Cond.static yX7_checkNumber, Cond.code yX7_checkNumber cX7_checkNumber 3 none, Cond.classLink RX7 182 "java/lang/IllegalArgumentException", Cond.initialized "java/lang/IllegalArgumentException", Cond.methodLink RX7 27 yX7_checkState, Cond.static yX7_checkState, Cond.code yX7_checkState cX7_checkState 1 none, Cond.classLink RX7 187 "java/lang/IllegalStateException", Cond.initialized "java/lang/IllegalStateException", Cond.methodLink RX7 35 yX0_lay, Cond.instanceMethod yX0_lay, Cond.selects RX0 yX0_lay yX0_lay, Cond.initialized RX0, Cond.code yX0_lay cX0_lay 3 none, Cond.fieldLink RX0 7 "ChicoryRoasters$Bed" "grows" "I", Cond.fieldLink RX0 13 "ChicoryRoasters$Bed" "most" "I", Cond.methodLink RL 35 yX7_drum, Cond.instanceMethod yX7_drum, Cond.selects RX7 yX7_drum yX7_drum, Cond.code yX7_drum cX7_drum 3 (some .int)]
def wsL_act_r3 : List Cond := [Cond.fieldLink RX7 41 "ChicoryRoasters$Town" "drumCount" "I", Cond.fieldLink RX7 44 "ChicoryRoasters$Town" "drums" "[LChicoryRoasters$Drum;", Cond.methodLink RX7 48 yX2_install, Cond.instanceMethod yX2_install, Cond.selects RX2 yX2_install yX2_install, Cond.initialized RX2, Cond.code yX2_install cX2_install 3 none, Cond.fieldLink RX2 15 "ChicoryRoasters$Drum" "holds" "I", Cond.fieldLink RX2 18 "ChicoryRoasters$Drum" "heat" "I", Cond.methodLink RL 41 yX7_smuggler, Cond.instanceMethod yX7_smuggler, Cond.selects RX7 yX7_smuggler yX7_smuggler, Cond.code yX7_smuggler cX7_smuggler 3 (some .int), Cond.fieldLink RX7 53 "ChicoryRoasters$Town" "smugglerCount" "I", Cond.fieldLink RX7 56 "ChicoryRoasters$Town" "smugglers" "[LChicoryRoasters$Smuggler;", Cond.methodLink RX7 60 yX3_hire, Cond.instanceMethod yX3_hire, Cond.selects RX3 yX3_hire yX3_hire, Cond.initialized RX3, Cond.code yX3_hire cX3_hire 3 none, Cond.fieldLink RX3 9 "ChicoryRoasters$Smuggler" "way" "I", Cond.fieldLink RX3 15 "ChicoryRoasters$Smuggler" "cargo" "I", Cond.methodLink RL 47 yX7_card, Cond.instanceMethod yX7_card]
def wsL_act_r4 : List Cond := [Cond.selects RX7 yX7_card yX7_card, Cond.code yX7_card cX7_card 3 (some .int), Cond.fieldLink RX7 65 "ChicoryRoasters$Town" "cardCount" "I", Cond.fieldLink RX7 68 "ChicoryRoasters$Town" "cards" "[LChicoryRoasters$Card;", Cond.methodLink RX7 72 yX1_issue, Cond.instanceMethod yX1_issue, Cond.selects RX1 yX1_issue yX1_issue, Cond.initialized RX1, Cond.code yX1_issue cX1_issue 3 none, Cond.fieldLink RX1 9 "ChicoryRoasters$Card" "allotted" "I", Cond.fieldLink RX1 15 "ChicoryRoasters$Card" "picky" "I", Cond.fieldLink RX1 18 "ChicoryRoasters$Card" "left" "I", Cond.methodLink RL 54 yX7_setPatrol, Cond.instanceMethod yX7_setPatrol, Cond.selects RX7 yX7_setPatrol yX7_setPatrol, Cond.code yX7_setPatrol cX7_setPatrol 3 (some .int), Cond.fieldLink RX7 77 "ChicoryRoasters$Town" "patrol" "I", Cond.methodLink RL 61 yX7_setShare, Cond.instanceMethod yX7_setShare, Cond.selects RX7 yX7_setShare yX7_setShare, Cond.code yX7_setShare cX7_setShare 3 (some .int), Cond.fieldLink RX7 80 "ChicoryRoasters$Town" "store" "LChicoryRoasters$Store;", Cond.fieldLink RX7 84 "ChicoryRoasters$Store" "share" "I", Cond.methodLink RL 64 yX7_setHeat]
def wsL_act_r5 : List Cond := [Cond.instanceMethod yX7_setHeat, Cond.selects RX7 yX7_setHeat yX7_setHeat, Cond.code yX7_setHeat cX7_setHeat 4 (some .int), Cond.fieldLink RX7 92 "ChicoryRoasters$Drum" "heat" "I", Cond.methodLink RX7 89 yX7_checkIndex, Cond.static yX7_checkIndex, Cond.code yX7_checkIndex cX7_checkIndex 2 none, Cond.classLink RX7 139 "java/lang/IndexOutOfBoundsException", Cond.initialized "java/lang/IndexOutOfBoundsException", Cond.methodLink RL 70 yX7_dig, Cond.instanceMethod yX7_dig, Cond.selects RX7 yX7_dig yX7_dig, Cond.code yX7_dig cX7_dig 3 (some .int), Cond.fieldLink RX7 95 "ChicoryRoasters$Bed" "roots" "I", Cond.methodLink RX7 98 yX4_add, Cond.instanceMethod yX4_add, Cond.selects RX4 yX4_add yX4_add, Cond.initialized RX4, Cond.code yX4_add cX4_add 3 none, Cond.fieldLink RX4 15 "ChicoryRoasters$Store" "roots" "I", Cond.fieldLink RX4 18 "ChicoryRoasters$Store" "beans" "I", Cond.methodLink RL 73 yX7_give, Cond.instanceMethod yX7_give, Cond.selects RX7 yX7_give yX7_give]
def wsL_act_r6 : List Cond := [Cond.code yX7_give cX7_give 3 (some .int), Cond.methodLink RX7 101 yX4_stock, Cond.instanceMethod yX4_stock, Cond.selects RX4 yX4_stock yX4_stock, Cond.code yX4_stock cX4_stock 2 (some .int), Cond.methodLink RL 76 yX7_load, Cond.instanceMethod yX7_load, Cond.selects RX7 yX7_load yX7_load, Cond.code yX7_load cX7_load 4 (some .int), Cond.fieldLink RX7 105 "ChicoryRoasters$Drum" "holds" "I", Cond.fieldLink RX7 108 "ChicoryRoasters$Drum" "kind" "I", Cond.methodLink RX7 111 yX2_fill, Cond.instanceMethod yX2_fill, Cond.selects RX2 yX2_fill yX2_fill, Cond.code yX2_fill cX2_fill 3 none, Cond.fieldLink RX2 9 "ChicoryRoasters$Drum" "kind" "I", Cond.fieldLink RX2 21 "ChicoryRoasters$Drum" "much" "I", Cond.fieldLink RX2 24 "ChicoryRoasters$Drum" "level" "I", Cond.methodLink RL 80 yX8_yields, Cond.static yX8_yields, Cond.initialized RX8, Cond.code yX8_yields cX8_yields 3 (some .int), Cond.methodLink RX8 55 yX8_burnt, Cond.static yX8_burnt]
def wsL_act_r7 : List Cond := [Cond.code yX8_burnt cX8_burnt 1 (some .int), Cond.methodLink RL 87 yX7_take, Cond.instanceMethod yX7_take, Cond.selects RX7 yX7_take yX7_take, Cond.code yX7_take cX7_take 4 (some .int), Cond.fieldLink RX7 114 "ChicoryRoasters$Drum" "level" "I", Cond.methodLink RX7 117 yX2_partsAt, Cond.instanceMethod yX2_partsAt, Cond.selects RX2 yX2_partsAt yX2_partsAt, Cond.code yX2_partsAt cX2_partsAt 3 (some .int), Cond.methodLink RX2 41 yX2_done, Cond.instanceMethod yX2_done, Cond.selects RX2 yX2_done yX2_done, Cond.code yX2_done cX2_done 1 (some .int), Cond.methodLink RX2 31 yX2_burnt, Cond.instanceMethod yX2_burnt, Cond.selects RX2 yX2_burnt yX2_burnt, Cond.code yX2_burnt cX2_burnt 1 (some .int), Cond.methodLink RX7 120 yX4_addRoasted, Cond.instanceMethod yX4_addRoasted, Cond.selects RX4 yX4_addRoasted yX4_addRoasted, Cond.code yX4_addRoasted cX4_addRoasted 3 none, Cond.fieldLink RX4 21 "ChicoryRoasters$Store" "chicory" "I", Cond.fieldLink RX4 24 "ChicoryRoasters$Store" "coffee" "I"]
def wsL_act_r8 : List Cond := [Cond.methodLink RL 90 yX7_send, Cond.instanceMethod yX7_send, Cond.selects RX7 yX7_send yX7_send, Cond.code yX7_send cX7_send 2 (some .int), Cond.fieldLink RX7 123 "ChicoryRoasters$Smuggler" "where" "I", Cond.fieldLink RX7 129 "ChicoryRoasters$Smuggler" "left" "I", Cond.methodLink RX7 126 yX3_setOut, Cond.instanceMethod yX3_setOut, Cond.selects RX3 yX3_setOut yX3_setOut, Cond.code yX3_setOut cX3_setOut 1 none, Cond.fieldLink RX3 18 "ChicoryRoasters$Smuggler" "where" "I", Cond.fieldLink RX3 21 "ChicoryRoasters$Smuggler" "left" "I", Cond.methodLink RL 96 yX8_behind, Cond.instanceMethod yX8_behind, Cond.selects RX8 yX8_behind yX8_behind, Cond.code yX8_behind cX8_behind 3 (some (.object "ChicoryRoastersLaw$Sim")), Cond.methodLink RX8 63 yX8_pass, Cond.instanceMethod yX8_pass, Cond.selects RX8 yX8_pass yX8_pass, Cond.code yX8_pass cX8_pass 7 none, Cond.fieldLink RX8 28 "ChicoryRoastersLaw$Sim" "smugglers" "[[I", Cond.fieldLink RX8 39 "ChicoryRoastersLaw$Sim" "day" "I", Cond.fieldLink RX8 7 "ChicoryRoastersLaw$Sim" "store" "[I", Cond.fieldLink RX8 25 "ChicoryRoastersLaw$Sim" "drums" "[[I"]
def wsL_act_r9 : List Cond := [Cond.fieldLink RX8 21 "ChicoryRoastersLaw$Sim" "beds" "[[I", Cond.fieldLink RX8 31 "ChicoryRoastersLaw$Sim" "cards" "[[I", Cond.fieldLink RX8 13 "ChicoryRoastersLaw$Sim" "parts" "[I", Cond.fieldLink RX8 16 "ChicoryRoastersLaw$Sim" "share" "I", Cond.fieldLink RX8 42 "ChicoryRoastersLaw$Sim" "served" "I", Cond.fieldLink RX8 45 "ChicoryRoastersLaw$Sim" "thinned" "I", Cond.methodLink RX8 59 yX8_isThere, Cond.instanceMethod yX8_isThere, Cond.selects RX8 yX8_isThere yX8_isThere, Cond.code yX8_isThere cX8_isThere 2 (some .boolean), Cond.fieldLink RX8 48 "ChicoryRoastersLaw$Sim" "patrol" "I", Cond.methodLink RL 100 yX7_pass, Cond.instanceMethod yX7_pass, Cond.selects RX7 yX7_pass yX7_pass, Cond.code yX7_pass cX7_pass 2 (some .int), Cond.methodLink RX7 136 yX6_live, Cond.instanceMethod yX6_live, Cond.selects RX6 yX6_live yX6_live, Cond.initialized RX6, Cond.code yX6_live cX6_live 4 (some .int), Cond.fieldLink RX6 63 "ChicoryRoasters$Town" "day" "I", Cond.methodLink RX6 50 yX6_travel, Cond.instanceMethod yX6_travel, Cond.selects RX6 yX6_travel yX6_travel]
def wsL_act_r10 : List Cond := [Cond.code yX6_travel cX6_travel 2 none, Cond.fieldLink RX6 66 "ChicoryRoasters$Town" "smugglerCount" "I", Cond.fieldLink RX6 38 "ChicoryRoasters$Town" "store" "LChicoryRoasters$Store;", Cond.fieldLink RX6 25 "ChicoryRoasters$Town" "smugglers" "[LChicoryRoasters$Smuggler;", Cond.methodLink RX6 69 yX6_patrolled, Cond.instanceMethod yX6_patrolled, Cond.selects RX6 yX6_patrolled yX6_patrolled, Cond.code yX6_patrolled cX6_patrolled 2 (some .boolean), Cond.fieldLink RX6 46 "ChicoryRoasters$Town" "patrol" "I", Cond.methodLink RX6 73 yX3_travel, Cond.instanceMethod yX3_travel, Cond.selects RX3 yX3_travel yX3_travel, Cond.code yX3_travel cX3_travel 2 (some .int), Cond.fieldLink RX3 24 "ChicoryRoasters$Smuggler" "arrests" "I", Cond.methodLink RX3 27 yX3_comeHome, Cond.instanceMethod yX3_comeHome, Cond.selects RX3 yX3_comeHome yX3_comeHome, Cond.code yX3_comeHome cX3_comeHome 2 (some .int), Cond.methodLink RX6 76 yX4_add, Cond.methodLink RX6 53 yX6_warm, Cond.instanceMethod yX6_warm, Cond.selects RX6 yX6_warm yX6_warm, Cond.code yX6_warm cX6_warm 2 none, Cond.fieldLink RX6 80 "ChicoryRoasters$Town" "drumCount" "I"]
def wsL_act_r11 : List Cond := [Cond.fieldLink RX6 19 "ChicoryRoasters$Town" "drums" "[LChicoryRoasters$Drum;", Cond.methodLink RX6 83 yX2_warm, Cond.instanceMethod yX2_warm, Cond.selects RX2 yX2_warm yX2_warm, Cond.code yX2_warm cX2_warm 1 none, Cond.methodLink RX2 27 yX2_levelAfter, Cond.instanceMethod yX2_levelAfter, Cond.selects RX2 yX2_levelAfter yX2_levelAfter, Cond.code yX2_levelAfter cX2_levelAfter 2 (some .int), Cond.methodLink RX2 35 Lib.Math.min.name, Cond.static Lib.Math.min.name, Cond.initialized "java/lang/Math", Cond.code Lib.Math.min.name Lib.Math.min.code 2 (some .int), Cond.methodLink RX6 56 yX6_grow, Cond.instanceMethod yX6_grow, Cond.selects RX6 yX6_grow yX6_grow, Cond.code yX6_grow cX6_grow 2 none, Cond.fieldLink RX6 84 "ChicoryRoasters$Town" "bedCount" "I", Cond.fieldLink RX6 11 "ChicoryRoasters$Town" "beds" "[LChicoryRoasters$Bed;", Cond.methodLink RX6 87 yX0_grow, Cond.instanceMethod yX0_grow, Cond.selects RX0 yX0_grow yX0_grow, Cond.code yX0_grow cX0_grow 1 none, Cond.fieldLink RX0 16 "ChicoryRoasters$Bed" "roots" "I"]
def wsL_act_r12 : List Cond := [Cond.methodLink RX0 19 Lib.Math.min.name, Cond.methodLink RX6 59 yX6_serve, Cond.instanceMethod yX6_serve, Cond.selects RX6 yX6_serve yX6_serve, Cond.code yX6_serve cX6_serve 3 (some .int), Cond.fieldLink RX6 88 "ChicoryRoasters$Town" "cardCount" "I", Cond.fieldLink RX6 31 "ChicoryRoasters$Town" "cards" "[LChicoryRoasters$Card;", Cond.methodLink RX6 91 yX1_renew, Cond.instanceMethod yX1_renew, Cond.selects RX1 yX1_renew yX1_renew, Cond.code yX1_renew cX1_renew 1 none, Cond.methodLink RX6 94 yX1_serveDay, Cond.instanceMethod yX1_serveDay, Cond.selects RX1 yX1_serveDay yX1_serveDay, Cond.code yX1_serveDay cX1_serveDay 3 (some .int), Cond.methodLink RX1 21 yX1_serveOne, Cond.instanceMethod yX1_serveOne, Cond.selects RX1 yX1_serveOne yX1_serveOne, Cond.code yX1_serveOne cX1_serveOne 3 (some .boolean), Cond.fieldLink RX1 35 "ChicoryRoasters$Card" "refused" "I", Cond.fieldLink RX1 42 "ChicoryRoasters$Card" "served" "I", Cond.methodLink RX1 25 yX4_coffeeOfPortion, Cond.instanceMethod yX4_coffeeOfPortion, Cond.selects RX4 yX4_coffeeOfPortion yX4_coffeeOfPortion]
def wsL_act_r13 : List Cond := [Cond.code yX4_coffeeOfPortion cX4_coffeeOfPortion 1 (some .int), Cond.fieldLink RX4 9 "ChicoryRoasters$Store" "share" "I", Cond.methodLink RX4 27 Lib.Math.min.name, Cond.methodLink RX1 31 yX4_canMix, Cond.instanceMethod yX4_canMix, Cond.selects RX4 yX4_canMix yX4_canMix, Cond.code yX4_canMix cX4_canMix 2 (some .boolean), Cond.methodLink RX1 38 yX4_servePortion, Cond.instanceMethod yX4_servePortion, Cond.selects RX4 yX4_servePortion yX4_servePortion, Cond.code yX4_servePortion cX4_servePortion 2 none, Cond.fieldLink RX4 33 "ChicoryRoasters$Store" "thinned" "I", Cond.fieldLink RX4 36 "ChicoryRoasters$Store" "served" "I"]
def wsL_act : List Cond := .code yL_act cL_act 21 (some .boolean) :: ((wsL_act_r1 ++ (wsL_act_r2 ++ (wsL_act_r3 ++ (wsL_act_r4 ++ (wsL_act_r5 ++ (wsL_act_r6 ++ (wsL_act_r7 ++ (wsL_act_r8 ++ (wsL_act_r9 ++ (wsL_act_r10 ++ (wsL_act_r11 ++ (wsL_act_r12 ++ wsL_act_r13)))))))))))) ++ wsX80 ++ wsX70 ++ wsX60 ++ wsX00 ++ wsX20 ++ wsX30 ++ wsX10 ++ wsX40 ++ (vx_atS RX7 186 "java/lang/IllegalArgumentException" ["java/lang/RuntimeException", "java/lang/Exception"]).filter goodWord ++ (vx_atS RX7 191 "java/lang/IllegalStateException" ["java/lang/RuntimeException", "java/lang/Exception"]).filter goodWord ++ (vx_atS RX7 143 "java/lang/IndexOutOfBoundsException" ["java/lang/RuntimeException", "java/lang/Exception"]).filter goodWord)
def wsL_build_r1 : List Cond := [Cond.classLink RL 18 RX8, Cond.instantiable RX8 11, Cond.initialized RX8, Cond.instanceMethod yX8_init, Cond.code yX8_init cX8_init 1 none, Cond.methodLink RX8 1 objectInit, Cond.instanceMethod objectInit, Cond.code objectInit ⟨#[0xb1]⟩ 1 none, Cond.arrayClass .int, Cond.fieldLink RX8 7 "ChicoryRoastersLaw$Sim" "store" "[I", Cond.fieldLink RX8 13 "ChicoryRoastersLaw$Sim" "parts" "[I", Cond.fieldLink RX8 16 "ChicoryRoastersLaw$Sim" "share" "I", Cond.classLink RX8 20 "[I", Cond.fieldLink RX8 21 "ChicoryRoastersLaw$Sim" "beds" "[[I", Cond.fieldLink RX8 25 "ChicoryRoastersLaw$Sim" "drums" "[[I", Cond.fieldLink RX8 28 "ChicoryRoastersLaw$Sim" "smugglers" "[[I", Cond.fieldLink RX8 31 "ChicoryRoastersLaw$Sim" "cards" "[[I", Cond.methodLink RL 104 yL_cell, Cond.static yL_cell, Cond.initialized RL, Cond.code yL_cell cL_cell 2 (some .int), Cond.constant RL 8 (790386105), Cond.methodLink RL 11 yL_below, Cond.static yL_below]
def wsL_build_r2 : List Cond := [Cond.code yL_below cL_below 2 (some .int), Cond.constant RL 7 (2147483647), Cond.methodLink RL 108 yL_act, Cond.static yL_act, Cond.code yL_act cL_act 21 (some .boolean), Cond.fieldLink RL 17 "ChicoryRoastersLaw$Sim" "beds" "[[I", Cond.fieldLink RL 32 "ChicoryRoastersLaw$Sim" "drums" "[[I", Cond.fieldLink RL 38 "ChicoryRoastersLaw$Sim" "smugglers" "[[I", Cond.fieldLink RL 44 "ChicoryRoastersLaw$Sim" "cards" "[[I", Cond.fieldLink RL 50 "ChicoryRoastersLaw$Sim" "patrol" "I", Cond.fieldLink RL 58 "ChicoryRoastersLaw$Sim" "share" "I", Cond.fieldLink RL 67 "ChicoryRoastersLaw$Sim" "store" "[I", Cond.fieldLink RL 84 "ChicoryRoastersLaw$Sim" "parts" "[I", Cond.fieldLink RL 93 "ChicoryRoastersLaw$Sim" "served" "I", Cond.methodLink RL 23 yL_with, Cond.static yL_with, Cond.code yL_with cL_with 4 (some (.array (.array .int))), Cond.classLink RL 9 "[I", Cond.methodLink RL 27 yX7_bed, Cond.instanceMethod yX7_bed, Cond.selects RX7 yX7_bed yX7_bed, Cond.initialized RX7, Cond.code yX7_bed cX7_bed 3 (some .int), Cond.fieldLink RX7 10 "ChicoryRoasters" "town" "LChicoryRoasters$Town;"]
def wsL_build_r3 : List Cond := [Cond.fieldLink RX7 23 "ChicoryRoasters$Town" "bedCount" "I", Cond.fieldLink RX7 31 "ChicoryRoasters$Town" "beds" "[LChicoryRoasters$Bed;", Cond.methodLink RX7 19 yX7_checkNumber, Cond.static yX7_checkNumber, Cond.code yX7_checkNumber cX7_checkNumber 3 none, Cond.classLink RX7 182 "java/lang/IllegalArgumentException", Cond.initialized "java/lang/IllegalArgumentException", Cond.methodLink RX7 27 yX7_checkState, Cond.static yX7_checkState, Cond.code yX7_checkState cX7_checkState 1 none, Cond.classLink RX7 187 "java/lang/IllegalStateException", Cond.initialized "java/lang/IllegalStateException", Cond.methodLink RX7 35 yX0_lay, Cond.instanceMethod yX0_lay, Cond.selects RX0 yX0_lay yX0_lay, Cond.initialized RX0, Cond.code yX0_lay cX0_lay 3 none, Cond.fieldLink RX0 7 "ChicoryRoasters$Bed" "grows" "I", Cond.fieldLink RX0 13 "ChicoryRoasters$Bed" "most" "I", Cond.methodLink RL 35 yX7_drum, Cond.instanceMethod yX7_drum, Cond.selects RX7 yX7_drum yX7_drum, Cond.code yX7_drum cX7_drum 3 (some .int), Cond.fieldLink RX7 41 "ChicoryRoasters$Town" "drumCount" "I"]
def wsL_build_r4 : List Cond := [Cond.fieldLink RX7 44 "ChicoryRoasters$Town" "drums" "[LChicoryRoasters$Drum;", Cond.methodLink RX7 48 yX2_install, Cond.instanceMethod yX2_install, Cond.selects RX2 yX2_install yX2_install, Cond.initialized RX2, Cond.code yX2_install cX2_install 3 none, Cond.fieldLink RX2 15 "ChicoryRoasters$Drum" "holds" "I", Cond.fieldLink RX2 18 "ChicoryRoasters$Drum" "heat" "I", Cond.methodLink RL 41 yX7_smuggler, Cond.instanceMethod yX7_smuggler, Cond.selects RX7 yX7_smuggler yX7_smuggler, Cond.code yX7_smuggler cX7_smuggler 3 (some .int), Cond.fieldLink RX7 53 "ChicoryRoasters$Town" "smugglerCount" "I", Cond.fieldLink RX7 56 "ChicoryRoasters$Town" "smugglers" "[LChicoryRoasters$Smuggler;", Cond.methodLink RX7 60 yX3_hire, Cond.instanceMethod yX3_hire, Cond.selects RX3 yX3_hire yX3_hire, Cond.initialized RX3, Cond.code yX3_hire cX3_hire 3 none, Cond.fieldLink RX3 9 "ChicoryRoasters$Smuggler" "way" "I", Cond.fieldLink RX3 15 "ChicoryRoasters$Smuggler" "cargo" "I", Cond.methodLink RL 47 yX7_card, Cond.instanceMethod yX7_card, Cond.selects RX7 yX7_card yX7_card]
def wsL_build_r5 : List Cond := [Cond.code yX7_card cX7_card 3 (some .int), Cond.fieldLink RX7 65 "ChicoryRoasters$Town" "cardCount" "I", Cond.fieldLink RX7 68 "ChicoryRoasters$Town" "cards" "[LChicoryRoasters$Card;", Cond.methodLink RX7 72 yX1_issue, Cond.instanceMethod yX1_issue, Cond.selects RX1 yX1_issue yX1_issue, Cond.initialized RX1, Cond.code yX1_issue cX1_issue 3 none, Cond.fieldLink RX1 9 "ChicoryRoasters$Card" "allotted" "I", Cond.fieldLink RX1 15 "ChicoryRoasters$Card" "picky" "I", Cond.fieldLink RX1 18 "ChicoryRoasters$Card" "left" "I", Cond.methodLink RL 54 yX7_setPatrol, Cond.instanceMethod yX7_setPatrol, Cond.selects RX7 yX7_setPatrol yX7_setPatrol, Cond.code yX7_setPatrol cX7_setPatrol 3 (some .int), Cond.fieldLink RX7 77 "ChicoryRoasters$Town" "patrol" "I", Cond.methodLink RL 61 yX7_setShare, Cond.instanceMethod yX7_setShare, Cond.selects RX7 yX7_setShare yX7_setShare, Cond.code yX7_setShare cX7_setShare 3 (some .int), Cond.fieldLink RX7 80 "ChicoryRoasters$Town" "store" "LChicoryRoasters$Store;", Cond.fieldLink RX7 84 "ChicoryRoasters$Store" "share" "I", Cond.methodLink RL 64 yX7_setHeat, Cond.instanceMethod yX7_setHeat]
def wsL_build_r6 : List Cond := [Cond.selects RX7 yX7_setHeat yX7_setHeat, Cond.code yX7_setHeat cX7_setHeat 4 (some .int), Cond.fieldLink RX7 92 "ChicoryRoasters$Drum" "heat" "I", Cond.methodLink RX7 89 yX7_checkIndex, Cond.static yX7_checkIndex, Cond.code yX7_checkIndex cX7_checkIndex 2 none, Cond.classLink RX7 139 "java/lang/IndexOutOfBoundsException", Cond.initialized "java/lang/IndexOutOfBoundsException", Cond.methodLink RL 70 yX7_dig, Cond.instanceMethod yX7_dig, Cond.selects RX7 yX7_dig yX7_dig, Cond.code yX7_dig cX7_dig 3 (some .int), Cond.fieldLink RX7 95 "ChicoryRoasters$Bed" "roots" "I", Cond.methodLink RX7 98 yX4_add, Cond.instanceMethod yX4_add, Cond.selects RX4 yX4_add yX4_add, Cond.initialized RX4, Cond.code yX4_add cX4_add 3 none, Cond.fieldLink RX4 15 "ChicoryRoasters$Store" "roots" "I", Cond.fieldLink RX4 18 "ChicoryRoasters$Store" "beans" "I", Cond.methodLink RL 73 yX7_give, Cond.instanceMethod yX7_give, Cond.selects RX7 yX7_give yX7_give, Cond.code yX7_give cX7_give 3 (some .int)]
def wsL_build_r7 : List Cond := [Cond.methodLink RX7 101 yX4_stock, Cond.instanceMethod yX4_stock, Cond.selects RX4 yX4_stock yX4_stock, Cond.code yX4_stock cX4_stock 2 (some .int), Cond.methodLink RL 76 yX7_load, Cond.instanceMethod yX7_load, Cond.selects RX7 yX7_load yX7_load, Cond.code yX7_load cX7_load 4 (some .int), Cond.fieldLink RX7 105 "ChicoryRoasters$Drum" "holds" "I", Cond.fieldLink RX7 108 "ChicoryRoasters$Drum" "kind" "I", Cond.methodLink RX7 111 yX2_fill, Cond.instanceMethod yX2_fill, Cond.selects RX2 yX2_fill yX2_fill, Cond.code yX2_fill cX2_fill 3 none, Cond.fieldLink RX2 9 "ChicoryRoasters$Drum" "kind" "I", Cond.fieldLink RX2 21 "ChicoryRoasters$Drum" "much" "I", Cond.fieldLink RX2 24 "ChicoryRoasters$Drum" "level" "I", Cond.methodLink RL 80 yX8_yields, Cond.static yX8_yields, Cond.code yX8_yields cX8_yields 3 (some .int), Cond.methodLink RX8 55 yX8_burnt, Cond.static yX8_burnt, Cond.code yX8_burnt cX8_burnt 1 (some .int), Cond.methodLink RL 87 yX7_take]
def wsL_build_r8 : List Cond := [Cond.instanceMethod yX7_take, Cond.selects RX7 yX7_take yX7_take, Cond.code yX7_take cX7_take 4 (some .int), Cond.fieldLink RX7 114 "ChicoryRoasters$Drum" "level" "I", Cond.methodLink RX7 117 yX2_partsAt, Cond.instanceMethod yX2_partsAt, Cond.selects RX2 yX2_partsAt yX2_partsAt, Cond.code yX2_partsAt cX2_partsAt 3 (some .int), Cond.methodLink RX2 41 yX2_done, Cond.instanceMethod yX2_done, Cond.selects RX2 yX2_done yX2_done, Cond.code yX2_done cX2_done 1 (some .int), Cond.methodLink RX2 31 yX2_burnt, Cond.instanceMethod yX2_burnt, Cond.selects RX2 yX2_burnt yX2_burnt, Cond.code yX2_burnt cX2_burnt 1 (some .int), Cond.methodLink RX7 120 yX4_addRoasted, Cond.instanceMethod yX4_addRoasted, Cond.selects RX4 yX4_addRoasted yX4_addRoasted, Cond.code yX4_addRoasted cX4_addRoasted 3 none, Cond.fieldLink RX4 21 "ChicoryRoasters$Store" "chicory" "I", Cond.fieldLink RX4 24 "ChicoryRoasters$Store" "coffee" "I", Cond.methodLink RL 90 yX7_send, Cond.instanceMethod yX7_send]
def wsL_build_r9 : List Cond := [Cond.selects RX7 yX7_send yX7_send, Cond.code yX7_send cX7_send 2 (some .int), Cond.fieldLink RX7 123 "ChicoryRoasters$Smuggler" "where" "I", Cond.fieldLink RX7 129 "ChicoryRoasters$Smuggler" "left" "I", Cond.methodLink RX7 126 yX3_setOut, Cond.instanceMethod yX3_setOut, Cond.selects RX3 yX3_setOut yX3_setOut, Cond.code yX3_setOut cX3_setOut 1 none, Cond.fieldLink RX3 18 "ChicoryRoasters$Smuggler" "where" "I", Cond.fieldLink RX3 21 "ChicoryRoasters$Smuggler" "left" "I", Cond.methodLink RL 96 yX8_behind, Cond.instanceMethod yX8_behind, Cond.selects RX8 yX8_behind yX8_behind, Cond.code yX8_behind cX8_behind 3 (some (.object "ChicoryRoastersLaw$Sim")), Cond.methodLink RX8 63 yX8_pass, Cond.instanceMethod yX8_pass, Cond.selects RX8 yX8_pass yX8_pass, Cond.code yX8_pass cX8_pass 7 none, Cond.fieldLink RX8 39 "ChicoryRoastersLaw$Sim" "day" "I", Cond.fieldLink RX8 42 "ChicoryRoastersLaw$Sim" "served" "I", Cond.fieldLink RX8 45 "ChicoryRoastersLaw$Sim" "thinned" "I", Cond.methodLink RX8 59 yX8_isThere, Cond.instanceMethod yX8_isThere, Cond.selects RX8 yX8_isThere yX8_isThere]
def wsL_build_r10 : List Cond := [Cond.code yX8_isThere cX8_isThere 2 (some .boolean), Cond.fieldLink RX8 48 "ChicoryRoastersLaw$Sim" "patrol" "I", Cond.methodLink RL 100 yX7_pass, Cond.instanceMethod yX7_pass, Cond.selects RX7 yX7_pass yX7_pass, Cond.code yX7_pass cX7_pass 2 (some .int), Cond.methodLink RX7 136 yX6_live, Cond.instanceMethod yX6_live, Cond.selects RX6 yX6_live yX6_live, Cond.initialized RX6, Cond.code yX6_live cX6_live 4 (some .int), Cond.fieldLink RX6 63 "ChicoryRoasters$Town" "day" "I", Cond.methodLink RX6 50 yX6_travel, Cond.instanceMethod yX6_travel, Cond.selects RX6 yX6_travel yX6_travel, Cond.code yX6_travel cX6_travel 2 none, Cond.fieldLink RX6 66 "ChicoryRoasters$Town" "smugglerCount" "I", Cond.fieldLink RX6 38 "ChicoryRoasters$Town" "store" "LChicoryRoasters$Store;", Cond.fieldLink RX6 25 "ChicoryRoasters$Town" "smugglers" "[LChicoryRoasters$Smuggler;", Cond.methodLink RX6 69 yX6_patrolled, Cond.instanceMethod yX6_patrolled, Cond.selects RX6 yX6_patrolled yX6_patrolled, Cond.code yX6_patrolled cX6_patrolled 2 (some .boolean), Cond.fieldLink RX6 46 "ChicoryRoasters$Town" "patrol" "I"]
def wsL_build_r11 : List Cond := [Cond.methodLink RX6 73 yX3_travel, Cond.instanceMethod yX3_travel, Cond.selects RX3 yX3_travel yX3_travel, Cond.code yX3_travel cX3_travel 2 (some .int), Cond.fieldLink RX3 24 "ChicoryRoasters$Smuggler" "arrests" "I", Cond.methodLink RX3 27 yX3_comeHome, Cond.instanceMethod yX3_comeHome, Cond.selects RX3 yX3_comeHome yX3_comeHome, Cond.code yX3_comeHome cX3_comeHome 2 (some .int), Cond.methodLink RX6 76 yX4_add, Cond.methodLink RX6 53 yX6_warm, Cond.instanceMethod yX6_warm, Cond.selects RX6 yX6_warm yX6_warm, Cond.code yX6_warm cX6_warm 2 none, Cond.fieldLink RX6 80 "ChicoryRoasters$Town" "drumCount" "I", Cond.fieldLink RX6 19 "ChicoryRoasters$Town" "drums" "[LChicoryRoasters$Drum;", Cond.methodLink RX6 83 yX2_warm, Cond.instanceMethod yX2_warm, Cond.selects RX2 yX2_warm yX2_warm, Cond.code yX2_warm cX2_warm 1 none, Cond.methodLink RX2 27 yX2_levelAfter, Cond.instanceMethod yX2_levelAfter, Cond.selects RX2 yX2_levelAfter yX2_levelAfter, Cond.code yX2_levelAfter cX2_levelAfter 2 (some .int)]
def wsL_build_r12 : List Cond := [Cond.methodLink RX2 35 Lib.Math.min.name, Cond.static Lib.Math.min.name, Cond.initialized "java/lang/Math", Cond.code Lib.Math.min.name Lib.Math.min.code 2 (some .int), Cond.methodLink RX6 56 yX6_grow, Cond.instanceMethod yX6_grow, Cond.selects RX6 yX6_grow yX6_grow, Cond.code yX6_grow cX6_grow 2 none, Cond.fieldLink RX6 84 "ChicoryRoasters$Town" "bedCount" "I", Cond.fieldLink RX6 11 "ChicoryRoasters$Town" "beds" "[LChicoryRoasters$Bed;", Cond.methodLink RX6 87 yX0_grow, Cond.instanceMethod yX0_grow, Cond.selects RX0 yX0_grow yX0_grow, Cond.code yX0_grow cX0_grow 1 none, Cond.fieldLink RX0 16 "ChicoryRoasters$Bed" "roots" "I", Cond.methodLink RX0 19 Lib.Math.min.name, Cond.methodLink RX6 59 yX6_serve, Cond.instanceMethod yX6_serve, Cond.selects RX6 yX6_serve yX6_serve, Cond.code yX6_serve cX6_serve 3 (some .int), Cond.fieldLink RX6 88 "ChicoryRoasters$Town" "cardCount" "I", Cond.fieldLink RX6 31 "ChicoryRoasters$Town" "cards" "[LChicoryRoasters$Card;", Cond.methodLink RX6 91 yX1_renew, Cond.instanceMethod yX1_renew]
def wsL_build_r13 : List Cond := [Cond.selects RX1 yX1_renew yX1_renew, Cond.code yX1_renew cX1_renew 1 none, Cond.methodLink RX6 94 yX1_serveDay, Cond.instanceMethod yX1_serveDay, Cond.selects RX1 yX1_serveDay yX1_serveDay, Cond.code yX1_serveDay cX1_serveDay 3 (some .int), Cond.methodLink RX1 21 yX1_serveOne, Cond.instanceMethod yX1_serveOne, Cond.selects RX1 yX1_serveOne yX1_serveOne, Cond.code yX1_serveOne cX1_serveOne 3 (some .boolean), Cond.fieldLink RX1 35 "ChicoryRoasters$Card" "refused" "I", Cond.fieldLink RX1 42 "ChicoryRoasters$Card" "served" "I", Cond.methodLink RX1 25 yX4_coffeeOfPortion, Cond.instanceMethod yX4_coffeeOfPortion, Cond.selects RX4 yX4_coffeeOfPortion yX4_coffeeOfPortion, Cond.code yX4_coffeeOfPortion cX4_coffeeOfPortion 1 (some .int), Cond.fieldLink RX4 9 "ChicoryRoasters$Store" "share" "I", Cond.methodLink RX4 27 Lib.Math.min.name, Cond.methodLink RX1 31 yX4_canMix, Cond.instanceMethod yX4_canMix, Cond.selects RX4 yX4_canMix yX4_canMix, Cond.code yX4_canMix cX4_canMix 2 (some .boolean), Cond.methodLink RX1 38 yX4_servePortion, Cond.instanceMethod yX4_servePortion]
def wsL_build_r14 : List Cond := [Cond.selects RX4 yX4_servePortion yX4_servePortion, Cond.code yX4_servePortion cX4_servePortion 2 none, Cond.fieldLink RX4 33 "ChicoryRoasters$Store" "thinned" "I", Cond.fieldLink RX4 36 "ChicoryRoasters$Store" "served" "I"]
def wsL_build : List Cond := .code yL_build cL_build 5 (some (.object "ChicoryRoastersLaw$Sim")) :: ((wsL_build_r1 ++ (wsL_build_r2 ++ (wsL_build_r3 ++ (wsL_build_r4 ++ (wsL_build_r5 ++ (wsL_build_r6 ++ (wsL_build_r7 ++ (wsL_build_r8 ++ (wsL_build_r9 ++ (wsL_build_r10 ++ (wsL_build_r11 ++ (wsL_build_r12 ++ (wsL_build_r13 ++ wsL_build_r14))))))))))))) ++ wsX80 ++ wsX70 ++ wsX60 ++ wsX00 ++ wsX20 ++ wsX30 ++ wsX10 ++ wsX40 ++ (vx_atS RX7 186 "java/lang/IllegalArgumentException" ["java/lang/RuntimeException", "java/lang/Exception"]).filter goodWord ++ (vx_atS RX7 191 "java/lang/IllegalStateException" ["java/lang/RuntimeException", "java/lang/Exception"]).filter goodWord ++ (vx_atS RX7 143 "java/lang/IndexOutOfBoundsException" ["java/lang/RuntimeException", "java/lang/Exception"]).filter goodWord)
def wsL_law0_r1 : List Cond := [Cond.classLink RL 28 RX7, Cond.instantiable RX7 2, Cond.initialized RX7, Cond.fieldLink RL 32 "ChicoryRoastersLaw$Sim" "drums" "[[I", Cond.fieldLink RL 84 "ChicoryRoastersLaw$Sim" "parts" "[I", Cond.fieldLink RL 44 "ChicoryRoastersLaw$Sim" "cards" "[[I", Cond.methodLink RL 126 Lib.Math.min.name, Cond.static Lib.Math.min.name, Cond.initialized "java/lang/Math", Cond.code Lib.Math.min.name Lib.Math.min.code 2 (some .int), Cond.fieldLink RL 17 "ChicoryRoastersLaw$Sim" "beds" "[[I", Cond.fieldLink RL 38 "ChicoryRoastersLaw$Sim" "smugglers" "[[I", Cond.methodLink RL 112 yX7_init, Cond.instanceMethod yX7_init, Cond.code yX7_init cX7_init 1 none, Cond.methodLink RX7 1 objectInit, Cond.instanceMethod objectInit, Cond.code objectInit ⟨#[0xb1]⟩ 1 none, Cond.classLink RX7 7 RX6, Cond.instantiable RX6 11, Cond.initialized RX6, Cond.fieldLink RX7 10 "ChicoryRoasters" "town" "LChicoryRoasters$Town;", Cond.fieldLink RX7 16 "ChicoryRoasters" "trial" "LChicoryRoasters$Town;", Cond.methodLink RX7 9 yX6_init]
def wsL_law0_r2 : List Cond := [Cond.instanceMethod yX6_init, Cond.code yX6_init cX6_init 2 none, Cond.classLink RX6 9 RX0, Cond.fieldLink RX6 11 "ChicoryRoasters$Town" "beds" "[LChicoryRoasters$Bed;", Cond.classLink RX6 17 RX2, Cond.fieldLink RX6 19 "ChicoryRoasters$Town" "drums" "[LChicoryRoasters$Drum;", Cond.classLink RX6 23 RX3, Cond.fieldLink RX6 25 "ChicoryRoasters$Town" "smugglers" "[LChicoryRoasters$Smuggler;", Cond.classLink RX6 29 RX1, Cond.fieldLink RX6 31 "ChicoryRoasters$Town" "cards" "[LChicoryRoasters$Card;", Cond.classLink RX6 35 RX4, Cond.instantiable RX4 7, Cond.initialized RX4, Cond.fieldLink RX6 38 "ChicoryRoasters$Town" "store" "LChicoryRoasters$Store;", Cond.instantiable RX0 3, Cond.initialized RX0, Cond.instantiable RX2 5, Cond.initialized RX2, Cond.instantiable RX3 5, Cond.initialized RX3, Cond.instantiable RX1 5, Cond.initialized RX1, Cond.instanceMethod yX5_init, Cond.initialized RX5]
def wsL_law0_r3 : List Cond := [Cond.code yX5_init cX5_init 1 none, Cond.methodLink RX5 1 objectInit, Cond.instanceMethod yX4_init, Cond.code yX4_init cX4_init 1 none, Cond.methodLink RX4 3 objectInit, Cond.fieldLink RX4 9 "ChicoryRoasters$Store" "share" "I", Cond.instanceMethod yX0_init, Cond.code yX0_init cX0_init 1 none, Cond.instanceMethod yX2_init, Cond.code yX2_init cX2_init 1 none, Cond.fieldLink RX2 9 "ChicoryRoasters$Drum" "kind" "I", Cond.instanceMethod yX3_init, Cond.code yX3_init cX3_init 1 none, Cond.instanceMethod yX1_init, Cond.code yX1_init cX1_init 1 none, Cond.methodLink RL 113 yL_build, Cond.static yL_build, Cond.initialized RL, Cond.code yL_build cL_build 5 (some (.object "ChicoryRoastersLaw$Sim")), Cond.classLink RL 18 RX8, Cond.instantiable RX8 11, Cond.initialized RX8, Cond.instanceMethod yX8_init, Cond.code yX8_init cX8_init 1 none]
def wsL_law0_r4 : List Cond := [Cond.methodLink RX8 1 objectInit, Cond.arrayClass .int, Cond.fieldLink RX8 7 "ChicoryRoastersLaw$Sim" "store" "[I", Cond.fieldLink RX8 13 "ChicoryRoastersLaw$Sim" "parts" "[I", Cond.fieldLink RX8 16 "ChicoryRoastersLaw$Sim" "share" "I", Cond.classLink RX8 20 "[I", Cond.fieldLink RX8 21 "ChicoryRoastersLaw$Sim" "beds" "[[I", Cond.fieldLink RX8 25 "ChicoryRoastersLaw$Sim" "drums" "[[I", Cond.fieldLink RX8 28 "ChicoryRoastersLaw$Sim" "smugglers" "[[I", Cond.fieldLink RX8 31 "ChicoryRoastersLaw$Sim" "cards" "[[I", Cond.methodLink RL 104 yL_cell, Cond.static yL_cell, Cond.code yL_cell cL_cell 2 (some .int), Cond.constant RL 8 (790386105), Cond.methodLink RL 11 yL_below, Cond.static yL_below, Cond.code yL_below cL_below 2 (some .int), Cond.constant RL 7 (2147483647), Cond.methodLink RL 108 yL_act, Cond.static yL_act, Cond.code yL_act cL_act 21 (some .boolean), Cond.fieldLink RL 50 "ChicoryRoastersLaw$Sim" "patrol" "I", Cond.fieldLink RL 58 "ChicoryRoastersLaw$Sim" "share" "I", Cond.fieldLink RL 67 "ChicoryRoastersLaw$Sim" "store" "[I"]
def wsL_law0_r5 : List Cond := [Cond.fieldLink RL 93 "ChicoryRoastersLaw$Sim" "served" "I", Cond.methodLink RL 23 yL_with, Cond.static yL_with, Cond.code yL_with cL_with 4 (some (.array (.array .int))), Cond.classLink RL 9 "[I", Cond.methodLink RL 27 yX7_bed, Cond.instanceMethod yX7_bed, Cond.selects RX7 yX7_bed yX7_bed, Cond.code yX7_bed cX7_bed 3 (some .int), Cond.fieldLink RX7 23 "ChicoryRoasters$Town" "bedCount" "I", Cond.fieldLink RX7 31 "ChicoryRoasters$Town" "beds" "[LChicoryRoasters$Bed;", Cond.methodLink RX7 19 yX7_checkNumber, Cond.static yX7_checkNumber, Cond.code yX7_checkNumber cX7_checkNumber 3 none, Cond.classLink RX7 182 "java/lang/IllegalArgumentException", Cond.initialized "java/lang/IllegalArgumentException", Cond.methodLink RX7 27 yX7_checkState, Cond.static yX7_checkState, Cond.code yX7_checkState cX7_checkState 1 none, Cond.classLink RX7 187 "java/lang/IllegalStateException", Cond.initialized "java/lang/IllegalStateException", Cond.methodLink RX7 35 yX0_lay, Cond.instanceMethod yX0_lay, Cond.selects RX0 yX0_lay yX0_lay]
def wsL_law0_r6 : List Cond := [Cond.code yX0_lay cX0_lay 3 none, Cond.fieldLink RX0 7 "ChicoryRoasters$Bed" "grows" "I", Cond.fieldLink RX0 13 "ChicoryRoasters$Bed" "most" "I", Cond.methodLink RL 35 yX7_drum, Cond.instanceMethod yX7_drum, Cond.selects RX7 yX7_drum yX7_drum, Cond.code yX7_drum cX7_drum 3 (some .int), Cond.fieldLink RX7 41 "ChicoryRoasters$Town" "drumCount" "I", Cond.fieldLink RX7 44 "ChicoryRoasters$Town" "drums" "[LChicoryRoasters$Drum;", Cond.methodLink RX7 48 yX2_install, Cond.instanceMethod yX2_install, Cond.selects RX2 yX2_install yX2_install, Cond.code yX2_install cX2_install 3 none, Cond.fieldLink RX2 15 "ChicoryRoasters$Drum" "holds" "I", Cond.fieldLink RX2 18 "ChicoryRoasters$Drum" "heat" "I", Cond.methodLink RL 41 yX7_smuggler, Cond.instanceMethod yX7_smuggler, Cond.selects RX7 yX7_smuggler yX7_smuggler, Cond.code yX7_smuggler cX7_smuggler 3 (some .int), Cond.fieldLink RX7 53 "ChicoryRoasters$Town" "smugglerCount" "I", Cond.fieldLink RX7 56 "ChicoryRoasters$Town" "smugglers" "[LChicoryRoasters$Smuggler;", Cond.methodLink RX7 60 yX3_hire, Cond.instanceMethod yX3_hire, Cond.selects RX3 yX3_hire yX3_hire]
def wsL_law0_r7 : List Cond := [Cond.code yX3_hire cX3_hire 3 none, Cond.fieldLink RX3 9 "ChicoryRoasters$Smuggler" "way" "I", Cond.fieldLink RX3 15 "ChicoryRoasters$Smuggler" "cargo" "I", Cond.methodLink RL 47 yX7_card, Cond.instanceMethod yX7_card, Cond.selects RX7 yX7_card yX7_card, Cond.code yX7_card cX7_card 3 (some .int), Cond.fieldLink RX7 65 "ChicoryRoasters$Town" "cardCount" "I", Cond.fieldLink RX7 68 "ChicoryRoasters$Town" "cards" "[LChicoryRoasters$Card;", Cond.methodLink RX7 72 yX1_issue, Cond.instanceMethod yX1_issue, Cond.selects RX1 yX1_issue yX1_issue, Cond.code yX1_issue cX1_issue 3 none, Cond.fieldLink RX1 9 "ChicoryRoasters$Card" "allotted" "I", Cond.fieldLink RX1 15 "ChicoryRoasters$Card" "picky" "I", Cond.fieldLink RX1 18 "ChicoryRoasters$Card" "left" "I", Cond.methodLink RL 54 yX7_setPatrol, Cond.instanceMethod yX7_setPatrol, Cond.selects RX7 yX7_setPatrol yX7_setPatrol, Cond.code yX7_setPatrol cX7_setPatrol 3 (some .int), Cond.fieldLink RX7 77 "ChicoryRoasters$Town" "patrol" "I", Cond.methodLink RL 61 yX7_setShare, Cond.instanceMethod yX7_setShare, Cond.selects RX7 yX7_setShare yX7_setShare]
def wsL_law0_r8 : List Cond := [Cond.code yX7_setShare cX7_setShare 3 (some .int), Cond.fieldLink RX7 80 "ChicoryRoasters$Town" "store" "LChicoryRoasters$Store;", Cond.fieldLink RX7 84 "ChicoryRoasters$Store" "share" "I", Cond.methodLink RL 64 yX7_setHeat, Cond.instanceMethod yX7_setHeat, Cond.selects RX7 yX7_setHeat yX7_setHeat, Cond.code yX7_setHeat cX7_setHeat 4 (some .int), Cond.fieldLink RX7 92 "ChicoryRoasters$Drum" "heat" "I", Cond.methodLink RX7 89 yX7_checkIndex, Cond.static yX7_checkIndex, Cond.code yX7_checkIndex cX7_checkIndex 2 none, Cond.classLink RX7 139 "java/lang/IndexOutOfBoundsException", Cond.initialized "java/lang/IndexOutOfBoundsException", Cond.methodLink RL 70 yX7_dig, Cond.instanceMethod yX7_dig, Cond.selects RX7 yX7_dig yX7_dig, Cond.code yX7_dig cX7_dig 3 (some .int), Cond.fieldLink RX7 95 "ChicoryRoasters$Bed" "roots" "I", Cond.methodLink RX7 98 yX4_add, Cond.instanceMethod yX4_add, Cond.selects RX4 yX4_add yX4_add, Cond.code yX4_add cX4_add 3 none, Cond.fieldLink RX4 15 "ChicoryRoasters$Store" "roots" "I", Cond.fieldLink RX4 18 "ChicoryRoasters$Store" "beans" "I"]
def wsL_law0_r9 : List Cond := [Cond.methodLink RL 73 yX7_give, Cond.instanceMethod yX7_give, Cond.selects RX7 yX7_give yX7_give, Cond.code yX7_give cX7_give 3 (some .int), Cond.methodLink RX7 101 yX4_stock, Cond.instanceMethod yX4_stock, Cond.selects RX4 yX4_stock yX4_stock, Cond.code yX4_stock cX4_stock 2 (some .int), Cond.methodLink RL 76 yX7_load, Cond.instanceMethod yX7_load, Cond.selects RX7 yX7_load yX7_load, Cond.code yX7_load cX7_load 4 (some .int), Cond.fieldLink RX7 105 "ChicoryRoasters$Drum" "holds" "I", Cond.fieldLink RX7 108 "ChicoryRoasters$Drum" "kind" "I", Cond.methodLink RX7 111 yX2_fill, Cond.instanceMethod yX2_fill, Cond.selects RX2 yX2_fill yX2_fill, Cond.code yX2_fill cX2_fill 3 none, Cond.fieldLink RX2 21 "ChicoryRoasters$Drum" "much" "I", Cond.fieldLink RX2 24 "ChicoryRoasters$Drum" "level" "I", Cond.methodLink RL 80 yX8_yields, Cond.static yX8_yields, Cond.code yX8_yields cX8_yields 3 (some .int), Cond.methodLink RX8 55 yX8_burnt]
def wsL_law0_r10 : List Cond := [Cond.static yX8_burnt, Cond.code yX8_burnt cX8_burnt 1 (some .int), Cond.methodLink RL 87 yX7_take, Cond.instanceMethod yX7_take, Cond.selects RX7 yX7_take yX7_take, Cond.code yX7_take cX7_take 4 (some .int), Cond.fieldLink RX7 114 "ChicoryRoasters$Drum" "level" "I", Cond.methodLink RX7 117 yX2_partsAt, Cond.instanceMethod yX2_partsAt, Cond.selects RX2 yX2_partsAt yX2_partsAt, Cond.code yX2_partsAt cX2_partsAt 3 (some .int), Cond.methodLink RX2 41 yX2_done, Cond.instanceMethod yX2_done, Cond.selects RX2 yX2_done yX2_done, Cond.code yX2_done cX2_done 1 (some .int), Cond.methodLink RX2 31 yX2_burnt, Cond.instanceMethod yX2_burnt, Cond.selects RX2 yX2_burnt yX2_burnt, Cond.code yX2_burnt cX2_burnt 1 (some .int), Cond.methodLink RX7 120 yX4_addRoasted, Cond.instanceMethod yX4_addRoasted, Cond.selects RX4 yX4_addRoasted yX4_addRoasted, Cond.code yX4_addRoasted cX4_addRoasted 3 none, Cond.fieldLink RX4 21 "ChicoryRoasters$Store" "chicory" "I"]
def wsL_law0_r11 : List Cond := [Cond.fieldLink RX4 24 "ChicoryRoasters$Store" "coffee" "I", Cond.methodLink RL 90 yX7_send, Cond.instanceMethod yX7_send, Cond.selects RX7 yX7_send yX7_send, Cond.code yX7_send cX7_send 2 (some .int), Cond.fieldLink RX7 123 "ChicoryRoasters$Smuggler" "where" "I", Cond.fieldLink RX7 129 "ChicoryRoasters$Smuggler" "left" "I", Cond.methodLink RX7 126 yX3_setOut, Cond.instanceMethod yX3_setOut, Cond.selects RX3 yX3_setOut yX3_setOut, Cond.code yX3_setOut cX3_setOut 1 none, Cond.fieldLink RX3 18 "ChicoryRoasters$Smuggler" "where" "I", Cond.fieldLink RX3 21 "ChicoryRoasters$Smuggler" "left" "I", Cond.methodLink RL 96 yX8_behind, Cond.instanceMethod yX8_behind, Cond.selects RX8 yX8_behind yX8_behind, Cond.code yX8_behind cX8_behind 3 (some (.object "ChicoryRoastersLaw$Sim")), Cond.methodLink RX8 63 yX8_pass, Cond.instanceMethod yX8_pass, Cond.selects RX8 yX8_pass yX8_pass, Cond.code yX8_pass cX8_pass 7 none, Cond.fieldLink RX8 39 "ChicoryRoastersLaw$Sim" "day" "I", Cond.fieldLink RX8 42 "ChicoryRoastersLaw$Sim" "served" "I", Cond.fieldLink RX8 45 "ChicoryRoastersLaw$Sim" "thinned" "I"]
def wsL_law0_r12 : List Cond := [Cond.methodLink RX8 59 yX8_isThere, Cond.instanceMethod yX8_isThere, Cond.selects RX8 yX8_isThere yX8_isThere, Cond.code yX8_isThere cX8_isThere 2 (some .boolean), Cond.fieldLink RX8 48 "ChicoryRoastersLaw$Sim" "patrol" "I", Cond.methodLink RL 100 yX7_pass, Cond.instanceMethod yX7_pass, Cond.selects RX7 yX7_pass yX7_pass, Cond.code yX7_pass cX7_pass 2 (some .int), Cond.methodLink RX7 136 yX6_live, Cond.instanceMethod yX6_live, Cond.selects RX6 yX6_live yX6_live, Cond.code yX6_live cX6_live 4 (some .int), Cond.fieldLink RX6 63 "ChicoryRoasters$Town" "day" "I", Cond.methodLink RX6 50 yX6_travel, Cond.instanceMethod yX6_travel, Cond.selects RX6 yX6_travel yX6_travel, Cond.code yX6_travel cX6_travel 2 none, Cond.fieldLink RX6 66 "ChicoryRoasters$Town" "smugglerCount" "I", Cond.methodLink RX6 69 yX6_patrolled, Cond.instanceMethod yX6_patrolled, Cond.selects RX6 yX6_patrolled yX6_patrolled, Cond.code yX6_patrolled cX6_patrolled 2 (some .boolean), Cond.fieldLink RX6 46 "ChicoryRoasters$Town" "patrol" "I"]
def wsL_law0_r13 : List Cond := [Cond.methodLink RX6 73 yX3_travel, Cond.instanceMethod yX3_travel, Cond.selects RX3 yX3_travel yX3_travel, Cond.code yX3_travel cX3_travel 2 (some .int), Cond.fieldLink RX3 24 "ChicoryRoasters$Smuggler" "arrests" "I", Cond.methodLink RX3 27 yX3_comeHome, Cond.instanceMethod yX3_comeHome, Cond.selects RX3 yX3_comeHome yX3_comeHome, Cond.code yX3_comeHome cX3_comeHome 2 (some .int), Cond.methodLink RX6 76 yX4_add, Cond.methodLink RX6 53 yX6_warm, Cond.instanceMethod yX6_warm, Cond.selects RX6 yX6_warm yX6_warm, Cond.code yX6_warm cX6_warm 2 none, Cond.fieldLink RX6 80 "ChicoryRoasters$Town" "drumCount" "I", Cond.methodLink RX6 83 yX2_warm, Cond.instanceMethod yX2_warm, Cond.selects RX2 yX2_warm yX2_warm, Cond.code yX2_warm cX2_warm 1 none, Cond.methodLink RX2 27 yX2_levelAfter, Cond.instanceMethod yX2_levelAfter, Cond.selects RX2 yX2_levelAfter yX2_levelAfter, Cond.code yX2_levelAfter cX2_levelAfter 2 (some .int), Cond.methodLink RX2 35 Lib.Math.min.name]
def wsL_law0_r14 : List Cond := [Cond.methodLink RX6 56 yX6_grow, Cond.instanceMethod yX6_grow, Cond.selects RX6 yX6_grow yX6_grow, Cond.code yX6_grow cX6_grow 2 none, Cond.fieldLink RX6 84 "ChicoryRoasters$Town" "bedCount" "I", Cond.methodLink RX6 87 yX0_grow, Cond.instanceMethod yX0_grow, Cond.selects RX0 yX0_grow yX0_grow, Cond.code yX0_grow cX0_grow 1 none, Cond.fieldLink RX0 16 "ChicoryRoasters$Bed" "roots" "I", Cond.methodLink RX0 19 Lib.Math.min.name, Cond.methodLink RX6 59 yX6_serve, Cond.instanceMethod yX6_serve, Cond.selects RX6 yX6_serve yX6_serve, Cond.code yX6_serve cX6_serve 3 (some .int), Cond.fieldLink RX6 88 "ChicoryRoasters$Town" "cardCount" "I", Cond.methodLink RX6 91 yX1_renew, Cond.instanceMethod yX1_renew, Cond.selects RX1 yX1_renew yX1_renew, Cond.code yX1_renew cX1_renew 1 none, Cond.methodLink RX6 94 yX1_serveDay, Cond.instanceMethod yX1_serveDay, Cond.selects RX1 yX1_serveDay yX1_serveDay, Cond.code yX1_serveDay cX1_serveDay 3 (some .int)]
def wsL_law0_r15 : List Cond := [Cond.methodLink RX1 21 yX1_serveOne, Cond.instanceMethod yX1_serveOne, Cond.selects RX1 yX1_serveOne yX1_serveOne, Cond.code yX1_serveOne cX1_serveOne 3 (some .boolean), Cond.fieldLink RX1 35 "ChicoryRoasters$Card" "refused" "I", Cond.fieldLink RX1 42 "ChicoryRoasters$Card" "served" "I", Cond.methodLink RX1 25 yX4_coffeeOfPortion, Cond.instanceMethod yX4_coffeeOfPortion, Cond.selects RX4 yX4_coffeeOfPortion yX4_coffeeOfPortion, Cond.code yX4_coffeeOfPortion cX4_coffeeOfPortion 1 (some .int), Cond.methodLink RX4 27 Lib.Math.min.name, Cond.methodLink RX1 31 yX4_canMix, Cond.instanceMethod yX4_canMix, Cond.selects RX4 yX4_canMix yX4_canMix, Cond.code yX4_canMix cX4_canMix 2 (some .boolean), Cond.methodLink RX1 38 yX4_servePortion, Cond.instanceMethod yX4_servePortion, Cond.selects RX4 yX4_servePortion yX4_servePortion, Cond.code yX4_servePortion cX4_servePortion 2 none, Cond.fieldLink RX4 33 "ChicoryRoasters$Store" "thinned" "I", Cond.fieldLink RX4 36 "ChicoryRoasters$Store" "served" "I", Cond.methodLink RL 117 yX7_count, Cond.instanceMethod yX7_count, Cond.selects RX7 yX7_count yX7_count]
def wsL_law0_r16 : List Cond := [Cond.code yX7_count cX7_count 2 (some .int), Cond.methodLink RX7 132 yX7_ask, Cond.static yX7_ask, Cond.code yX7_ask cX7_ask 2 (some .int), Cond.methodLink RX7 192 ⟨"ChicoryRoasters$Teller", "size", "()I"⟩, Cond.sameMethod "ChicoryRoasters$Teller" "ChicoryRoasters$Teller" "size" "()I", Cond.selects RX0 ⟨"ChicoryRoasters$Teller", "size", "()I"⟩ yX0_size, Cond.instanceMethod yX0_size, Cond.code yX0_size cX0_size 1 (some .int), Cond.selects RX1 ⟨"ChicoryRoasters$Teller", "size", "()I"⟩ yX1_size, Cond.instanceMethod yX1_size, Cond.code yX1_size cX1_size 1 (some .int), Cond.selects RX2 ⟨"ChicoryRoasters$Teller", "size", "()I"⟩ yX2_size, Cond.instanceMethod yX2_size, Cond.code yX2_size cX2_size 1 (some .int), Cond.selects RX3 ⟨"ChicoryRoasters$Teller", "size", "()I"⟩ yX3_size, Cond.instanceMethod yX3_size, Cond.code yX3_size cX3_size 1 (some .int), Cond.selects RX6 ⟨"ChicoryRoasters$Teller", "size", "()I"⟩ yX6_size, Cond.instanceMethod yX6_size, Cond.code yX6_size cX6_size 1 (some .int), Cond.methodLink RX7 197 ⟨"ChicoryRoasters$Teller", "tell", "(I)I"⟩, Cond.sameMethod "ChicoryRoasters$Teller" "ChicoryRoasters$Teller" "tell" "(I)I", Cond.selects RX0 ⟨"ChicoryRoasters$Teller", "tell", "(I)I"⟩ yX0_tell]
def wsL_law0_r17 : List Cond := [Cond.instanceMethod yX0_tell, Cond.code yX0_tell cX0_tell 2 (some .int), Cond.selects RX1 ⟨"ChicoryRoasters$Teller", "tell", "(I)I"⟩ yX1_tell, Cond.instanceMethod yX1_tell, Cond.code yX1_tell cX1_tell 2 (some .int), Cond.selects RX2 ⟨"ChicoryRoasters$Teller", "tell", "(I)I"⟩ yX2_tell, Cond.instanceMethod yX2_tell, Cond.code yX2_tell cX2_tell 2 (some .int), Cond.methodLink RX2 44 yX2_partsAt, Cond.selects RX3 ⟨"ChicoryRoasters$Teller", "tell", "(I)I"⟩ yX3_tell, Cond.instanceMethod yX3_tell, Cond.code yX3_tell cX3_tell 2 (some .int), Cond.selects RX6 ⟨"ChicoryRoasters$Teller", "tell", "(I)I"⟩ yX6_tell, Cond.instanceMethod yX6_tell, Cond.code yX6_tell cX6_tell 2 (some .int), Cond.fieldLink RX6 114 "ChicoryRoasters$Store" "roots" "I", Cond.fieldLink RX6 117 "ChicoryRoasters$Store" "beans" "I", Cond.fieldLink RX6 120 "ChicoryRoasters$Store" "chicory" "I", Cond.fieldLink RX6 123 "ChicoryRoasters$Store" "coffee" "I", Cond.fieldLink RX6 126 "ChicoryRoasters$Store" "served" "I", Cond.fieldLink RX6 129 "ChicoryRoasters$Store" "thinned" "I", Cond.fieldLink RX6 132 "ChicoryRoasters$Store" "share" "I", Cond.methodLink RL 120 yX7_roast, Cond.instanceMethod yX7_roast]
def wsL_law0_r18 : List Cond := [Cond.selects RX7 yX7_roast yX7_roast, Cond.code yX7_roast cX7_roast 3 (some .int), Cond.methodLink RL 123 yX7_ration, Cond.instanceMethod yX7_ration, Cond.selects RX7 yX7_ration yX7_ration, Cond.code yX7_ration cX7_ration 3 (some .int), Cond.methodLink RL 131 yX7_about, Cond.instanceMethod yX7_about, Cond.selects RX7 yX7_about yX7_about, Cond.code yX7_about cX7_about 3 (some .int), Cond.methodLink RL 134 yX7_told, Cond.instanceMethod yX7_told, Cond.selects RX7 yX7_told yX7_told, Cond.code yX7_told cX7_told 3 (some .int), Cond.methodLink RL 137 yX8_isSame, Cond.instanceMethod yX8_isSame, Cond.selects RX8 yX8_isSame yX8_isSame, Cond.code yX8_isSame cX8_isSame 5 (some .boolean), Cond.methodLink RX8 66 yX7_count, Cond.methodLink RX8 71 yX8_counted, Cond.instanceMethod yX8_counted, Cond.selects RX8 yX8_counted yX8_counted, Cond.code yX8_counted cX8_counted 3 (some .int), Cond.methodLink RX8 74 yX7_about]
def wsL_law0_r19 : List Cond := [Cond.methodLink RX8 78 yX7_roast, Cond.methodLink RX8 81 yX8_yields, Cond.methodLink RX8 85 yX7_told, Cond.methodLink RX8 88 yX7_ration, Cond.methodLink RX8 91 yX7_mean, Cond.instanceMethod yX7_mean, Cond.selects RX7 yX7_mean yX7_mean, Cond.code yX7_mean cX7_mean 1 (some .double), Cond.fieldLink RX7 167 "ChicoryRoasters$Store" "served" "I"]
def wsL_law0 : List Cond := (wsL_law0_r1 ++ (wsL_law0_r2 ++ (wsL_law0_r3 ++ (wsL_law0_r4 ++ (wsL_law0_r5 ++ (wsL_law0_r6 ++ (wsL_law0_r7 ++ (wsL_law0_r8 ++ (wsL_law0_r9 ++ (wsL_law0_r10 ++ (wsL_law0_r11 ++ (wsL_law0_r12 ++ (wsL_law0_r13 ++ (wsL_law0_r14 ++ (wsL_law0_r15 ++ (wsL_law0_r16 ++ (wsL_law0_r17 ++ (wsL_law0_r18 ++ wsL_law0_r19)))))))))))))))))) ++ wsX70 ++ wsX80 ++ wsX60 ++ wsX40 ++ wsX00 ++ wsX20 ++ wsX30 ++ wsX10 ++ ([] : List Cond)
def wsL_law : List Cond := wsL_law0 ++ (vx_atS RX7 186 "java/lang/IllegalArgumentException" ["java/lang/RuntimeException", "java/lang/Exception"]).filter goodWord ++ (vx_atS RX7 191 "java/lang/IllegalStateException" ["java/lang/RuntimeException", "java/lang/Exception"]).filter goodWord ++ (vx_atS RX7 143 "java/lang/IndexOutOfBoundsException" ["java/lang/RuntimeException", "java/lang/Exception"]).filter goodWord
abbrev vwCl : List vw_C := [(RX0, TX0, 3), (RX1, TX1, 5), (RX2, TX2, 5), (RX3, TX3, 5), (RX4, TX4, 7), (RX6, TX6, 11), (RX7, TX7, 2), (RX8, TX8, 11)]
end
section
set_option maxRecDepth 20000 in
theorem ggX0_init_X5_init : GoodIn wsX0_init wsX5_init := goodIn_r _ [3, 4, 5, 6] (by decide +kernel) (by decide +kernel)
set_option maxRecDepth 20000 in
theorem gX0_init_X5_init_n1 : GoodIn wsX0_init (wsX5_init) := ggX0_init_X5_init
theorem dX0_init_0 : decode cX0_init 0 = .ok (.aload_n 0, 1) := by decide +kernel
theorem dX0_init_1 : decode cX0_init 1 = .ok (.invokespecial 1, 3) := by decide +kernel
theorem dX0_init_4 : decode cX0_init 4 = .ok (.return_, 1) := by decide +kernel
theorem dX0_lay_0 : decode cX0_lay 0 = .ok (.aload_n 0, 1) := by decide +kernel
theorem dX0_lay_1 : decode cX0_lay 1 = .ok (.iload_n 1, 1) := by decide +kernel
theorem dX0_lay_2 : decode cX0_lay 2 = .ok (.putfield 7, 3) := by decide +kernel
theorem dX0_lay_5 : decode cX0_lay 5 = .ok (.aload_n 0, 1) := by decide +kernel
theorem dX0_lay_6 : decode cX0_lay 6 = .ok (.iload_n 2, 1) := by decide +kernel
theorem dX0_lay_7 : decode cX0_lay 7 = .ok (.putfield 13, 3) := by decide +kernel
theorem dX0_lay_10 : decode cX0_lay 10 = .ok (.return_, 1) := by decide +kernel
theorem dX0_grow_0 : decode cX0_grow 0 = .ok (.aload_n 0, 1) := by decide +kernel
theorem dX0_grow_1 : decode cX0_grow 1 = .ok (.aload_n 0, 1) := by decide +kernel
theorem dX0_grow_2 : decode cX0_grow 2 = .ok (.getfield 16, 3) := by decide +kernel
theorem dX0_grow_5 : decode cX0_grow 5 = .ok (.aload_n 0, 1) := by decide +kernel
theorem dX0_grow_6 : decode cX0_grow 6 = .ok (.getfield 7, 3) := by decide +kernel
theorem dX0_grow_9 : decode cX0_grow 9 = .ok (.iadd, 1) := by decide +kernel
theorem dX0_grow_10 : decode cX0_grow 10 = .ok (.aload_n 0, 1) := by decide +kernel
theorem dX0_grow_11 : decode cX0_grow 11 = .ok (.getfield 13, 3) := by decide +kernel
theorem dX0_grow_14 : decode cX0_grow 14 = .ok (.invokestatic 19, 3) := by decide +kernel
theorem dX0_grow_17 : decode cX0_grow 17 = .ok (.putfield 16, 3) := by decide +kernel
theorem dX0_grow_20 : decode cX0_grow 20 = .ok (.return_, 1) := by decide +kernel
theorem dX0_size_0 : decode cX0_size 0 = .ok (.iconst 3, 1) := by decide +kernel
theorem dX0_size_1 : decode cX0_size 1 = .ok (.ireturn, 1) := by decide +kernel
theorem dX0_tell_0 : decode cX0_tell 0 = .ok (.iload_n 1, 1) := by decide +kernel
theorem dX0_tell_1 : decode cX0_tell 1 = .ok (.lookupswitch 37 #[(0, 27), (1, 32)], 27) := by decide +kernel
theorem dX0_tell_28 : decode cX0_tell 28 = .ok (.aload_n 0, 1) := by decide +kernel
theorem dX0_tell_29 : decode cX0_tell 29 = .ok (.getfield 7, 3) := by decide +kernel
theorem dX0_tell_32 : decode cX0_tell 32 = .ok (.ireturn, 1) := by decide +kernel
theorem dX0_tell_33 : decode cX0_tell 33 = .ok (.aload_n 0, 1) := by decide +kernel
theorem dX0_tell_34 : decode cX0_tell 34 = .ok (.getfield 13, 3) := by decide +kernel
theorem dX0_tell_37 : decode cX0_tell 37 = .ok (.ireturn, 1) := by decide +kernel
theorem dX0_tell_38 : decode cX0_tell 38 = .ok (.aload_n 0, 1) := by decide +kernel
theorem dX0_tell_39 : decode cX0_tell 39 = .ok (.getfield 16, 3) := by decide +kernel
theorem dX0_tell_42 : decode cX0_tell 42 = .ok (.ireturn, 1) := by decide +kernel
set_option maxRecDepth 20000 in
theorem ggX1_init_X5_init : GoodIn wsX1_init wsX5_init := goodIn_r _ [3, 4, 5, 6] (by decide +kernel) (by decide +kernel)
set_option maxRecDepth 20000 in
theorem gX1_init_X5_init_n3 : GoodIn wsX1_init (wsX5_init) := ggX1_init_X5_init
theorem dX1_init_0 : decode cX1_init 0 = .ok (.aload_n 0, 1) := by decide +kernel
theorem dX1_init_1 : decode cX1_init 1 = .ok (.invokespecial 3, 3) := by decide +kernel
theorem dX1_init_4 : decode cX1_init 4 = .ok (.return_, 1) := by decide +kernel
theorem dX1_issue_0 : decode cX1_issue 0 = .ok (.aload_n 0, 1) := by decide +kernel
theorem dX1_issue_1 : decode cX1_issue 1 = .ok (.iload_n 1, 1) := by decide +kernel
theorem dX1_issue_2 : decode cX1_issue 2 = .ok (.putfield 9, 3) := by decide +kernel
theorem dX1_issue_5 : decode cX1_issue 5 = .ok (.aload_n 0, 1) := by decide +kernel
theorem dX1_issue_6 : decode cX1_issue 6 = .ok (.iload_n 2, 1) := by decide +kernel
theorem dX1_issue_7 : decode cX1_issue 7 = .ok (.putfield 15, 3) := by decide +kernel
theorem dX1_issue_10 : decode cX1_issue 10 = .ok (.aload_n 0, 1) := by decide +kernel
theorem dX1_issue_11 : decode cX1_issue 11 = .ok (.iload_n 1, 1) := by decide +kernel
theorem dX1_issue_12 : decode cX1_issue 12 = .ok (.putfield 18, 3) := by decide +kernel
theorem dX1_issue_15 : decode cX1_issue 15 = .ok (.return_, 1) := by decide +kernel
theorem dX1_renew_0 : decode cX1_renew 0 = .ok (.aload_n 0, 1) := by decide +kernel
theorem dX1_renew_1 : decode cX1_renew 1 = .ok (.aload_n 0, 1) := by decide +kernel
theorem dX1_renew_2 : decode cX1_renew 2 = .ok (.getfield 9, 3) := by decide +kernel
theorem dX1_renew_5 : decode cX1_renew 5 = .ok (.putfield 18, 3) := by decide +kernel
theorem dX1_renew_8 : decode cX1_renew 8 = .ok (.return_, 1) := by decide +kernel
set_option maxRecDepth 20000 in
theorem ggX1_serveDay_X1_serveOne : GoodIn wsX1_serveDay wsX1_serveOne := goodIn_r _ [5, 6, 7, 8, 9, 10, 11, 12, 13, 14, 15, 16, 17, 18, 19, 20, 21, 22, 23, 24, 25, 26, 27, 28, 29, 30, 31, 32, 33, 34, 35, 36, 37, 38, 39, 40, 41, 42, 43] (by decide +kernel) (by decide +kernel)
set_option maxRecDepth 20000 in
theorem gX1_serveDay_X1_serveOne : GoodIn wsX1_serveDay (wsV RX1 21 RX1 yX1_serveOne wsX1_serveOne) := goodIn_app (goodIn_of _ (by decide +kernel)) ggX1_serveDay_X1_serveOne
theorem dX1_serveDay_0 : decode cX1_serveDay 0 = .ok (.iconst 0, 1) := by decide +kernel
theorem dX1_serveDay_1 : decode cX1_serveDay 1 = .ok (.istore_n 2, 1) := by decide +kernel
theorem dX1_serveDay_2 : decode cX1_serveDay 2 = .ok (.iload_n 2, 1) := by decide +kernel
theorem dX1_serveDay_3 : decode cX1_serveDay 3 = .ok (.iconst 2, 1) := by decide +kernel
theorem dX1_serveDay_4 : decode cX1_serveDay 4 = .ok (.if_icmp .ge 17, 3) := by decide +kernel
theorem dX1_serveDay_7 : decode cX1_serveDay 7 = .ok (.aload_n 0, 1) := by decide +kernel
theorem dX1_serveDay_8 : decode cX1_serveDay 8 = .ok (.aload_n 1, 1) := by decide +kernel
theorem dX1_serveDay_9 : decode cX1_serveDay 9 = .ok (.invokevirtual 21, 3) := by decide +kernel
theorem dX1_serveDay_12 : decode cX1_serveDay 12 = .ok (.ifCond .eq 9, 3) := by decide +kernel
theorem dX1_serveDay_15 : decode cX1_serveDay 15 = .ok (.iinc 2 1, 3) := by decide +kernel
theorem dX1_serveDay_18 : decode cX1_serveDay 18 = .ok (.goto (-16), 3) := by decide +kernel
theorem dX1_serveDay_21 : decode cX1_serveDay 21 = .ok (.iload_n 2, 1) := by decide +kernel
theorem dX1_serveDay_22 : decode cX1_serveDay 22 = .ok (.ireturn, 1) := by decide +kernel
set_option maxRecDepth 20000 in
theorem ggX1_serveOne_X4_coffeeOfPortion : GoodIn wsX1_serveOne wsX4_coffeeOfPortion := goodIn_r _ [9, 10, 11, 12, 13, 14, 15, 32, 33, 34, 35, 36, 37, 38] (by decide +kernel) (by decide +kernel)
set_option maxRecDepth 20000 in
theorem gX1_serveOne_X4_coffeeOfPortion : GoodIn wsX1_serveOne (wsV RX1 25 RX4 yX4_coffeeOfPortion wsX4_coffeeOfPortion) := goodIn_app (goodIn_of _ (by decide +kernel)) ggX1_serveOne_X4_coffeeOfPortion
set_option maxRecDepth 20000 in
theorem ggX1_serveOne_X4_canMix : GoodIn wsX1_serveOne wsX4_canMix := goodIn_r _ [19, 20, 32, 33, 34, 35, 36, 37, 38] (by decide +kernel) (by decide +kernel)
set_option maxRecDepth 20000 in
theorem gX1_serveOne_X4_canMix : GoodIn wsX1_serveOne (wsV RX1 31 RX4 yX4_canMix wsX4_canMix) := goodIn_app (goodIn_of _ (by decide +kernel)) ggX1_serveOne_X4_canMix
set_option maxRecDepth 20000 in
theorem ggX1_serveOne_X4_servePortion : GoodIn wsX1_serveOne wsX4_servePortion := goodIn_r _ [24, 10, 25, 11, 20, 26, 32, 33, 34, 35, 36, 37, 38] (by decide +kernel) (by decide +kernel)
set_option maxRecDepth 20000 in
theorem gX1_serveOne_X4_servePortion : GoodIn wsX1_serveOne (wsV RX1 38 RX4 yX4_servePortion wsX4_servePortion) := goodIn_app (goodIn_of _ (by decide +kernel)) ggX1_serveOne_X4_servePortion
theorem dX1_serveOne_0 : decode cX1_serveOne 0 = .ok (.aload_n 1, 1) := by decide +kernel
theorem dX1_serveOne_1 : decode cX1_serveOne 1 = .ok (.invokevirtual 25, 3) := by decide +kernel
theorem dX1_serveOne_4 : decode cX1_serveOne 4 = .ok (.istore_n 2, 1) := by decide +kernel
theorem dX1_serveOne_5 : decode cX1_serveOne 5 = .ok (.aload_n 0, 1) := by decide +kernel
theorem dX1_serveOne_6 : decode cX1_serveOne 6 = .ok (.getfield 18, 3) := by decide +kernel
theorem dX1_serveOne_9 : decode cX1_serveOne 9 = .ok (.ifCond .eq 11, 3) := by decide +kernel
theorem dX1_serveOne_12 : decode cX1_serveOne 12 = .ok (.aload_n 1, 1) := by decide +kernel
theorem dX1_serveOne_13 : decode cX1_serveOne 13 = .ok (.iload_n 2, 1) := by decide +kernel
theorem dX1_serveOne_14 : decode cX1_serveOne 14 = .ok (.invokevirtual 31, 3) := by decide +kernel
theorem dX1_serveOne_17 : decode cX1_serveOne 17 = .ok (.ifCond .ne 5, 3) := by decide +kernel
theorem dX1_serveOne_20 : decode cX1_serveOne 20 = .ok (.iconst 0, 1) := by decide +kernel
theorem dX1_serveOne_21 : decode cX1_serveOne 21 = .ok (.ireturn, 1) := by decide +kernel
theorem dX1_serveOne_22 : decode cX1_serveOne 22 = .ok (.iload_n 2, 1) := by decide +kernel
theorem dX1_serveOne_23 : decode cX1_serveOne 23 = .ok (.aload_n 0, 1) := by decide +kernel
theorem dX1_serveOne_24 : decode cX1_serveOne 24 = .ok (.getfield 15, 3) := by decide +kernel
theorem dX1_serveOne_27 : decode cX1_serveOne 27 = .ok (.if_icmp .ge 15, 3) := by decide +kernel
theorem dX1_serveOne_30 : decode cX1_serveOne 30 = .ok (.aload_n 0, 1) := by decide +kernel
theorem dX1_serveOne_31 : decode cX1_serveOne 31 = .ok (.dup, 1) := by decide +kernel
theorem dX1_serveOne_32 : decode cX1_serveOne 32 = .ok (.getfield 35, 3) := by decide +kernel
theorem dX1_serveOne_35 : decode cX1_serveOne 35 = .ok (.iconst 1, 1) := by decide +kernel
theorem dX1_serveOne_36 : decode cX1_serveOne 36 = .ok (.iadd, 1) := by decide +kernel
theorem dX1_serveOne_37 : decode cX1_serveOne 37 = .ok (.putfield 35, 3) := by decide +kernel
theorem dX1_serveOne_40 : decode cX1_serveOne 40 = .ok (.iconst 0, 1) := by decide +kernel
theorem dX1_serveOne_41 : decode cX1_serveOne 41 = .ok (.ireturn, 1) := by decide +kernel
theorem dX1_serveOne_42 : decode cX1_serveOne 42 = .ok (.aload_n 1, 1) := by decide +kernel
theorem dX1_serveOne_43 : decode cX1_serveOne 43 = .ok (.iload_n 2, 1) := by decide +kernel
theorem dX1_serveOne_44 : decode cX1_serveOne 44 = .ok (.invokevirtual 38, 3) := by decide +kernel
theorem dX1_serveOne_47 : decode cX1_serveOne 47 = .ok (.aload_n 0, 1) := by decide +kernel
theorem dX1_serveOne_48 : decode cX1_serveOne 48 = .ok (.dup, 1) := by decide +kernel
theorem dX1_serveOne_49 : decode cX1_serveOne 49 = .ok (.getfield 18, 3) := by decide +kernel
theorem dX1_serveOne_52 : decode cX1_serveOne 52 = .ok (.iconst 1, 1) := by decide +kernel
theorem dX1_serveOne_53 : decode cX1_serveOne 53 = .ok (.isub, 1) := by decide +kernel
theorem dX1_serveOne_54 : decode cX1_serveOne 54 = .ok (.putfield 18, 3) := by decide +kernel
theorem dX1_serveOne_57 : decode cX1_serveOne 57 = .ok (.aload_n 0, 1) := by decide +kernel
theorem dX1_serveOne_58 : decode cX1_serveOne 58 = .ok (.dup, 1) := by decide +kernel
theorem dX1_serveOne_59 : decode cX1_serveOne 59 = .ok (.getfield 42, 3) := by decide +kernel
theorem dX1_serveOne_62 : decode cX1_serveOne 62 = .ok (.iconst 1, 1) := by decide +kernel
theorem dX1_serveOne_63 : decode cX1_serveOne 63 = .ok (.iadd, 1) := by decide +kernel
theorem dX1_serveOne_64 : decode cX1_serveOne 64 = .ok (.putfield 42, 3) := by decide +kernel
theorem dX1_serveOne_67 : decode cX1_serveOne 67 = .ok (.iconst 1, 1) := by decide +kernel
theorem dX1_serveOne_68 : decode cX1_serveOne 68 = .ok (.ireturn, 1) := by decide +kernel
theorem dX1_size_0 : decode cX1_size 0 = .ok (.iconst 5, 1) := by decide +kernel
theorem dX1_size_1 : decode cX1_size 1 = .ok (.ireturn, 1) := by decide +kernel
theorem dX1_tell_0 : decode cX1_tell 0 = .ok (.iload_n 1, 1) := by decide +kernel
theorem dX1_tell_1 : decode cX1_tell 1 = .ok (.tableswitch 51 0 3 #[31, 36, 41, 46], 31) := by decide +kernel
theorem dX1_tell_32 : decode cX1_tell 32 = .ok (.aload_n 0, 1) := by decide +kernel
theorem dX1_tell_33 : decode cX1_tell 33 = .ok (.getfield 9, 3) := by decide +kernel
theorem dX1_tell_36 : decode cX1_tell 36 = .ok (.ireturn, 1) := by decide +kernel
theorem dX1_tell_37 : decode cX1_tell 37 = .ok (.aload_n 0, 1) := by decide +kernel
theorem dX1_tell_38 : decode cX1_tell 38 = .ok (.getfield 15, 3) := by decide +kernel
theorem dX1_tell_41 : decode cX1_tell 41 = .ok (.ireturn, 1) := by decide +kernel
theorem dX1_tell_42 : decode cX1_tell 42 = .ok (.aload_n 0, 1) := by decide +kernel
theorem dX1_tell_43 : decode cX1_tell 43 = .ok (.getfield 18, 3) := by decide +kernel
theorem dX1_tell_46 : decode cX1_tell 46 = .ok (.ireturn, 1) := by decide +kernel
theorem dX1_tell_47 : decode cX1_tell 47 = .ok (.aload_n 0, 1) := by decide +kernel
theorem dX1_tell_48 : decode cX1_tell 48 = .ok (.getfield 42, 3) := by decide +kernel
theorem dX1_tell_51 : decode cX1_tell 51 = .ok (.ireturn, 1) := by decide +kernel
theorem dX1_tell_52 : decode cX1_tell 52 = .ok (.aload_n 0, 1) := by decide +kernel
theorem dX1_tell_53 : decode cX1_tell 53 = .ok (.getfield 35, 3) := by decide +kernel
theorem dX1_tell_56 : decode cX1_tell 56 = .ok (.ireturn, 1) := by decide +kernel
set_option maxRecDepth 20000 in
theorem ggX2_init_X5_init : GoodIn wsX2_init wsX5_init := goodIn_r _ [4, 5, 6, 7] (by decide +kernel) (by decide +kernel)
set_option maxRecDepth 20000 in
theorem gX2_init_X5_init_n3 : GoodIn wsX2_init (wsX5_init) := ggX2_init_X5_init
theorem dX2_init_0 : decode cX2_init 0 = .ok (.aload_n 0, 1) := by decide +kernel
theorem dX2_init_1 : decode cX2_init 1 = .ok (.invokespecial 3, 3) := by decide +kernel
theorem dX2_init_4 : decode cX2_init 4 = .ok (.aload_n 0, 1) := by decide +kernel
theorem dX2_init_5 : decode cX2_init 5 = .ok (.iconst (-1), 1) := by decide +kernel
theorem dX2_init_6 : decode cX2_init 6 = .ok (.putfield 9, 3) := by decide +kernel
theorem dX2_init_9 : decode cX2_init 9 = .ok (.return_, 1) := by decide +kernel
theorem dX2_install_0 : decode cX2_install 0 = .ok (.aload_n 0, 1) := by decide +kernel
theorem dX2_install_1 : decode cX2_install 1 = .ok (.iload_n 1, 1) := by decide +kernel
theorem dX2_install_2 : decode cX2_install 2 = .ok (.putfield 15, 3) := by decide +kernel
theorem dX2_install_5 : decode cX2_install 5 = .ok (.aload_n 0, 1) := by decide +kernel
theorem dX2_install_6 : decode cX2_install 6 = .ok (.iload_n 2, 1) := by decide +kernel
theorem dX2_install_7 : decode cX2_install 7 = .ok (.putfield 18, 3) := by decide +kernel
theorem dX2_install_10 : decode cX2_install 10 = .ok (.return_, 1) := by decide +kernel
theorem dX2_fill_0 : decode cX2_fill 0 = .ok (.aload_n 0, 1) := by decide +kernel
theorem dX2_fill_1 : decode cX2_fill 1 = .ok (.iload_n 1, 1) := by decide +kernel
theorem dX2_fill_2 : decode cX2_fill 2 = .ok (.putfield 9, 3) := by decide +kernel
theorem dX2_fill_5 : decode cX2_fill 5 = .ok (.aload_n 0, 1) := by decide +kernel
theorem dX2_fill_6 : decode cX2_fill 6 = .ok (.iload_n 2, 1) := by decide +kernel
theorem dX2_fill_7 : decode cX2_fill 7 = .ok (.putfield 21, 3) := by decide +kernel
theorem dX2_fill_10 : decode cX2_fill 10 = .ok (.aload_n 0, 1) := by decide +kernel
theorem dX2_fill_11 : decode cX2_fill 11 = .ok (.iconst 0, 1) := by decide +kernel
theorem dX2_fill_12 : decode cX2_fill 12 = .ok (.putfield 24, 3) := by decide +kernel
theorem dX2_fill_15 : decode cX2_fill 15 = .ok (.return_, 1) := by decide +kernel
set_option maxRecDepth 20000 in
theorem ggX2_warm_X2_levelAfter : GoodIn wsX2_warm wsX2_levelAfter := goodIn_r _ [6, 7, 8, 9, 10, 11, 12, 13, 14, 15, 5, 16, 17, 18, 19, 20, 21] (by decide +kernel) (by decide +kernel)
set_option maxRecDepth 20000 in
theorem gX2_warm_X2_levelAfter : GoodIn wsX2_warm (wsV RX2 27 RX2 yX2_levelAfter wsX2_levelAfter) := goodIn_app (goodIn_of _ (by decide +kernel)) ggX2_warm_X2_levelAfter
theorem dX2_warm_0 : decode cX2_warm 0 = .ok (.aload_n 0, 1) := by decide +kernel
theorem dX2_warm_1 : decode cX2_warm 1 = .ok (.aload_n 0, 1) := by decide +kernel
theorem dX2_warm_2 : decode cX2_warm 2 = .ok (.aload_n 0, 1) := by decide +kernel
theorem dX2_warm_3 : decode cX2_warm 3 = .ok (.getfield 24, 3) := by decide +kernel
theorem dX2_warm_6 : decode cX2_warm 6 = .ok (.invokevirtual 27, 3) := by decide +kernel
theorem dX2_warm_9 : decode cX2_warm 9 = .ok (.putfield 24, 3) := by decide +kernel
theorem dX2_warm_12 : decode cX2_warm 12 = .ok (.return_, 1) := by decide +kernel
set_option maxRecDepth 20000 in
theorem ggX2_levelAfter_X2_burnt : GoodIn wsX2_levelAfter wsX2_burnt := goodIn_r _ [11, 1, 12, 13, 14, 15, 16] (by decide +kernel) (by decide +kernel)
set_option maxRecDepth 20000 in
theorem gX2_levelAfter_X2_burnt : GoodIn wsX2_levelAfter (wsV RX2 31 RX2 yX2_burnt wsX2_burnt) := goodIn_app (goodIn_of _ (by decide +kernel)) ggX2_levelAfter_X2_burnt
theorem dX2_levelAfter_0 : decode cX2_levelAfter 0 = .ok (.aload_n 0, 1) := by decide +kernel
theorem dX2_levelAfter_1 : decode cX2_levelAfter 1 = .ok (.getfield 9, 3) := by decide +kernel
theorem dX2_levelAfter_4 : decode cX2_levelAfter 4 = .ok (.iconst (-1), 1) := by decide +kernel
theorem dX2_levelAfter_5 : decode cX2_levelAfter 5 = .ok (.if_icmp .ne 5, 3) := by decide +kernel
theorem dX2_levelAfter_8 : decode cX2_levelAfter 8 = .ok (.iconst 0, 1) := by decide +kernel
theorem dX2_levelAfter_9 : decode cX2_levelAfter 9 = .ok (.ireturn, 1) := by decide +kernel
theorem dX2_levelAfter_10 : decode cX2_levelAfter 10 = .ok (.iload_n 1, 1) := by decide +kernel
theorem dX2_levelAfter_11 : decode cX2_levelAfter 11 = .ok (.aload_n 0, 1) := by decide +kernel
theorem dX2_levelAfter_12 : decode cX2_levelAfter 12 = .ok (.getfield 18, 3) := by decide +kernel
theorem dX2_levelAfter_15 : decode cX2_levelAfter 15 = .ok (.iadd, 1) := by decide +kernel
theorem dX2_levelAfter_16 : decode cX2_levelAfter 16 = .ok (.aload_n 0, 1) := by decide +kernel
theorem dX2_levelAfter_17 : decode cX2_levelAfter 17 = .ok (.invokevirtual 31, 3) := by decide +kernel
theorem dX2_levelAfter_20 : decode cX2_levelAfter 20 = .ok (.invokestatic 35, 3) := by decide +kernel
theorem dX2_levelAfter_23 : decode cX2_levelAfter 23 = .ok (.ireturn, 1) := by decide +kernel
set_option maxRecDepth 20000 in
theorem ggX2_partsAt_X2_done : GoodIn wsX2_partsAt wsX2_done := goodIn_r _ [7, 1, 12, 13, 14, 15, 16] (by decide +kernel) (by decide +kernel)
set_option maxRecDepth 20000 in
theorem gX2_partsAt_X2_done : GoodIn wsX2_partsAt (wsV RX2 41 RX2 yX2_done wsX2_done) := goodIn_app (goodIn_of _ (by decide +kernel)) ggX2_partsAt_X2_done
set_option maxRecDepth 20000 in
theorem ggX2_partsAt_X2_burnt : GoodIn wsX2_partsAt wsX2_burnt := goodIn_r _ [11, 1, 12, 13, 14, 15, 16] (by decide +kernel) (by decide +kernel)
set_option maxRecDepth 20000 in
theorem gX2_partsAt_X2_burnt : GoodIn wsX2_partsAt (wsV RX2 31 RX2 yX2_burnt wsX2_burnt) := goodIn_app (goodIn_of _ (by decide +kernel)) ggX2_partsAt_X2_burnt
theorem dX2_partsAt_0 : decode cX2_partsAt 0 = .ok (.aload_n 0, 1) := by decide +kernel
theorem dX2_partsAt_1 : decode cX2_partsAt 1 = .ok (.getfield 9, 3) := by decide +kernel
theorem dX2_partsAt_4 : decode cX2_partsAt 4 = .ok (.iconst (-1), 1) := by decide +kernel
theorem dX2_partsAt_5 : decode cX2_partsAt 5 = .ok (.if_icmp .eq 19, 3) := by decide +kernel
theorem dX2_partsAt_8 : decode cX2_partsAt 8 = .ok (.iload_n 1, 1) := by decide +kernel
theorem dX2_partsAt_9 : decode cX2_partsAt 9 = .ok (.aload_n 0, 1) := by decide +kernel
theorem dX2_partsAt_10 : decode cX2_partsAt 10 = .ok (.invokevirtual 41, 3) := by decide +kernel
theorem dX2_partsAt_13 : decode cX2_partsAt 13 = .ok (.if_icmp .lt 11, 3) := by decide +kernel
theorem dX2_partsAt_16 : decode cX2_partsAt 16 = .ok (.iload_n 1, 1) := by decide +kernel
theorem dX2_partsAt_17 : decode cX2_partsAt 17 = .ok (.aload_n 0, 1) := by decide +kernel
theorem dX2_partsAt_18 : decode cX2_partsAt 18 = .ok (.invokevirtual 31, 3) := by decide +kernel
theorem dX2_partsAt_21 : decode cX2_partsAt 21 = .ok (.if_icmp .lt 5, 3) := by decide +kernel
theorem dX2_partsAt_24 : decode cX2_partsAt 24 = .ok (.iconst 0, 1) := by decide +kernel
theorem dX2_partsAt_25 : decode cX2_partsAt 25 = .ok (.ireturn, 1) := by decide +kernel
theorem dX2_partsAt_26 : decode cX2_partsAt 26 = .ok (.aload_n 0, 1) := by decide +kernel
theorem dX2_partsAt_27 : decode cX2_partsAt 27 = .ok (.getfield 9, 3) := by decide +kernel
theorem dX2_partsAt_30 : decode cX2_partsAt 30 = .ok (.ifCond .ne 8, 3) := by decide +kernel
theorem dX2_partsAt_33 : decode cX2_partsAt 33 = .ok (.bipush 6, 2) := by decide +kernel
theorem dX2_partsAt_35 : decode cX2_partsAt 35 = .ok (.goto 5, 3) := by decide +kernel
theorem dX2_partsAt_38 : decode cX2_partsAt 38 = .ok (.bipush 8, 2) := by decide +kernel
theorem dX2_partsAt_40 : decode cX2_partsAt 40 = .ok (.istore_n 2, 1) := by decide +kernel
theorem dX2_partsAt_41 : decode cX2_partsAt 41 = .ok (.aload_n 0, 1) := by decide +kernel
theorem dX2_partsAt_42 : decode cX2_partsAt 42 = .ok (.getfield 21, 3) := by decide +kernel
theorem dX2_partsAt_45 : decode cX2_partsAt 45 = .ok (.iload_n 2, 1) := by decide +kernel
theorem dX2_partsAt_46 : decode cX2_partsAt 46 = .ok (.imul, 1) := by decide +kernel
theorem dX2_partsAt_47 : decode cX2_partsAt 47 = .ok (.aload_n 0, 1) := by decide +kernel
theorem dX2_partsAt_48 : decode cX2_partsAt 48 = .ok (.invokevirtual 31, 3) := by decide +kernel
theorem dX2_partsAt_51 : decode cX2_partsAt 51 = .ok (.iload_n 1, 1) := by decide +kernel
theorem dX2_partsAt_52 : decode cX2_partsAt 52 = .ok (.isub, 1) := by decide +kernel
theorem dX2_partsAt_53 : decode cX2_partsAt 53 = .ok (.imul, 1) := by decide +kernel
theorem dX2_partsAt_54 : decode cX2_partsAt 54 = .ok (.aload_n 0, 1) := by decide +kernel
theorem dX2_partsAt_55 : decode cX2_partsAt 55 = .ok (.invokevirtual 31, 3) := by decide +kernel
theorem dX2_partsAt_58 : decode cX2_partsAt 58 = .ok (.aload_n 0, 1) := by decide +kernel
theorem dX2_partsAt_59 : decode cX2_partsAt 59 = .ok (.invokevirtual 41, 3) := by decide +kernel
theorem dX2_partsAt_62 : decode cX2_partsAt 62 = .ok (.isub, 1) := by decide +kernel
theorem dX2_partsAt_63 : decode cX2_partsAt 63 = .ok (.idiv, 1) := by decide +kernel
theorem dX2_partsAt_64 : decode cX2_partsAt 64 = .ok (.ireturn, 1) := by decide +kernel
theorem dX2_done_0 : decode cX2_done 0 = .ok (.aload_n 0, 1) := by decide +kernel
theorem dX2_done_1 : decode cX2_done 1 = .ok (.getfield 9, 3) := by decide +kernel
theorem dX2_done_4 : decode cX2_done 4 = .ok (.ifCond .ne 8, 3) := by decide +kernel
theorem dX2_done_7 : decode cX2_done 7 = .ok (.bipush 12, 2) := by decide +kernel
theorem dX2_done_9 : decode cX2_done 9 = .ok (.goto 5, 3) := by decide +kernel
theorem dX2_done_12 : decode cX2_done 12 = .ok (.bipush 8, 2) := by decide +kernel
theorem dX2_done_14 : decode cX2_done 14 = .ok (.ireturn, 1) := by decide +kernel
theorem dX2_burnt_0 : decode cX2_burnt 0 = .ok (.aload_n 0, 1) := by decide +kernel
theorem dX2_burnt_1 : decode cX2_burnt 1 = .ok (.getfield 9, 3) := by decide +kernel
theorem dX2_burnt_4 : decode cX2_burnt 4 = .ok (.ifCond .ne 8, 3) := by decide +kernel
theorem dX2_burnt_7 : decode cX2_burnt 7 = .ok (.bipush 24, 2) := by decide +kernel
theorem dX2_burnt_9 : decode cX2_burnt 9 = .ok (.goto 5, 3) := by decide +kernel
theorem dX2_burnt_12 : decode cX2_burnt 12 = .ok (.bipush 15, 2) := by decide +kernel
theorem dX2_burnt_14 : decode cX2_burnt 14 = .ok (.ireturn, 1) := by decide +kernel
theorem dX2_size_0 : decode cX2_size 0 = .ok (.bipush 6, 2) := by decide +kernel
theorem dX2_size_2 : decode cX2_size 2 = .ok (.ireturn, 1) := by decide +kernel
set_option maxRecDepth 20000 in
theorem ggX2_tell_X2_partsAt : GoodIn wsX2_tell wsX2_partsAt := goodIn_r _ [10, 3, 4, 11, 12, 13, 9, 14, 15, 16, 17, 18, 19, 20, 21, 22, 23] (by decide +kernel) (by decide +kernel)
set_option maxRecDepth 20000 in
theorem gX2_tell_X2_partsAt : GoodIn wsX2_tell (wsV RX2 44 RX2 yX2_partsAt wsX2_partsAt) := goodIn_app (goodIn_of _ (by decide +kernel)) ggX2_tell_X2_partsAt
theorem dX2_tell_0 : decode cX2_tell 0 = .ok (.iload_n 1, 1) := by decide +kernel
theorem dX2_tell_1 : decode cX2_tell 1 = .ok (.tableswitch 60 0 4 #[35, 40, 45, 50, 55], 35) := by decide +kernel
theorem dX2_tell_36 : decode cX2_tell 36 = .ok (.aload_n 0, 1) := by decide +kernel
theorem dX2_tell_37 : decode cX2_tell 37 = .ok (.getfield 15, 3) := by decide +kernel
theorem dX2_tell_40 : decode cX2_tell 40 = .ok (.ireturn, 1) := by decide +kernel
theorem dX2_tell_41 : decode cX2_tell 41 = .ok (.aload_n 0, 1) := by decide +kernel
theorem dX2_tell_42 : decode cX2_tell 42 = .ok (.getfield 18, 3) := by decide +kernel
theorem dX2_tell_45 : decode cX2_tell 45 = .ok (.ireturn, 1) := by decide +kernel
theorem dX2_tell_46 : decode cX2_tell 46 = .ok (.aload_n 0, 1) := by decide +kernel
theorem dX2_tell_47 : decode cX2_tell 47 = .ok (.getfield 9, 3) := by decide +kernel
theorem dX2_tell_50 : decode cX2_tell 50 = .ok (.ireturn, 1) := by decide +kernel
theorem dX2_tell_51 : decode cX2_tell 51 = .ok (.aload_n 0, 1) := by decide +kernel
theorem dX2_tell_52 : decode cX2_tell 52 = .ok (.getfield 21, 3) := by decide +kernel
theorem dX2_tell_55 : decode cX2_tell 55 = .ok (.ireturn, 1) := by decide +kernel
theorem dX2_tell_56 : decode cX2_tell 56 = .ok (.aload_n 0, 1) := by decide +kernel
theorem dX2_tell_57 : decode cX2_tell 57 = .ok (.getfield 24, 3) := by decide +kernel
theorem dX2_tell_60 : decode cX2_tell 60 = .ok (.ireturn, 1) := by decide +kernel
theorem dX2_tell_61 : decode cX2_tell 61 = .ok (.aload_n 0, 1) := by decide +kernel
theorem dX2_tell_62 : decode cX2_tell 62 = .ok (.aload_n 0, 1) := by decide +kernel
theorem dX2_tell_63 : decode cX2_tell 63 = .ok (.getfield 24, 3) := by decide +kernel
theorem dX2_tell_66 : decode cX2_tell 66 = .ok (.invokevirtual 44, 3) := by decide +kernel
theorem dX2_tell_69 : decode cX2_tell 69 = .ok (.ireturn, 1) := by decide +kernel
set_option maxRecDepth 20000 in
theorem ggX3_init_X5_init : GoodIn wsX3_init wsX5_init := goodIn_r _ [3, 4, 5, 6] (by decide +kernel) (by decide +kernel)
set_option maxRecDepth 20000 in
theorem gX3_init_X5_init_n3 : GoodIn wsX3_init (wsX5_init) := ggX3_init_X5_init
theorem dX3_init_0 : decode cX3_init 0 = .ok (.aload_n 0, 1) := by decide +kernel
theorem dX3_init_1 : decode cX3_init 1 = .ok (.invokespecial 3, 3) := by decide +kernel
theorem dX3_init_4 : decode cX3_init 4 = .ok (.return_, 1) := by decide +kernel
theorem dX3_hire_0 : decode cX3_hire 0 = .ok (.aload_n 0, 1) := by decide +kernel
theorem dX3_hire_1 : decode cX3_hire 1 = .ok (.iload_n 1, 1) := by decide +kernel
theorem dX3_hire_2 : decode cX3_hire 2 = .ok (.putfield 9, 3) := by decide +kernel
theorem dX3_hire_5 : decode cX3_hire 5 = .ok (.aload_n 0, 1) := by decide +kernel
theorem dX3_hire_6 : decode cX3_hire 6 = .ok (.iload_n 2, 1) := by decide +kernel
theorem dX3_hire_7 : decode cX3_hire 7 = .ok (.putfield 15, 3) := by decide +kernel
theorem dX3_hire_10 : decode cX3_hire 10 = .ok (.return_, 1) := by decide +kernel
theorem dX3_setOut_0 : decode cX3_setOut 0 = .ok (.aload_n 0, 1) := by decide +kernel
theorem dX3_setOut_1 : decode cX3_setOut 1 = .ok (.iconst 1, 1) := by decide +kernel
theorem dX3_setOut_2 : decode cX3_setOut 2 = .ok (.putfield 18, 3) := by decide +kernel
theorem dX3_setOut_5 : decode cX3_setOut 5 = .ok (.aload_n 0, 1) := by decide +kernel
theorem dX3_setOut_6 : decode cX3_setOut 6 = .ok (.aload_n 0, 1) := by decide +kernel
theorem dX3_setOut_7 : decode cX3_setOut 7 = .ok (.getfield 9, 3) := by decide +kernel
theorem dX3_setOut_10 : decode cX3_setOut 10 = .ok (.putfield 21, 3) := by decide +kernel
theorem dX3_setOut_13 : decode cX3_setOut 13 = .ok (.return_, 1) := by decide +kernel
set_option maxRecDepth 20000 in
theorem ggX3_travel_X3_comeHome : GoodIn wsX3_travel wsX3_comeHome := goodIn_r _ [9, 1, 10, 11, 12, 13, 14, 15] (by decide +kernel) (by decide +kernel)
set_option maxRecDepth 20000 in
theorem gX3_travel_X3_comeHome : GoodIn wsX3_travel (wsV RX3 27 RX3 yX3_comeHome wsX3_comeHome) := goodIn_app (goodIn_of _ (by decide +kernel)) ggX3_travel_X3_comeHome
theorem dX3_travel_0 : decode cX3_travel 0 = .ok (.aload_n 0, 1) := by decide +kernel
theorem dX3_travel_1 : decode cX3_travel 1 = .ok (.getfield 18, 3) := by decide +kernel
theorem dX3_travel_4 : decode cX3_travel 4 = .ok (.ifCond .ne 5, 3) := by decide +kernel
theorem dX3_travel_7 : decode cX3_travel 7 = .ok (.iconst 0, 1) := by decide +kernel
theorem dX3_travel_8 : decode cX3_travel 8 = .ok (.ireturn, 1) := by decide +kernel
theorem dX3_travel_9 : decode cX3_travel 9 = .ok (.aload_n 0, 1) := by decide +kernel
theorem dX3_travel_10 : decode cX3_travel 10 = .ok (.dup, 1) := by decide +kernel
theorem dX3_travel_11 : decode cX3_travel 11 = .ok (.getfield 21, 3) := by decide +kernel
theorem dX3_travel_14 : decode cX3_travel 14 = .ok (.iconst 1, 1) := by decide +kernel
theorem dX3_travel_15 : decode cX3_travel 15 = .ok (.isub, 1) := by decide +kernel
theorem dX3_travel_16 : decode cX3_travel 16 = .ok (.putfield 21, 3) := by decide +kernel
theorem dX3_travel_19 : decode cX3_travel 19 = .ok (.aload_n 0, 1) := by decide +kernel
theorem dX3_travel_20 : decode cX3_travel 20 = .ok (.getfield 18, 3) := by decide +kernel
theorem dX3_travel_23 : decode cX3_travel 23 = .ok (.iconst 1, 1) := by decide +kernel
theorem dX3_travel_24 : decode cX3_travel 24 = .ok (.if_icmp .ne 41, 3) := by decide +kernel
theorem dX3_travel_27 : decode cX3_travel 27 = .ok (.aload_n 0, 1) := by decide +kernel
theorem dX3_travel_28 : decode cX3_travel 28 = .ok (.getfield 21, 3) := by decide +kernel
theorem dX3_travel_31 : decode cX3_travel 31 = .ok (.aload_n 0, 1) := by decide +kernel
theorem dX3_travel_32 : decode cX3_travel 32 = .ok (.getfield 9, 3) := by decide +kernel
theorem dX3_travel_35 : decode cX3_travel 35 = .ok (.iconst 2, 1) := by decide +kernel
theorem dX3_travel_36 : decode cX3_travel 36 = .ok (.idiv, 1) := by decide +kernel
theorem dX3_travel_37 : decode cX3_travel 37 = .ok (.if_icmp .ne 28, 3) := by decide +kernel
theorem dX3_travel_40 : decode cX3_travel 40 = .ok (.iload_n 1, 1) := by decide +kernel
theorem dX3_travel_41 : decode cX3_travel 41 = .ok (.ifCond .eq 24, 3) := by decide +kernel
theorem dX3_travel_44 : decode cX3_travel 44 = .ok (.aload_n 0, 1) := by decide +kernel
theorem dX3_travel_45 : decode cX3_travel 45 = .ok (.iconst 2, 1) := by decide +kernel
theorem dX3_travel_46 : decode cX3_travel 46 = .ok (.putfield 18, 3) := by decide +kernel
theorem dX3_travel_49 : decode cX3_travel 49 = .ok (.aload_n 0, 1) := by decide +kernel
theorem dX3_travel_50 : decode cX3_travel 50 = .ok (.bipush 10, 2) := by decide +kernel
theorem dX3_travel_52 : decode cX3_travel 52 = .ok (.putfield 21, 3) := by decide +kernel
theorem dX3_travel_55 : decode cX3_travel 55 = .ok (.aload_n 0, 1) := by decide +kernel
theorem dX3_travel_56 : decode cX3_travel 56 = .ok (.dup, 1) := by decide +kernel
theorem dX3_travel_57 : decode cX3_travel 57 = .ok (.getfield 24, 3) := by decide +kernel
theorem dX3_travel_60 : decode cX3_travel 60 = .ok (.iconst 1, 1) := by decide +kernel
theorem dX3_travel_61 : decode cX3_travel 61 = .ok (.iadd, 1) := by decide +kernel
theorem dX3_travel_62 : decode cX3_travel 62 = .ok (.putfield 24, 3) := by decide +kernel
theorem dX3_travel_65 : decode cX3_travel 65 = .ok (.aload_n 0, 1) := by decide +kernel
theorem dX3_travel_66 : decode cX3_travel 66 = .ok (.getfield 21, 3) := by decide +kernel
theorem dX3_travel_69 : decode cX3_travel 69 = .ok (.ifCond .le 7, 3) := by decide +kernel
theorem dX3_travel_72 : decode cX3_travel 72 = .ok (.iconst 0, 1) := by decide +kernel
theorem dX3_travel_73 : decode cX3_travel 73 = .ok (.goto 7, 3) := by decide +kernel
theorem dX3_travel_76 : decode cX3_travel 76 = .ok (.aload_n 0, 1) := by decide +kernel
theorem dX3_travel_77 : decode cX3_travel 77 = .ok (.invokevirtual 27, 3) := by decide +kernel
theorem dX3_travel_80 : decode cX3_travel 80 = .ok (.ireturn, 1) := by decide +kernel
theorem dX3_comeHome_0 : decode cX3_comeHome 0 = .ok (.aload_n 0, 1) := by decide +kernel
theorem dX3_comeHome_1 : decode cX3_comeHome 1 = .ok (.getfield 18, 3) := by decide +kernel
theorem dX3_comeHome_4 : decode cX3_comeHome 4 = .ok (.iconst 1, 1) := by decide +kernel
theorem dX3_comeHome_5 : decode cX3_comeHome 5 = .ok (.if_icmp .ne 10, 3) := by decide +kernel
theorem dX3_comeHome_8 : decode cX3_comeHome 8 = .ok (.aload_n 0, 1) := by decide +kernel
theorem dX3_comeHome_9 : decode cX3_comeHome 9 = .ok (.getfield 15, 3) := by decide +kernel
theorem dX3_comeHome_12 : decode cX3_comeHome 12 = .ok (.goto 4, 3) := by decide +kernel
theorem dX3_comeHome_15 : decode cX3_comeHome 15 = .ok (.iconst 0, 1) := by decide +kernel
theorem dX3_comeHome_16 : decode cX3_comeHome 16 = .ok (.istore_n 1, 1) := by decide +kernel
theorem dX3_comeHome_17 : decode cX3_comeHome 17 = .ok (.aload_n 0, 1) := by decide +kernel
theorem dX3_comeHome_18 : decode cX3_comeHome 18 = .ok (.iconst 0, 1) := by decide +kernel
theorem dX3_comeHome_19 : decode cX3_comeHome 19 = .ok (.putfield 18, 3) := by decide +kernel
theorem dX3_comeHome_22 : decode cX3_comeHome 22 = .ok (.iload_n 1, 1) := by decide +kernel
theorem dX3_comeHome_23 : decode cX3_comeHome 23 = .ok (.ireturn, 1) := by decide +kernel
theorem dX3_size_0 : decode cX3_size 0 = .ok (.iconst 5, 1) := by decide +kernel
theorem dX3_size_1 : decode cX3_size 1 = .ok (.ireturn, 1) := by decide +kernel
theorem dX3_tell_0 : decode cX3_tell 0 = .ok (.iload_n 1, 1) := by decide +kernel
theorem dX3_tell_1 : decode cX3_tell 1 = .ok (.tableswitch 51 0 3 #[31, 36, 41, 46], 31) := by decide +kernel
theorem dX3_tell_32 : decode cX3_tell 32 = .ok (.aload_n 0, 1) := by decide +kernel
theorem dX3_tell_33 : decode cX3_tell 33 = .ok (.getfield 9, 3) := by decide +kernel
theorem dX3_tell_36 : decode cX3_tell 36 = .ok (.ireturn, 1) := by decide +kernel
theorem dX3_tell_37 : decode cX3_tell 37 = .ok (.aload_n 0, 1) := by decide +kernel
theorem dX3_tell_38 : decode cX3_tell 38 = .ok (.getfield 15, 3) := by decide +kernel
theorem dX3_tell_41 : decode cX3_tell 41 = .ok (.ireturn, 1) := by decide +kernel
theorem dX3_tell_42 : decode cX3_tell 42 = .ok (.aload_n 0, 1) := by decide +kernel
theorem dX3_tell_43 : decode cX3_tell 43 = .ok (.getfield 18, 3) := by decide +kernel
theorem dX3_tell_46 : decode cX3_tell 46 = .ok (.ireturn, 1) := by decide +kernel
theorem dX3_tell_47 : decode cX3_tell 47 = .ok (.aload_n 0, 1) := by decide +kernel
theorem dX3_tell_48 : decode cX3_tell 48 = .ok (.getfield 21, 3) := by decide +kernel
theorem dX3_tell_51 : decode cX3_tell 51 = .ok (.ireturn, 1) := by decide +kernel
theorem dX3_tell_52 : decode cX3_tell 52 = .ok (.aload_n 0, 1) := by decide +kernel
theorem dX3_tell_53 : decode cX3_tell 53 = .ok (.getfield 24, 3) := by decide +kernel
theorem dX3_tell_56 : decode cX3_tell 56 = .ok (.ireturn, 1) := by decide +kernel
theorem dX4_init_0 : decode cX4_init 0 = .ok (.aload_n 0, 1) := by decide +kernel
theorem dX4_init_1 : decode cX4_init 1 = .ok (.invokespecial 3, 3) := by decide +kernel
theorem dX4_init_4 : decode cX4_init 4 = .ok (.aload_n 0, 1) := by decide +kernel
theorem dX4_init_5 : decode cX4_init 5 = .ok (.iconst 5, 1) := by decide +kernel
theorem dX4_init_6 : decode cX4_init 6 = .ok (.putfield 9, 3) := by decide +kernel
theorem dX4_init_9 : decode cX4_init 9 = .ok (.return_, 1) := by decide +kernel
theorem dX4_stock_0 : decode cX4_stock 0 = .ok (.iload_n 1, 1) := by decide +kernel
theorem dX4_stock_1 : decode cX4_stock 1 = .ok (.ifCond .ne 10, 3) := by decide +kernel
theorem dX4_stock_4 : decode cX4_stock 4 = .ok (.aload_n 0, 1) := by decide +kernel
theorem dX4_stock_5 : decode cX4_stock 5 = .ok (.getfield 15, 3) := by decide +kernel
theorem dX4_stock_8 : decode cX4_stock 8 = .ok (.goto 7, 3) := by decide +kernel
theorem dX4_stock_11 : decode cX4_stock 11 = .ok (.aload_n 0, 1) := by decide +kernel
theorem dX4_stock_12 : decode cX4_stock 12 = .ok (.getfield 18, 3) := by decide +kernel
theorem dX4_stock_15 : decode cX4_stock 15 = .ok (.ireturn, 1) := by decide +kernel
theorem dX4_add_0 : decode cX4_add 0 = .ok (.iload_n 1, 1) := by decide +kernel
theorem dX4_add_1 : decode cX4_add 1 = .ok (.ifCond .ne 16, 3) := by decide +kernel
theorem dX4_add_4 : decode cX4_add 4 = .ok (.aload_n 0, 1) := by decide +kernel
theorem dX4_add_5 : decode cX4_add 5 = .ok (.dup, 1) := by decide +kernel
theorem dX4_add_6 : decode cX4_add 6 = .ok (.getfield 15, 3) := by decide +kernel
theorem dX4_add_9 : decode cX4_add 9 = .ok (.iload_n 2, 1) := by decide +kernel
theorem dX4_add_10 : decode cX4_add 10 = .ok (.iadd, 1) := by decide +kernel
theorem dX4_add_11 : decode cX4_add 11 = .ok (.putfield 15, 3) := by decide +kernel
theorem dX4_add_14 : decode cX4_add 14 = .ok (.goto 13, 3) := by decide +kernel
theorem dX4_add_17 : decode cX4_add 17 = .ok (.aload_n 0, 1) := by decide +kernel
theorem dX4_add_18 : decode cX4_add 18 = .ok (.dup, 1) := by decide +kernel
theorem dX4_add_19 : decode cX4_add 19 = .ok (.getfield 18, 3) := by decide +kernel
theorem dX4_add_22 : decode cX4_add 22 = .ok (.iload_n 2, 1) := by decide +kernel
theorem dX4_add_23 : decode cX4_add 23 = .ok (.iadd, 1) := by decide +kernel
theorem dX4_add_24 : decode cX4_add 24 = .ok (.putfield 18, 3) := by decide +kernel
theorem dX4_add_27 : decode cX4_add 27 = .ok (.return_, 1) := by decide +kernel
theorem dX4_addRoasted_0 : decode cX4_addRoasted 0 = .ok (.iload_n 1, 1) := by decide +kernel
theorem dX4_addRoasted_1 : decode cX4_addRoasted 1 = .ok (.ifCond .ne 16, 3) := by decide +kernel
theorem dX4_addRoasted_4 : decode cX4_addRoasted 4 = .ok (.aload_n 0, 1) := by decide +kernel
theorem dX4_addRoasted_5 : decode cX4_addRoasted 5 = .ok (.dup, 1) := by decide +kernel
theorem dX4_addRoasted_6 : decode cX4_addRoasted 6 = .ok (.getfield 21, 3) := by decide +kernel
theorem dX4_addRoasted_9 : decode cX4_addRoasted 9 = .ok (.iload_n 2, 1) := by decide +kernel
theorem dX4_addRoasted_10 : decode cX4_addRoasted 10 = .ok (.iadd, 1) := by decide +kernel
theorem dX4_addRoasted_11 : decode cX4_addRoasted 11 = .ok (.putfield 21, 3) := by decide +kernel
theorem dX4_addRoasted_14 : decode cX4_addRoasted 14 = .ok (.goto 13, 3) := by decide +kernel
theorem dX4_addRoasted_17 : decode cX4_addRoasted 17 = .ok (.aload_n 0, 1) := by decide +kernel
theorem dX4_addRoasted_18 : decode cX4_addRoasted 18 = .ok (.dup, 1) := by decide +kernel
theorem dX4_addRoasted_19 : decode cX4_addRoasted 19 = .ok (.getfield 24, 3) := by decide +kernel
theorem dX4_addRoasted_22 : decode cX4_addRoasted 22 = .ok (.iload_n 2, 1) := by decide +kernel
theorem dX4_addRoasted_23 : decode cX4_addRoasted 23 = .ok (.iadd, 1) := by decide +kernel
theorem dX4_addRoasted_24 : decode cX4_addRoasted 24 = .ok (.putfield 24, 3) := by decide +kernel
theorem dX4_addRoasted_27 : decode cX4_addRoasted 27 = .ok (.return_, 1) := by decide +kernel
theorem dX4_coffeeOfPortion_0 : decode cX4_coffeeOfPortion 0 = .ok (.aload_n 0, 1) := by decide +kernel
theorem dX4_coffeeOfPortion_1 : decode cX4_coffeeOfPortion 1 = .ok (.getfield 9, 3) := by decide +kernel
theorem dX4_coffeeOfPortion_4 : decode cX4_coffeeOfPortion 4 = .ok (.aload_n 0, 1) := by decide +kernel
theorem dX4_coffeeOfPortion_5 : decode cX4_coffeeOfPortion 5 = .ok (.getfield 24, 3) := by decide +kernel
theorem dX4_coffeeOfPortion_8 : decode cX4_coffeeOfPortion 8 = .ok (.invokestatic 27, 3) := by decide +kernel
theorem dX4_coffeeOfPortion_11 : decode cX4_coffeeOfPortion 11 = .ok (.ireturn, 1) := by decide +kernel
theorem dX4_canMix_0 : decode cX4_canMix 0 = .ok (.aload_n 0, 1) := by decide +kernel
theorem dX4_canMix_1 : decode cX4_canMix 1 = .ok (.getfield 21, 3) := by decide +kernel
theorem dX4_canMix_4 : decode cX4_canMix 4 = .ok (.bipush 10, 2) := by decide +kernel
theorem dX4_canMix_6 : decode cX4_canMix 6 = .ok (.iload_n 1, 1) := by decide +kernel
theorem dX4_canMix_7 : decode cX4_canMix 7 = .ok (.isub, 1) := by decide +kernel
theorem dX4_canMix_8 : decode cX4_canMix 8 = .ok (.if_icmp .lt 7, 3) := by decide +kernel
theorem dX4_canMix_11 : decode cX4_canMix 11 = .ok (.iconst 1, 1) := by decide +kernel
theorem dX4_canMix_12 : decode cX4_canMix 12 = .ok (.goto 4, 3) := by decide +kernel
theorem dX4_canMix_15 : decode cX4_canMix 15 = .ok (.iconst 0, 1) := by decide +kernel
theorem dX4_canMix_16 : decode cX4_canMix 16 = .ok (.ireturn, 1) := by decide +kernel
theorem dX4_servePortion_0 : decode cX4_servePortion 0 = .ok (.iload_n 1, 1) := by decide +kernel
theorem dX4_servePortion_1 : decode cX4_servePortion 1 = .ok (.aload_n 0, 1) := by decide +kernel
theorem dX4_servePortion_2 : decode cX4_servePortion 2 = .ok (.getfield 9, 3) := by decide +kernel
theorem dX4_servePortion_5 : decode cX4_servePortion 5 = .ok (.if_icmp .ge 13, 3) := by decide +kernel
theorem dX4_servePortion_8 : decode cX4_servePortion 8 = .ok (.aload_n 0, 1) := by decide +kernel
theorem dX4_servePortion_9 : decode cX4_servePortion 9 = .ok (.dup, 1) := by decide +kernel
theorem dX4_servePortion_10 : decode cX4_servePortion 10 = .ok (.getfield 33, 3) := by decide +kernel
theorem dX4_servePortion_13 : decode cX4_servePortion 13 = .ok (.iconst 1, 1) := by decide +kernel
theorem dX4_servePortion_14 : decode cX4_servePortion 14 = .ok (.iadd, 1) := by decide +kernel
theorem dX4_servePortion_15 : decode cX4_servePortion 15 = .ok (.putfield 33, 3) := by decide +kernel
theorem dX4_servePortion_18 : decode cX4_servePortion 18 = .ok (.aload_n 0, 1) := by decide +kernel
theorem dX4_servePortion_19 : decode cX4_servePortion 19 = .ok (.dup, 1) := by decide +kernel
theorem dX4_servePortion_20 : decode cX4_servePortion 20 = .ok (.getfield 24, 3) := by decide +kernel
theorem dX4_servePortion_23 : decode cX4_servePortion 23 = .ok (.iload_n 1, 1) := by decide +kernel
theorem dX4_servePortion_24 : decode cX4_servePortion 24 = .ok (.isub, 1) := by decide +kernel
theorem dX4_servePortion_25 : decode cX4_servePortion 25 = .ok (.putfield 24, 3) := by decide +kernel
theorem dX4_servePortion_28 : decode cX4_servePortion 28 = .ok (.aload_n 0, 1) := by decide +kernel
theorem dX4_servePortion_29 : decode cX4_servePortion 29 = .ok (.dup, 1) := by decide +kernel
theorem dX4_servePortion_30 : decode cX4_servePortion 30 = .ok (.getfield 21, 3) := by decide +kernel
theorem dX4_servePortion_33 : decode cX4_servePortion 33 = .ok (.bipush 10, 2) := by decide +kernel
theorem dX4_servePortion_35 : decode cX4_servePortion 35 = .ok (.iload_n 1, 1) := by decide +kernel
theorem dX4_servePortion_36 : decode cX4_servePortion 36 = .ok (.isub, 1) := by decide +kernel
theorem dX4_servePortion_37 : decode cX4_servePortion 37 = .ok (.isub, 1) := by decide +kernel
theorem dX4_servePortion_38 : decode cX4_servePortion 38 = .ok (.putfield 21, 3) := by decide +kernel
theorem dX4_servePortion_41 : decode cX4_servePortion 41 = .ok (.aload_n 0, 1) := by decide +kernel
theorem dX4_servePortion_42 : decode cX4_servePortion 42 = .ok (.dup, 1) := by decide +kernel
theorem dX4_servePortion_43 : decode cX4_servePortion 43 = .ok (.getfield 36, 3) := by decide +kernel
theorem dX4_servePortion_46 : decode cX4_servePortion 46 = .ok (.iconst 1, 1) := by decide +kernel
theorem dX4_servePortion_47 : decode cX4_servePortion 47 = .ok (.iadd, 1) := by decide +kernel
theorem dX4_servePortion_48 : decode cX4_servePortion 48 = .ok (.putfield 36, 3) := by decide +kernel
theorem dX4_servePortion_51 : decode cX4_servePortion 51 = .ok (.return_, 1) := by decide +kernel
theorem dX5_init_0 : decode cX5_init 0 = .ok (.aload_n 0, 1) := by decide +kernel
theorem dX5_init_1 : decode cX5_init 1 = .ok (.invokespecial 1, 3) := by decide +kernel
theorem dX5_init_4 : decode cX5_init 4 = .ok (.return_, 1) := by decide +kernel
set_option maxRecDepth 20000 in
theorem ggX6_init_X5_init : GoodIn wsX6_init wsX5_init := goodIn_r _ [23, 24, 25, 26] (by decide +kernel) (by decide +kernel)
set_option maxRecDepth 20000 in
theorem gX6_init_X5_init_n3 : GoodIn wsX6_init (wsX5_init) := ggX6_init_X5_init
set_option maxRecDepth 20000 in
theorem ggX6_init_X4_init : GoodIn wsX6_init wsX4_init := goodIn_r _ [28, 29, 25, 26, 30, 51, 52, 53, 54, 55, 56, 57] (by decide +kernel) (by decide +kernel)
set_option maxRecDepth 20000 in
theorem gX6_init_X4_init_n37 : GoodIn wsX6_init (wsX4_init) := ggX6_init_X4_init
set_option maxRecDepth 20000 in
theorem ggX6_init_X0_init : GoodIn wsX6_init wsX0_init := goodIn_r _ [32, 21, 22, 23, 24, 25, 26] (by decide +kernel) (by decide +kernel)
set_option maxRecDepth 20000 in
theorem gX6_init_X0_init_n42 : GoodIn wsX6_init (wsX0_init) := ggX6_init_X0_init
set_option maxRecDepth 20000 in
theorem ggX6_init_X2_init : GoodIn wsX6_init wsX2_init := goodIn_r _ [34, 35, 21, 22, 23, 24, 25, 26, 61, 62, 63, 64, 65] (by decide +kernel) (by decide +kernel)
set_option maxRecDepth 20000 in
theorem gX6_init_X2_init_n43 : GoodIn wsX6_init (wsX2_init) := ggX6_init_X2_init
set_option maxRecDepth 20000 in
theorem ggX6_init_X3_init : GoodIn wsX6_init wsX3_init := goodIn_r _ [37, 21, 22, 23, 24, 25, 26] (by decide +kernel) (by decide +kernel)
set_option maxRecDepth 20000 in
theorem gX6_init_X3_init_n44 : GoodIn wsX6_init (wsX3_init) := ggX6_init_X3_init
set_option maxRecDepth 20000 in
theorem ggX6_init_X1_init : GoodIn wsX6_init wsX1_init := goodIn_r _ [39, 21, 22, 23, 24, 25, 26] (by decide +kernel) (by decide +kernel)
set_option maxRecDepth 20000 in
theorem gX6_init_X1_init_n45 : GoodIn wsX6_init (wsX1_init) := ggX6_init_X1_init
theorem dX6_init_0 : decode cX6_init 0 = .ok (.aload_n 0, 1) := by decide +kernel
theorem dX6_init_1 : decode cX6_init 1 = .ok (.invokespecial 3, 3) := by decide +kernel
theorem dX6_init_4 : decode cX6_init 4 = .ok (.aload_n 0, 1) := by decide +kernel
theorem dX6_init_5 : decode cX6_init 5 = .ok (.iconst 4, 1) := by decide +kernel
theorem dX6_init_6 : decode cX6_init 6 = .ok (.anewarray 9, 3) := by decide +kernel
theorem dX6_init_9 : decode cX6_init 9 = .ok (.putfield 11, 3) := by decide +kernel
theorem dX6_init_12 : decode cX6_init 12 = .ok (.aload_n 0, 1) := by decide +kernel
theorem dX6_init_13 : decode cX6_init 13 = .ok (.iconst 4, 1) := by decide +kernel
end
section
theorem dX6_init_14 : decode cX6_init 14 = .ok (.anewarray 17, 3) := by decide +kernel
theorem dX6_init_17 : decode cX6_init 17 = .ok (.putfield 19, 3) := by decide +kernel
theorem dX6_init_20 : decode cX6_init 20 = .ok (.aload_n 0, 1) := by decide +kernel
theorem dX6_init_21 : decode cX6_init 21 = .ok (.iconst 4, 1) := by decide +kernel
theorem dX6_init_22 : decode cX6_init 22 = .ok (.anewarray 23, 3) := by decide +kernel
theorem dX6_init_25 : decode cX6_init 25 = .ok (.putfield 25, 3) := by decide +kernel
theorem dX6_init_28 : decode cX6_init 28 = .ok (.aload_n 0, 1) := by decide +kernel
theorem dX6_init_29 : decode cX6_init 29 = .ok (.bipush 10, 2) := by decide +kernel
theorem dX6_init_31 : decode cX6_init 31 = .ok (.anewarray 29, 3) := by decide +kernel
theorem dX6_init_34 : decode cX6_init 34 = .ok (.putfield 31, 3) := by decide +kernel
theorem dX6_init_37 : decode cX6_init 37 = .ok (.aload_n 0, 1) := by decide +kernel
theorem dX6_init_38 : decode cX6_init 38 = .ok (.new 35, 3) := by decide +kernel
theorem dX6_init_41 : decode cX6_init 41 = .ok (.dup, 1) := by decide +kernel
theorem dX6_init_42 : decode cX6_init 42 = .ok (.invokespecial 37, 3) := by decide +kernel
theorem dX6_init_45 : decode cX6_init 45 = .ok (.putfield 38, 3) := by decide +kernel
theorem dX6_init_48 : decode cX6_init 48 = .ok (.iconst 0, 1) := by decide +kernel
theorem dX6_init_49 : decode cX6_init 49 = .ok (.istore_n 1, 1) := by decide +kernel
theorem dX6_init_50 : decode cX6_init 50 = .ok (.iload_n 1, 1) := by decide +kernel
theorem dX6_init_51 : decode cX6_init 51 = .ok (.iconst 4, 1) := by decide +kernel
theorem dX6_init_52 : decode cX6_init 52 = .ok (.if_icmp .ge 22, 3) := by decide +kernel
theorem dX6_init_55 : decode cX6_init 55 = .ok (.aload_n 0, 1) := by decide +kernel
theorem dX6_init_56 : decode cX6_init 56 = .ok (.getfield 11, 3) := by decide +kernel
theorem dX6_init_59 : decode cX6_init 59 = .ok (.iload_n 1, 1) := by decide +kernel
theorem dX6_init_60 : decode cX6_init 60 = .ok (.new 9, 3) := by decide +kernel
theorem dX6_init_63 : decode cX6_init 63 = .ok (.dup, 1) := by decide +kernel
theorem dX6_init_64 : decode cX6_init 64 = .ok (.invokespecial 42, 3) := by decide +kernel
theorem dX6_init_67 : decode cX6_init 67 = .ok (.aastore, 1) := by decide +kernel
theorem dX6_init_68 : decode cX6_init 68 = .ok (.iinc 1 1, 3) := by decide +kernel
theorem dX6_init_71 : decode cX6_init 71 = .ok (.goto (-21), 3) := by decide +kernel
theorem dX6_init_74 : decode cX6_init 74 = .ok (.iconst 0, 1) := by decide +kernel
theorem dX6_init_75 : decode cX6_init 75 = .ok (.istore_n 1, 1) := by decide +kernel
theorem dX6_init_76 : decode cX6_init 76 = .ok (.iload_n 1, 1) := by decide +kernel
theorem dX6_init_77 : decode cX6_init 77 = .ok (.iconst 4, 1) := by decide +kernel
theorem dX6_init_78 : decode cX6_init 78 = .ok (.if_icmp .ge 22, 3) := by decide +kernel
theorem dX6_init_81 : decode cX6_init 81 = .ok (.aload_n 0, 1) := by decide +kernel
theorem dX6_init_82 : decode cX6_init 82 = .ok (.getfield 19, 3) := by decide +kernel
theorem dX6_init_85 : decode cX6_init 85 = .ok (.iload_n 1, 1) := by decide +kernel
theorem dX6_init_86 : decode cX6_init 86 = .ok (.new 17, 3) := by decide +kernel
theorem dX6_init_89 : decode cX6_init 89 = .ok (.dup, 1) := by decide +kernel
theorem dX6_init_90 : decode cX6_init 90 = .ok (.invokespecial 43, 3) := by decide +kernel
theorem dX6_init_93 : decode cX6_init 93 = .ok (.aastore, 1) := by decide +kernel
theorem dX6_init_94 : decode cX6_init 94 = .ok (.iinc 1 1, 3) := by decide +kernel
theorem dX6_init_97 : decode cX6_init 97 = .ok (.goto (-21), 3) := by decide +kernel
theorem dX6_init_100 : decode cX6_init 100 = .ok (.iconst 0, 1) := by decide +kernel
theorem dX6_init_101 : decode cX6_init 101 = .ok (.istore_n 1, 1) := by decide +kernel
theorem dX6_init_102 : decode cX6_init 102 = .ok (.iload_n 1, 1) := by decide +kernel
theorem dX6_init_103 : decode cX6_init 103 = .ok (.iconst 4, 1) := by decide +kernel
theorem dX6_init_104 : decode cX6_init 104 = .ok (.if_icmp .ge 22, 3) := by decide +kernel
theorem dX6_init_107 : decode cX6_init 107 = .ok (.aload_n 0, 1) := by decide +kernel
theorem dX6_init_108 : decode cX6_init 108 = .ok (.getfield 25, 3) := by decide +kernel
theorem dX6_init_111 : decode cX6_init 111 = .ok (.iload_n 1, 1) := by decide +kernel
theorem dX6_init_112 : decode cX6_init 112 = .ok (.new 23, 3) := by decide +kernel
theorem dX6_init_115 : decode cX6_init 115 = .ok (.dup, 1) := by decide +kernel
theorem dX6_init_116 : decode cX6_init 116 = .ok (.invokespecial 44, 3) := by decide +kernel
theorem dX6_init_119 : decode cX6_init 119 = .ok (.aastore, 1) := by decide +kernel
theorem dX6_init_120 : decode cX6_init 120 = .ok (.iinc 1 1, 3) := by decide +kernel
theorem dX6_init_123 : decode cX6_init 123 = .ok (.goto (-21), 3) := by decide +kernel
theorem dX6_init_126 : decode cX6_init 126 = .ok (.iconst 0, 1) := by decide +kernel
theorem dX6_init_127 : decode cX6_init 127 = .ok (.istore_n 1, 1) := by decide +kernel
theorem dX6_init_128 : decode cX6_init 128 = .ok (.iload_n 1, 1) := by decide +kernel
theorem dX6_init_129 : decode cX6_init 129 = .ok (.bipush 10, 2) := by decide +kernel
theorem dX6_init_131 : decode cX6_init 131 = .ok (.if_icmp .ge 22, 3) := by decide +kernel
theorem dX6_init_134 : decode cX6_init 134 = .ok (.aload_n 0, 1) := by decide +kernel
theorem dX6_init_135 : decode cX6_init 135 = .ok (.getfield 31, 3) := by decide +kernel
theorem dX6_init_138 : decode cX6_init 138 = .ok (.iload_n 1, 1) := by decide +kernel
theorem dX6_init_139 : decode cX6_init 139 = .ok (.new 29, 3) := by decide +kernel
theorem dX6_init_142 : decode cX6_init 142 = .ok (.dup, 1) := by decide +kernel
theorem dX6_init_143 : decode cX6_init 143 = .ok (.invokespecial 45, 3) := by decide +kernel
theorem dX6_init_146 : decode cX6_init 146 = .ok (.aastore, 1) := by decide +kernel
theorem dX6_init_147 : decode cX6_init 147 = .ok (.iinc 1 1, 3) := by decide +kernel
theorem dX6_init_150 : decode cX6_init 150 = .ok (.goto (-22), 3) := by decide +kernel
theorem dX6_init_153 : decode cX6_init 153 = .ok (.return_, 1) := by decide +kernel
theorem dX6_patrolled_0 : decode cX6_patrolled 0 = .ok (.aload_n 0, 1) := by decide +kernel
theorem dX6_patrolled_1 : decode cX6_patrolled 1 = .ok (.getfield 46, 3) := by decide +kernel
theorem dX6_patrolled_4 : decode cX6_patrolled 4 = .ok (.iload_n 1, 1) := by decide +kernel
theorem dX6_patrolled_5 : decode cX6_patrolled 5 = .ok (.bipush 7, 2) := by decide +kernel
theorem dX6_patrolled_7 : decode cX6_patrolled 7 = .ok (.irem, 1) := by decide +kernel
theorem dX6_patrolled_8 : decode cX6_patrolled 8 = .ok (.ishr, 1) := by decide +kernel
theorem dX6_patrolled_9 : decode cX6_patrolled 9 = .ok (.iconst 1, 1) := by decide +kernel
theorem dX6_patrolled_10 : decode cX6_patrolled 10 = .ok (.iand, 1) := by decide +kernel
theorem dX6_patrolled_11 : decode cX6_patrolled 11 = .ok (.iconst 1, 1) := by decide +kernel
theorem dX6_patrolled_12 : decode cX6_patrolled 12 = .ok (.if_icmp .ne 7, 3) := by decide +kernel
theorem dX6_patrolled_15 : decode cX6_patrolled 15 = .ok (.iconst 1, 1) := by decide +kernel
theorem dX6_patrolled_16 : decode cX6_patrolled 16 = .ok (.goto 4, 3) := by decide +kernel
theorem dX6_patrolled_19 : decode cX6_patrolled 19 = .ok (.iconst 0, 1) := by decide +kernel
theorem dX6_patrolled_20 : decode cX6_patrolled 20 = .ok (.ireturn, 1) := by decide +kernel
set_option maxRecDepth 20000 in
theorem ggX6_live_X6_travel : GoodIn wsX6_live wsX6_travel := goodIn_r _ [6, 7, 8, 9, 1, 10, 11, 12, 5, 13, 14, 15, 16, 17, 18, 19, 20, 21, 22, 23, 24, 25, 26, 27, 28, 29, 30, 31, 32, 33, 34, 35, 119, 120, 121, 122, 123, 124, 125, 126, 127, 128, 129, 130, 131, 132, 133, 134, 135, 136, 137, 138, 139, 140, 141] (by decide +kernel) (by decide +kernel)
set_option maxRecDepth 20000 in
theorem gX6_live_X6_travel : GoodIn wsX6_live (wsV RX6 50 RX6 yX6_travel wsX6_travel) := goodIn_app (goodIn_of _ (by decide +kernel)) ggX6_live_X6_travel
set_option maxRecDepth 20000 in
theorem ggX6_live_X6_warm : GoodIn wsX6_live wsX6_warm := goodIn_r _ [39, 40, 41, 42, 43, 44, 45, 46, 47, 48, 49, 50, 51, 52, 53, 54, 55, 56, 57, 58, 59, 60, 61, 119, 120, 121, 122, 123, 124, 125, 126, 127, 128, 129, 142, 143, 144, 145, 146] (by decide +kernel) (by decide +kernel)
set_option maxRecDepth 20000 in
theorem gX6_live_X6_warm : GoodIn wsX6_live (wsV RX6 53 RX6 yX6_warm wsX6_warm) := goodIn_app (goodIn_of _ (by decide +kernel)) ggX6_live_X6_warm
set_option maxRecDepth 20000 in
theorem ggX6_live_X6_grow : GoodIn wsX6_live wsX6_grow := goodIn_r _ [65, 66, 67, 68, 69, 70, 71, 72, 73, 74, 75, 76, 55, 56, 57, 119, 120, 121, 122, 123, 124, 125, 126, 127, 128, 129, 147, 148, 149] (by decide +kernel) (by decide +kernel)
set_option maxRecDepth 20000 in
theorem gX6_live_X6_grow : GoodIn wsX6_live (wsV RX6 56 RX6 yX6_grow wsX6_grow) := goodIn_app (goodIn_of _ (by decide +kernel)) ggX6_live_X6_grow
set_option maxRecDepth 20000 in
theorem ggX6_live_X6_serve : GoodIn wsX6_live wsX6_serve := goodIn_r _ [80, 81, 1, 82, 8, 83, 84, 85, 86, 87, 88, 89, 90, 91, 92, 93, 94, 95, 96, 97, 98, 99, 100, 101, 102, 103, 32, 104, 105, 106, 107, 55, 56, 57, 108, 109, 110, 111, 112, 113, 114, 115, 116, 117, 118, 119, 120, 121, 122, 123, 124, 125, 126, 127, 128, 129, 150, 151, 152, 153, 154, 135, 136, 137, 138, 139, 140, 141] (by decide +kernel) (by decide +kernel)
set_option maxRecDepth 20000 in
theorem gX6_live_X6_serve : GoodIn wsX6_live (wsV RX6 59 RX6 yX6_serve wsX6_serve) := goodIn_app (goodIn_of _ (by decide +kernel)) ggX6_live_X6_serve
theorem dX6_live_0 : decode cX6_live 0 = .ok (.iconst 0, 1) := by decide +kernel
theorem dX6_live_1 : decode cX6_live 1 = .ok (.istore_n 2, 1) := by decide +kernel
theorem dX6_live_2 : decode cX6_live 2 = .ok (.iconst 0, 1) := by decide +kernel
theorem dX6_live_3 : decode cX6_live 3 = .ok (.istore_n 3, 1) := by decide +kernel
theorem dX6_live_4 : decode cX6_live 4 = .ok (.iload_n 3, 1) := by decide +kernel
theorem dX6_live_5 : decode cX6_live 5 = .ok (.iload_n 1, 1) := by decide +kernel
theorem dX6_live_6 : decode cX6_live 6 = .ok (.if_icmp .ge 38, 3) := by decide +kernel
theorem dX6_live_9 : decode cX6_live 9 = .ok (.aload_n 0, 1) := by decide +kernel
theorem dX6_live_10 : decode cX6_live 10 = .ok (.invokevirtual 50, 3) := by decide +kernel
theorem dX6_live_13 : decode cX6_live 13 = .ok (.aload_n 0, 1) := by decide +kernel
theorem dX6_live_14 : decode cX6_live 14 = .ok (.invokevirtual 53, 3) := by decide +kernel
theorem dX6_live_17 : decode cX6_live 17 = .ok (.aload_n 0, 1) := by decide +kernel
theorem dX6_live_18 : decode cX6_live 18 = .ok (.invokevirtual 56, 3) := by decide +kernel
theorem dX6_live_21 : decode cX6_live 21 = .ok (.iload_n 2, 1) := by decide +kernel
theorem dX6_live_22 : decode cX6_live 22 = .ok (.aload_n 0, 1) := by decide +kernel
theorem dX6_live_23 : decode cX6_live 23 = .ok (.invokevirtual 59, 3) := by decide +kernel
theorem dX6_live_26 : decode cX6_live 26 = .ok (.iadd, 1) := by decide +kernel
theorem dX6_live_27 : decode cX6_live 27 = .ok (.istore_n 2, 1) := by decide +kernel
theorem dX6_live_28 : decode cX6_live 28 = .ok (.aload_n 0, 1) := by decide +kernel
theorem dX6_live_29 : decode cX6_live 29 = .ok (.dup, 1) := by decide +kernel
theorem dX6_live_30 : decode cX6_live 30 = .ok (.getfield 63, 3) := by decide +kernel
theorem dX6_live_33 : decode cX6_live 33 = .ok (.iconst 1, 1) := by decide +kernel
theorem dX6_live_34 : decode cX6_live 34 = .ok (.iadd, 1) := by decide +kernel
theorem dX6_live_35 : decode cX6_live 35 = .ok (.putfield 63, 3) := by decide +kernel
theorem dX6_live_38 : decode cX6_live 38 = .ok (.iinc 3 1, 3) := by decide +kernel
theorem dX6_live_41 : decode cX6_live 41 = .ok (.goto (-37), 3) := by decide +kernel
theorem dX6_live_44 : decode cX6_live 44 = .ok (.iload_n 2, 1) := by decide +kernel
theorem dX6_live_45 : decode cX6_live 45 = .ok (.ireturn, 1) := by decide +kernel
set_option maxRecDepth 20000 in
theorem ggX6_travel_X6_patrolled : GoodIn wsX6_travel wsX6_patrolled := goodIn_r _ [9, 10, 32, 33, 34, 35, 36, 37, 38, 39, 40, 41, 42] (by decide +kernel) (by decide +kernel)
set_option maxRecDepth 20000 in
theorem gX6_travel_X6_patrolled : GoodIn wsX6_travel (wsV RX6 69 RX6 yX6_patrolled wsX6_patrolled) := goodIn_app (goodIn_of _ (by decide +kernel)) ggX6_travel_X6_patrolled
set_option maxRecDepth 20000 in
theorem ggX6_travel_X3_travel : GoodIn wsX6_travel wsX3_travel := goodIn_r _ [15, 16, 17, 18, 19, 20, 21, 22, 14, 23, 24, 43, 44, 45, 46, 47] (by decide +kernel) (by decide +kernel)
set_option maxRecDepth 20000 in
theorem gX6_travel_X3_travel : GoodIn wsX6_travel (wsV RX6 73 RX3 yX3_travel wsX3_travel) := goodIn_app (goodIn_of _ (by decide +kernel)) ggX6_travel_X3_travel
set_option maxRecDepth 20000 in
theorem ggX6_travel_X4_add : GoodIn wsX6_travel wsX4_add := goodIn_r _ [29, 30, 31, 48, 49, 50, 51, 52, 53, 54] (by decide +kernel) (by decide +kernel)
set_option maxRecDepth 20000 in
theorem gX6_travel_X4_add : GoodIn wsX6_travel (wsV RX6 76 RX4 yX4_add wsX4_add) := goodIn_app (goodIn_of _ (by decide +kernel)) ggX6_travel_X4_add
theorem dX6_travel_0 : decode cX6_travel 0 = .ok (.iconst 0, 1) := by decide +kernel
theorem dX6_travel_1 : decode cX6_travel 1 = .ok (.istore_n 1, 1) := by decide +kernel
theorem dX6_travel_2 : decode cX6_travel 2 = .ok (.iload_n 1, 1) := by decide +kernel
theorem dX6_travel_3 : decode cX6_travel 3 = .ok (.aload_n 0, 1) := by decide +kernel
theorem dX6_travel_4 : decode cX6_travel 4 = .ok (.getfield 66, 3) := by decide +kernel
theorem dX6_travel_7 : decode cX6_travel 7 = .ok (.if_icmp .ge 34, 3) := by decide +kernel
theorem dX6_travel_10 : decode cX6_travel 10 = .ok (.aload_n 0, 1) := by decide +kernel
theorem dX6_travel_11 : decode cX6_travel 11 = .ok (.getfield 38, 3) := by decide +kernel
theorem dX6_travel_14 : decode cX6_travel 14 = .ok (.iconst 1, 1) := by decide +kernel
theorem dX6_travel_15 : decode cX6_travel 15 = .ok (.aload_n 0, 1) := by decide +kernel
theorem dX6_travel_16 : decode cX6_travel 16 = .ok (.getfield 25, 3) := by decide +kernel
theorem dX6_travel_19 : decode cX6_travel 19 = .ok (.iload_n 1, 1) := by decide +kernel
theorem dX6_travel_20 : decode cX6_travel 20 = .ok (.aaload, 1) := by decide +kernel
theorem dX6_travel_21 : decode cX6_travel 21 = .ok (.aload_n 0, 1) := by decide +kernel
theorem dX6_travel_22 : decode cX6_travel 22 = .ok (.aload_n 0, 1) := by decide +kernel
theorem dX6_travel_23 : decode cX6_travel 23 = .ok (.getfield 63, 3) := by decide +kernel
theorem dX6_travel_26 : decode cX6_travel 26 = .ok (.invokevirtual 69, 3) := by decide +kernel
theorem dX6_travel_29 : decode cX6_travel 29 = .ok (.invokevirtual 73, 3) := by decide +kernel
theorem dX6_travel_32 : decode cX6_travel 32 = .ok (.invokevirtual 76, 3) := by decide +kernel
theorem dX6_travel_35 : decode cX6_travel 35 = .ok (.iinc 1 1, 3) := by decide +kernel
theorem dX6_travel_38 : decode cX6_travel 38 = .ok (.goto (-36), 3) := by decide +kernel
theorem dX6_travel_41 : decode cX6_travel 41 = .ok (.return_, 1) := by decide +kernel
set_option maxRecDepth 20000 in
theorem ggX6_warm_X2_warm : GoodIn wsX6_warm wsX2_warm := goodIn_r _ [7, 8, 9, 10, 11, 6, 12, 13, 14, 15, 16, 17, 18, 19, 20, 21, 22, 34, 35, 36, 37, 38] (by decide +kernel) (by decide +kernel)
set_option maxRecDepth 20000 in
theorem gX6_warm_X2_warm : GoodIn wsX6_warm (wsV RX6 83 RX2 yX2_warm wsX2_warm) := goodIn_app (goodIn_of _ (by decide +kernel)) ggX6_warm_X2_warm
theorem dX6_warm_0 : decode cX6_warm 0 = .ok (.iconst 0, 1) := by decide +kernel
theorem dX6_warm_1 : decode cX6_warm 1 = .ok (.istore_n 1, 1) := by decide +kernel
theorem dX6_warm_2 : decode cX6_warm 2 = .ok (.iload_n 1, 1) := by decide +kernel
theorem dX6_warm_3 : decode cX6_warm 3 = .ok (.aload_n 0, 1) := by decide +kernel
theorem dX6_warm_4 : decode cX6_warm 4 = .ok (.getfield 80, 3) := by decide +kernel
theorem dX6_warm_7 : decode cX6_warm 7 = .ok (.if_icmp .ge 18, 3) := by decide +kernel
theorem dX6_warm_10 : decode cX6_warm 10 = .ok (.aload_n 0, 1) := by decide +kernel
theorem dX6_warm_11 : decode cX6_warm 11 = .ok (.getfield 19, 3) := by decide +kernel
theorem dX6_warm_14 : decode cX6_warm 14 = .ok (.iload_n 1, 1) := by decide +kernel
theorem dX6_warm_15 : decode cX6_warm 15 = .ok (.aaload, 1) := by decide +kernel
theorem dX6_warm_16 : decode cX6_warm 16 = .ok (.invokevirtual 83, 3) := by decide +kernel
theorem dX6_warm_19 : decode cX6_warm 19 = .ok (.iinc 1 1, 3) := by decide +kernel
theorem dX6_warm_22 : decode cX6_warm 22 = .ok (.goto (-20), 3) := by decide +kernel
theorem dX6_warm_25 : decode cX6_warm 25 = .ok (.return_, 1) := by decide +kernel
set_option maxRecDepth 20000 in
theorem ggX6_grow_X0_grow : GoodIn wsX6_grow wsX0_grow := goodIn_r _ [7, 8, 9, 10, 11, 12, 13, 14, 26, 27, 28] (by decide +kernel) (by decide +kernel)
set_option maxRecDepth 20000 in
theorem gX6_grow_X0_grow : GoodIn wsX6_grow (wsV RX6 87 RX0 yX0_grow wsX0_grow) := goodIn_app (goodIn_of _ (by decide +kernel)) ggX6_grow_X0_grow
theorem dX6_grow_0 : decode cX6_grow 0 = .ok (.iconst 0, 1) := by decide +kernel
theorem dX6_grow_1 : decode cX6_grow 1 = .ok (.istore_n 1, 1) := by decide +kernel
theorem dX6_grow_2 : decode cX6_grow 2 = .ok (.iload_n 1, 1) := by decide +kernel
theorem dX6_grow_3 : decode cX6_grow 3 = .ok (.aload_n 0, 1) := by decide +kernel
theorem dX6_grow_4 : decode cX6_grow 4 = .ok (.getfield 84, 3) := by decide +kernel
theorem dX6_grow_7 : decode cX6_grow 7 = .ok (.if_icmp .ge 18, 3) := by decide +kernel
theorem dX6_grow_10 : decode cX6_grow 10 = .ok (.aload_n 0, 1) := by decide +kernel
theorem dX6_grow_11 : decode cX6_grow 11 = .ok (.getfield 11, 3) := by decide +kernel
theorem dX6_grow_14 : decode cX6_grow 14 = .ok (.iload_n 1, 1) := by decide +kernel
theorem dX6_grow_15 : decode cX6_grow 15 = .ok (.aaload, 1) := by decide +kernel
theorem dX6_grow_16 : decode cX6_grow 16 = .ok (.invokevirtual 87, 3) := by decide +kernel
theorem dX6_grow_19 : decode cX6_grow 19 = .ok (.iinc 1 1, 3) := by decide +kernel
theorem dX6_grow_22 : decode cX6_grow 22 = .ok (.goto (-20), 3) := by decide +kernel
theorem dX6_grow_25 : decode cX6_grow 25 = .ok (.return_, 1) := by decide +kernel
set_option maxRecDepth 20000 in
theorem ggX6_serve_X1_renew : GoodIn wsX6_serve wsX1_renew := goodIn_r _ [9, 10, 11, 56, 57, 58, 59, 60] (by decide +kernel) (by decide +kernel)
set_option maxRecDepth 20000 in
theorem gX6_serve_X1_renew : GoodIn wsX6_serve (wsV RX6 91 RX1 yX1_renew wsX1_renew) := goodIn_app (goodIn_of _ (by decide +kernel)) ggX6_serve_X1_renew
set_option maxRecDepth 20000 in
theorem ggX6_serve_X1_serveDay : GoodIn wsX6_serve wsX1_serveDay := goodIn_r _ [15, 16, 17, 18, 8, 19, 11, 20, 21, 22, 23, 24, 25, 26, 27, 28, 29, 30, 31, 32, 33, 34, 35, 36, 37, 38, 39, 40, 41, 42, 43, 44, 56, 57, 58, 59, 60, 61, 62, 63, 64, 65, 66, 67] (by decide +kernel) (by decide +kernel)
set_option maxRecDepth 20000 in
theorem gX6_serve_X1_serveDay : GoodIn wsX6_serve (wsV RX6 94 RX1 yX1_serveDay wsX1_serveDay) := goodIn_app (goodIn_of _ (by decide +kernel)) ggX6_serve_X1_serveDay
theorem dX6_serve_0 : decode cX6_serve 0 = .ok (.iconst 0, 1) := by decide +kernel
theorem dX6_serve_1 : decode cX6_serve 1 = .ok (.istore_n 1, 1) := by decide +kernel
theorem dX6_serve_2 : decode cX6_serve 2 = .ok (.iconst 0, 1) := by decide +kernel
theorem dX6_serve_3 : decode cX6_serve 3 = .ok (.istore_n 2, 1) := by decide +kernel
theorem dX6_serve_4 : decode cX6_serve 4 = .ok (.iload_n 2, 1) := by decide +kernel
theorem dX6_serve_5 : decode cX6_serve 5 = .ok (.aload_n 0, 1) := by decide +kernel
theorem dX6_serve_6 : decode cX6_serve 6 = .ok (.getfield 88, 3) := by decide +kernel
theorem dX6_serve_9 : decode cX6_serve 9 = .ok (.if_icmp .ge 44, 3) := by decide +kernel
theorem dX6_serve_12 : decode cX6_serve 12 = .ok (.aload_n 0, 1) := by decide +kernel
theorem dX6_serve_13 : decode cX6_serve 13 = .ok (.getfield 63, 3) := by decide +kernel
theorem dX6_serve_16 : decode cX6_serve 16 = .ok (.bipush 7, 2) := by decide +kernel
theorem dX6_serve_18 : decode cX6_serve 18 = .ok (.irem, 1) := by decide +kernel
theorem dX6_serve_19 : decode cX6_serve 19 = .ok (.ifCond .ne 12, 3) := by decide +kernel
theorem dX6_serve_22 : decode cX6_serve 22 = .ok (.aload_n 0, 1) := by decide +kernel
theorem dX6_serve_23 : decode cX6_serve 23 = .ok (.getfield 31, 3) := by decide +kernel
theorem dX6_serve_26 : decode cX6_serve 26 = .ok (.iload_n 2, 1) := by decide +kernel
theorem dX6_serve_27 : decode cX6_serve 27 = .ok (.aaload, 1) := by decide +kernel
theorem dX6_serve_28 : decode cX6_serve 28 = .ok (.invokevirtual 91, 3) := by decide +kernel
theorem dX6_serve_31 : decode cX6_serve 31 = .ok (.iload_n 1, 1) := by decide +kernel
theorem dX6_serve_32 : decode cX6_serve 32 = .ok (.aload_n 0, 1) := by decide +kernel
theorem dX6_serve_33 : decode cX6_serve 33 = .ok (.getfield 31, 3) := by decide +kernel
theorem dX6_serve_36 : decode cX6_serve 36 = .ok (.iload_n 2, 1) := by decide +kernel
theorem dX6_serve_37 : decode cX6_serve 37 = .ok (.aaload, 1) := by decide +kernel
theorem dX6_serve_38 : decode cX6_serve 38 = .ok (.aload_n 0, 1) := by decide +kernel
theorem dX6_serve_39 : decode cX6_serve 39 = .ok (.getfield 38, 3) := by decide +kernel
theorem dX6_serve_42 : decode cX6_serve 42 = .ok (.invokevirtual 94, 3) := by decide +kernel
theorem dX6_serve_45 : decode cX6_serve 45 = .ok (.iadd, 1) := by decide +kernel
theorem dX6_serve_46 : decode cX6_serve 46 = .ok (.istore_n 1, 1) := by decide +kernel
theorem dX6_serve_47 : decode cX6_serve 47 = .ok (.iinc 2 1, 3) := by decide +kernel
theorem dX6_serve_50 : decode cX6_serve 50 = .ok (.goto (-46), 3) := by decide +kernel
theorem dX6_serve_53 : decode cX6_serve 53 = .ok (.iload_n 1, 1) := by decide +kernel
theorem dX6_serve_54 : decode cX6_serve 54 = .ok (.ireturn, 1) := by decide +kernel
theorem dX6_size_0 : decode cX6_size 0 = .ok (.bipush 9, 2) := by decide +kernel
theorem dX6_size_2 : decode cX6_size 2 = .ok (.ireturn, 1) := by decide +kernel
theorem dX6_tell_0 : decode cX6_tell 0 = .ok (.iload_n 1, 1) := by decide +kernel
theorem dX6_tell_1 : decode cX6_tell 1 = .ok (.tableswitch 108 0 7 #[47, 52, 60, 68, 76, 84, 92, 100], 47) := by decide +kernel
theorem dX6_tell_48 : decode cX6_tell 48 = .ok (.aload_n 0, 1) := by decide +kernel
theorem dX6_tell_49 : decode cX6_tell 49 = .ok (.getfield 63, 3) := by decide +kernel
theorem dX6_tell_52 : decode cX6_tell 52 = .ok (.ireturn, 1) := by decide +kernel
theorem dX6_tell_53 : decode cX6_tell 53 = .ok (.aload_n 0, 1) := by decide +kernel
theorem dX6_tell_54 : decode cX6_tell 54 = .ok (.getfield 38, 3) := by decide +kernel
theorem dX6_tell_57 : decode cX6_tell 57 = .ok (.getfield 114, 3) := by decide +kernel
theorem dX6_tell_60 : decode cX6_tell 60 = .ok (.ireturn, 1) := by decide +kernel
theorem dX6_tell_61 : decode cX6_tell 61 = .ok (.aload_n 0, 1) := by decide +kernel
theorem dX6_tell_62 : decode cX6_tell 62 = .ok (.getfield 38, 3) := by decide +kernel
theorem dX6_tell_65 : decode cX6_tell 65 = .ok (.getfield 117, 3) := by decide +kernel
theorem dX6_tell_68 : decode cX6_tell 68 = .ok (.ireturn, 1) := by decide +kernel
theorem dX6_tell_69 : decode cX6_tell 69 = .ok (.aload_n 0, 1) := by decide +kernel
theorem dX6_tell_70 : decode cX6_tell 70 = .ok (.getfield 38, 3) := by decide +kernel
theorem dX6_tell_73 : decode cX6_tell 73 = .ok (.getfield 120, 3) := by decide +kernel
theorem dX6_tell_76 : decode cX6_tell 76 = .ok (.ireturn, 1) := by decide +kernel
theorem dX6_tell_77 : decode cX6_tell 77 = .ok (.aload_n 0, 1) := by decide +kernel
theorem dX6_tell_78 : decode cX6_tell 78 = .ok (.getfield 38, 3) := by decide +kernel
theorem dX6_tell_81 : decode cX6_tell 81 = .ok (.getfield 123, 3) := by decide +kernel
theorem dX6_tell_84 : decode cX6_tell 84 = .ok (.ireturn, 1) := by decide +kernel
theorem dX6_tell_85 : decode cX6_tell 85 = .ok (.aload_n 0, 1) := by decide +kernel
theorem dX6_tell_86 : decode cX6_tell 86 = .ok (.getfield 38, 3) := by decide +kernel
theorem dX6_tell_89 : decode cX6_tell 89 = .ok (.getfield 126, 3) := by decide +kernel
theorem dX6_tell_92 : decode cX6_tell 92 = .ok (.ireturn, 1) := by decide +kernel
theorem dX6_tell_93 : decode cX6_tell 93 = .ok (.aload_n 0, 1) := by decide +kernel
theorem dX6_tell_94 : decode cX6_tell 94 = .ok (.getfield 38, 3) := by decide +kernel
theorem dX6_tell_97 : decode cX6_tell 97 = .ok (.getfield 129, 3) := by decide +kernel
theorem dX6_tell_100 : decode cX6_tell 100 = .ok (.ireturn, 1) := by decide +kernel
theorem dX6_tell_101 : decode cX6_tell 101 = .ok (.aload_n 0, 1) := by decide +kernel
theorem dX6_tell_102 : decode cX6_tell 102 = .ok (.getfield 38, 3) := by decide +kernel
theorem dX6_tell_105 : decode cX6_tell 105 = .ok (.getfield 132, 3) := by decide +kernel
theorem dX6_tell_108 : decode cX6_tell 108 = .ok (.ireturn, 1) := by decide +kernel
theorem dX6_tell_109 : decode cX6_tell 109 = .ok (.aload_n 0, 1) := by decide +kernel
theorem dX6_tell_110 : decode cX6_tell 110 = .ok (.getfield 46, 3) := by decide +kernel
theorem dX6_tell_113 : decode cX6_tell 113 = .ok (.ireturn, 1) := by decide +kernel
set_option maxRecDepth 20000 in
theorem ggX7_init_X6_init : GoodIn wsX7_init wsX6_init := goodIn_r _ [11, 12, 13, 14, 15, 16, 17, 18, 19, 20, 21, 22, 23, 24, 25, 26, 27, 28, 29, 30, 31, 32, 33, 34, 35, 2, 3, 36, 37, 38, 39, 40, 41, 42, 43, 44, 45, 46, 47, 48, 49, 50, 51, 52, 53, 54, 55, 56, 57, 58, 59, 62, 63, 64, 65, 66, 67, 68, 69, 70, 71, 72, 73, 74, 75, 76, 77, 78, 79, 80, 81, 82, 83, 84, 85, 86] (by decide +kernel) (by decide +kernel)
set_option maxRecDepth 20000 in
theorem gX7_init_X6_init : GoodIn wsX7_init (wsX6_init) := ggX7_init_X6_init
theorem dX7_init_0 : decode cX7_init 0 = .ok (.aload_n 0, 1) := by decide +kernel
theorem dX7_init_1 : decode cX7_init 1 = .ok (.invokespecial 1, 3) := by decide +kernel
theorem dX7_init_4 : decode cX7_init 4 = .ok (.aload_n 0, 1) := by decide +kernel
theorem dX7_init_5 : decode cX7_init 5 = .ok (.new 7, 3) := by decide +kernel
theorem dX7_init_8 : decode cX7_init 8 = .ok (.dup, 1) := by decide +kernel
theorem dX7_init_9 : decode cX7_init 9 = .ok (.invokespecial 9, 3) := by decide +kernel
theorem dX7_init_12 : decode cX7_init 12 = .ok (.putfield 10, 3) := by decide +kernel
theorem dX7_init_15 : decode cX7_init 15 = .ok (.aload_n 0, 1) := by decide +kernel
theorem dX7_init_16 : decode cX7_init 16 = .ok (.new 7, 3) := by decide +kernel
theorem dX7_init_19 : decode cX7_init 19 = .ok (.dup, 1) := by decide +kernel
theorem dX7_init_20 : decode cX7_init 20 = .ok (.invokespecial 9, 3) := by decide +kernel
theorem dX7_init_23 : decode cX7_init 23 = .ok (.putfield 16, 3) := by decide +kernel
theorem dX7_init_26 : decode cX7_init 26 = .ok (.return_, 1) := by decide +kernel
set_option maxRecDepth 20000 in
theorem ggX7_bed_X7_checkNumber : GoodIn wsX7_bed wsX7_checkNumber := goodIn_ca (goodIn_r _ [7, 8, 9] (by decide +kernel) (by decide +kernel)) (goodIn_sub (fun _ h => List.mem_cons_of_mem _ (List.mem_append_left _ (List.mem_append_right _ h))) (by decide +kernel))
set_option maxRecDepth 20000 in
theorem gX7_bed_X7_checkNumber : GoodIn wsX7_bed (va_wsS RX7 19 yX7_checkNumber wsX7_checkNumber) := goodIn_app (goodIn_of _ (by decide +kernel)) ggX7_bed_X7_checkNumber
set_option maxRecDepth 20000 in
theorem ggX7_bed_X7_checkState : GoodIn wsX7_bed wsX7_checkState := goodIn_ca (goodIn_r _ [12, 13, 14] (by decide +kernel) (by decide +kernel)) (goodIn_sub (fun _ h => List.mem_cons_of_mem _ (List.mem_append_right _ h)) (by decide +kernel))
set_option maxRecDepth 20000 in
theorem gX7_bed_X7_checkState : GoodIn wsX7_bed (va_wsS RX7 27 yX7_checkState wsX7_checkState) := goodIn_app (goodIn_of _ (by decide +kernel)) ggX7_bed_X7_checkState
set_option maxRecDepth 20000 in
theorem ggX7_bed_X0_lay : GoodIn wsX7_bed wsX0_lay := goodIn_r _ [19, 20, 21, 35, 36, 37] (by decide +kernel) (by decide +kernel)
set_option maxRecDepth 20000 in
theorem gX7_bed_X0_lay : GoodIn wsX7_bed (wsV RX7 35 RX0 yX0_lay wsX0_lay) := goodIn_app (goodIn_of _ (by decide +kernel)) ggX7_bed_X0_lay
theorem dX7_bed_0 : decode cX7_bed 0 = .ok (.iload_n 1, 1) := by decide +kernel
theorem dX7_bed_1 : decode cX7_bed 1 = .ok (.iconst 0, 1) := by decide +kernel
theorem dX7_bed_2 : decode cX7_bed 2 = .ok (.bipush 9, 2) := by decide +kernel
theorem dX7_bed_4 : decode cX7_bed 4 = .ok (.invokestatic 19, 3) := by decide +kernel
theorem dX7_bed_7 : decode cX7_bed 7 = .ok (.iload_n 2, 1) := by decide +kernel
theorem dX7_bed_8 : decode cX7_bed 8 = .ok (.iconst 1, 1) := by decide +kernel
theorem dX7_bed_9 : decode cX7_bed 9 = .ok (.bipush 99, 2) := by decide +kernel
theorem dX7_bed_11 : decode cX7_bed 11 = .ok (.invokestatic 19, 3) := by decide +kernel
theorem dX7_bed_14 : decode cX7_bed 14 = .ok (.aload_n 0, 1) := by decide +kernel
theorem dX7_bed_15 : decode cX7_bed 15 = .ok (.getfield 10, 3) := by decide +kernel
theorem dX7_bed_18 : decode cX7_bed 18 = .ok (.getfield 23, 3) := by decide +kernel
theorem dX7_bed_21 : decode cX7_bed 21 = .ok (.iconst 4, 1) := by decide +kernel
theorem dX7_bed_22 : decode cX7_bed 22 = .ok (.if_icmp .ge 7, 3) := by decide +kernel
theorem dX7_bed_25 : decode cX7_bed 25 = .ok (.iconst 1, 1) := by decide +kernel
theorem dX7_bed_26 : decode cX7_bed 26 = .ok (.goto 4, 3) := by decide +kernel
theorem dX7_bed_29 : decode cX7_bed 29 = .ok (.iconst 0, 1) := by decide +kernel
theorem dX7_bed_30 : decode cX7_bed 30 = .ok (.invokestatic 27, 3) := by decide +kernel
theorem dX7_bed_33 : decode cX7_bed 33 = .ok (.aload_n 0, 1) := by decide +kernel
theorem dX7_bed_34 : decode cX7_bed 34 = .ok (.getfield 10, 3) := by decide +kernel
theorem dX7_bed_37 : decode cX7_bed 37 = .ok (.getfield 31, 3) := by decide +kernel
theorem dX7_bed_40 : decode cX7_bed 40 = .ok (.aload_n 0, 1) := by decide +kernel
theorem dX7_bed_41 : decode cX7_bed 41 = .ok (.getfield 10, 3) := by decide +kernel
theorem dX7_bed_44 : decode cX7_bed 44 = .ok (.getfield 23, 3) := by decide +kernel
theorem dX7_bed_47 : decode cX7_bed 47 = .ok (.aaload, 1) := by decide +kernel
theorem dX7_bed_48 : decode cX7_bed 48 = .ok (.iload_n 1, 1) := by decide +kernel
theorem dX7_bed_49 : decode cX7_bed 49 = .ok (.iload_n 2, 1) := by decide +kernel
theorem dX7_bed_50 : decode cX7_bed 50 = .ok (.invokevirtual 35, 3) := by decide +kernel
theorem dX7_bed_53 : decode cX7_bed 53 = .ok (.aload_n 0, 1) := by decide +kernel
theorem dX7_bed_54 : decode cX7_bed 54 = .ok (.getfield 10, 3) := by decide +kernel
theorem dX7_bed_57 : decode cX7_bed 57 = .ok (.dup, 1) := by decide +kernel
theorem dX7_bed_58 : decode cX7_bed 58 = .ok (.getfield 23, 3) := by decide +kernel
theorem dX7_bed_61 : decode cX7_bed 61 = .ok (.dup_x1, 1) := by decide +kernel
theorem dX7_bed_62 : decode cX7_bed 62 = .ok (.iconst 1, 1) := by decide +kernel
theorem dX7_bed_63 : decode cX7_bed 63 = .ok (.iadd, 1) := by decide +kernel
theorem dX7_bed_64 : decode cX7_bed 64 = .ok (.putfield 23, 3) := by decide +kernel
theorem dX7_bed_67 : decode cX7_bed 67 = .ok (.ireturn, 1) := by decide +kernel
set_option maxRecDepth 20000 in
theorem ggX7_drum_X7_checkNumber : GoodIn wsX7_drum wsX7_checkNumber := goodIn_ca (goodIn_r _ [7, 8, 9] (by decide +kernel) (by decide +kernel)) (goodIn_sub (fun _ h => List.mem_cons_of_mem _ (List.mem_append_left _ (List.mem_append_right _ h))) (by decide +kernel))
set_option maxRecDepth 20000 in
theorem gX7_drum_X7_checkNumber : GoodIn wsX7_drum (va_wsS RX7 19 yX7_checkNumber wsX7_checkNumber) := goodIn_app (goodIn_of _ (by decide +kernel)) ggX7_drum_X7_checkNumber
set_option maxRecDepth 20000 in
theorem ggX7_drum_X7_checkState : GoodIn wsX7_drum wsX7_checkState := goodIn_ca (goodIn_r _ [12, 13, 14] (by decide +kernel) (by decide +kernel)) (goodIn_sub (fun _ h => List.mem_cons_of_mem _ (List.mem_append_right _ h)) (by decide +kernel))
set_option maxRecDepth 20000 in
theorem gX7_drum_X7_checkState : GoodIn wsX7_drum (va_wsS RX7 27 yX7_checkState wsX7_checkState) := goodIn_app (goodIn_of _ (by decide +kernel)) ggX7_drum_X7_checkState
set_option maxRecDepth 20000 in
theorem ggX7_drum_X2_install : GoodIn wsX7_drum wsX2_install := goodIn_r _ [19, 20, 21, 35, 36, 37, 38, 39] (by decide +kernel) (by decide +kernel)
set_option maxRecDepth 20000 in
theorem gX7_drum_X2_install : GoodIn wsX7_drum (wsV RX7 48 RX2 yX2_install wsX2_install) := goodIn_app (goodIn_of _ (by decide +kernel)) ggX7_drum_X2_install
theorem dX7_drum_0 : decode cX7_drum 0 = .ok (.iload_n 1, 1) := by decide +kernel
theorem dX7_drum_1 : decode cX7_drum 1 = .ok (.iconst 1, 1) := by decide +kernel
theorem dX7_drum_2 : decode cX7_drum 2 = .ok (.bipush 40, 2) := by decide +kernel
theorem dX7_drum_4 : decode cX7_drum 4 = .ok (.invokestatic 19, 3) := by decide +kernel
theorem dX7_drum_7 : decode cX7_drum 7 = .ok (.iload_n 2, 1) := by decide +kernel
theorem dX7_drum_8 : decode cX7_drum 8 = .ok (.iconst 0, 1) := by decide +kernel
theorem dX7_drum_9 : decode cX7_drum 9 = .ok (.bipush 9, 2) := by decide +kernel
theorem dX7_drum_11 : decode cX7_drum 11 = .ok (.invokestatic 19, 3) := by decide +kernel
theorem dX7_drum_14 : decode cX7_drum 14 = .ok (.aload_n 0, 1) := by decide +kernel
theorem dX7_drum_15 : decode cX7_drum 15 = .ok (.getfield 10, 3) := by decide +kernel
theorem dX7_drum_18 : decode cX7_drum 18 = .ok (.getfield 41, 3) := by decide +kernel
theorem dX7_drum_21 : decode cX7_drum 21 = .ok (.iconst 4, 1) := by decide +kernel
theorem dX7_drum_22 : decode cX7_drum 22 = .ok (.if_icmp .ge 7, 3) := by decide +kernel
theorem dX7_drum_25 : decode cX7_drum 25 = .ok (.iconst 1, 1) := by decide +kernel
theorem dX7_drum_26 : decode cX7_drum 26 = .ok (.goto 4, 3) := by decide +kernel
theorem dX7_drum_29 : decode cX7_drum 29 = .ok (.iconst 0, 1) := by decide +kernel
theorem dX7_drum_30 : decode cX7_drum 30 = .ok (.invokestatic 27, 3) := by decide +kernel
theorem dX7_drum_33 : decode cX7_drum 33 = .ok (.aload_n 0, 1) := by decide +kernel
theorem dX7_drum_34 : decode cX7_drum 34 = .ok (.getfield 10, 3) := by decide +kernel
theorem dX7_drum_37 : decode cX7_drum 37 = .ok (.getfield 44, 3) := by decide +kernel
theorem dX7_drum_40 : decode cX7_drum 40 = .ok (.aload_n 0, 1) := by decide +kernel
theorem dX7_drum_41 : decode cX7_drum 41 = .ok (.getfield 10, 3) := by decide +kernel
theorem dX7_drum_44 : decode cX7_drum 44 = .ok (.getfield 41, 3) := by decide +kernel
theorem dX7_drum_47 : decode cX7_drum 47 = .ok (.aaload, 1) := by decide +kernel
theorem dX7_drum_48 : decode cX7_drum 48 = .ok (.iload_n 1, 1) := by decide +kernel
theorem dX7_drum_49 : decode cX7_drum 49 = .ok (.iload_n 2, 1) := by decide +kernel
theorem dX7_drum_50 : decode cX7_drum 50 = .ok (.invokevirtual 48, 3) := by decide +kernel
theorem dX7_drum_53 : decode cX7_drum 53 = .ok (.aload_n 0, 1) := by decide +kernel
theorem dX7_drum_54 : decode cX7_drum 54 = .ok (.getfield 10, 3) := by decide +kernel
theorem dX7_drum_57 : decode cX7_drum 57 = .ok (.dup, 1) := by decide +kernel
theorem dX7_drum_58 : decode cX7_drum 58 = .ok (.getfield 41, 3) := by decide +kernel
theorem dX7_drum_61 : decode cX7_drum 61 = .ok (.dup_x1, 1) := by decide +kernel
theorem dX7_drum_62 : decode cX7_drum 62 = .ok (.iconst 1, 1) := by decide +kernel
theorem dX7_drum_63 : decode cX7_drum 63 = .ok (.iadd, 1) := by decide +kernel
theorem dX7_drum_64 : decode cX7_drum 64 = .ok (.putfield 41, 3) := by decide +kernel
theorem dX7_drum_67 : decode cX7_drum 67 = .ok (.ireturn, 1) := by decide +kernel
set_option maxRecDepth 20000 in
theorem ggX7_smuggler_X7_checkNumber : GoodIn wsX7_smuggler wsX7_checkNumber := goodIn_ca (goodIn_r _ [7, 8, 9] (by decide +kernel) (by decide +kernel)) (goodIn_sub (fun _ h => List.mem_cons_of_mem _ (List.mem_append_left _ (List.mem_append_right _ h))) (by decide +kernel))
set_option maxRecDepth 20000 in
theorem gX7_smuggler_X7_checkNumber : GoodIn wsX7_smuggler (va_wsS RX7 19 yX7_checkNumber wsX7_checkNumber) := goodIn_app (goodIn_of _ (by decide +kernel)) ggX7_smuggler_X7_checkNumber
set_option maxRecDepth 20000 in
theorem ggX7_smuggler_X7_checkState : GoodIn wsX7_smuggler wsX7_checkState := goodIn_ca (goodIn_r _ [12, 13, 14] (by decide +kernel) (by decide +kernel)) (goodIn_sub (fun _ h => List.mem_cons_of_mem _ (List.mem_append_right _ h)) (by decide +kernel))
set_option maxRecDepth 20000 in
theorem gX7_smuggler_X7_checkState : GoodIn wsX7_smuggler (va_wsS RX7 27 yX7_checkState wsX7_checkState) := goodIn_app (goodIn_of _ (by decide +kernel)) ggX7_smuggler_X7_checkState
set_option maxRecDepth 20000 in
theorem ggX7_smuggler_X3_hire : GoodIn wsX7_smuggler wsX3_hire := goodIn_r _ [19, 20, 21, 35, 36, 37, 38, 39] (by decide +kernel) (by decide +kernel)
set_option maxRecDepth 20000 in
theorem gX7_smuggler_X3_hire : GoodIn wsX7_smuggler (wsV RX7 60 RX3 yX3_hire wsX3_hire) := goodIn_app (goodIn_of _ (by decide +kernel)) ggX7_smuggler_X3_hire
theorem dX7_smuggler_0 : decode cX7_smuggler 0 = .ok (.iload_n 1, 1) := by decide +kernel
theorem dX7_smuggler_1 : decode cX7_smuggler 1 = .ok (.iconst 2, 1) := by decide +kernel
theorem dX7_smuggler_2 : decode cX7_smuggler 2 = .ok (.bipush 14, 2) := by decide +kernel
theorem dX7_smuggler_4 : decode cX7_smuggler 4 = .ok (.invokestatic 19, 3) := by decide +kernel
theorem dX7_smuggler_7 : decode cX7_smuggler 7 = .ok (.iload_n 2, 1) := by decide +kernel
theorem dX7_smuggler_8 : decode cX7_smuggler 8 = .ok (.iconst 1, 1) := by decide +kernel
theorem dX7_smuggler_9 : decode cX7_smuggler 9 = .ok (.bipush 30, 2) := by decide +kernel
theorem dX7_smuggler_11 : decode cX7_smuggler 11 = .ok (.invokestatic 19, 3) := by decide +kernel
theorem dX7_smuggler_14 : decode cX7_smuggler 14 = .ok (.aload_n 0, 1) := by decide +kernel
theorem dX7_smuggler_15 : decode cX7_smuggler 15 = .ok (.getfield 10, 3) := by decide +kernel
theorem dX7_smuggler_18 : decode cX7_smuggler 18 = .ok (.getfield 53, 3) := by decide +kernel
theorem dX7_smuggler_21 : decode cX7_smuggler 21 = .ok (.iconst 4, 1) := by decide +kernel
theorem dX7_smuggler_22 : decode cX7_smuggler 22 = .ok (.if_icmp .ge 7, 3) := by decide +kernel
theorem dX7_smuggler_25 : decode cX7_smuggler 25 = .ok (.iconst 1, 1) := by decide +kernel
theorem dX7_smuggler_26 : decode cX7_smuggler 26 = .ok (.goto 4, 3) := by decide +kernel
theorem dX7_smuggler_29 : decode cX7_smuggler 29 = .ok (.iconst 0, 1) := by decide +kernel
theorem dX7_smuggler_30 : decode cX7_smuggler 30 = .ok (.invokestatic 27, 3) := by decide +kernel
theorem dX7_smuggler_33 : decode cX7_smuggler 33 = .ok (.aload_n 0, 1) := by decide +kernel
theorem dX7_smuggler_34 : decode cX7_smuggler 34 = .ok (.getfield 10, 3) := by decide +kernel
theorem dX7_smuggler_37 : decode cX7_smuggler 37 = .ok (.getfield 56, 3) := by decide +kernel
theorem dX7_smuggler_40 : decode cX7_smuggler 40 = .ok (.aload_n 0, 1) := by decide +kernel
theorem dX7_smuggler_41 : decode cX7_smuggler 41 = .ok (.getfield 10, 3) := by decide +kernel
theorem dX7_smuggler_44 : decode cX7_smuggler 44 = .ok (.getfield 53, 3) := by decide +kernel
theorem dX7_smuggler_47 : decode cX7_smuggler 47 = .ok (.aaload, 1) := by decide +kernel
theorem dX7_smuggler_48 : decode cX7_smuggler 48 = .ok (.iload_n 1, 1) := by decide +kernel
theorem dX7_smuggler_49 : decode cX7_smuggler 49 = .ok (.iload_n 2, 1) := by decide +kernel
theorem dX7_smuggler_50 : decode cX7_smuggler 50 = .ok (.invokevirtual 60, 3) := by decide +kernel
theorem dX7_smuggler_53 : decode cX7_smuggler 53 = .ok (.aload_n 0, 1) := by decide +kernel
theorem dX7_smuggler_54 : decode cX7_smuggler 54 = .ok (.getfield 10, 3) := by decide +kernel
theorem dX7_smuggler_57 : decode cX7_smuggler 57 = .ok (.dup, 1) := by decide +kernel
theorem dX7_smuggler_58 : decode cX7_smuggler 58 = .ok (.getfield 53, 3) := by decide +kernel
theorem dX7_smuggler_61 : decode cX7_smuggler 61 = .ok (.dup_x1, 1) := by decide +kernel
theorem dX7_smuggler_62 : decode cX7_smuggler 62 = .ok (.iconst 1, 1) := by decide +kernel
theorem dX7_smuggler_63 : decode cX7_smuggler 63 = .ok (.iadd, 1) := by decide +kernel
theorem dX7_smuggler_64 : decode cX7_smuggler 64 = .ok (.putfield 53, 3) := by decide +kernel
theorem dX7_smuggler_67 : decode cX7_smuggler 67 = .ok (.ireturn, 1) := by decide +kernel
set_option maxRecDepth 20000 in
theorem ggX7_card_X7_checkNumber : GoodIn wsX7_card wsX7_checkNumber := goodIn_ca (goodIn_r _ [7, 8, 9] (by decide +kernel) (by decide +kernel)) (goodIn_sub (fun _ h => List.mem_cons_of_mem _ (List.mem_append_left _ (List.mem_append_right _ h))) (by decide +kernel))
set_option maxRecDepth 20000 in
theorem gX7_card_X7_checkNumber : GoodIn wsX7_card (va_wsS RX7 19 yX7_checkNumber wsX7_checkNumber) := goodIn_app (goodIn_of _ (by decide +kernel)) ggX7_card_X7_checkNumber
set_option maxRecDepth 20000 in
theorem ggX7_card_X7_checkState : GoodIn wsX7_card wsX7_checkState := goodIn_ca (goodIn_r _ [12, 13, 14] (by decide +kernel) (by decide +kernel)) (goodIn_sub (fun _ h => List.mem_cons_of_mem _ (List.mem_append_right _ h)) (by decide +kernel))
set_option maxRecDepth 20000 in
theorem gX7_card_X7_checkState : GoodIn wsX7_card (va_wsS RX7 27 yX7_checkState wsX7_checkState) := goodIn_app (goodIn_of _ (by decide +kernel)) ggX7_card_X7_checkState
set_option maxRecDepth 20000 in
theorem ggX7_card_X1_issue : GoodIn wsX7_card wsX1_issue := goodIn_r _ [19, 20, 21, 22, 36, 37, 38, 39, 40] (by decide +kernel) (by decide +kernel)
set_option maxRecDepth 20000 in
theorem gX7_card_X1_issue : GoodIn wsX7_card (wsV RX7 72 RX1 yX1_issue wsX1_issue) := goodIn_app (goodIn_of _ (by decide +kernel)) ggX7_card_X1_issue
theorem dX7_card_0 : decode cX7_card 0 = .ok (.iload_n 1, 1) := by decide +kernel
theorem dX7_card_1 : decode cX7_card 1 = .ok (.iconst 1, 1) := by decide +kernel
theorem dX7_card_2 : decode cX7_card 2 = .ok (.bipush 9, 2) := by decide +kernel
theorem dX7_card_4 : decode cX7_card 4 = .ok (.invokestatic 19, 3) := by decide +kernel
theorem dX7_card_7 : decode cX7_card 7 = .ok (.iload_n 2, 1) := by decide +kernel
theorem dX7_card_8 : decode cX7_card 8 = .ok (.iconst 0, 1) := by decide +kernel
theorem dX7_card_9 : decode cX7_card 9 = .ok (.bipush 10, 2) := by decide +kernel
theorem dX7_card_11 : decode cX7_card 11 = .ok (.invokestatic 19, 3) := by decide +kernel
theorem dX7_card_14 : decode cX7_card 14 = .ok (.aload_n 0, 1) := by decide +kernel
theorem dX7_card_15 : decode cX7_card 15 = .ok (.getfield 10, 3) := by decide +kernel
theorem dX7_card_18 : decode cX7_card 18 = .ok (.getfield 65, 3) := by decide +kernel
theorem dX7_card_21 : decode cX7_card 21 = .ok (.bipush 10, 2) := by decide +kernel
theorem dX7_card_23 : decode cX7_card 23 = .ok (.if_icmp .ge 7, 3) := by decide +kernel
theorem dX7_card_26 : decode cX7_card 26 = .ok (.iconst 1, 1) := by decide +kernel
theorem dX7_card_27 : decode cX7_card 27 = .ok (.goto 4, 3) := by decide +kernel
theorem dX7_card_30 : decode cX7_card 30 = .ok (.iconst 0, 1) := by decide +kernel
theorem dX7_card_31 : decode cX7_card 31 = .ok (.invokestatic 27, 3) := by decide +kernel
theorem dX7_card_34 : decode cX7_card 34 = .ok (.aload_n 0, 1) := by decide +kernel
theorem dX7_card_35 : decode cX7_card 35 = .ok (.getfield 10, 3) := by decide +kernel
theorem dX7_card_38 : decode cX7_card 38 = .ok (.getfield 68, 3) := by decide +kernel
theorem dX7_card_41 : decode cX7_card 41 = .ok (.aload_n 0, 1) := by decide +kernel
theorem dX7_card_42 : decode cX7_card 42 = .ok (.getfield 10, 3) := by decide +kernel
theorem dX7_card_45 : decode cX7_card 45 = .ok (.getfield 65, 3) := by decide +kernel
theorem dX7_card_48 : decode cX7_card 48 = .ok (.aaload, 1) := by decide +kernel
theorem dX7_card_49 : decode cX7_card 49 = .ok (.iload_n 1, 1) := by decide +kernel
theorem dX7_card_50 : decode cX7_card 50 = .ok (.iload_n 2, 1) := by decide +kernel
theorem dX7_card_51 : decode cX7_card 51 = .ok (.invokevirtual 72, 3) := by decide +kernel
theorem dX7_card_54 : decode cX7_card 54 = .ok (.aload_n 0, 1) := by decide +kernel
theorem dX7_card_55 : decode cX7_card 55 = .ok (.getfield 10, 3) := by decide +kernel
theorem dX7_card_58 : decode cX7_card 58 = .ok (.dup, 1) := by decide +kernel
theorem dX7_card_59 : decode cX7_card 59 = .ok (.getfield 65, 3) := by decide +kernel
theorem dX7_card_62 : decode cX7_card 62 = .ok (.dup_x1, 1) := by decide +kernel
theorem dX7_card_63 : decode cX7_card 63 = .ok (.iconst 1, 1) := by decide +kernel
theorem dX7_card_64 : decode cX7_card 64 = .ok (.iadd, 1) := by decide +kernel
theorem dX7_card_65 : decode cX7_card 65 = .ok (.putfield 65, 3) := by decide +kernel
theorem dX7_card_68 : decode cX7_card 68 = .ok (.ireturn, 1) := by decide +kernel
set_option maxRecDepth 20000 in
theorem ggX7_setPatrol_X7_checkNumber : GoodIn wsX7_setPatrol wsX7_checkNumber := goodIn_ca (goodIn_r _ [6, 7, 8] (by decide +kernel) (by decide +kernel)) (goodIn_sub (fun _ h => List.mem_cons_of_mem _ (List.mem_append_right _ h)) (by decide +kernel))
set_option maxRecDepth 20000 in
theorem gX7_setPatrol_X7_checkNumber : GoodIn wsX7_setPatrol (va_wsS RX7 19 yX7_checkNumber wsX7_checkNumber) := goodIn_app (goodIn_of _ (by decide +kernel)) ggX7_setPatrol_X7_checkNumber
theorem dX7_setPatrol_0 : decode cX7_setPatrol 0 = .ok (.iload_n 1, 1) := by decide +kernel
theorem dX7_setPatrol_1 : decode cX7_setPatrol 1 = .ok (.iconst 0, 1) := by decide +kernel
theorem dX7_setPatrol_2 : decode cX7_setPatrol 2 = .ok (.bipush 127, 2) := by decide +kernel
theorem dX7_setPatrol_4 : decode cX7_setPatrol 4 = .ok (.invokestatic 19, 3) := by decide +kernel
theorem dX7_setPatrol_7 : decode cX7_setPatrol 7 = .ok (.aload_n 0, 1) := by decide +kernel
theorem dX7_setPatrol_8 : decode cX7_setPatrol 8 = .ok (.getfield 10, 3) := by decide +kernel
theorem dX7_setPatrol_11 : decode cX7_setPatrol 11 = .ok (.getfield 77, 3) := by decide +kernel
theorem dX7_setPatrol_14 : decode cX7_setPatrol 14 = .ok (.istore_n 2, 1) := by decide +kernel
theorem dX7_setPatrol_15 : decode cX7_setPatrol 15 = .ok (.aload_n 0, 1) := by decide +kernel
theorem dX7_setPatrol_16 : decode cX7_setPatrol 16 = .ok (.getfield 10, 3) := by decide +kernel
theorem dX7_setPatrol_19 : decode cX7_setPatrol 19 = .ok (.iload_n 1, 1) := by decide +kernel
theorem dX7_setPatrol_20 : decode cX7_setPatrol 20 = .ok (.putfield 77, 3) := by decide +kernel
theorem dX7_setPatrol_23 : decode cX7_setPatrol 23 = .ok (.iload_n 2, 1) := by decide +kernel
theorem dX7_setPatrol_24 : decode cX7_setPatrol 24 = .ok (.ireturn, 1) := by decide +kernel
set_option maxRecDepth 20000 in
theorem ggX7_setShare_X7_checkNumber : GoodIn wsX7_setShare wsX7_checkNumber := goodIn_ca (goodIn_r _ [7, 8, 9] (by decide +kernel) (by decide +kernel)) (goodIn_sub (fun _ h => List.mem_cons_of_mem _ (List.mem_append_right _ h)) (by decide +kernel))
set_option maxRecDepth 20000 in
theorem gX7_setShare_X7_checkNumber : GoodIn wsX7_setShare (va_wsS RX7 19 yX7_checkNumber wsX7_checkNumber) := goodIn_app (goodIn_of _ (by decide +kernel)) ggX7_setShare_X7_checkNumber
theorem dX7_setShare_0 : decode cX7_setShare 0 = .ok (.iload_n 1, 1) := by decide +kernel
theorem dX7_setShare_1 : decode cX7_setShare 1 = .ok (.iconst 0, 1) := by decide +kernel
theorem dX7_setShare_2 : decode cX7_setShare 2 = .ok (.bipush 10, 2) := by decide +kernel
theorem dX7_setShare_4 : decode cX7_setShare 4 = .ok (.invokestatic 19, 3) := by decide +kernel
theorem dX7_setShare_7 : decode cX7_setShare 7 = .ok (.aload_n 0, 1) := by decide +kernel
theorem dX7_setShare_8 : decode cX7_setShare 8 = .ok (.getfield 10, 3) := by decide +kernel
theorem dX7_setShare_11 : decode cX7_setShare 11 = .ok (.getfield 80, 3) := by decide +kernel
theorem dX7_setShare_14 : decode cX7_setShare 14 = .ok (.getfield 84, 3) := by decide +kernel
theorem dX7_setShare_17 : decode cX7_setShare 17 = .ok (.istore_n 2, 1) := by decide +kernel
theorem dX7_setShare_18 : decode cX7_setShare 18 = .ok (.aload_n 0, 1) := by decide +kernel
theorem dX7_setShare_19 : decode cX7_setShare 19 = .ok (.getfield 10, 3) := by decide +kernel
theorem dX7_setShare_22 : decode cX7_setShare 22 = .ok (.getfield 80, 3) := by decide +kernel
theorem dX7_setShare_25 : decode cX7_setShare 25 = .ok (.iload_n 1, 1) := by decide +kernel
theorem dX7_setShare_26 : decode cX7_setShare 26 = .ok (.putfield 84, 3) := by decide +kernel
end
section
theorem dX7_setShare_29 : decode cX7_setShare 29 = .ok (.iload_n 2, 1) := by decide +kernel
theorem dX7_setShare_30 : decode cX7_setShare 30 = .ok (.ireturn, 1) := by decide +kernel
set_option maxRecDepth 20000 in
theorem ggX7_setHeat_X7_checkIndex : GoodIn wsX7_setHeat wsX7_checkIndex := goodIn_ca (goodIn_r _ [8, 9, 10] (by decide +kernel) (by decide +kernel)) (goodIn_sub (fun _ h => List.mem_cons_of_mem _ (List.mem_append_left _ (List.mem_append_right _ h))) (by decide +kernel))
set_option maxRecDepth 20000 in
theorem gX7_setHeat_X7_checkIndex : GoodIn wsX7_setHeat (va_wsS RX7 89 yX7_checkIndex wsX7_checkIndex) := goodIn_app (goodIn_of _ (by decide +kernel)) ggX7_setHeat_X7_checkIndex
set_option maxRecDepth 20000 in
theorem ggX7_setHeat_X7_checkNumber : GoodIn wsX7_setHeat wsX7_checkNumber := goodIn_ca (goodIn_r _ [13, 14, 15] (by decide +kernel) (by decide +kernel)) (goodIn_sub (fun _ h => List.mem_cons_of_mem _ (List.mem_append_right _ h)) (by decide +kernel))
set_option maxRecDepth 20000 in
theorem gX7_setHeat_X7_checkNumber : GoodIn wsX7_setHeat (va_wsS RX7 19 yX7_checkNumber wsX7_checkNumber) := goodIn_app (goodIn_of _ (by decide +kernel)) ggX7_setHeat_X7_checkNumber
theorem dX7_setHeat_0 : decode cX7_setHeat 0 = .ok (.iload_n 1, 1) := by decide +kernel
theorem dX7_setHeat_1 : decode cX7_setHeat 1 = .ok (.aload_n 0, 1) := by decide +kernel
theorem dX7_setHeat_2 : decode cX7_setHeat 2 = .ok (.getfield 10, 3) := by decide +kernel
theorem dX7_setHeat_5 : decode cX7_setHeat 5 = .ok (.getfield 41, 3) := by decide +kernel
theorem dX7_setHeat_8 : decode cX7_setHeat 8 = .ok (.invokestatic 89, 3) := by decide +kernel
theorem dX7_setHeat_11 : decode cX7_setHeat 11 = .ok (.iload_n 2, 1) := by decide +kernel
theorem dX7_setHeat_12 : decode cX7_setHeat 12 = .ok (.iconst 0, 1) := by decide +kernel
theorem dX7_setHeat_13 : decode cX7_setHeat 13 = .ok (.bipush 9, 2) := by decide +kernel
theorem dX7_setHeat_15 : decode cX7_setHeat 15 = .ok (.invokestatic 19, 3) := by decide +kernel
theorem dX7_setHeat_18 : decode cX7_setHeat 18 = .ok (.aload_n 0, 1) := by decide +kernel
theorem dX7_setHeat_19 : decode cX7_setHeat 19 = .ok (.getfield 10, 3) := by decide +kernel
theorem dX7_setHeat_22 : decode cX7_setHeat 22 = .ok (.getfield 44, 3) := by decide +kernel
theorem dX7_setHeat_25 : decode cX7_setHeat 25 = .ok (.iload_n 1, 1) := by decide +kernel
theorem dX7_setHeat_26 : decode cX7_setHeat 26 = .ok (.aaload, 1) := by decide +kernel
theorem dX7_setHeat_27 : decode cX7_setHeat 27 = .ok (.getfield 92, 3) := by decide +kernel
theorem dX7_setHeat_30 : decode cX7_setHeat 30 = .ok (.istore_n 3, 1) := by decide +kernel
theorem dX7_setHeat_31 : decode cX7_setHeat 31 = .ok (.aload_n 0, 1) := by decide +kernel
theorem dX7_setHeat_32 : decode cX7_setHeat 32 = .ok (.getfield 10, 3) := by decide +kernel
theorem dX7_setHeat_35 : decode cX7_setHeat 35 = .ok (.getfield 44, 3) := by decide +kernel
theorem dX7_setHeat_38 : decode cX7_setHeat 38 = .ok (.iload_n 1, 1) := by decide +kernel
theorem dX7_setHeat_39 : decode cX7_setHeat 39 = .ok (.aaload, 1) := by decide +kernel
theorem dX7_setHeat_40 : decode cX7_setHeat 40 = .ok (.iload_n 2, 1) := by decide +kernel
theorem dX7_setHeat_41 : decode cX7_setHeat 41 = .ok (.putfield 92, 3) := by decide +kernel
theorem dX7_setHeat_44 : decode cX7_setHeat 44 = .ok (.iload_n 3, 1) := by decide +kernel
theorem dX7_setHeat_45 : decode cX7_setHeat 45 = .ok (.ireturn, 1) := by decide +kernel
set_option maxRecDepth 20000 in
theorem ggX7_dig_X7_checkIndex : GoodIn wsX7_dig wsX7_checkIndex := goodIn_ca (goodIn_r _ [9, 10, 11] (by decide +kernel) (by decide +kernel)) (goodIn_sub (fun _ h => List.mem_cons_of_mem _ (List.mem_append_left _ (List.mem_append_left _ (List.mem_append_right _ h)))) (by decide +kernel))
set_option maxRecDepth 20000 in
theorem gX7_dig_X7_checkIndex : GoodIn wsX7_dig (va_wsS RX7 89 yX7_checkIndex wsX7_checkIndex) := goodIn_app (goodIn_of _ (by decide +kernel)) ggX7_dig_X7_checkIndex
set_option maxRecDepth 20000 in
theorem ggX7_dig_X7_checkNumber : GoodIn wsX7_dig wsX7_checkNumber := goodIn_ca (goodIn_r _ [14, 15, 16] (by decide +kernel) (by decide +kernel)) (goodIn_sub (fun _ h => List.mem_cons_of_mem _ (List.mem_append_left _ (List.mem_append_right _ h))) (by decide +kernel))
set_option maxRecDepth 20000 in
theorem gX7_dig_X7_checkNumber : GoodIn wsX7_dig (va_wsS RX7 19 yX7_checkNumber wsX7_checkNumber) := goodIn_app (goodIn_of _ (by decide +kernel)) ggX7_dig_X7_checkNumber
set_option maxRecDepth 20000 in
theorem ggX7_dig_X7_checkState : GoodIn wsX7_dig wsX7_checkState := goodIn_ca (goodIn_r _ [19, 20, 21] (by decide +kernel) (by decide +kernel)) (goodIn_sub (fun _ h => List.mem_cons_of_mem _ (List.mem_append_right _ h)) (by decide +kernel))
set_option maxRecDepth 20000 in
theorem gX7_dig_X7_checkState : GoodIn wsX7_dig (va_wsS RX7 27 yX7_checkState wsX7_checkState) := goodIn_app (goodIn_of _ (by decide +kernel)) ggX7_dig_X7_checkState
set_option maxRecDepth 20000 in
theorem ggX7_dig_X4_add : GoodIn wsX7_dig wsX4_add := goodIn_r _ [26, 27, 28, 45, 46, 47, 48, 49, 50, 51] (by decide +kernel) (by decide +kernel)
set_option maxRecDepth 20000 in
theorem gX7_dig_X4_add : GoodIn wsX7_dig (wsV RX7 98 RX4 yX4_add wsX4_add) := goodIn_app (goodIn_of _ (by decide +kernel)) ggX7_dig_X4_add
theorem dX7_dig_0 : decode cX7_dig 0 = .ok (.iload_n 1, 1) := by decide +kernel
theorem dX7_dig_1 : decode cX7_dig 1 = .ok (.aload_n 0, 1) := by decide +kernel
theorem dX7_dig_2 : decode cX7_dig 2 = .ok (.getfield 10, 3) := by decide +kernel
theorem dX7_dig_5 : decode cX7_dig 5 = .ok (.getfield 23, 3) := by decide +kernel
theorem dX7_dig_8 : decode cX7_dig 8 = .ok (.invokestatic 89, 3) := by decide +kernel
theorem dX7_dig_11 : decode cX7_dig 11 = .ok (.iload_n 2, 1) := by decide +kernel
theorem dX7_dig_12 : decode cX7_dig 12 = .ok (.iconst 1, 1) := by decide +kernel
theorem dX7_dig_13 : decode cX7_dig 13 = .ok (.bipush 99, 2) := by decide +kernel
theorem dX7_dig_15 : decode cX7_dig 15 = .ok (.invokestatic 19, 3) := by decide +kernel
theorem dX7_dig_18 : decode cX7_dig 18 = .ok (.aload_n 0, 1) := by decide +kernel
theorem dX7_dig_19 : decode cX7_dig 19 = .ok (.getfield 10, 3) := by decide +kernel
theorem dX7_dig_22 : decode cX7_dig 22 = .ok (.getfield 31, 3) := by decide +kernel
theorem dX7_dig_25 : decode cX7_dig 25 = .ok (.iload_n 1, 1) := by decide +kernel
theorem dX7_dig_26 : decode cX7_dig 26 = .ok (.aaload, 1) := by decide +kernel
theorem dX7_dig_27 : decode cX7_dig 27 = .ok (.getfield 95, 3) := by decide +kernel
theorem dX7_dig_30 : decode cX7_dig 30 = .ok (.iload_n 2, 1) := by decide +kernel
theorem dX7_dig_31 : decode cX7_dig 31 = .ok (.if_icmp .lt 7, 3) := by decide +kernel
theorem dX7_dig_34 : decode cX7_dig 34 = .ok (.iconst 1, 1) := by decide +kernel
theorem dX7_dig_35 : decode cX7_dig 35 = .ok (.goto 4, 3) := by decide +kernel
theorem dX7_dig_38 : decode cX7_dig 38 = .ok (.iconst 0, 1) := by decide +kernel
theorem dX7_dig_39 : decode cX7_dig 39 = .ok (.invokestatic 27, 3) := by decide +kernel
theorem dX7_dig_42 : decode cX7_dig 42 = .ok (.aload_n 0, 1) := by decide +kernel
theorem dX7_dig_43 : decode cX7_dig 43 = .ok (.getfield 10, 3) := by decide +kernel
theorem dX7_dig_46 : decode cX7_dig 46 = .ok (.getfield 31, 3) := by decide +kernel
theorem dX7_dig_49 : decode cX7_dig 49 = .ok (.iload_n 1, 1) := by decide +kernel
theorem dX7_dig_50 : decode cX7_dig 50 = .ok (.aaload, 1) := by decide +kernel
theorem dX7_dig_51 : decode cX7_dig 51 = .ok (.dup, 1) := by decide +kernel
theorem dX7_dig_52 : decode cX7_dig 52 = .ok (.getfield 95, 3) := by decide +kernel
theorem dX7_dig_55 : decode cX7_dig 55 = .ok (.iload_n 2, 1) := by decide +kernel
theorem dX7_dig_56 : decode cX7_dig 56 = .ok (.isub, 1) := by decide +kernel
theorem dX7_dig_57 : decode cX7_dig 57 = .ok (.putfield 95, 3) := by decide +kernel
theorem dX7_dig_60 : decode cX7_dig 60 = .ok (.aload_n 0, 1) := by decide +kernel
theorem dX7_dig_61 : decode cX7_dig 61 = .ok (.getfield 10, 3) := by decide +kernel
theorem dX7_dig_64 : decode cX7_dig 64 = .ok (.getfield 80, 3) := by decide +kernel
theorem dX7_dig_67 : decode cX7_dig 67 = .ok (.iconst 0, 1) := by decide +kernel
theorem dX7_dig_68 : decode cX7_dig 68 = .ok (.iload_n 2, 1) := by decide +kernel
theorem dX7_dig_69 : decode cX7_dig 69 = .ok (.invokevirtual 98, 3) := by decide +kernel
theorem dX7_dig_72 : decode cX7_dig 72 = .ok (.aload_n 0, 1) := by decide +kernel
theorem dX7_dig_73 : decode cX7_dig 73 = .ok (.getfield 10, 3) := by decide +kernel
theorem dX7_dig_76 : decode cX7_dig 76 = .ok (.getfield 31, 3) := by decide +kernel
theorem dX7_dig_79 : decode cX7_dig 79 = .ok (.iload_n 1, 1) := by decide +kernel
theorem dX7_dig_80 : decode cX7_dig 80 = .ok (.aaload, 1) := by decide +kernel
theorem dX7_dig_81 : decode cX7_dig 81 = .ok (.getfield 95, 3) := by decide +kernel
theorem dX7_dig_84 : decode cX7_dig 84 = .ok (.ireturn, 1) := by decide +kernel
set_option maxRecDepth 20000 in
theorem ggX7_give_X7_checkIndex : GoodIn wsX7_give wsX7_checkIndex := goodIn_ca (goodIn_r _ [6, 7, 8] (by decide +kernel) (by decide +kernel)) (goodIn_sub (fun _ h => List.mem_cons_of_mem _ (List.mem_append_left _ (List.mem_append_right _ h))) (by decide +kernel))
set_option maxRecDepth 20000 in
theorem gX7_give_X7_checkIndex : GoodIn wsX7_give (va_wsS RX7 89 yX7_checkIndex wsX7_checkIndex) := goodIn_app (goodIn_of _ (by decide +kernel)) ggX7_give_X7_checkIndex
set_option maxRecDepth 20000 in
theorem ggX7_give_X7_checkNumber : GoodIn wsX7_give wsX7_checkNumber := goodIn_ca (goodIn_r _ [11, 12, 13] (by decide +kernel) (by decide +kernel)) (goodIn_sub (fun _ h => List.mem_cons_of_mem _ (List.mem_append_right _ h)) (by decide +kernel))
set_option maxRecDepth 20000 in
theorem gX7_give_X7_checkNumber : GoodIn wsX7_give (va_wsS RX7 19 yX7_checkNumber wsX7_checkNumber) := goodIn_app (goodIn_of _ (by decide +kernel)) ggX7_give_X7_checkNumber
set_option maxRecDepth 20000 in
theorem ggX7_give_X4_add : GoodIn wsX7_give wsX4_add := goodIn_r _ [18, 19, 20, 38, 39, 40, 41, 42, 43, 44] (by decide +kernel) (by decide +kernel)
set_option maxRecDepth 20000 in
theorem gX7_give_X4_add : GoodIn wsX7_give (wsV RX7 98 RX4 yX4_add wsX4_add) := goodIn_app (goodIn_of _ (by decide +kernel)) ggX7_give_X4_add
set_option maxRecDepth 20000 in
theorem ggX7_give_X4_stock : GoodIn wsX7_give wsX4_stock := goodIn_r _ [24, 19, 20, 38, 39, 40, 41, 42, 43, 44] (by decide +kernel) (by decide +kernel)
set_option maxRecDepth 20000 in
theorem gX7_give_X4_stock : GoodIn wsX7_give (wsV RX7 101 RX4 yX4_stock wsX4_stock) := goodIn_app (goodIn_of _ (by decide +kernel)) ggX7_give_X4_stock
theorem dX7_give_0 : decode cX7_give 0 = .ok (.iload_n 1, 1) := by decide +kernel
theorem dX7_give_1 : decode cX7_give 1 = .ok (.iconst 2, 1) := by decide +kernel
theorem dX7_give_2 : decode cX7_give 2 = .ok (.invokestatic 89, 3) := by decide +kernel
theorem dX7_give_5 : decode cX7_give 5 = .ok (.iload_n 2, 1) := by decide +kernel
theorem dX7_give_6 : decode cX7_give 6 = .ok (.iconst 1, 1) := by decide +kernel
theorem dX7_give_7 : decode cX7_give 7 = .ok (.bipush 99, 2) := by decide +kernel
theorem dX7_give_9 : decode cX7_give 9 = .ok (.invokestatic 19, 3) := by decide +kernel
theorem dX7_give_12 : decode cX7_give 12 = .ok (.aload_n 0, 1) := by decide +kernel
theorem dX7_give_13 : decode cX7_give 13 = .ok (.getfield 10, 3) := by decide +kernel
theorem dX7_give_16 : decode cX7_give 16 = .ok (.getfield 80, 3) := by decide +kernel
theorem dX7_give_19 : decode cX7_give 19 = .ok (.iload_n 1, 1) := by decide +kernel
theorem dX7_give_20 : decode cX7_give 20 = .ok (.iload_n 2, 1) := by decide +kernel
theorem dX7_give_21 : decode cX7_give 21 = .ok (.invokevirtual 98, 3) := by decide +kernel
theorem dX7_give_24 : decode cX7_give 24 = .ok (.aload_n 0, 1) := by decide +kernel
theorem dX7_give_25 : decode cX7_give 25 = .ok (.getfield 10, 3) := by decide +kernel
theorem dX7_give_28 : decode cX7_give 28 = .ok (.getfield 80, 3) := by decide +kernel
theorem dX7_give_31 : decode cX7_give 31 = .ok (.iload_n 1, 1) := by decide +kernel
theorem dX7_give_32 : decode cX7_give 32 = .ok (.invokevirtual 101, 3) := by decide +kernel
theorem dX7_give_35 : decode cX7_give 35 = .ok (.ireturn, 1) := by decide +kernel
set_option maxRecDepth 20000 in
theorem ggX7_load_X7_checkIndex : GoodIn wsX7_load wsX7_checkIndex := goodIn_ca (goodIn_r _ [10, 11, 12] (by decide +kernel) (by decide +kernel)) (goodIn_sub (fun _ h => List.mem_cons_of_mem _ (List.mem_append_left _ (List.mem_append_left _ (List.mem_append_right _ h)))) (by decide +kernel))
set_option maxRecDepth 20000 in
theorem gX7_load_X7_checkIndex : GoodIn wsX7_load (va_wsS RX7 89 yX7_checkIndex wsX7_checkIndex) := goodIn_app (goodIn_of _ (by decide +kernel)) ggX7_load_X7_checkIndex
set_option maxRecDepth 20000 in
theorem ggX7_load_X7_checkNumber : GoodIn wsX7_load wsX7_checkNumber := goodIn_ca (goodIn_r _ [15, 16, 17] (by decide +kernel) (by decide +kernel)) (goodIn_sub (fun _ h => List.mem_cons_of_mem _ (List.mem_append_left _ (List.mem_append_right _ h))) (by decide +kernel))
set_option maxRecDepth 20000 in
theorem gX7_load_X7_checkNumber : GoodIn wsX7_load (va_wsS RX7 19 yX7_checkNumber wsX7_checkNumber) := goodIn_app (goodIn_of _ (by decide +kernel)) ggX7_load_X7_checkNumber
set_option maxRecDepth 20000 in
theorem ggX7_load_X7_checkState : GoodIn wsX7_load wsX7_checkState := goodIn_ca (goodIn_r _ [20, 21, 22] (by decide +kernel) (by decide +kernel)) (goodIn_sub (fun _ h => List.mem_cons_of_mem _ (List.mem_append_right _ h)) (by decide +kernel))
set_option maxRecDepth 20000 in
theorem gX7_load_X7_checkState : GoodIn wsX7_load (va_wsS RX7 27 yX7_checkState wsX7_checkState) := goodIn_app (goodIn_of _ (by decide +kernel)) ggX7_load_X7_checkState
set_option maxRecDepth 20000 in
theorem ggX7_load_X4_stock : GoodIn wsX7_load wsX4_stock := goodIn_r _ [27, 28, 29, 60, 61, 62, 63, 64, 65, 66] (by decide +kernel) (by decide +kernel)
set_option maxRecDepth 20000 in
theorem gX7_load_X4_stock : GoodIn wsX7_load (wsV RX7 101 RX4 yX4_stock wsX4_stock) := goodIn_app (goodIn_of _ (by decide +kernel)) ggX7_load_X4_stock
set_option maxRecDepth 20000 in
theorem ggX7_load_X4_add : GoodIn wsX7_load wsX4_add := goodIn_r _ [33, 28, 29, 60, 61, 62, 63, 64, 65, 66] (by decide +kernel) (by decide +kernel)
set_option maxRecDepth 20000 in
theorem gX7_load_X4_add : GoodIn wsX7_load (wsV RX7 98 RX4 yX4_add wsX4_add) := goodIn_app (goodIn_of _ (by decide +kernel)) ggX7_load_X4_add
set_option maxRecDepth 20000 in
theorem ggX7_load_X2_fill : GoodIn wsX7_load wsX2_fill := goodIn_r _ [38, 39, 40, 41, 55, 56, 57, 58, 59] (by decide +kernel) (by decide +kernel)
set_option maxRecDepth 20000 in
theorem gX7_load_X2_fill : GoodIn wsX7_load (wsV RX7 111 RX2 yX2_fill wsX2_fill) := goodIn_app (goodIn_of _ (by decide +kernel)) ggX7_load_X2_fill
theorem dX7_load_0 : decode cX7_load 0 = .ok (.iload_n 1, 1) := by decide +kernel
theorem dX7_load_1 : decode cX7_load 1 = .ok (.aload_n 0, 1) := by decide +kernel
theorem dX7_load_2 : decode cX7_load 2 = .ok (.getfield 10, 3) := by decide +kernel
theorem dX7_load_5 : decode cX7_load 5 = .ok (.getfield 41, 3) := by decide +kernel
theorem dX7_load_8 : decode cX7_load 8 = .ok (.invokestatic 89, 3) := by decide +kernel
theorem dX7_load_11 : decode cX7_load 11 = .ok (.iload_n 2, 1) := by decide +kernel
theorem dX7_load_12 : decode cX7_load 12 = .ok (.iconst 2, 1) := by decide +kernel
theorem dX7_load_13 : decode cX7_load 13 = .ok (.invokestatic 89, 3) := by decide +kernel
theorem dX7_load_16 : decode cX7_load 16 = .ok (.iload_n 3, 1) := by decide +kernel
theorem dX7_load_17 : decode cX7_load 17 = .ok (.iconst 1, 1) := by decide +kernel
theorem dX7_load_18 : decode cX7_load 18 = .ok (.aload_n 0, 1) := by decide +kernel
theorem dX7_load_19 : decode cX7_load 19 = .ok (.getfield 10, 3) := by decide +kernel
theorem dX7_load_22 : decode cX7_load 22 = .ok (.getfield 44, 3) := by decide +kernel
theorem dX7_load_25 : decode cX7_load 25 = .ok (.iload_n 1, 1) := by decide +kernel
theorem dX7_load_26 : decode cX7_load 26 = .ok (.aaload, 1) := by decide +kernel
theorem dX7_load_27 : decode cX7_load 27 = .ok (.getfield 105, 3) := by decide +kernel
theorem dX7_load_30 : decode cX7_load 30 = .ok (.invokestatic 19, 3) := by decide +kernel
theorem dX7_load_33 : decode cX7_load 33 = .ok (.aload_n 0, 1) := by decide +kernel
theorem dX7_load_34 : decode cX7_load 34 = .ok (.getfield 10, 3) := by decide +kernel
theorem dX7_load_37 : decode cX7_load 37 = .ok (.getfield 44, 3) := by decide +kernel
theorem dX7_load_40 : decode cX7_load 40 = .ok (.iload_n 1, 1) := by decide +kernel
theorem dX7_load_41 : decode cX7_load 41 = .ok (.aaload, 1) := by decide +kernel
theorem dX7_load_42 : decode cX7_load 42 = .ok (.getfield 108, 3) := by decide +kernel
theorem dX7_load_45 : decode cX7_load 45 = .ok (.iconst (-1), 1) := by decide +kernel
theorem dX7_load_46 : decode cX7_load 46 = .ok (.if_icmp .ne 7, 3) := by decide +kernel
theorem dX7_load_49 : decode cX7_load 49 = .ok (.iconst 1, 1) := by decide +kernel
theorem dX7_load_50 : decode cX7_load 50 = .ok (.goto 4, 3) := by decide +kernel
theorem dX7_load_53 : decode cX7_load 53 = .ok (.iconst 0, 1) := by decide +kernel
theorem dX7_load_54 : decode cX7_load 54 = .ok (.invokestatic 27, 3) := by decide +kernel
theorem dX7_load_57 : decode cX7_load 57 = .ok (.aload_n 0, 1) := by decide +kernel
theorem dX7_load_58 : decode cX7_load 58 = .ok (.getfield 10, 3) := by decide +kernel
theorem dX7_load_61 : decode cX7_load 61 = .ok (.getfield 80, 3) := by decide +kernel
theorem dX7_load_64 : decode cX7_load 64 = .ok (.iload_n 2, 1) := by decide +kernel
theorem dX7_load_65 : decode cX7_load 65 = .ok (.invokevirtual 101, 3) := by decide +kernel
theorem dX7_load_68 : decode cX7_load 68 = .ok (.iload_n 3, 1) := by decide +kernel
theorem dX7_load_69 : decode cX7_load 69 = .ok (.if_icmp .lt 7, 3) := by decide +kernel
theorem dX7_load_72 : decode cX7_load 72 = .ok (.iconst 1, 1) := by decide +kernel
theorem dX7_load_73 : decode cX7_load 73 = .ok (.goto 4, 3) := by decide +kernel
theorem dX7_load_76 : decode cX7_load 76 = .ok (.iconst 0, 1) := by decide +kernel
theorem dX7_load_77 : decode cX7_load 77 = .ok (.invokestatic 27, 3) := by decide +kernel
theorem dX7_load_80 : decode cX7_load 80 = .ok (.aload_n 0, 1) := by decide +kernel
theorem dX7_load_81 : decode cX7_load 81 = .ok (.getfield 10, 3) := by decide +kernel
theorem dX7_load_84 : decode cX7_load 84 = .ok (.getfield 80, 3) := by decide +kernel
theorem dX7_load_87 : decode cX7_load 87 = .ok (.iload_n 2, 1) := by decide +kernel
theorem dX7_load_88 : decode cX7_load 88 = .ok (.iload_n 3, 1) := by decide +kernel
theorem dX7_load_89 : decode cX7_load 89 = .ok (.ineg, 1) := by decide +kernel
theorem dX7_load_90 : decode cX7_load 90 = .ok (.invokevirtual 98, 3) := by decide +kernel
theorem dX7_load_93 : decode cX7_load 93 = .ok (.aload_n 0, 1) := by decide +kernel
theorem dX7_load_94 : decode cX7_load 94 = .ok (.getfield 10, 3) := by decide +kernel
theorem dX7_load_97 : decode cX7_load 97 = .ok (.getfield 44, 3) := by decide +kernel
theorem dX7_load_100 : decode cX7_load 100 = .ok (.iload_n 1, 1) := by decide +kernel
theorem dX7_load_101 : decode cX7_load 101 = .ok (.aaload, 1) := by decide +kernel
theorem dX7_load_102 : decode cX7_load 102 = .ok (.iload_n 2, 1) := by decide +kernel
theorem dX7_load_103 : decode cX7_load 103 = .ok (.iload_n 3, 1) := by decide +kernel
theorem dX7_load_104 : decode cX7_load 104 = .ok (.invokevirtual 111, 3) := by decide +kernel
theorem dX7_load_107 : decode cX7_load 107 = .ok (.aload_n 0, 1) := by decide +kernel
theorem dX7_load_108 : decode cX7_load 108 = .ok (.getfield 10, 3) := by decide +kernel
theorem dX7_load_111 : decode cX7_load 111 = .ok (.getfield 80, 3) := by decide +kernel
theorem dX7_load_114 : decode cX7_load 114 = .ok (.iload_n 2, 1) := by decide +kernel
theorem dX7_load_115 : decode cX7_load 115 = .ok (.invokevirtual 101, 3) := by decide +kernel
theorem dX7_load_118 : decode cX7_load 118 = .ok (.ireturn, 1) := by decide +kernel
set_option maxRecDepth 20000 in
theorem ggX7_take_X7_checkIndex : GoodIn wsX7_take wsX7_checkIndex := goodIn_ca (goodIn_r _ [10, 11, 12] (by decide +kernel) (by decide +kernel)) (goodIn_sub (fun _ h => List.mem_cons_of_mem _ (List.mem_append_left _ (List.mem_append_right _ h))) (by decide +kernel))
set_option maxRecDepth 20000 in
theorem gX7_take_X7_checkIndex : GoodIn wsX7_take (va_wsS RX7 89 yX7_checkIndex wsX7_checkIndex) := goodIn_app (goodIn_of _ (by decide +kernel)) ggX7_take_X7_checkIndex
set_option maxRecDepth 20000 in
theorem ggX7_take_X7_checkState : GoodIn wsX7_take wsX7_checkState := goodIn_ca (goodIn_r _ [15, 16, 17] (by decide +kernel) (by decide +kernel)) (goodIn_sub (fun _ h => List.mem_cons_of_mem _ (List.mem_append_right _ h)) (by decide +kernel))
set_option maxRecDepth 20000 in
theorem gX7_take_X7_checkState : GoodIn wsX7_take (va_wsS RX7 27 yX7_checkState wsX7_checkState) := goodIn_app (goodIn_of _ (by decide +kernel)) ggX7_take_X7_checkState
set_option maxRecDepth 20000 in
theorem ggX7_take_X2_partsAt : GoodIn wsX7_take wsX2_partsAt := goodIn_r _ [22, 23, 24, 25, 26, 27, 21, 28, 29, 30, 31, 32, 58, 59, 60, 61, 62] (by decide +kernel) (by decide +kernel)
set_option maxRecDepth 20000 in
theorem gX7_take_X2_partsAt : GoodIn wsX7_take (wsV RX7 117 RX2 yX2_partsAt wsX2_partsAt) := goodIn_app (goodIn_of _ (by decide +kernel)) ggX7_take_X2_partsAt
set_option maxRecDepth 20000 in
theorem ggX7_take_X4_addRoasted : GoodIn wsX7_take wsX4_addRoasted := goodIn_r _ [37, 38, 39, 63, 64, 65, 66, 67, 68, 69] (by decide +kernel) (by decide +kernel)
set_option maxRecDepth 20000 in
theorem gX7_take_X4_addRoasted : GoodIn wsX7_take (wsV RX7 120 RX4 yX4_addRoasted wsX4_addRoasted) := goodIn_app (goodIn_of _ (by decide +kernel)) ggX7_take_X4_addRoasted
set_option maxRecDepth 20000 in
theorem ggX7_take_X2_fill : GoodIn wsX7_take wsX2_fill := goodIn_r _ [43, 23, 24, 44, 58, 59, 60, 61, 62] (by decide +kernel) (by decide +kernel)
set_option maxRecDepth 20000 in
theorem gX7_take_X2_fill : GoodIn wsX7_take (wsV RX7 111 RX2 yX2_fill wsX2_fill) := goodIn_app (goodIn_of _ (by decide +kernel)) ggX7_take_X2_fill
theorem dX7_take_0 : decode cX7_take 0 = .ok (.iload_n 1, 1) := by decide +kernel
theorem dX7_take_1 : decode cX7_take 1 = .ok (.aload_n 0, 1) := by decide +kernel
theorem dX7_take_2 : decode cX7_take 2 = .ok (.getfield 10, 3) := by decide +kernel
theorem dX7_take_5 : decode cX7_take 5 = .ok (.getfield 41, 3) := by decide +kernel
theorem dX7_take_8 : decode cX7_take 8 = .ok (.invokestatic 89, 3) := by decide +kernel
theorem dX7_take_11 : decode cX7_take 11 = .ok (.aload_n 0, 1) := by decide +kernel
theorem dX7_take_12 : decode cX7_take 12 = .ok (.getfield 10, 3) := by decide +kernel
theorem dX7_take_15 : decode cX7_take 15 = .ok (.getfield 44, 3) := by decide +kernel
theorem dX7_take_18 : decode cX7_take 18 = .ok (.iload_n 1, 1) := by decide +kernel
theorem dX7_take_19 : decode cX7_take 19 = .ok (.aaload, 1) := by decide +kernel
theorem dX7_take_20 : decode cX7_take 20 = .ok (.astore_n 2, 1) := by decide +kernel
theorem dX7_take_21 : decode cX7_take 21 = .ok (.aload_n 2, 1) := by decide +kernel
theorem dX7_take_22 : decode cX7_take 22 = .ok (.getfield 108, 3) := by decide +kernel
theorem dX7_take_25 : decode cX7_take 25 = .ok (.iconst (-1), 1) := by decide +kernel
theorem dX7_take_26 : decode cX7_take 26 = .ok (.if_icmp .eq 7, 3) := by decide +kernel
theorem dX7_take_29 : decode cX7_take 29 = .ok (.iconst 1, 1) := by decide +kernel
theorem dX7_take_30 : decode cX7_take 30 = .ok (.goto 4, 3) := by decide +kernel
theorem dX7_take_33 : decode cX7_take 33 = .ok (.iconst 0, 1) := by decide +kernel
theorem dX7_take_34 : decode cX7_take 34 = .ok (.invokestatic 27, 3) := by decide +kernel
theorem dX7_take_37 : decode cX7_take 37 = .ok (.aload_n 2, 1) := by decide +kernel
theorem dX7_take_38 : decode cX7_take 38 = .ok (.aload_n 2, 1) := by decide +kernel
theorem dX7_take_39 : decode cX7_take 39 = .ok (.getfield 114, 3) := by decide +kernel
theorem dX7_take_42 : decode cX7_take 42 = .ok (.invokevirtual 117, 3) := by decide +kernel
theorem dX7_take_45 : decode cX7_take 45 = .ok (.istore_n 3, 1) := by decide +kernel
theorem dX7_take_46 : decode cX7_take 46 = .ok (.aload_n 0, 1) := by decide +kernel
theorem dX7_take_47 : decode cX7_take 47 = .ok (.getfield 10, 3) := by decide +kernel
theorem dX7_take_50 : decode cX7_take 50 = .ok (.getfield 80, 3) := by decide +kernel
theorem dX7_take_53 : decode cX7_take 53 = .ok (.aload_n 2, 1) := by decide +kernel
theorem dX7_take_54 : decode cX7_take 54 = .ok (.getfield 108, 3) := by decide +kernel
theorem dX7_take_57 : decode cX7_take 57 = .ok (.iload_n 3, 1) := by decide +kernel
theorem dX7_take_58 : decode cX7_take 58 = .ok (.invokevirtual 120, 3) := by decide +kernel
theorem dX7_take_61 : decode cX7_take 61 = .ok (.aload_n 2, 1) := by decide +kernel
theorem dX7_take_62 : decode cX7_take 62 = .ok (.iconst (-1), 1) := by decide +kernel
theorem dX7_take_63 : decode cX7_take 63 = .ok (.iconst 0, 1) := by decide +kernel
theorem dX7_take_64 : decode cX7_take 64 = .ok (.invokevirtual 111, 3) := by decide +kernel
theorem dX7_take_67 : decode cX7_take 67 = .ok (.iload_n 3, 1) := by decide +kernel
theorem dX7_take_68 : decode cX7_take 68 = .ok (.ireturn, 1) := by decide +kernel
set_option maxRecDepth 20000 in
theorem ggX7_send_X7_checkIndex : GoodIn wsX7_send wsX7_checkIndex := goodIn_ca (goodIn_r _ [9, 10, 11] (by decide +kernel) (by decide +kernel)) (goodIn_sub (fun _ h => List.mem_cons_of_mem _ (List.mem_append_left _ (List.mem_append_right _ h))) (by decide +kernel))
set_option maxRecDepth 20000 in
theorem gX7_send_X7_checkIndex : GoodIn wsX7_send (va_wsS RX7 89 yX7_checkIndex wsX7_checkIndex) := goodIn_app (goodIn_of _ (by decide +kernel)) ggX7_send_X7_checkIndex
set_option maxRecDepth 20000 in
theorem ggX7_send_X7_checkState : GoodIn wsX7_send wsX7_checkState := goodIn_ca (goodIn_r _ [14, 15, 16] (by decide +kernel) (by decide +kernel)) (goodIn_sub (fun _ h => List.mem_cons_of_mem _ (List.mem_append_right _ h)) (by decide +kernel))
set_option maxRecDepth 20000 in
theorem gX7_send_X7_checkState : GoodIn wsX7_send (va_wsS RX7 27 yX7_checkState wsX7_checkState) := goodIn_app (goodIn_of _ (by decide +kernel)) ggX7_send_X7_checkState
set_option maxRecDepth 20000 in
theorem ggX7_send_X3_setOut : GoodIn wsX7_send wsX3_setOut := goodIn_r _ [21, 22, 23, 24, 38, 39, 40, 41, 42] (by decide +kernel) (by decide +kernel)
set_option maxRecDepth 20000 in
theorem gX7_send_X3_setOut : GoodIn wsX7_send (wsV RX7 126 RX3 yX3_setOut wsX3_setOut) := goodIn_app (goodIn_of _ (by decide +kernel)) ggX7_send_X3_setOut
theorem dX7_send_0 : decode cX7_send 0 = .ok (.iload_n 1, 1) := by decide +kernel
theorem dX7_send_1 : decode cX7_send 1 = .ok (.aload_n 0, 1) := by decide +kernel
theorem dX7_send_2 : decode cX7_send 2 = .ok (.getfield 10, 3) := by decide +kernel
theorem dX7_send_5 : decode cX7_send 5 = .ok (.getfield 53, 3) := by decide +kernel
theorem dX7_send_8 : decode cX7_send 8 = .ok (.invokestatic 89, 3) := by decide +kernel
theorem dX7_send_11 : decode cX7_send 11 = .ok (.aload_n 0, 1) := by decide +kernel
theorem dX7_send_12 : decode cX7_send 12 = .ok (.getfield 10, 3) := by decide +kernel
theorem dX7_send_15 : decode cX7_send 15 = .ok (.getfield 56, 3) := by decide +kernel
theorem dX7_send_18 : decode cX7_send 18 = .ok (.iload_n 1, 1) := by decide +kernel
theorem dX7_send_19 : decode cX7_send 19 = .ok (.aaload, 1) := by decide +kernel
theorem dX7_send_20 : decode cX7_send 20 = .ok (.getfield 123, 3) := by decide +kernel
theorem dX7_send_23 : decode cX7_send 23 = .ok (.ifCond .ne 7, 3) := by decide +kernel
theorem dX7_send_26 : decode cX7_send 26 = .ok (.iconst 1, 1) := by decide +kernel
theorem dX7_send_27 : decode cX7_send 27 = .ok (.goto 4, 3) := by decide +kernel
theorem dX7_send_30 : decode cX7_send 30 = .ok (.iconst 0, 1) := by decide +kernel
theorem dX7_send_31 : decode cX7_send 31 = .ok (.invokestatic 27, 3) := by decide +kernel
theorem dX7_send_34 : decode cX7_send 34 = .ok (.aload_n 0, 1) := by decide +kernel
theorem dX7_send_35 : decode cX7_send 35 = .ok (.getfield 10, 3) := by decide +kernel
theorem dX7_send_38 : decode cX7_send 38 = .ok (.getfield 56, 3) := by decide +kernel
theorem dX7_send_41 : decode cX7_send 41 = .ok (.iload_n 1, 1) := by decide +kernel
theorem dX7_send_42 : decode cX7_send 42 = .ok (.aaload, 1) := by decide +kernel
theorem dX7_send_43 : decode cX7_send 43 = .ok (.invokevirtual 126, 3) := by decide +kernel
theorem dX7_send_46 : decode cX7_send 46 = .ok (.aload_n 0, 1) := by decide +kernel
theorem dX7_send_47 : decode cX7_send 47 = .ok (.getfield 10, 3) := by decide +kernel
theorem dX7_send_50 : decode cX7_send 50 = .ok (.getfield 56, 3) := by decide +kernel
theorem dX7_send_53 : decode cX7_send 53 = .ok (.iload_n 1, 1) := by decide +kernel
theorem dX7_send_54 : decode cX7_send 54 = .ok (.aaload, 1) := by decide +kernel
theorem dX7_send_55 : decode cX7_send 55 = .ok (.getfield 129, 3) := by decide +kernel
theorem dX7_send_58 : decode cX7_send 58 = .ok (.ireturn, 1) := by decide +kernel
set_option maxRecDepth 20000 in
theorem ggX7_about_X7_checkIndex : GoodIn wsX7_about wsX7_checkIndex := goodIn_ca (goodIn_r _ [7, 8, 9] (by decide +kernel) (by decide +kernel)) (goodIn_sub (fun _ h => List.mem_cons_of_mem _ (List.mem_append_right _ h)) (by decide +kernel))
set_option maxRecDepth 20000 in
theorem gX7_about_X7_checkIndex : GoodIn wsX7_about (va_wsS RX7 89 yX7_checkIndex wsX7_checkIndex) := goodIn_app (goodIn_of _ (by decide +kernel)) ggX7_about_X7_checkIndex
set_option maxRecDepth 20000 in
theorem ggX7_about_X7_ask : GoodIn wsX7_about wsX7_ask := goodIn_ca (goodIn_r _ [12, 13, 14, 15, 16, 17, 18, 19, 20, 21, 22, 23, 24, 25, 26, 27, 28, 29, 30, 31, 32, 33, 34, 4, 5, 6, 7, 8, 9, 35, 36, 37, 38, 39, 40, 41, 42, 43, 44, 45, 46, 47, 48, 49, 50, 51, 52, 53, 54, 55, 56, 57, 58, 59, 60, 61, 62, 63, 64, 65, 66, 67, 68, 69, 70, 71, 72, 73, 74, 75, 76, 77, 78, 79, 80, 81, 82, 83, 84, 85, 86, 87, 88, 89, 90, 91, 105, 106, 107, 108, 109, 110, 111, 112, 113, 114, 115, 116, 117, 118, 119, 120, 121, 122, 94, 95, 96, 97, 98, 99, 100, 101, 102, 103, 104, 123, 124, 125, 126, 127, 128, 129] (by decide +kernel) (by decide +kernel)) (goodIn_sub (fun _ h => List.mem_cons_of_mem _ (List.mem_append_right _ h)) (by decide +kernel))
set_option maxRecDepth 20000 in
theorem gX7_about_X7_ask : GoodIn wsX7_about (va_wsS RX7 132 yX7_ask wsX7_ask) := goodIn_app (goodIn_of _ (by decide +kernel)) ggX7_about_X7_ask
theorem dX7_about_0 : decode cX7_about 0 = .ok (.iload_n 1, 1) := by decide +kernel
theorem dX7_about_1 : decode cX7_about 1 = .ok (.aload_n 0, 1) := by decide +kernel
theorem dX7_about_2 : decode cX7_about 2 = .ok (.getfield 10, 3) := by decide +kernel
theorem dX7_about_5 : decode cX7_about 5 = .ok (.getfield 23, 3) := by decide +kernel
theorem dX7_about_8 : decode cX7_about 8 = .ok (.invokestatic 89, 3) := by decide +kernel
theorem dX7_about_11 : decode cX7_about 11 = .ok (.aload_n 0, 1) := by decide +kernel
theorem dX7_about_12 : decode cX7_about 12 = .ok (.getfield 10, 3) := by decide +kernel
theorem dX7_about_15 : decode cX7_about 15 = .ok (.getfield 31, 3) := by decide +kernel
theorem dX7_about_18 : decode cX7_about 18 = .ok (.iload_n 1, 1) := by decide +kernel
theorem dX7_about_19 : decode cX7_about 19 = .ok (.aaload, 1) := by decide +kernel
theorem dX7_about_20 : decode cX7_about 20 = .ok (.iload_n 2, 1) := by decide +kernel
theorem dX7_about_21 : decode cX7_about 21 = .ok (.invokestatic 132, 3) := by decide +kernel
theorem dX7_about_24 : decode cX7_about 24 = .ok (.ireturn, 1) := by decide +kernel
set_option maxRecDepth 20000 in
theorem ggX7_roast_X7_checkIndex : GoodIn wsX7_roast wsX7_checkIndex := goodIn_ca (goodIn_r _ [7, 8, 9] (by decide +kernel) (by decide +kernel)) (goodIn_sub (fun _ h => List.mem_cons_of_mem _ (List.mem_append_right _ h)) (by decide +kernel))
set_option maxRecDepth 20000 in
theorem gX7_roast_X7_checkIndex : GoodIn wsX7_roast (va_wsS RX7 89 yX7_checkIndex wsX7_checkIndex) := goodIn_app (goodIn_of _ (by decide +kernel)) ggX7_roast_X7_checkIndex
set_option maxRecDepth 20000 in
theorem ggX7_roast_X7_ask : GoodIn wsX7_roast wsX7_ask := goodIn_ca (goodIn_r _ [12, 13, 14, 15, 16, 17, 18, 19, 20, 21, 22, 23, 24, 25, 26, 27, 28, 29, 30, 31, 32, 33, 34, 4, 5, 6, 7, 8, 9, 35, 36, 37, 38, 39, 40, 41, 42, 43, 44, 45, 46, 47, 48, 49, 50, 51, 52, 53, 54, 55, 56, 57, 58, 59, 60, 61, 62, 63, 64, 65, 66, 67, 68, 69, 70, 71, 72, 73, 74, 75, 76, 77, 78, 79, 80, 81, 82, 83, 84, 85, 86, 87, 88, 89, 90, 91, 105, 106, 107, 108, 109, 110, 111, 112, 113, 114, 115, 116, 117, 118, 119, 120, 121, 122, 94, 95, 96, 97, 98, 99, 100, 101, 102, 103, 104, 123, 124, 125, 126, 127, 128, 129] (by decide +kernel) (by decide +kernel)) (goodIn_sub (fun _ h => List.mem_cons_of_mem _ (List.mem_append_right _ h)) (by decide +kernel))
set_option maxRecDepth 20000 in
theorem gX7_roast_X7_ask : GoodIn wsX7_roast (va_wsS RX7 132 yX7_ask wsX7_ask) := goodIn_app (goodIn_of _ (by decide +kernel)) ggX7_roast_X7_ask
theorem dX7_roast_0 : decode cX7_roast 0 = .ok (.iload_n 1, 1) := by decide +kernel
theorem dX7_roast_1 : decode cX7_roast 1 = .ok (.aload_n 0, 1) := by decide +kernel
theorem dX7_roast_2 : decode cX7_roast 2 = .ok (.getfield 10, 3) := by decide +kernel
theorem dX7_roast_5 : decode cX7_roast 5 = .ok (.getfield 41, 3) := by decide +kernel
theorem dX7_roast_8 : decode cX7_roast 8 = .ok (.invokestatic 89, 3) := by decide +kernel
theorem dX7_roast_11 : decode cX7_roast 11 = .ok (.aload_n 0, 1) := by decide +kernel
theorem dX7_roast_12 : decode cX7_roast 12 = .ok (.getfield 10, 3) := by decide +kernel
theorem dX7_roast_15 : decode cX7_roast 15 = .ok (.getfield 44, 3) := by decide +kernel
theorem dX7_roast_18 : decode cX7_roast 18 = .ok (.iload_n 1, 1) := by decide +kernel
theorem dX7_roast_19 : decode cX7_roast 19 = .ok (.aaload, 1) := by decide +kernel
theorem dX7_roast_20 : decode cX7_roast 20 = .ok (.iload_n 2, 1) := by decide +kernel
theorem dX7_roast_21 : decode cX7_roast 21 = .ok (.invokestatic 132, 3) := by decide +kernel
theorem dX7_roast_24 : decode cX7_roast 24 = .ok (.ireturn, 1) := by decide +kernel
set_option maxRecDepth 20000 in
theorem ggX7_told_X7_checkIndex : GoodIn wsX7_told wsX7_checkIndex := goodIn_ca (goodIn_r _ [7, 8, 9] (by decide +kernel) (by decide +kernel)) (goodIn_sub (fun _ h => List.mem_cons_of_mem _ (List.mem_append_right _ h)) (by decide +kernel))
set_option maxRecDepth 20000 in
theorem gX7_told_X7_checkIndex : GoodIn wsX7_told (va_wsS RX7 89 yX7_checkIndex wsX7_checkIndex) := goodIn_app (goodIn_of _ (by decide +kernel)) ggX7_told_X7_checkIndex
set_option maxRecDepth 20000 in
theorem ggX7_told_X7_ask : GoodIn wsX7_told wsX7_ask := goodIn_ca (goodIn_r _ [12, 13, 14, 15, 16, 17, 18, 19, 20, 21, 22, 23, 24, 25, 26, 27, 28, 29, 30, 31, 32, 33, 34, 4, 5, 6, 7, 8, 9, 35, 36, 37, 38, 39, 40, 41, 42, 43, 44, 45, 46, 47, 48, 49, 50, 51, 52, 53, 54, 55, 56, 57, 58, 59, 60, 61, 62, 63, 64, 65, 66, 67, 68, 69, 70, 71, 72, 73, 74, 75, 76, 77, 78, 79, 80, 81, 82, 83, 84, 85, 86, 87, 88, 89, 90, 91, 105, 106, 107, 108, 109, 110, 111, 112, 113, 114, 115, 116, 117, 118, 119, 120, 121, 122, 94, 95, 96, 97, 98, 99, 100, 101, 102, 103, 104, 123, 124, 125, 126, 127, 128, 129] (by decide +kernel) (by decide +kernel)) (goodIn_sub (fun _ h => List.mem_cons_of_mem _ (List.mem_append_right _ h)) (by decide +kernel))
set_option maxRecDepth 20000 in
theorem gX7_told_X7_ask : GoodIn wsX7_told (va_wsS RX7 132 yX7_ask wsX7_ask) := goodIn_app (goodIn_of _ (by decide +kernel)) ggX7_told_X7_ask
theorem dX7_told_0 : decode cX7_told 0 = .ok (.iload_n 1, 1) := by decide +kernel
theorem dX7_told_1 : decode cX7_told 1 = .ok (.aload_n 0, 1) := by decide +kernel
theorem dX7_told_2 : decode cX7_told 2 = .ok (.getfield 10, 3) := by decide +kernel
theorem dX7_told_5 : decode cX7_told 5 = .ok (.getfield 53, 3) := by decide +kernel
theorem dX7_told_8 : decode cX7_told 8 = .ok (.invokestatic 89, 3) := by decide +kernel
theorem dX7_told_11 : decode cX7_told 11 = .ok (.aload_n 0, 1) := by decide +kernel
theorem dX7_told_12 : decode cX7_told 12 = .ok (.getfield 10, 3) := by decide +kernel
theorem dX7_told_15 : decode cX7_told 15 = .ok (.getfield 56, 3) := by decide +kernel
theorem dX7_told_18 : decode cX7_told 18 = .ok (.iload_n 1, 1) := by decide +kernel
theorem dX7_told_19 : decode cX7_told 19 = .ok (.aaload, 1) := by decide +kernel
theorem dX7_told_20 : decode cX7_told 20 = .ok (.iload_n 2, 1) := by decide +kernel
theorem dX7_told_21 : decode cX7_told 21 = .ok (.invokestatic 132, 3) := by decide +kernel
theorem dX7_told_24 : decode cX7_told 24 = .ok (.ireturn, 1) := by decide +kernel
set_option maxRecDepth 20000 in
theorem ggX7_ration_X7_checkIndex : GoodIn wsX7_ration wsX7_checkIndex := goodIn_ca (goodIn_r _ [7, 8, 9] (by decide +kernel) (by decide +kernel)) (goodIn_sub (fun _ h => List.mem_cons_of_mem _ (List.mem_append_right _ h)) (by decide +kernel))
set_option maxRecDepth 20000 in
theorem gX7_ration_X7_checkIndex : GoodIn wsX7_ration (va_wsS RX7 89 yX7_checkIndex wsX7_checkIndex) := goodIn_app (goodIn_of _ (by decide +kernel)) ggX7_ration_X7_checkIndex
set_option maxRecDepth 20000 in
theorem ggX7_ration_X7_ask : GoodIn wsX7_ration wsX7_ask := goodIn_ca (goodIn_r _ [12, 13, 14, 15, 16, 17, 18, 19, 20, 21, 22, 23, 24, 25, 26, 27, 28, 29, 30, 31, 32, 33, 34, 4, 5, 6, 7, 8, 9, 35, 36, 37, 38, 39, 40, 41, 42, 43, 44, 45, 46, 47, 48, 49, 50, 51, 52, 53, 54, 55, 56, 57, 58, 59, 60, 61, 62, 63, 64, 65, 66, 67, 68, 69, 70, 71, 72, 73, 74, 75, 76, 77, 78, 79, 80, 81, 82, 83, 84, 85, 86, 87, 88, 89, 90, 91, 105, 106, 107, 108, 109, 110, 111, 112, 113, 114, 115, 116, 117, 118, 119, 120, 121, 122, 94, 95, 96, 97, 98, 99, 100, 101, 102, 103, 104, 123, 124, 125, 126, 127, 128, 129] (by decide +kernel) (by decide +kernel)) (goodIn_sub (fun _ h => List.mem_cons_of_mem _ (List.mem_append_right _ h)) (by decide +kernel))
set_option maxRecDepth 20000 in
theorem gX7_ration_X7_ask : GoodIn wsX7_ration (va_wsS RX7 132 yX7_ask wsX7_ask) := goodIn_app (goodIn_of _ (by decide +kernel)) ggX7_ration_X7_ask
theorem dX7_ration_0 : decode cX7_ration 0 = .ok (.iload_n 1, 1) := by decide +kernel
theorem dX7_ration_1 : decode cX7_ration 1 = .ok (.aload_n 0, 1) := by decide +kernel
theorem dX7_ration_2 : decode cX7_ration 2 = .ok (.getfield 10, 3) := by decide +kernel
theorem dX7_ration_5 : decode cX7_ration 5 = .ok (.getfield 65, 3) := by decide +kernel
theorem dX7_ration_8 : decode cX7_ration 8 = .ok (.invokestatic 89, 3) := by decide +kernel
theorem dX7_ration_11 : decode cX7_ration 11 = .ok (.aload_n 0, 1) := by decide +kernel
theorem dX7_ration_12 : decode cX7_ration 12 = .ok (.getfield 10, 3) := by decide +kernel
theorem dX7_ration_15 : decode cX7_ration 15 = .ok (.getfield 68, 3) := by decide +kernel
theorem dX7_ration_18 : decode cX7_ration 18 = .ok (.iload_n 1, 1) := by decide +kernel
theorem dX7_ration_19 : decode cX7_ration 19 = .ok (.aaload, 1) := by decide +kernel
theorem dX7_ration_20 : decode cX7_ration 20 = .ok (.iload_n 2, 1) := by decide +kernel
theorem dX7_ration_21 : decode cX7_ration 21 = .ok (.invokestatic 132, 3) := by decide +kernel
theorem dX7_ration_24 : decode cX7_ration 24 = .ok (.ireturn, 1) := by decide +kernel
set_option maxRecDepth 20000 in
theorem ggX7_count_X7_ask : GoodIn wsX7_count wsX7_ask := goodIn_ca (goodIn_r _ [5, 6, 7, 8, 9, 10, 11, 12, 13, 14, 15, 16, 17, 18, 19, 20, 21, 22, 23, 24, 25, 26, 27, 28, 29, 4, 30, 31, 32, 33, 34, 35, 36, 37, 38, 39, 40, 41, 42, 43, 44, 45, 46, 47, 48, 49, 50, 51, 52, 53, 54, 55, 56, 57, 58, 59, 60, 61, 62, 63, 64, 65, 66, 67, 68, 69, 70, 71, 72, 73, 74, 75, 76, 77, 78, 79, 80, 81, 82, 83, 84, 85, 86, 87, 88, 89, 92, 93, 94, 95, 96, 97, 98, 99, 100, 101, 102, 103, 104, 105, 106, 107, 108, 109, 110, 111, 112, 113, 114, 115, 116, 117, 118, 119, 120, 121, 122, 123, 124, 125, 126, 127] (by decide +kernel) (by decide +kernel)) (goodIn_sub (fun _ h => List.mem_cons_of_mem _ (List.mem_append_right _ h)) (by decide +kernel))
set_option maxRecDepth 20000 in
theorem gX7_count_X7_ask : GoodIn wsX7_count (va_wsS RX7 132 yX7_ask wsX7_ask) := goodIn_app (goodIn_of _ (by decide +kernel)) ggX7_count_X7_ask
theorem dX7_count_0 : decode cX7_count 0 = .ok (.aload_n 0, 1) := by decide +kernel
theorem dX7_count_1 : decode cX7_count 1 = .ok (.getfield 10, 3) := by decide +kernel
theorem dX7_count_4 : decode cX7_count 4 = .ok (.iload_n 1, 1) := by decide +kernel
theorem dX7_count_5 : decode cX7_count 5 = .ok (.invokestatic 132, 3) := by decide +kernel
theorem dX7_count_8 : decode cX7_count 8 = .ok (.ireturn, 1) := by decide +kernel
set_option maxRecDepth 20000 in
theorem ggX7_pass_X7_checkNumber : GoodIn wsX7_pass wsX7_checkNumber := goodIn_ca (goodIn_r _ [5, 6, 7] (by decide +kernel) (by decide +kernel)) (goodIn_sub (fun _ h => List.mem_cons_of_mem _ (List.mem_append_right _ h)) (by decide +kernel))
set_option maxRecDepth 20000 in
theorem gX7_pass_X7_checkNumber : GoodIn wsX7_pass (va_wsS RX7 19 yX7_checkNumber wsX7_checkNumber) := goodIn_app (goodIn_of _ (by decide +kernel)) ggX7_pass_X7_checkNumber
set_option maxRecDepth 20000 in
theorem ggX7_pass_X6_live : GoodIn wsX7_pass wsX6_live := goodIn_r _ [12, 13, 14, 15, 16, 11, 17, 18, 19, 20, 21, 22, 23, 24, 25, 26, 27, 28, 29, 30, 31, 32, 33, 34, 35, 36, 37, 38, 39, 40, 41, 42, 43, 44, 45, 46, 47, 48, 49, 50, 51, 52, 53, 54, 55, 56, 57, 58, 59, 60, 61, 62, 63, 64, 65, 66, 67, 68, 69, 70, 71, 72, 73, 74, 75, 76, 77, 78, 79, 80, 81, 82, 83, 84, 85, 86, 87, 88, 89, 90, 91, 92, 93, 94, 95, 96, 97, 98, 99, 100, 101, 102, 103, 104, 105, 106, 107, 108, 109, 110, 111, 112, 113, 114, 115, 116, 117, 118, 119, 120, 121, 122, 123, 124, 125, 126, 127, 128, 129, 132, 133, 134, 135, 136, 137, 138, 139, 140, 141, 142, 143, 144, 145, 146, 147, 148, 149, 150, 151, 152, 153, 154, 155, 156, 157, 158, 159, 160, 161, 162, 163, 164, 165, 166, 167] (by decide +kernel) (by decide +kernel)
set_option maxRecDepth 20000 in
theorem gX7_pass_X6_live : GoodIn wsX7_pass (wsV RX7 136 RX6 yX6_live wsX6_live) := goodIn_app (goodIn_of _ (by decide +kernel)) ggX7_pass_X6_live
theorem dX7_pass_0 : decode cX7_pass 0 = .ok (.iload_n 1, 1) := by decide +kernel
theorem dX7_pass_1 : decode cX7_pass 1 = .ok (.iconst 1, 1) := by decide +kernel
theorem dX7_pass_2 : decode cX7_pass 2 = .ok (.bipush 60, 2) := by decide +kernel
theorem dX7_pass_4 : decode cX7_pass 4 = .ok (.invokestatic 19, 3) := by decide +kernel
theorem dX7_pass_7 : decode cX7_pass 7 = .ok (.aload_n 0, 1) := by decide +kernel
theorem dX7_pass_8 : decode cX7_pass 8 = .ok (.getfield 10, 3) := by decide +kernel
theorem dX7_pass_11 : decode cX7_pass 11 = .ok (.iload_n 1, 1) := by decide +kernel
theorem dX7_pass_12 : decode cX7_pass 12 = .ok (.invokevirtual 136, 3) := by decide +kernel
theorem dX7_pass_15 : decode cX7_pass 15 = .ok (.ireturn, 1) := by decide +kernel
theorem dX7_mean_0 : decode cX7_mean 0 = .ok (.aload_n 0, 1) := by decide +kernel
theorem dX7_mean_1 : decode cX7_mean 1 = .ok (.getfield 10, 3) := by decide +kernel
theorem dX7_mean_4 : decode cX7_mean 4 = .ok (.getfield 65, 3) := by decide +kernel
theorem dX7_mean_7 : decode cX7_mean 7 = .ok (.ifCond .ne 5, 3) := by decide +kernel
theorem dX7_mean_10 : decode cX7_mean 10 = .ok (.dconst 0, 1) := by decide +kernel
theorem dX7_mean_11 : decode cX7_mean 11 = .ok (.dreturn, 1) := by decide +kernel
theorem dX7_mean_12 : decode cX7_mean 12 = .ok (.aload_n 0, 1) := by decide +kernel
theorem dX7_mean_13 : decode cX7_mean 13 = .ok (.getfield 10, 3) := by decide +kernel
theorem dX7_mean_16 : decode cX7_mean 16 = .ok (.getfield 80, 3) := by decide +kernel
theorem dX7_mean_19 : decode cX7_mean 19 = .ok (.getfield 167, 3) := by decide +kernel
theorem dX7_mean_22 : decode cX7_mean 22 = .ok (.i2d, 1) := by decide +kernel
theorem dX7_mean_23 : decode cX7_mean 23 = .ok (.aload_n 0, 1) := by decide +kernel
theorem dX7_mean_24 : decode cX7_mean 24 = .ok (.getfield 10, 3) := by decide +kernel
theorem dX7_mean_27 : decode cX7_mean 27 = .ok (.getfield 65, 3) := by decide +kernel
theorem dX7_mean_30 : decode cX7_mean 30 = .ok (.i2d, 1) := by decide +kernel
theorem dX7_mean_31 : decode cX7_mean 31 = .ok (.ddiv, 1) := by decide +kernel
theorem dX7_mean_32 : decode cX7_mean 32 = .ok (.dreturn, 1) := by decide +kernel
theorem dX7_checkIndex_0 : decode cX7_checkIndex 0 = .ok (.iload_n 0, 1) := by decide +kernel
theorem dX7_checkIndex_1 : decode cX7_checkIndex 1 = .ok (.ifCond .lt 8, 3) := by decide +kernel
theorem dX7_checkIndex_4 : decode cX7_checkIndex 4 = .ok (.iload_n 0, 1) := by decide +kernel
theorem dX7_checkIndex_5 : decode cX7_checkIndex 5 = .ok (.iload_n 1, 1) := by decide +kernel
theorem dX7_checkIndex_6 : decode cX7_checkIndex 6 = .ok (.if_icmp .lt 13, 3) := by decide +kernel
theorem dX7_checkIndex_9 : decode cX7_checkIndex 9 = .ok (.new 139, 3) := by decide +kernel
theorem dX7_checkIndex_12 : decode cX7_checkIndex 12 = .ok (.dup, 1) := by decide +kernel
theorem dX7_checkIndex_13 : decode cX7_checkIndex 13 = .ok (.ldc 180, 2) := by decide +kernel
theorem dX7_checkIndex_15 : decode cX7_checkIndex 15 = .ok (.invokespecial 143, 3) := by decide +kernel
theorem dX7_checkIndex_18 : decode cX7_checkIndex 18 = .ok (.athrow, 1) := by decide +kernel
theorem dX7_checkIndex_19 : decode cX7_checkIndex 19 = .ok (.return_, 1) := by decide +kernel
theorem dX7_checkNumber_0 : decode cX7_checkNumber 0 = .ok (.iload_n 0, 1) := by decide +kernel
theorem dX7_checkNumber_1 : decode cX7_checkNumber 1 = .ok (.iload_n 1, 1) := by decide +kernel
theorem dX7_checkNumber_2 : decode cX7_checkNumber 2 = .ok (.if_icmp .lt 8, 3) := by decide +kernel
theorem dX7_checkNumber_5 : decode cX7_checkNumber 5 = .ok (.iload_n 0, 1) := by decide +kernel
theorem dX7_checkNumber_6 : decode cX7_checkNumber 6 = .ok (.iload_n 2, 1) := by decide +kernel
theorem dX7_checkNumber_7 : decode cX7_checkNumber 7 = .ok (.if_icmp .le 13, 3) := by decide +kernel
theorem dX7_checkNumber_10 : decode cX7_checkNumber 10 = .ok (.new 182, 3) := by decide +kernel
theorem dX7_checkNumber_13 : decode cX7_checkNumber 13 = .ok (.dup, 1) := by decide +kernel
theorem dX7_checkNumber_14 : decode cX7_checkNumber 14 = .ok (.ldc 184, 2) := by decide +kernel
theorem dX7_checkNumber_16 : decode cX7_checkNumber 16 = .ok (.invokespecial 186, 3) := by decide +kernel
theorem dX7_checkNumber_19 : decode cX7_checkNumber 19 = .ok (.athrow, 1) := by decide +kernel
theorem dX7_checkNumber_20 : decode cX7_checkNumber 20 = .ok (.return_, 1) := by decide +kernel
theorem dX7_checkState_0 : decode cX7_checkState 0 = .ok (.iload_n 0, 1) := by decide +kernel
theorem dX7_checkState_1 : decode cX7_checkState 1 = .ok (.ifCond .ne 13, 3) := by decide +kernel
theorem dX7_checkState_4 : decode cX7_checkState 4 = .ok (.new 187, 3) := by decide +kernel
theorem dX7_checkState_7 : decode cX7_checkState 7 = .ok (.dup, 1) := by decide +kernel
theorem dX7_checkState_8 : decode cX7_checkState 8 = .ok (.ldc 189, 2) := by decide +kernel
theorem dX7_checkState_10 : decode cX7_checkState 10 = .ok (.invokespecial 191, 3) := by decide +kernel
theorem dX7_checkState_13 : decode cX7_checkState 13 = .ok (.athrow, 1) := by decide +kernel
theorem dX7_checkState_14 : decode cX7_checkState 14 = .ok (.return_, 1) := by decide +kernel
set_option maxRecDepth 20000 in
theorem ggX7_ask_X0_size : GoodIn wsX7_ask wsX0_size := goodIn_r _ [6] (by decide +kernel) (by decide +kernel)
set_option maxRecDepth 20000 in
theorem gX7_ask_X0_size_u192X0 : GoodIn wsX7_ask (va_wsU RX7 192 RX0 "ChicoryRoasters$Teller" ⟨"ChicoryRoasters$Teller", "size", "()I"⟩ yX0_size wsX0_size) := goodIn_app (goodIn_of _ (by decide +kernel)) ggX7_ask_X0_size
set_option maxRecDepth 20000 in
theorem ggX7_ask_X1_size : GoodIn wsX7_ask wsX1_size := goodIn_r _ [10] (by decide +kernel) (by decide +kernel)
set_option maxRecDepth 20000 in
theorem gX7_ask_X1_size_u192X1 : GoodIn wsX7_ask (va_wsU RX7 192 RX1 "ChicoryRoasters$Teller" ⟨"ChicoryRoasters$Teller", "size", "()I"⟩ yX1_size wsX1_size) := goodIn_app (goodIn_of _ (by decide +kernel)) ggX7_ask_X1_size
set_option maxRecDepth 20000 in
theorem ggX7_ask_X2_size : GoodIn wsX7_ask wsX2_size := goodIn_r _ [14] (by decide +kernel) (by decide +kernel)
set_option maxRecDepth 20000 in
theorem gX7_ask_X2_size_u192X2 : GoodIn wsX7_ask (va_wsU RX7 192 RX2 "ChicoryRoasters$Teller" ⟨"ChicoryRoasters$Teller", "size", "()I"⟩ yX2_size wsX2_size) := goodIn_app (goodIn_of _ (by decide +kernel)) ggX7_ask_X2_size
set_option maxRecDepth 20000 in
theorem ggX7_ask_X3_size : GoodIn wsX7_ask wsX3_size := goodIn_r _ [18] (by decide +kernel) (by decide +kernel)
set_option maxRecDepth 20000 in
theorem gX7_ask_X3_size_u192X3 : GoodIn wsX7_ask (va_wsU RX7 192 RX3 "ChicoryRoasters$Teller" ⟨"ChicoryRoasters$Teller", "size", "()I"⟩ yX3_size wsX3_size) := goodIn_app (goodIn_of _ (by decide +kernel)) ggX7_ask_X3_size
set_option maxRecDepth 20000 in
theorem ggX7_ask_X6_size : GoodIn wsX7_ask wsX6_size := goodIn_r _ [22] (by decide +kernel) (by decide +kernel)
set_option maxRecDepth 20000 in
theorem gX7_ask_X6_size_u192X6 : GoodIn wsX7_ask (va_wsU RX7 192 RX6 "ChicoryRoasters$Teller" ⟨"ChicoryRoasters$Teller", "size", "()I"⟩ yX6_size wsX6_size) := goodIn_app (goodIn_of _ (by decide +kernel)) ggX7_ask_X6_size
set_option maxRecDepth 20000 in
theorem ggX7_ask_X7_checkIndex : GoodIn wsX7_ask wsX7_checkIndex := goodIn_ca (goodIn_r _ [26, 27, 28] (by decide +kernel) (by decide +kernel)) (goodIn_sub (fun _ h => List.mem_cons_of_mem _ (List.mem_append_right _ h)) (by decide +kernel))
set_option maxRecDepth 20000 in
theorem gX7_ask_X7_checkIndex : GoodIn wsX7_ask (va_wsS RX7 89 yX7_checkIndex wsX7_checkIndex) := goodIn_app (goodIn_of _ (by decide +kernel)) ggX7_ask_X7_checkIndex
set_option maxRecDepth 20000 in
theorem ggX7_ask_X0_tell : GoodIn wsX7_ask wsX0_tell := goodIn_r _ [33, 34, 35, 36, 86, 87, 88] (by decide +kernel) (by decide +kernel)
set_option maxRecDepth 20000 in
theorem gX7_ask_X0_tell_u197X0 : GoodIn wsX7_ask (va_wsU RX7 197 RX0 "ChicoryRoasters$Teller" ⟨"ChicoryRoasters$Teller", "tell", "(I)I"⟩ yX0_tell wsX0_tell) := goodIn_app (goodIn_of _ (by decide +kernel)) ggX7_ask_X0_tell
set_option maxRecDepth 20000 in
theorem ggX7_ask_X1_tell : GoodIn wsX7_ask wsX1_tell := goodIn_r _ [39, 40, 41, 42, 43, 44, 89, 90, 91, 92, 93] (by decide +kernel) (by decide +kernel)
set_option maxRecDepth 20000 in
theorem gX7_ask_X1_tell_u197X1 : GoodIn wsX7_ask (va_wsU RX7 197 RX1 "ChicoryRoasters$Teller" ⟨"ChicoryRoasters$Teller", "tell", "(I)I"⟩ yX1_tell wsX1_tell) := goodIn_app (goodIn_of _ (by decide +kernel)) ggX7_ask_X1_tell
set_option maxRecDepth 20000 in
theorem ggX7_ask_X2_tell : GoodIn wsX7_ask wsX2_tell := goodIn_r _ [47, 48, 49, 50, 51, 52, 53, 54, 55, 13, 56, 57, 58, 59, 60, 61, 62, 63, 64, 94, 95, 96, 97, 98] (by decide +kernel) (by decide +kernel)
set_option maxRecDepth 20000 in
theorem gX7_ask_X2_tell_u197X2 : GoodIn wsX7_ask (va_wsU RX7 197 RX2 "ChicoryRoasters$Teller" ⟨"ChicoryRoasters$Teller", "tell", "(I)I"⟩ yX2_tell wsX2_tell) := goodIn_app (goodIn_of _ (by decide +kernel)) ggX7_ask_X2_tell
set_option maxRecDepth 20000 in
theorem ggX7_ask_X3_tell : GoodIn wsX7_ask wsX3_tell := goodIn_r _ [67, 68, 69, 70, 71, 72, 99, 100, 101, 102, 103] (by decide +kernel) (by decide +kernel)
set_option maxRecDepth 20000 in
theorem gX7_ask_X3_tell_u197X3 : GoodIn wsX7_ask (va_wsU RX7 197 RX3 "ChicoryRoasters$Teller" ⟨"ChicoryRoasters$Teller", "tell", "(I)I"⟩ yX3_tell wsX3_tell) := goodIn_app (goodIn_of _ (by decide +kernel)) ggX7_ask_X3_tell
set_option maxRecDepth 20000 in
theorem ggX7_ask_X6_tell : GoodIn wsX7_ask wsX6_tell := goodIn_r _ [75, 76, 77, 78, 79, 80, 81, 82, 83, 84, 85, 104, 105, 106, 107, 108, 109, 110, 111, 112, 113, 114, 115, 116, 117, 118, 119, 120, 121] (by decide +kernel) (by decide +kernel)
set_option maxRecDepth 20000 in
theorem gX7_ask_X6_tell_u197X6 : GoodIn wsX7_ask (va_wsU RX7 197 RX6 "ChicoryRoasters$Teller" ⟨"ChicoryRoasters$Teller", "tell", "(I)I"⟩ yX6_tell wsX6_tell) := goodIn_app (goodIn_of _ (by decide +kernel)) ggX7_ask_X6_tell
theorem dX7_ask_0 : decode cX7_ask 0 = .ok (.iload_n 1, 1) := by decide +kernel
theorem dX7_ask_1 : decode cX7_ask 1 = .ok (.aload_n 0, 1) := by decide +kernel
theorem dX7_ask_2 : decode cX7_ask 2 = .ok (.invokevirtual 192, 3) := by decide +kernel
theorem dX7_ask_5 : decode cX7_ask 5 = .ok (.invokestatic 89, 3) := by decide +kernel
theorem dX7_ask_8 : decode cX7_ask 8 = .ok (.aload_n 0, 1) := by decide +kernel
theorem dX7_ask_9 : decode cX7_ask 9 = .ok (.iload_n 1, 1) := by decide +kernel
theorem dX7_ask_10 : decode cX7_ask 10 = .ok (.invokevirtual 197, 3) := by decide +kernel
theorem dX7_ask_13 : decode cX7_ask 13 = .ok (.ireturn, 1) := by decide +kernel
end
section
theorem dX8_init_0 : decode cX8_init 0 = .ok (.aload_n 0, 1) := by decide +kernel
theorem dX8_init_1 : decode cX8_init 1 = .ok (.invokespecial 1, 3) := by decide +kernel
theorem dX8_init_4 : decode cX8_init 4 = .ok (.aload_n 0, 1) := by decide +kernel
theorem dX8_init_5 : decode cX8_init 5 = .ok (.iconst 2, 1) := by decide +kernel
theorem dX8_init_6 : decode cX8_init 6 = .ok (.newarray .int, 2) := by decide +kernel
theorem dX8_init_8 : decode cX8_init 8 = .ok (.putfield 7, 3) := by decide +kernel
theorem dX8_init_11 : decode cX8_init 11 = .ok (.aload_n 0, 1) := by decide +kernel
theorem dX8_init_12 : decode cX8_init 12 = .ok (.iconst 2, 1) := by decide +kernel
theorem dX8_init_13 : decode cX8_init 13 = .ok (.newarray .int, 2) := by decide +kernel
theorem dX8_init_15 : decode cX8_init 15 = .ok (.putfield 13, 3) := by decide +kernel
theorem dX8_init_18 : decode cX8_init 18 = .ok (.aload_n 0, 1) := by decide +kernel
theorem dX8_init_19 : decode cX8_init 19 = .ok (.iconst 5, 1) := by decide +kernel
theorem dX8_init_20 : decode cX8_init 20 = .ok (.putfield 16, 3) := by decide +kernel
theorem dX8_init_23 : decode cX8_init 23 = .ok (.aload_n 0, 1) := by decide +kernel
theorem dX8_init_24 : decode cX8_init 24 = .ok (.iconst 0, 1) := by decide +kernel
theorem dX8_init_25 : decode cX8_init 25 = .ok (.anewarray 20, 3) := by decide +kernel
theorem dX8_init_28 : decode cX8_init 28 = .ok (.putfield 21, 3) := by decide +kernel
theorem dX8_init_31 : decode cX8_init 31 = .ok (.aload_n 0, 1) := by decide +kernel
theorem dX8_init_32 : decode cX8_init 32 = .ok (.iconst 0, 1) := by decide +kernel
theorem dX8_init_33 : decode cX8_init 33 = .ok (.anewarray 20, 3) := by decide +kernel
theorem dX8_init_36 : decode cX8_init 36 = .ok (.putfield 25, 3) := by decide +kernel
theorem dX8_init_39 : decode cX8_init 39 = .ok (.aload_n 0, 1) := by decide +kernel
theorem dX8_init_40 : decode cX8_init 40 = .ok (.iconst 0, 1) := by decide +kernel
theorem dX8_init_41 : decode cX8_init 41 = .ok (.anewarray 20, 3) := by decide +kernel
theorem dX8_init_44 : decode cX8_init 44 = .ok (.putfield 28, 3) := by decide +kernel
theorem dX8_init_47 : decode cX8_init 47 = .ok (.aload_n 0, 1) := by decide +kernel
theorem dX8_init_48 : decode cX8_init 48 = .ok (.iconst 0, 1) := by decide +kernel
theorem dX8_init_49 : decode cX8_init 49 = .ok (.anewarray 20, 3) := by decide +kernel
theorem dX8_init_52 : decode cX8_init 52 = .ok (.putfield 31, 3) := by decide +kernel
theorem dX8_init_55 : decode cX8_init 55 = .ok (.return_, 1) := by decide +kernel
theorem dX8_burnt_0 : decode cX8_burnt 0 = .ok (.iload_n 0, 1) := by decide +kernel
theorem dX8_burnt_1 : decode cX8_burnt 1 = .ok (.ifCond .ne 8, 3) := by decide +kernel
theorem dX8_burnt_4 : decode cX8_burnt 4 = .ok (.bipush 24, 2) := by decide +kernel
theorem dX8_burnt_6 : decode cX8_burnt 6 = .ok (.goto 5, 3) := by decide +kernel
theorem dX8_burnt_9 : decode cX8_burnt 9 = .ok (.bipush 15, 2) := by decide +kernel
theorem dX8_burnt_11 : decode cX8_burnt 11 = .ok (.ireturn, 1) := by decide +kernel
set_option maxRecDepth 20000 in
theorem ggX8_yields_X8_burnt : GoodIn wsX8_yields wsX8_burnt := goodIn_r _ [4] (by decide +kernel) (by decide +kernel)
set_option maxRecDepth 20000 in
theorem gX8_yields_X8_burnt : GoodIn wsX8_yields (va_wsS RX8 55 yX8_burnt wsX8_burnt) := goodIn_app (goodIn_of _ (by decide +kernel)) ggX8_yields_X8_burnt
theorem dX8_yields_0 : decode cX8_yields 0 = .ok (.aload_n 0, 1) := by decide +kernel
theorem dX8_yields_1 : decode cX8_yields 1 = .ok (.iconst 2, 1) := by decide +kernel
theorem dX8_yields_2 : decode cX8_yields 2 = .ok (.iaload, 1) := by decide +kernel
theorem dX8_yields_3 : decode cX8_yields 3 = .ok (.ifCond .ge 5, 3) := by decide +kernel
theorem dX8_yields_6 : decode cX8_yields 6 = .ok (.iconst 0, 1) := by decide +kernel
theorem dX8_yields_7 : decode cX8_yields 7 = .ok (.ireturn, 1) := by decide +kernel
theorem dX8_yields_8 : decode cX8_yields 8 = .ok (.aload_n 0, 1) := by decide +kernel
theorem dX8_yields_9 : decode cX8_yields 9 = .ok (.iconst 2, 1) := by decide +kernel
theorem dX8_yields_10 : decode cX8_yields 10 = .ok (.iaload, 1) := by decide +kernel
theorem dX8_yields_11 : decode cX8_yields 11 = .ok (.ifCond .ne 7, 3) := by decide +kernel
theorem dX8_yields_14 : decode cX8_yields 14 = .ok (.iconst 1, 1) := by decide +kernel
theorem dX8_yields_15 : decode cX8_yields 15 = .ok (.goto 4, 3) := by decide +kernel
theorem dX8_yields_18 : decode cX8_yields 18 = .ok (.iconst 0, 1) := by decide +kernel
theorem dX8_yields_19 : decode cX8_yields 19 = .ok (.istore_n 1, 1) := by decide +kernel
theorem dX8_yields_20 : decode cX8_yields 20 = .ok (.aload_n 0, 1) := by decide +kernel
theorem dX8_yields_21 : decode cX8_yields 21 = .ok (.iconst 2, 1) := by decide +kernel
theorem dX8_yields_22 : decode cX8_yields 22 = .ok (.iaload, 1) := by decide +kernel
theorem dX8_yields_23 : decode cX8_yields 23 = .ok (.invokestatic 55, 3) := by decide +kernel
theorem dX8_yields_26 : decode cX8_yields 26 = .ok (.aload_n 0, 1) := by decide +kernel
theorem dX8_yields_27 : decode cX8_yields 27 = .ok (.iconst 4, 1) := by decide +kernel
theorem dX8_yields_28 : decode cX8_yields 28 = .ok (.iaload, 1) := by decide +kernel
theorem dX8_yields_29 : decode cX8_yields 29 = .ok (.isub, 1) := by decide +kernel
theorem dX8_yields_30 : decode cX8_yields 30 = .ok (.istore_n 2, 1) := by decide +kernel
theorem dX8_yields_31 : decode cX8_yields 31 = .ok (.iload_n 2, 1) := by decide +kernel
theorem dX8_yields_32 : decode cX8_yields 32 = .ok (.ifCond .le 20, 3) := by decide +kernel
theorem dX8_yields_35 : decode cX8_yields 35 = .ok (.aload_n 0, 1) := by decide +kernel
theorem dX8_yields_36 : decode cX8_yields 36 = .ok (.iconst 4, 1) := by decide +kernel
theorem dX8_yields_37 : decode cX8_yields 37 = .ok (.iaload, 1) := by decide +kernel
theorem dX8_yields_38 : decode cX8_yields 38 = .ok (.iload_n 1, 1) := by decide +kernel
theorem dX8_yields_39 : decode cX8_yields 39 = .ok (.ifCond .eq 8, 3) := by decide +kernel
theorem dX8_yields_42 : decode cX8_yields 42 = .ok (.bipush 12, 2) := by decide +kernel
theorem dX8_yields_44 : decode cX8_yields 44 = .ok (.goto 5, 3) := by decide +kernel
theorem dX8_yields_47 : decode cX8_yields 47 = .ok (.bipush 8, 2) := by decide +kernel
theorem dX8_yields_49 : decode cX8_yields 49 = .ok (.if_icmp .ge 5, 3) := by decide +kernel
theorem dX8_yields_52 : decode cX8_yields 52 = .ok (.iconst 0, 1) := by decide +kernel
theorem dX8_yields_53 : decode cX8_yields 53 = .ok (.ireturn, 1) := by decide +kernel
theorem dX8_yields_54 : decode cX8_yields 54 = .ok (.iload_n 1, 1) := by decide +kernel
theorem dX8_yields_55 : decode cX8_yields 55 = .ok (.ifCond .eq 17, 3) := by decide +kernel
theorem dX8_yields_58 : decode cX8_yields 58 = .ok (.aload_n 0, 1) := by decide +kernel
theorem dX8_yields_59 : decode cX8_yields 59 = .ok (.iconst 3, 1) := by decide +kernel
theorem dX8_yields_60 : decode cX8_yields 60 = .ok (.iaload, 1) := by decide +kernel
theorem dX8_yields_61 : decode cX8_yields 61 = .ok (.bipush 6, 2) := by decide +kernel
theorem dX8_yields_63 : decode cX8_yields 63 = .ok (.imul, 1) := by decide +kernel
theorem dX8_yields_64 : decode cX8_yields 64 = .ok (.iload_n 2, 1) := by decide +kernel
theorem dX8_yields_65 : decode cX8_yields 65 = .ok (.imul, 1) := by decide +kernel
theorem dX8_yields_66 : decode cX8_yields 66 = .ok (.bipush 12, 2) := by decide +kernel
theorem dX8_yields_68 : decode cX8_yields 68 = .ok (.idiv, 1) := by decide +kernel
theorem dX8_yields_69 : decode cX8_yields 69 = .ok (.goto 14, 3) := by decide +kernel
theorem dX8_yields_72 : decode cX8_yields 72 = .ok (.aload_n 0, 1) := by decide +kernel
theorem dX8_yields_73 : decode cX8_yields 73 = .ok (.iconst 3, 1) := by decide +kernel
theorem dX8_yields_74 : decode cX8_yields 74 = .ok (.iaload, 1) := by decide +kernel
theorem dX8_yields_75 : decode cX8_yields 75 = .ok (.bipush 8, 2) := by decide +kernel
theorem dX8_yields_77 : decode cX8_yields 77 = .ok (.imul, 1) := by decide +kernel
theorem dX8_yields_78 : decode cX8_yields 78 = .ok (.iload_n 2, 1) := by decide +kernel
theorem dX8_yields_79 : decode cX8_yields 79 = .ok (.imul, 1) := by decide +kernel
theorem dX8_yields_80 : decode cX8_yields 80 = .ok (.bipush 7, 2) := by decide +kernel
theorem dX8_yields_82 : decode cX8_yields 82 = .ok (.idiv, 1) := by decide +kernel
theorem dX8_yields_83 : decode cX8_yields 83 = .ok (.ireturn, 1) := by decide +kernel
theorem dX8_isThere_0 : decode cX8_isThere 0 = .ok (.aload_n 0, 1) := by decide +kernel
theorem dX8_isThere_1 : decode cX8_isThere 1 = .ok (.getfield 48, 3) := by decide +kernel
theorem dX8_isThere_4 : decode cX8_isThere 4 = .ok (.iconst 1, 1) := by decide +kernel
theorem dX8_isThere_5 : decode cX8_isThere 5 = .ok (.iload_n 1, 1) := by decide +kernel
theorem dX8_isThere_6 : decode cX8_isThere 6 = .ok (.bipush 7, 2) := by decide +kernel
theorem dX8_isThere_8 : decode cX8_isThere 8 = .ok (.irem, 1) := by decide +kernel
theorem dX8_isThere_9 : decode cX8_isThere 9 = .ok (.ishl, 1) := by decide +kernel
theorem dX8_isThere_10 : decode cX8_isThere 10 = .ok (.idiv, 1) := by decide +kernel
theorem dX8_isThere_11 : decode cX8_isThere 11 = .ok (.iconst 2, 1) := by decide +kernel
theorem dX8_isThere_12 : decode cX8_isThere 12 = .ok (.irem, 1) := by decide +kernel
theorem dX8_isThere_13 : decode cX8_isThere 13 = .ok (.iconst 1, 1) := by decide +kernel
theorem dX8_isThere_14 : decode cX8_isThere 14 = .ok (.if_icmp .ne 7, 3) := by decide +kernel
theorem dX8_isThere_17 : decode cX8_isThere 17 = .ok (.iconst 1, 1) := by decide +kernel
theorem dX8_isThere_18 : decode cX8_isThere 18 = .ok (.goto 4, 3) := by decide +kernel
theorem dX8_isThere_21 : decode cX8_isThere 21 = .ok (.iconst 0, 1) := by decide +kernel
theorem dX8_isThere_22 : decode cX8_isThere 22 = .ok (.ireturn, 1) := by decide +kernel
set_option maxRecDepth 20000 in
theorem ggX8_pass_X8_isThere : GoodIn wsX8_pass wsX8_isThere := goodIn_r _ [15, 16, 20, 21, 22, 23, 24, 25, 26, 27, 28, 29, 30] (by decide +kernel) (by decide +kernel)
set_option maxRecDepth 20000 in
theorem gX8_pass_X8_isThere : GoodIn wsX8_pass (wsV RX8 59 RX8 yX8_isThere wsX8_isThere) := goodIn_app (goodIn_of _ (by decide +kernel)) ggX8_pass_X8_isThere
set_option maxRecDepth 20000 in
theorem ggX8_pass_X8_burnt : GoodIn wsX8_pass wsX8_burnt := goodIn_r _ [19] (by decide +kernel) (by decide +kernel)
set_option maxRecDepth 20000 in
theorem gX8_pass_X8_burnt : GoodIn wsX8_pass (va_wsS RX8 55 yX8_burnt wsX8_burnt) := goodIn_app (goodIn_of _ (by decide +kernel)) ggX8_pass_X8_burnt
theorem dX8_pass_0 : decode cX8_pass 0 = .ok (.aload_n 0, 1) := by decide +kernel
theorem dX8_pass_1 : decode cX8_pass 1 = .ok (.getfield 28, 3) := by decide +kernel
theorem dX8_pass_4 : decode cX8_pass 4 = .ok (.astore_n 1, 1) := by decide +kernel
theorem dX8_pass_5 : decode cX8_pass 5 = .ok (.aload_n 1, 1) := by decide +kernel
theorem dX8_pass_6 : decode cX8_pass 6 = .ok (.arraylength, 1) := by decide +kernel
theorem dX8_pass_7 : decode cX8_pass 7 = .ok (.istore_n 2, 1) := by decide +kernel
theorem dX8_pass_8 : decode cX8_pass 8 = .ok (.iconst 0, 1) := by decide +kernel
theorem dX8_pass_9 : decode cX8_pass 9 = .ok (.istore_n 3, 1) := by decide +kernel
theorem dX8_pass_10 : decode cX8_pass 10 = .ok (.iload_n 3, 1) := by decide +kernel
theorem dX8_pass_11 : decode cX8_pass 11 = .ok (.iload_n 2, 1) := by decide +kernel
theorem dX8_pass_12 : decode cX8_pass 12 = .ok (.if_icmp .ge 123, 3) := by decide +kernel
theorem dX8_pass_15 : decode cX8_pass 15 = .ok (.aload_n 1, 1) := by decide +kernel
theorem dX8_pass_16 : decode cX8_pass 16 = .ok (.iload_n 3, 1) := by decide +kernel
theorem dX8_pass_17 : decode cX8_pass 17 = .ok (.aaload, 1) := by decide +kernel
theorem dX8_pass_18 : decode cX8_pass 18 = .ok (.astore 4, 2) := by decide +kernel
theorem dX8_pass_20 : decode cX8_pass 20 = .ok (.aload 4, 2) := by decide +kernel
theorem dX8_pass_22 : decode cX8_pass 22 = .ok (.iconst 2, 1) := by decide +kernel
theorem dX8_pass_23 : decode cX8_pass 23 = .ok (.iaload, 1) := by decide +kernel
theorem dX8_pass_24 : decode cX8_pass 24 = .ok (.ifCond .ne 6, 3) := by decide +kernel
theorem dX8_pass_27 : decode cX8_pass 27 = .ok (.goto 102, 3) := by decide +kernel
theorem dX8_pass_30 : decode cX8_pass 30 = .ok (.aload 4, 2) := by decide +kernel
theorem dX8_pass_32 : decode cX8_pass 32 = .ok (.iconst 3, 1) := by decide +kernel
theorem dX8_pass_33 : decode cX8_pass 33 = .ok (.dup2, 1) := by decide +kernel
theorem dX8_pass_34 : decode cX8_pass 34 = .ok (.iaload, 1) := by decide +kernel
theorem dX8_pass_35 : decode cX8_pass 35 = .ok (.iconst 1, 1) := by decide +kernel
theorem dX8_pass_36 : decode cX8_pass 36 = .ok (.isub, 1) := by decide +kernel
theorem dX8_pass_37 : decode cX8_pass 37 = .ok (.iastore, 1) := by decide +kernel
theorem dX8_pass_38 : decode cX8_pass 38 = .ok (.aload 4, 2) := by decide +kernel
theorem dX8_pass_40 : decode cX8_pass 40 = .ok (.iconst 2, 1) := by decide +kernel
theorem dX8_pass_41 : decode cX8_pass 41 = .ok (.iaload, 1) := by decide +kernel
theorem dX8_pass_42 : decode cX8_pass 42 = .ok (.iconst 1, 1) := by decide +kernel
theorem dX8_pass_43 : decode cX8_pass 43 = .ok (.if_icmp .ne 49, 3) := by decide +kernel
theorem dX8_pass_46 : decode cX8_pass 46 = .ok (.aload 4, 2) := by decide +kernel
theorem dX8_pass_48 : decode cX8_pass 48 = .ok (.iconst 3, 1) := by decide +kernel
theorem dX8_pass_49 : decode cX8_pass 49 = .ok (.iaload, 1) := by decide +kernel
theorem dX8_pass_50 : decode cX8_pass 50 = .ok (.aload 4, 2) := by decide +kernel
theorem dX8_pass_52 : decode cX8_pass 52 = .ok (.iconst 0, 1) := by decide +kernel
theorem dX8_pass_53 : decode cX8_pass 53 = .ok (.iaload, 1) := by decide +kernel
theorem dX8_pass_54 : decode cX8_pass 54 = .ok (.iconst 2, 1) := by decide +kernel
theorem dX8_pass_55 : decode cX8_pass 55 = .ok (.idiv, 1) := by decide +kernel
theorem dX8_pass_56 : decode cX8_pass 56 = .ok (.if_icmp .ne 36, 3) := by decide +kernel
theorem dX8_pass_59 : decode cX8_pass 59 = .ok (.aload_n 0, 1) := by decide +kernel
theorem dX8_pass_60 : decode cX8_pass 60 = .ok (.aload_n 0, 1) := by decide +kernel
theorem dX8_pass_61 : decode cX8_pass 61 = .ok (.getfield 39, 3) := by decide +kernel
theorem dX8_pass_64 : decode cX8_pass 64 = .ok (.invokevirtual 59, 3) := by decide +kernel
theorem dX8_pass_67 : decode cX8_pass 67 = .ok (.ifCond .eq 25, 3) := by decide +kernel
theorem dX8_pass_70 : decode cX8_pass 70 = .ok (.aload 4, 2) := by decide +kernel
theorem dX8_pass_72 : decode cX8_pass 72 = .ok (.iconst 2, 1) := by decide +kernel
theorem dX8_pass_73 : decode cX8_pass 73 = .ok (.iconst 2, 1) := by decide +kernel
theorem dX8_pass_74 : decode cX8_pass 74 = .ok (.iastore, 1) := by decide +kernel
theorem dX8_pass_75 : decode cX8_pass 75 = .ok (.aload 4, 2) := by decide +kernel
theorem dX8_pass_77 : decode cX8_pass 77 = .ok (.iconst 3, 1) := by decide +kernel
theorem dX8_pass_78 : decode cX8_pass 78 = .ok (.bipush 10, 2) := by decide +kernel
theorem dX8_pass_80 : decode cX8_pass 80 = .ok (.iastore, 1) := by decide +kernel
theorem dX8_pass_81 : decode cX8_pass 81 = .ok (.aload 4, 2) := by decide +kernel
theorem dX8_pass_83 : decode cX8_pass 83 = .ok (.iconst 4, 1) := by decide +kernel
theorem dX8_pass_84 : decode cX8_pass 84 = .ok (.dup2, 1) := by decide +kernel
theorem dX8_pass_85 : decode cX8_pass 85 = .ok (.iaload, 1) := by decide +kernel
theorem dX8_pass_86 : decode cX8_pass 86 = .ok (.iconst 1, 1) := by decide +kernel
theorem dX8_pass_87 : decode cX8_pass 87 = .ok (.iadd, 1) := by decide +kernel
theorem dX8_pass_88 : decode cX8_pass 88 = .ok (.iastore, 1) := by decide +kernel
theorem dX8_pass_89 : decode cX8_pass 89 = .ok (.goto 40, 3) := by decide +kernel
theorem dX8_pass_92 : decode cX8_pass 92 = .ok (.aload 4, 2) := by decide +kernel
theorem dX8_pass_94 : decode cX8_pass 94 = .ok (.iconst 3, 1) := by decide +kernel
theorem dX8_pass_95 : decode cX8_pass 95 = .ok (.iaload, 1) := by decide +kernel
theorem dX8_pass_96 : decode cX8_pass 96 = .ok (.ifCond .ne 33, 3) := by decide +kernel
theorem dX8_pass_99 : decode cX8_pass 99 = .ok (.aload_n 0, 1) := by decide +kernel
theorem dX8_pass_100 : decode cX8_pass 100 = .ok (.getfield 7, 3) := by decide +kernel
theorem dX8_pass_103 : decode cX8_pass 103 = .ok (.iconst 1, 1) := by decide +kernel
theorem dX8_pass_104 : decode cX8_pass 104 = .ok (.dup2, 1) := by decide +kernel
theorem dX8_pass_105 : decode cX8_pass 105 = .ok (.iaload, 1) := by decide +kernel
theorem dX8_pass_106 : decode cX8_pass 106 = .ok (.aload 4, 2) := by decide +kernel
theorem dX8_pass_108 : decode cX8_pass 108 = .ok (.iconst 2, 1) := by decide +kernel
theorem dX8_pass_109 : decode cX8_pass 109 = .ok (.iaload, 1) := by decide +kernel
theorem dX8_pass_110 : decode cX8_pass 110 = .ok (.iconst 1, 1) := by decide +kernel
theorem dX8_pass_111 : decode cX8_pass 111 = .ok (.if_icmp .ne 10, 3) := by decide +kernel
theorem dX8_pass_114 : decode cX8_pass 114 = .ok (.aload 4, 2) := by decide +kernel
theorem dX8_pass_116 : decode cX8_pass 116 = .ok (.iconst 1, 1) := by decide +kernel
theorem dX8_pass_117 : decode cX8_pass 117 = .ok (.iaload, 1) := by decide +kernel
theorem dX8_pass_118 : decode cX8_pass 118 = .ok (.goto 4, 3) := by decide +kernel
theorem dX8_pass_121 : decode cX8_pass 121 = .ok (.iconst 0, 1) := by decide +kernel
theorem dX8_pass_122 : decode cX8_pass 122 = .ok (.iadd, 1) := by decide +kernel
theorem dX8_pass_123 : decode cX8_pass 123 = .ok (.iastore, 1) := by decide +kernel
theorem dX8_pass_124 : decode cX8_pass 124 = .ok (.aload 4, 2) := by decide +kernel
theorem dX8_pass_126 : decode cX8_pass 126 = .ok (.iconst 2, 1) := by decide +kernel
theorem dX8_pass_127 : decode cX8_pass 127 = .ok (.iconst 0, 1) := by decide +kernel
theorem dX8_pass_128 : decode cX8_pass 128 = .ok (.iastore, 1) := by decide +kernel
theorem dX8_pass_129 : decode cX8_pass 129 = .ok (.iinc 3 1, 3) := by decide +kernel
theorem dX8_pass_132 : decode cX8_pass 132 = .ok (.goto (-122), 3) := by decide +kernel
theorem dX8_pass_135 : decode cX8_pass 135 = .ok (.aload_n 0, 1) := by decide +kernel
theorem dX8_pass_136 : decode cX8_pass 136 = .ok (.getfield 25, 3) := by decide +kernel
theorem dX8_pass_139 : decode cX8_pass 139 = .ok (.astore_n 1, 1) := by decide +kernel
theorem dX8_pass_140 : decode cX8_pass 140 = .ok (.aload_n 1, 1) := by decide +kernel
theorem dX8_pass_141 : decode cX8_pass 141 = .ok (.arraylength, 1) := by decide +kernel
theorem dX8_pass_142 : decode cX8_pass 142 = .ok (.istore_n 2, 1) := by decide +kernel
theorem dX8_pass_143 : decode cX8_pass 143 = .ok (.iconst 0, 1) := by decide +kernel
theorem dX8_pass_144 : decode cX8_pass 144 = .ok (.istore_n 3, 1) := by decide +kernel
theorem dX8_pass_145 : decode cX8_pass 145 = .ok (.iload_n 3, 1) := by decide +kernel
theorem dX8_pass_146 : decode cX8_pass 146 = .ok (.iload_n 2, 1) := by decide +kernel
theorem dX8_pass_147 : decode cX8_pass 147 = .ok (.if_icmp .ge 63, 3) := by decide +kernel
theorem dX8_pass_150 : decode cX8_pass 150 = .ok (.aload_n 1, 1) := by decide +kernel
theorem dX8_pass_151 : decode cX8_pass 151 = .ok (.iload_n 3, 1) := by decide +kernel
theorem dX8_pass_152 : decode cX8_pass 152 = .ok (.aaload, 1) := by decide +kernel
theorem dX8_pass_153 : decode cX8_pass 153 = .ok (.astore 4, 2) := by decide +kernel
theorem dX8_pass_155 : decode cX8_pass 155 = .ok (.aload 4, 2) := by decide +kernel
theorem dX8_pass_157 : decode cX8_pass 157 = .ok (.iconst 2, 1) := by decide +kernel
theorem dX8_pass_158 : decode cX8_pass 158 = .ok (.iaload, 1) := by decide +kernel
theorem dX8_pass_159 : decode cX8_pass 159 = .ok (.ifCond .lt 45, 3) := by decide +kernel
theorem dX8_pass_162 : decode cX8_pass 162 = .ok (.aload 4, 2) := by decide +kernel
theorem dX8_pass_164 : decode cX8_pass 164 = .ok (.iconst 4, 1) := by decide +kernel
theorem dX8_pass_165 : decode cX8_pass 165 = .ok (.aload 4, 2) := by decide +kernel
theorem dX8_pass_167 : decode cX8_pass 167 = .ok (.iconst 4, 1) := by decide +kernel
theorem dX8_pass_168 : decode cX8_pass 168 = .ok (.iaload, 1) := by decide +kernel
theorem dX8_pass_169 : decode cX8_pass 169 = .ok (.aload 4, 2) := by decide +kernel
theorem dX8_pass_171 : decode cX8_pass 171 = .ok (.iconst 1, 1) := by decide +kernel
theorem dX8_pass_172 : decode cX8_pass 172 = .ok (.iaload, 1) := by decide +kernel
theorem dX8_pass_173 : decode cX8_pass 173 = .ok (.iadd, 1) := by decide +kernel
theorem dX8_pass_174 : decode cX8_pass 174 = .ok (.aload 4, 2) := by decide +kernel
theorem dX8_pass_176 : decode cX8_pass 176 = .ok (.iconst 2, 1) := by decide +kernel
theorem dX8_pass_177 : decode cX8_pass 177 = .ok (.iaload, 1) := by decide +kernel
theorem dX8_pass_178 : decode cX8_pass 178 = .ok (.invokestatic 55, 3) := by decide +kernel
theorem dX8_pass_181 : decode cX8_pass 181 = .ok (.if_icmp .le 13, 3) := by decide +kernel
theorem dX8_pass_184 : decode cX8_pass 184 = .ok (.aload 4, 2) := by decide +kernel
theorem dX8_pass_186 : decode cX8_pass 186 = .ok (.iconst 2, 1) := by decide +kernel
theorem dX8_pass_187 : decode cX8_pass 187 = .ok (.iaload, 1) := by decide +kernel
theorem dX8_pass_188 : decode cX8_pass 188 = .ok (.invokestatic 55, 3) := by decide +kernel
theorem dX8_pass_191 : decode cX8_pass 191 = .ok (.goto 12, 3) := by decide +kernel
theorem dX8_pass_194 : decode cX8_pass 194 = .ok (.aload 4, 2) := by decide +kernel
theorem dX8_pass_196 : decode cX8_pass 196 = .ok (.iconst 4, 1) := by decide +kernel
theorem dX8_pass_197 : decode cX8_pass 197 = .ok (.iaload, 1) := by decide +kernel
theorem dX8_pass_198 : decode cX8_pass 198 = .ok (.aload 4, 2) := by decide +kernel
theorem dX8_pass_200 : decode cX8_pass 200 = .ok (.iconst 1, 1) := by decide +kernel
theorem dX8_pass_201 : decode cX8_pass 201 = .ok (.iaload, 1) := by decide +kernel
theorem dX8_pass_202 : decode cX8_pass 202 = .ok (.iadd, 1) := by decide +kernel
theorem dX8_pass_203 : decode cX8_pass 203 = .ok (.iastore, 1) := by decide +kernel
theorem dX8_pass_204 : decode cX8_pass 204 = .ok (.iinc 3 1, 3) := by decide +kernel
theorem dX8_pass_207 : decode cX8_pass 207 = .ok (.goto (-62), 3) := by decide +kernel
theorem dX8_pass_210 : decode cX8_pass 210 = .ok (.aload_n 0, 1) := by decide +kernel
theorem dX8_pass_211 : decode cX8_pass 211 = .ok (.getfield 21, 3) := by decide +kernel
theorem dX8_pass_214 : decode cX8_pass 214 = .ok (.astore_n 1, 1) := by decide +kernel
theorem dX8_pass_215 : decode cX8_pass 215 = .ok (.aload_n 1, 1) := by decide +kernel
theorem dX8_pass_216 : decode cX8_pass 216 = .ok (.arraylength, 1) := by decide +kernel
theorem dX8_pass_217 : decode cX8_pass 217 = .ok (.istore_n 2, 1) := by decide +kernel
theorem dX8_pass_218 : decode cX8_pass 218 = .ok (.iconst 0, 1) := by decide +kernel
theorem dX8_pass_219 : decode cX8_pass 219 = .ok (.istore_n 3, 1) := by decide +kernel
theorem dX8_pass_220 : decode cX8_pass 220 = .ok (.iload_n 3, 1) := by decide +kernel
theorem dX8_pass_221 : decode cX8_pass 221 = .ok (.iload_n 2, 1) := by decide +kernel
theorem dX8_pass_222 : decode cX8_pass 222 = .ok (.if_icmp .ge 50, 3) := by decide +kernel
theorem dX8_pass_225 : decode cX8_pass 225 = .ok (.aload_n 1, 1) := by decide +kernel
theorem dX8_pass_226 : decode cX8_pass 226 = .ok (.iload_n 3, 1) := by decide +kernel
theorem dX8_pass_227 : decode cX8_pass 227 = .ok (.aaload, 1) := by decide +kernel
theorem dX8_pass_228 : decode cX8_pass 228 = .ok (.astore 4, 2) := by decide +kernel
theorem dX8_pass_230 : decode cX8_pass 230 = .ok (.aload 4, 2) := by decide +kernel
theorem dX8_pass_232 : decode cX8_pass 232 = .ok (.iconst 2, 1) := by decide +kernel
theorem dX8_pass_233 : decode cX8_pass 233 = .ok (.aload 4, 2) := by decide +kernel
theorem dX8_pass_235 : decode cX8_pass 235 = .ok (.iconst 2, 1) := by decide +kernel
theorem dX8_pass_236 : decode cX8_pass 236 = .ok (.iaload, 1) := by decide +kernel
theorem dX8_pass_237 : decode cX8_pass 237 = .ok (.aload 4, 2) := by decide +kernel
theorem dX8_pass_239 : decode cX8_pass 239 = .ok (.iconst 0, 1) := by decide +kernel
theorem dX8_pass_240 : decode cX8_pass 240 = .ok (.iaload, 1) := by decide +kernel
theorem dX8_pass_241 : decode cX8_pass 241 = .ok (.iadd, 1) := by decide +kernel
theorem dX8_pass_242 : decode cX8_pass 242 = .ok (.aload 4, 2) := by decide +kernel
theorem dX8_pass_244 : decode cX8_pass 244 = .ok (.iconst 1, 1) := by decide +kernel
theorem dX8_pass_245 : decode cX8_pass 245 = .ok (.iaload, 1) := by decide +kernel
theorem dX8_pass_246 : decode cX8_pass 246 = .ok (.if_icmp .le 10, 3) := by decide +kernel
theorem dX8_pass_249 : decode cX8_pass 249 = .ok (.aload 4, 2) := by decide +kernel
theorem dX8_pass_251 : decode cX8_pass 251 = .ok (.iconst 1, 1) := by decide +kernel
theorem dX8_pass_252 : decode cX8_pass 252 = .ok (.iaload, 1) := by decide +kernel
theorem dX8_pass_253 : decode cX8_pass 253 = .ok (.goto 12, 3) := by decide +kernel
theorem dX8_pass_256 : decode cX8_pass 256 = .ok (.aload 4, 2) := by decide +kernel
theorem dX8_pass_258 : decode cX8_pass 258 = .ok (.iconst 2, 1) := by decide +kernel
theorem dX8_pass_259 : decode cX8_pass 259 = .ok (.iaload, 1) := by decide +kernel
theorem dX8_pass_260 : decode cX8_pass 260 = .ok (.aload 4, 2) := by decide +kernel
theorem dX8_pass_262 : decode cX8_pass 262 = .ok (.iconst 0, 1) := by decide +kernel
theorem dX8_pass_263 : decode cX8_pass 263 = .ok (.iaload, 1) := by decide +kernel
theorem dX8_pass_264 : decode cX8_pass 264 = .ok (.iadd, 1) := by decide +kernel
theorem dX8_pass_265 : decode cX8_pass 265 = .ok (.iastore, 1) := by decide +kernel
theorem dX8_pass_266 : decode cX8_pass 266 = .ok (.iinc 3 1, 3) := by decide +kernel
theorem dX8_pass_269 : decode cX8_pass 269 = .ok (.goto (-49), 3) := by decide +kernel
theorem dX8_pass_272 : decode cX8_pass 272 = .ok (.aload_n 0, 1) := by decide +kernel
theorem dX8_pass_273 : decode cX8_pass 273 = .ok (.getfield 31, 3) := by decide +kernel
theorem dX8_pass_276 : decode cX8_pass 276 = .ok (.astore_n 1, 1) := by decide +kernel
theorem dX8_pass_277 : decode cX8_pass 277 = .ok (.aload_n 1, 1) := by decide +kernel
theorem dX8_pass_278 : decode cX8_pass 278 = .ok (.arraylength, 1) := by decide +kernel
theorem dX8_pass_279 : decode cX8_pass 279 = .ok (.istore_n 2, 1) := by decide +kernel
theorem dX8_pass_280 : decode cX8_pass 280 = .ok (.iconst 0, 1) := by decide +kernel
theorem dX8_pass_281 : decode cX8_pass 281 = .ok (.istore_n 3, 1) := by decide +kernel
theorem dX8_pass_282 : decode cX8_pass 282 = .ok (.iload_n 3, 1) := by decide +kernel
theorem dX8_pass_283 : decode cX8_pass 283 = .ok (.iload_n 2, 1) := by decide +kernel
theorem dX8_pass_284 : decode cX8_pass 284 = .ok (.if_icmp .ge 193, 3) := by decide +kernel
theorem dX8_pass_287 : decode cX8_pass 287 = .ok (.aload_n 1, 1) := by decide +kernel
theorem dX8_pass_288 : decode cX8_pass 288 = .ok (.iload_n 3, 1) := by decide +kernel
theorem dX8_pass_289 : decode cX8_pass 289 = .ok (.aaload, 1) := by decide +kernel
theorem dX8_pass_290 : decode cX8_pass 290 = .ok (.astore 4, 2) := by decide +kernel
theorem dX8_pass_292 : decode cX8_pass 292 = .ok (.aload_n 0, 1) := by decide +kernel
theorem dX8_pass_293 : decode cX8_pass 293 = .ok (.getfield 39, 3) := by decide +kernel
theorem dX8_pass_296 : decode cX8_pass 296 = .ok (.bipush 7, 2) := by decide +kernel
theorem dX8_pass_298 : decode cX8_pass 298 = .ok (.irem, 1) := by decide +kernel
theorem dX8_pass_299 : decode cX8_pass 299 = .ok (.ifCond .ne 11, 3) := by decide +kernel
theorem dX8_pass_302 : decode cX8_pass 302 = .ok (.aload 4, 2) := by decide +kernel
theorem dX8_pass_304 : decode cX8_pass 304 = .ok (.iconst 2, 1) := by decide +kernel
theorem dX8_pass_305 : decode cX8_pass 305 = .ok (.aload 4, 2) := by decide +kernel
theorem dX8_pass_307 : decode cX8_pass 307 = .ok (.iconst 0, 1) := by decide +kernel
theorem dX8_pass_308 : decode cX8_pass 308 = .ok (.iaload, 1) := by decide +kernel
theorem dX8_pass_309 : decode cX8_pass 309 = .ok (.iastore, 1) := by decide +kernel
theorem dX8_pass_310 : decode cX8_pass 310 = .ok (.iconst 0, 1) := by decide +kernel
theorem dX8_pass_311 : decode cX8_pass 311 = .ok (.istore 5, 2) := by decide +kernel
theorem dX8_pass_313 : decode cX8_pass 313 = .ok (.iload 5, 2) := by decide +kernel
theorem dX8_pass_315 : decode cX8_pass 315 = .ok (.iconst 2, 1) := by decide +kernel
theorem dX8_pass_316 : decode cX8_pass 316 = .ok (.if_icmp .ge 155, 3) := by decide +kernel
theorem dX8_pass_319 : decode cX8_pass 319 = .ok (.aload 4, 2) := by decide +kernel
theorem dX8_pass_321 : decode cX8_pass 321 = .ok (.iconst 2, 1) := by decide +kernel
theorem dX8_pass_322 : decode cX8_pass 322 = .ok (.iaload, 1) := by decide +kernel
theorem dX8_pass_323 : decode cX8_pass 323 = .ok (.ifCond .le 148, 3) := by decide +kernel
theorem dX8_pass_326 : decode cX8_pass 326 = .ok (.aload_n 0, 1) := by decide +kernel
theorem dX8_pass_327 : decode cX8_pass 327 = .ok (.getfield 13, 3) := by decide +kernel
theorem dX8_pass_330 : decode cX8_pass 330 = .ok (.iconst 1, 1) := by decide +kernel
theorem dX8_pass_331 : decode cX8_pass 331 = .ok (.iaload, 1) := by decide +kernel
theorem dX8_pass_332 : decode cX8_pass 332 = .ok (.aload_n 0, 1) := by decide +kernel
theorem dX8_pass_333 : decode cX8_pass 333 = .ok (.getfield 16, 3) := by decide +kernel
theorem dX8_pass_336 : decode cX8_pass 336 = .ok (.if_icmp .ge 12, 3) := by decide +kernel
theorem dX8_pass_339 : decode cX8_pass 339 = .ok (.aload_n 0, 1) := by decide +kernel
theorem dX8_pass_340 : decode cX8_pass 340 = .ok (.getfield 13, 3) := by decide +kernel
theorem dX8_pass_343 : decode cX8_pass 343 = .ok (.iconst 1, 1) := by decide +kernel
theorem dX8_pass_344 : decode cX8_pass 344 = .ok (.iaload, 1) := by decide +kernel
theorem dX8_pass_345 : decode cX8_pass 345 = .ok (.goto 7, 3) := by decide +kernel
theorem dX8_pass_348 : decode cX8_pass 348 = .ok (.aload_n 0, 1) := by decide +kernel
theorem dX8_pass_349 : decode cX8_pass 349 = .ok (.getfield 16, 3) := by decide +kernel
theorem dX8_pass_352 : decode cX8_pass 352 = .ok (.istore 6, 2) := by decide +kernel
theorem dX8_pass_354 : decode cX8_pass 354 = .ok (.aload_n 0, 1) := by decide +kernel
theorem dX8_pass_355 : decode cX8_pass 355 = .ok (.getfield 13, 3) := by decide +kernel
theorem dX8_pass_358 : decode cX8_pass 358 = .ok (.iconst 0, 1) := by decide +kernel
theorem dX8_pass_359 : decode cX8_pass 359 = .ok (.iaload, 1) := by decide +kernel
theorem dX8_pass_360 : decode cX8_pass 360 = .ok (.bipush 10, 2) := by decide +kernel
theorem dX8_pass_362 : decode cX8_pass 362 = .ok (.iload 6, 2) := by decide +kernel
theorem dX8_pass_364 : decode cX8_pass 364 = .ok (.isub, 1) := by decide +kernel
theorem dX8_pass_365 : decode cX8_pass 365 = .ok (.if_icmp .ge 6, 3) := by decide +kernel
theorem dX8_pass_368 : decode cX8_pass 368 = .ok (.goto 103, 3) := by decide +kernel
theorem dX8_pass_371 : decode cX8_pass 371 = .ok (.iload 6, 2) := by decide +kernel
theorem dX8_pass_373 : decode cX8_pass 373 = .ok (.aload 4, 2) := by decide +kernel
theorem dX8_pass_375 : decode cX8_pass 375 = .ok (.iconst 1, 1) := by decide +kernel
theorem dX8_pass_376 : decode cX8_pass 376 = .ok (.iaload, 1) := by decide +kernel
theorem dX8_pass_377 : decode cX8_pass 377 = .ok (.if_icmp .ge 14, 3) := by decide +kernel
theorem dX8_pass_380 : decode cX8_pass 380 = .ok (.aload 4, 2) := by decide +kernel
theorem dX8_pass_382 : decode cX8_pass 382 = .ok (.iconst 4, 1) := by decide +kernel
theorem dX8_pass_383 : decode cX8_pass 383 = .ok (.dup2, 1) := by decide +kernel
theorem dX8_pass_384 : decode cX8_pass 384 = .ok (.iaload, 1) := by decide +kernel
theorem dX8_pass_385 : decode cX8_pass 385 = .ok (.iconst 1, 1) := by decide +kernel
theorem dX8_pass_386 : decode cX8_pass 386 = .ok (.iadd, 1) := by decide +kernel
theorem dX8_pass_387 : decode cX8_pass 387 = .ok (.iastore, 1) := by decide +kernel
theorem dX8_pass_388 : decode cX8_pass 388 = .ok (.goto 83, 3) := by decide +kernel
theorem dX8_pass_391 : decode cX8_pass 391 = .ok (.aload_n 0, 1) := by decide +kernel
theorem dX8_pass_392 : decode cX8_pass 392 = .ok (.getfield 13, 3) := by decide +kernel
theorem dX8_pass_395 : decode cX8_pass 395 = .ok (.iconst 1, 1) := by decide +kernel
theorem dX8_pass_396 : decode cX8_pass 396 = .ok (.dup2, 1) := by decide +kernel
theorem dX8_pass_397 : decode cX8_pass 397 = .ok (.iaload, 1) := by decide +kernel
theorem dX8_pass_398 : decode cX8_pass 398 = .ok (.iload 6, 2) := by decide +kernel
theorem dX8_pass_400 : decode cX8_pass 400 = .ok (.isub, 1) := by decide +kernel
theorem dX8_pass_401 : decode cX8_pass 401 = .ok (.iastore, 1) := by decide +kernel
theorem dX8_pass_402 : decode cX8_pass 402 = .ok (.aload_n 0, 1) := by decide +kernel
theorem dX8_pass_403 : decode cX8_pass 403 = .ok (.getfield 13, 3) := by decide +kernel
theorem dX8_pass_406 : decode cX8_pass 406 = .ok (.iconst 0, 1) := by decide +kernel
theorem dX8_pass_407 : decode cX8_pass 407 = .ok (.dup2, 1) := by decide +kernel
theorem dX8_pass_408 : decode cX8_pass 408 = .ok (.iaload, 1) := by decide +kernel
theorem dX8_pass_409 : decode cX8_pass 409 = .ok (.bipush 10, 2) := by decide +kernel
theorem dX8_pass_411 : decode cX8_pass 411 = .ok (.iload 6, 2) := by decide +kernel
theorem dX8_pass_413 : decode cX8_pass 413 = .ok (.isub, 1) := by decide +kernel
theorem dX8_pass_414 : decode cX8_pass 414 = .ok (.isub, 1) := by decide +kernel
theorem dX8_pass_415 : decode cX8_pass 415 = .ok (.iastore, 1) := by decide +kernel
theorem dX8_pass_416 : decode cX8_pass 416 = .ok (.aload 4, 2) := by decide +kernel
theorem dX8_pass_418 : decode cX8_pass 418 = .ok (.iconst 2, 1) := by decide +kernel
theorem dX8_pass_419 : decode cX8_pass 419 = .ok (.dup2, 1) := by decide +kernel
theorem dX8_pass_420 : decode cX8_pass 420 = .ok (.iaload, 1) := by decide +kernel
theorem dX8_pass_421 : decode cX8_pass 421 = .ok (.iconst 1, 1) := by decide +kernel
theorem dX8_pass_422 : decode cX8_pass 422 = .ok (.isub, 1) := by decide +kernel
theorem dX8_pass_423 : decode cX8_pass 423 = .ok (.iastore, 1) := by decide +kernel
theorem dX8_pass_424 : decode cX8_pass 424 = .ok (.aload 4, 2) := by decide +kernel
theorem dX8_pass_426 : decode cX8_pass 426 = .ok (.iconst 3, 1) := by decide +kernel
theorem dX8_pass_427 : decode cX8_pass 427 = .ok (.dup2, 1) := by decide +kernel
theorem dX8_pass_428 : decode cX8_pass 428 = .ok (.iaload, 1) := by decide +kernel
theorem dX8_pass_429 : decode cX8_pass 429 = .ok (.iconst 1, 1) := by decide +kernel
theorem dX8_pass_430 : decode cX8_pass 430 = .ok (.iadd, 1) := by decide +kernel
theorem dX8_pass_431 : decode cX8_pass 431 = .ok (.iastore, 1) := by decide +kernel
theorem dX8_pass_432 : decode cX8_pass 432 = .ok (.aload_n 0, 1) := by decide +kernel
theorem dX8_pass_433 : decode cX8_pass 433 = .ok (.dup, 1) := by decide +kernel
theorem dX8_pass_434 : decode cX8_pass 434 = .ok (.getfield 42, 3) := by decide +kernel
theorem dX8_pass_437 : decode cX8_pass 437 = .ok (.iconst 1, 1) := by decide +kernel
theorem dX8_pass_438 : decode cX8_pass 438 = .ok (.iadd, 1) := by decide +kernel
theorem dX8_pass_439 : decode cX8_pass 439 = .ok (.putfield 42, 3) := by decide +kernel
theorem dX8_pass_442 : decode cX8_pass 442 = .ok (.aload_n 0, 1) := by decide +kernel
theorem dX8_pass_443 : decode cX8_pass 443 = .ok (.dup, 1) := by decide +kernel
theorem dX8_pass_444 : decode cX8_pass 444 = .ok (.getfield 45, 3) := by decide +kernel
theorem dX8_pass_447 : decode cX8_pass 447 = .ok (.iload 6, 2) := by decide +kernel
theorem dX8_pass_449 : decode cX8_pass 449 = .ok (.aload_n 0, 1) := by decide +kernel
theorem dX8_pass_450 : decode cX8_pass 450 = .ok (.getfield 16, 3) := by decide +kernel
theorem dX8_pass_453 : decode cX8_pass 453 = .ok (.if_icmp .ge 7, 3) := by decide +kernel
theorem dX8_pass_456 : decode cX8_pass 456 = .ok (.iconst 1, 1) := by decide +kernel
theorem dX8_pass_457 : decode cX8_pass 457 = .ok (.goto 4, 3) := by decide +kernel
theorem dX8_pass_460 : decode cX8_pass 460 = .ok (.iconst 0, 1) := by decide +kernel
theorem dX8_pass_461 : decode cX8_pass 461 = .ok (.iadd, 1) := by decide +kernel
theorem dX8_pass_462 : decode cX8_pass 462 = .ok (.putfield 45, 3) := by decide +kernel
theorem dX8_pass_465 : decode cX8_pass 465 = .ok (.iinc 5 1, 3) := by decide +kernel
theorem dX8_pass_468 : decode cX8_pass 468 = .ok (.goto (-155), 3) := by decide +kernel
theorem dX8_pass_471 : decode cX8_pass 471 = .ok (.iinc 3 1, 3) := by decide +kernel
theorem dX8_pass_474 : decode cX8_pass 474 = .ok (.goto (-192), 3) := by decide +kernel
theorem dX8_pass_477 : decode cX8_pass 477 = .ok (.aload_n 0, 1) := by decide +kernel
theorem dX8_pass_478 : decode cX8_pass 478 = .ok (.dup, 1) := by decide +kernel
theorem dX8_pass_479 : decode cX8_pass 479 = .ok (.getfield 39, 3) := by decide +kernel
theorem dX8_pass_482 : decode cX8_pass 482 = .ok (.iconst 1, 1) := by decide +kernel
theorem dX8_pass_483 : decode cX8_pass 483 = .ok (.iadd, 1) := by decide +kernel
theorem dX8_pass_484 : decode cX8_pass 484 = .ok (.putfield 39, 3) := by decide +kernel
theorem dX8_pass_487 : decode cX8_pass 487 = .ok (.return_, 1) := by decide +kernel
set_option maxRecDepth 20000 in
theorem ggX8_behind_X8_pass : GoodIn wsX8_behind wsX8_pass := goodIn_r _ [5, 6, 7, 8, 9, 10, 11, 12, 13, 14, 15, 16, 17, 18, 4, 19, 20, 21, 22, 23, 24, 25, 26, 27, 28, 29, 30, 31, 32, 33, 34] (by decide +kernel) (by decide +kernel)
set_option maxRecDepth 20000 in
theorem gX8_behind_X8_pass : GoodIn wsX8_behind (wsV RX8 63 RX8 yX8_pass wsX8_pass) := goodIn_app (goodIn_of _ (by decide +kernel)) ggX8_behind_X8_pass
theorem dX8_behind_0 : decode cX8_behind 0 = .ok (.iconst 0, 1) := by decide +kernel
theorem dX8_behind_1 : decode cX8_behind 1 = .ok (.istore_n 2, 1) := by decide +kernel
theorem dX8_behind_2 : decode cX8_behind 2 = .ok (.iload_n 2, 1) := by decide +kernel
theorem dX8_behind_3 : decode cX8_behind 3 = .ok (.iload_n 1, 1) := by decide +kernel
theorem dX8_behind_4 : decode cX8_behind 4 = .ok (.if_icmp .ge 13, 3) := by decide +kernel
theorem dX8_behind_7 : decode cX8_behind 7 = .ok (.aload_n 0, 1) := by decide +kernel
theorem dX8_behind_8 : decode cX8_behind 8 = .ok (.invokevirtual 63, 3) := by decide +kernel
theorem dX8_behind_11 : decode cX8_behind 11 = .ok (.iinc 2 1, 3) := by decide +kernel
theorem dX8_behind_14 : decode cX8_behind 14 = .ok (.goto (-12), 3) := by decide +kernel
theorem dX8_behind_17 : decode cX8_behind 17 = .ok (.aload_n 0, 1) := by decide +kernel
theorem dX8_behind_18 : decode cX8_behind 18 = .ok (.areturn, 1) := by decide +kernel
theorem dX8_counted_0 : decode cX8_counted 0 = .ok (.bipush 9, 2) := by decide +kernel
theorem dX8_counted_2 : decode cX8_counted 2 = .ok (.newarray .int, 2) := by decide +kernel
theorem dX8_counted_4 : decode cX8_counted 4 = .ok (.dup, 1) := by decide +kernel
theorem dX8_counted_5 : decode cX8_counted 5 = .ok (.iconst 0, 1) := by decide +kernel
theorem dX8_counted_6 : decode cX8_counted 6 = .ok (.aload_n 0, 1) := by decide +kernel
theorem dX8_counted_7 : decode cX8_counted 7 = .ok (.getfield 39, 3) := by decide +kernel
theorem dX8_counted_10 : decode cX8_counted 10 = .ok (.iastore, 1) := by decide +kernel
theorem dX8_counted_11 : decode cX8_counted 11 = .ok (.dup, 1) := by decide +kernel
theorem dX8_counted_12 : decode cX8_counted 12 = .ok (.iconst 1, 1) := by decide +kernel
theorem dX8_counted_13 : decode cX8_counted 13 = .ok (.aload_n 0, 1) := by decide +kernel
theorem dX8_counted_14 : decode cX8_counted 14 = .ok (.getfield 7, 3) := by decide +kernel
theorem dX8_counted_17 : decode cX8_counted 17 = .ok (.iconst 0, 1) := by decide +kernel
theorem dX8_counted_18 : decode cX8_counted 18 = .ok (.iaload, 1) := by decide +kernel
theorem dX8_counted_19 : decode cX8_counted 19 = .ok (.iastore, 1) := by decide +kernel
theorem dX8_counted_20 : decode cX8_counted 20 = .ok (.dup, 1) := by decide +kernel
theorem dX8_counted_21 : decode cX8_counted 21 = .ok (.iconst 2, 1) := by decide +kernel
theorem dX8_counted_22 : decode cX8_counted 22 = .ok (.aload_n 0, 1) := by decide +kernel
theorem dX8_counted_23 : decode cX8_counted 23 = .ok (.getfield 7, 3) := by decide +kernel
theorem dX8_counted_26 : decode cX8_counted 26 = .ok (.iconst 1, 1) := by decide +kernel
theorem dX8_counted_27 : decode cX8_counted 27 = .ok (.iaload, 1) := by decide +kernel
theorem dX8_counted_28 : decode cX8_counted 28 = .ok (.iastore, 1) := by decide +kernel
theorem dX8_counted_29 : decode cX8_counted 29 = .ok (.dup, 1) := by decide +kernel
theorem dX8_counted_30 : decode cX8_counted 30 = .ok (.iconst 3, 1) := by decide +kernel
theorem dX8_counted_31 : decode cX8_counted 31 = .ok (.aload_n 0, 1) := by decide +kernel
theorem dX8_counted_32 : decode cX8_counted 32 = .ok (.getfield 13, 3) := by decide +kernel
theorem dX8_counted_35 : decode cX8_counted 35 = .ok (.iconst 0, 1) := by decide +kernel
theorem dX8_counted_36 : decode cX8_counted 36 = .ok (.iaload, 1) := by decide +kernel
theorem dX8_counted_37 : decode cX8_counted 37 = .ok (.iastore, 1) := by decide +kernel
theorem dX8_counted_38 : decode cX8_counted 38 = .ok (.dup, 1) := by decide +kernel
theorem dX8_counted_39 : decode cX8_counted 39 = .ok (.iconst 4, 1) := by decide +kernel
theorem dX8_counted_40 : decode cX8_counted 40 = .ok (.aload_n 0, 1) := by decide +kernel
theorem dX8_counted_41 : decode cX8_counted 41 = .ok (.getfield 13, 3) := by decide +kernel
theorem dX8_counted_44 : decode cX8_counted 44 = .ok (.iconst 1, 1) := by decide +kernel
theorem dX8_counted_45 : decode cX8_counted 45 = .ok (.iaload, 1) := by decide +kernel
theorem dX8_counted_46 : decode cX8_counted 46 = .ok (.iastore, 1) := by decide +kernel
theorem dX8_counted_47 : decode cX8_counted 47 = .ok (.dup, 1) := by decide +kernel
theorem dX8_counted_48 : decode cX8_counted 48 = .ok (.iconst 5, 1) := by decide +kernel
theorem dX8_counted_49 : decode cX8_counted 49 = .ok (.aload_n 0, 1) := by decide +kernel
theorem dX8_counted_50 : decode cX8_counted 50 = .ok (.getfield 42, 3) := by decide +kernel
theorem dX8_counted_53 : decode cX8_counted 53 = .ok (.iastore, 1) := by decide +kernel
theorem dX8_counted_54 : decode cX8_counted 54 = .ok (.dup, 1) := by decide +kernel
theorem dX8_counted_55 : decode cX8_counted 55 = .ok (.bipush 6, 2) := by decide +kernel
theorem dX8_counted_57 : decode cX8_counted 57 = .ok (.aload_n 0, 1) := by decide +kernel
theorem dX8_counted_58 : decode cX8_counted 58 = .ok (.getfield 45, 3) := by decide +kernel
theorem dX8_counted_61 : decode cX8_counted 61 = .ok (.iastore, 1) := by decide +kernel
theorem dX8_counted_62 : decode cX8_counted 62 = .ok (.dup, 1) := by decide +kernel
theorem dX8_counted_63 : decode cX8_counted 63 = .ok (.bipush 7, 2) := by decide +kernel
theorem dX8_counted_65 : decode cX8_counted 65 = .ok (.aload_n 0, 1) := by decide +kernel
theorem dX8_counted_66 : decode cX8_counted 66 = .ok (.getfield 16, 3) := by decide +kernel
theorem dX8_counted_69 : decode cX8_counted 69 = .ok (.iastore, 1) := by decide +kernel
theorem dX8_counted_70 : decode cX8_counted 70 = .ok (.dup, 1) := by decide +kernel
theorem dX8_counted_71 : decode cX8_counted 71 = .ok (.bipush 8, 2) := by decide +kernel
theorem dX8_counted_73 : decode cX8_counted 73 = .ok (.aload_n 0, 1) := by decide +kernel
theorem dX8_counted_74 : decode cX8_counted 74 = .ok (.getfield 48, 3) := by decide +kernel
theorem dX8_counted_77 : decode cX8_counted 77 = .ok (.iastore, 1) := by decide +kernel
theorem dX8_counted_78 : decode cX8_counted 78 = .ok (.astore_n 2, 1) := by decide +kernel
theorem dX8_counted_79 : decode cX8_counted 79 = .ok (.aload_n 2, 1) := by decide +kernel
theorem dX8_counted_80 : decode cX8_counted 80 = .ok (.iload_n 1, 1) := by decide +kernel
theorem dX8_counted_81 : decode cX8_counted 81 = .ok (.iaload, 1) := by decide +kernel
theorem dX8_counted_82 : decode cX8_counted 82 = .ok (.ireturn, 1) := by decide +kernel
set_option maxRecDepth 20000 in
theorem ggX8_isSame_X7_count : GoodIn wsX8_isSame wsX7_count := goodIn_ca (goodIn_r _ [9, 10, 11, 12, 8, 13, 14, 15, 16, 17, 18, 19, 20, 21, 22, 23, 24, 25, 26, 27, 28, 29, 30, 31, 32, 33, 34, 35, 36, 37, 38, 39, 40, 41, 42, 43, 44, 45, 46, 47, 48, 49, 50, 51, 52, 53, 54, 55, 56, 57, 58, 59, 60, 61, 62, 63, 64, 65, 66, 67, 68, 69, 70, 71, 72, 73, 74, 75, 76, 77, 78, 79, 80, 81, 82, 83, 84, 85, 86, 87, 88, 89, 90, 91, 92, 93, 94, 95, 96, 97, 158, 159, 160, 161, 162, 163, 164, 165, 166, 167, 168, 169, 170, 171, 172, 173, 174, 175, 176, 177, 178, 179, 180, 181, 182, 183, 184, 185, 186, 187, 188, 189, 190, 191, 192, 193, 194, 195] (by decide +kernel) (by decide +kernel)) (goodIn_sub (fun _ h => List.mem_cons_of_mem _ (List.mem_append_right _ h)) (by decide +kernel))
set_option maxRecDepth 20000 in
theorem gX8_isSame_X7_count : GoodIn wsX8_isSame (wsV RX8 66 RX7 yX7_count wsX7_count) := goodIn_app (goodIn_of _ (by decide +kernel)) ggX8_isSame_X7_count
set_option maxRecDepth 20000 in
theorem ggX8_isSame_X8_counted : GoodIn wsX8_isSame wsX8_counted := goodIn_r _ [102, 103, 104, 105, 106, 107, 108, 109, 110, 147, 148, 149, 150, 151, 152, 153, 154, 155, 156, 157] (by decide +kernel) (by decide +kernel)
set_option maxRecDepth 20000 in
theorem gX8_isSame_X8_counted : GoodIn wsX8_isSame (wsV RX8 71 RX8 yX8_counted wsX8_counted) := goodIn_app (goodIn_of _ (by decide +kernel)) ggX8_isSame_X8_counted
set_option maxRecDepth 20000 in
theorem ggX8_isSame_X7_about : GoodIn wsX8_isSame wsX7_about := goodIn_ca (goodIn_r _ [114, 10, 115, 116, 36, 37, 8, 38, 39, 40, 11, 12, 13, 14, 15, 16, 17, 18, 19, 20, 21, 22, 23, 24, 25, 26, 27, 28, 29, 30, 31, 32, 33, 34, 35, 41, 42, 43, 44, 45, 46, 47, 48, 49, 50, 51, 52, 53, 54, 55, 56, 57, 58, 59, 60, 61, 62, 63, 64, 65, 66, 67, 68, 69, 70, 71, 72, 73, 74, 75, 76, 77, 78, 79, 80, 81, 82, 83, 84, 85, 86, 87, 88, 89, 90, 91, 92, 93, 94, 95, 96, 97, 158, 159, 178, 179, 180, 181, 182, 183, 184, 185, 186, 187, 188, 160, 161, 162, 163, 164, 165, 166, 167, 168, 169, 170, 171, 172, 173, 174, 175, 176, 177, 189, 190, 191, 192, 193, 194, 195] (by decide +kernel) (by decide +kernel)) (goodIn_sub (fun _ h => List.mem_cons_of_mem _ (List.mem_append_right _ h)) (by decide +kernel))
set_option maxRecDepth 20000 in
theorem gX8_isSame_X7_about : GoodIn wsX8_isSame (wsV RX8 74 RX7 yX7_about wsX7_about) := goodIn_app (goodIn_of _ (by decide +kernel)) ggX8_isSame_X7_about
set_option maxRecDepth 20000 in
theorem ggX8_isSame_X7_roast : GoodIn wsX8_isSame wsX7_roast := goodIn_ca (goodIn_r _ [120, 10, 121, 122, 36, 37, 8, 38, 39, 40, 11, 12, 13, 14, 15, 16, 17, 18, 19, 20, 21, 22, 23, 24, 25, 26, 27, 28, 29, 30, 31, 32, 33, 34, 35, 41, 42, 43, 44, 45, 46, 47, 48, 49, 50, 51, 52, 53, 54, 55, 56, 57, 58, 59, 60, 61, 62, 63, 64, 65, 66, 67, 68, 69, 70, 71, 72, 73, 74, 75, 76, 77, 78, 79, 80, 81, 82, 83, 84, 85, 86, 87, 88, 89, 90, 91, 92, 93, 94, 95, 96, 97, 158, 159, 178, 179, 180, 181, 182, 183, 184, 185, 186, 187, 188, 160, 161, 162, 163, 164, 165, 166, 167, 168, 169, 170, 171, 172, 173, 174, 175, 176, 177, 189, 190, 191, 192, 193, 194, 195] (by decide +kernel) (by decide +kernel)) (goodIn_sub (fun _ h => List.mem_cons_of_mem _ (List.mem_append_right _ h)) (by decide +kernel))
set_option maxRecDepth 20000 in
theorem gX8_isSame_X7_roast : GoodIn wsX8_isSame (wsV RX8 78 RX7 yX7_roast wsX7_roast) := goodIn_app (goodIn_of _ (by decide +kernel)) ggX8_isSame_X7_roast
set_option maxRecDepth 20000 in
theorem ggX8_isSame_X8_yields : GoodIn wsX8_isSame wsX8_yields := goodIn_r _ [125, 126, 127, 101, 128] (by decide +kernel) (by decide +kernel)
set_option maxRecDepth 20000 in
theorem gX8_isSame_X8_yields : GoodIn wsX8_isSame (va_wsS RX8 81 yX8_yields wsX8_yields) := goodIn_app (goodIn_of _ (by decide +kernel)) ggX8_isSame_X8_yields
set_option maxRecDepth 20000 in
theorem ggX8_isSame_X7_told : GoodIn wsX8_isSame wsX7_told := goodIn_ca (goodIn_r _ [132, 10, 133, 134, 36, 37, 8, 38, 39, 40, 11, 12, 13, 14, 15, 16, 17, 18, 19, 20, 21, 22, 23, 24, 25, 26, 27, 28, 29, 30, 31, 32, 33, 34, 35, 41, 42, 43, 44, 45, 46, 47, 48, 49, 50, 51, 52, 53, 54, 55, 56, 57, 58, 59, 60, 61, 62, 63, 64, 65, 66, 67, 68, 69, 70, 71, 72, 73, 74, 75, 76, 77, 78, 79, 80, 81, 82, 83, 84, 85, 86, 87, 88, 89, 90, 91, 92, 93, 94, 95, 96, 97, 158, 159, 178, 179, 180, 181, 182, 183, 184, 185, 186, 187, 188, 160, 161, 162, 163, 164, 165, 166, 167, 168, 169, 170, 171, 172, 173, 174, 175, 176, 177, 189, 190, 191, 192, 193, 194, 195] (by decide +kernel) (by decide +kernel)) (goodIn_sub (fun _ h => List.mem_cons_of_mem _ (List.mem_append_right _ h)) (by decide +kernel))
set_option maxRecDepth 20000 in
theorem gX8_isSame_X7_told : GoodIn wsX8_isSame (wsV RX8 85 RX7 yX7_told wsX7_told) := goodIn_app (goodIn_of _ (by decide +kernel)) ggX8_isSame_X7_told
set_option maxRecDepth 20000 in
theorem ggX8_isSame_X7_ration : GoodIn wsX8_isSame wsX7_ration := goodIn_ca (goodIn_r _ [138, 10, 139, 140, 36, 37, 8, 38, 39, 40, 11, 12, 13, 14, 15, 16, 17, 18, 19, 20, 21, 22, 23, 24, 25, 26, 27, 28, 29, 30, 31, 32, 33, 34, 35, 41, 42, 43, 44, 45, 46, 47, 48, 49, 50, 51, 52, 53, 54, 55, 56, 57, 58, 59, 60, 61, 62, 63, 64, 65, 66, 67, 68, 69, 70, 71, 72, 73, 74, 75, 76, 77, 78, 79, 80, 81, 82, 83, 84, 85, 86, 87, 88, 89, 90, 91, 92, 93, 94, 95, 96, 97, 158, 159, 178, 179, 180, 181, 182, 183, 184, 185, 186, 187, 188, 160, 161, 162, 163, 164, 165, 166, 167, 168, 169, 170, 171, 172, 173, 174, 175, 176, 177, 189, 190, 191, 192, 193, 194, 195] (by decide +kernel) (by decide +kernel)) (goodIn_sub (fun _ h => List.mem_cons_of_mem _ (List.mem_append_right _ h)) (by decide +kernel))
set_option maxRecDepth 20000 in
theorem gX8_isSame_X7_ration : GoodIn wsX8_isSame (wsV RX8 88 RX7 yX7_ration wsX7_ration) := goodIn_app (goodIn_of _ (by decide +kernel)) ggX8_isSame_X7_ration
set_option maxRecDepth 20000 in
theorem ggX8_isSame_X7_mean : GoodIn wsX8_isSame wsX7_mean := goodIn_r _ [144, 10, 139, 145, 146, 158, 159, 178, 179, 180, 181, 182, 183, 184, 185, 186, 187, 188, 189, 190, 191, 192, 193, 194, 195] (by decide +kernel) (by decide +kernel)
set_option maxRecDepth 20000 in
theorem gX8_isSame_X7_mean : GoodIn wsX8_isSame (wsV RX8 91 RX7 yX7_mean wsX7_mean) := goodIn_app (goodIn_of _ (by decide +kernel)) ggX8_isSame_X7_mean
theorem dX8_isSame_0 : decode cX8_isSame 0 = .ok (.iconst 0, 1) := by decide +kernel
theorem dX8_isSame_1 : decode cX8_isSame 1 = .ok (.istore_n 2, 1) := by decide +kernel
theorem dX8_isSame_2 : decode cX8_isSame 2 = .ok (.iload_n 2, 1) := by decide +kernel
theorem dX8_isSame_3 : decode cX8_isSame 3 = .ok (.bipush 9, 2) := by decide +kernel
theorem dX8_isSame_5 : decode cX8_isSame 5 = .ok (.if_icmp .ge 24, 3) := by decide +kernel
theorem dX8_isSame_8 : decode cX8_isSame 8 = .ok (.aload_n 1, 1) := by decide +kernel
theorem dX8_isSame_9 : decode cX8_isSame 9 = .ok (.iload_n 2, 1) := by decide +kernel
theorem dX8_isSame_10 : decode cX8_isSame 10 = .ok (.invokevirtual 66, 3) := by decide +kernel
theorem dX8_isSame_13 : decode cX8_isSame 13 = .ok (.aload_n 0, 1) := by decide +kernel
theorem dX8_isSame_14 : decode cX8_isSame 14 = .ok (.iload_n 2, 1) := by decide +kernel
theorem dX8_isSame_15 : decode cX8_isSame 15 = .ok (.invokevirtual 71, 3) := by decide +kernel
theorem dX8_isSame_18 : decode cX8_isSame 18 = .ok (.if_icmp .eq 5, 3) := by decide +kernel
theorem dX8_isSame_21 : decode cX8_isSame 21 = .ok (.iconst 0, 1) := by decide +kernel
theorem dX8_isSame_22 : decode cX8_isSame 22 = .ok (.ireturn, 1) := by decide +kernel
theorem dX8_isSame_23 : decode cX8_isSame 23 = .ok (.iinc 2 1, 3) := by decide +kernel
theorem dX8_isSame_26 : decode cX8_isSame 26 = .ok (.goto (-24), 3) := by decide +kernel
theorem dX8_isSame_29 : decode cX8_isSame 29 = .ok (.iconst 0, 1) := by decide +kernel
theorem dX8_isSame_30 : decode cX8_isSame 30 = .ok (.istore_n 2, 1) := by decide +kernel
theorem dX8_isSame_31 : decode cX8_isSame 31 = .ok (.iconst 0, 1) := by decide +kernel
theorem dX8_isSame_32 : decode cX8_isSame 32 = .ok (.istore_n 3, 1) := by decide +kernel
theorem dX8_isSame_33 : decode cX8_isSame 33 = .ok (.iload_n 3, 1) := by decide +kernel
theorem dX8_isSame_34 : decode cX8_isSame 34 = .ok (.aload_n 0, 1) := by decide +kernel
theorem dX8_isSame_35 : decode cX8_isSame 35 = .ok (.getfield 21, 3) := by decide +kernel
theorem dX8_isSame_38 : decode cX8_isSame 38 = .ok (.arraylength, 1) := by decide +kernel
theorem dX8_isSame_39 : decode cX8_isSame 39 = .ok (.if_icmp .ge 45, 3) := by decide +kernel
theorem dX8_isSame_42 : decode cX8_isSame 42 = .ok (.iconst 0, 1) := by decide +kernel
theorem dX8_isSame_43 : decode cX8_isSame 43 = .ok (.istore 4, 2) := by decide +kernel
theorem dX8_isSame_45 : decode cX8_isSame 45 = .ok (.iload 4, 2) := by decide +kernel
theorem dX8_isSame_47 : decode cX8_isSame 47 = .ok (.iconst 3, 1) := by decide +kernel
theorem dX8_isSame_48 : decode cX8_isSame 48 = .ok (.if_icmp .ge 30, 3) := by decide +kernel
theorem dX8_isSame_51 : decode cX8_isSame 51 = .ok (.aload_n 1, 1) := by decide +kernel
theorem dX8_isSame_52 : decode cX8_isSame 52 = .ok (.iload_n 3, 1) := by decide +kernel
theorem dX8_isSame_53 : decode cX8_isSame 53 = .ok (.iload 4, 2) := by decide +kernel
theorem dX8_isSame_55 : decode cX8_isSame 55 = .ok (.invokevirtual 74, 3) := by decide +kernel
theorem dX8_isSame_58 : decode cX8_isSame 58 = .ok (.aload_n 0, 1) := by decide +kernel
theorem dX8_isSame_59 : decode cX8_isSame 59 = .ok (.getfield 21, 3) := by decide +kernel
theorem dX8_isSame_62 : decode cX8_isSame 62 = .ok (.iload_n 3, 1) := by decide +kernel
theorem dX8_isSame_63 : decode cX8_isSame 63 = .ok (.aaload, 1) := by decide +kernel
theorem dX8_isSame_64 : decode cX8_isSame 64 = .ok (.iload 4, 2) := by decide +kernel
theorem dX8_isSame_66 : decode cX8_isSame 66 = .ok (.iaload, 1) := by decide +kernel
theorem dX8_isSame_67 : decode cX8_isSame 67 = .ok (.if_icmp .eq 5, 3) := by decide +kernel
theorem dX8_isSame_70 : decode cX8_isSame 70 = .ok (.iconst 0, 1) := by decide +kernel
theorem dX8_isSame_71 : decode cX8_isSame 71 = .ok (.ireturn, 1) := by decide +kernel
theorem dX8_isSame_72 : decode cX8_isSame 72 = .ok (.iinc 4 1, 3) := by decide +kernel
theorem dX8_isSame_75 : decode cX8_isSame 75 = .ok (.goto (-30), 3) := by decide +kernel
theorem dX8_isSame_78 : decode cX8_isSame 78 = .ok (.iinc 3 1, 3) := by decide +kernel
theorem dX8_isSame_81 : decode cX8_isSame 81 = .ok (.goto (-48), 3) := by decide +kernel
theorem dX8_isSame_84 : decode cX8_isSame 84 = .ok (.iconst 0, 1) := by decide +kernel
theorem dX8_isSame_85 : decode cX8_isSame 85 = .ok (.istore_n 3, 1) := by decide +kernel
theorem dX8_isSame_86 : decode cX8_isSame 86 = .ok (.iload_n 3, 1) := by decide +kernel
theorem dX8_isSame_87 : decode cX8_isSame 87 = .ok (.aload_n 0, 1) := by decide +kernel
theorem dX8_isSame_88 : decode cX8_isSame 88 = .ok (.getfield 25, 3) := by decide +kernel
theorem dX8_isSame_91 : decode cX8_isSame 91 = .ok (.arraylength, 1) := by decide +kernel
theorem dX8_isSame_92 : decode cX8_isSame 92 = .ok (.if_icmp .ge 65, 3) := by decide +kernel
theorem dX8_isSame_95 : decode cX8_isSame 95 = .ok (.iconst 0, 1) := by decide +kernel
theorem dX8_isSame_96 : decode cX8_isSame 96 = .ok (.istore 4, 2) := by decide +kernel
theorem dX8_isSame_98 : decode cX8_isSame 98 = .ok (.iload 4, 2) := by decide +kernel
theorem dX8_isSame_100 : decode cX8_isSame 100 = .ok (.iconst 5, 1) := by decide +kernel
theorem dX8_isSame_101 : decode cX8_isSame 101 = .ok (.if_icmp .ge 30, 3) := by decide +kernel
theorem dX8_isSame_104 : decode cX8_isSame 104 = .ok (.aload_n 1, 1) := by decide +kernel
theorem dX8_isSame_105 : decode cX8_isSame 105 = .ok (.iload_n 3, 1) := by decide +kernel
theorem dX8_isSame_106 : decode cX8_isSame 106 = .ok (.iload 4, 2) := by decide +kernel
theorem dX8_isSame_108 : decode cX8_isSame 108 = .ok (.invokevirtual 78, 3) := by decide +kernel
theorem dX8_isSame_111 : decode cX8_isSame 111 = .ok (.aload_n 0, 1) := by decide +kernel
theorem dX8_isSame_112 : decode cX8_isSame 112 = .ok (.getfield 25, 3) := by decide +kernel
theorem dX8_isSame_115 : decode cX8_isSame 115 = .ok (.iload_n 3, 1) := by decide +kernel
theorem dX8_isSame_116 : decode cX8_isSame 116 = .ok (.aaload, 1) := by decide +kernel
theorem dX8_isSame_117 : decode cX8_isSame 117 = .ok (.iload 4, 2) := by decide +kernel
theorem dX8_isSame_119 : decode cX8_isSame 119 = .ok (.iaload, 1) := by decide +kernel
theorem dX8_isSame_120 : decode cX8_isSame 120 = .ok (.if_icmp .eq 5, 3) := by decide +kernel
theorem dX8_isSame_123 : decode cX8_isSame 123 = .ok (.iconst 0, 1) := by decide +kernel
theorem dX8_isSame_124 : decode cX8_isSame 124 = .ok (.ireturn, 1) := by decide +kernel
theorem dX8_isSame_125 : decode cX8_isSame 125 = .ok (.iinc 4 1, 3) := by decide +kernel
theorem dX8_isSame_128 : decode cX8_isSame 128 = .ok (.goto (-30), 3) := by decide +kernel
theorem dX8_isSame_131 : decode cX8_isSame 131 = .ok (.aload_n 1, 1) := by decide +kernel
theorem dX8_isSame_132 : decode cX8_isSame 132 = .ok (.iload_n 3, 1) := by decide +kernel
theorem dX8_isSame_133 : decode cX8_isSame 133 = .ok (.iconst 5, 1) := by decide +kernel
theorem dX8_isSame_134 : decode cX8_isSame 134 = .ok (.invokevirtual 78, 3) := by decide +kernel
theorem dX8_isSame_137 : decode cX8_isSame 137 = .ok (.aload_n 0, 1) := by decide +kernel
theorem dX8_isSame_138 : decode cX8_isSame 138 = .ok (.getfield 25, 3) := by decide +kernel
theorem dX8_isSame_141 : decode cX8_isSame 141 = .ok (.iload_n 3, 1) := by decide +kernel
theorem dX8_isSame_142 : decode cX8_isSame 142 = .ok (.aaload, 1) := by decide +kernel
theorem dX8_isSame_143 : decode cX8_isSame 143 = .ok (.invokestatic 81, 3) := by decide +kernel
theorem dX8_isSame_146 : decode cX8_isSame 146 = .ok (.if_icmp .eq 5, 3) := by decide +kernel
theorem dX8_isSame_149 : decode cX8_isSame 149 = .ok (.iconst 0, 1) := by decide +kernel
theorem dX8_isSame_150 : decode cX8_isSame 150 = .ok (.ireturn, 1) := by decide +kernel
theorem dX8_isSame_151 : decode cX8_isSame 151 = .ok (.iinc 3 1, 3) := by decide +kernel
theorem dX8_isSame_154 : decode cX8_isSame 154 = .ok (.goto (-68), 3) := by decide +kernel
theorem dX8_isSame_157 : decode cX8_isSame 157 = .ok (.iconst 0, 1) := by decide +kernel
theorem dX8_isSame_158 : decode cX8_isSame 158 = .ok (.istore_n 3, 1) := by decide +kernel
theorem dX8_isSame_159 : decode cX8_isSame 159 = .ok (.iload_n 3, 1) := by decide +kernel
theorem dX8_isSame_160 : decode cX8_isSame 160 = .ok (.aload_n 0, 1) := by decide +kernel
theorem dX8_isSame_161 : decode cX8_isSame 161 = .ok (.getfield 28, 3) := by decide +kernel
theorem dX8_isSame_164 : decode cX8_isSame 164 = .ok (.arraylength, 1) := by decide +kernel
theorem dX8_isSame_165 : decode cX8_isSame 165 = .ok (.if_icmp .ge 45, 3) := by decide +kernel
theorem dX8_isSame_168 : decode cX8_isSame 168 = .ok (.iconst 0, 1) := by decide +kernel
theorem dX8_isSame_169 : decode cX8_isSame 169 = .ok (.istore 4, 2) := by decide +kernel
theorem dX8_isSame_171 : decode cX8_isSame 171 = .ok (.iload 4, 2) := by decide +kernel
theorem dX8_isSame_173 : decode cX8_isSame 173 = .ok (.iconst 5, 1) := by decide +kernel
theorem dX8_isSame_174 : decode cX8_isSame 174 = .ok (.if_icmp .ge 30, 3) := by decide +kernel
theorem dX8_isSame_177 : decode cX8_isSame 177 = .ok (.aload_n 1, 1) := by decide +kernel
theorem dX8_isSame_178 : decode cX8_isSame 178 = .ok (.iload_n 3, 1) := by decide +kernel
theorem dX8_isSame_179 : decode cX8_isSame 179 = .ok (.iload 4, 2) := by decide +kernel
theorem dX8_isSame_181 : decode cX8_isSame 181 = .ok (.invokevirtual 85, 3) := by decide +kernel
theorem dX8_isSame_184 : decode cX8_isSame 184 = .ok (.aload_n 0, 1) := by decide +kernel
theorem dX8_isSame_185 : decode cX8_isSame 185 = .ok (.getfield 28, 3) := by decide +kernel
theorem dX8_isSame_188 : decode cX8_isSame 188 = .ok (.iload_n 3, 1) := by decide +kernel
theorem dX8_isSame_189 : decode cX8_isSame 189 = .ok (.aaload, 1) := by decide +kernel
theorem dX8_isSame_190 : decode cX8_isSame 190 = .ok (.iload 4, 2) := by decide +kernel
theorem dX8_isSame_192 : decode cX8_isSame 192 = .ok (.iaload, 1) := by decide +kernel
theorem dX8_isSame_193 : decode cX8_isSame 193 = .ok (.if_icmp .eq 5, 3) := by decide +kernel
theorem dX8_isSame_196 : decode cX8_isSame 196 = .ok (.iconst 0, 1) := by decide +kernel
theorem dX8_isSame_197 : decode cX8_isSame 197 = .ok (.ireturn, 1) := by decide +kernel
theorem dX8_isSame_198 : decode cX8_isSame 198 = .ok (.iinc 4 1, 3) := by decide +kernel
theorem dX8_isSame_201 : decode cX8_isSame 201 = .ok (.goto (-30), 3) := by decide +kernel
theorem dX8_isSame_204 : decode cX8_isSame 204 = .ok (.iinc 3 1, 3) := by decide +kernel
theorem dX8_isSame_207 : decode cX8_isSame 207 = .ok (.goto (-48), 3) := by decide +kernel
theorem dX8_isSame_210 : decode cX8_isSame 210 = .ok (.iconst 0, 1) := by decide +kernel
theorem dX8_isSame_211 : decode cX8_isSame 211 = .ok (.istore_n 3, 1) := by decide +kernel
theorem dX8_isSame_212 : decode cX8_isSame 212 = .ok (.iload_n 3, 1) := by decide +kernel
theorem dX8_isSame_213 : decode cX8_isSame 213 = .ok (.aload_n 0, 1) := by decide +kernel
theorem dX8_isSame_214 : decode cX8_isSame 214 = .ok (.getfield 31, 3) := by decide +kernel
theorem dX8_isSame_217 : decode cX8_isSame 217 = .ok (.arraylength, 1) := by decide +kernel
theorem dX8_isSame_218 : decode cX8_isSame 218 = .ok (.if_icmp .ge 56, 3) := by decide +kernel
theorem dX8_isSame_221 : decode cX8_isSame 221 = .ok (.iconst 0, 1) := by decide +kernel
theorem dX8_isSame_222 : decode cX8_isSame 222 = .ok (.istore 4, 2) := by decide +kernel
theorem dX8_isSame_224 : decode cX8_isSame 224 = .ok (.iload 4, 2) := by decide +kernel
theorem dX8_isSame_226 : decode cX8_isSame 226 = .ok (.iconst 5, 1) := by decide +kernel
theorem dX8_isSame_227 : decode cX8_isSame 227 = .ok (.if_icmp .ge 30, 3) := by decide +kernel
theorem dX8_isSame_230 : decode cX8_isSame 230 = .ok (.aload_n 1, 1) := by decide +kernel
theorem dX8_isSame_231 : decode cX8_isSame 231 = .ok (.iload_n 3, 1) := by decide +kernel
theorem dX8_isSame_232 : decode cX8_isSame 232 = .ok (.iload 4, 2) := by decide +kernel
theorem dX8_isSame_234 : decode cX8_isSame 234 = .ok (.invokevirtual 88, 3) := by decide +kernel
theorem dX8_isSame_237 : decode cX8_isSame 237 = .ok (.aload_n 0, 1) := by decide +kernel
theorem dX8_isSame_238 : decode cX8_isSame 238 = .ok (.getfield 31, 3) := by decide +kernel
theorem dX8_isSame_241 : decode cX8_isSame 241 = .ok (.iload_n 3, 1) := by decide +kernel
theorem dX8_isSame_242 : decode cX8_isSame 242 = .ok (.aaload, 1) := by decide +kernel
theorem dX8_isSame_243 : decode cX8_isSame 243 = .ok (.iload 4, 2) := by decide +kernel
theorem dX8_isSame_245 : decode cX8_isSame 245 = .ok (.iaload, 1) := by decide +kernel
theorem dX8_isSame_246 : decode cX8_isSame 246 = .ok (.if_icmp .eq 5, 3) := by decide +kernel
theorem dX8_isSame_249 : decode cX8_isSame 249 = .ok (.iconst 0, 1) := by decide +kernel
theorem dX8_isSame_250 : decode cX8_isSame 250 = .ok (.ireturn, 1) := by decide +kernel
theorem dX8_isSame_251 : decode cX8_isSame 251 = .ok (.iinc 4 1, 3) := by decide +kernel
theorem dX8_isSame_254 : decode cX8_isSame 254 = .ok (.goto (-30), 3) := by decide +kernel
theorem dX8_isSame_257 : decode cX8_isSame 257 = .ok (.iload_n 2, 1) := by decide +kernel
theorem dX8_isSame_258 : decode cX8_isSame 258 = .ok (.aload_n 0, 1) := by decide +kernel
theorem dX8_isSame_259 : decode cX8_isSame 259 = .ok (.getfield 31, 3) := by decide +kernel
theorem dX8_isSame_262 : decode cX8_isSame 262 = .ok (.iload_n 3, 1) := by decide +kernel
theorem dX8_isSame_263 : decode cX8_isSame 263 = .ok (.aaload, 1) := by decide +kernel
theorem dX8_isSame_264 : decode cX8_isSame 264 = .ok (.iconst 3, 1) := by decide +kernel
theorem dX8_isSame_265 : decode cX8_isSame 265 = .ok (.iaload, 1) := by decide +kernel
theorem dX8_isSame_266 : decode cX8_isSame 266 = .ok (.iadd, 1) := by decide +kernel
theorem dX8_isSame_267 : decode cX8_isSame 267 = .ok (.istore_n 2, 1) := by decide +kernel
theorem dX8_isSame_268 : decode cX8_isSame 268 = .ok (.iinc 3 1, 3) := by decide +kernel
theorem dX8_isSame_271 : decode cX8_isSame 271 = .ok (.goto (-59), 3) := by decide +kernel
theorem dX8_isSame_274 : decode cX8_isSame 274 = .ok (.aload_n 1, 1) := by decide +kernel
theorem dX8_isSame_275 : decode cX8_isSame 275 = .ok (.invokevirtual 91, 3) := by decide +kernel
theorem dX8_isSame_278 : decode cX8_isSame 278 = .ok (.aload_n 0, 1) := by decide +kernel
theorem dX8_isSame_279 : decode cX8_isSame 279 = .ok (.getfield 31, 3) := by decide +kernel
theorem dX8_isSame_282 : decode cX8_isSame 282 = .ok (.arraylength, 1) := by decide +kernel
theorem dX8_isSame_283 : decode cX8_isSame 283 = .ok (.ifCond .ne 7, 3) := by decide +kernel
theorem dX8_isSame_286 : decode cX8_isSame 286 = .ok (.dconst 0, 1) := by decide +kernel
theorem dX8_isSame_287 : decode cX8_isSame 287 = .ok (.goto 12, 3) := by decide +kernel
theorem dX8_isSame_290 : decode cX8_isSame 290 = .ok (.iload_n 2, 1) := by decide +kernel
theorem dX8_isSame_291 : decode cX8_isSame 291 = .ok (.i2d, 1) := by decide +kernel
theorem dX8_isSame_292 : decode cX8_isSame 292 = .ok (.aload_n 0, 1) := by decide +kernel
theorem dX8_isSame_293 : decode cX8_isSame 293 = .ok (.getfield 31, 3) := by decide +kernel
theorem dX8_isSame_296 : decode cX8_isSame 296 = .ok (.arraylength, 1) := by decide +kernel
theorem dX8_isSame_297 : decode cX8_isSame 297 = .ok (.i2d, 1) := by decide +kernel
theorem dX8_isSame_298 : decode cX8_isSame 298 = .ok (.ddiv, 1) := by decide +kernel
theorem dX8_isSame_299 : decode cX8_isSame 299 = .ok (.dcmp .l, 1) := by decide +kernel
theorem dX8_isSame_300 : decode cX8_isSame 300 = .ok (.ifCond .ne 7, 3) := by decide +kernel
theorem dX8_isSame_303 : decode cX8_isSame 303 = .ok (.iconst 1, 1) := by decide +kernel
theorem dX8_isSame_304 : decode cX8_isSame 304 = .ok (.goto 4, 3) := by decide +kernel
theorem dX8_isSame_307 : decode cX8_isSame 307 = .ok (.iconst 0, 1) := by decide +kernel
theorem dX8_isSame_308 : decode cX8_isSame 308 = .ok (.ireturn, 1) := by decide +kernel
theorem dJ9_min_7cf53_0 : decode cJ9_min_7cf53 0 = .ok (.iload_n 0, 1) := by decide +kernel
theorem dJ9_min_7cf53_1 : decode cJ9_min_7cf53 1 = .ok (.iload_n 1, 1) := by decide +kernel
theorem dJ9_min_7cf53_2 : decode cJ9_min_7cf53 2 = .ok (.if_icmp .gt 7, 3) := by decide +kernel
theorem dJ9_min_7cf53_5 : decode cJ9_min_7cf53 5 = .ok (.iload_n 0, 1) := by decide +kernel
theorem dJ9_min_7cf53_6 : decode cJ9_min_7cf53 6 = .ok (.goto 4, 3) := by decide +kernel
theorem dJ9_min_7cf53_9 : decode cJ9_min_7cf53 9 = .ok (.iload_n 1, 1) := by decide +kernel
theorem dJ9_min_7cf53_10 : decode cJ9_min_7cf53 10 = .ok (.ireturn, 1) := by decide +kernel
end
section
theorem goodIn_cons {big : List Cond} {c : Cond} {r : List Cond} (hc : GoodIn big [c]) (hr : GoodIn big r) : GoodIn big (c :: r) := fun w h => (List.mem_cons.mp h).elim (fun e => hc w (by rw [e]; exact List.mem_cons_self)) (hr w)
theorem dL_below_0 : decode cL_below 0 = .ok (.iload_n 0, 1) := by decide +kernel
theorem dL_below_1 : decode cL_below 1 = .ok (.ldc 7, 2) := by decide +kernel
theorem dL_below_3 : decode cL_below 3 = .ok (.iand, 1) := by decide +kernel
theorem dL_below_4 : decode cL_below 4 = .ok (.iload_n 1, 1) := by decide +kernel
theorem dL_below_5 : decode cL_below 5 = .ok (.irem, 1) := by decide +kernel
theorem dL_below_6 : decode cL_below 6 = .ok (.ireturn, 1) := by decide +kernel
theorem dL_cell_0 : decode cL_cell 0 = .ok (.iload_n 1, 1) := by decide +kernel
theorem dL_cell_1 : decode cL_cell 1 = .ok (.aload_n 0, 1) := by decide +kernel
theorem dL_cell_2 : decode cL_cell 2 = .ok (.arraylength, 1) := by decide +kernel
theorem dL_cell_3 : decode cL_cell 3 = .ok (.if_icmp .ge 9, 3) := by decide +kernel
theorem dL_cell_6 : decode cL_cell 6 = .ok (.aload_n 0, 1) := by decide +kernel
theorem dL_cell_7 : decode cL_cell 7 = .ok (.iload_n 1, 1) := by decide +kernel
theorem dL_cell_8 : decode cL_cell 8 = .ok (.iaload, 1) := by decide +kernel
theorem dL_cell_9 : decode cL_cell 9 = .ok (.goto 9, 3) := by decide +kernel
theorem dL_cell_12 : decode cL_cell 12 = .ok (.ldc 8, 2) := by decide +kernel
theorem dL_cell_14 : decode cL_cell 14 = .ok (.iload_n 1, 1) := by decide +kernel
theorem dL_cell_15 : decode cL_cell 15 = .ok (.iconst 3, 1) := by decide +kernel
theorem dL_cell_16 : decode cL_cell 16 = .ok (.iadd, 1) := by decide +kernel
theorem dL_cell_17 : decode cL_cell 17 = .ok (.imul, 1) := by decide +kernel
theorem dL_cell_18 : decode cL_cell 18 = .ok (.ireturn, 1) := by decide +kernel
theorem dL_with_0 : decode cL_with 0 = .ok (.aload_n 0, 1) := by decide +kernel
theorem dL_with_1 : decode cL_with 1 = .ok (.arraylength, 1) := by decide +kernel
theorem dL_with_2 : decode cL_with 2 = .ok (.iconst 1, 1) := by decide +kernel
theorem dL_with_3 : decode cL_with 3 = .ok (.iadd, 1) := by decide +kernel
theorem dL_with_4 : decode cL_with 4 = .ok (.anewarray 9, 3) := by decide +kernel
theorem dL_with_7 : decode cL_with 7 = .ok (.astore_n 2, 1) := by decide +kernel
theorem dL_with_8 : decode cL_with 8 = .ok (.iconst 0, 1) := by decide +kernel
theorem dL_with_9 : decode cL_with 9 = .ok (.istore_n 3, 1) := by decide +kernel
theorem dL_with_10 : decode cL_with 10 = .ok (.iload_n 3, 1) := by decide +kernel
theorem dL_with_11 : decode cL_with 11 = .ok (.aload_n 0, 1) := by decide +kernel
theorem dL_with_12 : decode cL_with 12 = .ok (.arraylength, 1) := by decide +kernel
theorem dL_with_13 : decode cL_with 13 = .ok (.if_icmp .ge 15, 3) := by decide +kernel
theorem dL_with_16 : decode cL_with 16 = .ok (.aload_n 2, 1) := by decide +kernel
theorem dL_with_17 : decode cL_with 17 = .ok (.iload_n 3, 1) := by decide +kernel
theorem dL_with_18 : decode cL_with 18 = .ok (.aload_n 0, 1) := by decide +kernel
theorem dL_with_19 : decode cL_with 19 = .ok (.iload_n 3, 1) := by decide +kernel
theorem dL_with_20 : decode cL_with 20 = .ok (.aaload, 1) := by decide +kernel
theorem dL_with_21 : decode cL_with 21 = .ok (.aastore, 1) := by decide +kernel
theorem dL_with_22 : decode cL_with 22 = .ok (.iinc 3 1, 3) := by decide +kernel
theorem dL_with_25 : decode cL_with 25 = .ok (.goto (-15), 3) := by decide +kernel
theorem dL_with_28 : decode cL_with 28 = .ok (.aload_n 2, 1) := by decide +kernel
theorem dL_with_29 : decode cL_with 29 = .ok (.aload_n 0, 1) := by decide +kernel
theorem dL_with_30 : decode cL_with 30 = .ok (.arraylength, 1) := by decide +kernel
theorem dL_with_31 : decode cL_with 31 = .ok (.aload_n 1, 1) := by decide +kernel
theorem dL_with_32 : decode cL_with 32 = .ok (.aastore, 1) := by decide +kernel
theorem dL_with_33 : decode cL_with 33 = .ok (.aload_n 2, 1) := by decide +kernel
theorem dL_with_34 : decode cL_with 34 = .ok (.areturn, 1) := by decide +kernel
set_option maxRecDepth 20000 in
theorem ggL_act_L_below : GoodIn wsL_act wsL_below := goodIn_r _ [14, 15] (by decide +kernel) (by decide +kernel)
set_option maxRecDepth 20000 in
theorem gL_act_L_below : GoodIn wsL_act (va_wsS RL 11 yL_below wsL_below) := goodIn_app (goodIn_of _ (by decide +kernel)) ggL_act_L_below
set_option maxRecDepth 20000 in
theorem ggL_act_L_with : GoodIn wsL_act wsL_with := goodIn_r _ [18, 19] (by decide +kernel) (by decide +kernel)
set_option maxRecDepth 20000 in
theorem gL_act_L_with : GoodIn wsL_act (va_wsS RL 23 yL_with wsL_with) := goodIn_app (goodIn_of _ (by decide +kernel)) ggL_act_L_with
set_option maxRecDepth 20000 in
theorem ggL_act_X7_bed : GoodIn wsL_act wsX7_bed := goodIn_ca (goodIn_ca (goodIn_r _ [24, 25, 26, 27, 28, 29, 23, 30, 31, 32, 33, 34, 35, 36, 37, 38, 39, 40, 41, 42, 43, 44, 313, 314, 315, 316, 317, 318, 319, 320, 321, 322, 323, 324, 325, 326, 327, 328] (by decide +kernel) (by decide +kernel)) (goodIn_sub (fun _ h => List.mem_cons_of_mem _ (List.mem_append_left _ (List.mem_append_left _ (List.mem_append_right _ h)))) (by decide +kernel))) (goodIn_sub (fun _ h => List.mem_cons_of_mem _ (List.mem_append_left _ (List.mem_append_right _ h))) (by decide +kernel))
set_option maxRecDepth 20000 in
theorem gL_act_X7_bed : GoodIn wsL_act (wsV RL 27 RX7 yX7_bed wsX7_bed) := goodIn_app (goodIn_of _ (by decide +kernel)) ggL_act_X7_bed
set_option maxRecDepth 20000 in
theorem ggL_act_X7_drum : GoodIn wsL_act wsX7_drum := goodIn_ca (goodIn_ca (goodIn_r _ [48, 25, 49, 50, 28, 29, 23, 30, 31, 32, 33, 34, 35, 36, 37, 51, 52, 53, 54, 55, 56, 57, 313, 314, 315, 316, 317, 318, 319, 320, 321, 322, 323, 324, 325, 329, 330, 331, 332, 333] (by decide +kernel) (by decide +kernel)) (goodIn_sub (fun _ h => List.mem_cons_of_mem _ (List.mem_append_left _ (List.mem_append_left _ (List.mem_append_right _ h)))) (by decide +kernel))) (goodIn_sub (fun _ h => List.mem_cons_of_mem _ (List.mem_append_left _ (List.mem_append_right _ h))) (by decide +kernel))
set_option maxRecDepth 20000 in
theorem gL_act_X7_drum : GoodIn wsL_act (wsV RL 35 RX7 yX7_drum wsX7_drum) := goodIn_app (goodIn_of _ (by decide +kernel)) ggL_act_X7_drum
set_option maxRecDepth 20000 in
theorem ggL_act_X7_smuggler : GoodIn wsL_act wsX7_smuggler := goodIn_ca (goodIn_ca (goodIn_r _ [61, 25, 62, 63, 28, 29, 23, 30, 31, 32, 33, 34, 35, 36, 37, 64, 65, 66, 67, 68, 69, 70, 313, 314, 315, 316, 317, 318, 319, 320, 321, 322, 323, 324, 325, 334, 335, 336, 337, 338] (by decide +kernel) (by decide +kernel)) (goodIn_sub (fun _ h => List.mem_cons_of_mem _ (List.mem_append_left _ (List.mem_append_left _ (List.mem_append_right _ h)))) (by decide +kernel))) (goodIn_sub (fun _ h => List.mem_cons_of_mem _ (List.mem_append_left _ (List.mem_append_right _ h))) (by decide +kernel))
set_option maxRecDepth 20000 in
theorem gL_act_X7_smuggler : GoodIn wsL_act (wsV RL 41 RX7 yX7_smuggler wsX7_smuggler) := goodIn_app (goodIn_of _ (by decide +kernel)) ggL_act_X7_smuggler
set_option maxRecDepth 20000 in
theorem ggL_act_X7_card : GoodIn wsL_act wsX7_card := goodIn_ca (goodIn_ca (goodIn_r _ [74, 25, 75, 76, 28, 29, 23, 30, 31, 32, 33, 34, 35, 36, 37, 77, 78, 79, 80, 81, 82, 83, 84, 313, 314, 315, 316, 317, 318, 319, 320, 321, 322, 323, 324, 325, 339, 340, 341, 342, 343] (by decide +kernel) (by decide +kernel)) (goodIn_sub (fun _ h => List.mem_cons_of_mem _ (List.mem_append_left _ (List.mem_append_left _ (List.mem_append_right _ h)))) (by decide +kernel))) (goodIn_sub (fun _ h => List.mem_cons_of_mem _ (List.mem_append_left _ (List.mem_append_right _ h))) (by decide +kernel))
set_option maxRecDepth 20000 in
theorem gL_act_X7_card : GoodIn wsL_act (wsV RL 47 RX7 yX7_card wsX7_card) := goodIn_app (goodIn_of _ (by decide +kernel)) ggL_act_X7_card
set_option maxRecDepth 20000 in
theorem ggL_act_X7_setPatrol : GoodIn wsL_act wsX7_setPatrol := goodIn_ca (goodIn_r _ [88, 25, 89, 28, 29, 23, 30, 31, 32, 313, 314, 315, 316, 317, 318, 319, 320, 321, 322, 323, 324, 325] (by decide +kernel) (by decide +kernel)) (goodIn_sub (fun _ h => List.mem_cons_of_mem _ (List.mem_append_left _ (List.mem_append_left _ (List.mem_append_right _ h)))) (by decide +kernel))
set_option maxRecDepth 20000 in
theorem gL_act_X7_setPatrol : GoodIn wsL_act (wsV RL 54 RX7 yX7_setPatrol wsX7_setPatrol) := goodIn_app (goodIn_of _ (by decide +kernel)) ggL_act_X7_setPatrol
set_option maxRecDepth 20000 in
theorem ggL_act_X7_setShare : GoodIn wsL_act wsX7_setShare := goodIn_ca (goodIn_r _ [93, 25, 94, 95, 28, 29, 23, 30, 31, 32, 313, 314, 315, 316, 317, 318, 319, 320, 321, 322, 323, 324, 325, 344, 345, 346, 347, 348, 349, 350] (by decide +kernel) (by decide +kernel)) (goodIn_sub (fun _ h => List.mem_cons_of_mem _ (List.mem_append_left _ (List.mem_append_left _ (List.mem_append_right _ h)))) (by decide +kernel))
set_option maxRecDepth 20000 in
theorem gL_act_X7_setShare : GoodIn wsL_act (wsV RL 61 RX7 yX7_setShare wsX7_setShare) := goodIn_app (goodIn_of _ (by decide +kernel)) ggL_act_X7_setShare
set_option maxRecDepth 20000 in
theorem ggL_act_X7_setHeat : GoodIn wsL_act wsX7_setHeat := goodIn_ca (goodIn_ca (goodIn_r _ [99, 25, 49, 50, 100, 101, 102, 23, 103, 104, 105, 28, 29, 30, 31, 32, 313, 314, 315, 316, 317, 318, 319, 320, 321, 322, 323, 324, 325, 329, 330, 331, 332, 333] (by decide +kernel) (by decide +kernel)) (goodIn_sub (fun _ h => List.mem_cons_of_mem _ (List.mem_append_right _ h)) (by decide +kernel))) (goodIn_sub (fun _ h => List.mem_cons_of_mem _ (List.mem_append_left _ (List.mem_append_left _ (List.mem_append_right _ h)))) (by decide +kernel))
set_option maxRecDepth 20000 in
theorem gL_act_X7_setHeat : GoodIn wsL_act (wsV RL 64 RX7 yX7_setHeat wsX7_setHeat) := goodIn_app (goodIn_of _ (by decide +kernel)) ggL_act_X7_setHeat
set_option maxRecDepth 20000 in
theorem ggL_act_X7_dig : GoodIn wsL_act wsX7_dig := goodIn_ca (goodIn_ca (goodIn_ca (goodIn_r _ [109, 25, 26, 27, 110, 94, 101, 102, 23, 103, 104, 105, 28, 29, 30, 31, 32, 33, 34, 35, 36, 37, 111, 112, 113, 114, 115, 116, 117, 313, 314, 315, 316, 317, 318, 319, 320, 321, 322, 323, 324, 325, 326, 327, 328, 344, 345, 346, 347, 348, 349, 350] (by decide +kernel) (by decide +kernel)) (goodIn_sub (fun _ h => List.mem_cons_of_mem _ (List.mem_append_right _ h)) (by decide +kernel))) (goodIn_sub (fun _ h => List.mem_cons_of_mem _ (List.mem_append_left _ (List.mem_append_left _ (List.mem_append_right _ h)))) (by decide +kernel))) (goodIn_sub (fun _ h => List.mem_cons_of_mem _ (List.mem_append_left _ (List.mem_append_right _ h))) (by decide +kernel))
set_option maxRecDepth 20000 in
theorem gL_act_X7_dig : GoodIn wsL_act (wsV RL 70 RX7 yX7_dig wsX7_dig) := goodIn_app (goodIn_of _ (by decide +kernel)) ggL_act_X7_dig
set_option maxRecDepth 20000 in
theorem ggL_act_X7_give : GoodIn wsL_act wsX7_give := goodIn_ca (goodIn_ca (goodIn_r _ [121, 25, 94, 101, 102, 23, 103, 104, 105, 28, 29, 30, 31, 32, 111, 112, 113, 114, 115, 116, 117, 122, 123, 124, 125, 313, 314, 315, 316, 317, 318, 319, 320, 321, 322, 323, 324, 325, 344, 345, 346, 347, 348, 349, 350] (by decide +kernel) (by decide +kernel)) (goodIn_sub (fun _ h => List.mem_cons_of_mem _ (List.mem_append_right _ h)) (by decide +kernel))) (goodIn_sub (fun _ h => List.mem_cons_of_mem _ (List.mem_append_left _ (List.mem_append_left _ (List.mem_append_right _ h)))) (by decide +kernel))
set_option maxRecDepth 20000 in
theorem gL_act_X7_give : GoodIn wsL_act (wsV RL 73 RX7 yX7_give wsX7_give) := goodIn_app (goodIn_of _ (by decide +kernel)) ggL_act_X7_give
set_option maxRecDepth 20000 in
theorem ggL_act_X7_load : GoodIn wsL_act wsX7_load := goodIn_ca (goodIn_ca (goodIn_ca (goodIn_r _ [129, 25, 49, 50, 130, 131, 94, 101, 102, 23, 103, 104, 105, 28, 29, 30, 31, 32, 33, 34, 35, 36, 37, 122, 123, 124, 114, 125, 116, 117, 111, 112, 113, 115, 132, 133, 134, 54, 135, 136, 137, 138, 313, 314, 315, 316, 317, 318, 319, 320, 321, 322, 323, 324, 325, 329, 330, 331, 332, 333, 344, 345, 346, 347, 348, 349, 350] (by decide +kernel) (by decide +kernel)) (goodIn_sub (fun _ h => List.mem_cons_of_mem _ (List.mem_append_right _ h)) (by decide +kernel))) (goodIn_sub (fun _ h => List.mem_cons_of_mem _ (List.mem_append_left _ (List.mem_append_left _ (List.mem_append_right _ h)))) (by decide +kernel))) (goodIn_sub (fun _ h => List.mem_cons_of_mem _ (List.mem_append_left _ (List.mem_append_right _ h))) (by decide +kernel))
set_option maxRecDepth 20000 in
theorem gL_act_X7_load : GoodIn wsL_act (wsV RL 76 RX7 yX7_load wsX7_load) := goodIn_app (goodIn_of _ (by decide +kernel)) ggL_act_X7_load
set_option maxRecDepth 20000 in
theorem ggL_act_X8_yields : GoodIn wsL_act wsX8_yields := goodIn_r _ [142, 143, 144, 141, 145] (by decide +kernel) (by decide +kernel)
set_option maxRecDepth 20000 in
theorem gL_act_X8_yields : GoodIn wsL_act (va_wsS RL 80 yX8_yields wsX8_yields) := goodIn_app (goodIn_of _ (by decide +kernel)) ggL_act_X8_yields
set_option maxRecDepth 20000 in
theorem ggL_act_X7_take : GoodIn wsL_act wsX7_take := goodIn_ca (goodIn_ca (goodIn_r _ [149, 25, 49, 50, 131, 150, 94, 101, 102, 23, 103, 104, 105, 33, 34, 35, 36, 37, 151, 152, 153, 54, 154, 136, 137, 155, 156, 157, 158, 159, 160, 161, 162, 163, 164, 165, 114, 166, 167, 168, 132, 133, 134, 135, 138, 313, 314, 315, 316, 317, 318, 319, 320, 321, 322, 323, 324, 325, 329, 330, 331, 332, 333, 344, 345, 346, 347, 348, 349, 350] (by decide +kernel) (by decide +kernel)) (goodIn_sub (fun _ h => List.mem_cons_of_mem _ (List.mem_append_right _ h)) (by decide +kernel))) (goodIn_sub (fun _ h => List.mem_cons_of_mem _ (List.mem_append_left _ (List.mem_append_right _ h))) (by decide +kernel))
set_option maxRecDepth 20000 in
theorem gL_act_X7_take : GoodIn wsL_act (wsV RL 87 RX7 yX7_take wsX7_take) := goodIn_app (goodIn_of _ (by decide +kernel)) ggL_act_X7_take
set_option maxRecDepth 20000 in
theorem ggL_act_X7_send : GoodIn wsL_act wsX7_send := goodIn_ca (goodIn_ca (goodIn_r _ [172, 25, 62, 63, 173, 174, 101, 102, 23, 103, 104, 105, 33, 34, 35, 36, 37, 175, 176, 177, 67, 178, 179, 69, 180, 313, 314, 315, 316, 317, 318, 319, 320, 321, 322, 323, 324, 325, 334, 335, 336, 337, 338] (by decide +kernel) (by decide +kernel)) (goodIn_sub (fun _ h => List.mem_cons_of_mem _ (List.mem_append_right _ h)) (by decide +kernel))) (goodIn_sub (fun _ h => List.mem_cons_of_mem _ (List.mem_append_left _ (List.mem_append_right _ h))) (by decide +kernel))
set_option maxRecDepth 20000 in
theorem gL_act_X7_send : GoodIn wsL_act (wsV RL 90 RX7 yX7_send wsX7_send) := goodIn_app (goodIn_of _ (by decide +kernel)) ggL_act_X7_send
set_option maxRecDepth 20000 in
theorem ggL_act_X8_behind : GoodIn wsL_act wsX8_behind := goodIn_r _ [184, 185, 186, 187, 141, 188, 189, 190, 191, 192, 193, 194, 195, 196, 197, 198, 199, 200, 201, 202, 203, 143, 144, 145, 302, 303, 304, 305, 306, 307, 308, 309, 310, 311, 312] (by decide +kernel) (by decide +kernel)
set_option maxRecDepth 20000 in
theorem gL_act_X8_behind : GoodIn wsL_act (wsV RL 96 RX8 yX8_behind wsX8_behind) := goodIn_app (goodIn_of _ (by decide +kernel)) ggL_act_X8_behind
set_option maxRecDepth 20000 in
theorem ggL_act_X7_pass_h : GoodIn wsL_act [.code yX7_pass cX7_pass 2 (some .int)] := goodIn_r _ [207] (by decide +kernel) (by decide +kernel)
set_option maxRecDepth 20000 in
theorem ggL_act_X7_pass_r1 : GoodIn wsL_act wsX7_pass_r1 := goodIn_r _ [25, 28, 29, 23, 30, 31, 32, 208, 209, 210, 211, 212, 213, 214, 215, 216, 217, 218, 219, 220, 221, 222, 223, 224] (by decide +kernel) (by decide +kernel)
set_option maxRecDepth 20000 in
theorem ggL_act_X7_pass_r2 : GoodIn wsL_act wsX7_pass_r2 := goodIn_r _ [225, 226, 227, 228, 67, 229, 179, 180, 69, 230, 231, 232, 233, 234, 70, 235, 112, 113, 114, 115, 116, 117, 236, 237] (by decide +kernel) (by decide +kernel)
set_option maxRecDepth 20000 in
theorem ggL_act_X7_pass_r3 : GoodIn wsL_act wsX7_pass_r3 := goodIn_r _ [238, 239, 240, 241, 242, 243, 244, 54, 245, 138, 246, 247, 248, 249, 136, 57, 250, 251, 252, 253, 159, 160, 161, 162] (by decide +kernel) (by decide +kernel)
set_option maxRecDepth 20000 in
theorem ggL_act_X7_pass_r4 : GoodIn wsL_act wsX7_pass_r4 := goodIn_r _ [254, 255, 256, 257, 258, 259, 260, 261, 262, 41, 263, 264, 43, 44, 265, 266, 267, 268, 269, 270, 271, 272, 273, 274] (by decide +kernel) (by decide +kernel)
set_option maxRecDepth 20000 in
theorem ggL_act_X7_pass_r5 : GoodIn wsL_act wsX7_pass_r5 := goodIn_r _ [80, 275, 82, 84, 276, 277, 278, 279, 280, 281, 282, 283, 83, 284, 285, 286, 287, 288, 289, 290, 168, 291, 292, 293] (by decide +kernel) (by decide +kernel)
set_option maxRecDepth 20000 in
theorem ggL_act_X7_pass_r6 : GoodIn wsL_act wsX7_pass_r6 := goodIn_r _ [294, 295, 167, 296, 297, 298, 299, 300, 301] (by decide +kernel) (by decide +kernel)
theorem ggL_act_X7_pass_wsX70 : GoodIn wsL_act wsX70 := goodIn_sub (by decide +kernel) (by decide +kernel)
theorem ggL_act_X7_pass_wsX60 : GoodIn wsL_act wsX60 := goodIn_sub (by decide +kernel) (by decide +kernel)
theorem ggL_act_X7_pass_wsX30 : GoodIn wsL_act wsX30 := goodIn_sub (by decide +kernel) (by decide +kernel)
theorem ggL_act_X7_pass_wsX40 : GoodIn wsL_act wsX40 := goodIn_sub (by decide +kernel) (by decide +kernel)
theorem ggL_act_X7_pass_wsX20 : GoodIn wsL_act wsX20 := goodIn_sub (by decide +kernel) (by decide +kernel)
theorem ggL_act_X7_pass_wsX00 : GoodIn wsL_act wsX00 := goodIn_sub (by decide +kernel) (by decide +kernel)
theorem ggL_act_X7_pass_wsX10 : GoodIn wsL_act wsX10 := goodIn_sub (by decide +kernel) (by decide +kernel)
theorem ggL_act_X7_pass : GoodIn wsL_act wsX7_pass := goodIn_cons ggL_act_X7_pass_h (goodIn_app (goodIn_app (goodIn_app (goodIn_app (goodIn_app (goodIn_app (goodIn_app (goodIn_app (goodIn_app ggL_act_X7_pass_r1 (goodIn_app ggL_act_X7_pass_r2 (goodIn_app ggL_act_X7_pass_r3 (goodIn_app ggL_act_X7_pass_r4 (goodIn_app ggL_act_X7_pass_r5 (ggL_act_X7_pass_r6)))))) ggL_act_X7_pass_wsX70) ggL_act_X7_pass_wsX60) ggL_act_X7_pass_wsX30) ggL_act_X7_pass_wsX40) ggL_act_X7_pass_wsX20) ggL_act_X7_pass_wsX00) ggL_act_X7_pass_wsX10) (goodIn_sub (fun _ h => List.mem_cons_of_mem _ (List.mem_append_left _ (List.mem_append_left _ (List.mem_append_right _ h)))) (by decide +kernel)))
set_option maxRecDepth 20000 in
theorem gL_act_X7_pass : GoodIn wsL_act (wsV RL 100 RX7 yX7_pass wsX7_pass) := goodIn_app (goodIn_of _ (by decide +kernel)) ggL_act_X7_pass
theorem dL_act_0 : decode cL_act 0 = .ok (.iload_n 2, 1) := by decide +kernel
theorem dL_act_1 : decode cL_act 1 = .ok (.bipush 9, 2) := by decide +kernel
theorem dL_act_3 : decode cL_act 3 = .ok (.ishr, 1) := by decide +kernel
theorem dL_act_4 : decode cL_act 4 = .ok (.bipush 22, 2) := by decide +kernel
theorem dL_act_6 : decode cL_act 6 = .ok (.invokestatic 11, 3) := by decide +kernel
theorem dL_act_9 : decode cL_act 9 = .ok (.istore_n 3, 1) := by decide +kernel
theorem dL_act_10 : decode cL_act 10 = .ok (.iload_n 3, 1) := by decide +kernel
theorem dL_act_11 : decode cL_act 11 = .ok (.tableswitch 1193 0 17 #[85, 186, 295, 406, 527, 565, 602, 679, 679, 786, 786, 843, 843, 843, 979, 979, 1115, 1115], 85) := by decide +kernel
theorem dL_act_96 : decode cL_act 96 = .ok (.aload_n 1, 1) := by decide +kernel
theorem dL_act_97 : decode cL_act 97 = .ok (.getfield 17, 3) := by decide +kernel
theorem dL_act_100 : decode cL_act 100 = .ok (.arraylength, 1) := by decide +kernel
theorem dL_act_101 : decode cL_act 101 = .ok (.iconst 4, 1) := by decide +kernel
theorem dL_act_102 : decode cL_act 102 = .ok (.if_icmp .ne 5, 3) := by decide +kernel
theorem dL_act_105 : decode cL_act 105 = .ok (.iconst 1, 1) := by decide +kernel
theorem dL_act_106 : decode cL_act 106 = .ok (.ireturn, 1) := by decide +kernel
theorem dL_act_107 : decode cL_act 107 = .ok (.aload_n 1, 1) := by decide +kernel
theorem dL_act_108 : decode cL_act 108 = .ok (.aload_n 1, 1) := by decide +kernel
theorem dL_act_109 : decode cL_act 109 = .ok (.getfield 17, 3) := by decide +kernel
theorem dL_act_112 : decode cL_act 112 = .ok (.iconst 3, 1) := by decide +kernel
theorem dL_act_113 : decode cL_act 113 = .ok (.newarray .int, 2) := by decide +kernel
theorem dL_act_115 : decode cL_act 115 = .ok (.dup, 1) := by decide +kernel
theorem dL_act_116 : decode cL_act 116 = .ok (.iconst 0, 1) := by decide +kernel
theorem dL_act_117 : decode cL_act 117 = .ok (.iload_n 2, 1) := by decide +kernel
theorem dL_act_118 : decode cL_act 118 = .ok (.iconst 1, 1) := by decide +kernel
theorem dL_act_119 : decode cL_act 119 = .ok (.ishr, 1) := by decide +kernel
theorem dL_act_120 : decode cL_act 120 = .ok (.bipush 10, 2) := by decide +kernel
theorem dL_act_122 : decode cL_act 122 = .ok (.invokestatic 11, 3) := by decide +kernel
theorem dL_act_125 : decode cL_act 125 = .ok (.iastore, 1) := by decide +kernel
theorem dL_act_126 : decode cL_act 126 = .ok (.dup, 1) := by decide +kernel
theorem dL_act_127 : decode cL_act 127 = .ok (.iconst 1, 1) := by decide +kernel
theorem dL_act_128 : decode cL_act 128 = .ok (.iconst 1, 1) := by decide +kernel
theorem dL_act_129 : decode cL_act 129 = .ok (.iload_n 2, 1) := by decide +kernel
theorem dL_act_130 : decode cL_act 130 = .ok (.iconst 3, 1) := by decide +kernel
theorem dL_act_131 : decode cL_act 131 = .ok (.ishr, 1) := by decide +kernel
theorem dL_act_132 : decode cL_act 132 = .ok (.bipush 99, 2) := by decide +kernel
theorem dL_act_134 : decode cL_act 134 = .ok (.invokestatic 11, 3) := by decide +kernel
theorem dL_act_137 : decode cL_act 137 = .ok (.iadd, 1) := by decide +kernel
theorem dL_act_138 : decode cL_act 138 = .ok (.iastore, 1) := by decide +kernel
theorem dL_act_139 : decode cL_act 139 = .ok (.dup, 1) := by decide +kernel
theorem dL_act_140 : decode cL_act 140 = .ok (.iconst 2, 1) := by decide +kernel
theorem dL_act_141 : decode cL_act 141 = .ok (.iconst 0, 1) := by decide +kernel
theorem dL_act_142 : decode cL_act 142 = .ok (.iastore, 1) := by decide +kernel
theorem dL_act_143 : decode cL_act 143 = .ok (.invokestatic 23, 3) := by decide +kernel
theorem dL_act_146 : decode cL_act 146 = .ok (.putfield 17, 3) := by decide +kernel
theorem dL_act_149 : decode cL_act 149 = .ok (.aload_n 0, 1) := by decide +kernel
theorem dL_act_150 : decode cL_act 150 = .ok (.aload_n 1, 1) := by decide +kernel
theorem dL_act_151 : decode cL_act 151 = .ok (.getfield 17, 3) := by decide +kernel
theorem dL_act_154 : decode cL_act 154 = .ok (.aload_n 1, 1) := by decide +kernel
theorem dL_act_155 : decode cL_act 155 = .ok (.getfield 17, 3) := by decide +kernel
theorem dL_act_158 : decode cL_act 158 = .ok (.arraylength, 1) := by decide +kernel
theorem dL_act_159 : decode cL_act 159 = .ok (.iconst 1, 1) := by decide +kernel
theorem dL_act_160 : decode cL_act 160 = .ok (.isub, 1) := by decide +kernel
theorem dL_act_161 : decode cL_act 161 = .ok (.aaload, 1) := by decide +kernel
theorem dL_act_162 : decode cL_act 162 = .ok (.iconst 0, 1) := by decide +kernel
theorem dL_act_163 : decode cL_act 163 = .ok (.iaload, 1) := by decide +kernel
theorem dL_act_164 : decode cL_act 164 = .ok (.aload_n 1, 1) := by decide +kernel
theorem dL_act_165 : decode cL_act 165 = .ok (.getfield 17, 3) := by decide +kernel
theorem dL_act_168 : decode cL_act 168 = .ok (.aload_n 1, 1) := by decide +kernel
theorem dL_act_169 : decode cL_act 169 = .ok (.getfield 17, 3) := by decide +kernel
theorem dL_act_172 : decode cL_act 172 = .ok (.arraylength, 1) := by decide +kernel
theorem dL_act_173 : decode cL_act 173 = .ok (.iconst 1, 1) := by decide +kernel
theorem dL_act_174 : decode cL_act 174 = .ok (.isub, 1) := by decide +kernel
theorem dL_act_175 : decode cL_act 175 = .ok (.aaload, 1) := by decide +kernel
theorem dL_act_176 : decode cL_act 176 = .ok (.iconst 1, 1) := by decide +kernel
theorem dL_act_177 : decode cL_act 177 = .ok (.iaload, 1) := by decide +kernel
theorem dL_act_178 : decode cL_act 178 = .ok (.invokevirtual 27, 3) := by decide +kernel
theorem dL_act_181 : decode cL_act 181 = .ok (.aload_n 1, 1) := by decide +kernel
theorem dL_act_182 : decode cL_act 182 = .ok (.getfield 17, 3) := by decide +kernel
theorem dL_act_185 : decode cL_act 185 = .ok (.arraylength, 1) := by decide +kernel
theorem dL_act_186 : decode cL_act 186 = .ok (.iconst 1, 1) := by decide +kernel
theorem dL_act_187 : decode cL_act 187 = .ok (.isub, 1) := by decide +kernel
theorem dL_act_188 : decode cL_act 188 = .ok (.if_icmp .ne 7, 3) := by decide +kernel
theorem dL_act_191 : decode cL_act 191 = .ok (.iconst 1, 1) := by decide +kernel
theorem dL_act_192 : decode cL_act 192 = .ok (.goto 4, 3) := by decide +kernel
theorem dL_act_195 : decode cL_act 195 = .ok (.iconst 0, 1) := by decide +kernel
theorem dL_act_196 : decode cL_act 196 = .ok (.ireturn, 1) := by decide +kernel
theorem dL_act_197 : decode cL_act 197 = .ok (.aload_n 1, 1) := by decide +kernel
theorem dL_act_198 : decode cL_act 198 = .ok (.getfield 32, 3) := by decide +kernel
theorem dL_act_201 : decode cL_act 201 = .ok (.arraylength, 1) := by decide +kernel
theorem dL_act_202 : decode cL_act 202 = .ok (.iconst 4, 1) := by decide +kernel
theorem dL_act_203 : decode cL_act 203 = .ok (.if_icmp .ne 5, 3) := by decide +kernel
theorem dL_act_206 : decode cL_act 206 = .ok (.iconst 1, 1) := by decide +kernel
theorem dL_act_207 : decode cL_act 207 = .ok (.ireturn, 1) := by decide +kernel
theorem dL_act_208 : decode cL_act 208 = .ok (.aload_n 1, 1) := by decide +kernel
theorem dL_act_209 : decode cL_act 209 = .ok (.aload_n 1, 1) := by decide +kernel
theorem dL_act_210 : decode cL_act 210 = .ok (.getfield 32, 3) := by decide +kernel
theorem dL_act_213 : decode cL_act 213 = .ok (.iconst 5, 1) := by decide +kernel
theorem dL_act_214 : decode cL_act 214 = .ok (.newarray .int, 2) := by decide +kernel
theorem dL_act_216 : decode cL_act 216 = .ok (.dup, 1) := by decide +kernel
theorem dL_act_217 : decode cL_act 217 = .ok (.iconst 0, 1) := by decide +kernel
theorem dL_act_218 : decode cL_act 218 = .ok (.iconst 1, 1) := by decide +kernel
theorem dL_act_219 : decode cL_act 219 = .ok (.iload_n 2, 1) := by decide +kernel
theorem dL_act_220 : decode cL_act 220 = .ok (.iconst 1, 1) := by decide +kernel
theorem dL_act_221 : decode cL_act 221 = .ok (.ishr, 1) := by decide +kernel
theorem dL_act_222 : decode cL_act 222 = .ok (.bipush 40, 2) := by decide +kernel
theorem dL_act_224 : decode cL_act 224 = .ok (.invokestatic 11, 3) := by decide +kernel
theorem dL_act_227 : decode cL_act 227 = .ok (.iadd, 1) := by decide +kernel
theorem dL_act_228 : decode cL_act 228 = .ok (.iastore, 1) := by decide +kernel
theorem dL_act_229 : decode cL_act 229 = .ok (.dup, 1) := by decide +kernel
theorem dL_act_230 : decode cL_act 230 = .ok (.iconst 1, 1) := by decide +kernel
theorem dL_act_231 : decode cL_act 231 = .ok (.iload_n 2, 1) := by decide +kernel
theorem dL_act_232 : decode cL_act 232 = .ok (.iconst 3, 1) := by decide +kernel
theorem dL_act_233 : decode cL_act 233 = .ok (.ishr, 1) := by decide +kernel
theorem dL_act_234 : decode cL_act 234 = .ok (.bipush 10, 2) := by decide +kernel
theorem dL_act_236 : decode cL_act 236 = .ok (.invokestatic 11, 3) := by decide +kernel
theorem dL_act_239 : decode cL_act 239 = .ok (.iastore, 1) := by decide +kernel
theorem dL_act_240 : decode cL_act 240 = .ok (.dup, 1) := by decide +kernel
theorem dL_act_241 : decode cL_act 241 = .ok (.iconst 2, 1) := by decide +kernel
theorem dL_act_242 : decode cL_act 242 = .ok (.iconst (-1), 1) := by decide +kernel
theorem dL_act_243 : decode cL_act 243 = .ok (.iastore, 1) := by decide +kernel
theorem dL_act_244 : decode cL_act 244 = .ok (.dup, 1) := by decide +kernel
theorem dL_act_245 : decode cL_act 245 = .ok (.iconst 3, 1) := by decide +kernel
theorem dL_act_246 : decode cL_act 246 = .ok (.iconst 0, 1) := by decide +kernel
theorem dL_act_247 : decode cL_act 247 = .ok (.iastore, 1) := by decide +kernel
theorem dL_act_248 : decode cL_act 248 = .ok (.dup, 1) := by decide +kernel
theorem dL_act_249 : decode cL_act 249 = .ok (.iconst 4, 1) := by decide +kernel
theorem dL_act_250 : decode cL_act 250 = .ok (.iconst 0, 1) := by decide +kernel
theorem dL_act_251 : decode cL_act 251 = .ok (.iastore, 1) := by decide +kernel
theorem dL_act_252 : decode cL_act 252 = .ok (.invokestatic 23, 3) := by decide +kernel
theorem dL_act_255 : decode cL_act 255 = .ok (.putfield 32, 3) := by decide +kernel
theorem dL_act_258 : decode cL_act 258 = .ok (.aload_n 0, 1) := by decide +kernel
theorem dL_act_259 : decode cL_act 259 = .ok (.aload_n 1, 1) := by decide +kernel
theorem dL_act_260 : decode cL_act 260 = .ok (.getfield 32, 3) := by decide +kernel
theorem dL_act_263 : decode cL_act 263 = .ok (.aload_n 1, 1) := by decide +kernel
theorem dL_act_264 : decode cL_act 264 = .ok (.getfield 32, 3) := by decide +kernel
theorem dL_act_267 : decode cL_act 267 = .ok (.arraylength, 1) := by decide +kernel
theorem dL_act_268 : decode cL_act 268 = .ok (.iconst 1, 1) := by decide +kernel
theorem dL_act_269 : decode cL_act 269 = .ok (.isub, 1) := by decide +kernel
theorem dL_act_270 : decode cL_act 270 = .ok (.aaload, 1) := by decide +kernel
theorem dL_act_271 : decode cL_act 271 = .ok (.iconst 0, 1) := by decide +kernel
theorem dL_act_272 : decode cL_act 272 = .ok (.iaload, 1) := by decide +kernel
theorem dL_act_273 : decode cL_act 273 = .ok (.aload_n 1, 1) := by decide +kernel
theorem dL_act_274 : decode cL_act 274 = .ok (.getfield 32, 3) := by decide +kernel
theorem dL_act_277 : decode cL_act 277 = .ok (.aload_n 1, 1) := by decide +kernel
theorem dL_act_278 : decode cL_act 278 = .ok (.getfield 32, 3) := by decide +kernel
theorem dL_act_281 : decode cL_act 281 = .ok (.arraylength, 1) := by decide +kernel
theorem dL_act_282 : decode cL_act 282 = .ok (.iconst 1, 1) := by decide +kernel
theorem dL_act_283 : decode cL_act 283 = .ok (.isub, 1) := by decide +kernel
theorem dL_act_284 : decode cL_act 284 = .ok (.aaload, 1) := by decide +kernel
theorem dL_act_285 : decode cL_act 285 = .ok (.iconst 1, 1) := by decide +kernel
theorem dL_act_286 : decode cL_act 286 = .ok (.iaload, 1) := by decide +kernel
theorem dL_act_287 : decode cL_act 287 = .ok (.invokevirtual 35, 3) := by decide +kernel
theorem dL_act_290 : decode cL_act 290 = .ok (.aload_n 1, 1) := by decide +kernel
theorem dL_act_291 : decode cL_act 291 = .ok (.getfield 32, 3) := by decide +kernel
theorem dL_act_294 : decode cL_act 294 = .ok (.arraylength, 1) := by decide +kernel
theorem dL_act_295 : decode cL_act 295 = .ok (.iconst 1, 1) := by decide +kernel
theorem dL_act_296 : decode cL_act 296 = .ok (.isub, 1) := by decide +kernel
theorem dL_act_297 : decode cL_act 297 = .ok (.if_icmp .ne 7, 3) := by decide +kernel
theorem dL_act_300 : decode cL_act 300 = .ok (.iconst 1, 1) := by decide +kernel
theorem dL_act_301 : decode cL_act 301 = .ok (.goto 4, 3) := by decide +kernel
theorem dL_act_304 : decode cL_act 304 = .ok (.iconst 0, 1) := by decide +kernel
theorem dL_act_305 : decode cL_act 305 = .ok (.ireturn, 1) := by decide +kernel
theorem dL_act_306 : decode cL_act 306 = .ok (.aload_n 1, 1) := by decide +kernel
theorem dL_act_307 : decode cL_act 307 = .ok (.getfield 38, 3) := by decide +kernel
theorem dL_act_310 : decode cL_act 310 = .ok (.arraylength, 1) := by decide +kernel
theorem dL_act_311 : decode cL_act 311 = .ok (.iconst 4, 1) := by decide +kernel
theorem dL_act_312 : decode cL_act 312 = .ok (.if_icmp .ne 5, 3) := by decide +kernel
theorem dL_act_315 : decode cL_act 315 = .ok (.iconst 1, 1) := by decide +kernel
theorem dL_act_316 : decode cL_act 316 = .ok (.ireturn, 1) := by decide +kernel
theorem dL_act_317 : decode cL_act 317 = .ok (.aload_n 1, 1) := by decide +kernel
theorem dL_act_318 : decode cL_act 318 = .ok (.aload_n 1, 1) := by decide +kernel
theorem dL_act_319 : decode cL_act 319 = .ok (.getfield 38, 3) := by decide +kernel
theorem dL_act_322 : decode cL_act 322 = .ok (.iconst 5, 1) := by decide +kernel
theorem dL_act_323 : decode cL_act 323 = .ok (.newarray .int, 2) := by decide +kernel
theorem dL_act_325 : decode cL_act 325 = .ok (.dup, 1) := by decide +kernel
theorem dL_act_326 : decode cL_act 326 = .ok (.iconst 0, 1) := by decide +kernel
theorem dL_act_327 : decode cL_act 327 = .ok (.iconst 2, 1) := by decide +kernel
theorem dL_act_328 : decode cL_act 328 = .ok (.iload_n 2, 1) := by decide +kernel
theorem dL_act_329 : decode cL_act 329 = .ok (.iconst 1, 1) := by decide +kernel
theorem dL_act_330 : decode cL_act 330 = .ok (.ishr, 1) := by decide +kernel
theorem dL_act_331 : decode cL_act 331 = .ok (.bipush 13, 2) := by decide +kernel
theorem dL_act_333 : decode cL_act 333 = .ok (.invokestatic 11, 3) := by decide +kernel
theorem dL_act_336 : decode cL_act 336 = .ok (.iadd, 1) := by decide +kernel
theorem dL_act_337 : decode cL_act 337 = .ok (.iastore, 1) := by decide +kernel
theorem dL_act_338 : decode cL_act 338 = .ok (.dup, 1) := by decide +kernel
theorem dL_act_339 : decode cL_act 339 = .ok (.iconst 1, 1) := by decide +kernel
theorem dL_act_340 : decode cL_act 340 = .ok (.iconst 1, 1) := by decide +kernel
theorem dL_act_341 : decode cL_act 341 = .ok (.iload_n 2, 1) := by decide +kernel
theorem dL_act_342 : decode cL_act 342 = .ok (.iconst 3, 1) := by decide +kernel
theorem dL_act_343 : decode cL_act 343 = .ok (.ishr, 1) := by decide +kernel
theorem dL_act_344 : decode cL_act 344 = .ok (.bipush 30, 2) := by decide +kernel
theorem dL_act_346 : decode cL_act 346 = .ok (.invokestatic 11, 3) := by decide +kernel
theorem dL_act_349 : decode cL_act 349 = .ok (.iadd, 1) := by decide +kernel
theorem dL_act_350 : decode cL_act 350 = .ok (.iastore, 1) := by decide +kernel
theorem dL_act_351 : decode cL_act 351 = .ok (.dup, 1) := by decide +kernel
theorem dL_act_352 : decode cL_act 352 = .ok (.iconst 2, 1) := by decide +kernel
theorem dL_act_353 : decode cL_act 353 = .ok (.iconst 0, 1) := by decide +kernel
theorem dL_act_354 : decode cL_act 354 = .ok (.iastore, 1) := by decide +kernel
theorem dL_act_355 : decode cL_act 355 = .ok (.dup, 1) := by decide +kernel
theorem dL_act_356 : decode cL_act 356 = .ok (.iconst 3, 1) := by decide +kernel
theorem dL_act_357 : decode cL_act 357 = .ok (.iconst 0, 1) := by decide +kernel
theorem dL_act_358 : decode cL_act 358 = .ok (.iastore, 1) := by decide +kernel
theorem dL_act_359 : decode cL_act 359 = .ok (.dup, 1) := by decide +kernel
theorem dL_act_360 : decode cL_act 360 = .ok (.iconst 4, 1) := by decide +kernel
theorem dL_act_361 : decode cL_act 361 = .ok (.iconst 0, 1) := by decide +kernel
theorem dL_act_362 : decode cL_act 362 = .ok (.iastore, 1) := by decide +kernel
theorem dL_act_363 : decode cL_act 363 = .ok (.invokestatic 23, 3) := by decide +kernel
theorem dL_act_366 : decode cL_act 366 = .ok (.putfield 38, 3) := by decide +kernel
theorem dL_act_369 : decode cL_act 369 = .ok (.aload_n 0, 1) := by decide +kernel
theorem dL_act_370 : decode cL_act 370 = .ok (.aload_n 1, 1) := by decide +kernel
theorem dL_act_371 : decode cL_act 371 = .ok (.getfield 38, 3) := by decide +kernel
theorem dL_act_374 : decode cL_act 374 = .ok (.aload_n 1, 1) := by decide +kernel
theorem dL_act_375 : decode cL_act 375 = .ok (.getfield 38, 3) := by decide +kernel
theorem dL_act_378 : decode cL_act 378 = .ok (.arraylength, 1) := by decide +kernel
theorem dL_act_379 : decode cL_act 379 = .ok (.iconst 1, 1) := by decide +kernel
theorem dL_act_380 : decode cL_act 380 = .ok (.isub, 1) := by decide +kernel
theorem dL_act_381 : decode cL_act 381 = .ok (.aaload, 1) := by decide +kernel
theorem dL_act_382 : decode cL_act 382 = .ok (.iconst 0, 1) := by decide +kernel
theorem dL_act_383 : decode cL_act 383 = .ok (.iaload, 1) := by decide +kernel
theorem dL_act_384 : decode cL_act 384 = .ok (.aload_n 1, 1) := by decide +kernel
theorem dL_act_385 : decode cL_act 385 = .ok (.getfield 38, 3) := by decide +kernel
theorem dL_act_388 : decode cL_act 388 = .ok (.aload_n 1, 1) := by decide +kernel
theorem dL_act_389 : decode cL_act 389 = .ok (.getfield 38, 3) := by decide +kernel
theorem dL_act_392 : decode cL_act 392 = .ok (.arraylength, 1) := by decide +kernel
theorem dL_act_393 : decode cL_act 393 = .ok (.iconst 1, 1) := by decide +kernel
theorem dL_act_394 : decode cL_act 394 = .ok (.isub, 1) := by decide +kernel
theorem dL_act_395 : decode cL_act 395 = .ok (.aaload, 1) := by decide +kernel
theorem dL_act_396 : decode cL_act 396 = .ok (.iconst 1, 1) := by decide +kernel
theorem dL_act_397 : decode cL_act 397 = .ok (.iaload, 1) := by decide +kernel
theorem dL_act_398 : decode cL_act 398 = .ok (.invokevirtual 41, 3) := by decide +kernel
theorem dL_act_401 : decode cL_act 401 = .ok (.aload_n 1, 1) := by decide +kernel
theorem dL_act_402 : decode cL_act 402 = .ok (.getfield 38, 3) := by decide +kernel
theorem dL_act_405 : decode cL_act 405 = .ok (.arraylength, 1) := by decide +kernel
theorem dL_act_406 : decode cL_act 406 = .ok (.iconst 1, 1) := by decide +kernel
theorem dL_act_407 : decode cL_act 407 = .ok (.isub, 1) := by decide +kernel
theorem dL_act_408 : decode cL_act 408 = .ok (.if_icmp .ne 7, 3) := by decide +kernel
theorem dL_act_411 : decode cL_act 411 = .ok (.iconst 1, 1) := by decide +kernel
theorem dL_act_412 : decode cL_act 412 = .ok (.goto 4, 3) := by decide +kernel
theorem dL_act_415 : decode cL_act 415 = .ok (.iconst 0, 1) := by decide +kernel
theorem dL_act_416 : decode cL_act 416 = .ok (.ireturn, 1) := by decide +kernel
theorem dL_act_417 : decode cL_act 417 = .ok (.aload_n 1, 1) := by decide +kernel
theorem dL_act_418 : decode cL_act 418 = .ok (.getfield 44, 3) := by decide +kernel
theorem dL_act_421 : decode cL_act 421 = .ok (.arraylength, 1) := by decide +kernel
theorem dL_act_422 : decode cL_act 422 = .ok (.bipush 10, 2) := by decide +kernel
theorem dL_act_424 : decode cL_act 424 = .ok (.if_icmp .ne 5, 3) := by decide +kernel
theorem dL_act_427 : decode cL_act 427 = .ok (.iconst 1, 1) := by decide +kernel
theorem dL_act_428 : decode cL_act 428 = .ok (.ireturn, 1) := by decide +kernel
theorem dL_act_429 : decode cL_act 429 = .ok (.iconst 1, 1) := by decide +kernel
theorem dL_act_430 : decode cL_act 430 = .ok (.iload_n 2, 1) := by decide +kernel
theorem dL_act_431 : decode cL_act 431 = .ok (.iconst 1, 1) := by decide +kernel
theorem dL_act_432 : decode cL_act 432 = .ok (.ishr, 1) := by decide +kernel
theorem dL_act_433 : decode cL_act 433 = .ok (.bipush 9, 2) := by decide +kernel
theorem dL_act_435 : decode cL_act 435 = .ok (.invokestatic 11, 3) := by decide +kernel
theorem dL_act_438 : decode cL_act 438 = .ok (.iadd, 1) := by decide +kernel
theorem dL_act_439 : decode cL_act 439 = .ok (.istore 4, 2) := by decide +kernel
theorem dL_act_441 : decode cL_act 441 = .ok (.aload_n 1, 1) := by decide +kernel
theorem dL_act_442 : decode cL_act 442 = .ok (.aload_n 1, 1) := by decide +kernel
theorem dL_act_443 : decode cL_act 443 = .ok (.getfield 44, 3) := by decide +kernel
theorem dL_act_446 : decode cL_act 446 = .ok (.iconst 5, 1) := by decide +kernel
theorem dL_act_447 : decode cL_act 447 = .ok (.newarray .int, 2) := by decide +kernel
theorem dL_act_449 : decode cL_act 449 = .ok (.dup, 1) := by decide +kernel
theorem dL_act_450 : decode cL_act 450 = .ok (.iconst 0, 1) := by decide +kernel
theorem dL_act_451 : decode cL_act 451 = .ok (.iload 4, 2) := by decide +kernel
theorem dL_act_453 : decode cL_act 453 = .ok (.iastore, 1) := by decide +kernel
theorem dL_act_454 : decode cL_act 454 = .ok (.dup, 1) := by decide +kernel
theorem dL_act_455 : decode cL_act 455 = .ok (.iconst 1, 1) := by decide +kernel
theorem dL_act_456 : decode cL_act 456 = .ok (.iload_n 2, 1) := by decide +kernel
theorem dL_act_457 : decode cL_act 457 = .ok (.iconst 3, 1) := by decide +kernel
theorem dL_act_458 : decode cL_act 458 = .ok (.invokestatic 11, 3) := by decide +kernel
theorem dL_act_461 : decode cL_act 461 = .ok (.ifCond .ne 14, 3) := by decide +kernel
theorem dL_act_464 : decode cL_act 464 = .ok (.iload_n 2, 1) := by decide +kernel
theorem dL_act_465 : decode cL_act 465 = .ok (.iconst 3, 1) := by decide +kernel
theorem dL_act_466 : decode cL_act 466 = .ok (.ishr, 1) := by decide +kernel
theorem dL_act_467 : decode cL_act 467 = .ok (.bipush 11, 2) := by decide +kernel
theorem dL_act_469 : decode cL_act 469 = .ok (.invokestatic 11, 3) := by decide +kernel
theorem dL_act_472 : decode cL_act 472 = .ok (.goto 10, 3) := by decide +kernel
theorem dL_act_475 : decode cL_act 475 = .ok (.iload_n 2, 1) := by decide +kernel
theorem dL_act_476 : decode cL_act 476 = .ok (.iconst 3, 1) := by decide +kernel
theorem dL_act_477 : decode cL_act 477 = .ok (.ishr, 1) := by decide +kernel
theorem dL_act_478 : decode cL_act 478 = .ok (.iconst 4, 1) := by decide +kernel
theorem dL_act_479 : decode cL_act 479 = .ok (.invokestatic 11, 3) := by decide +kernel
theorem dL_act_482 : decode cL_act 482 = .ok (.iastore, 1) := by decide +kernel
theorem dL_act_483 : decode cL_act 483 = .ok (.dup, 1) := by decide +kernel
theorem dL_act_484 : decode cL_act 484 = .ok (.iconst 2, 1) := by decide +kernel
theorem dL_act_485 : decode cL_act 485 = .ok (.iload 4, 2) := by decide +kernel
theorem dL_act_487 : decode cL_act 487 = .ok (.iastore, 1) := by decide +kernel
theorem dL_act_488 : decode cL_act 488 = .ok (.dup, 1) := by decide +kernel
theorem dL_act_489 : decode cL_act 489 = .ok (.iconst 3, 1) := by decide +kernel
theorem dL_act_490 : decode cL_act 490 = .ok (.iconst 0, 1) := by decide +kernel
theorem dL_act_491 : decode cL_act 491 = .ok (.iastore, 1) := by decide +kernel
theorem dL_act_492 : decode cL_act 492 = .ok (.dup, 1) := by decide +kernel
theorem dL_act_493 : decode cL_act 493 = .ok (.iconst 4, 1) := by decide +kernel
theorem dL_act_494 : decode cL_act 494 = .ok (.iconst 0, 1) := by decide +kernel
theorem dL_act_495 : decode cL_act 495 = .ok (.iastore, 1) := by decide +kernel
theorem dL_act_496 : decode cL_act 496 = .ok (.invokestatic 23, 3) := by decide +kernel
theorem dL_act_499 : decode cL_act 499 = .ok (.putfield 44, 3) := by decide +kernel
theorem dL_act_502 : decode cL_act 502 = .ok (.aload_n 0, 1) := by decide +kernel
theorem dL_act_503 : decode cL_act 503 = .ok (.iload 4, 2) := by decide +kernel
theorem dL_act_505 : decode cL_act 505 = .ok (.aload_n 1, 1) := by decide +kernel
theorem dL_act_506 : decode cL_act 506 = .ok (.getfield 44, 3) := by decide +kernel
theorem dL_act_509 : decode cL_act 509 = .ok (.aload_n 1, 1) := by decide +kernel
theorem dL_act_510 : decode cL_act 510 = .ok (.getfield 44, 3) := by decide +kernel
theorem dL_act_513 : decode cL_act 513 = .ok (.arraylength, 1) := by decide +kernel
theorem dL_act_514 : decode cL_act 514 = .ok (.iconst 1, 1) := by decide +kernel
theorem dL_act_515 : decode cL_act 515 = .ok (.isub, 1) := by decide +kernel
theorem dL_act_516 : decode cL_act 516 = .ok (.aaload, 1) := by decide +kernel
theorem dL_act_517 : decode cL_act 517 = .ok (.iconst 1, 1) := by decide +kernel
theorem dL_act_518 : decode cL_act 518 = .ok (.iaload, 1) := by decide +kernel
theorem dL_act_519 : decode cL_act 519 = .ok (.invokevirtual 47, 3) := by decide +kernel
theorem dL_act_522 : decode cL_act 522 = .ok (.aload_n 1, 1) := by decide +kernel
theorem dL_act_523 : decode cL_act 523 = .ok (.getfield 44, 3) := by decide +kernel
theorem dL_act_526 : decode cL_act 526 = .ok (.arraylength, 1) := by decide +kernel
theorem dL_act_527 : decode cL_act 527 = .ok (.iconst 1, 1) := by decide +kernel
theorem dL_act_528 : decode cL_act 528 = .ok (.isub, 1) := by decide +kernel
end
section
theorem dL_act_529 : decode cL_act 529 = .ok (.if_icmp .ne 7, 3) := by decide +kernel
theorem dL_act_532 : decode cL_act 532 = .ok (.iconst 1, 1) := by decide +kernel
theorem dL_act_533 : decode cL_act 533 = .ok (.goto 4, 3) := by decide +kernel
theorem dL_act_536 : decode cL_act 536 = .ok (.iconst 0, 1) := by decide +kernel
theorem dL_act_537 : decode cL_act 537 = .ok (.ireturn, 1) := by decide +kernel
theorem dL_act_538 : decode cL_act 538 = .ok (.aload_n 1, 1) := by decide +kernel
theorem dL_act_539 : decode cL_act 539 = .ok (.getfield 50, 3) := by decide +kernel
theorem dL_act_542 : decode cL_act 542 = .ok (.istore 5, 2) := by decide +kernel
theorem dL_act_544 : decode cL_act 544 = .ok (.aload_n 1, 1) := by decide +kernel
theorem dL_act_545 : decode cL_act 545 = .ok (.iload_n 2, 1) := by decide +kernel
theorem dL_act_546 : decode cL_act 546 = .ok (.iconst 1, 1) := by decide +kernel
theorem dL_act_547 : decode cL_act 547 = .ok (.ishr, 1) := by decide +kernel
theorem dL_act_548 : decode cL_act 548 = .ok (.sipush 128, 3) := by decide +kernel
theorem dL_act_551 : decode cL_act 551 = .ok (.invokestatic 11, 3) := by decide +kernel
theorem dL_act_554 : decode cL_act 554 = .ok (.putfield 50, 3) := by decide +kernel
theorem dL_act_557 : decode cL_act 557 = .ok (.aload_n 0, 1) := by decide +kernel
theorem dL_act_558 : decode cL_act 558 = .ok (.aload_n 1, 1) := by decide +kernel
theorem dL_act_559 : decode cL_act 559 = .ok (.getfield 50, 3) := by decide +kernel
theorem dL_act_562 : decode cL_act 562 = .ok (.invokevirtual 54, 3) := by decide +kernel
theorem dL_act_565 : decode cL_act 565 = .ok (.iload 5, 2) := by decide +kernel
theorem dL_act_567 : decode cL_act 567 = .ok (.if_icmp .ne 7, 3) := by decide +kernel
theorem dL_act_570 : decode cL_act 570 = .ok (.iconst 1, 1) := by decide +kernel
theorem dL_act_571 : decode cL_act 571 = .ok (.goto 4, 3) := by decide +kernel
theorem dL_act_574 : decode cL_act 574 = .ok (.iconst 0, 1) := by decide +kernel
theorem dL_act_575 : decode cL_act 575 = .ok (.ireturn, 1) := by decide +kernel
theorem dL_act_576 : decode cL_act 576 = .ok (.aload_n 1, 1) := by decide +kernel
theorem dL_act_577 : decode cL_act 577 = .ok (.getfield 58, 3) := by decide +kernel
theorem dL_act_580 : decode cL_act 580 = .ok (.istore 6, 2) := by decide +kernel
theorem dL_act_582 : decode cL_act 582 = .ok (.aload_n 1, 1) := by decide +kernel
theorem dL_act_583 : decode cL_act 583 = .ok (.iload_n 2, 1) := by decide +kernel
theorem dL_act_584 : decode cL_act 584 = .ok (.iconst 1, 1) := by decide +kernel
theorem dL_act_585 : decode cL_act 585 = .ok (.ishr, 1) := by decide +kernel
theorem dL_act_586 : decode cL_act 586 = .ok (.bipush 11, 2) := by decide +kernel
theorem dL_act_588 : decode cL_act 588 = .ok (.invokestatic 11, 3) := by decide +kernel
theorem dL_act_591 : decode cL_act 591 = .ok (.putfield 58, 3) := by decide +kernel
theorem dL_act_594 : decode cL_act 594 = .ok (.aload_n 0, 1) := by decide +kernel
theorem dL_act_595 : decode cL_act 595 = .ok (.aload_n 1, 1) := by decide +kernel
theorem dL_act_596 : decode cL_act 596 = .ok (.getfield 58, 3) := by decide +kernel
theorem dL_act_599 : decode cL_act 599 = .ok (.invokevirtual 61, 3) := by decide +kernel
theorem dL_act_602 : decode cL_act 602 = .ok (.iload 6, 2) := by decide +kernel
theorem dL_act_604 : decode cL_act 604 = .ok (.if_icmp .ne 7, 3) := by decide +kernel
theorem dL_act_607 : decode cL_act 607 = .ok (.iconst 1, 1) := by decide +kernel
theorem dL_act_608 : decode cL_act 608 = .ok (.goto 4, 3) := by decide +kernel
theorem dL_act_611 : decode cL_act 611 = .ok (.iconst 0, 1) := by decide +kernel
theorem dL_act_612 : decode cL_act 612 = .ok (.ireturn, 1) := by decide +kernel
theorem dL_act_613 : decode cL_act 613 = .ok (.aload_n 1, 1) := by decide +kernel
theorem dL_act_614 : decode cL_act 614 = .ok (.getfield 32, 3) := by decide +kernel
theorem dL_act_617 : decode cL_act 617 = .ok (.arraylength, 1) := by decide +kernel
theorem dL_act_618 : decode cL_act 618 = .ok (.ifCond .ne 5, 3) := by decide +kernel
theorem dL_act_621 : decode cL_act 621 = .ok (.iconst 1, 1) := by decide +kernel
theorem dL_act_622 : decode cL_act 622 = .ok (.ireturn, 1) := by decide +kernel
theorem dL_act_623 : decode cL_act 623 = .ok (.iload_n 2, 1) := by decide +kernel
theorem dL_act_624 : decode cL_act 624 = .ok (.iconst 1, 1) := by decide +kernel
theorem dL_act_625 : decode cL_act 625 = .ok (.ishr, 1) := by decide +kernel
theorem dL_act_626 : decode cL_act 626 = .ok (.aload_n 1, 1) := by decide +kernel
theorem dL_act_627 : decode cL_act 627 = .ok (.getfield 32, 3) := by decide +kernel
theorem dL_act_630 : decode cL_act 630 = .ok (.arraylength, 1) := by decide +kernel
theorem dL_act_631 : decode cL_act 631 = .ok (.invokestatic 11, 3) := by decide +kernel
theorem dL_act_634 : decode cL_act 634 = .ok (.istore 7, 2) := by decide +kernel
theorem dL_act_636 : decode cL_act 636 = .ok (.aload_n 1, 1) := by decide +kernel
theorem dL_act_637 : decode cL_act 637 = .ok (.getfield 32, 3) := by decide +kernel
theorem dL_act_640 : decode cL_act 640 = .ok (.iload 7, 2) := by decide +kernel
theorem dL_act_642 : decode cL_act 642 = .ok (.aaload, 1) := by decide +kernel
theorem dL_act_643 : decode cL_act 643 = .ok (.iconst 1, 1) := by decide +kernel
theorem dL_act_644 : decode cL_act 644 = .ok (.iaload, 1) := by decide +kernel
theorem dL_act_645 : decode cL_act 645 = .ok (.istore 8, 2) := by decide +kernel
theorem dL_act_647 : decode cL_act 647 = .ok (.aload_n 1, 1) := by decide +kernel
theorem dL_act_648 : decode cL_act 648 = .ok (.getfield 32, 3) := by decide +kernel
theorem dL_act_651 : decode cL_act 651 = .ok (.iload 7, 2) := by decide +kernel
theorem dL_act_653 : decode cL_act 653 = .ok (.aaload, 1) := by decide +kernel
theorem dL_act_654 : decode cL_act 654 = .ok (.iconst 1, 1) := by decide +kernel
theorem dL_act_655 : decode cL_act 655 = .ok (.iload_n 2, 1) := by decide +kernel
theorem dL_act_656 : decode cL_act 656 = .ok (.iconst 2, 1) := by decide +kernel
theorem dL_act_657 : decode cL_act 657 = .ok (.ishr, 1) := by decide +kernel
theorem dL_act_658 : decode cL_act 658 = .ok (.bipush 10, 2) := by decide +kernel
theorem dL_act_660 : decode cL_act 660 = .ok (.invokestatic 11, 3) := by decide +kernel
theorem dL_act_663 : decode cL_act 663 = .ok (.iastore, 1) := by decide +kernel
theorem dL_act_664 : decode cL_act 664 = .ok (.aload_n 0, 1) := by decide +kernel
theorem dL_act_665 : decode cL_act 665 = .ok (.iload 7, 2) := by decide +kernel
theorem dL_act_667 : decode cL_act 667 = .ok (.aload_n 1, 1) := by decide +kernel
theorem dL_act_668 : decode cL_act 668 = .ok (.getfield 32, 3) := by decide +kernel
theorem dL_act_671 : decode cL_act 671 = .ok (.iload 7, 2) := by decide +kernel
theorem dL_act_673 : decode cL_act 673 = .ok (.aaload, 1) := by decide +kernel
theorem dL_act_674 : decode cL_act 674 = .ok (.iconst 1, 1) := by decide +kernel
theorem dL_act_675 : decode cL_act 675 = .ok (.iaload, 1) := by decide +kernel
theorem dL_act_676 : decode cL_act 676 = .ok (.invokevirtual 64, 3) := by decide +kernel
theorem dL_act_679 : decode cL_act 679 = .ok (.iload 8, 2) := by decide +kernel
theorem dL_act_681 : decode cL_act 681 = .ok (.if_icmp .ne 7, 3) := by decide +kernel
theorem dL_act_684 : decode cL_act 684 = .ok (.iconst 1, 1) := by decide +kernel
theorem dL_act_685 : decode cL_act 685 = .ok (.goto 4, 3) := by decide +kernel
theorem dL_act_688 : decode cL_act 688 = .ok (.iconst 0, 1) := by decide +kernel
theorem dL_act_689 : decode cL_act 689 = .ok (.ireturn, 1) := by decide +kernel
theorem dL_act_690 : decode cL_act 690 = .ok (.aload_n 1, 1) := by decide +kernel
theorem dL_act_691 : decode cL_act 691 = .ok (.getfield 17, 3) := by decide +kernel
theorem dL_act_694 : decode cL_act 694 = .ok (.arraylength, 1) := by decide +kernel
theorem dL_act_695 : decode cL_act 695 = .ok (.ifCond .ne 5, 3) := by decide +kernel
theorem dL_act_698 : decode cL_act 698 = .ok (.iconst 1, 1) := by decide +kernel
theorem dL_act_699 : decode cL_act 699 = .ok (.ireturn, 1) := by decide +kernel
theorem dL_act_700 : decode cL_act 700 = .ok (.iload_n 2, 1) := by decide +kernel
theorem dL_act_701 : decode cL_act 701 = .ok (.iconst 1, 1) := by decide +kernel
theorem dL_act_702 : decode cL_act 702 = .ok (.ishr, 1) := by decide +kernel
theorem dL_act_703 : decode cL_act 703 = .ok (.aload_n 1, 1) := by decide +kernel
theorem dL_act_704 : decode cL_act 704 = .ok (.getfield 17, 3) := by decide +kernel
theorem dL_act_707 : decode cL_act 707 = .ok (.arraylength, 1) := by decide +kernel
theorem dL_act_708 : decode cL_act 708 = .ok (.invokestatic 11, 3) := by decide +kernel
theorem dL_act_711 : decode cL_act 711 = .ok (.istore 9, 2) := by decide +kernel
theorem dL_act_713 : decode cL_act 713 = .ok (.aload_n 1, 1) := by decide +kernel
theorem dL_act_714 : decode cL_act 714 = .ok (.getfield 17, 3) := by decide +kernel
theorem dL_act_717 : decode cL_act 717 = .ok (.iload 9, 2) := by decide +kernel
theorem dL_act_719 : decode cL_act 719 = .ok (.aaload, 1) := by decide +kernel
theorem dL_act_720 : decode cL_act 720 = .ok (.iconst 2, 1) := by decide +kernel
theorem dL_act_721 : decode cL_act 721 = .ok (.iaload, 1) := by decide +kernel
theorem dL_act_722 : decode cL_act 722 = .ok (.ifCond .ne 5, 3) := by decide +kernel
theorem dL_act_725 : decode cL_act 725 = .ok (.iconst 1, 1) := by decide +kernel
theorem dL_act_726 : decode cL_act 726 = .ok (.ireturn, 1) := by decide +kernel
theorem dL_act_727 : decode cL_act 727 = .ok (.iconst 1, 1) := by decide +kernel
theorem dL_act_728 : decode cL_act 728 = .ok (.iload_n 2, 1) := by decide +kernel
theorem dL_act_729 : decode cL_act 729 = .ok (.iconst 2, 1) := by decide +kernel
theorem dL_act_730 : decode cL_act 730 = .ok (.ishr, 1) := by decide +kernel
theorem dL_act_731 : decode cL_act 731 = .ok (.aload_n 1, 1) := by decide +kernel
theorem dL_act_732 : decode cL_act 732 = .ok (.getfield 17, 3) := by decide +kernel
theorem dL_act_735 : decode cL_act 735 = .ok (.iload 9, 2) := by decide +kernel
theorem dL_act_737 : decode cL_act 737 = .ok (.aaload, 1) := by decide +kernel
theorem dL_act_738 : decode cL_act 738 = .ok (.iconst 2, 1) := by decide +kernel
theorem dL_act_739 : decode cL_act 739 = .ok (.iaload, 1) := by decide +kernel
theorem dL_act_740 : decode cL_act 740 = .ok (.invokestatic 11, 3) := by decide +kernel
theorem dL_act_743 : decode cL_act 743 = .ok (.iadd, 1) := by decide +kernel
theorem dL_act_744 : decode cL_act 744 = .ok (.istore 10, 2) := by decide +kernel
theorem dL_act_746 : decode cL_act 746 = .ok (.aload_n 1, 1) := by decide +kernel
theorem dL_act_747 : decode cL_act 747 = .ok (.getfield 17, 3) := by decide +kernel
theorem dL_act_750 : decode cL_act 750 = .ok (.iload 9, 2) := by decide +kernel
theorem dL_act_752 : decode cL_act 752 = .ok (.aaload, 1) := by decide +kernel
theorem dL_act_753 : decode cL_act 753 = .ok (.iconst 2, 1) := by decide +kernel
theorem dL_act_754 : decode cL_act 754 = .ok (.dup2, 1) := by decide +kernel
theorem dL_act_755 : decode cL_act 755 = .ok (.iaload, 1) := by decide +kernel
theorem dL_act_756 : decode cL_act 756 = .ok (.iload 10, 2) := by decide +kernel
theorem dL_act_758 : decode cL_act 758 = .ok (.isub, 1) := by decide +kernel
theorem dL_act_759 : decode cL_act 759 = .ok (.iastore, 1) := by decide +kernel
theorem dL_act_760 : decode cL_act 760 = .ok (.aload_n 1, 1) := by decide +kernel
theorem dL_act_761 : decode cL_act 761 = .ok (.getfield 67, 3) := by decide +kernel
theorem dL_act_764 : decode cL_act 764 = .ok (.iconst 0, 1) := by decide +kernel
theorem dL_act_765 : decode cL_act 765 = .ok (.dup2, 1) := by decide +kernel
theorem dL_act_766 : decode cL_act 766 = .ok (.iaload, 1) := by decide +kernel
theorem dL_act_767 : decode cL_act 767 = .ok (.iload 10, 2) := by decide +kernel
theorem dL_act_769 : decode cL_act 769 = .ok (.iadd, 1) := by decide +kernel
theorem dL_act_770 : decode cL_act 770 = .ok (.iastore, 1) := by decide +kernel
theorem dL_act_771 : decode cL_act 771 = .ok (.aload_n 0, 1) := by decide +kernel
theorem dL_act_772 : decode cL_act 772 = .ok (.iload 9, 2) := by decide +kernel
theorem dL_act_774 : decode cL_act 774 = .ok (.iload 10, 2) := by decide +kernel
theorem dL_act_776 : decode cL_act 776 = .ok (.invokevirtual 70, 3) := by decide +kernel
theorem dL_act_779 : decode cL_act 779 = .ok (.aload_n 1, 1) := by decide +kernel
theorem dL_act_780 : decode cL_act 780 = .ok (.getfield 17, 3) := by decide +kernel
theorem dL_act_783 : decode cL_act 783 = .ok (.iload 9, 2) := by decide +kernel
theorem dL_act_785 : decode cL_act 785 = .ok (.aaload, 1) := by decide +kernel
theorem dL_act_786 : decode cL_act 786 = .ok (.iconst 2, 1) := by decide +kernel
theorem dL_act_787 : decode cL_act 787 = .ok (.iaload, 1) := by decide +kernel
theorem dL_act_788 : decode cL_act 788 = .ok (.if_icmp .ne 7, 3) := by decide +kernel
theorem dL_act_791 : decode cL_act 791 = .ok (.iconst 1, 1) := by decide +kernel
theorem dL_act_792 : decode cL_act 792 = .ok (.goto 4, 3) := by decide +kernel
theorem dL_act_795 : decode cL_act 795 = .ok (.iconst 0, 1) := by decide +kernel
theorem dL_act_796 : decode cL_act 796 = .ok (.ireturn, 1) := by decide +kernel
theorem dL_act_797 : decode cL_act 797 = .ok (.iload_n 2, 1) := by decide +kernel
theorem dL_act_798 : decode cL_act 798 = .ok (.iconst 1, 1) := by decide +kernel
theorem dL_act_799 : decode cL_act 799 = .ok (.ishr, 1) := by decide +kernel
theorem dL_act_800 : decode cL_act 800 = .ok (.iconst 2, 1) := by decide +kernel
theorem dL_act_801 : decode cL_act 801 = .ok (.invokestatic 11, 3) := by decide +kernel
theorem dL_act_804 : decode cL_act 804 = .ok (.istore 11, 2) := by decide +kernel
theorem dL_act_806 : decode cL_act 806 = .ok (.iconst 1, 1) := by decide +kernel
theorem dL_act_807 : decode cL_act 807 = .ok (.iload_n 2, 1) := by decide +kernel
theorem dL_act_808 : decode cL_act 808 = .ok (.iconst 2, 1) := by decide +kernel
theorem dL_act_809 : decode cL_act 809 = .ok (.ishr, 1) := by decide +kernel
theorem dL_act_810 : decode cL_act 810 = .ok (.bipush 99, 2) := by decide +kernel
theorem dL_act_812 : decode cL_act 812 = .ok (.invokestatic 11, 3) := by decide +kernel
theorem dL_act_815 : decode cL_act 815 = .ok (.iadd, 1) := by decide +kernel
theorem dL_act_816 : decode cL_act 816 = .ok (.istore 12, 2) := by decide +kernel
theorem dL_act_818 : decode cL_act 818 = .ok (.aload_n 1, 1) := by decide +kernel
theorem dL_act_819 : decode cL_act 819 = .ok (.getfield 67, 3) := by decide +kernel
theorem dL_act_822 : decode cL_act 822 = .ok (.iload 11, 2) := by decide +kernel
theorem dL_act_824 : decode cL_act 824 = .ok (.dup2, 1) := by decide +kernel
theorem dL_act_825 : decode cL_act 825 = .ok (.iaload, 1) := by decide +kernel
theorem dL_act_826 : decode cL_act 826 = .ok (.iload 12, 2) := by decide +kernel
theorem dL_act_828 : decode cL_act 828 = .ok (.iadd, 1) := by decide +kernel
theorem dL_act_829 : decode cL_act 829 = .ok (.iastore, 1) := by decide +kernel
theorem dL_act_830 : decode cL_act 830 = .ok (.aload_n 0, 1) := by decide +kernel
theorem dL_act_831 : decode cL_act 831 = .ok (.iload 11, 2) := by decide +kernel
theorem dL_act_833 : decode cL_act 833 = .ok (.iload 12, 2) := by decide +kernel
theorem dL_act_835 : decode cL_act 835 = .ok (.invokevirtual 73, 3) := by decide +kernel
theorem dL_act_838 : decode cL_act 838 = .ok (.aload_n 1, 1) := by decide +kernel
theorem dL_act_839 : decode cL_act 839 = .ok (.getfield 67, 3) := by decide +kernel
theorem dL_act_842 : decode cL_act 842 = .ok (.iload 11, 2) := by decide +kernel
theorem dL_act_844 : decode cL_act 844 = .ok (.iaload, 1) := by decide +kernel
theorem dL_act_845 : decode cL_act 845 = .ok (.if_icmp .ne 7, 3) := by decide +kernel
theorem dL_act_848 : decode cL_act 848 = .ok (.iconst 1, 1) := by decide +kernel
theorem dL_act_849 : decode cL_act 849 = .ok (.goto 4, 3) := by decide +kernel
theorem dL_act_852 : decode cL_act 852 = .ok (.iconst 0, 1) := by decide +kernel
theorem dL_act_853 : decode cL_act 853 = .ok (.ireturn, 1) := by decide +kernel
theorem dL_act_854 : decode cL_act 854 = .ok (.aload_n 1, 1) := by decide +kernel
theorem dL_act_855 : decode cL_act 855 = .ok (.getfield 32, 3) := by decide +kernel
theorem dL_act_858 : decode cL_act 858 = .ok (.arraylength, 1) := by decide +kernel
theorem dL_act_859 : decode cL_act 859 = .ok (.ifCond .ne 5, 3) := by decide +kernel
theorem dL_act_862 : decode cL_act 862 = .ok (.iconst 1, 1) := by decide +kernel
theorem dL_act_863 : decode cL_act 863 = .ok (.ireturn, 1) := by decide +kernel
theorem dL_act_864 : decode cL_act 864 = .ok (.aload_n 1, 1) := by decide +kernel
theorem dL_act_865 : decode cL_act 865 = .ok (.getfield 32, 3) := by decide +kernel
theorem dL_act_868 : decode cL_act 868 = .ok (.iload_n 2, 1) := by decide +kernel
theorem dL_act_869 : decode cL_act 869 = .ok (.iconst 1, 1) := by decide +kernel
theorem dL_act_870 : decode cL_act 870 = .ok (.ishr, 1) := by decide +kernel
theorem dL_act_871 : decode cL_act 871 = .ok (.aload_n 1, 1) := by decide +kernel
theorem dL_act_872 : decode cL_act 872 = .ok (.getfield 32, 3) := by decide +kernel
theorem dL_act_875 : decode cL_act 875 = .ok (.arraylength, 1) := by decide +kernel
theorem dL_act_876 : decode cL_act 876 = .ok (.invokestatic 11, 3) := by decide +kernel
theorem dL_act_879 : decode cL_act 879 = .ok (.aaload, 1) := by decide +kernel
theorem dL_act_880 : decode cL_act 880 = .ok (.astore 13, 2) := by decide +kernel
theorem dL_act_882 : decode cL_act 882 = .ok (.iload_n 2, 1) := by decide +kernel
theorem dL_act_883 : decode cL_act 883 = .ok (.iconst 2, 1) := by decide +kernel
theorem dL_act_884 : decode cL_act 884 = .ok (.ishr, 1) := by decide +kernel
theorem dL_act_885 : decode cL_act 885 = .ok (.iconst 2, 1) := by decide +kernel
theorem dL_act_886 : decode cL_act 886 = .ok (.invokestatic 11, 3) := by decide +kernel
theorem dL_act_889 : decode cL_act 889 = .ok (.istore 14, 2) := by decide +kernel
theorem dL_act_891 : decode cL_act 891 = .ok (.iconst 1, 1) := by decide +kernel
theorem dL_act_892 : decode cL_act 892 = .ok (.iload_n 2, 1) := by decide +kernel
theorem dL_act_893 : decode cL_act 893 = .ok (.iconst 3, 1) := by decide +kernel
theorem dL_act_894 : decode cL_act 894 = .ok (.ishr, 1) := by decide +kernel
theorem dL_act_895 : decode cL_act 895 = .ok (.aload 13, 2) := by decide +kernel
theorem dL_act_897 : decode cL_act 897 = .ok (.iconst 0, 1) := by decide +kernel
theorem dL_act_898 : decode cL_act 898 = .ok (.iaload, 1) := by decide +kernel
theorem dL_act_899 : decode cL_act 899 = .ok (.invokestatic 11, 3) := by decide +kernel
theorem dL_act_902 : decode cL_act 902 = .ok (.iadd, 1) := by decide +kernel
theorem dL_act_903 : decode cL_act 903 = .ok (.istore 15, 2) := by decide +kernel
theorem dL_act_905 : decode cL_act 905 = .ok (.aload 13, 2) := by decide +kernel
theorem dL_act_907 : decode cL_act 907 = .ok (.iconst 2, 1) := by decide +kernel
theorem dL_act_908 : decode cL_act 908 = .ok (.iaload, 1) := by decide +kernel
theorem dL_act_909 : decode cL_act 909 = .ok (.ifCond .ge 15, 3) := by decide +kernel
theorem dL_act_912 : decode cL_act 912 = .ok (.aload_n 1, 1) := by decide +kernel
theorem dL_act_913 : decode cL_act 913 = .ok (.getfield 67, 3) := by decide +kernel
theorem dL_act_916 : decode cL_act 916 = .ok (.iload 14, 2) := by decide +kernel
theorem dL_act_918 : decode cL_act 918 = .ok (.iaload, 1) := by decide +kernel
theorem dL_act_919 : decode cL_act 919 = .ok (.iload 15, 2) := by decide +kernel
theorem dL_act_921 : decode cL_act 921 = .ok (.if_icmp .ge 5, 3) := by decide +kernel
theorem dL_act_924 : decode cL_act 924 = .ok (.iconst 1, 1) := by decide +kernel
theorem dL_act_925 : decode cL_act 925 = .ok (.ireturn, 1) := by decide +kernel
theorem dL_act_926 : decode cL_act 926 = .ok (.aload 13, 2) := by decide +kernel
theorem dL_act_928 : decode cL_act 928 = .ok (.iconst 2, 1) := by decide +kernel
theorem dL_act_929 : decode cL_act 929 = .ok (.iload 14, 2) := by decide +kernel
theorem dL_act_931 : decode cL_act 931 = .ok (.iastore, 1) := by decide +kernel
theorem dL_act_932 : decode cL_act 932 = .ok (.aload 13, 2) := by decide +kernel
theorem dL_act_934 : decode cL_act 934 = .ok (.iconst 3, 1) := by decide +kernel
theorem dL_act_935 : decode cL_act 935 = .ok (.iload 15, 2) := by decide +kernel
theorem dL_act_937 : decode cL_act 937 = .ok (.iastore, 1) := by decide +kernel
theorem dL_act_938 : decode cL_act 938 = .ok (.aload 13, 2) := by decide +kernel
theorem dL_act_940 : decode cL_act 940 = .ok (.iconst 4, 1) := by decide +kernel
theorem dL_act_941 : decode cL_act 941 = .ok (.iconst 0, 1) := by decide +kernel
theorem dL_act_942 : decode cL_act 942 = .ok (.iastore, 1) := by decide +kernel
theorem dL_act_943 : decode cL_act 943 = .ok (.aload_n 1, 1) := by decide +kernel
theorem dL_act_944 : decode cL_act 944 = .ok (.getfield 67, 3) := by decide +kernel
theorem dL_act_947 : decode cL_act 947 = .ok (.iload 14, 2) := by decide +kernel
theorem dL_act_949 : decode cL_act 949 = .ok (.dup2, 1) := by decide +kernel
theorem dL_act_950 : decode cL_act 950 = .ok (.iaload, 1) := by decide +kernel
theorem dL_act_951 : decode cL_act 951 = .ok (.iload 15, 2) := by decide +kernel
theorem dL_act_953 : decode cL_act 953 = .ok (.isub, 1) := by decide +kernel
theorem dL_act_954 : decode cL_act 954 = .ok (.iastore, 1) := by decide +kernel
theorem dL_act_955 : decode cL_act 955 = .ok (.aload_n 0, 1) := by decide +kernel
theorem dL_act_956 : decode cL_act 956 = .ok (.iload_n 2, 1) := by decide +kernel
theorem dL_act_957 : decode cL_act 957 = .ok (.iconst 1, 1) := by decide +kernel
theorem dL_act_958 : decode cL_act 958 = .ok (.ishr, 1) := by decide +kernel
theorem dL_act_959 : decode cL_act 959 = .ok (.aload_n 1, 1) := by decide +kernel
theorem dL_act_960 : decode cL_act 960 = .ok (.getfield 32, 3) := by decide +kernel
theorem dL_act_963 : decode cL_act 963 = .ok (.arraylength, 1) := by decide +kernel
theorem dL_act_964 : decode cL_act 964 = .ok (.invokestatic 11, 3) := by decide +kernel
theorem dL_act_967 : decode cL_act 967 = .ok (.iload 14, 2) := by decide +kernel
theorem dL_act_969 : decode cL_act 969 = .ok (.iload 15, 2) := by decide +kernel
theorem dL_act_971 : decode cL_act 971 = .ok (.invokevirtual 76, 3) := by decide +kernel
theorem dL_act_974 : decode cL_act 974 = .ok (.aload_n 1, 1) := by decide +kernel
theorem dL_act_975 : decode cL_act 975 = .ok (.getfield 67, 3) := by decide +kernel
theorem dL_act_978 : decode cL_act 978 = .ok (.iload 14, 2) := by decide +kernel
theorem dL_act_980 : decode cL_act 980 = .ok (.iaload, 1) := by decide +kernel
theorem dL_act_981 : decode cL_act 981 = .ok (.if_icmp .ne 7, 3) := by decide +kernel
theorem dL_act_984 : decode cL_act 984 = .ok (.iconst 1, 1) := by decide +kernel
theorem dL_act_985 : decode cL_act 985 = .ok (.goto 4, 3) := by decide +kernel
theorem dL_act_988 : decode cL_act 988 = .ok (.iconst 0, 1) := by decide +kernel
theorem dL_act_989 : decode cL_act 989 = .ok (.ireturn, 1) := by decide +kernel
theorem dL_act_990 : decode cL_act 990 = .ok (.aload_n 1, 1) := by decide +kernel
theorem dL_act_991 : decode cL_act 991 = .ok (.getfield 32, 3) := by decide +kernel
theorem dL_act_994 : decode cL_act 994 = .ok (.arraylength, 1) := by decide +kernel
theorem dL_act_995 : decode cL_act 995 = .ok (.ifCond .ne 5, 3) := by decide +kernel
theorem dL_act_998 : decode cL_act 998 = .ok (.iconst 1, 1) := by decide +kernel
theorem dL_act_999 : decode cL_act 999 = .ok (.ireturn, 1) := by decide +kernel
theorem dL_act_1000 : decode cL_act 1000 = .ok (.iload_n 2, 1) := by decide +kernel
theorem dL_act_1001 : decode cL_act 1001 = .ok (.iconst 1, 1) := by decide +kernel
theorem dL_act_1002 : decode cL_act 1002 = .ok (.ishr, 1) := by decide +kernel
theorem dL_act_1003 : decode cL_act 1003 = .ok (.aload_n 1, 1) := by decide +kernel
theorem dL_act_1004 : decode cL_act 1004 = .ok (.getfield 32, 3) := by decide +kernel
theorem dL_act_1007 : decode cL_act 1007 = .ok (.arraylength, 1) := by decide +kernel
theorem dL_act_1008 : decode cL_act 1008 = .ok (.invokestatic 11, 3) := by decide +kernel
theorem dL_act_1011 : decode cL_act 1011 = .ok (.istore 16, 2) := by decide +kernel
theorem dL_act_1013 : decode cL_act 1013 = .ok (.aload_n 1, 1) := by decide +kernel
theorem dL_act_1014 : decode cL_act 1014 = .ok (.getfield 32, 3) := by decide +kernel
theorem dL_act_1017 : decode cL_act 1017 = .ok (.iload 16, 2) := by decide +kernel
theorem dL_act_1019 : decode cL_act 1019 = .ok (.aaload, 1) := by decide +kernel
theorem dL_act_1020 : decode cL_act 1020 = .ok (.iconst 2, 1) := by decide +kernel
theorem dL_act_1021 : decode cL_act 1021 = .ok (.iaload, 1) := by decide +kernel
theorem dL_act_1022 : decode cL_act 1022 = .ok (.ifCond .lt 24, 3) := by decide +kernel
theorem dL_act_1025 : decode cL_act 1025 = .ok (.aload_n 1, 1) := by decide +kernel
theorem dL_act_1026 : decode cL_act 1026 = .ok (.getfield 32, 3) := by decide +kernel
theorem dL_act_1029 : decode cL_act 1029 = .ok (.iload 16, 2) := by decide +kernel
theorem dL_act_1031 : decode cL_act 1031 = .ok (.aaload, 1) := by decide +kernel
theorem dL_act_1032 : decode cL_act 1032 = .ok (.invokestatic 80, 3) := by decide +kernel
theorem dL_act_1035 : decode cL_act 1035 = .ok (.ifCond .ne 13, 3) := by decide +kernel
theorem dL_act_1038 : decode cL_act 1038 = .ok (.iload_n 2, 1) := by decide +kernel
theorem dL_act_1039 : decode cL_act 1039 = .ok (.iconst 4, 1) := by decide +kernel
theorem dL_act_1040 : decode cL_act 1040 = .ok (.invokestatic 11, 3) := by decide +kernel
theorem dL_act_1043 : decode cL_act 1043 = .ok (.ifCond .le 5, 3) := by decide +kernel
theorem dL_act_1046 : decode cL_act 1046 = .ok (.iconst 1, 1) := by decide +kernel
theorem dL_act_1047 : decode cL_act 1047 = .ok (.ireturn, 1) := by decide +kernel
theorem dL_act_1048 : decode cL_act 1048 = .ok (.aload_n 1, 1) := by decide +kernel
theorem dL_act_1049 : decode cL_act 1049 = .ok (.getfield 32, 3) := by decide +kernel
theorem dL_act_1052 : decode cL_act 1052 = .ok (.iload 16, 2) := by decide +kernel
theorem dL_act_1054 : decode cL_act 1054 = .ok (.aaload, 1) := by decide +kernel
theorem dL_act_1055 : decode cL_act 1055 = .ok (.invokestatic 80, 3) := by decide +kernel
theorem dL_act_1058 : decode cL_act 1058 = .ok (.istore 17, 2) := by decide +kernel
theorem dL_act_1060 : decode cL_act 1060 = .ok (.aload_n 1, 1) := by decide +kernel
theorem dL_act_1061 : decode cL_act 1061 = .ok (.getfield 84, 3) := by decide +kernel
theorem dL_act_1064 : decode cL_act 1064 = .ok (.aload_n 1, 1) := by decide +kernel
theorem dL_act_1065 : decode cL_act 1065 = .ok (.getfield 32, 3) := by decide +kernel
theorem dL_act_1068 : decode cL_act 1068 = .ok (.iload 16, 2) := by decide +kernel
theorem dL_act_1070 : decode cL_act 1070 = .ok (.aaload, 1) := by decide +kernel
theorem dL_act_1071 : decode cL_act 1071 = .ok (.iconst 2, 1) := by decide +kernel
theorem dL_act_1072 : decode cL_act 1072 = .ok (.iaload, 1) := by decide +kernel
theorem dL_act_1073 : decode cL_act 1073 = .ok (.dup2, 1) := by decide +kernel
theorem dL_act_1074 : decode cL_act 1074 = .ok (.iaload, 1) := by decide +kernel
theorem dL_act_1075 : decode cL_act 1075 = .ok (.iload 17, 2) := by decide +kernel
theorem dL_act_1077 : decode cL_act 1077 = .ok (.iadd, 1) := by decide +kernel
theorem dL_act_1078 : decode cL_act 1078 = .ok (.iastore, 1) := by decide +kernel
theorem dL_act_1079 : decode cL_act 1079 = .ok (.aload_n 1, 1) := by decide +kernel
theorem dL_act_1080 : decode cL_act 1080 = .ok (.getfield 32, 3) := by decide +kernel
theorem dL_act_1083 : decode cL_act 1083 = .ok (.iload 16, 2) := by decide +kernel
theorem dL_act_1085 : decode cL_act 1085 = .ok (.aaload, 1) := by decide +kernel
theorem dL_act_1086 : decode cL_act 1086 = .ok (.iconst 2, 1) := by decide +kernel
theorem dL_act_1087 : decode cL_act 1087 = .ok (.iconst (-1), 1) := by decide +kernel
theorem dL_act_1088 : decode cL_act 1088 = .ok (.iastore, 1) := by decide +kernel
theorem dL_act_1089 : decode cL_act 1089 = .ok (.aload_n 1, 1) := by decide +kernel
theorem dL_act_1090 : decode cL_act 1090 = .ok (.getfield 32, 3) := by decide +kernel
theorem dL_act_1093 : decode cL_act 1093 = .ok (.iload 16, 2) := by decide +kernel
theorem dL_act_1095 : decode cL_act 1095 = .ok (.aaload, 1) := by decide +kernel
theorem dL_act_1096 : decode cL_act 1096 = .ok (.iconst 3, 1) := by decide +kernel
theorem dL_act_1097 : decode cL_act 1097 = .ok (.iconst 0, 1) := by decide +kernel
theorem dL_act_1098 : decode cL_act 1098 = .ok (.iastore, 1) := by decide +kernel
theorem dL_act_1099 : decode cL_act 1099 = .ok (.aload_n 1, 1) := by decide +kernel
theorem dL_act_1100 : decode cL_act 1100 = .ok (.getfield 32, 3) := by decide +kernel
theorem dL_act_1103 : decode cL_act 1103 = .ok (.iload 16, 2) := by decide +kernel
theorem dL_act_1105 : decode cL_act 1105 = .ok (.aaload, 1) := by decide +kernel
theorem dL_act_1106 : decode cL_act 1106 = .ok (.iconst 4, 1) := by decide +kernel
theorem dL_act_1107 : decode cL_act 1107 = .ok (.iconst 0, 1) := by decide +kernel
theorem dL_act_1108 : decode cL_act 1108 = .ok (.iastore, 1) := by decide +kernel
theorem dL_act_1109 : decode cL_act 1109 = .ok (.aload_n 0, 1) := by decide +kernel
theorem dL_act_1110 : decode cL_act 1110 = .ok (.iload 16, 2) := by decide +kernel
theorem dL_act_1112 : decode cL_act 1112 = .ok (.invokevirtual 87, 3) := by decide +kernel
theorem dL_act_1115 : decode cL_act 1115 = .ok (.iload 17, 2) := by decide +kernel
theorem dL_act_1117 : decode cL_act 1117 = .ok (.if_icmp .ne 7, 3) := by decide +kernel
theorem dL_act_1120 : decode cL_act 1120 = .ok (.iconst 1, 1) := by decide +kernel
theorem dL_act_1121 : decode cL_act 1121 = .ok (.goto 4, 3) := by decide +kernel
theorem dL_act_1124 : decode cL_act 1124 = .ok (.iconst 0, 1) := by decide +kernel
theorem dL_act_1125 : decode cL_act 1125 = .ok (.ireturn, 1) := by decide +kernel
theorem dL_act_1126 : decode cL_act 1126 = .ok (.aload_n 1, 1) := by decide +kernel
theorem dL_act_1127 : decode cL_act 1127 = .ok (.getfield 38, 3) := by decide +kernel
theorem dL_act_1130 : decode cL_act 1130 = .ok (.arraylength, 1) := by decide +kernel
theorem dL_act_1131 : decode cL_act 1131 = .ok (.ifCond .ne 5, 3) := by decide +kernel
theorem dL_act_1134 : decode cL_act 1134 = .ok (.iconst 1, 1) := by decide +kernel
theorem dL_act_1135 : decode cL_act 1135 = .ok (.ireturn, 1) := by decide +kernel
theorem dL_act_1136 : decode cL_act 1136 = .ok (.aload_n 1, 1) := by decide +kernel
theorem dL_act_1137 : decode cL_act 1137 = .ok (.getfield 38, 3) := by decide +kernel
theorem dL_act_1140 : decode cL_act 1140 = .ok (.iload_n 2, 1) := by decide +kernel
theorem dL_act_1141 : decode cL_act 1141 = .ok (.iconst 1, 1) := by decide +kernel
theorem dL_act_1142 : decode cL_act 1142 = .ok (.ishr, 1) := by decide +kernel
theorem dL_act_1143 : decode cL_act 1143 = .ok (.aload_n 1, 1) := by decide +kernel
theorem dL_act_1144 : decode cL_act 1144 = .ok (.getfield 38, 3) := by decide +kernel
theorem dL_act_1147 : decode cL_act 1147 = .ok (.arraylength, 1) := by decide +kernel
theorem dL_act_1148 : decode cL_act 1148 = .ok (.invokestatic 11, 3) := by decide +kernel
theorem dL_act_1151 : decode cL_act 1151 = .ok (.aaload, 1) := by decide +kernel
theorem dL_act_1152 : decode cL_act 1152 = .ok (.astore 18, 2) := by decide +kernel
theorem dL_act_1154 : decode cL_act 1154 = .ok (.aload 18, 2) := by decide +kernel
theorem dL_act_1156 : decode cL_act 1156 = .ok (.iconst 2, 1) := by decide +kernel
theorem dL_act_1157 : decode cL_act 1157 = .ok (.iaload, 1) := by decide +kernel
theorem dL_act_1158 : decode cL_act 1158 = .ok (.ifCond .eq 5, 3) := by decide +kernel
theorem dL_act_1161 : decode cL_act 1161 = .ok (.iconst 1, 1) := by decide +kernel
theorem dL_act_1162 : decode cL_act 1162 = .ok (.ireturn, 1) := by decide +kernel
theorem dL_act_1163 : decode cL_act 1163 = .ok (.aload 18, 2) := by decide +kernel
theorem dL_act_1165 : decode cL_act 1165 = .ok (.iconst 2, 1) := by decide +kernel
theorem dL_act_1166 : decode cL_act 1166 = .ok (.iconst 1, 1) := by decide +kernel
theorem dL_act_1167 : decode cL_act 1167 = .ok (.iastore, 1) := by decide +kernel
theorem dL_act_1168 : decode cL_act 1168 = .ok (.aload 18, 2) := by decide +kernel
theorem dL_act_1170 : decode cL_act 1170 = .ok (.iconst 3, 1) := by decide +kernel
theorem dL_act_1171 : decode cL_act 1171 = .ok (.aload 18, 2) := by decide +kernel
theorem dL_act_1173 : decode cL_act 1173 = .ok (.iconst 0, 1) := by decide +kernel
theorem dL_act_1174 : decode cL_act 1174 = .ok (.iaload, 1) := by decide +kernel
theorem dL_act_1175 : decode cL_act 1175 = .ok (.iastore, 1) := by decide +kernel
theorem dL_act_1176 : decode cL_act 1176 = .ok (.aload_n 0, 1) := by decide +kernel
theorem dL_act_1177 : decode cL_act 1177 = .ok (.iload_n 2, 1) := by decide +kernel
theorem dL_act_1178 : decode cL_act 1178 = .ok (.iconst 1, 1) := by decide +kernel
theorem dL_act_1179 : decode cL_act 1179 = .ok (.ishr, 1) := by decide +kernel
theorem dL_act_1180 : decode cL_act 1180 = .ok (.aload_n 1, 1) := by decide +kernel
theorem dL_act_1181 : decode cL_act 1181 = .ok (.getfield 38, 3) := by decide +kernel
theorem dL_act_1184 : decode cL_act 1184 = .ok (.arraylength, 1) := by decide +kernel
theorem dL_act_1185 : decode cL_act 1185 = .ok (.invokestatic 11, 3) := by decide +kernel
theorem dL_act_1188 : decode cL_act 1188 = .ok (.invokevirtual 90, 3) := by decide +kernel
theorem dL_act_1191 : decode cL_act 1191 = .ok (.aload 18, 2) := by decide +kernel
theorem dL_act_1193 : decode cL_act 1193 = .ok (.iconst 0, 1) := by decide +kernel
theorem dL_act_1194 : decode cL_act 1194 = .ok (.iaload, 1) := by decide +kernel
theorem dL_act_1195 : decode cL_act 1195 = .ok (.if_icmp .ne 7, 3) := by decide +kernel
theorem dL_act_1198 : decode cL_act 1198 = .ok (.iconst 1, 1) := by decide +kernel
theorem dL_act_1199 : decode cL_act 1199 = .ok (.goto 4, 3) := by decide +kernel
theorem dL_act_1202 : decode cL_act 1202 = .ok (.iconst 0, 1) := by decide +kernel
theorem dL_act_1203 : decode cL_act 1203 = .ok (.ireturn, 1) := by decide +kernel
theorem dL_act_1204 : decode cL_act 1204 = .ok (.iconst 1, 1) := by decide +kernel
theorem dL_act_1205 : decode cL_act 1205 = .ok (.iload_n 2, 1) := by decide +kernel
theorem dL_act_1206 : decode cL_act 1206 = .ok (.iconst 2, 1) := by decide +kernel
theorem dL_act_1207 : decode cL_act 1207 = .ok (.ishr, 1) := by decide +kernel
theorem dL_act_1208 : decode cL_act 1208 = .ok (.iconst 4, 1) := by decide +kernel
theorem dL_act_1209 : decode cL_act 1209 = .ok (.invokestatic 11, 3) := by decide +kernel
theorem dL_act_1212 : decode cL_act 1212 = .ok (.iadd, 1) := by decide +kernel
theorem dL_act_1213 : decode cL_act 1213 = .ok (.istore 19, 2) := by decide +kernel
theorem dL_act_1215 : decode cL_act 1215 = .ok (.aload_n 1, 1) := by decide +kernel
theorem dL_act_1216 : decode cL_act 1216 = .ok (.getfield 93, 3) := by decide +kernel
theorem dL_act_1219 : decode cL_act 1219 = .ok (.istore 20, 2) := by decide +kernel
theorem dL_act_1221 : decode cL_act 1221 = .ok (.aload_n 1, 1) := by decide +kernel
theorem dL_act_1222 : decode cL_act 1222 = .ok (.iload 19, 2) := by decide +kernel
theorem dL_act_1224 : decode cL_act 1224 = .ok (.invokevirtual 96, 3) := by decide +kernel
theorem dL_act_1227 : decode cL_act 1227 = .ok (.pop, 1) := by decide +kernel
theorem dL_act_1228 : decode cL_act 1228 = .ok (.aload_n 0, 1) := by decide +kernel
theorem dL_act_1229 : decode cL_act 1229 = .ok (.iload 19, 2) := by decide +kernel
theorem dL_act_1231 : decode cL_act 1231 = .ok (.invokevirtual 100, 3) := by decide +kernel
theorem dL_act_1234 : decode cL_act 1234 = .ok (.aload_n 1, 1) := by decide +kernel
theorem dL_act_1235 : decode cL_act 1235 = .ok (.getfield 93, 3) := by decide +kernel
theorem dL_act_1238 : decode cL_act 1238 = .ok (.iload 20, 2) := by decide +kernel
theorem dL_act_1240 : decode cL_act 1240 = .ok (.isub, 1) := by decide +kernel
theorem dL_act_1241 : decode cL_act 1241 = .ok (.if_icmp .ne 7, 3) := by decide +kernel
theorem dL_act_1244 : decode cL_act 1244 = .ok (.iconst 1, 1) := by decide +kernel
theorem dL_act_1245 : decode cL_act 1245 = .ok (.goto 4, 3) := by decide +kernel
theorem dL_act_1248 : decode cL_act 1248 = .ok (.iconst 0, 1) := by decide +kernel
theorem dL_act_1249 : decode cL_act 1249 = .ok (.ireturn, 1) := by decide +kernel
end
section
set_option maxRecDepth 20000 in
theorem ggL_build_X8_init : GoodIn wsL_build wsX8_init := goodIn_r _ [5, 6, 7, 8, 9, 10, 11, 12, 13, 14, 15, 16, 17, 317, 318, 319, 320, 321, 322, 323, 324, 325, 326, 327] (by decide +kernel) (by decide +kernel)
set_option maxRecDepth 20000 in
theorem gL_build_X8_init_n103 : GoodIn wsL_build (wsX8_init) := ggL_build_X8_init
set_option maxRecDepth 20000 in
theorem ggL_build_L_cell : GoodIn wsL_build wsL_cell := goodIn_r _ [21, 22] (by decide +kernel) (by decide +kernel)
set_option maxRecDepth 20000 in
theorem gL_build_L_cell : GoodIn wsL_build (va_wsS RL 104 yL_cell wsL_cell) := goodIn_app (goodIn_of _ (by decide +kernel)) ggL_build_L_cell
set_option maxRecDepth 20000 in
theorem ggL_build_L_below : GoodIn wsL_build wsL_below := goodIn_r _ [25, 26] (by decide +kernel) (by decide +kernel)
set_option maxRecDepth 20000 in
theorem gL_build_L_below : GoodIn wsL_build (va_wsS RL 11 yL_below wsL_below) := goodIn_app (goodIn_of _ (by decide +kernel)) ggL_build_L_below
set_option maxRecDepth 20000 in
theorem ggL_build_L_act_h : GoodIn wsL_build [.code yL_act cL_act 21 (some .boolean)] := goodIn_r _ [29] (by decide +kernel) (by decide +kernel)
set_option maxRecDepth 20000 in
theorem ggL_build_L_act_r1 : GoodIn wsL_build wsL_act_r1 := goodIn_r _ [30, 9, 31, 32, 33, 34, 35, 36, 37, 38, 23, 24, 20, 25, 26, 39, 40, 41, 42, 43, 44, 45, 46, 47] (by decide +kernel) (by decide +kernel)
set_option maxRecDepth 20000 in
theorem ggL_build_L_act_r2 : GoodIn wsL_build wsL_act_r2 := goodIn_r _ [48, 49, 50, 51, 52, 53, 54, 55, 56, 57, 58, 59, 60, 61, 62, 63, 64, 65, 66, 67, 68, 69, 70, 71] (by decide +kernel) (by decide +kernel)
set_option maxRecDepth 20000 in
theorem ggL_build_L_act_r3 : GoodIn wsL_build wsL_act_r3 := goodIn_r _ [72, 73, 74, 75, 76, 77, 78, 79, 80, 81, 82, 83, 84, 85, 86, 87, 88, 89, 90, 91, 92, 93, 94, 95] (by decide +kernel) (by decide +kernel)
set_option maxRecDepth 20000 in
theorem ggL_build_L_act_r4 : GoodIn wsL_build wsL_act_r4 := goodIn_r _ [96, 97, 98, 99, 100, 101, 102, 103, 104, 105, 106, 107, 108, 109, 110, 111, 112, 113, 114, 115, 116, 117, 118, 119] (by decide +kernel) (by decide +kernel)
set_option maxRecDepth 20000 in
theorem ggL_build_L_act_r5 : GoodIn wsL_build wsL_act_r5 := goodIn_r _ [120, 121, 122, 123, 124, 125, 126, 127, 128, 129, 130, 131, 132, 133, 134, 135, 136, 137, 138, 139, 140, 141, 142, 143] (by decide +kernel) (by decide +kernel)
set_option maxRecDepth 20000 in
theorem ggL_build_L_act_r6 : GoodIn wsL_build wsL_act_r6 := goodIn_r _ [144, 145, 146, 147, 148, 149, 150, 151, 152, 153, 154, 155, 156, 157, 158, 159, 160, 161, 162, 163, 3, 164, 165, 166] (by decide +kernel) (by decide +kernel)
set_option maxRecDepth 20000 in
theorem ggL_build_L_act_r7 : GoodIn wsL_build wsL_act_r7 := goodIn_r _ [167, 168, 169, 170, 171, 172, 173, 174, 175, 176, 177, 178, 179, 180, 181, 182, 183, 184, 185, 186, 187, 188, 189, 190] (by decide +kernel) (by decide +kernel)
set_option maxRecDepth 20000 in
theorem ggL_build_L_act_r8 : GoodIn wsL_build wsL_act_r8 := goodIn_r _ [191, 192, 193, 194, 195, 196, 197, 198, 199, 200, 201, 202, 203, 204, 205, 206, 207, 208, 209, 210, 16, 211, 10, 15] (by decide +kernel) (by decide +kernel)
set_option maxRecDepth 20000 in
theorem ggL_build_L_act_r9 : GoodIn wsL_build wsL_act_r9 := goodIn_r _ [14, 17, 11, 12, 212, 213, 214, 215, 216, 217, 218, 219, 220, 221, 222, 223, 224, 225, 226, 227, 228, 229, 230, 231] (by decide +kernel) (by decide +kernel)
set_option maxRecDepth 20000 in
theorem ggL_build_L_act_r10 : GoodIn wsL_build wsL_act_r10 := goodIn_r _ [232, 233, 234, 235, 236, 237, 238, 239, 240, 241, 242, 243, 244, 245, 246, 247, 248, 249, 250, 251, 252, 253, 254, 255] (by decide +kernel) (by decide +kernel)
set_option maxRecDepth 20000 in
theorem ggL_build_L_act_r11 : GoodIn wsL_build wsL_act_r11 := goodIn_r _ [256, 257, 258, 259, 260, 261, 262, 263, 264, 265, 266, 267, 268, 269, 270, 271, 272, 273, 274, 275, 276, 277, 278, 279] (by decide +kernel) (by decide +kernel)
set_option maxRecDepth 20000 in
theorem ggL_build_L_act_r12 : GoodIn wsL_build wsL_act_r12 := goodIn_r _ [280, 281, 282, 283, 284, 285, 286, 287, 288, 289, 290, 291, 292, 293, 294, 295, 296, 297, 298, 299, 300, 301, 302, 303] (by decide +kernel) (by decide +kernel)
set_option maxRecDepth 20000 in
theorem ggL_build_L_act_r13 : GoodIn wsL_build wsL_act_r13 := goodIn_r _ [304, 305, 306, 307, 308, 309, 310, 311, 312, 313, 314, 315, 316] (by decide +kernel) (by decide +kernel)
theorem ggL_build_L_act_wsX80 : GoodIn wsL_build wsX80 := goodIn_sub (by decide +kernel) (by decide +kernel)
theorem ggL_build_L_act_wsX70 : GoodIn wsL_build wsX70 := goodIn_sub (by decide +kernel) (by decide +kernel)
theorem ggL_build_L_act_wsX60 : GoodIn wsL_build wsX60 := goodIn_sub (by decide +kernel) (by decide +kernel)
theorem ggL_build_L_act_wsX00 : GoodIn wsL_build wsX00 := goodIn_sub (by decide +kernel) (by decide +kernel)
theorem ggL_build_L_act_wsX20 : GoodIn wsL_build wsX20 := goodIn_sub (by decide +kernel) (by decide +kernel)
theorem ggL_build_L_act_wsX30 : GoodIn wsL_build wsX30 := goodIn_sub (by decide +kernel) (by decide +kernel)
theorem ggL_build_L_act_wsX10 : GoodIn wsL_build wsX10 := goodIn_sub (by decide +kernel) (by decide +kernel)
theorem ggL_build_L_act_wsX40 : GoodIn wsL_build wsX40 := goodIn_sub (by decide +kernel) (by decide +kernel)
theorem ggL_build_L_act : GoodIn wsL_build wsL_act := goodIn_cons ggL_build_L_act_h (goodIn_app (goodIn_app (goodIn_app (goodIn_app (goodIn_app (goodIn_app (goodIn_app (goodIn_app (goodIn_app (goodIn_app (goodIn_app (goodIn_app ggL_build_L_act_r1 (goodIn_app ggL_build_L_act_r2 (goodIn_app ggL_build_L_act_r3 (goodIn_app ggL_build_L_act_r4 (goodIn_app ggL_build_L_act_r5 (goodIn_app ggL_build_L_act_r6 (goodIn_app ggL_build_L_act_r7 (goodIn_app ggL_build_L_act_r8 (goodIn_app ggL_build_L_act_r9 (goodIn_app ggL_build_L_act_r10 (goodIn_app ggL_build_L_act_r11 (goodIn_app ggL_build_L_act_r12 (ggL_build_L_act_r13))))))))))))) ggL_build_L_act_wsX80) ggL_build_L_act_wsX70) ggL_build_L_act_wsX60) ggL_build_L_act_wsX00) ggL_build_L_act_wsX20) ggL_build_L_act_wsX30) ggL_build_L_act_wsX10) ggL_build_L_act_wsX40) (goodIn_sub (fun _ h => List.mem_cons_of_mem _ (List.mem_append_left _ (List.mem_append_left _ (List.mem_append_right _ h)))) (by decide +kernel))) (goodIn_sub (fun _ h => List.mem_cons_of_mem _ (List.mem_append_left _ (List.mem_append_right _ h))) (by decide +kernel))) (goodIn_sub (fun _ h => List.mem_cons_of_mem _ (List.mem_append_right _ h)) (by decide +kernel)))
set_option maxRecDepth 20000 in
theorem gL_build_L_act : GoodIn wsL_build (va_wsS RL 108 yL_act wsL_act) := goodIn_app (goodIn_of _ (by decide +kernel)) ggL_build_L_act
theorem dL_build_0 : decode cL_build 0 = .ok (.new 18, 3) := by decide +kernel
theorem dL_build_3 : decode cL_build 3 = .ok (.dup, 1) := by decide +kernel
theorem dL_build_4 : decode cL_build 4 = .ok (.invokespecial 103, 3) := by decide +kernel
theorem dL_build_7 : decode cL_build 7 = .ok (.astore_n 2, 1) := by decide +kernel
theorem dL_build_8 : decode cL_build 8 = .ok (.bipush 30, 2) := by decide +kernel
theorem dL_build_10 : decode cL_build 10 = .ok (.aload_n 1, 1) := by decide +kernel
theorem dL_build_11 : decode cL_build 11 = .ok (.iconst 0, 1) := by decide +kernel
theorem dL_build_12 : decode cL_build 12 = .ok (.invokestatic 104, 3) := by decide +kernel
theorem dL_build_15 : decode cL_build 15 = .ok (.bipush 60, 2) := by decide +kernel
theorem dL_build_17 : decode cL_build 17 = .ok (.invokestatic 11, 3) := by decide +kernel
theorem dL_build_20 : decode cL_build 20 = .ok (.iadd, 1) := by decide +kernel
theorem dL_build_21 : decode cL_build 21 = .ok (.istore_n 3, 1) := by decide +kernel
theorem dL_build_22 : decode cL_build 22 = .ok (.iconst 0, 1) := by decide +kernel
theorem dL_build_23 : decode cL_build 23 = .ok (.istore 4, 2) := by decide +kernel
theorem dL_build_25 : decode cL_build 25 = .ok (.iload 4, 2) := by decide +kernel
theorem dL_build_27 : decode cL_build 27 = .ok (.bipush 8, 2) := by decide +kernel
theorem dL_build_29 : decode cL_build 29 = .ok (.if_icmp .ge 44, 3) := by decide +kernel
theorem dL_build_32 : decode cL_build 32 = .ok (.aload_n 0, 1) := by decide +kernel
theorem dL_build_33 : decode cL_build 33 = .ok (.aload_n 2, 1) := by decide +kernel
theorem dL_build_34 : decode cL_build 34 = .ok (.aload_n 1, 1) := by decide +kernel
theorem dL_build_35 : decode cL_build 35 = .ok (.iload 4, 2) := by decide +kernel
theorem dL_build_37 : decode cL_build 37 = .ok (.invokestatic 104, 3) := by decide +kernel
theorem dL_build_40 : decode cL_build 40 = .ok (.sipush 255, 3) := by decide +kernel
theorem dL_build_43 : decode cL_build 43 = .ok (.iand, 1) := by decide +kernel
theorem dL_build_44 : decode cL_build 44 = .ok (.iload 4, 2) := by decide +kernel
theorem dL_build_46 : decode cL_build 46 = .ok (.iconst 4, 1) := by decide +kernel
theorem dL_build_47 : decode cL_build 47 = .ok (.irem, 1) := by decide +kernel
theorem dL_build_48 : decode cL_build 48 = .ok (.bipush 9, 2) := by decide +kernel
theorem dL_build_50 : decode cL_build 50 = .ok (.ishl, 1) := by decide +kernel
theorem dL_build_51 : decode cL_build 51 = .ok (.ior, 1) := by decide +kernel
theorem dL_build_52 : decode cL_build 52 = .ok (.sipush 11264, 3) := by decide +kernel
theorem dL_build_55 : decode cL_build 55 = .ok (.iload 4, 2) := by decide +kernel
theorem dL_build_57 : decode cL_build 57 = .ok (.imul, 1) := by decide +kernel
theorem dL_build_58 : decode cL_build 58 = .ok (.iadd, 1) := by decide +kernel
theorem dL_build_59 : decode cL_build 59 = .ok (.invokestatic 108, 3) := by decide +kernel
theorem dL_build_62 : decode cL_build 62 = .ok (.ifCond .ne 5, 3) := by decide +kernel
theorem dL_build_65 : decode cL_build 65 = .ok (.aconst_null, 1) := by decide +kernel
theorem dL_build_66 : decode cL_build 66 = .ok (.areturn, 1) := by decide +kernel
theorem dL_build_67 : decode cL_build 67 = .ok (.iinc 4 1, 3) := by decide +kernel
theorem dL_build_70 : decode cL_build 70 = .ok (.goto (-45), 3) := by decide +kernel
theorem dL_build_73 : decode cL_build 73 = .ok (.iconst 0, 1) := by decide +kernel
theorem dL_build_74 : decode cL_build 74 = .ok (.istore 4, 2) := by decide +kernel
theorem dL_build_76 : decode cL_build 76 = .ok (.iload 4, 2) := by decide +kernel
theorem dL_build_78 : decode cL_build 78 = .ok (.iload_n 3, 1) := by decide +kernel
theorem dL_build_79 : decode cL_build 79 = .ok (.if_icmp .ge 43, 3) := by decide +kernel
theorem dL_build_82 : decode cL_build 82 = .ok (.aload_n 0, 1) := by decide +kernel
theorem dL_build_83 : decode cL_build 83 = .ok (.aload_n 2, 1) := by decide +kernel
theorem dL_build_84 : decode cL_build 84 = .ok (.aload_n 1, 1) := by decide +kernel
theorem dL_build_85 : decode cL_build 85 = .ok (.iload 4, 2) := by decide +kernel
theorem dL_build_87 : decode cL_build 87 = .ok (.bipush 16, 2) := by decide +kernel
theorem dL_build_89 : decode cL_build 89 = .ok (.irem, 1) := by decide +kernel
theorem dL_build_90 : decode cL_build 90 = .ok (.invokestatic 104, 3) := by decide +kernel
theorem dL_build_93 : decode cL_build 93 = .ok (.iload 4, 2) := by decide +kernel
theorem dL_build_95 : decode cL_build 95 = .ok (.bipush 16, 2) := by decide +kernel
theorem dL_build_97 : decode cL_build 97 = .ok (.idiv, 1) := by decide +kernel
theorem dL_build_98 : decode cL_build 98 = .ok (.iconst 3, 1) := by decide +kernel
theorem dL_build_99 : decode cL_build 99 = .ok (.imul, 1) := by decide +kernel
theorem dL_build_100 : decode cL_build 100 = .ok (.ishr, 1) := by decide +kernel
theorem dL_build_101 : decode cL_build 101 = .ok (.sipush 433, 3) := by decide +kernel
theorem dL_build_104 : decode cL_build 104 = .ok (.iload 4, 2) := by decide +kernel
theorem dL_build_106 : decode cL_build 106 = .ok (.imul, 1) := by decide +kernel
theorem dL_build_107 : decode cL_build 107 = .ok (.iadd, 1) := by decide +kernel
theorem dL_build_108 : decode cL_build 108 = .ok (.invokestatic 108, 3) := by decide +kernel
theorem dL_build_111 : decode cL_build 111 = .ok (.ifCond .ne 5, 3) := by decide +kernel
theorem dL_build_114 : decode cL_build 114 = .ok (.aconst_null, 1) := by decide +kernel
theorem dL_build_115 : decode cL_build 115 = .ok (.areturn, 1) := by decide +kernel
theorem dL_build_116 : decode cL_build 116 = .ok (.iinc 4 1, 3) := by decide +kernel
theorem dL_build_119 : decode cL_build 119 = .ok (.goto (-43), 3) := by decide +kernel
theorem dL_build_122 : decode cL_build 122 = .ok (.aload_n 2, 1) := by decide +kernel
theorem dL_build_123 : decode cL_build 123 = .ok (.areturn, 1) := by decide +kernel
end
section
set_option maxRecDepth 20000 in
theorem ggL_law_X7_init : GoodIn wsL_law wsX7_init := goodIn_r _ [14, 15, 16, 17, 18, 19, 20, 21, 22, 23, 24, 25, 26, 27, 28, 29, 30, 31, 32, 33, 34, 35, 36, 37, 38, 39, 40, 41, 42, 43, 44, 45, 46, 47, 48, 49, 50, 51, 52, 53, 54, 55, 56, 57, 58, 59, 60, 61, 62, 454, 455, 456, 457, 458, 459, 460, 461, 462, 463, 464, 441, 442, 465, 466, 467, 468, 469, 470, 471, 472, 473, 474, 475, 476, 477, 478, 479, 480, 481, 482, 483, 484, 485, 486, 487, 488, 489] (by decide +kernel) (by decide +kernel)
set_option maxRecDepth 20000 in
theorem gL_law_X7_init : GoodIn wsL_law (wsX7_init) := ggL_law_X7_init
set_option maxRecDepth 20000 in
theorem ggL_law_L_build_h : GoodIn wsL_law [.code yL_build cL_build 5 (some (.object "ChicoryRoastersLaw$Sim"))] := goodIn_r _ [66] (by decide +kernel) (by decide +kernel)
set_option maxRecDepth 20000 in
theorem ggL_law_L_build_r1 : GoodIn wsL_law wsL_build_r1 := goodIn_r _ [67, 68, 69, 70, 71, 72, 16, 17, 73, 74, 75, 76, 77, 78, 79, 80, 81, 82, 83, 65, 84, 85, 86, 87] (by decide +kernel) (by decide +kernel)
set_option maxRecDepth 20000 in
theorem ggL_law_L_build_r2 : GoodIn wsL_law wsL_build_r2 := goodIn_r _ [88, 89, 90, 91, 92, 10, 3, 11, 5, 93, 94, 95, 4, 96, 97, 98, 99, 100, 101, 102, 103, 2, 104, 21] (by decide +kernel) (by decide +kernel)
set_option maxRecDepth 20000 in
theorem ggL_law_L_build_r3 : GoodIn wsL_law wsL_build_r3 := goodIn_r _ [105, 106, 107, 108, 109, 110, 111, 112, 113, 114, 115, 116, 117, 118, 119, 39, 120, 121, 122, 123, 124, 125, 126, 127] (by decide +kernel) (by decide +kernel)
set_option maxRecDepth 20000 in
theorem ggL_law_L_build_r4 : GoodIn wsL_law wsL_build_r4 := goodIn_r _ [128, 129, 130, 131, 41, 132, 133, 134, 135, 136, 137, 138, 139, 140, 141, 142, 143, 43, 144, 145, 146, 147, 148, 149] (by decide +kernel) (by decide +kernel)
set_option maxRecDepth 20000 in
theorem ggL_law_L_build_r5 : GoodIn wsL_law wsL_build_r5 := goodIn_r _ [150, 151, 152, 153, 154, 155, 45, 156, 157, 158, 159, 160, 161, 162, 163, 164, 165, 166, 167, 168, 169, 170, 171, 172] (by decide +kernel) (by decide +kernel)
set_option maxRecDepth 20000 in
theorem ggL_law_L_build_r6 : GoodIn wsL_law wsL_build_r6 := goodIn_r _ [173, 174, 175, 176, 177, 178, 179, 180, 181, 182, 183, 184, 185, 186, 187, 188, 36, 189, 190, 191, 192, 193, 194, 195] (by decide +kernel) (by decide +kernel)
set_option maxRecDepth 20000 in
theorem ggL_law_L_build_r7 : GoodIn wsL_law wsL_build_r7 := goodIn_r _ [196, 197, 198, 199, 200, 201, 202, 203, 204, 205, 206, 207, 208, 209, 58, 210, 211, 212, 213, 214, 215, 216, 217, 218] (by decide +kernel) (by decide +kernel)
set_option maxRecDepth 20000 in
theorem ggL_law_L_build_r8 : GoodIn wsL_law wsL_build_r8 := goodIn_r _ [219, 220, 221, 222, 223, 224, 225, 226, 227, 228, 229, 230, 231, 232, 233, 234, 235, 236, 237, 238, 239, 240, 241, 242] (by decide +kernel) (by decide +kernel)
set_option maxRecDepth 20000 in
theorem ggL_law_L_build_r9 : GoodIn wsL_law wsL_build_r9 := goodIn_r _ [243, 244, 245, 246, 247, 248, 249, 250, 251, 252, 253, 254, 255, 256, 257, 258, 259, 260, 261, 262, 263, 264, 265, 266] (by decide +kernel) (by decide +kernel)
set_option maxRecDepth 20000 in
theorem ggL_law_L_build_r10 : GoodIn wsL_law wsL_build_r10 := goodIn_r _ [267, 268, 269, 270, 271, 272, 273, 274, 275, 20, 276, 277, 278, 279, 280, 281, 282, 37, 31, 283, 284, 285, 286, 287] (by decide +kernel) (by decide +kernel)
set_option maxRecDepth 20000 in
theorem ggL_law_L_build_r11 : GoodIn wsL_law wsL_build_r11 := goodIn_r _ [288, 289, 290, 291, 292, 293, 294, 295, 296, 297, 298, 299, 300, 301, 302, 29, 303, 304, 305, 306, 307, 308, 309, 310] (by decide +kernel) (by decide +kernel)
set_option maxRecDepth 20000 in
theorem ggL_law_L_build_r12 : GoodIn wsL_law wsL_build_r12 := goodIn_r _ [311, 7, 8, 9, 312, 313, 314, 315, 316, 27, 317, 318, 319, 320, 321, 322, 323, 324, 325, 326, 327, 33, 328, 329] (by decide +kernel) (by decide +kernel)
set_option maxRecDepth 20000 in
theorem ggL_law_L_build_r13 : GoodIn wsL_law wsL_build_r13 := goodIn_r _ [330, 331, 332, 333, 334, 335, 336, 337, 338, 339, 340, 341, 342, 343, 344, 345, 53, 346, 347, 348, 349, 350, 351, 352] (by decide +kernel) (by decide +kernel)
set_option maxRecDepth 20000 in
theorem ggL_law_L_build_r14 : GoodIn wsL_law wsL_build_r14 := goodIn_r _ [353, 354, 355, 356] (by decide +kernel) (by decide +kernel)
theorem ggL_law_L_build_wsX80 : GoodIn wsL_law wsX80 := goodIn_sub (by decide +kernel) (by decide +kernel)
theorem ggL_law_L_build_wsX70 : GoodIn wsL_law wsX70 := goodIn_sub (by decide +kernel) (by decide +kernel)
theorem ggL_law_L_build_wsX60 : GoodIn wsL_law wsX60 := goodIn_sub (by decide +kernel) (by decide +kernel)
theorem ggL_law_L_build_wsX00 : GoodIn wsL_law wsX00 := goodIn_sub (by decide +kernel) (by decide +kernel)
theorem ggL_law_L_build_wsX20 : GoodIn wsL_law wsX20 := goodIn_sub (by decide +kernel) (by decide +kernel)
theorem ggL_law_L_build_wsX30 : GoodIn wsL_law wsX30 := goodIn_sub (by decide +kernel) (by decide +kernel)
theorem ggL_law_L_build_wsX10 : GoodIn wsL_law wsX10 := goodIn_sub (by decide +kernel) (by decide +kernel)
theorem ggL_law_L_build_wsX40 : GoodIn wsL_law wsX40 := goodIn_sub (by decide +kernel) (by decide +kernel)
theorem ggL_law_L_build : GoodIn wsL_law wsL_build := goodIn_cons ggL_law_L_build_h (goodIn_app (goodIn_app (goodIn_app (goodIn_app (goodIn_app (goodIn_app (goodIn_app (goodIn_app (goodIn_app ggL_law_L_build_r1 (goodIn_app ggL_law_L_build_r2 (goodIn_app ggL_law_L_build_r3 (goodIn_app ggL_law_L_build_r4 (goodIn_app ggL_law_L_build_r5 (goodIn_app ggL_law_L_build_r6 (goodIn_app ggL_law_L_build_r7 (goodIn_app ggL_law_L_build_r8 (goodIn_app ggL_law_L_build_r9 (goodIn_app ggL_law_L_build_r10 (goodIn_app ggL_law_L_build_r11 (goodIn_app ggL_law_L_build_r12 (goodIn_app ggL_law_L_build_r13 (ggL_law_L_build_r14)))))))))))))) ggL_law_L_build_wsX80) ggL_law_L_build_wsX70) ggL_law_L_build_wsX60) ggL_law_L_build_wsX00) ggL_law_L_build_wsX20) ggL_law_L_build_wsX30) ggL_law_L_build_wsX10) ggL_law_L_build_wsX40)
set_option maxRecDepth 20000 in
theorem gL_law_L_build : GoodIn wsL_law (va_wsS RL 113 yL_build wsL_build) := goodIn_app (goodIn_of _ (by decide +kernel)) ggL_law_L_build
end
section
set_option maxRecDepth 20000 in
theorem ggL_law_X7_count : GoodIn wsL_law wsX7_count := goodIn_ca (goodIn_r _ [360, 21, 361, 362, 2, 363, 364, 365, 366, 367, 39, 368, 369, 370, 45, 371, 372, 373, 41, 374, 375, 376, 43, 377, 378, 379, 20, 380, 176, 177, 178, 179, 180, 381, 382, 383, 384, 385, 121, 122, 321, 386, 387, 388, 157, 158, 159, 341, 340, 389, 390, 391, 133, 134, 58, 210, 211, 392, 224, 225, 226, 227, 228, 229, 230, 231, 232, 233, 234, 393, 394, 395, 145, 146, 251, 252, 292, 396, 397, 398, 277, 37, 399, 400, 401, 402, 403, 404, 405, 287, 441, 442, 472, 473, 474, 485, 486, 487, 488, 489, 475, 476, 477, 478, 479, 480, 481, 482, 483, 484, 454, 455, 456, 457, 458, 459, 460, 461, 462, 463, 464, 465, 466, 467, 468, 469, 470, 471] (by decide +kernel) (by decide +kernel)) (goodIn_sub (fun _ h => List.mem_append_right _ h) (by decide +kernel))
set_option maxRecDepth 20000 in
theorem gL_law_X7_count : GoodIn wsL_law (wsV RL 117 RX7 yX7_count wsX7_count) := goodIn_app (goodIn_of _ (by decide +kernel)) ggL_law_X7_count
set_option maxRecDepth 20000 in
theorem ggL_law_L_cell : GoodIn wsL_law wsL_cell := goodIn_r _ [84, 85] (by decide +kernel) (by decide +kernel)
set_option maxRecDepth 20000 in
theorem gL_law_L_cell : GoodIn wsL_law (va_wsS RL 104 yL_cell wsL_cell) := goodIn_app (goodIn_of _ (by decide +kernel)) ggL_law_L_cell
set_option maxRecDepth 20000 in
theorem ggL_law_X7_roast : GoodIn wsL_law wsX7_roast := goodIn_ca (goodIn_r _ [409, 21, 127, 128, 176, 177, 2, 178, 179, 180, 361, 362, 363, 364, 365, 366, 367, 39, 368, 369, 370, 45, 371, 372, 373, 41, 374, 375, 376, 43, 377, 378, 379, 20, 380, 381, 382, 383, 384, 385, 121, 122, 321, 386, 387, 388, 157, 158, 159, 341, 340, 389, 390, 391, 133, 134, 58, 210, 211, 392, 224, 225, 226, 227, 228, 229, 230, 231, 232, 233, 234, 393, 394, 395, 145, 146, 251, 252, 292, 396, 397, 398, 277, 37, 399, 400, 401, 402, 403, 404, 405, 287, 441, 442, 454, 455, 456, 457, 458, 459, 460, 461, 462, 463, 464, 472, 473, 474, 485, 486, 487, 488, 489, 475, 476, 477, 478, 479, 480, 481, 482, 483, 484, 465, 466, 467, 468, 469, 470, 471] (by decide +kernel) (by decide +kernel)) (goodIn_sub (fun _ h => List.mem_append_right _ h) (by decide +kernel))
set_option maxRecDepth 20000 in
theorem gL_law_X7_roast : GoodIn wsL_law (wsV RL 120 RX7 yX7_roast wsX7_roast) := goodIn_app (goodIn_of _ (by decide +kernel)) ggL_law_X7_roast
set_option maxRecDepth 20000 in
theorem ggL_law_X7_take : GoodIn wsL_law wsX7_take := goodIn_ca (goodIn_ca (goodIn_r _ [221, 21, 127, 128, 205, 222, 169, 176, 177, 2, 178, 179, 180, 112, 113, 114, 115, 116, 223, 224, 225, 41, 226, 58, 210, 227, 228, 229, 230, 231, 232, 233, 234, 235, 236, 237, 36, 238, 239, 240, 206, 207, 208, 209, 211, 441, 442, 454, 455, 456, 457, 458, 459, 460, 461, 462, 463, 464, 475, 476, 477, 478, 479, 465, 466, 467, 468, 469, 470, 471] (by decide +kernel) (by decide +kernel)) (goodIn_sub (fun _ h => List.mem_append_right _ h) (by decide +kernel))) (goodIn_sub (fun _ h => List.mem_append_left _ (List.mem_append_right _ h)) (by decide +kernel))
set_option maxRecDepth 20000 in
theorem gL_law_X7_take : GoodIn wsL_law (wsV RL 87 RX7 yX7_take wsX7_take) := goodIn_app (goodIn_of _ (by decide +kernel)) ggL_law_X7_take
set_option maxRecDepth 20000 in
theorem ggL_law_L_below : GoodIn wsL_law wsL_below := goodIn_r _ [88, 89] (by decide +kernel) (by decide +kernel)
set_option maxRecDepth 20000 in
theorem gL_law_L_below : GoodIn wsL_law (va_wsS RL 11 yL_below wsL_below) := goodIn_app (goodIn_of _ (by decide +kernel)) ggL_law_L_below
set_option maxRecDepth 20000 in
theorem ggL_law_X7_pass_h : GoodIn wsL_law [.code yX7_pass cX7_pass 2 (some .int)] := goodIn_r _ [272] (by decide +kernel) (by decide +kernel)
set_option maxRecDepth 20000 in
theorem ggL_law_X7_pass_r1 : GoodIn wsL_law wsX7_pass_r1 := goodIn_r _ [21, 107, 108, 2, 109, 110, 111, 273, 274, 275, 20, 276, 277, 278, 279, 280, 281, 282, 37, 31, 283, 284, 285, 286] (by decide +kernel) (by decide +kernel)
set_option maxRecDepth 20000 in
theorem ggL_law_X7_pass_r2 : GoodIn wsL_law wsX7_pass_r2 := goodIn_r _ [287, 288, 289, 290, 43, 291, 251, 252, 145, 292, 293, 294, 295, 296, 146, 297, 187, 188, 36, 189, 190, 191, 298, 299] (by decide +kernel) (by decide +kernel)
set_option maxRecDepth 20000 in
theorem ggL_law_X7_pass_r3 : GoodIn wsL_law wsX7_pass_r3 := goodIn_r _ [300, 301, 302, 29, 303, 304, 305, 41, 306, 211, 307, 308, 309, 310, 58, 134, 311, 7, 8, 9, 231, 232, 233, 234] (by decide +kernel) (by decide +kernel)
set_option maxRecDepth 20000 in
theorem ggL_law_X7_pass_r4 : GoodIn wsL_law wsX7_pass_r4 := goodIn_r _ [312, 313, 314, 315, 316, 27, 317, 318, 319, 39, 320, 321, 121, 122, 322, 323, 324, 325, 326, 327, 33, 328, 329, 330] (by decide +kernel) (by decide +kernel)
set_option maxRecDepth 20000 in
theorem ggL_law_X7_pass_r5 : GoodIn wsL_law wsX7_pass_r5 := goodIn_r _ [45, 331, 157, 159, 332, 333, 334, 335, 336, 337, 338, 339, 158, 340, 341, 342, 343, 344, 345, 53, 240, 346, 347, 348] (by decide +kernel) (by decide +kernel)
set_option maxRecDepth 20000 in
theorem ggL_law_X7_pass_r6 : GoodIn wsL_law wsX7_pass_r6 := goodIn_r _ [349, 350, 239, 351, 352, 353, 354, 355, 356] (by decide +kernel) (by decide +kernel)
theorem ggL_law_X7_pass_wsX70 : GoodIn wsL_law wsX70 := goodIn_sub (by decide +kernel) (by decide +kernel)
theorem ggL_law_X7_pass_wsX60 : GoodIn wsL_law wsX60 := goodIn_sub (by decide +kernel) (by decide +kernel)
theorem ggL_law_X7_pass_wsX30 : GoodIn wsL_law wsX30 := goodIn_sub (by decide +kernel) (by decide +kernel)
theorem ggL_law_X7_pass_wsX40 : GoodIn wsL_law wsX40 := goodIn_sub (by decide +kernel) (by decide +kernel)
theorem ggL_law_X7_pass_wsX20 : GoodIn wsL_law wsX20 := goodIn_sub (by decide +kernel) (by decide +kernel)
theorem ggL_law_X7_pass_wsX00 : GoodIn wsL_law wsX00 := goodIn_sub (by decide +kernel) (by decide +kernel)
theorem ggL_law_X7_pass_wsX10 : GoodIn wsL_law wsX10 := goodIn_sub (by decide +kernel) (by decide +kernel)
end
section
theorem ggL_law_X7_pass : GoodIn wsL_law wsX7_pass := goodIn_cons ggL_law_X7_pass_h (goodIn_app (goodIn_app (goodIn_app (goodIn_app (goodIn_app (goodIn_app (goodIn_app (goodIn_app ggL_law_X7_pass_r1 (goodIn_app ggL_law_X7_pass_r2 (goodIn_app ggL_law_X7_pass_r3 (goodIn_app ggL_law_X7_pass_r4 (goodIn_app ggL_law_X7_pass_r5 (ggL_law_X7_pass_r6)))))) ggL_law_X7_pass_wsX70) ggL_law_X7_pass_wsX60) ggL_law_X7_pass_wsX30) ggL_law_X7_pass_wsX40) ggL_law_X7_pass_wsX20) ggL_law_X7_pass_wsX00) ggL_law_X7_pass_wsX10)
set_option maxRecDepth 20000 in
theorem gL_law_X7_pass : GoodIn wsL_law (wsV RL 100 RX7 yX7_pass wsX7_pass) := goodIn_app (goodIn_of _ (by decide +kernel)) ggL_law_X7_pass
set_option maxRecDepth 20000 in
theorem ggL_law_X8_behind : GoodIn wsL_law wsX8_behind := goodIn_r _ [256, 257, 258, 259, 69, 260, 80, 261, 74, 79, 78, 81, 75, 76, 262, 263, 264, 265, 266, 267, 268, 215, 216, 217, 443, 444, 445, 446, 447, 448, 449, 450, 451, 452, 453] (by decide +kernel) (by decide +kernel)
set_option maxRecDepth 20000 in
theorem gL_law_X8_behind : GoodIn wsL_law (wsV RL 96 RX8 yX8_behind wsX8_behind) := goodIn_app (goodIn_of _ (by decide +kernel)) ggL_law_X8_behind
set_option maxRecDepth 20000 in
theorem ggL_law_X7_ration : GoodIn wsL_law wsX7_ration := goodIn_ca (goodIn_r _ [413, 21, 151, 152, 176, 177, 2, 178, 179, 180, 361, 362, 363, 364, 365, 366, 367, 39, 368, 369, 370, 45, 371, 372, 373, 41, 374, 375, 376, 43, 377, 378, 379, 20, 380, 381, 382, 383, 384, 385, 121, 122, 321, 386, 387, 388, 157, 158, 159, 341, 340, 389, 390, 391, 133, 134, 58, 210, 211, 392, 224, 225, 226, 227, 228, 229, 230, 231, 232, 233, 234, 393, 394, 395, 145, 146, 251, 252, 292, 396, 397, 398, 277, 37, 399, 400, 401, 402, 403, 404, 405, 287, 441, 442, 454, 455, 456, 457, 458, 459, 460, 461, 462, 463, 464, 472, 473, 474, 485, 486, 487, 488, 489, 475, 476, 477, 478, 479, 480, 481, 482, 483, 484, 465, 466, 467, 468, 469, 470, 471] (by decide +kernel) (by decide +kernel)) (goodIn_sub (fun _ h => List.mem_append_right _ h) (by decide +kernel))
set_option maxRecDepth 20000 in
theorem gL_law_X7_ration : GoodIn wsL_law (wsV RL 123 RX7 yX7_ration wsX7_ration) := goodIn_app (goodIn_of _ (by decide +kernel)) ggL_law_X7_ration
set_option maxRecDepth 20000 in
theorem ggL_law_X7_about : GoodIn wsL_law wsX7_about := goodIn_ca (goodIn_r _ [417, 21, 105, 106, 176, 177, 2, 178, 179, 180, 361, 362, 363, 364, 365, 366, 367, 39, 368, 369, 370, 45, 371, 372, 373, 41, 374, 375, 376, 43, 377, 378, 379, 20, 380, 381, 382, 383, 384, 385, 121, 122, 321, 386, 387, 388, 157, 158, 159, 341, 340, 389, 390, 391, 133, 134, 58, 210, 211, 392, 224, 225, 226, 227, 228, 229, 230, 231, 232, 233, 234, 393, 394, 395, 145, 146, 251, 252, 292, 396, 397, 398, 277, 37, 399, 400, 401, 402, 403, 404, 405, 287, 441, 442, 454, 455, 456, 457, 458, 459, 460, 461, 462, 463, 464, 472, 473, 474, 485, 486, 487, 488, 489, 475, 476, 477, 478, 479, 480, 481, 482, 483, 484, 465, 466, 467, 468, 469, 470, 471] (by decide +kernel) (by decide +kernel)) (goodIn_sub (fun _ h => List.mem_append_right _ h) (by decide +kernel))
set_option maxRecDepth 20000 in
theorem gL_law_X7_about : GoodIn wsL_law (wsV RL 131 RX7 yX7_about wsX7_about) := goodIn_app (goodIn_of _ (by decide +kernel)) ggL_law_X7_about
set_option maxRecDepth 20000 in
theorem ggL_law_X7_told : GoodIn wsL_law wsX7_told := goodIn_ca (goodIn_r _ [421, 21, 139, 140, 176, 177, 2, 178, 179, 180, 361, 362, 363, 364, 365, 366, 367, 39, 368, 369, 370, 45, 371, 372, 373, 41, 374, 375, 376, 43, 377, 378, 379, 20, 380, 381, 382, 383, 384, 385, 121, 122, 321, 386, 387, 388, 157, 158, 159, 341, 340, 389, 390, 391, 133, 134, 58, 210, 211, 392, 224, 225, 226, 227, 228, 229, 230, 231, 232, 233, 234, 393, 394, 395, 145, 146, 251, 252, 292, 396, 397, 398, 277, 37, 399, 400, 401, 402, 403, 404, 405, 287, 441, 442, 454, 455, 456, 457, 458, 459, 460, 461, 462, 463, 464, 472, 473, 474, 485, 486, 487, 488, 489, 475, 476, 477, 478, 479, 480, 481, 482, 483, 484, 465, 466, 467, 468, 469, 470, 471] (by decide +kernel) (by decide +kernel)) (goodIn_sub (fun _ h => List.mem_append_right _ h) (by decide +kernel))
set_option maxRecDepth 20000 in
theorem gL_law_X7_told : GoodIn wsL_law (wsV RL 134 RX7 yX7_told wsX7_told) := goodIn_app (goodIn_of _ (by decide +kernel)) ggL_law_X7_told
set_option maxRecDepth 20000 in
theorem ggL_law_L_act_h : GoodIn wsL_law [.code yL_act cL_act 21 (some .boolean)] := goodIn_r _ [92] (by decide +kernel) (by decide +kernel)
set_option maxRecDepth 20000 in
theorem ggL_law_L_act_r1 : GoodIn wsL_law wsL_act_r1 := goodIn_r _ [10, 73, 3, 11, 5, 93, 94, 95, 4, 96, 86, 87, 65, 88, 89, 97, 98, 99, 100, 101, 102, 103, 2, 104] (by decide +kernel) (by decide +kernel)
set_option maxRecDepth 20000 in
theorem ggL_law_L_act_r2 : GoodIn wsL_law wsL_act_r2 := goodIn_r _ [21, 105, 106, 107, 108, 109, 110, 111, 112, 113, 114, 115, 116, 117, 118, 119, 39, 120, 121, 122, 123, 124, 125, 126] (by decide +kernel) (by decide +kernel)
set_option maxRecDepth 20000 in
theorem ggL_law_L_act_r3 : GoodIn wsL_law wsL_act_r3 := goodIn_r _ [127, 128, 129, 130, 131, 41, 132, 133, 134, 135, 136, 137, 138, 139, 140, 141, 142, 143, 43, 144, 145, 146, 147, 148] (by decide +kernel) (by decide +kernel)
set_option maxRecDepth 20000 in
theorem ggL_law_L_act_r4 : GoodIn wsL_law wsL_act_r4 := goodIn_r _ [149, 150, 151, 152, 153, 154, 155, 45, 156, 157, 158, 159, 160, 161, 162, 163, 164, 165, 166, 167, 168, 169, 170, 171] (by decide +kernel) (by decide +kernel)
set_option maxRecDepth 20000 in
theorem ggL_law_L_act_r5 : GoodIn wsL_law wsL_act_r5 := goodIn_r _ [172, 173, 174, 175, 176, 177, 178, 179, 180, 181, 182, 183, 184, 185, 186, 187, 188, 36, 189, 190, 191, 192, 193, 194] (by decide +kernel) (by decide +kernel)
set_option maxRecDepth 20000 in
theorem ggL_law_L_act_r6 : GoodIn wsL_law wsL_act_r6 := goodIn_r _ [195, 196, 197, 198, 199, 200, 201, 202, 203, 204, 205, 206, 207, 208, 209, 58, 210, 211, 212, 213, 69, 214, 215, 216] (by decide +kernel) (by decide +kernel)
set_option maxRecDepth 20000 in
theorem ggL_law_L_act_r7 : GoodIn wsL_law wsL_act_r7 := goodIn_r _ [217, 218, 219, 220, 221, 222, 223, 224, 225, 226, 227, 228, 229, 230, 231, 232, 233, 234, 235, 236, 237, 238, 239, 240] (by decide +kernel) (by decide +kernel)
set_option maxRecDepth 20000 in
theorem ggL_law_L_act_r8 : GoodIn wsL_law wsL_act_r8 := goodIn_r _ [241, 242, 243, 244, 245, 246, 247, 248, 249, 250, 251, 252, 253, 254, 255, 256, 257, 258, 259, 260, 80, 261, 74, 79] (by decide +kernel) (by decide +kernel)
set_option maxRecDepth 20000 in
theorem ggL_law_L_act_r9 : GoodIn wsL_law wsL_act_r9 := goodIn_r _ [78, 81, 75, 76, 262, 263, 264, 265, 266, 267, 268, 269, 270, 271, 272, 273, 274, 275, 20, 276, 277, 278, 279, 280] (by decide +kernel) (by decide +kernel)
set_option maxRecDepth 20000 in
theorem ggL_law_L_act_r10 : GoodIn wsL_law wsL_act_r10 := goodIn_r _ [281, 282, 37, 31, 283, 284, 285, 286, 287, 288, 289, 290, 291, 292, 293, 294, 295, 296, 297, 298, 299, 300, 301, 302] (by decide +kernel) (by decide +kernel)
set_option maxRecDepth 20000 in
theorem ggL_law_L_act_r11 : GoodIn wsL_law wsL_act_r11 := goodIn_r _ [29, 303, 304, 305, 306, 307, 308, 309, 310, 311, 7, 8, 9, 312, 313, 314, 315, 316, 27, 317, 318, 319, 320, 321] (by decide +kernel) (by decide +kernel)
set_option maxRecDepth 20000 in
theorem ggL_law_L_act_r12 : GoodIn wsL_law wsL_act_r12 := goodIn_r _ [322, 323, 324, 325, 326, 327, 33, 328, 329, 330, 331, 332, 333, 334, 335, 336, 337, 338, 339, 340, 341, 342, 343, 344] (by decide +kernel) (by decide +kernel)
set_option maxRecDepth 20000 in
theorem ggL_law_L_act_r13 : GoodIn wsL_law wsL_act_r13 := goodIn_r _ [345, 53, 346, 347, 348, 349, 350, 351, 352, 353, 354, 355, 356] (by decide +kernel) (by decide +kernel)
theorem ggL_law_L_act_wsX80 : GoodIn wsL_law wsX80 := goodIn_sub (by decide +kernel) (by decide +kernel)
theorem ggL_law_L_act_wsX70 : GoodIn wsL_law wsX70 := goodIn_sub (by decide +kernel) (by decide +kernel)
theorem ggL_law_L_act_wsX60 : GoodIn wsL_law wsX60 := goodIn_sub (by decide +kernel) (by decide +kernel)
theorem ggL_law_L_act_wsX00 : GoodIn wsL_law wsX00 := goodIn_sub (by decide +kernel) (by decide +kernel)
theorem ggL_law_L_act_wsX20 : GoodIn wsL_law wsX20 := goodIn_sub (by decide +kernel) (by decide +kernel)
theorem ggL_law_L_act_wsX30 : GoodIn wsL_law wsX30 := goodIn_sub (by decide +kernel) (by decide +kernel)
theorem ggL_law_L_act_wsX10 : GoodIn wsL_law wsX10 := goodIn_sub (by decide +kernel) (by decide +kernel)
theorem ggL_law_L_act_wsX40 : GoodIn wsL_law wsX40 := goodIn_sub (by decide +kernel) (by decide +kernel)
end
section
theorem ggL_law_L_act : GoodIn wsL_law wsL_act := goodIn_cons ggL_law_L_act_h (goodIn_app (goodIn_app (goodIn_app (goodIn_app (goodIn_app (goodIn_app (goodIn_app (goodIn_app (goodIn_app ggL_law_L_act_r1 (goodIn_app ggL_law_L_act_r2 (goodIn_app ggL_law_L_act_r3 (goodIn_app ggL_law_L_act_r4 (goodIn_app ggL_law_L_act_r5 (goodIn_app ggL_law_L_act_r6 (goodIn_app ggL_law_L_act_r7 (goodIn_app ggL_law_L_act_r8 (goodIn_app ggL_law_L_act_r9 (goodIn_app ggL_law_L_act_r10 (goodIn_app ggL_law_L_act_r11 (goodIn_app ggL_law_L_act_r12 (ggL_law_L_act_r13))))))))))))) ggL_law_L_act_wsX80) ggL_law_L_act_wsX70) ggL_law_L_act_wsX60) ggL_law_L_act_wsX00) ggL_law_L_act_wsX20) ggL_law_L_act_wsX30) ggL_law_L_act_wsX10) ggL_law_L_act_wsX40)
set_option maxRecDepth 20000 in
theorem gL_law_L_act : GoodIn wsL_law (va_wsS RL 108 yL_act wsL_act) := goodIn_app (goodIn_of _ (by decide +kernel)) ggL_law_L_act
set_option maxRecDepth 20000 in
theorem ggL_law_X8_isSame_h : GoodIn wsL_law [.code yX8_isSame cX8_isSame 5 (some .boolean)] := goodIn_r _ [425] (by decide +kernel) (by decide +kernel)
set_option maxRecDepth 20000 in
theorem ggL_law_X8_isSame_r1 : GoodIn wsL_law wsX8_isSame_r1 := goodIn_r _ [78, 79, 80, 81, 426, 358, 359, 2, 360, 21, 361, 362, 363, 364, 365, 366, 367, 39, 368, 369, 370, 45, 371, 372] (by decide +kernel) (by decide +kernel)
set_option maxRecDepth 20000 in
theorem ggL_law_X8_isSame_r2 : GoodIn wsL_law wsX8_isSame_r2 := goodIn_r _ [373, 41, 374, 375, 376, 43, 377, 378, 379, 20, 380, 176, 177, 178, 179, 180, 381, 382, 383, 384, 385, 121, 122, 321] (by decide +kernel) (by decide +kernel)
set_option maxRecDepth 20000 in
theorem ggL_law_X8_isSame_r3 : GoodIn wsL_law wsX8_isSame_r3 := goodIn_r _ [386, 387, 388, 157, 158, 159, 341, 340, 389, 390, 391, 133, 134, 58, 210, 211, 392, 224, 225, 226, 227, 228, 229, 230] (by decide +kernel) (by decide +kernel)
set_option maxRecDepth 20000 in
theorem ggL_law_X8_isSame_r4 : GoodIn wsL_law wsX8_isSame_r4 := goodIn_r _ [231, 232, 233, 234, 393, 394, 395, 145, 146, 251, 252, 292, 396, 397, 398, 277, 37, 399, 400, 401, 402, 403, 404, 405] (by decide +kernel) (by decide +kernel)
set_option maxRecDepth 20000 in
theorem ggL_law_X8_isSame_r5 : GoodIn wsL_law wsX8_isSame_r5 := goodIn_r _ [287, 427, 428, 429, 69, 430, 73, 261, 74, 75, 262, 263, 76, 268, 431, 415, 416, 417, 105, 106, 432, 407, 408, 409] (by decide +kernel) (by decide +kernel)
set_option maxRecDepth 20000 in
theorem ggL_law_X8_isSame_r6 : GoodIn wsL_law wsX8_isSame_r6 := goodIn_r _ [127, 128, 433, 213, 214, 215, 216, 217, 434, 419, 420, 421, 139, 140, 435, 411, 412, 413, 151, 152, 436, 437, 438, 439] (by decide +kernel) (by decide +kernel)
set_option maxRecDepth 20000 in
theorem ggL_law_X8_isSame_r7 : GoodIn wsL_law wsX8_isSame_r7 := goodIn_r _ [169, 440] (by decide +kernel) (by decide +kernel)
theorem ggL_law_X8_isSame_wsX80 : GoodIn wsL_law wsX80 := goodIn_sub (by decide +kernel) (by decide +kernel)
theorem ggL_law_X8_isSame_wsX70 : GoodIn wsL_law wsX70 := goodIn_sub (by decide +kernel) (by decide +kernel)
theorem ggL_law_X8_isSame_wsX00 : GoodIn wsL_law wsX00 := goodIn_sub (by decide +kernel) (by decide +kernel)
theorem ggL_law_X8_isSame_wsX10 : GoodIn wsL_law wsX10 := goodIn_sub (by decide +kernel) (by decide +kernel)
theorem ggL_law_X8_isSame_wsX20 : GoodIn wsL_law wsX20 := goodIn_sub (by decide +kernel) (by decide +kernel)
theorem ggL_law_X8_isSame_wsX30 : GoodIn wsL_law wsX30 := goodIn_sub (by decide +kernel) (by decide +kernel)
theorem ggL_law_X8_isSame_wsX60 : GoodIn wsL_law wsX60 := goodIn_sub (by decide +kernel) (by decide +kernel)
theorem ggL_law_X8_isSame_wsX40 : GoodIn wsL_law wsX40 := goodIn_sub (by decide +kernel) (by decide +kernel)
end
section
theorem ggL_law_X8_isSame : GoodIn wsL_law wsX8_isSame := goodIn_cons ggL_law_X8_isSame_h (goodIn_app (goodIn_app (goodIn_app (goodIn_app (goodIn_app (goodIn_app (goodIn_app (goodIn_app (goodIn_app ggL_law_X8_isSame_r1 (goodIn_app ggL_law_X8_isSame_r2 (goodIn_app ggL_law_X8_isSame_r3 (goodIn_app ggL_law_X8_isSame_r4 (goodIn_app ggL_law_X8_isSame_r5 (goodIn_app ggL_law_X8_isSame_r6 (ggL_law_X8_isSame_r7))))))) ggL_law_X8_isSame_wsX80) ggL_law_X8_isSame_wsX70) ggL_law_X8_isSame_wsX00) ggL_law_X8_isSame_wsX10) ggL_law_X8_isSame_wsX20) ggL_law_X8_isSame_wsX30) ggL_law_X8_isSame_wsX60) ggL_law_X8_isSame_wsX40)
set_option maxRecDepth 20000 in
theorem gL_law_X8_isSame : GoodIn wsL_law (wsV RL 137 RX8 yX8_isSame wsX8_isSame) := goodIn_app (goodIn_of _ (by decide +kernel)) ggL_law_X8_isSame
end
section
theorem dL_law_0 : decode cL_law 0 = .ok (.new 28, 3) := by decide +kernel
theorem dL_law_3 : decode cL_law 3 = .ok (.dup, 1) := by decide +kernel
theorem dL_law_4 : decode cL_law 4 = .ok (.invokespecial 112, 3) := by decide +kernel
theorem dL_law_7 : decode cL_law 7 = .ok (.astore_n 1, 1) := by decide +kernel
theorem dL_law_8 : decode cL_law 8 = .ok (.aload_n 1, 1) := by decide +kernel
theorem dL_law_9 : decode cL_law 9 = .ok (.aload_n 0, 1) := by decide +kernel
theorem dL_law_10 : decode cL_law 10 = .ok (.invokestatic 113, 3) := by decide +kernel
theorem dL_law_13 : decode cL_law 13 = .ok (.astore_n 2, 1) := by decide +kernel
theorem dL_law_14 : decode cL_law 14 = .ok (.aload_n 2, 1) := by decide +kernel
theorem dL_law_15 : decode cL_law 15 = .ok (.ifnonnull 5, 3) := by decide +kernel
theorem dL_law_18 : decode cL_law 18 = .ok (.iconst 0, 1) := by decide +kernel
theorem dL_law_19 : decode cL_law 19 = .ok (.ireturn, 1) := by decide +kernel
theorem dL_law_20 : decode cL_law 20 = .ok (.iconst 0, 1) := by decide +kernel
theorem dL_law_21 : decode cL_law 21 = .ok (.istore_n 3, 1) := by decide +kernel
theorem dL_law_22 : decode cL_law 22 = .ok (.aload_n 1, 1) := by decide +kernel
theorem dL_law_23 : decode cL_law 23 = .ok (.iconst 3, 1) := by decide +kernel
theorem dL_law_24 : decode cL_law 24 = .ok (.invokevirtual 117, 3) := by decide +kernel
theorem dL_law_27 : decode cL_law 27 = .ok (.aload_n 1, 1) := by decide +kernel
theorem dL_law_28 : decode cL_law 28 = .ok (.iconst 4, 1) := by decide +kernel
theorem dL_law_29 : decode cL_law 29 = .ok (.invokevirtual 117, 3) := by decide +kernel
theorem dL_law_32 : decode cL_law 32 = .ok (.iadd, 1) := by decide +kernel
theorem dL_law_33 : decode cL_law 33 = .ok (.bipush 10, 2) := by decide +kernel
theorem dL_law_35 : decode cL_law 35 = .ok (.aload_n 1, 1) := by decide +kernel
theorem dL_law_36 : decode cL_law 36 = .ok (.iconst 5, 1) := by decide +kernel
theorem dL_law_37 : decode cL_law 37 = .ok (.invokevirtual 117, 3) := by decide +kernel
theorem dL_law_40 : decode cL_law 40 = .ok (.imul, 1) := by decide +kernel
theorem dL_law_41 : decode cL_law 41 = .ok (.iadd, 1) := by decide +kernel
theorem dL_law_42 : decode cL_law 42 = .ok (.istore 4, 2) := by decide +kernel
theorem dL_law_44 : decode cL_law 44 = .ok (.iconst 0, 1) := by decide +kernel
theorem dL_law_45 : decode cL_law 45 = .ok (.istore 5, 2) := by decide +kernel
theorem dL_law_47 : decode cL_law 47 = .ok (.iload 5, 2) := by decide +kernel
theorem dL_law_49 : decode cL_law 49 = .ok (.bipush 30, 2) := by decide +kernel
theorem dL_law_51 : decode cL_law 51 = .ok (.if_icmp .ge 752, 3) := by decide +kernel
theorem dL_law_54 : decode cL_law 54 = .ok (.aload_n 0, 1) := by decide +kernel
theorem dL_law_55 : decode cL_law 55 = .ok (.iload 5, 2) := by decide +kernel
theorem dL_law_57 : decode cL_law 57 = .ok (.bipush 16, 2) := by decide +kernel
theorem dL_law_59 : decode cL_law 59 = .ok (.irem, 1) := by decide +kernel
theorem dL_law_60 : decode cL_law 60 = .ok (.invokestatic 104, 3) := by decide +kernel
theorem dL_law_63 : decode cL_law 63 = .ok (.iload 5, 2) := by decide +kernel
theorem dL_law_65 : decode cL_law 65 = .ok (.bipush 16, 2) := by decide +kernel
theorem dL_law_67 : decode cL_law 67 = .ok (.idiv, 1) := by decide +kernel
theorem dL_law_68 : decode cL_law 68 = .ok (.iconst 3, 1) := by decide +kernel
theorem dL_law_69 : decode cL_law 69 = .ok (.imul, 1) := by decide +kernel
theorem dL_law_70 : decode cL_law 70 = .ok (.ishr, 1) := by decide +kernel
theorem dL_law_71 : decode cL_law 71 = .ok (.sipush 433, 3) := by decide +kernel
theorem dL_law_74 : decode cL_law 74 = .ok (.iload 5, 2) := by decide +kernel
theorem dL_law_76 : decode cL_law 76 = .ok (.imul, 1) := by decide +kernel
theorem dL_law_77 : decode cL_law 77 = .ok (.iadd, 1) := by decide +kernel
theorem dL_law_78 : decode cL_law 78 = .ok (.istore 6, 2) := by decide +kernel
theorem dL_law_80 : decode cL_law 80 = .ok (.iconst 0, 1) := by decide +kernel
theorem dL_law_81 : decode cL_law 81 = .ok (.istore 7, 2) := by decide +kernel
theorem dL_law_83 : decode cL_law 83 = .ok (.iload 7, 2) := by decide +kernel
theorem dL_law_85 : decode cL_law 85 = .ok (.aload_n 2, 1) := by decide +kernel
theorem dL_law_86 : decode cL_law 86 = .ok (.getfield 32, 3) := by decide +kernel
theorem dL_law_89 : decode cL_law 89 = .ok (.arraylength, 1) := by decide +kernel
theorem dL_law_90 : decode cL_law 90 = .ok (.if_icmp .ge 104, 3) := by decide +kernel
theorem dL_law_93 : decode cL_law 93 = .ok (.aload_n 1, 1) := by decide +kernel
theorem dL_law_94 : decode cL_law 94 = .ok (.iload 7, 2) := by decide +kernel
theorem dL_law_96 : decode cL_law 96 = .ok (.iconst 5, 1) := by decide +kernel
theorem dL_law_97 : decode cL_law 97 = .ok (.invokevirtual 120, 3) := by decide +kernel
theorem dL_law_100 : decode cL_law 100 = .ok (.istore 8, 2) := by decide +kernel
theorem dL_law_102 : decode cL_law 102 = .ok (.iload 8, 2) := by decide +kernel
theorem dL_law_104 : decode cL_law 104 = .ok (.ifCond .ne 6, 3) := by decide +kernel
theorem dL_law_107 : decode cL_law 107 = .ok (.goto 81, 3) := by decide +kernel
theorem dL_law_110 : decode cL_law 110 = .ok (.aload_n 2, 1) := by decide +kernel
theorem dL_law_111 : decode cL_law 111 = .ok (.getfield 84, 3) := by decide +kernel
theorem dL_law_114 : decode cL_law 114 = .ok (.aload_n 2, 1) := by decide +kernel
theorem dL_law_115 : decode cL_law 115 = .ok (.getfield 32, 3) := by decide +kernel
theorem dL_law_118 : decode cL_law 118 = .ok (.iload 7, 2) := by decide +kernel
theorem dL_law_120 : decode cL_law 120 = .ok (.aaload, 1) := by decide +kernel
theorem dL_law_121 : decode cL_law 121 = .ok (.iconst 2, 1) := by decide +kernel
theorem dL_law_122 : decode cL_law 122 = .ok (.iaload, 1) := by decide +kernel
theorem dL_law_123 : decode cL_law 123 = .ok (.dup2, 1) := by decide +kernel
theorem dL_law_124 : decode cL_law 124 = .ok (.iaload, 1) := by decide +kernel
theorem dL_law_125 : decode cL_law 125 = .ok (.iload 8, 2) := by decide +kernel
theorem dL_law_127 : decode cL_law 127 = .ok (.iadd, 1) := by decide +kernel
theorem dL_law_128 : decode cL_law 128 = .ok (.iastore, 1) := by decide +kernel
theorem dL_law_129 : decode cL_law 129 = .ok (.aload_n 2, 1) := by decide +kernel
theorem dL_law_130 : decode cL_law 130 = .ok (.getfield 32, 3) := by decide +kernel
theorem dL_law_133 : decode cL_law 133 = .ok (.iload 7, 2) := by decide +kernel
theorem dL_law_135 : decode cL_law 135 = .ok (.aaload, 1) := by decide +kernel
theorem dL_law_136 : decode cL_law 136 = .ok (.iconst 2, 1) := by decide +kernel
theorem dL_law_137 : decode cL_law 137 = .ok (.iconst (-1), 1) := by decide +kernel
theorem dL_law_138 : decode cL_law 138 = .ok (.iastore, 1) := by decide +kernel
theorem dL_law_139 : decode cL_law 139 = .ok (.aload_n 2, 1) := by decide +kernel
theorem dL_law_140 : decode cL_law 140 = .ok (.getfield 32, 3) := by decide +kernel
theorem dL_law_143 : decode cL_law 143 = .ok (.iload 7, 2) := by decide +kernel
theorem dL_law_145 : decode cL_law 145 = .ok (.aaload, 1) := by decide +kernel
theorem dL_law_146 : decode cL_law 146 = .ok (.iconst 3, 1) := by decide +kernel
theorem dL_law_147 : decode cL_law 147 = .ok (.iconst 0, 1) := by decide +kernel
theorem dL_law_148 : decode cL_law 148 = .ok (.iastore, 1) := by decide +kernel
theorem dL_law_149 : decode cL_law 149 = .ok (.aload_n 2, 1) := by decide +kernel
theorem dL_law_150 : decode cL_law 150 = .ok (.getfield 32, 3) := by decide +kernel
theorem dL_law_153 : decode cL_law 153 = .ok (.iload 7, 2) := by decide +kernel
theorem dL_law_155 : decode cL_law 155 = .ok (.aaload, 1) := by decide +kernel
theorem dL_law_156 : decode cL_law 156 = .ok (.iconst 4, 1) := by decide +kernel
theorem dL_law_157 : decode cL_law 157 = .ok (.iconst 0, 1) := by decide +kernel
theorem dL_law_158 : decode cL_law 158 = .ok (.iastore, 1) := by decide +kernel
theorem dL_law_159 : decode cL_law 159 = .ok (.aload_n 1, 1) := by decide +kernel
theorem dL_law_160 : decode cL_law 160 = .ok (.iload 7, 2) := by decide +kernel
theorem dL_law_162 : decode cL_law 162 = .ok (.invokevirtual 87, 3) := by decide +kernel
theorem dL_law_165 : decode cL_law 165 = .ok (.iload 8, 2) := by decide +kernel
theorem dL_law_167 : decode cL_law 167 = .ok (.if_icmp .ne 14, 3) := by decide +kernel
theorem dL_law_170 : decode cL_law 170 = .ok (.aload_n 1, 1) := by decide +kernel
theorem dL_law_171 : decode cL_law 171 = .ok (.iload 7, 2) := by decide +kernel
theorem dL_law_173 : decode cL_law 173 = .ok (.iconst 2, 1) := by decide +kernel
theorem dL_law_174 : decode cL_law 174 = .ok (.invokevirtual 120, 3) := by decide +kernel
theorem dL_law_177 : decode cL_law 177 = .ok (.iconst (-1), 1) := by decide +kernel
theorem dL_law_178 : decode cL_law 178 = .ok (.if_icmp .eq 5, 3) := by decide +kernel
theorem dL_law_181 : decode cL_law 181 = .ok (.iconst 0, 1) := by decide +kernel
theorem dL_law_182 : decode cL_law 182 = .ok (.ireturn, 1) := by decide +kernel
theorem dL_law_183 : decode cL_law 183 = .ok (.iload_n 3, 1) := by decide +kernel
theorem dL_law_184 : decode cL_law 184 = .ok (.iload 8, 2) := by decide +kernel
theorem dL_law_186 : decode cL_law 186 = .ok (.iadd, 1) := by decide +kernel
theorem dL_law_187 : decode cL_law 187 = .ok (.istore_n 3, 1) := by decide +kernel
theorem dL_law_188 : decode cL_law 188 = .ok (.iinc 7 1, 3) := by decide +kernel
theorem dL_law_191 : decode cL_law 191 = .ok (.goto (-108), 3) := by decide +kernel
theorem dL_law_194 : decode cL_law 194 = .ok (.iconst 1, 1) := by decide +kernel
theorem dL_law_195 : decode cL_law 195 = .ok (.iload 6, 2) := by decide +kernel
theorem dL_law_197 : decode cL_law 197 = .ok (.iconst 2, 1) := by decide +kernel
theorem dL_law_198 : decode cL_law 198 = .ok (.ishr, 1) := by decide +kernel
theorem dL_law_199 : decode cL_law 199 = .ok (.iconst 3, 1) := by decide +kernel
theorem dL_law_200 : decode cL_law 200 = .ok (.invokestatic 11, 3) := by decide +kernel
theorem dL_law_203 : decode cL_law 203 = .ok (.iadd, 1) := by decide +kernel
theorem dL_law_204 : decode cL_law 204 = .ok (.istore 7, 2) := by decide +kernel
theorem dL_law_206 : decode cL_law 206 = .ok (.aload_n 1, 1) := by decide +kernel
theorem dL_law_207 : decode cL_law 207 = .ok (.iconst 3, 1) := by decide +kernel
theorem dL_law_208 : decode cL_law 208 = .ok (.invokevirtual 117, 3) := by decide +kernel
theorem dL_law_211 : decode cL_law 211 = .ok (.istore 8, 2) := by decide +kernel
theorem dL_law_213 : decode cL_law 213 = .ok (.aload_n 1, 1) := by decide +kernel
theorem dL_law_214 : decode cL_law 214 = .ok (.iconst 4, 1) := by decide +kernel
theorem dL_law_215 : decode cL_law 215 = .ok (.invokevirtual 117, 3) := by decide +kernel
theorem dL_law_218 : decode cL_law 218 = .ok (.istore 9, 2) := by decide +kernel
theorem dL_law_220 : decode cL_law 220 = .ok (.aload_n 1, 1) := by decide +kernel
theorem dL_law_221 : decode cL_law 221 = .ok (.iconst 5, 1) := by decide +kernel
theorem dL_law_222 : decode cL_law 222 = .ok (.invokevirtual 117, 3) := by decide +kernel
theorem dL_law_225 : decode cL_law 225 = .ok (.istore 10, 2) := by decide +kernel
theorem dL_law_227 : decode cL_law 227 = .ok (.aload_n 1, 1) := by decide +kernel
theorem dL_law_228 : decode cL_law 228 = .ok (.bipush 6, 2) := by decide +kernel
theorem dL_law_230 : decode cL_law 230 = .ok (.invokevirtual 117, 3) := by decide +kernel
theorem dL_law_233 : decode cL_law 233 = .ok (.istore 11, 2) := by decide +kernel
theorem dL_law_235 : decode cL_law 235 = .ok (.aload_n 1, 1) := by decide +kernel
theorem dL_law_236 : decode cL_law 236 = .ok (.iload 7, 2) := by decide +kernel
theorem dL_law_238 : decode cL_law 238 = .ok (.invokevirtual 100, 3) := by decide +kernel
theorem dL_law_241 : decode cL_law 241 = .ok (.istore 12, 2) := by decide +kernel
theorem dL_law_243 : decode cL_law 243 = .ok (.aload_n 2, 1) := by decide +kernel
theorem dL_law_244 : decode cL_law 244 = .ok (.iload 7, 2) := by decide +kernel
theorem dL_law_246 : decode cL_law 246 = .ok (.invokevirtual 96, 3) := by decide +kernel
theorem dL_law_249 : decode cL_law 249 = .ok (.pop, 1) := by decide +kernel
theorem dL_law_250 : decode cL_law 250 = .ok (.iload 8, 2) := by decide +kernel
theorem dL_law_252 : decode cL_law 252 = .ok (.iload 9, 2) := by decide +kernel
theorem dL_law_254 : decode cL_law 254 = .ok (.iadd, 1) := by decide +kernel
theorem dL_law_255 : decode cL_law 255 = .ok (.aload_n 1, 1) := by decide +kernel
theorem dL_law_256 : decode cL_law 256 = .ok (.iconst 3, 1) := by decide +kernel
theorem dL_law_257 : decode cL_law 257 = .ok (.invokevirtual 117, 3) := by decide +kernel
theorem dL_law_260 : decode cL_law 260 = .ok (.isub, 1) := by decide +kernel
theorem dL_law_261 : decode cL_law 261 = .ok (.aload_n 1, 1) := by decide +kernel
theorem dL_law_262 : decode cL_law 262 = .ok (.iconst 4, 1) := by decide +kernel
theorem dL_law_263 : decode cL_law 263 = .ok (.invokevirtual 117, 3) := by decide +kernel
theorem dL_law_266 : decode cL_law 266 = .ok (.isub, 1) := by decide +kernel
theorem dL_law_267 : decode cL_law 267 = .ok (.istore 13, 2) := by decide +kernel
theorem dL_law_269 : decode cL_law 269 = .ok (.iload 13, 2) := by decide +kernel
theorem dL_law_271 : decode cL_law 271 = .ok (.bipush 10, 2) := by decide +kernel
theorem dL_law_273 : decode cL_law 273 = .ok (.iload 12, 2) := by decide +kernel
theorem dL_law_275 : decode cL_law 275 = .ok (.imul, 1) := by decide +kernel
theorem dL_law_276 : decode cL_law 276 = .ok (.if_icmp .ne 84, 3) := by decide +kernel
theorem dL_law_279 : decode cL_law 279 = .ok (.aload_n 1, 1) := by decide +kernel
theorem dL_law_280 : decode cL_law 280 = .ok (.iconst 5, 1) := by decide +kernel
theorem dL_law_281 : decode cL_law 281 = .ok (.invokevirtual 117, 3) := by decide +kernel
theorem dL_law_284 : decode cL_law 284 = .ok (.iload 10, 2) := by decide +kernel
theorem dL_law_286 : decode cL_law 286 = .ok (.iload 12, 2) := by decide +kernel
theorem dL_law_288 : decode cL_law 288 = .ok (.iadd, 1) := by decide +kernel
theorem dL_law_289 : decode cL_law 289 = .ok (.if_icmp .ne 71, 3) := by decide +kernel
theorem dL_law_292 : decode cL_law 292 = .ok (.aload_n 1, 1) := by decide +kernel
theorem dL_law_293 : decode cL_law 293 = .ok (.bipush 6, 2) := by decide +kernel
theorem dL_law_295 : decode cL_law 295 = .ok (.invokevirtual 117, 3) := by decide +kernel
theorem dL_law_298 : decode cL_law 298 = .ok (.iload 11, 2) := by decide +kernel
theorem dL_law_300 : decode cL_law 300 = .ok (.if_icmp .lt 60, 3) := by decide +kernel
theorem dL_law_303 : decode cL_law 303 = .ok (.aload_n 1, 1) := by decide +kernel
theorem dL_law_304 : decode cL_law 304 = .ok (.bipush 6, 2) := by decide +kernel
theorem dL_law_306 : decode cL_law 306 = .ok (.invokevirtual 117, 3) := by decide +kernel
theorem dL_law_309 : decode cL_law 309 = .ok (.iload 11, 2) := by decide +kernel
theorem dL_law_311 : decode cL_law 311 = .ok (.isub, 1) := by decide +kernel
theorem dL_law_312 : decode cL_law 312 = .ok (.iload 12, 2) := by decide +kernel
theorem dL_law_314 : decode cL_law 314 = .ok (.if_icmp .gt 46, 3) := by decide +kernel
theorem dL_law_317 : decode cL_law 317 = .ok (.aload_n 1, 1) := by decide +kernel
theorem dL_law_318 : decode cL_law 318 = .ok (.iconst 3, 1) := by decide +kernel
theorem dL_law_319 : decode cL_law 319 = .ok (.invokevirtual 117, 3) := by decide +kernel
theorem dL_law_322 : decode cL_law 322 = .ok (.ifCond .lt 38, 3) := by decide +kernel
theorem dL_law_325 : decode cL_law 325 = .ok (.aload_n 1, 1) := by decide +kernel
theorem dL_law_326 : decode cL_law 326 = .ok (.iconst 4, 1) := by decide +kernel
theorem dL_law_327 : decode cL_law 327 = .ok (.invokevirtual 117, 3) := by decide +kernel
theorem dL_law_330 : decode cL_law 330 = .ok (.ifCond .lt 30, 3) := by decide +kernel
theorem dL_law_333 : decode cL_law 333 = .ok (.iload 4, 2) := by decide +kernel
theorem dL_law_335 : decode cL_law 335 = .ok (.iload_n 3, 1) := by decide +kernel
theorem dL_law_336 : decode cL_law 336 = .ok (.iadd, 1) := by decide +kernel
theorem dL_law_337 : decode cL_law 337 = .ok (.aload_n 1, 1) := by decide +kernel
theorem dL_law_338 : decode cL_law 338 = .ok (.iconst 3, 1) := by decide +kernel
theorem dL_law_339 : decode cL_law 339 = .ok (.invokevirtual 117, 3) := by decide +kernel
theorem dL_law_342 : decode cL_law 342 = .ok (.aload_n 1, 1) := by decide +kernel
theorem dL_law_343 : decode cL_law 343 = .ok (.iconst 4, 1) := by decide +kernel
theorem dL_law_344 : decode cL_law 344 = .ok (.invokevirtual 117, 3) := by decide +kernel
theorem dL_law_347 : decode cL_law 347 = .ok (.iadd, 1) := by decide +kernel
theorem dL_law_348 : decode cL_law 348 = .ok (.bipush 10, 2) := by decide +kernel
theorem dL_law_350 : decode cL_law 350 = .ok (.aload_n 1, 1) := by decide +kernel
theorem dL_law_351 : decode cL_law 351 = .ok (.iconst 5, 1) := by decide +kernel
theorem dL_law_352 : decode cL_law 352 = .ok (.invokevirtual 117, 3) := by decide +kernel
theorem dL_law_355 : decode cL_law 355 = .ok (.imul, 1) := by decide +kernel
theorem dL_law_356 : decode cL_law 356 = .ok (.iadd, 1) := by decide +kernel
theorem dL_law_357 : decode cL_law 357 = .ok (.if_icmp .eq 5, 3) := by decide +kernel
theorem dL_law_360 : decode cL_law 360 = .ok (.iconst 0, 1) := by decide +kernel
theorem dL_law_361 : decode cL_law 361 = .ok (.ireturn, 1) := by decide +kernel
theorem dL_law_362 : decode cL_law 362 = .ok (.aload_n 1, 1) := by decide +kernel
theorem dL_law_363 : decode cL_law 363 = .ok (.bipush 7, 2) := by decide +kernel
theorem dL_law_365 : decode cL_law 365 = .ok (.invokevirtual 117, 3) := by decide +kernel
theorem dL_law_368 : decode cL_law 368 = .ok (.istore 14, 2) := by decide +kernel
theorem dL_law_370 : decode cL_law 370 = .ok (.iload 9, 2) := by decide +kernel
theorem dL_law_372 : decode cL_law 372 = .ok (.aload_n 1, 1) := by decide +kernel
theorem dL_law_373 : decode cL_law 373 = .ok (.iconst 4, 1) := by decide +kernel
theorem dL_law_374 : decode cL_law 374 = .ok (.invokevirtual 117, 3) := by decide +kernel
theorem dL_law_377 : decode cL_law 377 = .ok (.isub, 1) := by decide +kernel
theorem dL_law_378 : decode cL_law 378 = .ok (.iload 14, 2) := by decide +kernel
theorem dL_law_380 : decode cL_law 380 = .ok (.iload 12, 2) := by decide +kernel
theorem dL_law_382 : decode cL_law 382 = .ok (.imul, 1) := by decide +kernel
theorem dL_law_383 : decode cL_law 383 = .ok (.if_icmp .gt 29, 3) := by decide +kernel
theorem dL_law_386 : decode cL_law 386 = .ok (.iload 9, 2) := by decide +kernel
theorem dL_law_388 : decode cL_law 388 = .ok (.aload_n 1, 1) := by decide +kernel
theorem dL_law_389 : decode cL_law 389 = .ok (.iconst 4, 1) := by decide +kernel
theorem dL_law_390 : decode cL_law 390 = .ok (.invokevirtual 117, 3) := by decide +kernel
theorem dL_law_393 : decode cL_law 393 = .ok (.isub, 1) := by decide +kernel
theorem dL_law_394 : decode cL_law 394 = .ok (.iload 14, 2) := by decide +kernel
theorem dL_law_396 : decode cL_law 396 = .ok (.iload 12, 2) := by decide +kernel
theorem dL_law_398 : decode cL_law 398 = .ok (.aload_n 1, 1) := by decide +kernel
theorem dL_law_399 : decode cL_law 399 = .ok (.bipush 6, 2) := by decide +kernel
theorem dL_law_401 : decode cL_law 401 = .ok (.invokevirtual 117, 3) := by decide +kernel
theorem dL_law_404 : decode cL_law 404 = .ok (.iload 11, 2) := by decide +kernel
theorem dL_law_406 : decode cL_law 406 = .ok (.isub, 1) := by decide +kernel
theorem dL_law_407 : decode cL_law 407 = .ok (.isub, 1) := by decide +kernel
theorem dL_law_408 : decode cL_law 408 = .ok (.imul, 1) := by decide +kernel
theorem dL_law_409 : decode cL_law 409 = .ok (.if_icmp .ge 5, 3) := by decide +kernel
theorem dL_law_412 : decode cL_law 412 = .ok (.iconst 0, 1) := by decide +kernel
theorem dL_law_413 : decode cL_law 413 = .ok (.ireturn, 1) := by decide +kernel
theorem dL_law_414 : decode cL_law 414 = .ok (.iconst 0, 1) := by decide +kernel
theorem dL_law_415 : decode cL_law 415 = .ok (.istore 15, 2) := by decide +kernel
theorem dL_law_417 : decode cL_law 417 = .ok (.bipush 11, 2) := by decide +kernel
theorem dL_law_419 : decode cL_law 419 = .ok (.istore 16, 2) := by decide +kernel
theorem dL_law_421 : decode cL_law 421 = .ok (.iconst 0, 1) := by decide +kernel
theorem dL_law_422 : decode cL_law 422 = .ok (.istore 17, 2) := by decide +kernel
theorem dL_law_424 : decode cL_law 424 = .ok (.iload 17, 2) := by decide +kernel
theorem dL_law_426 : decode cL_law 426 = .ok (.aload_n 2, 1) := by decide +kernel
theorem dL_law_427 : decode cL_law 427 = .ok (.getfield 44, 3) := by decide +kernel
theorem dL_law_430 : decode cL_law 430 = .ok (.arraylength, 1) := by decide +kernel
theorem dL_law_431 : decode cL_law 431 = .ok (.if_icmp .ge 64, 3) := by decide +kernel
theorem dL_law_434 : decode cL_law 434 = .ok (.aload_n 1, 1) := by decide +kernel
theorem dL_law_435 : decode cL_law 435 = .ok (.iload 17, 2) := by decide +kernel
theorem dL_law_437 : decode cL_law 437 = .ok (.iconst 2, 1) := by decide +kernel
theorem dL_law_438 : decode cL_law 438 = .ok (.invokevirtual 123, 3) := by decide +kernel
theorem dL_law_441 : decode cL_law 441 = .ok (.ifCond .lt 20, 3) := by decide +kernel
theorem dL_law_444 : decode cL_law 444 = .ok (.aload_n 1, 1) := by decide +kernel
theorem dL_law_445 : decode cL_law 445 = .ok (.iload 17, 2) := by decide +kernel
theorem dL_law_447 : decode cL_law 447 = .ok (.iconst 2, 1) := by decide +kernel
theorem dL_law_448 : decode cL_law 448 = .ok (.invokevirtual 123, 3) := by decide +kernel
theorem dL_law_451 : decode cL_law 451 = .ok (.aload_n 1, 1) := by decide +kernel
theorem dL_law_452 : decode cL_law 452 = .ok (.iload 17, 2) := by decide +kernel
theorem dL_law_454 : decode cL_law 454 = .ok (.iconst 0, 1) := by decide +kernel
theorem dL_law_455 : decode cL_law 455 = .ok (.invokevirtual 123, 3) := by decide +kernel
theorem dL_law_458 : decode cL_law 458 = .ok (.if_icmp .le 5, 3) := by decide +kernel
theorem dL_law_461 : decode cL_law 461 = .ok (.iconst 0, 1) := by decide +kernel
theorem dL_law_462 : decode cL_law 462 = .ok (.ireturn, 1) := by decide +kernel
theorem dL_law_463 : decode cL_law 463 = .ok (.iload 15, 2) := by decide +kernel
theorem dL_law_465 : decode cL_law 465 = .ok (.aload_n 1, 1) := by decide +kernel
theorem dL_law_466 : decode cL_law 466 = .ok (.iload 17, 2) := by decide +kernel
theorem dL_law_468 : decode cL_law 468 = .ok (.iconst 3, 1) := by decide +kernel
theorem dL_law_469 : decode cL_law 469 = .ok (.invokevirtual 123, 3) := by decide +kernel
theorem dL_law_472 : decode cL_law 472 = .ok (.iadd, 1) := by decide +kernel
theorem dL_law_473 : decode cL_law 473 = .ok (.istore 15, 2) := by decide +kernel
theorem dL_law_475 : decode cL_law 475 = .ok (.iload 16, 2) := by decide +kernel
theorem dL_law_477 : decode cL_law 477 = .ok (.aload_n 1, 1) := by decide +kernel
theorem dL_law_478 : decode cL_law 478 = .ok (.iload 17, 2) := by decide +kernel
theorem dL_law_480 : decode cL_law 480 = .ok (.iconst 1, 1) := by decide +kernel
theorem dL_law_481 : decode cL_law 481 = .ok (.invokevirtual 123, 3) := by decide +kernel
theorem dL_law_484 : decode cL_law 484 = .ok (.invokestatic 126, 3) := by decide +kernel
theorem dL_law_487 : decode cL_law 487 = .ok (.istore 16, 2) := by decide +kernel
theorem dL_law_489 : decode cL_law 489 = .ok (.iinc 17 1, 3) := by decide +kernel
theorem dL_law_492 : decode cL_law 492 = .ok (.goto (-68), 3) := by decide +kernel
theorem dL_law_495 : decode cL_law 495 = .ok (.iload 15, 2) := by decide +kernel
theorem dL_law_497 : decode cL_law 497 = .ok (.aload_n 1, 1) := by decide +kernel
theorem dL_law_498 : decode cL_law 498 = .ok (.iconst 5, 1) := by decide +kernel
theorem dL_law_499 : decode cL_law 499 = .ok (.invokevirtual 117, 3) := by decide +kernel
theorem dL_law_502 : decode cL_law 502 = .ok (.if_icmp .ne 15, 3) := by decide +kernel
theorem dL_law_505 : decode cL_law 505 = .ok (.iload 16, 2) := by decide +kernel
theorem dL_law_507 : decode cL_law 507 = .ok (.iload 14, 2) := by decide +kernel
theorem dL_law_509 : decode cL_law 509 = .ok (.if_icmp .le 10, 3) := by decide +kernel
theorem dL_law_512 : decode cL_law 512 = .ok (.iload 12, 2) := by decide +kernel
theorem dL_law_514 : decode cL_law 514 = .ok (.ifCond .le 5, 3) := by decide +kernel
theorem dL_law_517 : decode cL_law 517 = .ok (.iconst 0, 1) := by decide +kernel
theorem dL_law_518 : decode cL_law 518 = .ok (.ireturn, 1) := by decide +kernel
theorem dL_law_519 : decode cL_law 519 = .ok (.iconst 0, 1) := by decide +kernel
theorem dL_law_520 : decode cL_law 520 = .ok (.istore 17, 2) := by decide +kernel
theorem dL_law_522 : decode cL_law 522 = .ok (.iload 17, 2) := by decide +kernel
theorem dL_law_524 : decode cL_law 524 = .ok (.aload_n 2, 1) := by decide +kernel
theorem dL_law_525 : decode cL_law 525 = .ok (.getfield 17, 3) := by decide +kernel
theorem dL_law_528 : decode cL_law 528 = .ok (.arraylength, 1) := by decide +kernel
theorem dL_law_529 : decode cL_law 529 = .ok (.if_icmp .ge 38, 3) := by decide +kernel
theorem dL_law_532 : decode cL_law 532 = .ok (.aload_n 1, 1) := by decide +kernel
theorem dL_law_533 : decode cL_law 533 = .ok (.iload 17, 2) := by decide +kernel
theorem dL_law_535 : decode cL_law 535 = .ok (.iconst 2, 1) := by decide +kernel
theorem dL_law_536 : decode cL_law 536 = .ok (.invokevirtual 131, 3) := by decide +kernel
theorem dL_law_539 : decode cL_law 539 = .ok (.ifCond .lt 20, 3) := by decide +kernel
theorem dL_law_542 : decode cL_law 542 = .ok (.aload_n 1, 1) := by decide +kernel
theorem dL_law_543 : decode cL_law 543 = .ok (.iload 17, 2) := by decide +kernel
theorem dL_law_545 : decode cL_law 545 = .ok (.iconst 2, 1) := by decide +kernel
theorem dL_law_546 : decode cL_law 546 = .ok (.invokevirtual 131, 3) := by decide +kernel
theorem dL_law_549 : decode cL_law 549 = .ok (.aload_n 1, 1) := by decide +kernel
theorem dL_law_550 : decode cL_law 550 = .ok (.iload 17, 2) := by decide +kernel
theorem dL_law_552 : decode cL_law 552 = .ok (.iconst 1, 1) := by decide +kernel
theorem dL_law_553 : decode cL_law 553 = .ok (.invokevirtual 131, 3) := by decide +kernel
theorem dL_law_556 : decode cL_law 556 = .ok (.if_icmp .le 5, 3) := by decide +kernel
theorem dL_law_559 : decode cL_law 559 = .ok (.iconst 0, 1) := by decide +kernel
theorem dL_law_560 : decode cL_law 560 = .ok (.ireturn, 1) := by decide +kernel
theorem dL_law_561 : decode cL_law 561 = .ok (.iinc 17 1, 3) := by decide +kernel
theorem dL_law_564 : decode cL_law 564 = .ok (.goto (-42), 3) := by decide +kernel
theorem dL_law_567 : decode cL_law 567 = .ok (.iconst 0, 1) := by decide +kernel
theorem dL_law_568 : decode cL_law 568 = .ok (.istore 17, 2) := by decide +kernel
theorem dL_law_570 : decode cL_law 570 = .ok (.iload 17, 2) := by decide +kernel
theorem dL_law_572 : decode cL_law 572 = .ok (.aload_n 2, 1) := by decide +kernel
theorem dL_law_573 : decode cL_law 573 = .ok (.getfield 32, 3) := by decide +kernel
theorem dL_law_576 : decode cL_law 576 = .ok (.arraylength, 1) := by decide +kernel
theorem dL_law_577 : decode cL_law 577 = .ok (.if_icmp .ge 88, 3) := by decide +kernel
theorem dL_law_580 : decode cL_law 580 = .ok (.aload_n 1, 1) := by decide +kernel
theorem dL_law_581 : decode cL_law 581 = .ok (.iload 17, 2) := by decide +kernel
theorem dL_law_583 : decode cL_law 583 = .ok (.iconst 3, 1) := by decide +kernel
theorem dL_law_584 : decode cL_law 584 = .ok (.invokevirtual 120, 3) := by decide +kernel
theorem dL_law_587 : decode cL_law 587 = .ok (.aload_n 1, 1) := by decide +kernel
theorem dL_law_588 : decode cL_law 588 = .ok (.iload 17, 2) := by decide +kernel
theorem dL_law_590 : decode cL_law 590 = .ok (.iconst 0, 1) := by decide +kernel
theorem dL_law_591 : decode cL_law 591 = .ok (.invokevirtual 120, 3) := by decide +kernel
theorem dL_law_594 : decode cL_law 594 = .ok (.if_icmp .gt 63, 3) := by decide +kernel
theorem dL_law_597 : decode cL_law 597 = .ok (.aload_n 1, 1) := by decide +kernel
theorem dL_law_598 : decode cL_law 598 = .ok (.iload 17, 2) := by decide +kernel
theorem dL_law_600 : decode cL_law 600 = .ok (.iconst 4, 1) := by decide +kernel
theorem dL_law_601 : decode cL_law 601 = .ok (.invokevirtual 120, 3) := by decide +kernel
theorem dL_law_604 : decode cL_law 604 = .ok (.aload_n 1, 1) := by decide +kernel
theorem dL_law_605 : decode cL_law 605 = .ok (.iload 17, 2) := by decide +kernel
theorem dL_law_607 : decode cL_law 607 = .ok (.iconst 2, 1) := by decide +kernel
theorem dL_law_608 : decode cL_law 608 = .ok (.invokevirtual 120, 3) := by decide +kernel
theorem dL_law_611 : decode cL_law 611 = .ok (.ifCond .ne 8, 3) := by decide +kernel
theorem dL_law_614 : decode cL_law 614 = .ok (.bipush 24, 2) := by decide +kernel
theorem dL_law_616 : decode cL_law 616 = .ok (.goto 5, 3) := by decide +kernel
theorem dL_law_619 : decode cL_law 619 = .ok (.bipush 15, 2) := by decide +kernel
theorem dL_law_621 : decode cL_law 621 = .ok (.if_icmp .gt 36, 3) := by decide +kernel
theorem dL_law_624 : decode cL_law 624 = .ok (.aload_n 1, 1) := by decide +kernel
theorem dL_law_625 : decode cL_law 625 = .ok (.iload 17, 2) := by decide +kernel
theorem dL_law_627 : decode cL_law 627 = .ok (.iconst 2, 1) := by decide +kernel
theorem dL_law_628 : decode cL_law 628 = .ok (.invokevirtual 120, 3) := by decide +kernel
theorem dL_law_631 : decode cL_law 631 = .ok (.ifCond .ge 7, 3) := by decide +kernel
theorem dL_law_634 : decode cL_law 634 = .ok (.iconst 1, 1) := by decide +kernel
theorem dL_law_635 : decode cL_law 635 = .ok (.goto 4, 3) := by decide +kernel
theorem dL_law_638 : decode cL_law 638 = .ok (.iconst 0, 1) := by decide +kernel
theorem dL_law_639 : decode cL_law 639 = .ok (.aload_n 1, 1) := by decide +kernel
theorem dL_law_640 : decode cL_law 640 = .ok (.iload 17, 2) := by decide +kernel
theorem dL_law_642 : decode cL_law 642 = .ok (.iconst 3, 1) := by decide +kernel
theorem dL_law_643 : decode cL_law 643 = .ok (.invokevirtual 120, 3) := by decide +kernel
theorem dL_law_646 : decode cL_law 646 = .ok (.ifCond .ne 7, 3) := by decide +kernel
theorem dL_law_649 : decode cL_law 649 = .ok (.iconst 1, 1) := by decide +kernel
theorem dL_law_650 : decode cL_law 650 = .ok (.goto 4, 3) := by decide +kernel
theorem dL_law_653 : decode cL_law 653 = .ok (.iconst 0, 1) := by decide +kernel
theorem dL_law_654 : decode cL_law 654 = .ok (.if_icmp .eq 5, 3) := by decide +kernel
theorem dL_law_657 : decode cL_law 657 = .ok (.iconst 0, 1) := by decide +kernel
theorem dL_law_658 : decode cL_law 658 = .ok (.ireturn, 1) := by decide +kernel
theorem dL_law_659 : decode cL_law 659 = .ok (.iinc 17 1, 3) := by decide +kernel
theorem dL_law_662 : decode cL_law 662 = .ok (.goto (-92), 3) := by decide +kernel
theorem dL_law_665 : decode cL_law 665 = .ok (.iconst 0, 1) := by decide +kernel
theorem dL_law_666 : decode cL_law 666 = .ok (.istore 17, 2) := by decide +kernel
theorem dL_law_668 : decode cL_law 668 = .ok (.iload 17, 2) := by decide +kernel
theorem dL_law_670 : decode cL_law 670 = .ok (.aload_n 2, 1) := by decide +kernel
theorem dL_law_671 : decode cL_law 671 = .ok (.getfield 38, 3) := by decide +kernel
theorem dL_law_674 : decode cL_law 674 = .ok (.arraylength, 1) := by decide +kernel
theorem dL_law_675 : decode cL_law 675 = .ok (.if_icmp .ge 86, 3) := by decide +kernel
theorem dL_law_678 : decode cL_law 678 = .ok (.aload_n 1, 1) := by decide +kernel
theorem dL_law_679 : decode cL_law 679 = .ok (.iload 17, 2) := by decide +kernel
theorem dL_law_681 : decode cL_law 681 = .ok (.iconst 2, 1) := by decide +kernel
theorem dL_law_682 : decode cL_law 682 = .ok (.invokevirtual 134, 3) := by decide +kernel
theorem dL_law_685 : decode cL_law 685 = .ok (.istore 18, 2) := by decide +kernel
theorem dL_law_687 : decode cL_law 687 = .ok (.aload_n 1, 1) := by decide +kernel
theorem dL_law_688 : decode cL_law 688 = .ok (.iload 17, 2) := by decide +kernel
theorem dL_law_690 : decode cL_law 690 = .ok (.iconst 3, 1) := by decide +kernel
theorem dL_law_691 : decode cL_law 691 = .ok (.invokevirtual 134, 3) := by decide +kernel
theorem dL_law_694 : decode cL_law 694 = .ok (.istore 19, 2) := by decide +kernel
theorem dL_law_696 : decode cL_law 696 = .ok (.iload 18, 2) := by decide +kernel
theorem dL_law_698 : decode cL_law 698 = .ok (.ifCond .lt 55, 3) := by decide +kernel
theorem dL_law_701 : decode cL_law 701 = .ok (.iload 18, 2) := by decide +kernel
theorem dL_law_703 : decode cL_law 703 = .ok (.iconst 2, 1) := by decide +kernel
theorem dL_law_704 : decode cL_law 704 = .ok (.if_icmp .gt 49, 3) := by decide +kernel
theorem dL_law_707 : decode cL_law 707 = .ok (.iload 18, 2) := by decide +kernel
theorem dL_law_709 : decode cL_law 709 = .ok (.ifCond .ne 7, 3) := by decide +kernel
theorem dL_law_712 : decode cL_law 712 = .ok (.iconst 1, 1) := by decide +kernel
theorem dL_law_713 : decode cL_law 713 = .ok (.goto 4, 3) := by decide +kernel
theorem dL_law_716 : decode cL_law 716 = .ok (.iconst 0, 1) := by decide +kernel
theorem dL_law_717 : decode cL_law 717 = .ok (.iload 19, 2) := by decide +kernel
theorem dL_law_719 : decode cL_law 719 = .ok (.ifCond .ne 7, 3) := by decide +kernel
theorem dL_law_722 : decode cL_law 722 = .ok (.iconst 1, 1) := by decide +kernel
theorem dL_law_723 : decode cL_law 723 = .ok (.goto 4, 3) := by decide +kernel
theorem dL_law_726 : decode cL_law 726 = .ok (.iconst 0, 1) := by decide +kernel
theorem dL_law_727 : decode cL_law 727 = .ok (.if_icmp .ne 26, 3) := by decide +kernel
theorem dL_law_730 : decode cL_law 730 = .ok (.iload 19, 2) := by decide +kernel
theorem dL_law_732 : decode cL_law 732 = .ok (.iload 18, 2) := by decide +kernel
theorem dL_law_734 : decode cL_law 734 = .ok (.iconst 1, 1) := by decide +kernel
theorem dL_law_735 : decode cL_law 735 = .ok (.if_icmp .ne 13, 3) := by decide +kernel
theorem dL_law_738 : decode cL_law 738 = .ok (.aload_n 1, 1) := by decide +kernel
theorem dL_law_739 : decode cL_law 739 = .ok (.iload 17, 2) := by decide +kernel
theorem dL_law_741 : decode cL_law 741 = .ok (.iconst 0, 1) := by decide +kernel
theorem dL_law_742 : decode cL_law 742 = .ok (.invokevirtual 134, 3) := by decide +kernel
theorem dL_law_745 : decode cL_law 745 = .ok (.goto 5, 3) := by decide +kernel
theorem dL_law_748 : decode cL_law 748 = .ok (.bipush 10, 2) := by decide +kernel
theorem dL_law_750 : decode cL_law 750 = .ok (.if_icmp .le 5, 3) := by decide +kernel
theorem dL_law_753 : decode cL_law 753 = .ok (.iconst 0, 1) := by decide +kernel
theorem dL_law_754 : decode cL_law 754 = .ok (.ireturn, 1) := by decide +kernel
theorem dL_law_755 : decode cL_law 755 = .ok (.iinc 17 1, 3) := by decide +kernel
theorem dL_law_758 : decode cL_law 758 = .ok (.goto (-90), 3) := by decide +kernel
theorem dL_law_761 : decode cL_law 761 = .ok (.aload_n 1, 1) := by decide +kernel
theorem dL_law_762 : decode cL_law 762 = .ok (.aload_n 2, 1) := by decide +kernel
theorem dL_law_763 : decode cL_law 763 = .ok (.iload 6, 2) := by decide +kernel
theorem dL_law_765 : decode cL_law 765 = .ok (.invokestatic 108, 3) := by decide +kernel
theorem dL_law_768 : decode cL_law 768 = .ok (.ifCond .ne 5, 3) := by decide +kernel
theorem dL_law_771 : decode cL_law 771 = .ok (.iconst 0, 1) := by decide +kernel
theorem dL_law_772 : decode cL_law 772 = .ok (.ireturn, 1) := by decide +kernel
theorem dL_law_773 : decode cL_law 773 = .ok (.aload_n 1, 1) := by decide +kernel
theorem dL_law_774 : decode cL_law 774 = .ok (.iconst 3, 1) := by decide +kernel
theorem dL_law_775 : decode cL_law 775 = .ok (.invokevirtual 117, 3) := by decide +kernel
theorem dL_law_778 : decode cL_law 778 = .ok (.aload_n 1, 1) := by decide +kernel
theorem dL_law_779 : decode cL_law 779 = .ok (.iconst 4, 1) := by decide +kernel
theorem dL_law_780 : decode cL_law 780 = .ok (.invokevirtual 117, 3) := by decide +kernel
theorem dL_law_783 : decode cL_law 783 = .ok (.iadd, 1) := by decide +kernel
theorem dL_law_784 : decode cL_law 784 = .ok (.bipush 10, 2) := by decide +kernel
theorem dL_law_786 : decode cL_law 786 = .ok (.aload_n 1, 1) := by decide +kernel
theorem dL_law_787 : decode cL_law 787 = .ok (.iconst 5, 1) := by decide +kernel
theorem dL_law_788 : decode cL_law 788 = .ok (.invokevirtual 117, 3) := by decide +kernel
theorem dL_law_791 : decode cL_law 791 = .ok (.imul, 1) := by decide +kernel
theorem dL_law_792 : decode cL_law 792 = .ok (.iadd, 1) := by decide +kernel
theorem dL_law_793 : decode cL_law 793 = .ok (.iload_n 3, 1) := by decide +kernel
theorem dL_law_794 : decode cL_law 794 = .ok (.isub, 1) := by decide +kernel
theorem dL_law_795 : decode cL_law 795 = .ok (.istore 4, 2) := by decide +kernel
theorem dL_law_797 : decode cL_law 797 = .ok (.iinc 5 1, 3) := by decide +kernel
theorem dL_law_800 : decode cL_law 800 = .ok (.goto (-753), 3) := by decide +kernel
theorem dL_law_803 : decode cL_law 803 = .ok (.aload_n 2, 1) := by decide +kernel
theorem dL_law_804 : decode cL_law 804 = .ok (.aload_n 1, 1) := by decide +kernel
theorem dL_law_805 : decode cL_law 805 = .ok (.invokevirtual 137, 3) := by decide +kernel
theorem dL_law_808 : decode cL_law 808 = .ok (.ireturn, 1) := by decide +kernel
end
section
set_option maxRecDepth 20000 in
theorem wsL_law0_r1_in : ∀ w ∈ wsL_law0_r1, w ∈ lw_tbl := fun w h => (goodIn_p wsL_law0_r1 [451, 22, 25] (by decide +kernel) (by decide +kernel) w h).1
set_option maxRecDepth 20000 in
theorem wsL_law0_r2_in : ∀ w ∈ wsL_law0_r2, w ∈ lw_tbl := fun w h => (goodIn_p wsL_law0_r2 [30] (by decide +kernel) (by decide +kernel) w h).1
set_option maxRecDepth 20000 in
theorem wsL_law0_r3_in : ∀ w ∈ wsL_law0_r3, w ∈ lw_tbl := fun w h => (goodIn_p wsL_law0_r3 [33, 47, 83, 99, 124, 147, 614, 619] (by decide +kernel) (by decide +kernel) w h).1
set_option maxRecDepth 20000 in
theorem wsL_law0_r4_in : ∀ w ∈ wsL_law0_r4, w ∈ lw_tbl := fun w h => (goodIn_p wsL_law0_r4 [532, 528, 536] (by decide +kernel) (by decide +kernel) w h).1
set_option maxRecDepth 20000 in
theorem wsL_law0_r5_in : ∀ w ∈ wsL_law0_r5, w ∈ lw_tbl := fun w h => (goodIn_p wsL_law0_r5 [539, 545, 396, 293] (by decide +kernel) (by decide +kernel) w h).1
set_option maxRecDepth 20000 in
theorem wsL_law0_r6_in : ∀ w ∈ wsL_law0_r6, w ∈ lw_tbl := fun w h => (goodIn_p wsL_law0_r6 [549, 553, 557, 561] (by decide +kernel) (by decide +kernel) w h).1
set_option maxRecDepth 20000 in
theorem wsL_law0_r7_in : ∀ w ∈ wsL_law0_r7, w ∈ lw_tbl := fun w h => (goodIn_p wsL_law0_r7 [565, 569, 573, 577] (by decide +kernel) (by decide +kernel) w h).1
set_option maxRecDepth 20000 in
theorem wsL_law0_r8_in : ∀ w ∈ wsL_law0_r8, w ∈ lw_tbl := fun w h => (goodIn_p wsL_law0_r8 [581, 585, 222, 589, 436] (by decide +kernel) (by decide +kernel) w h).1
set_option maxRecDepth 20000 in
theorem wsL_law0_r9_in : ∀ w ∈ wsL_law0_r9, w ∈ lw_tbl := fun w h => (goodIn_p wsL_law0_r9 [594, 598, 602, 329, 518] (by decide +kernel) (by decide +kernel) w h).1
set_option maxRecDepth 20000 in
theorem wsL_law0_r10_in : ∀ w ∈ wsL_law0_r10, w ∈ lw_tbl := fun w h => (goodIn_p wsL_law0_r10 [504, 219, 313, 317, 321, 325] (by decide +kernel) (by decide +kernel) w h).1
set_option maxRecDepth 20000 in
theorem wsL_law0_r11_in : ∀ w ∈ wsL_law0_r11, w ∈ lw_tbl := fun w h => (goodIn_p wsL_law0_r11 [607, 611, 493, 497] (by decide +kernel) (by decide +kernel) w h).1
set_option maxRecDepth 20000 in
theorem wsL_law0_r12_in : ∀ w ∈ wsL_law0_r12, w ∈ lw_tbl := fun w h => (goodIn_p wsL_law0_r12 [501, 393, 416, 420, 424] (by decide +kernel) (by decide +kernel) w h).1
set_option maxRecDepth 20000 in
theorem wsL_law0_r13_in : ∀ w ∈ wsL_law0_r13, w ∈ lw_tbl := fun w h => (goodIn_p wsL_law0_r13 [428, 432, 440, 444, 448] (by decide +kernel) (by decide +kernel) w h).1
set_option maxRecDepth 20000 in
theorem wsL_law0_r14_in : ∀ w ∈ wsL_law0_r14, w ∈ lw_tbl := fun w h => (goodIn_p wsL_law0_r14 [455, 459, 464, 468, 472] (by decide +kernel) (by decide +kernel) w h).1
set_option maxRecDepth 20000 in
theorem wsL_law0_r15_in : ∀ w ∈ wsL_law0_r15, w ∈ lw_tbl := fun w h => (goodIn_p wsL_law0_r15 [476, 480, 485, 489] (by decide +kernel) (by decide +kernel) w h).1
set_option maxRecDepth 20000 in
theorem wsL_law0_r16_in : ∀ w ∈ wsL_law0_r16, w ∈ lw_tbl := fun w h => (goodIn_p wsL_law0_r16 [389, 336, 342, 345, 348, 351, 354] (by decide +kernel) (by decide +kernel) w h).1
set_option maxRecDepth 20000 in
theorem wsL_law0_r17_in : ∀ w ∈ wsL_law0_r17, w ∈ lw_tbl := fun w h => (goodIn_p wsL_law0_r17 [360, 363, 366, 370, 373] (by decide +kernel) (by decide +kernel) w h).1
set_option maxRecDepth 20000 in
theorem wsL_law0_r18_in : ∀ w ∈ wsL_law0_r18, w ∈ lw_tbl := fun w h => (goodIn_p wsL_law0_r18 [377, 385, 333, 381, 508, 513] (by decide +kernel) (by decide +kernel) w h).1
set_option maxRecDepth 20000 in
theorem wsL_law0_r19_in : ∀ w ∈ wsL_law0_r19, w ∈ lw_tbl := fun w h => (goodIn_p wsL_law0_r19 [524] (by decide +kernel) (by decide +kernel) w h).1
theorem wsX70_tb : ∀ w ∈ wsX70, w ∈ lw_tbl := by decide +kernel
theorem wsX80_tb : ∀ w ∈ wsX80, w ∈ lw_tbl := by decide +kernel
theorem wsX60_tb : ∀ w ∈ wsX60, w ∈ lw_tbl := by decide +kernel
theorem wsX40_tb : ∀ w ∈ wsX40, w ∈ lw_tbl := by decide +kernel
theorem wsX00_tb : ∀ w ∈ wsX00, w ∈ lw_tbl := by decide +kernel
theorem wsX20_tb : ∀ w ∈ wsX20, w ∈ lw_tbl := by decide +kernel
theorem wsX30_tb : ∀ w ∈ wsX30, w ∈ lw_tbl := by decide +kernel
theorem wsX10_tb : ∀ w ∈ wsX10, w ∈ lw_tbl := by decide +kernel
theorem wsL_law_in0 : ∀ w ∈ wsL_law0, w ∈ lw_tbl := by
  unfold wsL_law0
  exact List.forall_mem_append.mpr ⟨List.forall_mem_append.mpr ⟨List.forall_mem_append.mpr ⟨List.forall_mem_append.mpr ⟨List.forall_mem_append.mpr ⟨List.forall_mem_append.mpr ⟨List.forall_mem_append.mpr ⟨List.forall_mem_append.mpr ⟨List.forall_mem_append.mpr ⟨List.forall_mem_append.mpr ⟨wsL_law0_r1_in, List.forall_mem_append.mpr ⟨wsL_law0_r2_in, List.forall_mem_append.mpr ⟨wsL_law0_r3_in, List.forall_mem_append.mpr ⟨wsL_law0_r4_in, List.forall_mem_append.mpr ⟨wsL_law0_r5_in, List.forall_mem_append.mpr ⟨wsL_law0_r6_in, List.forall_mem_append.mpr ⟨wsL_law0_r7_in, List.forall_mem_append.mpr ⟨wsL_law0_r8_in, List.forall_mem_append.mpr ⟨wsL_law0_r9_in, List.forall_mem_append.mpr ⟨wsL_law0_r10_in, List.forall_mem_append.mpr ⟨wsL_law0_r11_in, List.forall_mem_append.mpr ⟨wsL_law0_r12_in, List.forall_mem_append.mpr ⟨wsL_law0_r13_in, List.forall_mem_append.mpr ⟨wsL_law0_r14_in, List.forall_mem_append.mpr ⟨wsL_law0_r15_in, List.forall_mem_append.mpr ⟨wsL_law0_r16_in, List.forall_mem_append.mpr ⟨wsL_law0_r17_in, List.forall_mem_append.mpr ⟨wsL_law0_r18_in, wsL_law0_r19_in⟩⟩⟩⟩⟩⟩⟩⟩⟩⟩⟩⟩⟩⟩⟩⟩⟩⟩, wsX70_tb⟩, wsX80_tb⟩, wsX60_tb⟩, wsX40_tb⟩, wsX00_tb⟩, wsX20_tb⟩, wsX30_tb⟩, wsX10_tb⟩, fun _ h => absurd h List.not_mem_nil⟩
theorem wsL_law_x0 : ∀ w ∈ (vx_atS RX7 186 "java/lang/IllegalArgumentException" ["java/lang/RuntimeException", "java/lang/Exception"]).filter goodWord, w ∈ lw_tbl := by decide +kernel
theorem wsL_law_x1 : ∀ w ∈ (vx_atS RX7 191 "java/lang/IllegalStateException" ["java/lang/RuntimeException", "java/lang/Exception"]).filter goodWord, w ∈ lw_tbl := by decide +kernel
theorem wsL_law_x2 : ∀ w ∈ (vx_atS RX7 143 "java/lang/IndexOutOfBoundsException" ["java/lang/RuntimeException", "java/lang/Exception"]).filter goodWord, w ∈ lw_tbl := by decide +kernel
theorem wsL_law_in : ∀ w ∈ wsL_law, w ∈ lw_tbl := fun w h => (List.mem_append.mp h).elim (fun h => (List.mem_append.mp h).elim (fun h => (List.mem_append.mp h).elim (fun h => wsL_law_in0 w h) (fun h => wsL_law_x0 w h)) (fun h => wsL_law_x1 w h)) (fun h => wsL_law_x2 w h)
theorem inlX0 : ∀ w ∈ wsX00, w ∈ wsL_law := fun _ h => List.mem_append_left _ (List.mem_append_left _ (List.mem_append_left _ (List.mem_append_left _ (List.mem_append_left _ (List.mem_append_left _ (List.mem_append_left _ (List.mem_append_right _ h)))))))
theorem inX0 : ∀ w ∈ wsX00, w ∈ lw_tbl := fun w h => wsL_law_in w (inlX0 w h)
theorem inlX1 : ∀ w ∈ wsX10, w ∈ wsL_law := fun _ h => List.mem_append_left _ (List.mem_append_left _ (List.mem_append_left _ (List.mem_append_left _ (List.mem_append_right _ h))))
theorem inX1 : ∀ w ∈ wsX10, w ∈ lw_tbl := fun w h => wsL_law_in w (inlX1 w h)
theorem inlX2 : ∀ w ∈ wsX20, w ∈ wsL_law := fun _ h => List.mem_append_left _ (List.mem_append_left _ (List.mem_append_left _ (List.mem_append_left _ (List.mem_append_left _ (List.mem_append_left _ (List.mem_append_right _ h))))))
theorem inX2 : ∀ w ∈ wsX20, w ∈ lw_tbl := fun w h => wsL_law_in w (inlX2 w h)
theorem inlX3 : ∀ w ∈ wsX30, w ∈ wsL_law := fun _ h => List.mem_append_left _ (List.mem_append_left _ (List.mem_append_left _ (List.mem_append_left _ (List.mem_append_left _ (List.mem_append_right _ h)))))
theorem inX3 : ∀ w ∈ wsX30, w ∈ lw_tbl := fun w h => wsL_law_in w (inlX3 w h)
theorem inlX4 : ∀ w ∈ wsX40, w ∈ wsL_law := fun _ h => List.mem_append_left _ (List.mem_append_left _ (List.mem_append_left _ (List.mem_append_left _ (List.mem_append_left _ (List.mem_append_left _ (List.mem_append_left _ (List.mem_append_left _ (List.mem_append_right _ h))))))))
theorem inX4 : ∀ w ∈ wsX40, w ∈ lw_tbl := fun w h => wsL_law_in w (inlX4 w h)
theorem inX5 : ∀ w ∈ wsX50, w ∈ lw_tbl := by decide +kernel
theorem inlX6 : ∀ w ∈ wsX60, w ∈ wsL_law := fun _ h => List.mem_append_left _ (List.mem_append_left _ (List.mem_append_left _ (List.mem_append_left _ (List.mem_append_left _ (List.mem_append_left _ (List.mem_append_left _ (List.mem_append_left _ (List.mem_append_left _ (List.mem_append_right _ h)))))))))
theorem inX6 : ∀ w ∈ wsX60, w ∈ lw_tbl := fun w h => wsL_law_in w (inlX6 w h)
theorem inlX7 : ∀ w ∈ wsX70, w ∈ wsL_law := fun _ h => List.mem_append_left _ (List.mem_append_left _ (List.mem_append_left _ (List.mem_append_left _ (List.mem_append_left _ (List.mem_append_left _ (List.mem_append_left _ (List.mem_append_left _ (List.mem_append_left _ (List.mem_append_left _ (List.mem_append_left _ (List.mem_append_right _ h)))))))))))
theorem inX7 : ∀ w ∈ wsX70, w ∈ lw_tbl := fun w h => wsL_law_in w (inlX7 w h)
theorem inlX8 : ∀ w ∈ wsX80, w ∈ wsL_law := fun _ h => List.mem_append_left _ (List.mem_append_left _ (List.mem_append_left _ (List.mem_append_left _ (List.mem_append_left _ (List.mem_append_left _ (List.mem_append_left _ (List.mem_append_left _ (List.mem_append_left _ (List.mem_append_left _ (List.mem_append_right _ h))))))))))
theorem inX8 : ∀ w ∈ wsX80, w ∈ lw_tbl := fun w h => wsL_law_in w (inlX8 w h)
theorem inX9 : ∀ w ∈ wsX90, w ∈ lw_tbl := by decide +kernel
theorem inJ9 : ∀ w ∈ wsJ90, w ∈ lw_tbl := by decide +kernel
theorem inJ0 : ∀ w ∈ wsJ00, w ∈ lw_tbl := by decide +kernel
end
section
/-! THE WORLD, BY PLACES. Place 0: the class's object; 1..28 its town (1 the town, 2..5 its four rows, 6 its store, 7..10 beds, 11..14 drums, 15..18 smugglers, 19..28 cards); 29 the law's Sim, 30 its store, 31 its parts, 32..35 its rows of rows (beds, drums, smugglers, cards), 36..57 the rows (36.. beds, 40.. drums, 44.. smugglers, 48.. cards). A row that isn't made yet: the like object of the class's trial town lies at its place. Behind the places: further cells (what is being made). What moves is a table of numbers: place, field (or index). How many rows there are, and the addresses, stand in E. -/
abbrev gT : Type := (va_G × (Nat → Nat) × va_W × (Nat → Int32)) × (Nat → ClassId) × (Nat → Nat)
abbrev gS : Type := (Nat → Nat → Int32) × (Nat → Int64)
def gTown : List Nat := [5, 10, 11, 12, 13, 4, 0, 0, 0, 0, 2, 2, 2, 2, 3, 3, 3, 3, 1, 1, 1, 1, 1, 1, 1, 1, 1, 1]
def gTab : List Nat := [6] ++ gTown ++ [7, 8, 8, 14, 14, 14, 14, 15, 15, 15, 15, 15, 15, 15, 15, 15, 15, 15, 15, 15, 15, 15, 15, 15, 15, 15, 15, 15, 15]
def gK (k : Nat) : Nat := gTab.getD k 99
def gN (c : Nat) : Nat := [3, 5, 5, 5, 7].getD c 0
/-- how many rows of the sort o (0 beds, 1 drums, 2 smugglers, 3 cards) -/
abbrev gNo (E : gT) (o : Nat) : Nat := E.1.2.1 o
/-- from here on the heap is the law's own -/
abbrev gN0 (E : gT) : Nat := E.1.2.1 100
abbrev gTr (E : gT) : Nat := E.1.2.1 101
/-- the script: its cell, its length; what lies behind the places -/
abbrev gSb (E : gT) : Nat := E.1.2.1 102
abbrev gSl (E : gT) : Nat := E.1.2.1 103
abbrev gXs (E : gT) : va_W := E.1.2.2.1
/-- of a row's place: its sort, its number, its length, the kind of what lies there before -/
def gqS (k : Nat) : Nat := if k < 40 then 0 else if k < 44 then 1 else if k < 48 then 2 else 3
def gqI (k : Nat) : Nat := k - (36 + 4 * gqS k)
def gqL (k : Nat) : Nat := if k < 40 then 3 else 5
def gqK (k : Nat) : Nat := [0, 2, 3, 1].getD (gqS k) 0
def gO (σ : gS) (k c : Nat) : va_E := .inr (c, (List.range (gN c)).map (fun j => Value.int (σ.1 k j)))
/-- what lies at a place -/
def gw (E : gT) (σ : gS) (k : Nat) : va_E := match gK k with
  | 5 => .inr (5, [.ref (E.2.2 (k + 1)), .ref (E.2.2 (k + 2)), .ref (E.2.2 (k + 3)), .ref (E.2.2 (k + 4)), .ref (E.2.2 (k + 5)), .int (σ.1 k 5), .int (σ.1 k 6), .int (σ.1 k 7), .int (σ.1 k 8), .int (σ.1 k 9), .int (σ.1 k 10)])
  | 6 => .inr (6, [.ref (E.2.2 1), .ref (gTr E)])
  | 7 => .inr (7, [.int (σ.1 k 0), .ref (E.2.2 30), .ref (E.2.2 31), .int (σ.1 k 3), .int (σ.1 k 4), .int (σ.1 k 5), .int (σ.1 k 6), .ref (E.2.2 32), .ref (E.2.2 33), .ref (E.2.2 34), .ref (E.2.2 35)])
  | 8 => .inl (E.2.1 0, 2, .inl (σ.1 k))
  | 10 => .inl (E.2.1 2, 4, .inr (.inr (.inr (.inr (fun j => some (E.2.2 (k + 5 + j)))))))
  | 11 => .inl (E.2.1 3, 4, .inr (.inr (.inr (.inr (fun j => some (E.2.2 (k + 8 + j)))))))
  | 12 => .inl (E.2.1 4, 4, .inr (.inr (.inr (.inr (fun j => some (E.2.2 (k + 11 + j)))))))
  | 13 => .inl (E.2.1 5, 10, .inr (.inr (.inr (.inr (fun j => some (E.2.2 (k + 14 + j)))))))
  | 14 => .inl (E.2.1 1, gNo E (k - 32), .inr (.inr (.inr (.inr (fun j => some (E.2.2 (36 + 4 * (k - 32) + j)))))))
  | 15 => if gqI k < gNo E (gqS k) then .inl (E.2.1 0, gqL k, .inl (σ.1 k)) else gO σ k (gqK k)
  | c => gO σ k c
/-- the places, and what lies behind them -/
def gl (E : gT) (σ : gS) : va_W := (List.range 58).map (fun k => (E.2.2 k, gw E σ k)) ++ gXs E
def gTys (E : gT) : List (ClassId × FieldType) := [(E.2.1 0, .int), (E.2.1 1, .array .int), (E.2.1 2, .object RX0), (E.2.1 3, .object RX2), (E.2.1 4, .object RX3), (E.2.1 5, .object RX1)]
/-- which cells may be changed: the law's own -/
def gA (E : gT) (_ : Nat) : Nat → Prop := fun q => gN0 E ≤ q
/-- the heap holds the world, its cells apart -/
def gP (E : gT) (σ : gS) (H : Heap) : Prop := va_P E.1.1 vwCl (gl E σ) H ∧ va_D (gA E 0) (gl E σ)
/-- a number put -/
def gu (σ : gS) (k j : Nat) (v : Int32) : gS := (fun a b => if a = k ∧ b = j then v else σ.1 a b, σ.2)
theorem gl_plen {E : gT} {σ : gS} : ((List.range 58).map (fun k => (E.2.2 k, gw E σ k))).length = 58 := by simp
theorem gl_at {E : gT} {σ : gS} {k : Nat} (h : k < 58) : (gl E σ)[k]? = some (E.2.2 k, gw E σ k) := by
  unfold gl
  rw [List.getElem?_append_left (by rw [gl_plen]; exact h)]
  simp [h]
theorem gl_x {E : gT} {σ : gS} {k : Nat} : (gl E σ)[58 + k]? = (gXs E)[k]? := by
  unfold gl
  rw [List.getElem?_append_right (by rw [gl_plen]; omega), gl_plen]
  congr 1
  omega
theorem gl_len {E : gT} {σ : gS} : (gl E σ).length = 58 + (gXs E).length := by simp [gl]
theorem gl_set {E : gT} {σ σ' : gS} {k : Nat} (h : k < 58) (hq : ∀ q, q ≠ k → gw E σ' q = gw E σ q) : (gl E σ).set k (E.2.2 k, gw E σ' k) = gl E σ' := by
  apply List.ext_getElem?
  intro j
  by_cases hj : j = k
  · subst hj
    rw [List.getElem?_set_self (by rw [gl_len]; omega), gl_at h]
  · rw [List.getElem?_set_ne (Ne.symm hj)]
    by_cases hl : j < 58
    · rw [gl_at hl, gl_at hl, hq j hj]
    · obtain ⟨i, rfl⟩ : ∃ i, j = 58 + i := ⟨j - 58, by omega⟩
      rw [gl_x, gl_x]
theorem gu_ne {σ : gS} {k j q : Nat} {v : Int32} (h : q ≠ k) : (gu σ k j v).1 q = σ.1 q := by
  funext b
  simp [gu, h]
theorem gu_at {σ : gS} {k j : Nat} {v : Int32} (b : Nat) : (gu σ k j v).1 k b = if b = j then v else σ.1 k b := by
  simp [gu]
theorem gw_ne {E : gT} {σ σ' : gS} {q : Nat} (h : σ'.1 q = σ.1 q) : gw E σ' q = gw E σ q := by
  simp only [gw, gO, h]
theorem gw_gu {E : gT} {σ : gS} {k j q : Nat} {v : Int32} (h : q ≠ k) : gw E (gu σ k j v) q = gw E σ q := gw_ne (gu_ne h)
theorem gK_o {E : gT} {σ : gS} {k c : Nat} (h : gK k = c) (hc : c < 5) : gw E σ k = gO σ k c := by
  unfold gw
  rw [h]
  rcases (show c = 0 ∨ c = 1 ∨ c = 2 ∨ c = 3 ∨ c = 4 by omega) with rfl | rfl | rfl | rfl | rfl <;> rfl
theorem gO_get {σ : gS} {k c j : Nat} (h : j < gN c) : ((List.range (gN c)).map (fun j => Value.int (σ.1 k j)))[j]? = some (.int (σ.1 k j)) := by
  simp [h]
theorem gO_set {σ : gS} {k c j : Nat} {v : Int32} : ((List.range (gN c)).map (fun j => Value.int (σ.1 k j))).set j (.int v) = (List.range (gN c)).map (fun i => Value.int ((gu σ k j v).1 k i)) := by
  apply List.ext_getElem?
  intro i
  rw [List.getElem?_set]
  by_cases h : j = i
  · subst h
    by_cases h2 : j < gN c
    · simp [h2, gu]
    · simp [h2]
  · rw [if_neg h]
    by_cases h2 : i < gN c
    · simp [h2, gu, Ne.symm h]
    · simp [h2]
theorem gA_mono {E : gT} {a b : Nat} (_ : a ≤ b) : ∀ q, gA E b q → gA E a q := fun _ hq => hq
/-- statics and texts that a throw needs -/
def gX (A : Nat → Prop) (U : State) (H : Heap) : Prop :=
  (vx_Zq Bundle.tN "UNASSIGNED_STACK" Bundle.steD A U H ∧ vx_Zq Bundle.tN "SUPPRESSED_SENTINEL" Bundle.listD A U H) ∧
  ((∃ a, vk_R RX7 180 "there is no such number" a U) ∧ (∃ a, vk_R RX7 184 "the number is too small or too great" a U) ∧ (∃ a, vk_R RX7 189 "this cannot be done as things are" a U))
theorem gX.moved {A : Nat → Prop} {u U : State} {H : Heap} (hv : U.vm = u.vm) (h : gX A u H) : gX A U H := by
  have ha : u.vm.Alike U.vm := by rw [hv]; exact Vm.Alike.refl _
  obtain ⟨⟨a1, a2⟩, ⟨⟨q2, b2⟩, ⟨q3, b3⟩, ⟨q4, b4⟩⟩⟩ := h
  exact ⟨⟨a1.moved ha, a2.moved ha⟩, ⟨⟨q2, b2.same hv⟩, ⟨q3, b3.same hv⟩, ⟨q4, b4.same hv⟩⟩⟩
theorem gX.warm {A B : Nat → Prop} {s U : State} {H H1 : Heap} (hW : s.WarmedH U.vm) (hq : ∀ a : Nat, a < H.size → ¬ A a → H1[a]? = H[a]?) (hAB : ∀ q, B q → A q) (h : gX A s H) : gX B U H1 := by
  have ha := hW.alike
  obtain ⟨⟨a1, a2⟩, ⟨⟨q2, b2⟩, ⟨q3, b3⟩, ⟨q4, b4⟩⟩⟩ := h
  exact ⟨⟨((a1.kept hq).narrow hAB).moved ha, ((a2.kept hq).narrow hAB).moved ha⟩, ⟨⟨q2, b2.warm hW⟩, ⟨q3, b3.warm hW⟩, ⟨q4, b4.warm hW⟩⟩⟩
abbrev gIA : String := "java/lang/IllegalArgumentException"
abbrev gIS : String := "java/lang/IllegalStateException"
abbrev gIO : String := "java/lang/IndexOutOfBoundsException"
/-- words that a class's tables alone don't keep: what is declared, what may be cast, rows of rows -/
def gF (U : State) : Prop :=
  (va_Nw (.declares ⟨RX5, "size", "()I"⟩) U ∧ va_Nw (.declares ⟨RX5, "tell", "(I)I"⟩) U ∧ va_Nw (.declares (Bundle.initS "java/lang/RuntimeException")) U ∧ va_Nw (.declares (Bundle.initS "java/lang/Exception")) U ∧ va_Nw (.declares (Bundle.initS Bundle.tN)) U) ∧
  (va_Nw (.castable gIA gIA) U ∧ va_Nw (.castable gIS gIS) U ∧ va_Nw (.castable gIO gIO) U) ∧
  (Cond.arrayOver (.array .int)).before #[] U = true
theorem gF.warm {s U : State} (hW : s.WarmedH U.vm) (h : gF s) : gF U := by
  obtain ⟨⟨a1, a2, a3, a4, a5⟩, ⟨b1, b2, b3⟩, n1⟩ := h
  exact ⟨⟨va_Nw.warmD hW a1, va_Nw.warmD hW a2, va_Nw.warmD hW a3, va_Nw.warmD hW a4, va_Nw.warmD hW a5⟩, ⟨va_Nw.warmC hW b1, va_Nw.warmC hW b2, va_Nw.warmC hW b3⟩, over_moved hW.alike n1⟩
theorem gF.same {u U : State} (hv : U.vm = u.vm) (h : gF u) : gF U := by
  obtain ⟨⟨a1, a2, a3, a4, a5⟩, ⟨b1, b2, b3⟩, n1⟩ := h
  have ha : u.vm.Alike U.vm := by rw [hv]; exact Vm.Alike.refl _
  exact ⟨⟨va_Nw.same rfl hv.symm a1, va_Nw.same rfl hv.symm a2, va_Nw.same rfl hv.symm a3, va_Nw.same rfl hv.symm a4, va_Nw.same rfl hv.symm a5⟩, ⟨va_Nw.same rfl hv.symm b1, va_Nw.same rfl hv.symm b2, va_Nw.same rfl hv.symm b3⟩, over_moved ha n1⟩
/-- what holds of the tables and of all that lies about the world, at any method's entry -/
def gC (E : gT) (U : State) : Prop :=
  va_K E.1.1 vwCl (gTys E) U ∧ (gN0 E ≤ U.heap.size ∧ gNo E 0 ≤ 4 ∧ gNo E 1 ≤ 4 ∧ gNo E 2 ≤ 4 ∧ gNo E 3 ≤ 10 ∧ (va_X (gSb E) (gSl E) E.1.2.2.2 U U.heap ∧ gSb E < gN0 E ∧ gSl E ≤ 260)) ∧ gF U ∧ gX (gA E 0) U U.heap
theorem gC.same {E : gT} {u U : State} (hv : U.vm = u.vm) (hh : U.heap = u.heap) (h : gC E u) : gC E U := by
  obtain ⟨h1, ⟨n1, n2, n3, n4, n5, x1, x2, x3⟩, h3, h5⟩ := h
  have ha : u.vm.Alike U.vm := by rw [hv]; exact Vm.Alike.refl _
  refine ⟨h1.moved ha, ⟨by rw [hh]; exact n1, n2, n3, n4, n5, ?_, x2, x3⟩, h3.same hv, ?_⟩
  · rw [hh]
    exact x1.moved ha
  · rw [hh]
    exact h5.moved hv
theorem gC.go {E : gT} {s U : State} {H : Heap} {locs : List Loc} (h : gC E s) (hS : va_S (gA E s.heap.size) s.heap H locs) (hU : U.heap = H) (hW : s.WarmedH U.vm) : gC E U := by
  obtain ⟨h1, ⟨n1, n2, n3, n4, n5, x1, x2, x3⟩, h3, h5⟩ := h
  refine ⟨h1.moved hW.alike, ⟨by rw [hU]; exact Nat.le_trans n1 hS.1, n2, n3, n4, n5, ?_, x2, x3⟩, h3.warm hW, ?_⟩
  · rw [hU]
    exact (x1.kept (hS.2.1 _ (Nat.lt_of_lt_of_le x2 n1) (fun z => absurd z (Nat.not_le_of_lt x2)))).moved hW.alike
  · rw [hU]
    exact h5.warm hW hS.2.1 (fun _ h => h)
theorem gC.new {E : gT} {s : State} {sz : Nat} (h : gC E s) : ∀ q, s.heap.size ≤ q → gA E sz q := fun _ hq => Nat.le_trans h.2.1.1 hq
end
section
section GR
variable {p : Program} {l : Launch} {e : Env} {R : Room} {s : State} {m : MethodId} {args : Array Value} {below : List Frame} {meth : Method} {c : Code} {Q : State → Prop}
variable {cc : ByteArray} {nL : Nat} {Ts : List Cond} {own : String} {E : gT} {σ : gS} {cells slots pc : Nat} {lv lv' : List (Nat × Value)} {rest : List Value}
/-- a walk's point: the world's numbers, the room used, the pc, locals, stack: from any heap that holds them -/
def gJ (p : Program) (l : Launch) (e : Env) (R : Room) (s : State) (m : MethodId) (args : Array Value) (below : List Frame) (meth : Method) (c : Code) (Q : State → Prop) (nL : Nat) (E : gT) (σ : gS) (cells slots pc : Nat) (lv : List (Nat × Value)) (st : List Value) : Prop :=
  ∀ (H : Heap) (locs : List Loc) (ls : Array Slot), gP E σ H → va_S (gA E s.heap.size) s.heap H locs → lv_has ls nL lv → W p l e R s m args below meth c H locs cells slots Q (F0 m pc ls st)
theorem g_eq {σ' : gS} {st st' : List Value} (h1 : σ = σ') (h2 : st = st') (k : gJ p l e R s m args below meth c Q nL E σ' cells slots pc lv st') : gJ p l e R s m args below meth c Q nL E σ cells slots pc lv st := by
  subst h1; subst h2; exact k
theorem g_wid {k n : Nat} (h1 : cells ≤ k) (h2 : slots ≤ n) (kk : gJ p l e R s m args below meth c Q nL E σ k n pc lv rest) : gJ p l e R s m args below meth c Q nL E σ cells slots pc lv rest :=
  fun H locs ls hP hS hl => W.widen h1 h2 (kk H locs ls hP hS hl)
theorem g_lvs (ks : List Nat) (h : lv_pick lv ks = lv') (kk : gJ p l e R s m args below meth c Q nL E σ cells slots pc lv' rest) : gJ p l e R s m args below meth c Q nL E σ cells slots pc lv rest :=
  fun H locs ls hP hS hl => kk H locs ls hP hS (lv_sub hl ks h)
theorem g_const (S : CallFix p m c cc nL s args Ts own) {n : Int} {v : Int32} (d : decode cc pc = .ok (.iconst n, 1)) (hv : Int32.ofInt n = v) (kk : gJ p l e R s m args below meth c Q nL E σ cells slots (pc + 1) lv (.int v :: rest)) : gJ p l e R s m args below meth c Q nL E σ cells slots pc lv rest :=
  fun H locs ls hP hS hl => lv_iconst S.1 S.2.1 d hv (kk H locs ls hP hS hl)
theorem g_bipush (S : CallFix p m c cc nL s args Ts own) {n : Int} {v : Int32} (d : decode cc pc = .ok (.bipush n, 2)) (hv : (Int8.ofInt n).toInt32 = v) (kk : gJ p l e R s m args below meth c Q nL E σ cells slots (pc + 2) lv (.int v :: rest)) : gJ p l e R s m args below meth c Q nL E σ cells slots pc lv rest :=
  fun H locs ls hP hS hl => lv_bipush S.1 S.2.1 d hv (kk H locs ls hP hS hl)
theorem g_lconst (S : CallFix p m c cc nL s args Ts own) {n : Fin 2} {v : Int64} (d : decode cc pc = .ok (.lconst n, 1)) (hv : Int64.ofNat (n : Nat) = v) (kk : gJ p l e R s m args below meth c Q nL E σ cells slots (pc + 1) lv (.long v :: rest)) : gJ p l e R s m args below meth c Q nL E σ cells slots pc lv rest :=
  fun H locs ls hP hS hl => lv_lconst S.1 S.2.1 d hv (kk H locs ls hP hS hl)
theorem g_dconst (S : CallFix p m c cc nL s args Ts own) (d : decode cc pc = .ok (.dconst 0, 1)) (kk : gJ p l e R s m args below meth c Q nL E σ cells slots (pc + 1) lv (.double FP.dconst0 :: rest)) : gJ p l e R s m args below meth c Q nL E σ cells slots pc lv rest :=
  fun H locs ls hP hS hl => lv_dconst0 S.1 S.2.1 d (kk H locs ls hP hS hl)
theorem g_ldc2 (S : CallFix p m c cc nL s args Ts own) {index : Nat} {v : Int64} (hw : Cond.constantLong own index v ∈ Ts) (d : decode cc pc = .ok (.ldc2_w index, 3)) (kk : gJ p l e R s m args below meth c Q nL E σ cells slots (pc + 3) lv (.long v :: rest)) : gJ p l e R s m args below meth c Q nL E σ cells slots pc lv rest :=
  fun H locs ls hP hS hl => lv_ldc2 S.1 S.2.1 S.2.2.2.1 (S.2.2.2.2 _ hw) d (kk H locs ls hP hS hl)
theorem g_iload_n (S : CallFix p m c cc nL s args Ts own) (j : Nat) {k : Fin 4} {x : Int32} (d : decode cc pc = .ok (.iload_n k, 1)) (hj : lv[j]? = some ((k : Nat), .int x)) (kk : gJ p l e R s m args below meth c Q nL E σ cells slots (pc + 1) lv (.int x :: rest)) : gJ p l e R s m args below meth c Q nL E σ cells slots pc lv rest :=
  fun H locs ls hP hS hl => lv_iload_n S.1 S.2.1 d rfl (lv_at hl j hj) (kk H locs ls hP hS hl)
theorem g_iload (S : CallFix p m c cc nL s args Ts own) (j : Nat) {i : Nat} {x : Int32} (d : decode cc pc = .ok (.iload i, 2)) (hj : lv[j]? = some (i, .int x)) (kk : gJ p l e R s m args below meth c Q nL E σ cells slots (pc + 2) lv (.int x :: rest)) : gJ p l e R s m args below meth c Q nL E σ cells slots pc lv rest :=
  fun H locs ls hP hS hl => lv_iload S.1 S.2.1 d (lv_at hl j hj) (kk H locs ls hP hS hl)
theorem g_lload_n (S : CallFix p m c cc nL s args Ts own) (j : Nat) {k : Fin 4} {x : Int64} (d : decode cc pc = .ok (.lload_n k, 1)) (hj : lv[j]? = some ((k : Nat), .long x)) (kk : gJ p l e R s m args below meth c Q nL E σ cells slots (pc + 1) lv (.long x :: rest)) : gJ p l e R s m args below meth c Q nL E σ cells slots pc lv rest :=
  fun H locs ls hP hS hl => lv_lload_n S.1 S.2.1 d rfl (lv_at hl j hj) (kk H locs ls hP hS hl)
theorem g_lload (S : CallFix p m c cc nL s args Ts own) (j : Nat) {i : Nat} {x : Int64} (d : decode cc pc = .ok (.lload i, 2)) (hj : lv[j]? = some (i, .long x)) (kk : gJ p l e R s m args below meth c Q nL E σ cells slots (pc + 2) lv (.long x :: rest)) : gJ p l e R s m args below meth c Q nL E σ cells slots pc lv rest :=
  fun H locs ls hP hS hl => lv_lload S.1 S.2.1 d (lv_at hl j hj) (kk H locs ls hP hS hl)
theorem g_aload_n (S : CallFix p m c cc nL s args Ts own) (j : Nat) {k : Fin 4} {x : Nat} (d : decode cc pc = .ok (.aload_n k, 1)) (hj : lv[j]? = some ((k : Nat), .ref x)) (kk : gJ p l e R s m args below meth c Q nL E σ cells slots (pc + 1) lv (.ref x :: rest)) : gJ p l e R s m args below meth c Q nL E σ cells slots pc lv rest :=
  fun H locs ls hP hS hl => lv_aload_n S.1 S.2.1 d rfl (lv_at hl j hj) (kk H locs ls hP hS hl)
theorem g_aload (S : CallFix p m c cc nL s args Ts own) (j : Nat) {i : Nat} {x : Nat} (d : decode cc pc = .ok (.aload i, 2)) (hj : lv[j]? = some (i, .ref x)) (kk : gJ p l e R s m args below meth c Q nL E σ cells slots (pc + 2) lv (.ref x :: rest)) : gJ p l e R s m args below meth c Q nL E σ cells slots pc lv rest :=
  fun H locs ls hP hS hl => lv_aload S.1 S.2.1 d (lv_at hl j hj) (kk H locs ls hP hS hl)
theorem g_dload_n (S : CallFix p m c cc nL s args Ts own) (j : Nat) {k : Fin 4} {x : UInt64} (d : decode cc pc = .ok (.dload_n k, 1)) (hj : lv[j]? = some ((k : Nat), .double x)) (kk : gJ p l e R s m args below meth c Q nL E σ cells slots (pc + 1) lv (.double x :: rest)) : gJ p l e R s m args below meth c Q nL E σ cells slots pc lv rest :=
  fun H locs ls hP hS hl => lv_dload_n S.1 S.2.1 d rfl (lv_at hl j hj) (kk H locs ls hP hS hl)
theorem g_dload (S : CallFix p m c cc nL s args Ts own) (j : Nat) {i : Nat} {x : UInt64} (d : decode cc pc = .ok (.dload i, 2)) (hj : lv[j]? = some (i, .double x)) (kk : gJ p l e R s m args below meth c Q nL E σ cells slots (pc + 2) lv (.double x :: rest)) : gJ p l e R s m args below meth c Q nL E σ cells slots pc lv rest :=
  fun H locs ls hP hS hl => lv_dload S.1 S.2.1 d (lv_at hl j hj) (kk H locs ls hP hS hl)
theorem g_istore_n (S : CallFix p m c cc nL s args Ts own) (lv' : List (Nat × Value)) {k : Fin 4} {x : Int32} (d : decode cc pc = .ok (.istore_n k, 1)) (hn : (k : Nat) < nL) (hl' : ((k : Nat), Value.int x) :: lv.filter (fun q => !(q.1 == (k : Nat)) && !(q.1 + 1 == (k : Nat) && q.2.category == 2)) = lv') (kk : gJ p l e R s m args below meth c Q nL E σ cells slots (pc + 1) lv' rest) : gJ p l e R s m args below meth c Q nL E σ cells slots pc lv (.int x :: rest) :=
  fun H locs ls hP hS hl => lv_istore_n S.1 S.2.1 d rfl hl hn hl' (fun ls' hl' => kk H locs ls' hP hS hl')
theorem g_istore (S : CallFix p m c cc nL s args Ts own) (lv' : List (Nat × Value)) {i : Nat} {x : Int32} (d : decode cc pc = .ok (.istore i, 2)) (hn : i < nL) (hl' : (i, Value.int x) :: lv.filter (fun q => !(q.1 == i) && !(q.1 + 1 == i && q.2.category == 2)) = lv') (kk : gJ p l e R s m args below meth c Q nL E σ cells slots (pc + 2) lv' rest) : gJ p l e R s m args below meth c Q nL E σ cells slots pc lv (.int x :: rest) :=
  fun H locs ls hP hS hl => lv_istore S.1 S.2.1 d hl hn hl' (fun ls' hl' => kk H locs ls' hP hS hl')
theorem g_lstore_n (S : CallFix p m c cc nL s args Ts own) (lv' : List (Nat × Value)) {k : Fin 4} {x : Int64} (d : decode cc pc = .ok (.lstore_n k, 1)) (hn : (k : Nat) + 1 < nL) (hl' : ((k : Nat), Value.long x) :: lv.filter (fun q => !(q.1 == (k : Nat)) && (!(q.1 == (k : Nat) + 1) && !(q.1 + 1 == (k : Nat) && q.2.category == 2))) = lv') (kk : gJ p l e R s m args below meth c Q nL E σ cells slots (pc + 1) lv' rest) : gJ p l e R s m args below meth c Q nL E σ cells slots pc lv (.long x :: rest) :=
  fun H locs ls hP hS hl => lv_lstore_n S.1 S.2.1 d rfl hl hn hl' (fun ls' hl' => kk H locs ls' hP hS hl')
theorem g_lstore (S : CallFix p m c cc nL s args Ts own) (lv' : List (Nat × Value)) {i : Nat} {x : Int64} (d : decode cc pc = .ok (.lstore i, 2)) (hn : i + 1 < nL) (hl' : (i, Value.long x) :: lv.filter (fun q => !(q.1 == i) && (!(q.1 == i + 1) && !(q.1 + 1 == i && q.2.category == 2))) = lv') (kk : gJ p l e R s m args below meth c Q nL E σ cells slots (pc + 2) lv' rest) : gJ p l e R s m args below meth c Q nL E σ cells slots pc lv (.long x :: rest) :=
  fun H locs ls hP hS hl => lv_lstore S.1 S.2.1 d hl hn hl' (fun ls' hl' => kk H locs ls' hP hS hl')
theorem g_astore_n (S : CallFix p m c cc nL s args Ts own) (lv' : List (Nat × Value)) {k : Fin 4} {x : Nat} (d : decode cc pc = .ok (.astore_n k, 1)) (hn : (k : Nat) < nL) (hl' : ((k : Nat), Value.ref x) :: lv.filter (fun q => !(q.1 == (k : Nat)) && !(q.1 + 1 == (k : Nat) && q.2.category == 2)) = lv') (kk : gJ p l e R s m args below meth c Q nL E σ cells slots (pc + 1) lv' rest) : gJ p l e R s m args below meth c Q nL E σ cells slots pc lv (.ref x :: rest) :=
  fun H locs ls hP hS hl => lv_astore_n S.1 S.2.1 d rfl hl hn hl' (fun ls' hl' => kk H locs ls' hP hS hl')
theorem g_astore (S : CallFix p m c cc nL s args Ts own) (lv' : List (Nat × Value)) {i : Nat} {x : Nat} (d : decode cc pc = .ok (.astore i, 2)) (hn : i < nL) (hl' : (i, Value.ref x) :: lv.filter (fun q => !(q.1 == i) && !(q.1 + 1 == i && q.2.category == 2)) = lv') (kk : gJ p l e R s m args below meth c Q nL E σ cells slots (pc + 2) lv' rest) : gJ p l e R s m args below meth c Q nL E σ cells slots pc lv (.ref x :: rest) :=
  fun H locs ls hP hS hl => lv_astore S.1 S.2.1 d hl hn hl' (fun ls' hl' => kk H locs ls' hP hS hl')
theorem g_dstore_n (S : CallFix p m c cc nL s args Ts own) (lv' : List (Nat × Value)) {k : Fin 4} {x : UInt64} (d : decode cc pc = .ok (.dstore_n k, 1)) (hn : (k : Nat) + 1 < nL) (hl' : ((k : Nat), Value.double x) :: lv.filter (fun q => !(q.1 == (k : Nat)) && (!(q.1 == (k : Nat) + 1) && !(q.1 + 1 == (k : Nat) && q.2.category == 2))) = lv') (kk : gJ p l e R s m args below meth c Q nL E σ cells slots (pc + 1) lv' rest) : gJ p l e R s m args below meth c Q nL E σ cells slots pc lv (.double x :: rest) :=
  fun H locs ls hP hS hl => lv_dstore_n S.1 S.2.1 d rfl hl hn hl' (fun ls' hl' => kk H locs ls' hP hS hl')
theorem g_dstore (S : CallFix p m c cc nL s args Ts own) (lv' : List (Nat × Value)) {i : Nat} {x : UInt64} (d : decode cc pc = .ok (.dstore i, 2)) (hn : i + 1 < nL) (hl' : (i, Value.double x) :: lv.filter (fun q => !(q.1 == i) && (!(q.1 == i + 1) && !(q.1 + 1 == i && q.2.category == 2))) = lv') (kk : gJ p l e R s m args below meth c Q nL E σ cells slots (pc + 2) lv' rest) : gJ p l e R s m args below meth c Q nL E σ cells slots pc lv (.double x :: rest) :=
  fun H locs ls hP hS hl => lv_dstore S.1 S.2.1 d hl hn hl' (fun ls' hl' => kk H locs ls' hP hS hl')
theorem g_iinc (S : CallFix p m c cc nL s args Ts own) (lv' : List (Nat × Value)) (j : Nat) (v : Int32) {i : Nat} {n : Int} {x : Int32} (d : decode cc pc = .ok (.iinc i n, 3)) (hj : lv[j]? = some (i, .int x)) (hv : x + Int32.ofInt n = v) (hn : i < nL) (hl' : (i, Value.int v) :: lv.filter (fun q => !(q.1 == i) && !(q.1 + 1 == i && q.2.category == 2)) = lv') (kk : gJ p l e R s m args below meth c Q nL E σ cells slots (pc + 3) lv' rest) : gJ p l e R s m args below meth c Q nL E σ cells slots pc lv rest :=
  fun H locs ls hP hS hl => lv_iinc S.1 S.2.1 d hl hj hv hn hl' (fun ls' hl' => kk H locs ls' hP hS hl')
theorem g_iadd (S : CallFix p m c cc nL s args Ts own) {x y : Int32} (d : decode cc pc = .ok (.iadd, 1)) (kk : gJ p l e R s m args below meth c Q nL E σ cells slots (pc + 1) lv (.int (x + y) :: rest)) : gJ p l e R s m args below meth c Q nL E σ cells slots pc lv (.int y :: .int x :: rest) :=
  fun H locs ls hP hS hl => lv_iadd S.1 S.2.1 d (kk H locs ls hP hS hl)
theorem g_isub (S : CallFix p m c cc nL s args Ts own) {x y : Int32} (d : decode cc pc = .ok (.isub, 1)) (kk : gJ p l e R s m args below meth c Q nL E σ cells slots (pc + 1) lv (.int (x - y) :: rest)) : gJ p l e R s m args below meth c Q nL E σ cells slots pc lv (.int y :: .int x :: rest) :=
  fun H locs ls hP hS hl => lv_isub S.1 S.2.1 d (kk H locs ls hP hS hl)
theorem g_imul (S : CallFix p m c cc nL s args Ts own) {x y : Int32} (d : decode cc pc = .ok (.imul, 1)) (kk : gJ p l e R s m args below meth c Q nL E σ cells slots (pc + 1) lv (.int (x * y) :: rest)) : gJ p l e R s m args below meth c Q nL E σ cells slots pc lv (.int y :: .int x :: rest) :=
  fun H locs ls hP hS hl => lv_imul S.1 S.2.1 d (kk H locs ls hP hS hl)
theorem g_iand (S : CallFix p m c cc nL s args Ts own) {x y : Int32} (d : decode cc pc = .ok (.iand, 1)) (kk : gJ p l e R s m args below meth c Q nL E σ cells slots (pc + 1) lv (.int (x &&& y) :: rest)) : gJ p l e R s m args below meth c Q nL E σ cells slots pc lv (.int y :: .int x :: rest) :=
  fun H locs ls hP hS hl => lv_iand S.1 S.2.1 d (kk H locs ls hP hS hl)
theorem g_ishr (S : CallFix p m c cc nL s args Ts own) {x y : Int32} (d : decode cc pc = .ok (.ishr, 1)) (kk : gJ p l e R s m args below meth c Q nL E σ cells slots (pc + 1) lv (.int (x >>> (y &&& 31)) :: rest)) : gJ p l e R s m args below meth c Q nL E σ cells slots pc lv (.int y :: .int x :: rest) :=
  fun H locs ls hP hS hl => lv_ishr S.1 S.2.1 d (kk H locs ls hP hS hl)
theorem g_ladd (S : CallFix p m c cc nL s args Ts own) {x y : Int64} (d : decode cc pc = .ok (.ladd, 1)) (kk : gJ p l e R s m args below meth c Q nL E σ cells slots (pc + 1) lv (.long (x + y) :: rest)) : gJ p l e R s m args below meth c Q nL E σ cells slots pc lv (.long y :: .long x :: rest) :=
  fun H locs ls hP hS hl => lv_ladd S.1 S.2.1 d (kk H locs ls hP hS hl)
theorem g_lmul (S : CallFix p m c cc nL s args Ts own) {x y : Int64} (d : decode cc pc = .ok (.lmul, 1)) (kk : gJ p l e R s m args below meth c Q nL E σ cells slots (pc + 1) lv (.long (x * y) :: rest)) : gJ p l e R s m args below meth c Q nL E σ cells slots pc lv (.long y :: .long x :: rest) :=
  fun H locs ls hP hS hl => lv_lmul S.1 S.2.1 d (kk H locs ls hP hS hl)
theorem g_idiv (S : CallFix p m c cc nL s args Ts own) {x y : Int32} (d : decode cc pc = .ok (.idiv, 1)) (hne : ¬ y = 0) (kk : gJ p l e R s m args below meth c Q nL E σ cells slots (pc + 1) lv (.int (x / y) :: rest)) : gJ p l e R s m args below meth c Q nL E σ cells slots pc lv (.int y :: .int x :: rest) :=
  fun H locs ls hP hS hl => lv_idiv S.1 S.2.1 d hne (kk H locs ls hP hS hl)
theorem g_irem (S : CallFix p m c cc nL s args Ts own) {x y : Int32} (d : decode cc pc = .ok (.irem, 1)) (hne : ¬ y = 0) (kk : gJ p l e R s m args below meth c Q nL E σ cells slots (pc + 1) lv (.int (x - x / y * y) :: rest)) : gJ p l e R s m args below meth c Q nL E σ cells slots pc lv (.int y :: .int x :: rest) :=
  fun H locs ls hP hS hl => lv_irem S.1 S.2.1 d hne (kk H locs ls hP hS hl)
theorem g_ineg (S : CallFix p m c cc nL s args Ts own) {x : Int32} (d : decode cc pc = .ok (.ineg, 1)) (kk : gJ p l e R s m args below meth c Q nL E σ cells slots (pc + 1) lv (.int (-x) :: rest)) : gJ p l e R s m args below meth c Q nL E σ cells slots pc lv (.int x :: rest) :=
  fun H locs ls hP hS hl => lv_ineg S.1 S.2.1 d (kk H locs ls hP hS hl)
theorem g_i2l (S : CallFix p m c cc nL s args Ts own) {x : Int32} (d : decode cc pc = .ok (.i2l, 1)) (kk : gJ p l e R s m args below meth c Q nL E σ cells slots (pc + 1) lv (.long x.toInt64 :: rest)) : gJ p l e R s m args below meth c Q nL E σ cells slots pc lv (.int x :: rest) :=
  fun H locs ls hP hS hl => lv_i2l S.1 S.2.1 d rfl (kk H locs ls hP hS hl)
theorem g_i2d (S : CallFix p m c cc nL s args Ts own) {x : Int32} (d : decode cc pc = .ok (.i2d, 1)) (kk : gJ p l e R s m args below meth c Q nL E σ cells slots (pc + 1) lv (.double (FP.i2d x) :: rest)) : gJ p l e R s m args below meth c Q nL E σ cells slots pc lv (.int x :: rest) :=
  fun H locs ls hP hS hl => lv_i2d S.1 S.2.1 d (kk H locs ls hP hS hl)
theorem g_dcmp (S : CallFix p m c cc nL s args Ts own) {x y : UInt64} {op : CmpOp} (d : decode cc pc = .ok (.dcmp op, 1)) (kk : gJ p l e R s m args below meth c Q nL E σ cells slots (pc + 1) lv (.int (Op.cmpValue (FP.dcmp x y) op) :: rest)) : gJ p l e R s m args below meth c Q nL E σ cells slots pc lv (.double y :: .double x :: rest) :=
  fun H locs ls hP hS hl => lv_dcmp S.1 S.2.1 d (kk H locs ls hP hS hl)
theorem g_dup (S : CallFix p m c cc nL s args Ts own) {va : Value} (d : decode cc pc = .ok (.dup, 1)) (h1 : va.category = 1) (kk : gJ p l e R s m args below meth c Q nL E σ cells slots (pc + 1) lv (va :: va :: rest)) : gJ p l e R s m args below meth c Q nL E σ cells slots pc lv (va :: rest) :=
  fun H locs ls hP hS hl => lv_dup S.1 S.2.1 d h1 (kk H locs ls hP hS hl)
theorem g_dup_x1 (S : CallFix p m c cc nL s args Ts own) {va vb : Value} (d : decode cc pc = .ok (.dup_x1, 1)) (h1 : va.category = 1) (h2 : vb.category = 1) (kk : gJ p l e R s m args below meth c Q nL E σ cells slots (pc + 1) lv (va :: vb :: va :: rest)) : gJ p l e R s m args below meth c Q nL E σ cells slots pc lv (va :: vb :: rest) :=
  fun H locs ls hP hS hl => lv_dup_x1 S.1 S.2.1 d h1 h2 (kk H locs ls hP hS hl)
theorem g_dup2 (S : CallFix p m c cc nL s args Ts own) {va vb : Value} (d : decode cc pc = .ok (.dup2, 1)) (h1 : va.category = 1) (h2 : vb.category = 1) (kk : gJ p l e R s m args below meth c Q nL E σ cells slots (pc + 1) lv (va :: vb :: va :: vb :: rest)) : gJ p l e R s m args below meth c Q nL E σ cells slots pc lv (va :: vb :: rest) :=
  fun H locs ls hP hS hl => lv_dup2_11 S.1 S.2.1 d h1 h2 (kk H locs ls hP hS hl)
theorem g_pop (S : CallFix p m c cc nL s args Ts own) {va : Value} (d : decode cc pc = .ok (.pop, 1)) (h1 : va.category = 1) (kk : gJ p l e R s m args below meth c Q nL E σ cells slots (pc + 1) lv rest) : gJ p l e R s m args below meth c Q nL E σ cells slots pc lv (va :: rest) :=
  fun H locs ls hP hS hl => lv_pop S.1 S.2.1 d h1 (kk H locs ls hP hS hl)
theorem g_goto (S : CallFix p m c cc nL s args Ts own) {off : Int} (tgt : Nat) (d : decode cc pc = .ok (.goto off, 3)) (ht : (pc : Int) + off = (tgt : Int)) (kk : gJ p l e R s m args below meth c Q nL E σ cells slots tgt lv rest) : gJ p l e R s m args below meth c Q nL E σ cells slots pc lv rest :=
  fun H locs ls hP hS hl => lv_goto S.1 S.2.1 d ht (kk H locs ls hP hS hl)
theorem g_lcmp (S : CallFix p m c cc nL s args Ts own) {x y : Int64} (d : decode cc pc = .ok (.lcmp, 1)) (kk : gJ p l e R s m args below meth c Q nL E σ cells slots (pc + 1) lv (.int (lg_cmp x y) :: rest)) : gJ p l e R s m args below meth c Q nL E σ cells slots pc lv (.long y :: .long x :: rest) :=
  fun H locs ls hP hS hl => W.lcmp S.1 S.2.1 d (kk H locs ls hP hS hl)
theorem g_if_eq (S : CallFix p m c cc nL s args Ts own) {x : Int32} {off : Int} (tgt : Nat) (d : decode cc pc = .ok (.ifCond .eq off, 3)) (ht : (pc : Int) + off = (tgt : Int)) (kt : x = 0 → gJ p l e R s m args below meth c Q nL E σ cells slots tgt lv rest) (kf : ¬ (x = 0) → gJ p l e R s m args below meth c Q nL E σ cells slots (pc + 3) lv rest) : gJ p l e R s m args below meth c Q nL E σ cells slots pc lv (.int x :: rest) :=
  fun H locs ls hP hS hl => lv_if_eq S.1 S.2.1 d ht (fun h => kt h H locs ls hP hS hl) (fun h => kf h H locs ls hP hS hl)
theorem g_if_ne (S : CallFix p m c cc nL s args Ts own) {x : Int32} {off : Int} (tgt : Nat) (d : decode cc pc = .ok (.ifCond .ne off, 3)) (ht : (pc : Int) + off = (tgt : Int)) (kt : ¬ x = 0 → gJ p l e R s m args below meth c Q nL E σ cells slots tgt lv rest) (kf : x = 0 → gJ p l e R s m args below meth c Q nL E σ cells slots (pc + 3) lv rest) : gJ p l e R s m args below meth c Q nL E σ cells slots pc lv (.int x :: rest) :=
  fun H locs ls hP hS hl => lv_if_ne S.1 S.2.1 d ht (fun h => kt h H locs ls hP hS hl) (fun h => kf h H locs ls hP hS hl)
theorem g_if_lt (S : CallFix p m c cc nL s args Ts own) {x : Int32} {off : Int} (tgt : Nat) (d : decode cc pc = .ok (.ifCond .lt off, 3)) (ht : (pc : Int) + off = (tgt : Int)) (kt : x < 0 → gJ p l e R s m args below meth c Q nL E σ cells slots tgt lv rest) (kf : ¬ (x < 0) → gJ p l e R s m args below meth c Q nL E σ cells slots (pc + 3) lv rest) : gJ p l e R s m args below meth c Q nL E σ cells slots pc lv (.int x :: rest) :=
  fun H locs ls hP hS hl => lv_if_lt S.1 S.2.1 d ht (fun h => kt h H locs ls hP hS hl) (fun h => kf h H locs ls hP hS hl)
theorem g_if_ge (S : CallFix p m c cc nL s args Ts own) {x : Int32} {off : Int} (tgt : Nat) (d : decode cc pc = .ok (.ifCond .ge off, 3)) (ht : (pc : Int) + off = (tgt : Int)) (kt : 0 ≤ x → gJ p l e R s m args below meth c Q nL E σ cells slots tgt lv rest) (kf : ¬ (0 ≤ x) → gJ p l e R s m args below meth c Q nL E σ cells slots (pc + 3) lv rest) : gJ p l e R s m args below meth c Q nL E σ cells slots pc lv (.int x :: rest) :=
  fun H locs ls hP hS hl => lv_if_ge S.1 S.2.1 d ht (fun h => kt h H locs ls hP hS hl) (fun h => kf h H locs ls hP hS hl)
theorem g_if_gt (S : CallFix p m c cc nL s args Ts own) {x : Int32} {off : Int} (tgt : Nat) (d : decode cc pc = .ok (.ifCond .gt off, 3)) (ht : (pc : Int) + off = (tgt : Int)) (kt : 0 < x → gJ p l e R s m args below meth c Q nL E σ cells slots tgt lv rest) (kf : ¬ (0 < x) → gJ p l e R s m args below meth c Q nL E σ cells slots (pc + 3) lv rest) : gJ p l e R s m args below meth c Q nL E σ cells slots pc lv (.int x :: rest) :=
  fun H locs ls hP hS hl => lv_if_gt S.1 S.2.1 d ht (fun h => kt h H locs ls hP hS hl) (fun h => kf h H locs ls hP hS hl)
theorem g_if_le (S : CallFix p m c cc nL s args Ts own) {x : Int32} {off : Int} (tgt : Nat) (d : decode cc pc = .ok (.ifCond .le off, 3)) (ht : (pc : Int) + off = (tgt : Int)) (kt : x ≤ 0 → gJ p l e R s m args below meth c Q nL E σ cells slots tgt lv rest) (kf : ¬ (x ≤ 0) → gJ p l e R s m args below meth c Q nL E σ cells slots (pc + 3) lv rest) : gJ p l e R s m args below meth c Q nL E σ cells slots pc lv (.int x :: rest) :=
  fun H locs ls hP hS hl => lv_if_le S.1 S.2.1 d ht (fun h => kt h H locs ls hP hS hl) (fun h => kf h H locs ls hP hS hl)
theorem g_icmp_eq (S : CallFix p m c cc nL s args Ts own) {x y : Int32} {off : Int} (tgt : Nat) (d : decode cc pc = .ok (.if_icmp .eq off, 3)) (ht : (pc : Int) + off = (tgt : Int)) (kt : x = y → gJ p l e R s m args below meth c Q nL E σ cells slots tgt lv rest) (kf : ¬ (x = y) → gJ p l e R s m args below meth c Q nL E σ cells slots (pc + 3) lv rest) : gJ p l e R s m args below meth c Q nL E σ cells slots pc lv (.int y :: .int x :: rest) :=
  fun H locs ls hP hS hl => lv_icmp_eq S.1 S.2.1 d ht (fun h => kt h H locs ls hP hS hl) (fun h => kf h H locs ls hP hS hl)
theorem g_icmp_ne (S : CallFix p m c cc nL s args Ts own) {x y : Int32} {off : Int} (tgt : Nat) (d : decode cc pc = .ok (.if_icmp .ne off, 3)) (ht : (pc : Int) + off = (tgt : Int)) (kt : ¬ x = y → gJ p l e R s m args below meth c Q nL E σ cells slots tgt lv rest) (kf : x = y → gJ p l e R s m args below meth c Q nL E σ cells slots (pc + 3) lv rest) : gJ p l e R s m args below meth c Q nL E σ cells slots pc lv (.int y :: .int x :: rest) :=
  fun H locs ls hP hS hl => lv_icmp_ne S.1 S.2.1 d ht (fun h => kt h H locs ls hP hS hl) (fun h => kf h H locs ls hP hS hl)
theorem g_icmp_lt (S : CallFix p m c cc nL s args Ts own) {x y : Int32} {off : Int} (tgt : Nat) (d : decode cc pc = .ok (.if_icmp .lt off, 3)) (ht : (pc : Int) + off = (tgt : Int)) (kt : x < y → gJ p l e R s m args below meth c Q nL E σ cells slots tgt lv rest) (kf : ¬ (x < y) → gJ p l e R s m args below meth c Q nL E σ cells slots (pc + 3) lv rest) : gJ p l e R s m args below meth c Q nL E σ cells slots pc lv (.int y :: .int x :: rest) :=
  fun H locs ls hP hS hl => lv_icmp_lt S.1 S.2.1 d ht (fun h => kt h H locs ls hP hS hl) (fun h => kf h H locs ls hP hS hl)
theorem g_icmp_ge (S : CallFix p m c cc nL s args Ts own) {x y : Int32} {off : Int} (tgt : Nat) (d : decode cc pc = .ok (.if_icmp .ge off, 3)) (ht : (pc : Int) + off = (tgt : Int)) (kt : y ≤ x → gJ p l e R s m args below meth c Q nL E σ cells slots tgt lv rest) (kf : ¬ (y ≤ x) → gJ p l e R s m args below meth c Q nL E σ cells slots (pc + 3) lv rest) : gJ p l e R s m args below meth c Q nL E σ cells slots pc lv (.int y :: .int x :: rest) :=
  fun H locs ls hP hS hl => lv_icmp_ge S.1 S.2.1 d ht (fun h => kt h H locs ls hP hS hl) (fun h => kf h H locs ls hP hS hl)
theorem g_icmp_gt (S : CallFix p m c cc nL s args Ts own) {x y : Int32} {off : Int} (tgt : Nat) (d : decode cc pc = .ok (.if_icmp .gt off, 3)) (ht : (pc : Int) + off = (tgt : Int)) (kt : y < x → gJ p l e R s m args below meth c Q nL E σ cells slots tgt lv rest) (kf : ¬ (y < x) → gJ p l e R s m args below meth c Q nL E σ cells slots (pc + 3) lv rest) : gJ p l e R s m args below meth c Q nL E σ cells slots pc lv (.int y :: .int x :: rest) :=
  fun H locs ls hP hS hl => lv_icmp_gt S.1 S.2.1 d ht (fun h => kt h H locs ls hP hS hl) (fun h => kf h H locs ls hP hS hl)
theorem g_icmp_le (S : CallFix p m c cc nL s args Ts own) {x y : Int32} {off : Int} (tgt : Nat) (d : decode cc pc = .ok (.if_icmp .le off, 3)) (ht : (pc : Int) + off = (tgt : Int)) (kt : x ≤ y → gJ p l e R s m args below meth c Q nL E σ cells slots tgt lv rest) (kf : ¬ (x ≤ y) → gJ p l e R s m args below meth c Q nL E σ cells slots (pc + 3) lv rest) : gJ p l e R s m args below meth c Q nL E σ cells slots pc lv (.int y :: .int x :: rest) :=
  fun H locs ls hP hS hl => lv_icmp_le S.1 S.2.1 d ht (fun h => kt h H locs ls hP hS hl) (fun h => kf h H locs ls hP hS hl)
theorem g_tabOut (S : CallFix p m c cc nL s args Ts own) {dflt lo hi : Int} {offs : Array Int} {len : Nat} {x : Int32} (tgt : Nat) (d : decode cc pc = .ok (.tableswitch dflt lo hi offs, len)) (h : x.toInt < lo ∨ hi < x.toInt) (ht : (pc : Int) + dflt = (tgt : Int)) (kk : gJ p l e R s m args below meth c Q nL E σ cells slots tgt lv rest) : gJ p l e R s m args below meth c Q nL E σ cells slots pc lv (.int x :: rest) :=
  fun H locs ls hP hS hl => lv_tableOut S.1 S.2.1 d h ht (kk H locs ls hP hS hl)
theorem g_tabIn (S : CallFix p m c cc nL s args Ts own) {dflt lo hi : Int} {offs : Array Int} {len : Nat} {x : Int32} {off : Int} (tgt : Nat) (d : decode cc pc = .ok (.tableswitch dflt lo hi offs, len)) (h1 : ¬ x.toInt < lo) (h2 : ¬ hi < x.toInt) (ho : offs[(x.toInt - lo).toNat]? = some off) (ht : (pc : Int) + off = (tgt : Int)) (kk : gJ p l e R s m args below meth c Q nL E σ cells slots tgt lv rest) : gJ p l e R s m args below meth c Q nL E σ cells slots pc lv (.int x :: rest) :=
  fun H locs ls hP hS hl => lv_tableIn S.1 S.2.1 d h1 h2 ho ht (kk H locs ls hP hS hl)
end GR
end
section
section GH
variable {p : Program} {l : Launch} {e : Env} {R : Room} {s : State} {m : MethodId} {args : Array Value} {below : List Frame} {meth : Method} {c : Code} {Q : State → Prop}
variable {cc : ByteArray} {nL : Nat} {Ts : List Cond} {own : String} {E : gT} {σ : gS} {cells slots pc : Nat} {lv lv' : List (Nat × Value)} {rest : List Value}
/-- getfield of any cell of the world -/
theorem g_getc (S : CallFix p m c cc nL s args Ts own) (hC : gC E s) {C : String} {T : u_T} {N : Nat} (ci : Nat) {fs : List Value} (j : Nat) {k : Nat} (hk : k < 58) (hw : gw E σ k = .inr (ci, fs)) (hcl : vwCl[ci]? = some (C, T, N)) (hj : j < N) (hin : ∀ w ∈ u_ws C T N, w ∈ Ts) {index : Nat} (hlk : Cond.fieldLink own index (T j).1 (T j).2.1 (T j).2.2.1 ∈ Ts) {v : Value} (hv : fs[j]? = some v) (d : decode cc pc = .ok (.getfield index, 3))
    (kk : gJ p l e R s m args below meth c Q nL E σ cells slots (pc + 3) lv (v :: rest)) : gJ p l e R s m args below meth c Q nL E σ cells slots pc lv (.ref (E.2.2 k) :: rest) :=
  fun H locs ls hP hS hl => va_get (D := E.1.1) (cl := vwCl) S.1 S.2.1 S.2.2.2.2 hin S.2.2.2.1 hC.1 hP.1 k (by rw [gl_at hk, hw]) hcl j hj (S.2.2.2.2 _ hlk) (fun _ h => h) hv d (kk H locs ls hP hS hl)
/-- putfield of a number, any cell of the world -/
theorem g_putc (S : CallFix p m c cc nL s args Ts own) (hC : gC E s) {C : String} {T : u_T} {N : Nat} (ty0 : Nat → FieldType) (hty : ∀ k, k < N → parseFieldDescriptor (T k).2.2.1 = some (ty0 k)) (hnm : ∀ a, a < N → ∀ b, b < N → a ≠ b → (T a).2.1 ≠ (T b).2.1) (ci : Nat) {fs : List Value} (j : Nat) {k : Nat} {x : Int32} (hk : k < 58) (hw : gw E σ k = .inr (ci, fs)) (hw2 : gw E (gu σ k j x) k = .inr (ci, fs.set j (.int x))) (hcl : vwCl[ci]? = some (C, T, N)) (hj : j < N) (hin : ∀ w ∈ u_ws C T N, w ∈ Ts) {index : Nat} (hlk : Cond.fieldLink own index (T j).1 (T j).2.1 (T j).2.2.1 ∈ Ts) (hfin : (T j).2.2.2 = false) (hint : ty0 j = .int) (hl : j < fs.length) (d : decode cc pc = .ok (.putfield index, 3))
    (kk : gJ p l e R s m args below meth c Q nL E (gu σ k j x) cells slots (pc + 3) lv rest) : gJ p l e R s m args below meth c Q nL E σ cells slots pc lv (.int x :: .ref (E.2.2 k) :: rest) :=
  fun H locs ls hP hS hl' => va_put (D := E.1.1) (cl := vwCl) (ty := .int) (v := .int x) S.1 S.2.1 S.2.2.2.2 hin ty0 hty hnm S.2.2.2.1 hC.1 hP.1 hP.2 hS k (by rw [gl_at hk, hw]) hcl j hj (S.2.2.2.2 _ hlk) (fun _ h => h) hfin (by rw [hty j hj, hint]) rfl rfl hl d (fun H1 locs1 hP1 hD1 hS1 => by
    rw [← hw2, gl_set hk (fun q hq => gw_gu hq)] at hP1 hD1
    exact kk H1 locs1 ls ⟨hP1, hD1⟩ hS1 hl')
theorem gw_5 {k : Nat} (h : gK k = 5) : gw E σ k = .inr (5, [.ref (E.2.2 (k + 1)), .ref (E.2.2 (k + 2)), .ref (E.2.2 (k + 3)), .ref (E.2.2 (k + 4)), .ref (E.2.2 (k + 5)), .int (σ.1 k 5), .int (σ.1 k 6), .int (σ.1 k 7), .int (σ.1 k 8), .int (σ.1 k 9), .int (σ.1 k 10)]) := by unfold gw; rw [h]; try rfl
theorem gw_8 {k : Nat} (h : gK k = 8) : gw E σ k = .inl (E.2.1 0, 2, .inl (σ.1 k)) := by unfold gw; rw [h]; try rfl
theorem gu_self {σ : gS} {k j : Nat} {x : Int32} : (gu σ k j x).1 k = upd (σ.1 k) j x := by
  funext b
  simp [gu, upd]
/-- a row of numbers read -/
theorem g_iald (S : CallFix p m c cc nL s args Ts own) (hC : gC E s) {k : Nat} (hk : k < 58) (hkd : gK k = 8) (j : Nat) {i : Int32} (hi : i = nI j) (hj : j < 2) (d : decode cc pc = .ok (.iaload, 1))
    (kk : gJ p l e R s m args below meth c Q nL E σ cells slots (pc + 1) lv (.int (σ.1 k j) :: rest)) : gJ p l e R s m args below meth c Q nL E σ cells slots pc lv (.int i :: .ref (E.2.2 k) :: rest) := by
  intro H locs ls hP hS hl
  have hcl : i.toNatClampNeg = j := by rw [hi]; exact nI_clamp (by omega)
  refine va_iald (D := E.1.1) (cl := vwCl) S.1 S.2.1 hC.1 hP.1 k 0 (by rw [gl_at hk, gw_8 hkd]) rfl (by rw [hi]; exact vp_in_nI hj (by omega)) d ?_
  rw [hcl]
  exact kk H locs ls hP hS hl
/-- .. and written -/
theorem g_iast (S : CallFix p m c cc nL s args Ts own) (hC : gC E s) {k : Nat} (hk : k < 58) (hkd : gK k = 8) (j : Nat) {i x : Int32} (hi : i = nI j) (hj : j < 2) (d : decode cc pc = .ok (.iastore, 1))
    (kk : gJ p l e R s m args below meth c Q nL E (gu σ k j x) cells slots (pc + 1) lv rest) : gJ p l e R s m args below meth c Q nL E σ cells slots pc lv (.int x :: .int i :: .ref (E.2.2 k) :: rest) := by
  intro H locs ls hP hS hl
  have hcl : i.toNatClampNeg = j := by rw [hi]; exact nI_clamp (by omega)
  refine va_iast (D := E.1.1) (cl := vwCl) S.1 S.2.1 hC.1 hP.1 hP.2 hS k 0 (by rw [gl_at hk, gw_8 hkd]) rfl (by rw [hi]; exact vp_in_nI hj (by omega)) d (fun H1 locs1 hP1 hD1 hS1 => ?_)
  rw [hcl, ← gu_self, ← gw_8 hkd, gl_set hk (fun q hq => gw_gu hq)] at hP1 hD1
  exact kk H1 locs1 ls ⟨hP1, hD1⟩ hS1 hl
/-- a town's rows of objects -/
theorem g_aald (S : CallFix p m c cc nL s args Ts own) (hC : gC E s) {k : Nat} (hk : k < 58) (kd n off t0 ci : Nat) {C : String} (hw : gw E σ k = .inl (E.2.1 ci, n, .inr (.inr (.inr (.inr (fun j => some (E.2.2 (k + off + j)))))))) (ht : (gTys E)[t0]? = some (E.2.1 ci, .object C)) (hn : n ≤ 10) (j : Nat) {i : Int32} (hi : i = nI j) (hj : j < n) (q : Nat) (hq : k + off + j = q) (d : decode cc pc = .ok (.aaload, 1))
    (kk : gJ p l e R s m args below meth c Q nL E σ cells slots (pc + 1) lv (.ref (E.2.2 q) :: rest)) : gJ p l e R s m args below meth c Q nL E σ cells slots pc lv (.int i :: .ref (E.2.2 k) :: rest) := by
  intro H locs ls hP hS hl
  have hcl : i.toNatClampNeg = j := by rw [hi]; exact nI_clamp (by omega)
  refine va_aldq (D := E.1.1) (cl := vwCl) S.1 S.2.1 hC.1 hP.1 k t0 (by rw [gl_at hk, hw]) ht (by rw [hi]; exact vp_in_nI hj (by omega)) d ?_
  rw [hcl]
  show W p l e R s m args below meth c H locs cells slots Q (F0 m (pc + 1) ls (va_rf (some (E.2.2 (k + off + j))) :: rest))
  rw [hq]
  exact kk H locs ls hP hS hl
theorem g_min (S : CallFix p m c cc nL s args Ts own) {index : Nat} (h1 : Cond.methodLink own index Lib.Math.min.name ∈ Ts) (h2 : Cond.static Lib.Math.min.name ∈ Ts) (h3 : Cond.initialized "java/lang/Math" ∈ Ts) (h4 : Cond.code Lib.Math.min.name Lib.Math.min.code 2 (some .int) ∈ Ts) (hR : 1 ≤ R.frames) (hR2 : (rest.map fun v => v.category).sum + 13 ≤ R.locals) (hc : cells ≤ R.cells) (hs : slots ≤ R.slots) {x y : Int32} (d : decode cc pc = .ok (.invokestatic index, 3))
    (kk : gJ p l e R s m args below meth c Q nL E σ cells slots (pc + 3) lv (.int (if y < x then y else x) :: rest)) : gJ p l e R s m args below meth c Q nL E σ cells slots pc lv (.int y :: .int x :: rest) :=
  fun H locs ls hP hS hl => va_mmin S.1 S.2.1 (S.2.2.1.trans hl.1.symm) S.2.2.2.1 (S.2.2.2.2 _ h1) (S.2.2.2.2 _ h2) (S.2.2.2.2 _ h3) (S.2.2.2.2 _ h4) hR hR2 hc hs d (kk H locs ls hP hS hl)
end GH
section GF
variable {p : Program} {l : Launch} {e : Env} {R : Room} {s : State} {m : MethodId} {args : Array Value} {below : List Frame} {meth : Method} {c : Code} {Q : State → Prop}
variable {cc : ByteArray} {nL : Nat} {Ts : List Cond} {own : String} {E : gT} {σ : gS} {cells slots pc : Nat} {lv lv' : List (Nat × Value)} {rest : List Value}
theorem gg0 (S : CallFix p m c cc nL s args Ts own) (hC : gC E s) (hin : ∀ w ∈ wsX00, w ∈ Ts) {k : Nat} (hk : k < 58) (hkd : gK k = 0) (j : Nat) (hj : j < 3) {index : Nat} (hlk : Cond.fieldLink own index (TX0 j).1 (TX0 j).2.1 (TX0 j).2.2.1 ∈ Ts)  (d : decode cc pc = .ok (.getfield index, 3)) (kk : gJ p l e R s m args below meth c Q nL E σ cells slots (pc + 3) lv (.int (σ.1 k j) :: rest)) : gJ p l e R s m args below meth c Q nL E σ cells slots pc lv (.ref (E.2.2 k) :: rest) :=
  g_getc S hC (C := RX0) (T := TX0) (N := 3) 0 j hk (gK_o hkd (by decide)) rfl (by omega) hin hlk (gO_get hj) d kk
theorem gp0 (S : CallFix p m c cc nL s args Ts own) (hC : gC E s) (hin : ∀ w ∈ wsX00, w ∈ Ts) {k : Nat} (hk : k < 58) (hkd : gK k = 0) (j : Nat) (hj : j < 3) {index : Nat} (hlk : Cond.fieldLink own index (TX0 j).1 (TX0 j).2.1 (TX0 j).2.2.1 ∈ Ts) {x : Int32} (d : decode cc pc = .ok (.putfield index, 3)) (kk : gJ p l e R s m args below meth c Q nL E (gu σ k j x) cells slots (pc + 3) lv rest) : gJ p l e R s m args below meth c Q nL E σ cells slots pc lv (.int x :: .ref (E.2.2 k) :: rest) :=
  g_putc S hC (C := RX0) (T := TX0) (N := 3) tyX0 tyX0_ok nmX0 0 j hk (gK_o hkd (by decide)) (by rw [gO_set]; exact gK_o hkd (by decide)) rfl hj hin hlk (by rcases (show j = 0 ∨ j = 1 ∨ j = 2 by omega) with rfl | rfl | rfl <;> rfl) (by rcases (show j = 0 ∨ j = 1 ∨ j = 2 by omega) with rfl | rfl | rfl <;> rfl) (by rw [List.length_map, List.length_range]; exact hj) d kk
theorem gg1 (S : CallFix p m c cc nL s args Ts own) (hC : gC E s) (hin : ∀ w ∈ wsX10, w ∈ Ts) {k : Nat} (hk : k < 58) (hkd : gK k = 1) (j : Nat) (hj : j < 5) {index : Nat} (hlk : Cond.fieldLink own index (TX1 j).1 (TX1 j).2.1 (TX1 j).2.2.1 ∈ Ts)  (d : decode cc pc = .ok (.getfield index, 3)) (kk : gJ p l e R s m args below meth c Q nL E σ cells slots (pc + 3) lv (.int (σ.1 k j) :: rest)) : gJ p l e R s m args below meth c Q nL E σ cells slots pc lv (.ref (E.2.2 k) :: rest) :=
  g_getc S hC (C := RX1) (T := TX1) (N := 5) 1 j hk (gK_o hkd (by decide)) rfl (by omega) hin hlk (gO_get hj) d kk
theorem gp1 (S : CallFix p m c cc nL s args Ts own) (hC : gC E s) (hin : ∀ w ∈ wsX10, w ∈ Ts) {k : Nat} (hk : k < 58) (hkd : gK k = 1) (j : Nat) (hj : j < 5) {index : Nat} (hlk : Cond.fieldLink own index (TX1 j).1 (TX1 j).2.1 (TX1 j).2.2.1 ∈ Ts) {x : Int32} (d : decode cc pc = .ok (.putfield index, 3)) (kk : gJ p l e R s m args below meth c Q nL E (gu σ k j x) cells slots (pc + 3) lv rest) : gJ p l e R s m args below meth c Q nL E σ cells slots pc lv (.int x :: .ref (E.2.2 k) :: rest) :=
  g_putc S hC (C := RX1) (T := TX1) (N := 5) tyX1 tyX1_ok nmX1 1 j hk (gK_o hkd (by decide)) (by rw [gO_set]; exact gK_o hkd (by decide)) rfl hj hin hlk (by rcases (show j = 0 ∨ j = 1 ∨ j = 2 ∨ j = 3 ∨ j = 4 by omega) with rfl | rfl | rfl | rfl | rfl <;> rfl) (by rcases (show j = 0 ∨ j = 1 ∨ j = 2 ∨ j = 3 ∨ j = 4 by omega) with rfl | rfl | rfl | rfl | rfl <;> rfl) (by rw [List.length_map, List.length_range]; exact hj) d kk
theorem gg2 (S : CallFix p m c cc nL s args Ts own) (hC : gC E s) (hin : ∀ w ∈ wsX20, w ∈ Ts) {k : Nat} (hk : k < 58) (hkd : gK k = 2) (j : Nat) (hj : j < 5) {index : Nat} (hlk : Cond.fieldLink own index (TX2 j).1 (TX2 j).2.1 (TX2 j).2.2.1 ∈ Ts)  (d : decode cc pc = .ok (.getfield index, 3)) (kk : gJ p l e R s m args below meth c Q nL E σ cells slots (pc + 3) lv (.int (σ.1 k j) :: rest)) : gJ p l e R s m args below meth c Q nL E σ cells slots pc lv (.ref (E.2.2 k) :: rest) :=
  g_getc S hC (C := RX2) (T := TX2) (N := 5) 2 j hk (gK_o hkd (by decide)) rfl (by omega) hin hlk (gO_get hj) d kk
theorem gp2 (S : CallFix p m c cc nL s args Ts own) (hC : gC E s) (hin : ∀ w ∈ wsX20, w ∈ Ts) {k : Nat} (hk : k < 58) (hkd : gK k = 2) (j : Nat) (hj : j < 5) {index : Nat} (hlk : Cond.fieldLink own index (TX2 j).1 (TX2 j).2.1 (TX2 j).2.2.1 ∈ Ts) {x : Int32} (d : decode cc pc = .ok (.putfield index, 3)) (kk : gJ p l e R s m args below meth c Q nL E (gu σ k j x) cells slots (pc + 3) lv rest) : gJ p l e R s m args below meth c Q nL E σ cells slots pc lv (.int x :: .ref (E.2.2 k) :: rest) :=
  g_putc S hC (C := RX2) (T := TX2) (N := 5) tyX2 tyX2_ok nmX2 2 j hk (gK_o hkd (by decide)) (by rw [gO_set]; exact gK_o hkd (by decide)) rfl hj hin hlk (by rcases (show j = 0 ∨ j = 1 ∨ j = 2 ∨ j = 3 ∨ j = 4 by omega) with rfl | rfl | rfl | rfl | rfl <;> rfl) (by rcases (show j = 0 ∨ j = 1 ∨ j = 2 ∨ j = 3 ∨ j = 4 by omega) with rfl | rfl | rfl | rfl | rfl <;> rfl) (by rw [List.length_map, List.length_range]; exact hj) d kk
theorem gg3 (S : CallFix p m c cc nL s args Ts own) (hC : gC E s) (hin : ∀ w ∈ wsX30, w ∈ Ts) {k : Nat} (hk : k < 58) (hkd : gK k = 3) (j : Nat) (hj : j < 5) {index : Nat} (hlk : Cond.fieldLink own index (TX3 j).1 (TX3 j).2.1 (TX3 j).2.2.1 ∈ Ts)  (d : decode cc pc = .ok (.getfield index, 3)) (kk : gJ p l e R s m args below meth c Q nL E σ cells slots (pc + 3) lv (.int (σ.1 k j) :: rest)) : gJ p l e R s m args below meth c Q nL E σ cells slots pc lv (.ref (E.2.2 k) :: rest) :=
  g_getc S hC (C := RX3) (T := TX3) (N := 5) 3 j hk (gK_o hkd (by decide)) rfl (by omega) hin hlk (gO_get hj) d kk
theorem gp3 (S : CallFix p m c cc nL s args Ts own) (hC : gC E s) (hin : ∀ w ∈ wsX30, w ∈ Ts) {k : Nat} (hk : k < 58) (hkd : gK k = 3) (j : Nat) (hj : j < 5) {index : Nat} (hlk : Cond.fieldLink own index (TX3 j).1 (TX3 j).2.1 (TX3 j).2.2.1 ∈ Ts) {x : Int32} (d : decode cc pc = .ok (.putfield index, 3)) (kk : gJ p l e R s m args below meth c Q nL E (gu σ k j x) cells slots (pc + 3) lv rest) : gJ p l e R s m args below meth c Q nL E σ cells slots pc lv (.int x :: .ref (E.2.2 k) :: rest) :=
  g_putc S hC (C := RX3) (T := TX3) (N := 5) tyX3 tyX3_ok nmX3 3 j hk (gK_o hkd (by decide)) (by rw [gO_set]; exact gK_o hkd (by decide)) rfl hj hin hlk (by rcases (show j = 0 ∨ j = 1 ∨ j = 2 ∨ j = 3 ∨ j = 4 by omega) with rfl | rfl | rfl | rfl | rfl <;> rfl) (by rcases (show j = 0 ∨ j = 1 ∨ j = 2 ∨ j = 3 ∨ j = 4 by omega) with rfl | rfl | rfl | rfl | rfl <;> rfl) (by rw [List.length_map, List.length_range]; exact hj) d kk
theorem gg4 (S : CallFix p m c cc nL s args Ts own) (hC : gC E s) (hin : ∀ w ∈ wsX40, w ∈ Ts) {k : Nat} (hk : k < 58) (hkd : gK k = 4) (j : Nat) (hj : j < 7) {index : Nat} (hlk : Cond.fieldLink own index (TX4 j).1 (TX4 j).2.1 (TX4 j).2.2.1 ∈ Ts)  (d : decode cc pc = .ok (.getfield index, 3)) (kk : gJ p l e R s m args below meth c Q nL E σ cells slots (pc + 3) lv (.int (σ.1 k j) :: rest)) : gJ p l e R s m args below meth c Q nL E σ cells slots pc lv (.ref (E.2.2 k) :: rest) :=
  g_getc S hC (C := RX4) (T := TX4) (N := 7) 4 j hk (gK_o hkd (by decide)) rfl (by omega) hin hlk (gO_get hj) d kk
theorem gp4 (S : CallFix p m c cc nL s args Ts own) (hC : gC E s) (hin : ∀ w ∈ wsX40, w ∈ Ts) {k : Nat} (hk : k < 58) (hkd : gK k = 4) (j : Nat) (hj : j < 7) {index : Nat} (hlk : Cond.fieldLink own index (TX4 j).1 (TX4 j).2.1 (TX4 j).2.2.1 ∈ Ts) {x : Int32} (d : decode cc pc = .ok (.putfield index, 3)) (kk : gJ p l e R s m args below meth c Q nL E (gu σ k j x) cells slots (pc + 3) lv rest) : gJ p l e R s m args below meth c Q nL E σ cells slots pc lv (.int x :: .ref (E.2.2 k) :: rest) :=
  g_putc S hC (C := RX4) (T := TX4) (N := 7) tyX4 tyX4_ok nmX4 4 j hk (gK_o hkd (by decide)) (by rw [gO_set]; exact gK_o hkd (by decide)) rfl hj hin hlk (by rcases (show j = 0 ∨ j = 1 ∨ j = 2 ∨ j = 3 ∨ j = 4 ∨ j = 5 ∨ j = 6 by omega) with rfl | rfl | rfl | rfl | rfl | rfl | rfl <;> rfl) (by rcases (show j = 0 ∨ j = 1 ∨ j = 2 ∨ j = 3 ∨ j = 4 ∨ j = 5 ∨ j = 6 by omega) with rfl | rfl | rfl | rfl | rfl | rfl | rfl <;> rfl) (by rw [List.length_map, List.length_range]; exact hj) d kk
theorem gg5r (S : CallFix p m c cc nL s args Ts own) (hC : gC E s) (hin : ∀ w ∈ wsX60, w ∈ Ts) {k : Nat} (hk : k < 58) (hkd : gK k = 5) (j : Nat) (hj : j < 5) {index : Nat} (hlk : Cond.fieldLink own index (TX6 j).1 (TX6 j).2.1 (TX6 j).2.2.1 ∈ Ts)  (d : decode cc pc = .ok (.getfield index, 3)) (kk : gJ p l e R s m args below meth c Q nL E σ cells slots (pc + 3) lv (.ref (E.2.2 (k + 1 + j)) :: rest)) : gJ p l e R s m args below meth c Q nL E σ cells slots pc lv (.ref (E.2.2 k) :: rest) :=
  g_getc S hC (C := RX6) (T := TX6) (N := 11) 5 j hk (gw_5 hkd) rfl (by omega) hin hlk (by rcases (show j = 0 ∨ j = 1 ∨ j = 2 ∨ j = 3 ∨ j = 4 by omega) with rfl | rfl | rfl | rfl | rfl <;> rfl) d kk
theorem gg5 (S : CallFix p m c cc nL s args Ts own) (hC : gC E s) (hin : ∀ w ∈ wsX60, w ∈ Ts) {k : Nat} (hk : k < 58) (hkd : gK k = 5) (j : Nat) (hj : 5 ≤ j ∧ j < 11) {index : Nat} (hlk : Cond.fieldLink own index (TX6 j).1 (TX6 j).2.1 (TX6 j).2.2.1 ∈ Ts)  (d : decode cc pc = .ok (.getfield index, 3)) (kk : gJ p l e R s m args below meth c Q nL E σ cells slots (pc + 3) lv (.int (σ.1 k j) :: rest)) : gJ p l e R s m args below meth c Q nL E σ cells slots pc lv (.ref (E.2.2 k) :: rest) :=
  g_getc S hC (C := RX6) (T := TX6) (N := 11) 5 j hk (gw_5 hkd) rfl (by omega) hin hlk (by rcases (show j = 5 ∨ j = 6 ∨ j = 7 ∨ j = 8 ∨ j = 9 ∨ j = 10 by omega) with rfl | rfl | rfl | rfl | rfl | rfl <;> rfl) d kk
theorem gp5 (S : CallFix p m c cc nL s args Ts own) (hC : gC E s) (hin : ∀ w ∈ wsX60, w ∈ Ts) {k : Nat} (hk : k < 58) (hkd : gK k = 5) (j : Nat) (hj : 5 ≤ j ∧ j < 11) {index : Nat} (hlk : Cond.fieldLink own index (TX6 j).1 (TX6 j).2.1 (TX6 j).2.2.1 ∈ Ts) {x : Int32} (d : decode cc pc = .ok (.putfield index, 3)) (kk : gJ p l e R s m args below meth c Q nL E (gu σ k j x) cells slots (pc + 3) lv rest) : gJ p l e R s m args below meth c Q nL E σ cells slots pc lv (.int x :: .ref (E.2.2 k) :: rest) :=
  g_putc S hC (C := RX6) (T := TX6) (N := 11) tyX6 tyX6_ok nmX6 5 j hk (gw_5 hkd) (by rw [gw_5 hkd]; simp only [gu_self]; rcases (show j = 5 ∨ j = 6 ∨ j = 7 ∨ j = 8 ∨ j = 9 ∨ j = 10 by omega) with rfl | rfl | rfl | rfl | rfl | rfl <;> simp [upd]) rfl (by omega) hin hlk (by rcases (show j = 5 ∨ j = 6 ∨ j = 7 ∨ j = 8 ∨ j = 9 ∨ j = 10 by omega) with rfl | rfl | rfl | rfl | rfl | rfl <;> rfl) (by rcases (show j = 5 ∨ j = 6 ∨ j = 7 ∨ j = 8 ∨ j = 9 ∨ j = 10 by omega) with rfl | rfl | rfl | rfl | rfl | rfl <;> rfl) (by show j < 11; omega) d kk
theorem gg6 (S : CallFix p m c cc nL s args Ts own) (hC : gC E s) (hin : ∀ w ∈ wsX70, w ∈ Ts) {index : Nat} (hlk : Cond.fieldLink own index (TX7 0).1 (TX7 0).2.1 (TX7 0).2.2.1 ∈ Ts) (d : decode cc pc = .ok (.getfield index, 3)) (kk : gJ p l e R s m args below meth c Q nL E σ cells slots (pc + 3) lv (.ref (E.2.2 1) :: rest)) : gJ p l e R s m args below meth c Q nL E σ cells slots pc lv (.ref (E.2.2 0) :: rest) :=
  g_getc S hC (C := RX7) (T := TX7) (N := 2) (fs := [.ref (E.2.2 1), .ref (gTr E)]) 6 0 (by omega) rfl rfl (by omega) hin hlk rfl d kk
theorem gw_7 : gw E σ 29 = .inr (7, [.int (σ.1 29 0), .ref (E.2.2 30), .ref (E.2.2 31), .int (σ.1 29 3), .int (σ.1 29 4), .int (σ.1 29 5), .int (σ.1 29 6), .ref (E.2.2 32), .ref (E.2.2 33), .ref (E.2.2 34), .ref (E.2.2 35)]) := rfl
/-- Sim's numbers: its fields 0, 3, 4, 5, 6 -/
theorem gg7 (S : CallFix p m c cc nL s args Ts own) (hC : gC E s) (hin : ∀ w ∈ wsX80, w ∈ Ts) (j : Nat) (hj : j = 0 ∨ j = 3 ∨ j = 4 ∨ j = 5 ∨ j = 6) {index : Nat} (hlk : Cond.fieldLink own index (TX8 j).1 (TX8 j).2.1 (TX8 j).2.2.1 ∈ Ts)  (d : decode cc pc = .ok (.getfield index, 3)) (kk : gJ p l e R s m args below meth c Q nL E σ cells slots (pc + 3) lv (.int (σ.1 29 j) :: rest)) : gJ p l e R s m args below meth c Q nL E σ cells slots pc lv (.ref (E.2.2 29) :: rest) :=
  g_getc S hC (C := RX8) (T := TX8) (N := 11) 7 j (by omega) gw_7 rfl (by omega) hin hlk (by rcases hj with rfl | rfl | rfl | rfl | rfl <;> rfl) d kk
/-- .. its rows: fields 1, 2 (store, parts), 7..10 (rows of rows) -/
theorem gg7r (S : CallFix p m c cc nL s args Ts own) (hC : gC E s) (hin : ∀ w ∈ wsX80, w ∈ Ts) (j q : Nat) (hj : (j = 1 ∧ q = 30) ∨ (j = 2 ∧ q = 31) ∨ (j = 7 ∧ q = 32) ∨ (j = 8 ∧ q = 33) ∨ (j = 9 ∧ q = 34) ∨ (j = 10 ∧ q = 35)) {index : Nat} (hlk : Cond.fieldLink own index (TX8 j).1 (TX8 j).2.1 (TX8 j).2.2.1 ∈ Ts)  (d : decode cc pc = .ok (.getfield index, 3)) (kk : gJ p l e R s m args below meth c Q nL E σ cells slots (pc + 3) lv (.ref (E.2.2 q) :: rest)) : gJ p l e R s m args below meth c Q nL E σ cells slots pc lv (.ref (E.2.2 29) :: rest) :=
  g_getc S hC (C := RX8) (T := TX8) (N := 11) 7 j (by omega) gw_7 rfl (by omega) hin hlk (by rcases hj with ⟨rfl, rfl⟩ | ⟨rfl, rfl⟩ | ⟨rfl, rfl⟩ | ⟨rfl, rfl⟩ | ⟨rfl, rfl⟩ | ⟨rfl, rfl⟩ <;> rfl) d kk
theorem gp7 (S : CallFix p m c cc nL s args Ts own) (hC : gC E s) (hin : ∀ w ∈ wsX80, w ∈ Ts) (j : Nat) (hj : j = 0 ∨ j = 3 ∨ j = 4 ∨ j = 5 ∨ j = 6) {index : Nat} (hlk : Cond.fieldLink own index (TX8 j).1 (TX8 j).2.1 (TX8 j).2.2.1 ∈ Ts) {x : Int32} (d : decode cc pc = .ok (.putfield index, 3)) (kk : gJ p l e R s m args below meth c Q nL E (gu σ 29 j x) cells slots (pc + 3) lv rest) : gJ p l e R s m args below meth c Q nL E σ cells slots pc lv (.int x :: .ref (E.2.2 29) :: rest) :=
  g_putc S hC (C := RX8) (T := TX8) (N := 11) tyX8 tyX8_ok nmX8 7 j (by omega) gw_7 (by rw [gw_7]; simp only [gu_self]; rcases hj with rfl | rfl | rfl | rfl | rfl <;> simp [upd]) rfl (by omega) hin hlk (by rcases hj with rfl | rfl | rfl | rfl | rfl <;> rfl) (by rcases hj with rfl | rfl | rfl | rfl | rfl <;> rfl) (by show j < 11; omega) d kk
/-- Sim's rows: how many -/
theorem gw_14 {k : Nat} (h : gK k = 14) : gw E σ k = .inl (E.2.1 1, gNo E (k - 32), .inr (.inr (.inr (.inr (fun j => some (E.2.2 (36 + 4 * (k - 32) + j))))))) := by unfold gw; rw [h]; try rfl
theorem gw_15 {k : Nat} (h : gK k = 15) (hL : gqI k < gNo E (gqS k)) : gw E σ k = .inl (E.2.1 0, gqL k, .inl (σ.1 k)) := by unfold gw; rw [h]; exact if_pos hL
theorem gk14 {o : Nat} (ho : o < 4) : gK (32 + o) = 14 := by
  rcases (show o = 0 ∨ o = 1 ∨ o = 2 ∨ o = 3 by omega) with rfl | rfl | rfl | rfl <;> rfl
/-- a row's place: sort o, number i -/
def gqR (o i : Nat) : Prop := (o = 0 ∧ i < 4) ∨ (o = 1 ∧ i < 4) ∨ (o = 2 ∧ i < 4) ∨ (o = 3 ∧ i < 10)
theorem gqR.lt {o i : Nat} (h : gqR o i) : 36 + 4 * o + i < 58 := by
  rcases h with ⟨rfl, h⟩ | ⟨rfl, h⟩ | ⟨rfl, h⟩ | ⟨rfl, h⟩ <;> omega
theorem gqR.K {o i : Nat} (h : gqR o i) : gK (36 + 4 * o + i) = 15 := by
  have key : ∀ k, k < 58 → 36 ≤ k → gK k = 15 := by decide
  exact key _ h.lt (by omega)
theorem gqR.srt {o i : Nat} (h : gqR o i) : gqS (36 + 4 * o + i) = o := by
  rcases h with ⟨rfl, h⟩ | ⟨rfl, h⟩ | ⟨rfl, h⟩ | ⟨rfl, h⟩ <;> unfold gqS
  · rw [if_pos (by omega)]
  · rw [if_neg (by omega), if_pos (by omega)]
  · rw [if_neg (by omega), if_neg (by omega), if_pos (by omega)]
  · rw [if_neg (by omega), if_neg (by omega), if_neg (by omega)]
theorem gqR.ix {o i : Nat} (h : gqR o i) : gqI (36 + 4 * o + i) = i := by
  unfold gqI
  rw [h.srt]
  omega
theorem gqR.len {o i : Nat} (h : gqR o i) : gqL (36 + 4 * o + i) = if o = 0 then 3 else 5 := by
  rcases h with ⟨rfl, h⟩ | ⟨rfl, h⟩ | ⟨rfl, h⟩ | ⟨rfl, h⟩ <;> unfold gqL
  · rw [if_pos (by omega), if_pos rfl]
  · rw [if_neg (by omega), if_neg (by omega)]
  · rw [if_neg (by omega), if_neg (by omega)]
  · rw [if_neg (by omega), if_neg (by omega)]
theorem gqR.of {s : State} {o i : Nat} (hC : gC E s) (ho : o < 4) (hi : i < gNo E o) : gqR o i := by
  have h := hC.2.1
  unfold gqR
  rcases (show o = 0 ∨ o = 1 ∨ o = 2 ∨ o = 3 by omega) with rfl | rfl | rfl | rfl <;> omega
theorem gqR.w {o i : Nat} (h : gqR o i) (hi : i < gNo E o) : gw E σ (36 + 4 * o + i) = .inl (E.2.1 0, if o = 0 then 3 else 5, .inl (σ.1 (36 + 4 * o + i))) := by
  rw [gw_15 h.K (by rw [h.ix, h.srt]; exact hi), h.len]
theorem gNo_le {s : State} {o : Nat} (hC : gC E s) (ho : o < 4) : gNo E o ≤ 10 := by
  have h2 := hC.2.1
  rcases (show o = 0 ∨ o = 1 ∨ o = 2 ∨ o = 3 by omega) with rfl | rfl | rfl | rfl <;> omega
theorem g_alenR (S : CallFix p m c cc nL s args Ts own) (hC : gC E s) (o : Nat) {k : Nat} (hk : k = 32 + o) (ho : o < 4) (d : decode cc pc = .ok (.arraylength, 1))
    (kk : gJ p l e R s m args below meth c Q nL E σ cells slots (pc + 1) lv (.int (nI (gNo E o)) :: rest)) : gJ p l e R s m args below meth c Q nL E σ cells slots pc lv (.ref (E.2.2 k) :: rest) := by
  subst hk
  intro H locs ls hP hS hl
  refine va_alen (D := E.1.1) (cl := vwCl) (tys := gTys E) (ty := .array .int) (v := nI (gNo E o)) S.1 S.2.1 hC.1 hP.1 (32 + o) 1 (by rw [gl_at (by omega), gw_14 (gk14 ho)]) rfl ?_ d (kk H locs ls hP hS hl)
  show Int32.ofNat (gNo E (32 + o - 32)) = _
  rw [show 32 + o - 32 = o by omega]
  rfl
/-- Sim's store and parts: how long -/
theorem g_alenI (S : CallFix p m c cc nL s args Ts own) (hC : gC E s) {k : Nat} (hk : k < 58) (hkd : gK k = 8) (d : decode cc pc = .ok (.arraylength, 1))
    (kk : gJ p l e R s m args below meth c Q nL E σ cells slots (pc + 1) lv (.int 2 :: rest)) : gJ p l e R s m args below meth c Q nL E σ cells slots pc lv (.ref (E.2.2 k) :: rest) := by
  intro H locs ls hP hS hl
  exact va_alen (D := E.1.1) (cl := vwCl) (tys := gTys E) (ty := .int) (v := 2) S.1 S.2.1 hC.1 hP.1 k 0 (by rw [gl_at hk, gw_8 hkd]) rfl rfl d (kk H locs ls hP hS hl)
/-- a row out of Sim's rows -/
theorem g_aaldR (S : CallFix p m c cc nL s args Ts own) (hC : gC E s) (o : Nat) {k : Nat} (hk : k = 32 + o) (ho : o < 4) (j : Nat) {i : Int32} (hi : i = nI j) (hj : j < gNo E o) (q : Nat) (hq : 36 + 4 * o + j = q) (d : decode cc pc = .ok (.aaload, 1))
    (kk : gJ p l e R s m args below meth c Q nL E σ cells slots (pc + 1) lv (.ref (E.2.2 q) :: rest)) : gJ p l e R s m args below meth c Q nL E σ cells slots pc lv (.int i :: .ref (E.2.2 k) :: rest) := by
  subst hk
  have hR := gqR.of (i := j) hC ho hj
  have hjb : j < 10 := by rcases hR with h | h | h | h <;> omega
  intro H locs ls hP hS hl
  have hcl : i.toNatClampNeg = j := by rw [hi]; exact nI_clamp (by omega)
  have hat : va_at E.1.1 vwCl (E.2.2 (32 + o), gw E σ (32 + o)) H := hP.1 (32 + o) _ (gl_at (by omega))
  rw [gw_14 (gk14 ho), show 32 + o - 32 = o by omega] at hat
  refine W.aald (v := .ref (E.2.2 q)) (ty := .array .int) S.1 S.2.1 hat ((hC.1.2 1 _ rfl).1 _ _) rfl (fun q => by cases q) ?_ ?_ rfl rfl d (kk H locs ls hP hS hl)
  · show ¬ (i < 0 ∨ (arrV _ _ _).slots.size ≤ _)
    rw [arrV_size, hi]
    exact vp_in_nI (n := j) (N := gNo E o) hj (Nat.lt_of_le_of_lt (gNo_le hC ho) (by decide))
  · show (arrV _ _ _).slots[_]? = _
    rw [hcl, arrV_read _ _ hj]
    show some (va_rf (some (E.2.2 (36 + 4 * o + j)))) = _
    rw [hq]
    rfl
/-- a number of a row -/
theorem g_ialdR (S : CallFix p m c cc nL s args Ts own) (hC : gC E s) (o a : Nat) {k : Nat} (hk : k = 36 + 4 * o + a) (ho : o < 4) (ha : a < gNo E o) (j : Nat) {i : Int32} (hi : i = nI j) (hj : j < if o = 0 then 3 else 5) (d : decode cc pc = .ok (.iaload, 1))
    (kk : gJ p l e R s m args below meth c Q nL E σ cells slots (pc + 1) lv (.int (σ.1 k j) :: rest)) : gJ p l e R s m args below meth c Q nL E σ cells slots pc lv (.int i :: .ref (E.2.2 k) :: rest) := by
  subst hk
  have hR := gqR.of (i := a) hC ho ha
  intro H locs ls hP hS hl
  have hj5 : j < 5 := by split at hj <;> omega
  have hcl : i.toNatClampNeg = j := by rw [hi]; exact nI_clamp (by omega)
  refine va_iald (D := E.1.1) (cl := vwCl) (tys := gTys E) S.1 S.2.1 hC.1 hP.1 (36 + 4 * o + a) 0 (by rw [gl_at hR.lt, hR.w ha]) rfl (by rw [hi]; exact vp_in_nI hj (by split <;> omega)) d ?_
  rw [hcl]
  exact kk H locs ls hP hS hl
/-- .. and put -/
theorem g_iastR (S : CallFix p m c cc nL s args Ts own) (hC : gC E s) (o a : Nat) {k : Nat} (hk : k = 36 + 4 * o + a) (ho : o < 4) (ha : a < gNo E o) (j : Nat) {i x : Int32} (hi : i = nI j) (hj : j < if o = 0 then 3 else 5) (d : decode cc pc = .ok (.iastore, 1))
    (kk : gJ p l e R s m args below meth c Q nL E (gu σ k j x) cells slots (pc + 1) lv rest) : gJ p l e R s m args below meth c Q nL E σ cells slots pc lv (.int x :: .int i :: .ref (E.2.2 k) :: rest) := by
  subst hk
  have hR := gqR.of (i := a) hC ho ha
  intro H locs ls hP hS hl
  have hj5 : j < 5 := by split at hj <;> omega
  have hcl : i.toNatClampNeg = j := by rw [hi]; exact nI_clamp (by omega)
  refine va_iast (D := E.1.1) (cl := vwCl) (tys := gTys E) S.1 S.2.1 hC.1 hP.1 hP.2 hS (36 + 4 * o + a) 0 (by rw [gl_at hR.lt, hR.w ha]) rfl (by rw [hi]; exact vp_in_nI hj (by split <;> omega)) d (fun H1 locs1 hP1 hD1 hS1 => ?_)
  rw [hcl, ← gu_self, ← hR.w (σ := gu σ (36 + 4 * o + a) j x) ha, gl_set hR.lt (fun q hq => gw_gu hq)] at hP1 hD1
  exact kk H1 locs1 ls ⟨hP1, hD1⟩ hS1 hl
end GF
end
section
section GM
variable {p : Program} {l : Launch} {e : Env} {R : Room} {s : State} {m : MethodId} {args : Array Value} {below : List Frame} {meth : Method} {c : Code} {Q : State → Prop}
variable {cc : ByteArray} {nL : Nat} {Ts : List Cond} {own : String} {E : gT} {σ σ' : gS} {cells slots pc : Nat} {lv lv' : List (Nat × Value)} {rest st0 : List Value}
/-- a method's entry -/
def gB (E : gT) (σ : gS) (sz : Nat) (U : State) : Prop := U.heap.size = sz ∧ gC E U ∧ gP E σ U.heap
abbrev gPre (E : gT) (σ : gS) (sz : Nat) (av : List Value) : Array Value → State → Prop := va_Pc av (gB E σ sz)
abbrev gBt (E : gT) (σ : gS) (t : State) : Prop := gP E σ t.heap
abbrev gRi (E : gT) (σ : gS) (r : Int32) (sz : Nat) : Array Value → State → Outcome → State → Prop := va_Qi (fun (r' : Int32) (_ : Unit) => r' = r) (fun _ => gBt E σ) (gA E sz)
abbrev gRl (E : gT) (σ : gS) (r : Int64) (sz : Nat) : Array Value → State → Outcome → State → Prop := va_Ql (fun (r' : Int64) (_ : Unit) => r' = r) (fun _ => gBt E σ) (gA E sz)
abbrev gRv (E : gT) (σ : gS) (sz : Nat) : Array Value → State → Outcome → State → Prop := va_Qv (fun (_ : Unit) => True) (fun _ => gBt E σ) (gA E sz)
/-- contracts: what comes in, the answer, the numbers behind it; room for mc cells of ms slots -/
def gMi (l : Launch) (y : MethodName) (ws : List Cond) (rm : Room) (mc ms : Nat) (E : gT) (σ : gS) (av : List Value) (r : Int32) (σ' : gS) : Prop := ∀ sz, Met l y ws rm (gPre E σ sz av) (gRi E σ' r sz) mc ms (gA E sz)
def gMl (l : Launch) (y : MethodName) (ws : List Cond) (rm : Room) (mc ms : Nat) (E : gT) (σ : gS) (av : List Value) (r : Int64) (σ' : gS) : Prop := ∀ sz, Met l y ws rm (gPre E σ sz av) (gRl E σ' r sz) mc ms (gA E sz)
def gMv (l : Launch) (y : MethodName) (ws : List Cond) (rm : Room) (mc ms : Nat) (E : gT) (σ : gS) (av : List Value) (σ' : gS) : Prop := ∀ sz, Met l y ws rm (gPre E σ sz av) (gRv E σ' sz) mc ms (gA E sz)
theorem gPre_blind {E : gT} {σ : gS} {sz : Nat} {av : List Value} : FrameBlind (gPre E σ sz av) := fun _ _ _ _ h => ⟨h.1, h.2.1, h.2.2.1.same rfl rfl, h.2.2.2⟩
/-- from a method's entry: the head of any body -/
theorem g_ent {k : List Value → Prop} {ls : Array Slot} {av : List Value} {nL : Nat} {lv : List (Nat × Value)} (hlv : lv_args 0 av = lv) (hsz : (lg_sl av).length ≤ nL) (K : gJ p l e R s m av.toArray below meth c Q nL E σ 0 0 0 lv []) (hP : gP E σ s.heap) : W p l e R s m av.toArray below meth c s.heap [] 0 0 Q (entryFrame m av.toArray nL) := by
  rw [lg_entry_eq]
  exact K s.heap [] _ hP va_S.rf (by rw [← hlv]; exact lv_entry av hsz)
theorem g_met {y : MethodName} {ws ws' : List Cond} {rm : Room} {mc ms : Nat} {av : List Value} {ret : Option FieldType} {Qc : Nat → Array Value → State → Outcome → State → Prop} (hy : plainName y.cls = true) (hw : ws = Cond.code y cc nL ret :: ws') (hlv : lv_args 0 av = lv) (hsz : (lg_sl av).length ≤ nL)
    (body : ∀ (p : Program) (e : Env) (s : State) (m : MethodId) (below : List Frame) (meth : Method) (c : Code), CallFix p m c cc nL s av.toArray ws y.cls → meth.sig.returnType = ret → meth.locks = false → gC E s →
      gJ p l e rm s m av.toArray below meth c (MQ below (Qc s.heap.size) av.toArray s mc ms (gA E s.heap.size)) nL E σ 0 0 0 lv []) : ∀ sz, Met l y ws rm (gPre E σ sz av) (Qc sz) mc ms (gA E sz) := by
  intro sz
  refine Met.ofW (cc := cc) (maxL := nL) (ret := ret) hy hw ?_
  intro p e s m args below meth c s₁ B hml hv
  obtain ⟨rfl, rfl, hC, hP⟩ := hv
  exact g_ent (k := fun _ => True) (ls := #[]) hlv hsz (body p e s m below meth c ⟨B.exec, B.bytes, hml, findClass_of_methodNamed B.named, atoms_spec (ws := ws) B.pre⟩ B.returns B.notSynchronized hC) hP
/-- ends -/
theorem g_iret (S : CallFix p m c cc nL s args Ts own) (hr : meth.sig.returnType = some .int) (hlocks : meth.locks = false) {r r' : Int32} {mc ms : Nat} (d : decode cc pc = .ok (.ireturn, 1)) (h1 : r = r') (h2 : σ = σ') (h3 : cells ≤ mc) (h4 : slots ≤ ms) :
    gJ p l e R s m args below meth c (MQ below (gRi E σ' r' s.heap.size) args s mc ms (gA E s.heap.size)) nL E σ cells slots pc lv [.int r] := by
  subst h1; subst h2
  exact fun H locs ls hP hS hl => W.widen h3 h4 (W.iret S.1 S.2.1 hr (fun t ht _ => ⟨⟨r, (), rfl, rfl, by show gP _ _ t.heap; rw [ht]; exact hP⟩, hS.F ht⟩) hS.2.2 d)
theorem g_zret (S : CallFix p m c cc nL s args Ts own) (hr : meth.sig.returnType = some .boolean) (hlocks : meth.locks = false) {r r' : Int32} {mc ms : Nat} (d : decode cc pc = .ok (.ireturn, 1)) (h0 : narrow .boolean (.int r) = .int r) (h1 : r = r') (h2 : σ = σ') (h3 : cells ≤ mc) (h4 : slots ≤ ms) :
    gJ p l e R s m args below meth c (MQ below (gRi E σ' r' s.heap.size) args s mc ms (gA E s.heap.size)) nL E σ cells slots pc lv [.int r] := by
  subst h1; subst h2
  exact fun H locs ls hP hS hl => W.widen h3 h4 (W.zret S.1 S.2.1 hr h0 (fun t ht _ => ⟨⟨r, (), rfl, rfl, by show gP _ _ t.heap; rw [ht]; exact hP⟩, hS.F ht⟩) hS.2.2 d)
theorem g_lret (S : CallFix p m c cc nL s args Ts own) (hr : meth.sig.returnType = some .long) (hlocks : meth.locks = false) {r r' : Int64} {mc ms : Nat} (d : decode cc pc = .ok (.lreturn, 1)) (h1 : r = r') (h2 : σ = σ') (h3 : cells ≤ mc) (h4 : slots ≤ ms) :
    gJ p l e R s m args below meth c (MQ below (gRl E σ' r' s.heap.size) args s mc ms (gA E s.heap.size)) nL E σ cells slots pc lv [.long r] := by
  subst h1; subst h2
  exact fun H locs ls hP hS hl => W.widen h3 h4 (W.lret S.1 S.2.1 hr (fun t ht _ => ⟨⟨r, (), rfl, rfl, by show gP _ _ t.heap; rw [ht]; exact hP⟩, hS.F ht⟩) hS.2.2 d)
theorem g_vret (S : CallFix p m c cc nL s args Ts own) (hr : meth.sig.returnType = none) (hlocks : meth.locks = false) {mc ms : Nat} (d : decode cc pc = .ok (.return_, 1)) (h2 : σ = σ') (h3 : cells ≤ mc) (h4 : slots ≤ ms) :
    gJ p l e R s m args below meth c (MQ below (gRv E σ' s.heap.size) args s mc ms (gA E s.heap.size)) nL E σ cells slots pc lv [] := by
  subst h2
  exact fun H locs ls hP hS hl => W.widen h3 h4 (W.vret S.1 S.2.1 hr (fun t ht _ => ⟨⟨(), rfl, trivial, by show gP _ _ t.heap; rw [ht]; exact hP⟩, hS.F ht⟩) hS.2.2 d)
/-- which cells are objects -/
theorem gw_obj {k ci : Nat} (h : gK k = ci) (hc : ci < 8) : ∃ fs, gw E σ k = .inr (ci, fs) := by
  rcases (show ci < 5 ∨ ci = 5 ∨ ci = 6 ∨ ci = 7 by omega) with h5 | rfl | rfl | rfl
  · exact ⟨_, gK_o h h5⟩
  · exact ⟨_, gw_5 h⟩
  · exact ⟨[.ref (E.2.2 1), .ref (gTr E)], by unfold gw; rw [h]; try rfl⟩
  · exact ⟨_, by unfold gw; rw [h]; try rfl⟩
/-- a call under way -/
def gRun (p : Program) (l : Launch) (e : Env) (R : Room) (s : State) (m : MethodId) (args : Array Value) (below : List Frame) (meth : Method) (c : Code) (nL : Nat) (E : gT) (σ : gS) (cells slots pc : Nat) (lv : List (Nat × Value)) (st0 rest : List Value) (Qa : Nat → State → Outcome → State → Prop) (mc ms : Nat) : Prop :=
  ∀ (H : Heap) (locs : List Loc) (ls : Array Slot), gP E σ H → va_S (gA E s.heap.size) s.heap H locs → lv_has ls nL lv → va_Run p l e R s m args below meth c H locs cells slots mc ms (F0 m pc ls st0) rest (Qa H.size) (gA E H.size)
variable {y : MethodName} {bytes : ByteArray} {maxL n index mc ms : Nat} {ret : Option FieldType} {ws : List Cond} {rm : Room} {As : List Value} {Qc : Nat → Array Value → State → Outcome → State → Prop}
theorem g_recv (hC : gC E s) {k ci : Nat} {q : vw_C} (hk : k < 58) (hkd : gK k = ci) (hci : ci < 8) (hcl : vwCl[ci]? = some q) {H : Heap} (hP : gP E σ H) : ∃ cell : Cell, H[E.2.2 k]? = some cell ∧ cell.vm.isStatics = false ∧ s.vm.findClass q.1 = some cell.cls := by
  obtain ⟨fs, hw⟩ := gw_obj (E := E) (σ := σ) hkd hci
  exact va_recv hC.1 hP.1 (ci := ci) (q0 := k) hcl (by rw [gl_at hk, hw])
theorem g_runV (S : CallFix p m c cc nL s args Ts own) (hC : gC E s) {k ci : Nat} {q : vw_C} (hk : k < 58) (hkd : gK k = ci) (hci : ci < 8) (hcl : vwCl[ci]? = some q) (hM : ∀ sz, Met l y ws rm (gPre E σ sz (.ref (E.2.2 k) :: As)) (Qc sz) mc ms (gA E sz)) (cw : CallW R s args own q.1 index y bytes maxL ret ws rm mc ms n) (hn : As.length = n) (hst : st0 = As.reverse ++ .ref (E.2.2 k) :: rest) (hcat : (rest.map fun v => v.category).sum ≤ 8) (d : decode cc pc = .ok (.invokevirtual index, 3)) (hf : cells + mc ≤ R.cells ∧ slots + ms ≤ R.slots) :
    gRun p l e R s m args below meth c nL E σ cells slots pc lv st0 rest (fun sz => Qc sz (Value.ref (E.2.2 k) :: As).toArray) mc ms :=
  fun H locs ls hP hS hl => va_runV S (hM H.size) cw ⟨gPre_blind, g_recv hC hk hkd hci hcl hP, fun U hU hW => ⟨rfl, by rw [hU], hC.go hS hU hW, by rw [hU]; exact hP⟩⟩ rfl hn hl.1 hst (lv_room hcat) d hf
theorem g_runS (S : CallFix p m c cc nL s args Ts own) (hC : gC E s) (hM : ∀ sz, Met l y ws rm (gPre E σ sz As) (Qc sz) mc ms (gA E sz)) (cw : CallB R s args own index y bytes maxL ret ws rm mc ms n ∧ (Cond.static y).before args s = true) (hn : As.length = n) (hst : st0 = As.reverse ++ rest) (hcat : (rest.map fun v => v.category).sum ≤ 8) (d : decode cc pc = .ok (.invokestatic index, 3)) (hf : cells + mc ≤ R.cells ∧ slots + ms ≤ R.slots) :
    gRun p l e R s m args below meth c nL E σ cells slots pc lv st0 rest (fun sz => Qc sz As.toArray) mc ms :=
  fun H locs ls hP hS hl => va_runS S (hM H.size) cw ⟨gPre_blind, fun U hU hW => ⟨rfl, by rw [hU], hC.go hS hU hW, by rw [hU]; exact hP⟩⟩ rfl hn hl.1 hst (lv_room hcat) d hf
theorem g_runU {x : MethodName} {owner : String} (S : CallFix p m c cc nL s args Ts own) (hC : gC E s) {k ci : Nat} {q : vw_C} (hk : k < 58) (hkd : gK k = ci) (hci : ci < 8) (hcl : vwCl[ci]? = some q) (hM : ∀ sz, Met l y ws rm (gPre E σ sz (.ref (E.2.2 k) :: As)) (Qc sz) mc ms (gA E sz)) (cw : va_CU R s args own q.1 owner index x y bytes maxL ret ws rm mc ms n) (hn : As.length = n) (hst : st0 = As.reverse ++ .ref (E.2.2 k) :: rest) (hcat : (rest.map fun v => v.category).sum ≤ 8) (d : decode cc pc = .ok (.invokevirtual index, 3)) (hf : cells + mc ≤ R.cells ∧ slots + ms ≤ R.slots) :
    gRun p l e R s m args below meth c nL E σ cells slots pc lv st0 rest (fun sz => Qc sz (Value.ref (E.2.2 k) :: As).toArray) mc ms :=
  fun H locs ls hP hS hl => va_runU S (hM H.size) cw ⟨gPre_blind, g_recv hC hk hkd hci hcl hP, fun U hU hW => ⟨rfl, by rw [hU], hC.go hS hU hW, by rw [hU]; exact hP⟩⟩ rfl hn hl.1 hst (lv_room hcat) d hf
/-- a static method with handlers -/
theorem g_runSW {hh : List (Nat × Nat × Nat × Nat)} (S : CallFix p m c cc nL s args Ts own) (hC : gC E s) (hM : ∀ sz, Met l y ws rm (gPre E σ sz As) (Qc sz) mc ms (gA E sz)) (cw : vx_CSW R s args own index y bytes maxL ret hh ws rm mc ms n) (hn : As.length = n) (hst : st0 = As.reverse ++ rest) (hcat : (rest.map fun v => v.category).sum ≤ 8) (d : decode cc pc = .ok (.invokestatic index, 3)) (hf : cells + mc ≤ R.cells ∧ slots + ms ≤ R.slots) :
    gRun p l e R s m args below meth c nL E σ cells slots pc lv st0 rest (fun sz => Qc sz As.toArray) mc ms :=
  fun H locs ls hP hS hl => vx_runSW S (hM H.size) cw ⟨gPre_blind, fun U hU hW => ⟨rfl, by rw [hU], hC.go hS hU hW, by rw [hU]; exact hP⟩⟩ rfl hn hl.1 hst (lv_room hcat) d hf
variable {a : Array Value}
theorem g_calli {r : Int32} (hr : gRun p l e R s m args below meth c nL E σ cells slots pc lv st0 rest (fun sz => gRi E σ' r sz a) mc ms) (kk : gJ p l e R s m args below meth c Q nL E σ' (cells + mc) (slots + ms) (pc + 3) lv (.int r :: rest)) : gJ p l e R s m args below meth c Q nL E σ cells slots pc lv st0 := by
  intro H locs ls hP hS hl
  refine va_calli (hr H locs ls hP hS hl) hS (fun q _ h => gA_mono hS.1 q h) (gA_mono hS.1) (fun r' u t H1 locs1 ht hvm hr' hB hz hk hS1 => ?_)
  subst hr'
  have hB : gP _ _ t.heap := hB
  rw [ht] at hB
  exact kk H1 locs1 ls hB hS1 hl
theorem g_calll {r : Int64} (hr : gRun p l e R s m args below meth c nL E σ cells slots pc lv st0 rest (fun sz => gRl E σ' r sz a) mc ms) (kk : gJ p l e R s m args below meth c Q nL E σ' (cells + mc) (slots + ms) (pc + 3) lv (.long r :: rest)) : gJ p l e R s m args below meth c Q nL E σ cells slots pc lv st0 := by
  intro H locs ls hP hS hl
  refine va_calll (hr H locs ls hP hS hl) hS (fun q _ h => gA_mono hS.1 q h) (gA_mono hS.1) (fun r' u t H1 locs1 ht hvm hr' hB hz hk hS1 => ?_)
  subst hr'
  have hB : gP _ _ t.heap := hB
  rw [ht] at hB
  exact kk H1 locs1 ls hB hS1 hl
theorem g_callv (hr : gRun p l e R s m args below meth c nL E σ cells slots pc lv st0 rest (fun sz => gRv E σ' sz a) mc ms) (kk : gJ p l e R s m args below meth c Q nL E σ' (cells + mc) (slots + ms) (pc + 3) lv rest) : gJ p l e R s m args below meth c Q nL E σ cells slots pc lv st0 := by
  intro H locs ls hP hS hl
  refine va_callv (hr H locs ls hP hS hl) hS (fun q _ h => gA_mono hS.1 q h) (gA_mono hS.1) (fun u t H1 locs1 ht hvm hr' hB hz hk hS1 => ?_)
  have hB : gP _ _ t.heap := hB
  rw [ht] at hB
  exact kk H1 locs1 ls hB hS1 hl
end GM
end
section
section GT
variable {p : Program} {l : Launch} {e : Env} {R : Room} {s : State} {m : MethodId} {args : Array Value} {below : List Frame} {meth : Method} {c : Code} {Q : State → Prop}
variable {cc : ByteArray} {nL : Nat} {Ts : List Cond} {own : String} {E : gT} {σ σ' : gS} {cells slots pc : Nat} {lv lv' : List (Nat × Value)} {rest st0 : List Value}
/-- which exception: 1, 2, 3; 0 is none -/
def gEx (n : Nat) : String := if n = 1 then gIA else if n = 2 then gIS else gIO
abbrev gXi (E : gT) (σ : gS) (th : Nat) (r : Int32) (sz : Nat) : Array Value → State → Outcome → State → Prop := va_Qi (fun (r' : Int32) (_ : Unit) => th = 0 ∧ r' = r) (fun _ => gBt E σ) (gA E sz)
abbrev gXv (E : gT) (σ : gS) (th : Nat) (sz : Nat) : Array Value → State → Outcome → State → Prop := va_Qv (fun (_ : Unit) => th = 0) (fun _ => gBt E σ) (gA E sz)
abbrev gXx (E : gT) (σ : gS) (th : Nat) (sz : Nat) : String → State → State → Prop := vx_X (fun (_ : Unit) => th ≠ 0) (fun En _ t => En = gEx th ∧ gBt E σ t) (gA E sz)
/-- a method that returns r, or throws number th (0: it returns): the numbers behind it are σ' -/
def gYi (l : Launch) (y : MethodName) (ws : List Cond) (rm : Room) (mc ms : Nat) (E : gT) (σ : gS) (av : List Value) (th : Nat) (r : Int32) (σ' : gS) : Prop := ∀ sz, vx_Met l y ws rm (gPre E σ sz av) (gXi E σ' th r sz) (gXx E σ' th sz) mc ms (gA E sz)
def gYv (l : Launch) (y : MethodName) (ws : List Cond) (rm : Room) (mc ms : Nat) (E : gT) (σ : gS) (av : List Value) (th : Nat) (σ' : gS) : Prop := ∀ sz, vx_Met l y ws rm (gPre E σ sz av) (gXv E σ' th sz) (gXx E σ' th sz) mc ms (gA E sz)
theorem g_vmet {y : MethodName} {ws ws' : List Cond} {rm : Room} {mc ms : Nat} {av : List Value} {ret : Option FieldType} {Qc : Nat → Array Value → State → Outcome → State → Prop} {XC : Nat → String → State → State → Prop} (hy : plainName y.cls = true) (hw : ws = Cond.code y cc nL ret :: ws') (hlv : lv_args 0 av = lv) (hsz : (lg_sl av).length ≤ nL)
    (body : ∀ (p : Program) (e : Env) (s : State) (m : MethodId) (below : List Frame) (meth : Method) (c : Code), CallFix p m c cc nL s av.toArray ws y.cls → meth.sig.returnType = ret → meth.locks = false → (∀ x ∈ c.exceptionTable.toList, False) → gC E s →
      gJ p l e rm s m av.toArray below meth c (vx_MQ below (Qc s.heap.size) (XC s.heap.size) av.toArray s mc ms (gA E s.heap.size)) nL E σ 0 0 0 lv []) : ∀ sz, vx_Met l y ws rm (gPre E σ sz av) (Qc sz) (XC sz) mc ms (gA E sz) := by
  intro sz
  refine vx_ofW (cc := cc) (maxL := nL) (ret := ret) hy hw ?_
  intro p e s m args below meth c s₁ B hml hout hv
  obtain ⟨rfl, rfl, hC, hP⟩ := hv
  exact g_ent (k := fun _ => True) (ls := #[]) hlv hsz (body p e s m below meth c ⟨B.exec, B.bytes, hml, findClass_of_methodNamed B.named, atoms_spec (ws := ws) B.pre⟩ B.returns B.notSynchronized hout hC) hP
/-- ends of such a method -/
theorem g_xiret (S : CallFix p m c cc nL s args Ts own) (hr : meth.sig.returnType = some .int) (hlocks : meth.locks = false) {XC : String → State → State → Prop} {th : Nat} {r r' : Int32} {mc ms : Nat} (d : decode cc pc = .ok (.ireturn, 1)) (h0 : th = 0) (h1 : r = r') (h2 : σ = σ') (h3 : cells ≤ mc) (h4 : slots ≤ ms) :
    gJ p l e R s m args below meth c (vx_MQ below (gXi E σ' th r' s.heap.size) XC args s mc ms (gA E s.heap.size)) nL E σ cells slots pc lv [.int r] := by
  subst h1; subst h2
  exact fun H locs ls hP hS hl => vx_ret (W.widen h3 h4 (W.iret S.1 S.2.1 hr (fun t ht _ => ⟨⟨r, (), rfl, ⟨h0, rfl⟩, by show gP _ _ t.heap; rw [ht]; exact hP⟩, hS.F ht⟩) hS.2.2 d))
theorem g_xzret (S : CallFix p m c cc nL s args Ts own) (hr : meth.sig.returnType = some .boolean) (hlocks : meth.locks = false) {XC : String → State → State → Prop} {th : Nat} {r r' : Int32} {mc ms : Nat} (d : decode cc pc = .ok (.ireturn, 1)) (hn : narrow .boolean (.int r) = .int r) (h0 : th = 0) (h1 : r = r') (h2 : σ = σ') (h3 : cells ≤ mc) (h4 : slots ≤ ms) :
    gJ p l e R s m args below meth c (vx_MQ below (gXi E σ' th r' s.heap.size) XC args s mc ms (gA E s.heap.size)) nL E σ cells slots pc lv [.int r] := by
  subst h1; subst h2
  exact fun H locs ls hP hS hl => vx_ret (W.widen h3 h4 (W.zret S.1 S.2.1 hr hn (fun t ht _ => ⟨⟨r, (), rfl, ⟨h0, rfl⟩, by show gP _ _ t.heap; rw [ht]; exact hP⟩, hS.F ht⟩) hS.2.2 d))
theorem g_xvret (S : CallFix p m c cc nL s args Ts own) (hr : meth.sig.returnType = none) (hlocks : meth.locks = false) {XC : String → State → State → Prop} {th : Nat} {mc ms : Nat} (d : decode cc pc = .ok (.return_, 1)) (h0 : th = 0) (h2 : σ = σ') (h3 : cells ≤ mc) (h4 : slots ≤ ms) :
    gJ p l e R s m args below meth c (vx_MQ below (gXv E σ' th s.heap.size) XC args s mc ms (gA E s.heap.size)) nL E σ cells slots pc lv [] := by
  subst h2
  exact fun H locs ls hP hS hl => vx_ret (W.widen h3 h4 (W.vret S.1 S.2.1 hr (fun t ht _ => ⟨⟨(), rfl, h0, by show gP _ _ t.heap; rw [ht]; exact hP⟩, hS.F ht⟩) hS.2.2 d))
/-- throw new X(text) -/
theorem g_throw (S : CallFix p m c cc nL s args Ts own) (hC : gC E s) (hfl : l.stackTraces = false) (hlocks : meth.locks = false) (hout : ∀ x ∈ c.exceptionTable.toList, False) {cls text : String} {names : List String} {ik is ic : Nat} (th : Nat) {th' mc ms : Nat} {Qc : Array Value → State → Outcome → State → Prop} (hth : th ≠ 0) (hcls0 : cls = gEx th)
    (hcls : Bundle.fit cls = true) (hnames : ∀ n ∈ names, Bundle.fit n = true) (hk : Cond.classLink own ik cls ∈ Ts) (hini : Cond.initialized cls ∈ Ts) (hstr : ∃ sa, vk_R own is text sa s) (hat : ∀ w ∈ (vx_atS own ic cls names).filter goodWord, w ∈ Ts) (hat2 : ∀ w ∈ (vx_atS own ic cls names).filter (fun w => !goodWord w), w ∈ [Cond.declares (Bundle.initS "java/lang/RuntimeException"), Cond.declares (Bundle.initS "java/lang/Exception"), Cond.declares (Bundle.initS Bundle.tN), Cond.castable gIA gIA, Cond.castable gIS gIS, Cond.castable gIO gIO])
    (hgood : ∀ w ∈ Cond.classLink own ik cls :: Cond.initialized cls :: vx_atS own ic cls names, vx_ot w = true)
    (d0 : decode cc pc = .ok (.new ik, 3)) (d3 : decode cc (pc + 3) = .ok (.dup, 1)) (d4 : decode cc (pc + 4) = .ok (.ldc is, 2)) (d6 : decode cc (pc + 6) = .ok (.invokespecial ic, 3)) (d9 : decode cc (pc + 9) = .ok (.athrow, 1))
    (hRf : names.length + 3 < R.frames) (hRl : (rest.map fun v => v.category).sum + (13 * (names.length + 1) + 43) ≤ R.locals) (hRc : cells + 1 ≤ R.cells) (hRs : slots + 6 ≤ R.slots) (h3 : cells + 1 ≤ mc) (h4 : slots + 6 ≤ ms) (h0 : th' = th) (h2 : σ = σ') :
    gJ p l e R s m args below meth c (vx_MQ below Qc (gXx E σ' th' s.heap.size) args s mc ms (gA E s.heap.size)) nL E σ cells slots pc lv rest := by
  subst h0; subst h2
  intro H locs ls hP hS hl
  obtain ⟨sa, hsa⟩ := hstr
  have hat := vx_hat (fun w h => S.2.2.2.2 w (hat w h)) hat2 (vx_c (va_Nw.use rfl hC.2.2.1.1.2.2.1) (vx_c (va_Nw.use rfl hC.2.2.1.1.2.2.2.1) (vx_c (va_Nw.use rfl hC.2.2.1.1.2.2.2.2) (vx_c (va_Nw.use rfl hC.2.2.1.2.1.1) (vx_c (va_Nw.use rfl hC.2.2.1.2.1.2.1) (vx_c (va_Nw.use rfl hC.2.2.1.2.1.2.2) vx_n))))))
  refine vx_throwS S.1 S.2.1 hfl S.2.2.2.1 hcls hnames (S.2.2.2.2 _ hk) (S.2.2.2.2 _ hini) hsa hat hgood hC.2.2.2.1.1 hC.2.2.2.1.2 hS (hl.1.trans S.2.2.1.symm) d0 d3 d4 d6 d9 (fun x hx => (hout x hx).elim) hRf hRl hRc hRs hlocks (fun t _ hz hk9 => ⟨(), hth, ⟨hcls0, ?_⟩, ?_⟩) hS.2.2 h3 h4
  · exact ⟨hP.1.kept (fun k q hk => hk9 _ (vx_lt hP.1 hk)), hP.2⟩
  · exact ⟨Nat.le_trans hS.1 hz, fun q h1 h2 => by rw [hk9 q (Nat.lt_of_lt_of_le h1 hS.1)]; exact hS.2.1 q h1 h2⟩
/-- a call under way that may throw -/
def gXun (p : Program) (l : Launch) (e : Env) (R : Room) (s : State) (m : MethodId) (args : Array Value) (below : List Frame) (meth : Method) (c : Code) (nL : Nat) (E : gT) (σ : gS) (cells slots pc : Nat) (lv : List (Nat × Value)) (st0 rest : List Value) (Qa : Nat → State → Outcome → State → Prop) (XC : Nat → String → State → State → Prop) (mc ms : Nat) : Prop :=
  ∀ (H : Heap) (locs : List Loc) (ls : Array Slot), gP E σ H → va_S (gA E s.heap.size) s.heap H locs → lv_has ls nL lv → vx_Run p l e R s m args below meth c H locs cells slots mc ms (F0 m pc ls st0) rest (Qa H.size) (XC H.size) (gA E H.size)
variable {y : MethodName} {bytes : ByteArray} {maxL n index mc ms : Nat} {ret : Option FieldType} {ws : List Cond} {rm : Room} {As : List Value} {Qc : Nat → Array Value → State → Outcome → State → Prop} {XC : Nat → String → State → State → Prop}
theorem g_xunV (S : CallFix p m c cc nL s args Ts own) (hC : gC E s) {k ci : Nat} {q : vw_C} (hk : k < 58) (hkd : gK k = ci) (hci : ci < 8) (hcl : vwCl[ci]? = some q) (hM : ∀ sz, vx_Met l y ws rm (gPre E σ sz (.ref (E.2.2 k) :: As)) (Qc sz) (XC sz) mc ms (gA E sz)) (cw : CallW R s args own q.1 index y bytes maxL ret ws rm mc ms n) (hn : As.length = n) (hst : st0 = As.reverse ++ .ref (E.2.2 k) :: rest) (hcat : (rest.map fun v => v.category).sum ≤ 8) (d : decode cc pc = .ok (.invokevirtual index, 3)) (hf : cells + mc ≤ R.cells ∧ slots + ms ≤ R.slots) :
    gXun p l e R s m args below meth c nL E σ cells slots pc lv st0 rest (fun sz => Qc sz (Value.ref (E.2.2 k) :: As).toArray) XC mc ms :=
  fun H locs ls hP hS hl => vx_runV S (hM H.size) cw ⟨gPre_blind, g_recv hC hk hkd hci hcl hP, fun U hU hW => ⟨rfl, by rw [hU], hC.go hS hU hW, by rw [hU]; exact hP⟩⟩ rfl hn hl.1 hst (lv_room hcat) d hf
theorem g_xunS (S : CallFix p m c cc nL s args Ts own) (hC : gC E s) (hM : ∀ sz, vx_Met l y ws rm (gPre E σ sz As) (Qc sz) (XC sz) mc ms (gA E sz)) (cw : CallB R s args own index y bytes maxL ret ws rm mc ms n ∧ (Cond.static y).before args s = true) (hn : As.length = n) (hst : st0 = As.reverse ++ rest) (hcat : (rest.map fun v => v.category).sum ≤ 8) (d : decode cc pc = .ok (.invokestatic index, 3)) (hf : cells + mc ≤ R.cells ∧ slots + ms ≤ R.slots) :
    gXun p l e R s m args below meth c nL E σ cells slots pc lv st0 rest (fun sz => Qc sz As.toArray) XC mc ms :=
  fun H locs ls hP hS hl => vx_runS S (hM H.size) cw ⟨gPre_blind, fun U hU hW => ⟨rfl, by rw [hU], hC.go hS hU hW, by rw [hU]; exact hP⟩⟩ rfl hn hl.1 hst (lv_room hcat) d hf
variable {a : Array Value} {th : Nat}
/-- thrown here: the frame, with an exception of number th over it -/
def gV (p : Program) (l : Launch) (e : Env) (R : Room) (s : State) (m : MethodId) (args : Array Value) (below : List Frame) (meth : Method) (c : Code) (Q : State → Prop) (nL : Nat) (E : gT) (th : Nat) (σ : gS) (cells slots pc : Nat) (lv : List (Nat × Value)) (rest : List Value) : Prop :=
  ∀ (H : Heap) (locs : List Loc) (ls : Array Slot) (q : Addr) (ce : Cell), gP E σ H → va_S (gA E s.heap.size) s.heap H locs → lv_has ls nL lv → H[q]? = some ce → ce.vm = .none → s.vm.findClass (gEx th) = some ce.cls → vx_W p l e R s m args below meth c H locs cells slots Q (F0 m pc ls rest) q
theorem g_callxi {r : Int32} (hr : gXun p l e R s m args below meth c nL E σ cells slots pc lv st0 rest (fun sz => gXi E σ' th r sz a) (fun sz => gXx E σ' th sz) mc ms) (kx : th ≠ 0 → gV p l e R s m args below meth c Q nL E th σ' (cells + mc) (slots + ms) pc lv rest) (kk : th = 0 → gJ p l e R s m args below meth c Q nL E σ' (cells + mc) (slots + ms) (pc + 3) lv (.int r :: rest)) : gJ p l e R s m args below meth c Q nL E σ cells slots pc lv st0 := by
  intro H locs ls hP hS hl
  refine vx_calli (hr H locs ls hP hS hl) hS (fun q _ h => gA_mono hS.1 q h) (gA_mono hS.1) (fun q _ h => gA_mono hS.1 q h) (fun En ce q9 u t H1 locs1 ht hvm hp hB hz hk hS1 hce hv hcl => ?_) (fun r' u t H1 locs1 ht hvm hr' hB hz hk hS1 => ?_)
  · obtain ⟨rfl, hB⟩ := hB
    have hB : gP _ _ t.heap := hB
    rw [ht] at hB
    exact kx hp H1 locs1 ls q9 ce hB hS1 hl hce hv hcl
  · obtain ⟨h0, rfl⟩ := hr'
    have hB : gP _ _ t.heap := hB
    rw [ht] at hB
    exact kk h0 H1 locs1 ls hB hS1 hl
theorem g_callxv (hr : gXun p l e R s m args below meth c nL E σ cells slots pc lv st0 rest (fun sz => gXv E σ' th sz a) (fun sz => gXx E σ' th sz) mc ms) (kx : th ≠ 0 → gV p l e R s m args below meth c Q nL E th σ' (cells + mc) (slots + ms) pc lv rest) (kk : th = 0 → gJ p l e R s m args below meth c Q nL E σ' (cells + mc) (slots + ms) (pc + 3) lv rest) : gJ p l e R s m args below meth c Q nL E σ cells slots pc lv st0 := by
  intro H locs ls hP hS hl
  refine vx_callv (hr H locs ls hP hS hl) hS (fun q _ h => gA_mono hS.1 q h) (gA_mono hS.1) (fun q _ h => gA_mono hS.1 q h) (fun En ce q9 u t H1 locs1 ht hvm hp hB hz hk hS1 hce hv hcl => ?_) (fun u t H1 locs1 ht hvm hr' hB hz hk hS1 => ?_)
  · obtain ⟨rfl, hB⟩ := hB
    have hB : gP _ _ t.heap := hB
    rw [ht] at hB
    exact kx hp H1 locs1 ls q9 ce hB hS1 hl hce hv hcl
  · have hB : gP _ _ t.heap := hB
    rw [ht] at hB
    exact kk hr' H1 locs1 ls hB hS1 hl
/-- it goes on to the caller -/
theorem g_out (hlocks : meth.locks = false) (hout : ∀ x ∈ c.exceptionTable.toList, False) {Qc : Array Value → State → Outcome → State → Prop} {th' : Nat} (hth : th ≠ 0) (h0 : th' = th) (h2 : σ = σ') (h3 : cells ≤ mc) (h4 : slots ≤ ms) :
    gV p l e R s m args below meth c (vx_MQ below Qc (gXx E σ' th' s.heap.size) args s mc ms (gA E s.heap.size)) nL E th σ cells slots pc lv rest := by
  subst h0; subst h2
  intro H locs ls q ce hP hS hl hce hv hcl
  exact vx_out (fun x hx => (hout x hx).elim) hlocks hce hv hcl (fun t ht _ => ⟨(), hth, ⟨rfl, by show gP _ _ t.heap; rw [ht]; exact hP⟩, hS.F ht⟩) hS.2.2 h3 h4
end GT
end
section
section GO
variable {p : Program} {l : Launch} {e : Env} {R : Room} {s : State} {m : MethodId} {args : Array Value} {below : List Frame} {meth : Method} {c : Code} {Q : State → Prop}
variable {cc : ByteArray} {nL : Nat} {Ts : List Cond} {own : String} {E : gT} {σ σ' : gS} {cells slots pc : Nat} {lv lv' : List (Nat × Value)} {rest st0 : List Value}
/-- the town's base place, or the trial's -/
def gTw (t : Nat) : Prop := t = 1
theorem gTw.lt {t : Nat} (h : gTw t) {j : Nat} (hj : j < 28) : t + j < 58 := by obtain rfl : t = 1 := h <;> omega
theorem gTw.lt2 {t : Nat} (h : gTw t) {a i : Nat} (hj : a + i < 28) : t + a + i < 58 := by obtain rfl : t = 1 := h <;> omega
theorem gTw.town {t : Nat} (h : gTw t) : gK t = 5 := by obtain rfl : t = 1 := h <;> rfl
theorem gTw.r1 {t : Nat} (h : gTw t) : gK (t + 1) = 10 := by obtain rfl : t = 1 := h <;> rfl
theorem gTw.r2 {t : Nat} (h : gTw t) : gK (t + 2) = 11 := by obtain rfl : t = 1 := h <;> rfl
theorem gTw.r3 {t : Nat} (h : gTw t) : gK (t + 3) = 12 := by obtain rfl : t = 1 := h <;> rfl
theorem gTw.r4 {t : Nat} (h : gTw t) : gK (t + 4) = 13 := by obtain rfl : t = 1 := h <;> rfl
theorem gTw.store {t : Nat} (h : gTw t) : gK (t + 5) = 4 := by obtain rfl : t = 1 := h <;> rfl
theorem gTw.bed {t : Nat} (h : gTw t) {i : Nat} (hi : i < 4) : gK (t + 6 + i) = 0 := by
  obtain rfl : t = 1 := h <;> rcases (show i = 0 ∨ i = 1 ∨ i = 2 ∨ i = 3 by omega) with rfl | rfl | rfl | rfl <;> rfl
theorem gTw.drum {t : Nat} (h : gTw t) {i : Nat} (hi : i < 4) : gK (t + 10 + i) = 2 := by
  obtain rfl : t = 1 := h <;> rcases (show i = 0 ∨ i = 1 ∨ i = 2 ∨ i = 3 by omega) with rfl | rfl | rfl | rfl <;> rfl
theorem gTw.smug {t : Nat} (h : gTw t) {i : Nat} (hi : i < 4) : gK (t + 14 + i) = 3 := by
  obtain rfl : t = 1 := h <;> rcases (show i = 0 ∨ i = 1 ∨ i = 2 ∨ i = 3 by omega) with rfl | rfl | rfl | rfl <;> rfl
theorem gTw.card {t : Nat} (h : gTw t) {i : Nat} (hi : i < 10) : gK (t + 18 + i) = 1 := by
  obtain rfl : t = 1 := h <;> rcases (show i = 0 ∨ i = 1 ∨ i = 2 ∨ i = 3 ∨ i = 4 ∨ i = 5 ∨ i = 6 ∨ i = 7 ∨ i = 8 ∨ i = 9 by omega) with rfl | rfl | rfl | rfl | rfl | rfl | rfl | rfl | rfl | rfl <;> rfl
theorem ga10 (S : CallFix p m c cc nL s args Ts own) (hC : gC E s) {k : Nat} (hk : k < 58) (hkd : gK k = 10) (j : Nat) {i : Int32} (hi : i = nI j) (hj : j < 4) (q : Nat) (hq : k + 5 + j = q) (d : decode cc pc = .ok (.aaload, 1)) (kk : gJ p l e R s m args below meth c Q nL E σ cells slots (pc + 1) lv (.ref (E.2.2 q) :: rest)) : gJ p l e R s m args below meth c Q nL E σ cells slots pc lv (.int i :: .ref (E.2.2 k) :: rest) :=
  g_aald S hC hk 10 4 5 2 2 (by unfold gw; rw [hkd]; try rfl) rfl (by omega) j hi hj q hq d kk
theorem ga11 (S : CallFix p m c cc nL s args Ts own) (hC : gC E s) {k : Nat} (hk : k < 58) (hkd : gK k = 11) (j : Nat) {i : Int32} (hi : i = nI j) (hj : j < 4) (q : Nat) (hq : k + 8 + j = q) (d : decode cc pc = .ok (.aaload, 1)) (kk : gJ p l e R s m args below meth c Q nL E σ cells slots (pc + 1) lv (.ref (E.2.2 q) :: rest)) : gJ p l e R s m args below meth c Q nL E σ cells slots pc lv (.int i :: .ref (E.2.2 k) :: rest) :=
  g_aald S hC hk 11 4 8 3 3 (by unfold gw; rw [hkd]; try rfl) rfl (by omega) j hi hj q hq d kk
theorem ga12 (S : CallFix p m c cc nL s args Ts own) (hC : gC E s) {k : Nat} (hk : k < 58) (hkd : gK k = 12) (j : Nat) {i : Int32} (hi : i = nI j) (hj : j < 4) (q : Nat) (hq : k + 11 + j = q) (d : decode cc pc = .ok (.aaload, 1)) (kk : gJ p l e R s m args below meth c Q nL E σ cells slots (pc + 1) lv (.ref (E.2.2 q) :: rest)) : gJ p l e R s m args below meth c Q nL E σ cells slots pc lv (.int i :: .ref (E.2.2 k) :: rest) :=
  g_aald S hC hk 12 4 11 4 4 (by unfold gw; rw [hkd]; try rfl) rfl (by omega) j hi hj q hq d kk
theorem ga13 (S : CallFix p m c cc nL s args Ts own) (hC : gC E s) {k : Nat} (hk : k < 58) (hkd : gK k = 13) (j : Nat) {i : Int32} (hi : i = nI j) (hj : j < 10) (q : Nat) (hq : k + 14 + j = q) (d : decode cc pc = .ok (.aaload, 1)) (kk : gJ p l e R s m args below meth c Q nL E σ cells slots (pc + 1) lv (.ref (E.2.2 q) :: rest)) : gJ p l e R s m args below meth c Q nL E σ cells slots pc lv (.int i :: .ref (E.2.2 k) :: rest) :=
  g_aald S hC hk 13 10 14 5 5 (by unfold gw; rw [hkd]; try rfl) rfl (by omega) j hi hj q hq d kk
/-- from one point to the same, otherwise written -/
theorem g_to {st st' : List Value} (k : gJ p l e R s m args below meth c Q nL E σ' cells slots pc lv' st') (h1 : σ = σ') (h2 : lv = lv') (h3 : st = st') : gJ p l e R s m args below meth c Q nL E σ cells slots pc lv st := by
  subst h1; subst h2; subst h3; exact k
/-- a loop that counts up: its world, its locals by the count -/
theorem g_loop (N : Nat) (Fs : Nat → gS) (Fl : Nat → List (Nat × Value)) (st : List Value) (h1 : σ = Fs 0) (h2 : lv = Fl 0)
    (hs : ∀ i, i < N → gJ p l e R s m args below meth c Q nL E (Fs (i + 1)) cells slots pc (Fl (i + 1)) st → gJ p l e R s m args below meth c Q nL E (Fs i) cells slots pc (Fl i) st)
    (hx : gJ p l e R s m args below meth c Q nL E (Fs N) cells slots pc (Fl N) st) : gJ p l e R s m args below meth c Q nL E σ cells slots pc lv st := by
  subst h1; subst h2
  have key : ∀ d i, i + d = N → gJ p l e R s m args below meth c Q nL E (Fs i) cells slots pc (Fl i) st := by
    intro d
    induction d with
    | zero => intro i hi; obtain rfl : i = N := by omega
              exact hx
    | succ d ih => intro i hi; exact hs i (by omega) (ih (i + 1) (by omega))
  exact key N 0 (by omega)
/-- numbers written as literals -/
theorem gI (n : Nat) : (OfNat.ofNat n : Int32) = nI n := rfl
end GO
/-- n steps of a thing, the first step's number 0 -/
def itr {α : Type} (f : Nat → α → α) : Nat → α → α
  | 0, a => a
  | n + 1, a => f n (itr f n a)
end
section
section GP
variable {p : Program} {l : Launch} {e : Env} {R : Room} {s : State} {m : MethodId} {args : Array Value} {below : List Frame} {meth : Method} {c : Code} {Q : State → Prop}
variable {cc : ByteArray} {nL : Nat} {Ts : List Cond} {own : String} {E : gT} {σ σ' : gS} {cells slots pc : Nat} {lv lv' : List (Nat × Value)} {rest st0 : List Value}
theorem g_lk (S : CallFix p m c cc nL s args Ts own) {dflt : Int} {ps : Array (Int × Int)} {len : Nat} {x : Int32} {off : Int} (tgt : Nat) (d : decode cc pc = .ok (.lookupswitch dflt ps, len)) (hp : (ps.toList.zip (ps.toList.drop 1)).all (fun (a, next) => a.1 < next.1) = true) (ho : Op.lookupswitch.offset ps.toList dflt x.toInt = off) (ht : (pc : Int) + off = (tgt : Int)) (kk : gJ p l e R s m args below meth c Q nL E σ cells slots tgt lv rest) : gJ p l e R s m args below meth c Q nL E σ cells slots pc lv (.int x :: rest) :=
  fun H locs ls hP hS hl => lv_lookup S.1 S.2.1 d hp ho ht (kk H locs ls hP hS hl)
end GP
/-- the lesser of two, as the library has it -/
def gmin (x y : Int32) : Int32 := if y < x then y else x
theorem g_nb {r : Int32} (h : r = 0 ∨ r = 1) : narrow .boolean (.int r) = .int r := by
  rcases h with rfl | rfl <;> rfl
section GP2
variable {p : Program} {l : Launch} {e : Env} {R : Room} {s : State} {m : MethodId} {args : Array Value} {below : List Frame} {meth : Method} {c : Code} {Q : State → Prop}
variable {nL : Nat} {E : gT} {σ : gS} {cells slots pc : Nat} {lv : List (Nat × Value)} {rest : List Value}
/-- the world's numbers by a name -/
theorem g_nm (k : ∀ τ : gS, τ = σ → gJ p l e R s m args below meth c Q nL E τ cells slots pc lv rest) : gJ p l e R s m args below meth c Q nL E σ cells slots pc lv rest := k σ rfl
end GP2
section GP3
variable {p : Program} {l : Launch} {e : Env} {R : Room} {s : State} {m : MethodId} {args : Array Value} {below : List Frame} {meth : Method} {c : Code} {Q : State → Prop}
variable {cc : ByteArray} {nL : Nat} {Ts : List Cond} {own : String} {E : gT} {σ : gS} {cells slots pc : Nat} {lv : List (Nat × Value)} {rest : List Value}
theorem g_mn (S : CallFix p m c cc nL s args Ts own) {index : Nat} (h1 : Cond.methodLink own index Lib.Math.min.name ∈ Ts) (h2 : Cond.static Lib.Math.min.name ∈ Ts) (h3 : Cond.initialized "java/lang/Math" ∈ Ts) (h4 : Cond.code Lib.Math.min.name Lib.Math.min.code 2 (some .int) ∈ Ts) (hR : 1 ≤ R.frames) (hR2 : (rest.map fun v => v.category).sum + 13 ≤ R.locals) (hc : cells ≤ R.cells) (hs : slots ≤ R.slots) {x y : Int32} (d : decode cc pc = .ok (.invokestatic index, 3))
    (kk : gJ p l e R s m args below meth c Q nL E σ cells slots (pc + 3) lv (.int (gmin x y) :: rest)) : gJ p l e R s m args below meth c Q nL E σ cells slots pc lv (.int y :: .int x :: rest) := g_min S h1 h2 h3 h4 hR hR2 hc hs d kk
end GP3
section GP4
variable {p : Program} {l : Launch} {e : Env} {R : Room} {s : State} {m : MethodId} {args : Array Value} {below : List Frame} {meth : Method} {c : Code} {Q : State → Prop}
variable {nL : Nat} {E : gT} {σ : gS} {cells slots pc : Nat} {lv : List (Nat × Value)} {rest : List Value}
theorem g_top {x y : Int32} (h : x = y) (k : gJ p l e R s m args below meth c Q nL E σ cells slots pc lv (.int y :: rest)) : gJ p l e R s m args below meth c Q nL E σ cells slots pc lv (.int x :: rest) := by
  subst h; exact k
end GP4
theorem gT1 : gTw 1 := rfl
section GP5
variable {p : Program} {l : Launch} {e : Env} {R : Room} {s : State} {m : MethodId} {args : Array Value} {below : List Frame} {meth : Method} {c : Code} {Q : State → Prop}
variable {nL : Nat} {E : gT} {σ : gS} {cells slots pc : Nat} {lv : List (Nat × Value)} {rest : List Value}
theorem g_nl {x : Int64} (k : ∀ y : Int64, y = x → gJ p l e R s m args below meth c Q nL E σ cells slots pc lv (.long y :: rest)) : gJ p l e R s m args below meth c Q nL E σ cells slots pc lv (.long x :: rest) := k x rfl
end GP5
end
section
def sX0_lay_s (σ : gS) (k : Nat) (a : Int32) (b : Int32) : gS := let S1 := gu σ k 0 a; let S2 := gu S1 k 1 b; S2
theorem fX0_lay (σ : gS) (k : Nat) (a : Int32) (b : Int32) (x : Nat) (hxk : x ≠ k) : (sX0_lay_s σ k a b).1 x = σ.1 x := by
  unfold sX0_lay_s
  (try dsimp only)
  (repeat' split)
  all_goals (simp [gu_ne, gcp, *])
set_option maxRecDepth 100000 in
set_option maxHeartbeats 4000000 in
theorem kX0_lay (l : Launch) (E : gT) (σ : gS) (k : Nat) (hk : k < 58) (hKk : gK k = 0) (a : Int32) (b : Int32) : gMv l yX0_lay wsX0_lay ({ frames := 0, cells := 0, slots := 0, locals := 0 }) 0 0 E σ [.ref (E.2.2 k), .int a, .int b] (sX0_lay_s σ k a b) := by
  refine g_met (mc := 0) (ms := 0) (nL := 3) (ret := none) (by decide) rfl (lv := [(0, .ref (E.2.2 k)), (1, .int a), (2, .int b)]) rfl (Nat.le_of_ble_eq_true rfl) ?_
  intro p e s m below meth c S hr hlocks hC
  have hiX0 : ∀ w ∈ wsX00, w ∈ wsX0_lay := by decide +kernel
  refine g_aload_n S 0 dX0_lay_0 rfl ?_
  refine g_iload_n S 1 dX0_lay_1 rfl ?_
  refine gp0 S hC hiX0 hk hKk 0 (by decide) (by decide +kernel) dX0_lay_2 ?_
  refine g_nm (fun S1 hS1 => ?_)
  refine g_aload_n S 0 dX0_lay_5 rfl ?_
  refine g_iload_n S 2 dX0_lay_6 rfl ?_
  refine gp0 S hC hiX0 hk hKk 1 (by decide) (by decide +kernel) dX0_lay_7 ?_
  refine g_nm (fun S2 hS2 => ?_)
  exact g_vret S hr hlocks dX0_lay_10 (by subst hS2 hS1; rfl) (Nat.le_of_ble_eq_true rfl) (Nat.le_of_ble_eq_true rfl)
def sX0_grow_s (σ : gS) (k : Nat) : gS := let S1 := gu σ k 2 (gmin ((σ.1 k 2) + (σ.1 k 0)) (σ.1 k 1)); S1
theorem fX0_grow (σ : gS) (k : Nat) (x : Nat) (hxk : x ≠ k) : (sX0_grow_s σ k).1 x = σ.1 x := by
  unfold sX0_grow_s
  (try dsimp only)
  (repeat' split)
  all_goals (simp [gu_ne, gcp, *])
set_option maxRecDepth 100000 in
set_option maxHeartbeats 4000000 in
theorem kX0_grow (l : Launch) (E : gT) (σ : gS) (k : Nat) (hk : k < 58) (hKk : gK k = 0) : gMv l yX0_grow wsX0_grow ({ frames := 1, cells := 0, slots := 0, locals := 24 }) 0 0 E σ [.ref (E.2.2 k)] (sX0_grow_s σ k) := by
  refine g_met (mc := 0) (ms := 0) (nL := 1) (ret := none) (by decide) rfl (lv := [(0, .ref (E.2.2 k))]) rfl (Nat.le_of_ble_eq_true rfl) ?_
  intro p e s m below meth c S hr hlocks hC
  have hiX0 : ∀ w ∈ wsX00, w ∈ wsX0_grow := by decide +kernel
  refine g_aload_n S 0 dX0_grow_0 rfl ?_
  refine g_aload_n S 0 dX0_grow_1 rfl ?_
  refine gg0 S hC hiX0 hk hKk 2 (by decide) (by decide +kernel) dX0_grow_2 ?_
  refine g_aload_n S 0 dX0_grow_5 rfl ?_
  refine gg0 S hC hiX0 hk hKk 0 (by decide) (by decide +kernel) dX0_grow_6 ?_
  refine g_iadd S dX0_grow_9 ?_
  refine g_aload_n S 0 dX0_grow_10 rfl ?_
  refine gg0 S hC hiX0 hk hKk 1 (by decide) (by decide +kernel) dX0_grow_11 ?_
  refine g_mn S (by decide +kernel) (by decide +kernel) (by decide +kernel) (by decide +kernel) (Nat.le_of_ble_eq_true rfl) (Nat.le_of_ble_eq_true rfl) (Nat.le_of_ble_eq_true rfl) (Nat.le_of_ble_eq_true rfl) dX0_grow_14 ?_
  refine gp0 S hC hiX0 hk hKk 2 (by decide) (by decide +kernel) dX0_grow_17 ?_
  refine g_nm (fun S1 hS1 => ?_)
  exact g_vret S hr hlocks dX0_grow_20 (by subst hS1; rfl) (Nat.le_of_ble_eq_true rfl) (Nat.le_of_ble_eq_true rfl)
def sX0_size_r (σ : gS) (k : Nat) : Int32 := (3 : Int32)
set_option maxRecDepth 100000 in
set_option maxHeartbeats 4000000 in
theorem kX0_size (l : Launch) (E : gT) (σ : gS) (k : Nat) (hk : k < 58) (hKk : gK k = 0) : gMi l yX0_size wsX0_size ({ frames := 0, cells := 0, slots := 0, locals := 0 }) 0 0 E σ [.ref (E.2.2 k)] (sX0_size_r σ k) σ := by
  refine g_met (mc := 0) (ms := 0) (nL := 1) (ret := (some .int)) (by decide) rfl (lv := [(0, .ref (E.2.2 k))]) rfl (Nat.le_of_ble_eq_true rfl) ?_
  intro p e s m below meth c S hr hlocks hC
  refine g_const S dX0_size_0 (v := 3) rfl ?_
  exact g_iret S hr hlocks dX0_size_1 rfl rfl (Nat.le_of_ble_eq_true rfl) (Nat.le_of_ble_eq_true rfl)
def sX0_tell_r (σ : gS) (k w : Nat) : Int32 := σ.1 k w
set_option maxRecDepth 100000 in
set_option maxHeartbeats 4000000 in
theorem kX0_tell (l : Launch) (E : gT) (σ : gS) (k : Nat) (hk : k < 58) (hKk : gK k = 0) (w : Nat) (hw : w < 3) : gMi l yX0_tell wsX0_tell ({ frames := 0, cells := 0, slots := 0, locals := 0 }) 0 0 E σ [.ref (E.2.2 k), .int (nI w)] (sX0_tell_r σ k w) σ := by
  refine g_met (mc := 0) (ms := 0) (nL := 2) (ret := (some .int)) (by decide) rfl (lv := [(0, .ref (E.2.2 k)), (1, .int (nI w))]) rfl (Nat.le_of_ble_eq_true rfl) ?_
  intro p e s m below meth c S hr hlocks hC
  have hiX0 : ∀ w ∈ wsX00, w ∈ wsX0_tell := by decide +kernel
  rcases (show w = 0 ∨ w = 1 ∨ w = 2 by omega) with rfl | rfl | rfl
  · skip
    refine g_iload_n S 1 dX0_tell_0 rfl ?_
    refine g_lk S 28 dX0_tell_1 rfl rfl (by decide) ?_
    refine g_aload_n S 0 dX0_tell_28 rfl ?_
    refine gg0 S hC hiX0 hk hKk 0 (by decide) (by decide +kernel) dX0_tell_29 ?_
    exact g_iret S hr hlocks dX0_tell_32 rfl rfl (Nat.le_of_ble_eq_true rfl) (Nat.le_of_ble_eq_true rfl)
  · skip
    refine g_iload_n S 1 dX0_tell_0 rfl ?_
    refine g_lk S 33 dX0_tell_1 rfl rfl (by decide) ?_
    refine g_aload_n S 0 dX0_tell_33 rfl ?_
    refine gg0 S hC hiX0 hk hKk 1 (by decide) (by decide +kernel) dX0_tell_34 ?_
    exact g_iret S hr hlocks dX0_tell_37 rfl rfl (Nat.le_of_ble_eq_true rfl) (Nat.le_of_ble_eq_true rfl)
  · skip
    refine g_iload_n S 1 dX0_tell_0 rfl ?_
    refine g_lk S 38 dX0_tell_1 rfl rfl (by decide) ?_
    refine g_aload_n S 0 dX0_tell_38 rfl ?_
    refine gg0 S hC hiX0 hk hKk 2 (by decide) (by decide +kernel) dX0_tell_39 ?_
    exact g_iret S hr hlocks dX0_tell_42 rfl rfl (Nat.le_of_ble_eq_true rfl) (Nat.le_of_ble_eq_true rfl)
def sX4_stock_r (σ : gS) (k : Nat) (a : Int32) : Int32 := if a = 0 then (σ.1 k 0) else (σ.1 k 1)
set_option maxRecDepth 100000 in
set_option maxHeartbeats 4000000 in
theorem kX4_stock (l : Launch) (E : gT) (σ : gS) (k : Nat) (hk : k < 58) (hKk : gK k = 4) (a : Int32) : gMi l yX4_stock wsX4_stock ({ frames := 0, cells := 0, slots := 0, locals := 0 }) 0 0 E σ [.ref (E.2.2 k), .int a] (sX4_stock_r σ k a) σ := by
  refine g_met (mc := 0) (ms := 0) (nL := 2) (ret := (some .int)) (by decide) rfl (lv := [(0, .ref (E.2.2 k)), (1, .int a)]) rfl (Nat.le_of_ble_eq_true rfl) ?_
  intro p e s m below meth c S hr hlocks hC
  have hiX4 : ∀ w ∈ wsX40, w ∈ wsX4_stock := by decide +kernel
  refine g_iload_n S 1 dX4_stock_0 rfl ?_
  refine g_if_ne S 11 dX4_stock_1 (by decide) (fun c_1 => ?_) (fun c_1 => ?_)
  · skip
    refine g_aload_n S 0 dX4_stock_11 rfl ?_
    refine gg4 S hC hiX4 hk hKk 1 (by decide) (by decide +kernel) dX4_stock_12 ?_
    exact g_iret S hr hlocks dX4_stock_15 (by rw [sX4_stock_r, if_neg c_1]) rfl (Nat.le_of_ble_eq_true rfl) (Nat.le_of_ble_eq_true rfl)
  · skip
    refine g_aload_n S 0 dX4_stock_4 rfl ?_
    refine gg4 S hC hiX4 hk hKk 0 (by decide) (by decide +kernel) dX4_stock_5 ?_
    refine g_goto S 15 dX4_stock_8 (by decide) ?_
    exact g_iret S hr hlocks dX4_stock_15 (by rw [sX4_stock_r, if_pos c_1]) rfl (Nat.le_of_ble_eq_true rfl) (Nat.le_of_ble_eq_true rfl)
def sX4_add_s (σ : gS) (k : Nat) (a : Int32) (b : Int32) : gS := if a = 0 then (let S2 := gu σ k 0 ((σ.1 k 0) + b); S2) else (let S1 := gu σ k 1 ((σ.1 k 1) + b); S1)
theorem fX4_add (σ : gS) (k : Nat) (a : Int32) (b : Int32) (x : Nat) (hxk : x ≠ k) : (sX4_add_s σ k a b).1 x = σ.1 x := by
  unfold sX4_add_s
  (try dsimp only)
  (repeat' split)
  all_goals (simp [gu_ne, gcp, *])
set_option maxRecDepth 100000 in
set_option maxHeartbeats 4000000 in
theorem kX4_add (l : Launch) (E : gT) (σ : gS) (k : Nat) (hk : k < 58) (hKk : gK k = 4) (a : Int32) (b : Int32) : gMv l yX4_add wsX4_add ({ frames := 0, cells := 0, slots := 0, locals := 0 }) 0 0 E σ [.ref (E.2.2 k), .int a, .int b] (sX4_add_s σ k a b) := by
  refine g_met (mc := 0) (ms := 0) (nL := 3) (ret := none) (by decide) rfl (lv := [(0, .ref (E.2.2 k)), (1, .int a), (2, .int b)]) rfl (Nat.le_of_ble_eq_true rfl) ?_
  intro p e s m below meth c S hr hlocks hC
  have hiX4 : ∀ w ∈ wsX40, w ∈ wsX4_add := by decide +kernel
  refine g_iload_n S 1 dX4_add_0 rfl ?_
  refine g_if_ne S 17 dX4_add_1 (by decide) (fun c_1 => ?_) (fun c_1 => ?_)
  · skip
    refine g_aload_n S 0 dX4_add_17 rfl ?_
    refine g_dup S dX4_add_18 rfl ?_
    refine gg4 S hC hiX4 hk hKk 1 (by decide) (by decide +kernel) dX4_add_19 ?_
    refine g_iload_n S 2 dX4_add_22 rfl ?_
    refine g_iadd S dX4_add_23 ?_
    refine gp4 S hC hiX4 hk hKk 1 (by decide) (by decide +kernel) dX4_add_24 ?_
    refine g_nm (fun S1 hS1 => ?_)
    exact g_vret S hr hlocks dX4_add_27 (by subst hS1; unfold sX4_add_s; (try dsimp only); rw [if_neg c_1]) (Nat.le_of_ble_eq_true rfl) (Nat.le_of_ble_eq_true rfl)
  · skip
    refine g_aload_n S 0 dX4_add_4 rfl ?_
    refine g_dup S dX4_add_5 rfl ?_
    refine gg4 S hC hiX4 hk hKk 0 (by decide) (by decide +kernel) dX4_add_6 ?_
    refine g_iload_n S 2 dX4_add_9 rfl ?_
    refine g_iadd S dX4_add_10 ?_
    refine gp4 S hC hiX4 hk hKk 0 (by decide) (by decide +kernel) dX4_add_11 ?_
    refine g_nm (fun S2 hS2 => ?_)
    refine g_goto S 27 dX4_add_14 (by decide) ?_
    exact g_vret S hr hlocks dX4_add_27 (by subst hS2; unfold sX4_add_s; (try dsimp only); rw [if_pos c_1]) (Nat.le_of_ble_eq_true rfl) (Nat.le_of_ble_eq_true rfl)
def sX4_addRoasted_s (σ : gS) (k : Nat) (a : Int32) (b : Int32) : gS := if a = 0 then (let S2 := gu σ k 2 ((σ.1 k 2) + b); S2) else (let S1 := gu σ k 3 ((σ.1 k 3) + b); S1)
theorem fX4_addRoasted (σ : gS) (k : Nat) (a : Int32) (b : Int32) (x : Nat) (hxk : x ≠ k) : (sX4_addRoasted_s σ k a b).1 x = σ.1 x := by
  unfold sX4_addRoasted_s
  (try dsimp only)
  (repeat' split)
  all_goals (simp [gu_ne, gcp, *])
set_option maxRecDepth 100000 in
set_option maxHeartbeats 4000000 in
theorem kX4_addRoasted (l : Launch) (E : gT) (σ : gS) (k : Nat) (hk : k < 58) (hKk : gK k = 4) (a : Int32) (b : Int32) : gMv l yX4_addRoasted wsX4_addRoasted ({ frames := 0, cells := 0, slots := 0, locals := 0 }) 0 0 E σ [.ref (E.2.2 k), .int a, .int b] (sX4_addRoasted_s σ k a b) := by
  refine g_met (mc := 0) (ms := 0) (nL := 3) (ret := none) (by decide) rfl (lv := [(0, .ref (E.2.2 k)), (1, .int a), (2, .int b)]) rfl (Nat.le_of_ble_eq_true rfl) ?_
  intro p e s m below meth c S hr hlocks hC
  have hiX4 : ∀ w ∈ wsX40, w ∈ wsX4_addRoasted := by decide +kernel
  refine g_iload_n S 1 dX4_addRoasted_0 rfl ?_
  refine g_if_ne S 17 dX4_addRoasted_1 (by decide) (fun c_1 => ?_) (fun c_1 => ?_)
  · skip
    refine g_aload_n S 0 dX4_addRoasted_17 rfl ?_
    refine g_dup S dX4_addRoasted_18 rfl ?_
    refine gg4 S hC hiX4 hk hKk 3 (by decide) (by decide +kernel) dX4_addRoasted_19 ?_
    refine g_iload_n S 2 dX4_addRoasted_22 rfl ?_
    refine g_iadd S dX4_addRoasted_23 ?_
    refine gp4 S hC hiX4 hk hKk 3 (by decide) (by decide +kernel) dX4_addRoasted_24 ?_
    refine g_nm (fun S1 hS1 => ?_)
    exact g_vret S hr hlocks dX4_addRoasted_27 (by subst hS1; unfold sX4_addRoasted_s; (try dsimp only); rw [if_neg c_1]) (Nat.le_of_ble_eq_true rfl) (Nat.le_of_ble_eq_true rfl)
  · skip
    refine g_aload_n S 0 dX4_addRoasted_4 rfl ?_
    refine g_dup S dX4_addRoasted_5 rfl ?_
    refine gg4 S hC hiX4 hk hKk 2 (by decide) (by decide +kernel) dX4_addRoasted_6 ?_
    refine g_iload_n S 2 dX4_addRoasted_9 rfl ?_
    refine g_iadd S dX4_addRoasted_10 ?_
    refine gp4 S hC hiX4 hk hKk 2 (by decide) (by decide +kernel) dX4_addRoasted_11 ?_
    refine g_nm (fun S2 hS2 => ?_)
    refine g_goto S 27 dX4_addRoasted_14 (by decide) ?_
    exact g_vret S hr hlocks dX4_addRoasted_27 (by subst hS2; unfold sX4_addRoasted_s; (try dsimp only); rw [if_pos c_1]) (Nat.le_of_ble_eq_true rfl) (Nat.le_of_ble_eq_true rfl)
def sX4_coffeeOfPortion_r (σ : gS) (k : Nat) : Int32 := gmin (σ.1 k 4) (σ.1 k 3)
set_option maxRecDepth 100000 in
set_option maxHeartbeats 4000000 in
theorem kX4_coffeeOfPortion (l : Launch) (E : gT) (σ : gS) (k : Nat) (hk : k < 58) (hKk : gK k = 4) : gMi l yX4_coffeeOfPortion wsX4_coffeeOfPortion ({ frames := 1, cells := 0, slots := 0, locals := 24 }) 0 0 E σ [.ref (E.2.2 k)] (sX4_coffeeOfPortion_r σ k) σ := by
  refine g_met (mc := 0) (ms := 0) (nL := 1) (ret := (some .int)) (by decide) rfl (lv := [(0, .ref (E.2.2 k))]) rfl (Nat.le_of_ble_eq_true rfl) ?_
  intro p e s m below meth c S hr hlocks hC
  have hiX4 : ∀ w ∈ wsX40, w ∈ wsX4_coffeeOfPortion := by decide +kernel
  refine g_aload_n S 0 dX4_coffeeOfPortion_0 rfl ?_
  refine gg4 S hC hiX4 hk hKk 4 (by decide) (by decide +kernel) dX4_coffeeOfPortion_1 ?_
  refine g_aload_n S 0 dX4_coffeeOfPortion_4 rfl ?_
  refine gg4 S hC hiX4 hk hKk 3 (by decide) (by decide +kernel) dX4_coffeeOfPortion_5 ?_
  refine g_mn S (by decide +kernel) (by decide +kernel) (by decide +kernel) (by decide +kernel) (Nat.le_of_ble_eq_true rfl) (Nat.le_of_ble_eq_true rfl) (Nat.le_of_ble_eq_true rfl) (Nat.le_of_ble_eq_true rfl) dX4_coffeeOfPortion_8 ?_
  exact g_iret S hr hlocks dX4_coffeeOfPortion_11 rfl rfl (Nat.le_of_ble_eq_true rfl) (Nat.le_of_ble_eq_true rfl)
def sX4_canMix_r (σ : gS) (k : Nat) (a : Int32) : Int32 := if σ.1 k 2 < (10 : Int32) - a then ((0 : Int32)) else ((1 : Int32))
theorem bX4_canMix (σ : gS) (k : Nat) (a : Int32) : sX4_canMix_r σ k a = 0 ∨ sX4_canMix_r σ k a = 1 := by
  unfold sX4_canMix_r
  repeat' split
  all_goals first | exact Or.inl rfl | exact Or.inr rfl
set_option maxRecDepth 100000 in
set_option maxHeartbeats 4000000 in
theorem kX4_canMix (l : Launch) (E : gT) (σ : gS) (k : Nat) (hk : k < 58) (hKk : gK k = 4) (a : Int32) : gMi l yX4_canMix wsX4_canMix ({ frames := 0, cells := 0, slots := 0, locals := 0 }) 0 0 E σ [.ref (E.2.2 k), .int a] (sX4_canMix_r σ k a) σ := by
  refine g_met (mc := 0) (ms := 0) (nL := 2) (ret := (some .boolean)) (by decide) rfl (lv := [(0, .ref (E.2.2 k)), (1, .int a)]) rfl (Nat.le_of_ble_eq_true rfl) ?_
  intro p e s m below meth c S hr hlocks hC
  have hiX4 : ∀ w ∈ wsX40, w ∈ wsX4_canMix := by decide +kernel
  refine g_aload_n S 0 dX4_canMix_0 rfl ?_
  refine gg4 S hC hiX4 hk hKk 2 (by decide) (by decide +kernel) dX4_canMix_1 ?_
  refine g_bipush S dX4_canMix_4 (v := 10) rfl ?_
  refine g_iload_n S 1 dX4_canMix_6 rfl ?_
  refine g_isub S dX4_canMix_7 ?_
  refine g_icmp_lt S 15 dX4_canMix_8 (by decide) (fun c_1 => ?_) (fun c_1 => ?_)
  · skip
    refine g_const S dX4_canMix_15 (v := 0) rfl ?_
    exact g_zret S hr hlocks dX4_canMix_16 rfl (by rw [sX4_canMix_r, if_pos c_1]) rfl (Nat.le_of_ble_eq_true rfl) (Nat.le_of_ble_eq_true rfl)
  · skip
    refine g_const S dX4_canMix_11 (v := 1) rfl ?_
    refine g_goto S 16 dX4_canMix_12 (by decide) ?_
    exact g_zret S hr hlocks dX4_canMix_16 rfl (by rw [sX4_canMix_r, if_neg c_1]) rfl (Nat.le_of_ble_eq_true rfl) (Nat.le_of_ble_eq_true rfl)
def sX4_servePortion_s (σ : gS) (k : Nat) (a : Int32) : gS := if σ.1 k 4 ≤ a then (let S1 := gu σ k 3 ((σ.1 k 3) - a); let S2 := gu S1 k 2 ((S1.1 k 2) - ((10 : Int32) - a)); let S3 := gu S2 k 5 ((S2.1 k 5) + (1 : Int32)); S3) else (let S4 := gu σ k 6 ((σ.1 k 6) + (1 : Int32)); let S5 := gu S4 k 3 ((S4.1 k 3) - a); let S6 := gu S5 k 2 ((S5.1 k 2) - ((10 : Int32) - a)); let S7 := gu S6 k 5 ((S6.1 k 5) + (1 : Int32)); S7)
theorem fX4_servePortion (σ : gS) (k : Nat) (a : Int32) (x : Nat) (hxk : x ≠ k) : (sX4_servePortion_s σ k a).1 x = σ.1 x := by
  unfold sX4_servePortion_s
  (try dsimp only)
  (repeat' split)
  all_goals (simp [gu_ne, gcp, *])
set_option maxRecDepth 100000 in
set_option maxHeartbeats 4000000 in
theorem kX4_servePortion (l : Launch) (E : gT) (σ : gS) (k : Nat) (hk : k < 58) (hKk : gK k = 4) (a : Int32) : gMv l yX4_servePortion wsX4_servePortion ({ frames := 0, cells := 0, slots := 0, locals := 0 }) 0 0 E σ [.ref (E.2.2 k), .int a] (sX4_servePortion_s σ k a) := by
  refine g_met (mc := 0) (ms := 0) (nL := 2) (ret := none) (by decide) rfl (lv := [(0, .ref (E.2.2 k)), (1, .int a)]) rfl (Nat.le_of_ble_eq_true rfl) ?_
  intro p e s m below meth c S hr hlocks hC
  have hiX4 : ∀ w ∈ wsX40, w ∈ wsX4_servePortion := by decide +kernel
  refine g_iload_n S 1 dX4_servePortion_0 rfl ?_
  refine g_aload_n S 0 dX4_servePortion_1 rfl ?_
  refine gg4 S hC hiX4 hk hKk 4 (by decide) (by decide +kernel) dX4_servePortion_2 ?_
  refine g_icmp_ge S 18 dX4_servePortion_5 (by decide) (fun c_1 => ?_) (fun c_1 => ?_)
  · skip
    refine g_aload_n S 0 dX4_servePortion_18 rfl ?_
    refine g_dup S dX4_servePortion_19 rfl ?_
    refine gg4 S hC hiX4 hk hKk 3 (by decide) (by decide +kernel) dX4_servePortion_20 ?_
    refine g_iload_n S 1 dX4_servePortion_23 rfl ?_
    refine g_isub S dX4_servePortion_24 ?_
    refine gp4 S hC hiX4 hk hKk 3 (by decide) (by decide +kernel) dX4_servePortion_25 ?_
    refine g_nm (fun S1 hS1 => ?_)
    refine g_aload_n S 0 dX4_servePortion_28 rfl ?_
    refine g_dup S dX4_servePortion_29 rfl ?_
    refine gg4 S hC hiX4 hk hKk 2 (by decide) (by decide +kernel) dX4_servePortion_30 ?_
    refine g_bipush S dX4_servePortion_33 (v := 10) rfl ?_
    refine g_iload_n S 1 dX4_servePortion_35 rfl ?_
    refine g_isub S dX4_servePortion_36 ?_
    refine g_isub S dX4_servePortion_37 ?_
    refine gp4 S hC hiX4 hk hKk 2 (by decide) (by decide +kernel) dX4_servePortion_38 ?_
    refine g_nm (fun S2 hS2 => ?_)
    refine g_aload_n S 0 dX4_servePortion_41 rfl ?_
    refine g_dup S dX4_servePortion_42 rfl ?_
    refine gg4 S hC hiX4 hk hKk 5 (by decide) (by decide +kernel) dX4_servePortion_43 ?_
    refine g_const S dX4_servePortion_46 (v := 1) rfl ?_
    refine g_iadd S dX4_servePortion_47 ?_
    refine gp4 S hC hiX4 hk hKk 5 (by decide) (by decide +kernel) dX4_servePortion_48 ?_
    refine g_nm (fun S3 hS3 => ?_)
    exact g_vret S hr hlocks dX4_servePortion_51 (by subst hS3 hS2 hS1; unfold sX4_servePortion_s; (try dsimp only); rw [if_pos c_1]) (Nat.le_of_ble_eq_true rfl) (Nat.le_of_ble_eq_true rfl)
  · skip
    refine g_aload_n S 0 dX4_servePortion_8 rfl ?_
    refine g_dup S dX4_servePortion_9 rfl ?_
    refine gg4 S hC hiX4 hk hKk 6 (by decide) (by decide +kernel) dX4_servePortion_10 ?_
    refine g_const S dX4_servePortion_13 (v := 1) rfl ?_
    refine g_iadd S dX4_servePortion_14 ?_
    refine gp4 S hC hiX4 hk hKk 6 (by decide) (by decide +kernel) dX4_servePortion_15 ?_
    refine g_nm (fun S4 hS4 => ?_)
    refine g_aload_n S 0 dX4_servePortion_18 rfl ?_
    refine g_dup S dX4_servePortion_19 rfl ?_
    refine gg4 S hC hiX4 hk hKk 3 (by decide) (by decide +kernel) dX4_servePortion_20 ?_
    refine g_iload_n S 1 dX4_servePortion_23 rfl ?_
    refine g_isub S dX4_servePortion_24 ?_
    refine gp4 S hC hiX4 hk hKk 3 (by decide) (by decide +kernel) dX4_servePortion_25 ?_
    refine g_nm (fun S5 hS5 => ?_)
    refine g_aload_n S 0 dX4_servePortion_28 rfl ?_
    refine g_dup S dX4_servePortion_29 rfl ?_
    refine gg4 S hC hiX4 hk hKk 2 (by decide) (by decide +kernel) dX4_servePortion_30 ?_
    refine g_bipush S dX4_servePortion_33 (v := 10) rfl ?_
    refine g_iload_n S 1 dX4_servePortion_35 rfl ?_
    refine g_isub S dX4_servePortion_36 ?_
    refine g_isub S dX4_servePortion_37 ?_
    refine gp4 S hC hiX4 hk hKk 2 (by decide) (by decide +kernel) dX4_servePortion_38 ?_
    refine g_nm (fun S6 hS6 => ?_)
    refine g_aload_n S 0 dX4_servePortion_41 rfl ?_
    refine g_dup S dX4_servePortion_42 rfl ?_
    refine gg4 S hC hiX4 hk hKk 5 (by decide) (by decide +kernel) dX4_servePortion_43 ?_
    refine g_const S dX4_servePortion_46 (v := 1) rfl ?_
    refine g_iadd S dX4_servePortion_47 ?_
    refine gp4 S hC hiX4 hk hKk 5 (by decide) (by decide +kernel) dX4_servePortion_48 ?_
    refine g_nm (fun S7 hS7 => ?_)
    exact g_vret S hr hlocks dX4_servePortion_51 (by subst hS7 hS6 hS5 hS4; unfold sX4_servePortion_s; (try dsimp only); rw [if_neg c_1]) (Nat.le_of_ble_eq_true rfl) (Nat.le_of_ble_eq_true rfl)
def sX1_issue_s (σ : gS) (k : Nat) (a : Int32) (b : Int32) : gS := let S1 := gu σ k 0 a; let S2 := gu S1 k 1 b; let S3 := gu S2 k 2 a; S3
theorem fX1_issue (σ : gS) (k : Nat) (a : Int32) (b : Int32) (x : Nat) (hxk : x ≠ k) : (sX1_issue_s σ k a b).1 x = σ.1 x := by
  unfold sX1_issue_s
  (try dsimp only)
  (repeat' split)
  all_goals (simp [gu_ne, gcp, *])
set_option maxRecDepth 100000 in
set_option maxHeartbeats 4000000 in
theorem kX1_issue (l : Launch) (E : gT) (σ : gS) (k : Nat) (hk : k < 58) (hKk : gK k = 1) (a : Int32) (b : Int32) : gMv l yX1_issue wsX1_issue ({ frames := 0, cells := 0, slots := 0, locals := 0 }) 0 0 E σ [.ref (E.2.2 k), .int a, .int b] (sX1_issue_s σ k a b) := by
  refine g_met (mc := 0) (ms := 0) (nL := 3) (ret := none) (by decide) rfl (lv := [(0, .ref (E.2.2 k)), (1, .int a), (2, .int b)]) rfl (Nat.le_of_ble_eq_true rfl) ?_
  intro p e s m below meth c S hr hlocks hC
  have hiX1 : ∀ w ∈ wsX10, w ∈ wsX1_issue := by decide +kernel
  refine g_aload_n S 0 dX1_issue_0 rfl ?_
  refine g_iload_n S 1 dX1_issue_1 rfl ?_
  refine gp1 S hC hiX1 hk hKk 0 (by decide) (by decide +kernel) dX1_issue_2 ?_
  refine g_nm (fun S1 hS1 => ?_)
  refine g_aload_n S 0 dX1_issue_5 rfl ?_
  refine g_iload_n S 2 dX1_issue_6 rfl ?_
  refine gp1 S hC hiX1 hk hKk 1 (by decide) (by decide +kernel) dX1_issue_7 ?_
  refine g_nm (fun S2 hS2 => ?_)
  refine g_aload_n S 0 dX1_issue_10 rfl ?_
  refine g_iload_n S 1 dX1_issue_11 rfl ?_
  refine gp1 S hC hiX1 hk hKk 2 (by decide) (by decide +kernel) dX1_issue_12 ?_
  refine g_nm (fun S3 hS3 => ?_)
  exact g_vret S hr hlocks dX1_issue_15 (by subst hS3 hS2 hS1; rfl) (Nat.le_of_ble_eq_true rfl) (Nat.le_of_ble_eq_true rfl)
def sX1_renew_s (σ : gS) (k : Nat) : gS := let S1 := gu σ k 2 (σ.1 k 0); S1
theorem fX1_renew (σ : gS) (k : Nat) (x : Nat) (hxk : x ≠ k) : (sX1_renew_s σ k).1 x = σ.1 x := by
  unfold sX1_renew_s
  (try dsimp only)
  (repeat' split)
  all_goals (simp [gu_ne, gcp, *])
set_option maxRecDepth 100000 in
set_option maxHeartbeats 4000000 in
theorem kX1_renew (l : Launch) (E : gT) (σ : gS) (k : Nat) (hk : k < 58) (hKk : gK k = 1) : gMv l yX1_renew wsX1_renew ({ frames := 0, cells := 0, slots := 0, locals := 0 }) 0 0 E σ [.ref (E.2.2 k)] (sX1_renew_s σ k) := by
  refine g_met (mc := 0) (ms := 0) (nL := 1) (ret := none) (by decide) rfl (lv := [(0, .ref (E.2.2 k))]) rfl (Nat.le_of_ble_eq_true rfl) ?_
  intro p e s m below meth c S hr hlocks hC
  have hiX1 : ∀ w ∈ wsX10, w ∈ wsX1_renew := by decide +kernel
  refine g_aload_n S 0 dX1_renew_0 rfl ?_
  refine g_aload_n S 0 dX1_renew_1 rfl ?_
  refine gg1 S hC hiX1 hk hKk 0 (by decide) (by decide +kernel) dX1_renew_2 ?_
  refine gp1 S hC hiX1 hk hKk 2 (by decide) (by decide +kernel) dX1_renew_5 ?_
  refine g_nm (fun S1 hS1 => ?_)
  exact g_vret S hr hlocks dX1_renew_8 (by subst hS1; rfl) (Nat.le_of_ble_eq_true rfl) (Nat.le_of_ble_eq_true rfl)
def sX1_serveOne_r (σ : gS) (k : Nat) (q : Nat) : Int32 := if σ.1 k 2 = 0 then ((0 : Int32)) else (if sX4_canMix_r σ q (sX4_coffeeOfPortion_r σ q) = 0 then ((0 : Int32)) else (if σ.1 k 1 ≤ sX4_coffeeOfPortion_r σ q then ((1 : Int32)) else ((0 : Int32))))
def sX1_serveOne_s (σ : gS) (k : Nat) (q : Nat) : gS := if σ.1 k 2 = 0 then (σ) else (if sX4_canMix_r σ q (sX4_coffeeOfPortion_r σ q) = 0 then (σ) else (if σ.1 k 1 ≤ sX4_coffeeOfPortion_r σ q then (let S1 := sX4_servePortion_s σ q (sX4_coffeeOfPortion_r σ q); let S2 := gu S1 k 2 ((S1.1 k 2) - (1 : Int32)); let S3 := gu S2 k 3 ((S2.1 k 3) + (1 : Int32)); S3) else (let S4 := gu σ k 4 ((σ.1 k 4) + (1 : Int32)); S4)))
theorem bX1_serveOne (σ : gS) (k : Nat) (q : Nat) : sX1_serveOne_r σ k q = 0 ∨ sX1_serveOne_r σ k q = 1 := by
  unfold sX1_serveOne_r
  repeat' split
  all_goals first | exact Or.inl rfl | exact Or.inr rfl
theorem fX1_serveOne (σ : gS) (k : Nat) (q : Nat) (x : Nat) (hxk : x ≠ k) (hxq : x ≠ q) : (sX1_serveOne_s σ k q).1 x = σ.1 x := by
  unfold sX1_serveOne_s
  (try dsimp only)
  (repeat' split)
  all_goals (simp [gu_ne, gcp, fX4_servePortion, *])
set_option maxRecDepth 100000 in
set_option maxHeartbeats 4000000 in
theorem kX1_serveOne (l : Launch) (E : gT) (σ : gS) (k : Nat) (hk : k < 58) (hKk : gK k = 1) (q : Nat) (hq : q < 58) (hKq : gK q = 4) : gMi l yX1_serveOne wsX1_serveOne ({ frames := 2, cells := 0, slots := 0, locals := 44 }) 0 0 E σ [.ref (E.2.2 k), .ref (E.2.2 q)] (sX1_serveOne_r σ k q) (sX1_serveOne_s σ k q) := by
  refine g_met (mc := 0) (ms := 0) (nL := 3) (ret := (some .boolean)) (by decide) rfl (lv := [(0, .ref (E.2.2 k)), (1, .ref (E.2.2 q))]) rfl (Nat.le_of_ble_eq_true rfl) ?_
  intro p e s m below meth c S hr hlocks hC
  have hiX1 : ∀ w ∈ wsX10, w ∈ wsX1_serveOne := by decide +kernel
  refine g_aload_n S 1 dX1_serveOne_0 rfl ?_
  refine g_calli (g_runV S hC (As := []) (rest := []) (k := q) hq hKq (by decide) rfl (kX4_coffeeOfPortion l E σ q hq hKq) (cwV 0 S.2.2.2.2 gX1_serveOne_X4_coffeeOfPortion rfl rfl rfl (by decide +kernel) ⟨Nat.le_of_ble_eq_true rfl, Nat.le_of_ble_eq_true rfl⟩) rfl rfl (Nat.le_of_ble_eq_true rfl) dX1_serveOne_1 ⟨Nat.le_of_ble_eq_true rfl, Nat.le_of_ble_eq_true rfl⟩) ?_
  refine g_istore_n S [(2, .int (sX4_coffeeOfPortion_r σ q)), (0, .ref (E.2.2 k)), (1, .ref (E.2.2 q))] dX1_serveOne_4 (by decide) rfl ?_
  refine g_aload_n S 1 dX1_serveOne_5 rfl ?_
  refine gg1 S hC hiX1 hk hKk 2 (by decide) (by decide +kernel) dX1_serveOne_6 ?_
  refine g_if_eq S 20 dX1_serveOne_9 (by decide) (fun c_1 => ?_) (fun c_1 => ?_)
  · skip
    refine g_const S dX1_serveOne_20 (v := 0) rfl ?_
    exact g_zret S hr hlocks dX1_serveOne_21 rfl (by rw [sX1_serveOne_r, if_pos c_1]) (by rw [sX1_serveOne_s, if_pos c_1]) (Nat.le_of_ble_eq_true rfl) (Nat.le_of_ble_eq_true rfl)
  · skip
    refine g_aload_n S 2 dX1_serveOne_12 rfl ?_
    refine g_iload_n S 0 dX1_serveOne_13 rfl ?_
    refine g_calli (g_runV S hC (As := [.int (sX4_coffeeOfPortion_r σ q)]) (rest := []) (k := q) hq hKq (by decide) rfl (kX4_canMix l E σ q hq hKq (sX4_coffeeOfPortion_r σ q)) (cwV 1 S.2.2.2.2 gX1_serveOne_X4_canMix rfl rfl rfl (by decide +kernel) ⟨Nat.le_of_ble_eq_true rfl, Nat.le_of_ble_eq_true rfl⟩) rfl rfl (Nat.le_of_ble_eq_true rfl) dX1_serveOne_14 ⟨Nat.le_of_ble_eq_true rfl, Nat.le_of_ble_eq_true rfl⟩) ?_
    refine g_if_ne S 22 dX1_serveOne_17 (by decide) (fun c_2 => ?_) (fun c_2 => ?_)
    · skip
      refine g_iload_n S 0 dX1_serveOne_22 rfl ?_
      refine g_aload_n S 1 dX1_serveOne_23 rfl ?_
      refine gg1 S hC hiX1 hk hKk 1 (by decide) (by decide +kernel) dX1_serveOne_24 ?_
      refine g_icmp_ge S 42 dX1_serveOne_27 (by decide) (fun c_3 => ?_) (fun c_3 => ?_)
      · skip
        refine g_aload_n S 2 dX1_serveOne_42 rfl ?_
        refine g_iload_n S 0 dX1_serveOne_43 rfl ?_
        refine g_callv (g_runV S hC (As := [.int (sX4_coffeeOfPortion_r σ q)]) (rest := []) (k := q) hq hKq (by decide) rfl (kX4_servePortion l E σ q hq hKq (sX4_coffeeOfPortion_r σ q)) (cwV 1 S.2.2.2.2 gX1_serveOne_X4_servePortion rfl rfl rfl (by decide +kernel) ⟨Nat.le_of_ble_eq_true rfl, Nat.le_of_ble_eq_true rfl⟩) rfl rfl (Nat.le_of_ble_eq_true rfl) dX1_serveOne_44 ⟨Nat.le_of_ble_eq_true rfl, Nat.le_of_ble_eq_true rfl⟩) ?_
        refine g_nm (fun S1 hS1 => ?_)
        refine g_aload_n S 1 dX1_serveOne_47 rfl ?_
        refine g_dup S dX1_serveOne_48 rfl ?_
        refine gg1 S hC hiX1 hk hKk 2 (by decide) (by decide +kernel) dX1_serveOne_49 ?_
        refine g_const S dX1_serveOne_52 (v := 1) rfl ?_
        refine g_isub S dX1_serveOne_53 ?_
        refine gp1 S hC hiX1 hk hKk 2 (by decide) (by decide +kernel) dX1_serveOne_54 ?_
        refine g_nm (fun S2 hS2 => ?_)
        refine g_aload_n S 1 dX1_serveOne_57 rfl ?_
        refine g_dup S dX1_serveOne_58 rfl ?_
        refine gg1 S hC hiX1 hk hKk 3 (by decide) (by decide +kernel) dX1_serveOne_59 ?_
        refine g_const S dX1_serveOne_62 (v := 1) rfl ?_
        refine g_iadd S dX1_serveOne_63 ?_
        refine gp1 S hC hiX1 hk hKk 3 (by decide) (by decide +kernel) dX1_serveOne_64 ?_
        refine g_nm (fun S3 hS3 => ?_)
        refine g_const S dX1_serveOne_67 (v := 1) rfl ?_
        exact g_zret S hr hlocks dX1_serveOne_68 rfl (by subst hS3 hS2 hS1; unfold sX1_serveOne_r; (try dsimp only); rw [if_neg c_1, if_neg c_2, if_pos c_3]) (by subst hS3 hS2 hS1; unfold sX1_serveOne_s; (try dsimp only); rw [if_neg c_1, if_neg c_2, if_pos c_3]) (Nat.le_of_ble_eq_true rfl) (Nat.le_of_ble_eq_true rfl)
      · skip
        refine g_aload_n S 1 dX1_serveOne_30 rfl ?_
        refine g_dup S dX1_serveOne_31 rfl ?_
        refine gg1 S hC hiX1 hk hKk 4 (by decide) (by decide +kernel) dX1_serveOne_32 ?_
        refine g_const S dX1_serveOne_35 (v := 1) rfl ?_
        refine g_iadd S dX1_serveOne_36 ?_
        refine gp1 S hC hiX1 hk hKk 4 (by decide) (by decide +kernel) dX1_serveOne_37 ?_
        refine g_nm (fun S4 hS4 => ?_)
        refine g_const S dX1_serveOne_40 (v := 0) rfl ?_
        exact g_zret S hr hlocks dX1_serveOne_41 rfl (by subst hS4; unfold sX1_serveOne_r; (try dsimp only); rw [if_neg c_1, if_neg c_2, if_neg c_3]) (by subst hS4; unfold sX1_serveOne_s; (try dsimp only); rw [if_neg c_1, if_neg c_2, if_neg c_3]) (Nat.le_of_ble_eq_true rfl) (Nat.le_of_ble_eq_true rfl)
    · skip
      refine g_const S dX1_serveOne_20 (v := 0) rfl ?_
      exact g_zret S hr hlocks dX1_serveOne_21 rfl (by rw [sX1_serveOne_r, if_neg c_1, if_pos c_2]) (by rw [sX1_serveOne_s, if_neg c_1, if_pos c_2]) (Nat.le_of_ble_eq_true rfl) (Nat.le_of_ble_eq_true rfl)
def sX1_serveDay_r (σ : gS) (k : Nat) (q : Nat) : Int32 := let S1 := sX1_serveOne_s σ k q; if sX1_serveOne_r σ k q = 0 then ((0 : Int32)) else (if sX1_serveOne_r S1 k q = 0 then ((1 : Int32)) else ((2 : Int32)))
def sX1_serveDay_s (σ : gS) (k : Nat) (q : Nat) : gS := let S1 := sX1_serveOne_s σ k q; if sX1_serveOne_r σ k q = 0 then (S1) else (let S2 := sX1_serveOne_s S1 k q; if sX1_serveOne_r S1 k q = 0 then (S2) else (S2))
theorem fX1_serveDay (σ : gS) (k : Nat) (q : Nat) (x : Nat) (hxk : x ≠ k) (hxq : x ≠ q) : (sX1_serveDay_s σ k q).1 x = σ.1 x := by
  unfold sX1_serveDay_s
  (try dsimp only)
  (repeat' split)
  all_goals (simp [gu_ne, gcp, fX1_serveOne, *])
set_option maxRecDepth 100000 in
set_option maxHeartbeats 4000000 in
theorem kX1_serveDay (l : Launch) (E : gT) (σ : gS) (k : Nat) (hk : k < 58) (hKk : gK k = 1) (q : Nat) (hq : q < 58) (hKq : gK q = 4) : gMi l yX1_serveDay wsX1_serveDay ({ frames := 3, cells := 0, slots := 0, locals := 66 }) 0 0 E σ [.ref (E.2.2 k), .ref (E.2.2 q)] (sX1_serveDay_r σ k q) (sX1_serveDay_s σ k q) := by
  refine g_met (mc := 0) (ms := 0) (nL := 3) (ret := (some .int)) (by decide) rfl (lv := [(0, .ref (E.2.2 k)), (1, .ref (E.2.2 q))]) rfl (Nat.le_of_ble_eq_true rfl) ?_
  intro p e s m below meth c S hr hlocks hC
  refine g_const S dX1_serveDay_0 (v := 0) rfl ?_
  refine g_istore_n S [(2, .int (0 : Int32)), (0, .ref (E.2.2 k)), (1, .ref (E.2.2 q))] dX1_serveDay_1 (by decide) rfl ?_
  refine g_iload_n S 0 dX1_serveDay_2 rfl ?_
  refine g_const S dX1_serveDay_3 (v := 2) rfl ?_
  refine g_icmp_ge S 21 dX1_serveDay_4 (by decide) (fun c_1 => absurd c_1 (by decide)) (fun c_1 => ?_)
  refine g_aload_n S 1 dX1_serveDay_7 rfl ?_
  refine g_aload_n S 2 dX1_serveDay_8 rfl ?_
  refine g_calli (g_runV S hC (As := [.ref (E.2.2 q)]) (rest := []) (k := k) hk hKk (by decide) rfl (kX1_serveOne l E σ k hk hKk q hq hKq) (cwV 1 S.2.2.2.2 gX1_serveDay_X1_serveOne rfl rfl rfl (by decide +kernel) ⟨Nat.le_of_ble_eq_true rfl, Nat.le_of_ble_eq_true rfl⟩) rfl rfl (Nat.le_of_ble_eq_true rfl) dX1_serveDay_9 ⟨Nat.le_of_ble_eq_true rfl, Nat.le_of_ble_eq_true rfl⟩) ?_
  refine g_nm (fun S1 hS1 => ?_)
  refine g_if_eq S 21 dX1_serveDay_12 (by decide) (fun c_2 => ?_) (fun c_2 => ?_)
  · skip
    refine g_iload_n S 0 dX1_serveDay_21 rfl ?_
    exact g_iret S hr hlocks dX1_serveDay_22 (by subst hS1; unfold sX1_serveDay_r; (try dsimp only); rw [if_pos c_2]) (by subst hS1; unfold sX1_serveDay_s; (try dsimp only); rw [if_pos c_2]) (Nat.le_of_ble_eq_true rfl) (Nat.le_of_ble_eq_true rfl)
  · skip
    refine g_iinc S [(2, .int (1 : Int32)), (0, .ref (E.2.2 k)), (1, .ref (E.2.2 q))] 0 (1 : Int32) dX1_serveDay_15 rfl rfl (by decide) rfl ?_
    refine g_goto S 2 dX1_serveDay_18 (by decide) ?_
    refine g_iload_n S 0 dX1_serveDay_2 rfl ?_
    refine g_const S dX1_serveDay_3 (v := 2) rfl ?_
    refine g_icmp_ge S 21 dX1_serveDay_4 (by decide) (fun c_3 => absurd c_3 (by decide)) (fun c_3 => ?_)
    refine g_aload_n S 1 dX1_serveDay_7 rfl ?_
    refine g_aload_n S 2 dX1_serveDay_8 rfl ?_
    refine g_calli (g_runV S hC (As := [.ref (E.2.2 q)]) (rest := []) (k := k) hk hKk (by decide) rfl (kX1_serveOne l E S1 k hk hKk q hq hKq) (cwV 1 S.2.2.2.2 gX1_serveDay_X1_serveOne rfl rfl rfl (by decide +kernel) ⟨Nat.le_of_ble_eq_true rfl, Nat.le_of_ble_eq_true rfl⟩) rfl rfl (Nat.le_of_ble_eq_true rfl) dX1_serveDay_9 ⟨Nat.le_of_ble_eq_true rfl, Nat.le_of_ble_eq_true rfl⟩) ?_
    refine g_nm (fun S2 hS2 => ?_)
    refine g_if_eq S 21 dX1_serveDay_12 (by decide) (fun c_4 => ?_) (fun c_4 => ?_)
    · skip
      refine g_iload_n S 0 dX1_serveDay_21 rfl ?_
      exact g_iret S hr hlocks dX1_serveDay_22 (by subst hS2 hS1; unfold sX1_serveDay_r; (try dsimp only); rw [if_neg c_2, if_pos c_4]) (by subst hS2 hS1; unfold sX1_serveDay_s; (try dsimp only); rw [if_neg c_2, if_pos c_4]) (Nat.le_of_ble_eq_true rfl) (Nat.le_of_ble_eq_true rfl)
    · skip
      refine g_iinc S [(2, .int (2 : Int32)), (0, .ref (E.2.2 k)), (1, .ref (E.2.2 q))] 0 (2 : Int32) dX1_serveDay_15 rfl rfl (by decide) rfl ?_
      refine g_goto S 2 dX1_serveDay_18 (by decide) ?_
      refine g_iload_n S 0 dX1_serveDay_2 rfl ?_
      refine g_const S dX1_serveDay_3 (v := 2) rfl ?_
      refine g_icmp_ge S 21 dX1_serveDay_4 (by decide) (fun c_5 => ?_) (fun c_5 => absurd (by decide) c_5)
      refine g_iload_n S 0 dX1_serveDay_21 rfl ?_
      exact g_iret S hr hlocks dX1_serveDay_22 (by subst hS2 hS1; unfold sX1_serveDay_r; (try dsimp only); rw [if_neg c_2, if_neg c_4]) (by subst hS2 hS1; unfold sX1_serveDay_s; (try dsimp only); rw [if_neg c_2, if_neg c_4]) (Nat.le_of_ble_eq_true rfl) (Nat.le_of_ble_eq_true rfl)
def sX1_size_r (σ : gS) (k : Nat) : Int32 := (5 : Int32)
set_option maxRecDepth 100000 in
set_option maxHeartbeats 4000000 in
theorem kX1_size (l : Launch) (E : gT) (σ : gS) (k : Nat) (hk : k < 58) (hKk : gK k = 1) : gMi l yX1_size wsX1_size ({ frames := 0, cells := 0, slots := 0, locals := 0 }) 0 0 E σ [.ref (E.2.2 k)] (sX1_size_r σ k) σ := by
  refine g_met (mc := 0) (ms := 0) (nL := 1) (ret := (some .int)) (by decide) rfl (lv := [(0, .ref (E.2.2 k))]) rfl (Nat.le_of_ble_eq_true rfl) ?_
  intro p e s m below meth c S hr hlocks hC
  refine g_const S dX1_size_0 (v := 5) rfl ?_
  exact g_iret S hr hlocks dX1_size_1 rfl rfl (Nat.le_of_ble_eq_true rfl) (Nat.le_of_ble_eq_true rfl)
def sX1_tell_r (σ : gS) (k w : Nat) : Int32 := σ.1 k w
set_option maxRecDepth 100000 in
set_option maxHeartbeats 4000000 in
theorem kX1_tell (l : Launch) (E : gT) (σ : gS) (k : Nat) (hk : k < 58) (hKk : gK k = 1) (w : Nat) (hw : w < 5) : gMi l yX1_tell wsX1_tell ({ frames := 0, cells := 0, slots := 0, locals := 0 }) 0 0 E σ [.ref (E.2.2 k), .int (nI w)] (sX1_tell_r σ k w) σ := by
  refine g_met (mc := 0) (ms := 0) (nL := 2) (ret := (some .int)) (by decide) rfl (lv := [(0, .ref (E.2.2 k)), (1, .int (nI w))]) rfl (Nat.le_of_ble_eq_true rfl) ?_
  intro p e s m below meth c S hr hlocks hC
  have hiX1 : ∀ w ∈ wsX10, w ∈ wsX1_tell := by decide +kernel
  rcases (show w = 0 ∨ w = 1 ∨ w = 2 ∨ w = 3 ∨ w = 4 by omega) with rfl | rfl | rfl | rfl | rfl
  · skip
    refine g_iload_n S 1 dX1_tell_0 rfl ?_
    refine g_tabIn S 32 dX1_tell_1 (by decide) (by decide) rfl (by decide) ?_
    refine g_aload_n S 0 dX1_tell_32 rfl ?_
    refine gg1 S hC hiX1 hk hKk 0 (by decide) (by decide +kernel) dX1_tell_33 ?_
    exact g_iret S hr hlocks dX1_tell_36 rfl rfl (Nat.le_of_ble_eq_true rfl) (Nat.le_of_ble_eq_true rfl)
  · skip
    refine g_iload_n S 1 dX1_tell_0 rfl ?_
    refine g_tabIn S 37 dX1_tell_1 (by decide) (by decide) rfl (by decide) ?_
    refine g_aload_n S 0 dX1_tell_37 rfl ?_
    refine gg1 S hC hiX1 hk hKk 1 (by decide) (by decide +kernel) dX1_tell_38 ?_
    exact g_iret S hr hlocks dX1_tell_41 rfl rfl (Nat.le_of_ble_eq_true rfl) (Nat.le_of_ble_eq_true rfl)
  · skip
    refine g_iload_n S 1 dX1_tell_0 rfl ?_
    refine g_tabIn S 42 dX1_tell_1 (by decide) (by decide) rfl (by decide) ?_
    refine g_aload_n S 0 dX1_tell_42 rfl ?_
    refine gg1 S hC hiX1 hk hKk 2 (by decide) (by decide +kernel) dX1_tell_43 ?_
    exact g_iret S hr hlocks dX1_tell_46 rfl rfl (Nat.le_of_ble_eq_true rfl) (Nat.le_of_ble_eq_true rfl)
  · skip
    refine g_iload_n S 1 dX1_tell_0 rfl ?_
    refine g_tabIn S 47 dX1_tell_1 (by decide) (by decide) rfl (by decide) ?_
    refine g_aload_n S 0 dX1_tell_47 rfl ?_
    refine gg1 S hC hiX1 hk hKk 3 (by decide) (by decide +kernel) dX1_tell_48 ?_
    exact g_iret S hr hlocks dX1_tell_51 rfl rfl (Nat.le_of_ble_eq_true rfl) (Nat.le_of_ble_eq_true rfl)
  · skip
    refine g_iload_n S 1 dX1_tell_0 rfl ?_
    refine g_tabOut S 52 dX1_tell_1 (by decide) (by decide) ?_
    refine g_aload_n S 0 dX1_tell_52 rfl ?_
    refine gg1 S hC hiX1 hk hKk 4 (by decide) (by decide +kernel) dX1_tell_53 ?_
    exact g_iret S hr hlocks dX1_tell_56 rfl rfl (Nat.le_of_ble_eq_true rfl) (Nat.le_of_ble_eq_true rfl)
def sX2_install_s (σ : gS) (k : Nat) (a : Int32) (b : Int32) : gS := let S1 := gu σ k 0 a; let S2 := gu S1 k 1 b; S2
theorem fX2_install (σ : gS) (k : Nat) (a : Int32) (b : Int32) (x : Nat) (hxk : x ≠ k) : (sX2_install_s σ k a b).1 x = σ.1 x := by
  unfold sX2_install_s
  (try dsimp only)
  (repeat' split)
  all_goals (simp [gu_ne, gcp, *])
set_option maxRecDepth 100000 in
set_option maxHeartbeats 4000000 in
theorem kX2_install (l : Launch) (E : gT) (σ : gS) (k : Nat) (hk : k < 58) (hKk : gK k = 2) (a : Int32) (b : Int32) : gMv l yX2_install wsX2_install ({ frames := 0, cells := 0, slots := 0, locals := 0 }) 0 0 E σ [.ref (E.2.2 k), .int a, .int b] (sX2_install_s σ k a b) := by
  refine g_met (mc := 0) (ms := 0) (nL := 3) (ret := none) (by decide) rfl (lv := [(0, .ref (E.2.2 k)), (1, .int a), (2, .int b)]) rfl (Nat.le_of_ble_eq_true rfl) ?_
  intro p e s m below meth c S hr hlocks hC
  have hiX2 : ∀ w ∈ wsX20, w ∈ wsX2_install := by decide +kernel
  refine g_aload_n S 0 dX2_install_0 rfl ?_
  refine g_iload_n S 1 dX2_install_1 rfl ?_
  refine gp2 S hC hiX2 hk hKk 0 (by decide) (by decide +kernel) dX2_install_2 ?_
  refine g_nm (fun S1 hS1 => ?_)
  refine g_aload_n S 0 dX2_install_5 rfl ?_
  refine g_iload_n S 2 dX2_install_6 rfl ?_
  refine gp2 S hC hiX2 hk hKk 1 (by decide) (by decide +kernel) dX2_install_7 ?_
  refine g_nm (fun S2 hS2 => ?_)
  exact g_vret S hr hlocks dX2_install_10 (by subst hS2 hS1; rfl) (Nat.le_of_ble_eq_true rfl) (Nat.le_of_ble_eq_true rfl)
def sX2_fill_s (σ : gS) (k : Nat) (a : Int32) (b : Int32) : gS := let S1 := gu σ k 2 a; let S2 := gu S1 k 3 b; let S3 := gu S2 k 4 (0 : Int32); S3
theorem fX2_fill (σ : gS) (k : Nat) (a : Int32) (b : Int32) (x : Nat) (hxk : x ≠ k) : (sX2_fill_s σ k a b).1 x = σ.1 x := by
  unfold sX2_fill_s
  (try dsimp only)
  (repeat' split)
  all_goals (simp [gu_ne, gcp, *])
set_option maxRecDepth 100000 in
set_option maxHeartbeats 4000000 in
theorem kX2_fill (l : Launch) (E : gT) (σ : gS) (k : Nat) (hk : k < 58) (hKk : gK k = 2) (a : Int32) (b : Int32) : gMv l yX2_fill wsX2_fill ({ frames := 0, cells := 0, slots := 0, locals := 0 }) 0 0 E σ [.ref (E.2.2 k), .int a, .int b] (sX2_fill_s σ k a b) := by
  refine g_met (mc := 0) (ms := 0) (nL := 3) (ret := none) (by decide) rfl (lv := [(0, .ref (E.2.2 k)), (1, .int a), (2, .int b)]) rfl (Nat.le_of_ble_eq_true rfl) ?_
  intro p e s m below meth c S hr hlocks hC
  have hiX2 : ∀ w ∈ wsX20, w ∈ wsX2_fill := by decide +kernel
  refine g_aload_n S 0 dX2_fill_0 rfl ?_
  refine g_iload_n S 1 dX2_fill_1 rfl ?_
  refine gp2 S hC hiX2 hk hKk 2 (by decide) (by decide +kernel) dX2_fill_2 ?_
  refine g_nm (fun S1 hS1 => ?_)
  refine g_aload_n S 0 dX2_fill_5 rfl ?_
  refine g_iload_n S 2 dX2_fill_6 rfl ?_
  refine gp2 S hC hiX2 hk hKk 3 (by decide) (by decide +kernel) dX2_fill_7 ?_
  refine g_nm (fun S2 hS2 => ?_)
  refine g_aload_n S 0 dX2_fill_10 rfl ?_
  refine g_const S dX2_fill_11 (v := 0) rfl ?_
  refine gp2 S hC hiX2 hk hKk 4 (by decide) (by decide +kernel) dX2_fill_12 ?_
  refine g_nm (fun S3 hS3 => ?_)
  exact g_vret S hr hlocks dX2_fill_15 (by subst hS3 hS2 hS1; rfl) (Nat.le_of_ble_eq_true rfl) (Nat.le_of_ble_eq_true rfl)
def sX2_done_r (σ : gS) (k : Nat) : Int32 := if σ.1 k 2 = 0 then ((12 : Int32)) else ((8 : Int32))
set_option maxRecDepth 100000 in
set_option maxHeartbeats 4000000 in
theorem kX2_done (l : Launch) (E : gT) (σ : gS) (k : Nat) (hk : k < 58) (hKk : gK k = 2) : gMi l yX2_done wsX2_done ({ frames := 0, cells := 0, slots := 0, locals := 0 }) 0 0 E σ [.ref (E.2.2 k)] (sX2_done_r σ k) σ := by
  refine g_met (mc := 0) (ms := 0) (nL := 1) (ret := (some .int)) (by decide) rfl (lv := [(0, .ref (E.2.2 k))]) rfl (Nat.le_of_ble_eq_true rfl) ?_
  intro p e s m below meth c S hr hlocks hC
  have hiX2 : ∀ w ∈ wsX20, w ∈ wsX2_done := by decide +kernel
  refine g_aload_n S 0 dX2_done_0 rfl ?_
  refine gg2 S hC hiX2 hk hKk 2 (by decide) (by decide +kernel) dX2_done_1 ?_
  refine g_if_ne S 12 dX2_done_4 (by decide) (fun c_1 => ?_) (fun c_1 => ?_)
  · skip
    refine g_bipush S dX2_done_12 (v := 8) rfl ?_
    exact g_iret S hr hlocks dX2_done_14 (by rw [sX2_done_r, if_neg c_1]) rfl (Nat.le_of_ble_eq_true rfl) (Nat.le_of_ble_eq_true rfl)
  · skip
    refine g_bipush S dX2_done_7 (v := 12) rfl ?_
    refine g_goto S 14 dX2_done_9 (by decide) ?_
    exact g_iret S hr hlocks dX2_done_14 (by rw [sX2_done_r, if_pos c_1]) rfl (Nat.le_of_ble_eq_true rfl) (Nat.le_of_ble_eq_true rfl)
def sX2_burnt_r (σ : gS) (k : Nat) : Int32 := if σ.1 k 2 = 0 then ((24 : Int32)) else ((15 : Int32))
set_option maxRecDepth 100000 in
set_option maxHeartbeats 4000000 in
theorem kX2_burnt (l : Launch) (E : gT) (σ : gS) (k : Nat) (hk : k < 58) (hKk : gK k = 2) : gMi l yX2_burnt wsX2_burnt ({ frames := 0, cells := 0, slots := 0, locals := 0 }) 0 0 E σ [.ref (E.2.2 k)] (sX2_burnt_r σ k) σ := by
  refine g_met (mc := 0) (ms := 0) (nL := 1) (ret := (some .int)) (by decide) rfl (lv := [(0, .ref (E.2.2 k))]) rfl (Nat.le_of_ble_eq_true rfl) ?_
  intro p e s m below meth c S hr hlocks hC
  have hiX2 : ∀ w ∈ wsX20, w ∈ wsX2_burnt := by decide +kernel
  refine g_aload_n S 0 dX2_burnt_0 rfl ?_
  refine gg2 S hC hiX2 hk hKk 2 (by decide) (by decide +kernel) dX2_burnt_1 ?_
  refine g_if_ne S 12 dX2_burnt_4 (by decide) (fun c_1 => ?_) (fun c_1 => ?_)
  · skip
    refine g_bipush S dX2_burnt_12 (v := 15) rfl ?_
    exact g_iret S hr hlocks dX2_burnt_14 (by rw [sX2_burnt_r, if_neg c_1]) rfl (Nat.le_of_ble_eq_true rfl) (Nat.le_of_ble_eq_true rfl)
  · skip
    refine g_bipush S dX2_burnt_7 (v := 24) rfl ?_
    refine g_goto S 14 dX2_burnt_9 (by decide) ?_
    exact g_iret S hr hlocks dX2_burnt_14 (by rw [sX2_burnt_r, if_pos c_1]) rfl (Nat.le_of_ble_eq_true rfl) (Nat.le_of_ble_eq_true rfl)
def sX2_levelAfter_r (σ : gS) (k : Nat) (a : Int32) : Int32 := if σ.1 k 2 = (-1 : Int32) then ((0 : Int32)) else (gmin (a + (σ.1 k 1)) (sX2_burnt_r σ k))
set_option maxRecDepth 100000 in
set_option maxHeartbeats 4000000 in
theorem kX2_levelAfter (l : Launch) (E : gT) (σ : gS) (k : Nat) (hk : k < 58) (hKk : gK k = 2) (a : Int32) : gMi l yX2_levelAfter wsX2_levelAfter ({ frames := 1, cells := 0, slots := 0, locals := 24 }) 0 0 E σ [.ref (E.2.2 k), .int a] (sX2_levelAfter_r σ k a) σ := by
  refine g_met (mc := 0) (ms := 0) (nL := 2) (ret := (some .int)) (by decide) rfl (lv := [(0, .ref (E.2.2 k)), (1, .int a)]) rfl (Nat.le_of_ble_eq_true rfl) ?_
  intro p e s m below meth c S hr hlocks hC
  have hiX2 : ∀ w ∈ wsX20, w ∈ wsX2_levelAfter := by decide +kernel
  refine g_aload_n S 0 dX2_levelAfter_0 rfl ?_
  refine gg2 S hC hiX2 hk hKk 2 (by decide) (by decide +kernel) dX2_levelAfter_1 ?_
  refine g_const S dX2_levelAfter_4 (v := (-1)) rfl ?_
  refine g_icmp_ne S 10 dX2_levelAfter_5 (by decide) (fun c_1 => ?_) (fun c_1 => ?_)
  · skip
    refine g_iload_n S 1 dX2_levelAfter_10 rfl ?_
    refine g_aload_n S 0 dX2_levelAfter_11 rfl ?_
    refine gg2 S hC hiX2 hk hKk 1 (by decide) (by decide +kernel) dX2_levelAfter_12 ?_
    refine g_iadd S dX2_levelAfter_15 ?_
    refine g_aload_n S 0 dX2_levelAfter_16 rfl ?_
    refine g_calli (g_runV S hC (As := []) (rest := [.int (a + (σ.1 k 1))]) (k := k) hk hKk (by decide) rfl (kX2_burnt l E σ k hk hKk) (cwV 0 S.2.2.2.2 gX2_levelAfter_X2_burnt rfl rfl rfl (by decide +kernel) ⟨Nat.le_of_ble_eq_true rfl, Nat.le_of_ble_eq_true rfl⟩) rfl rfl (Nat.le_of_ble_eq_true rfl) dX2_levelAfter_17 ⟨Nat.le_of_ble_eq_true rfl, Nat.le_of_ble_eq_true rfl⟩) ?_
    refine g_mn S (by decide +kernel) (by decide +kernel) (by decide +kernel) (by decide +kernel) (Nat.le_of_ble_eq_true rfl) (Nat.le_of_ble_eq_true rfl) (Nat.le_of_ble_eq_true rfl) (Nat.le_of_ble_eq_true rfl) dX2_levelAfter_20 ?_
    exact g_iret S hr hlocks dX2_levelAfter_23 (by rw [sX2_levelAfter_r, if_neg c_1]) rfl (Nat.le_of_ble_eq_true rfl) (Nat.le_of_ble_eq_true rfl)
  · skip
    refine g_const S dX2_levelAfter_8 (v := 0) rfl ?_
    exact g_iret S hr hlocks dX2_levelAfter_9 (by rw [sX2_levelAfter_r, if_pos c_1]) rfl (Nat.le_of_ble_eq_true rfl) (Nat.le_of_ble_eq_true rfl)
def sX2_warm_s (σ : gS) (k : Nat) : gS := let S1 := gu σ k 4 (sX2_levelAfter_r σ k (σ.1 k 4)); S1
theorem fX2_warm (σ : gS) (k : Nat) (x : Nat) (hxk : x ≠ k) : (sX2_warm_s σ k).1 x = σ.1 x := by
  unfold sX2_warm_s
  (try dsimp only)
  (repeat' split)
  all_goals (simp [gu_ne, gcp, *])
set_option maxRecDepth 100000 in
set_option maxHeartbeats 4000000 in
theorem kX2_warm (l : Launch) (E : gT) (σ : gS) (k : Nat) (hk : k < 58) (hKk : gK k = 2) : gMv l yX2_warm wsX2_warm ({ frames := 2, cells := 0, slots := 0, locals := 45 }) 0 0 E σ [.ref (E.2.2 k)] (sX2_warm_s σ k) := by
  refine g_met (mc := 0) (ms := 0) (nL := 1) (ret := none) (by decide) rfl (lv := [(0, .ref (E.2.2 k))]) rfl (Nat.le_of_ble_eq_true rfl) ?_
  intro p e s m below meth c S hr hlocks hC
  have hiX2 : ∀ w ∈ wsX20, w ∈ wsX2_warm := by decide +kernel
  refine g_aload_n S 0 dX2_warm_0 rfl ?_
  refine g_aload_n S 0 dX2_warm_1 rfl ?_
  refine g_aload_n S 0 dX2_warm_2 rfl ?_
  refine gg2 S hC hiX2 hk hKk 4 (by decide) (by decide +kernel) dX2_warm_3 ?_
  refine g_calli (g_runV S hC (As := [.int (σ.1 k 4)]) (rest := [.ref (E.2.2 k)]) (k := k) hk hKk (by decide) rfl (kX2_levelAfter l E σ k hk hKk (σ.1 k 4)) (cwV 1 S.2.2.2.2 gX2_warm_X2_levelAfter rfl rfl rfl (by decide +kernel) ⟨Nat.le_of_ble_eq_true rfl, Nat.le_of_ble_eq_true rfl⟩) rfl rfl (Nat.le_of_ble_eq_true rfl) dX2_warm_6 ⟨Nat.le_of_ble_eq_true rfl, Nat.le_of_ble_eq_true rfl⟩) ?_
  refine gp2 S hC hiX2 hk hKk 4 (by decide) (by decide +kernel) dX2_warm_9 ?_
  refine g_nm (fun S1 hS1 => ?_)
  exact g_vret S hr hlocks dX2_warm_12 (by subst hS1; rfl) (Nat.le_of_ble_eq_true rfl) (Nat.le_of_ble_eq_true rfl)
def sX2_partsAt_r (σ : gS) (k : Nat) (a : Int32) : Int32 := if σ.1 k 2 = (-1 : Int32) then ((0 : Int32)) else (if a < sX2_done_r σ k then ((0 : Int32)) else (if a < sX2_burnt_r σ k then (if σ.1 k 2 = 0 then ((((σ.1 k 3) * (6 : Int32)) * ((sX2_burnt_r σ k) - a)) / ((sX2_burnt_r σ k) - (sX2_done_r σ k))) else ((((σ.1 k 3) * (8 : Int32)) * ((sX2_burnt_r σ k) - a)) / ((sX2_burnt_r σ k) - (sX2_done_r σ k)))) else ((0 : Int32))))
set_option maxRecDepth 100000 in
set_option maxHeartbeats 4000000 in
theorem kX2_partsAt (l : Launch) (E : gT) (σ : gS) (k : Nat) (hk : k < 58) (hKk : gK k = 2) (a : Int32) : gMi l yX2_partsAt wsX2_partsAt ({ frames := 1, cells := 0, slots := 0, locals := 20 }) 0 0 E σ [.ref (E.2.2 k), .int a] (sX2_partsAt_r σ k a) σ := by
  refine g_met (mc := 0) (ms := 0) (nL := 3) (ret := (some .int)) (by decide) rfl (lv := [(0, .ref (E.2.2 k)), (1, .int a)]) rfl (Nat.le_of_ble_eq_true rfl) ?_
  intro p e s m below meth c S hr hlocks hC
  have hiX2 : ∀ w ∈ wsX20, w ∈ wsX2_partsAt := by decide +kernel
  refine g_aload_n S 0 dX2_partsAt_0 rfl ?_
  refine gg2 S hC hiX2 hk hKk 2 (by decide) (by decide +kernel) dX2_partsAt_1 ?_
  refine g_const S dX2_partsAt_4 (v := (-1)) rfl ?_
  refine g_icmp_eq S 24 dX2_partsAt_5 (by decide) (fun c_1 => ?_) (fun c_1 => ?_)
  · skip
    refine g_const S dX2_partsAt_24 (v := 0) rfl ?_
    exact g_iret S hr hlocks dX2_partsAt_25 (by rw [sX2_partsAt_r, if_pos c_1]) rfl (Nat.le_of_ble_eq_true rfl) (Nat.le_of_ble_eq_true rfl)
  · skip
    refine g_iload_n S 1 dX2_partsAt_8 rfl ?_
    refine g_aload_n S 0 dX2_partsAt_9 rfl ?_
    refine g_calli (g_runV S hC (As := []) (rest := [.int a]) (k := k) hk hKk (by decide) rfl (kX2_done l E σ k hk hKk) (cwV 0 S.2.2.2.2 gX2_partsAt_X2_done rfl rfl rfl (by decide +kernel) ⟨Nat.le_of_ble_eq_true rfl, Nat.le_of_ble_eq_true rfl⟩) rfl rfl (Nat.le_of_ble_eq_true rfl) dX2_partsAt_10 ⟨Nat.le_of_ble_eq_true rfl, Nat.le_of_ble_eq_true rfl⟩) ?_
    refine g_icmp_lt S 24 dX2_partsAt_13 (by decide) (fun c_2 => ?_) (fun c_2 => ?_)
    · skip
      refine g_const S dX2_partsAt_24 (v := 0) rfl ?_
      exact g_iret S hr hlocks dX2_partsAt_25 (by rw [sX2_partsAt_r, if_neg c_1, if_pos c_2]) rfl (Nat.le_of_ble_eq_true rfl) (Nat.le_of_ble_eq_true rfl)
    · skip
      refine g_iload_n S 1 dX2_partsAt_16 rfl ?_
      refine g_aload_n S 0 dX2_partsAt_17 rfl ?_
      refine g_calli (g_runV S hC (As := []) (rest := [.int a]) (k := k) hk hKk (by decide) rfl (kX2_burnt l E σ k hk hKk) (cwV 0 S.2.2.2.2 gX2_partsAt_X2_burnt rfl rfl rfl (by decide +kernel) ⟨Nat.le_of_ble_eq_true rfl, Nat.le_of_ble_eq_true rfl⟩) rfl rfl (Nat.le_of_ble_eq_true rfl) dX2_partsAt_18 ⟨Nat.le_of_ble_eq_true rfl, Nat.le_of_ble_eq_true rfl⟩) ?_
      refine g_icmp_lt S 26 dX2_partsAt_21 (by decide) (fun c_3 => ?_) (fun c_3 => ?_)
      · skip
        refine g_aload_n S 0 dX2_partsAt_26 rfl ?_
        refine gg2 S hC hiX2 hk hKk 2 (by decide) (by decide +kernel) dX2_partsAt_27 ?_
        refine g_if_ne S 38 dX2_partsAt_30 (by decide) (fun c_4 => ?_) (fun c_4 => ?_)
        · skip
          refine g_bipush S dX2_partsAt_38 (v := 8) rfl ?_
          refine g_istore_n S [(2, .int (8 : Int32)), (0, .ref (E.2.2 k)), (1, .int a)] dX2_partsAt_40 (by decide) rfl ?_
          refine g_aload_n S 1 dX2_partsAt_41 rfl ?_
          refine gg2 S hC hiX2 hk hKk 3 (by decide) (by decide +kernel) dX2_partsAt_42 ?_
          refine g_iload_n S 0 dX2_partsAt_45 rfl ?_
          refine g_imul S dX2_partsAt_46 ?_
          refine g_aload_n S 1 dX2_partsAt_47 rfl ?_
          refine g_calli (g_runV S hC (As := []) (rest := [.int ((σ.1 k 3) * (8 : Int32))]) (k := k) hk hKk (by decide) rfl (kX2_burnt l E σ k hk hKk) (cwV 0 S.2.2.2.2 gX2_partsAt_X2_burnt rfl rfl rfl (by decide +kernel) ⟨Nat.le_of_ble_eq_true rfl, Nat.le_of_ble_eq_true rfl⟩) rfl rfl (Nat.le_of_ble_eq_true rfl) dX2_partsAt_48 ⟨Nat.le_of_ble_eq_true rfl, Nat.le_of_ble_eq_true rfl⟩) ?_
          refine g_iload_n S 2 dX2_partsAt_51 rfl ?_
          refine g_isub S dX2_partsAt_52 ?_
          refine g_imul S dX2_partsAt_53 ?_
          refine g_aload_n S 1 dX2_partsAt_54 rfl ?_
          refine g_calli (g_runV S hC (As := []) (rest := [.int (((σ.1 k 3) * (8 : Int32)) * ((sX2_burnt_r σ k) - a))]) (k := k) hk hKk (by decide) rfl (kX2_burnt l E σ k hk hKk) (cwV 0 S.2.2.2.2 gX2_partsAt_X2_burnt rfl rfl rfl (by decide +kernel) ⟨Nat.le_of_ble_eq_true rfl, Nat.le_of_ble_eq_true rfl⟩) rfl rfl (Nat.le_of_ble_eq_true rfl) dX2_partsAt_55 ⟨Nat.le_of_ble_eq_true rfl, Nat.le_of_ble_eq_true rfl⟩) ?_
          refine g_aload_n S 1 dX2_partsAt_58 rfl ?_
          refine g_calli (g_runV S hC (As := []) (rest := [.int (sX2_burnt_r σ k), .int (((σ.1 k 3) * (8 : Int32)) * ((sX2_burnt_r σ k) - a))]) (k := k) hk hKk (by decide) rfl (kX2_done l E σ k hk hKk) (cwV 0 S.2.2.2.2 gX2_partsAt_X2_done rfl rfl rfl (by decide +kernel) ⟨Nat.le_of_ble_eq_true rfl, Nat.le_of_ble_eq_true rfl⟩) rfl rfl (Nat.le_of_ble_eq_true rfl) dX2_partsAt_59 ⟨Nat.le_of_ble_eq_true rfl, Nat.le_of_ble_eq_true rfl⟩) ?_
          refine g_isub S dX2_partsAt_62 ?_
          refine g_idiv S dX2_partsAt_63 (by unfold sX2_burnt_r sX2_done_r; split <;> decide) ?_
          exact g_iret S hr hlocks dX2_partsAt_64 (by rw [sX2_partsAt_r, if_neg c_1, if_neg c_2, if_pos c_3, if_neg c_4]) rfl (Nat.le_of_ble_eq_true rfl) (Nat.le_of_ble_eq_true rfl)
        · skip
          refine g_bipush S dX2_partsAt_33 (v := 6) rfl ?_
          refine g_goto S 40 dX2_partsAt_35 (by decide) ?_
          refine g_istore_n S [(2, .int (6 : Int32)), (0, .ref (E.2.2 k)), (1, .int a)] dX2_partsAt_40 (by decide) rfl ?_
          refine g_aload_n S 1 dX2_partsAt_41 rfl ?_
          refine gg2 S hC hiX2 hk hKk 3 (by decide) (by decide +kernel) dX2_partsAt_42 ?_
          refine g_iload_n S 0 dX2_partsAt_45 rfl ?_
          refine g_imul S dX2_partsAt_46 ?_
          refine g_aload_n S 1 dX2_partsAt_47 rfl ?_
          refine g_calli (g_runV S hC (As := []) (rest := [.int ((σ.1 k 3) * (6 : Int32))]) (k := k) hk hKk (by decide) rfl (kX2_burnt l E σ k hk hKk) (cwV 0 S.2.2.2.2 gX2_partsAt_X2_burnt rfl rfl rfl (by decide +kernel) ⟨Nat.le_of_ble_eq_true rfl, Nat.le_of_ble_eq_true rfl⟩) rfl rfl (Nat.le_of_ble_eq_true rfl) dX2_partsAt_48 ⟨Nat.le_of_ble_eq_true rfl, Nat.le_of_ble_eq_true rfl⟩) ?_
          refine g_iload_n S 2 dX2_partsAt_51 rfl ?_
          refine g_isub S dX2_partsAt_52 ?_
          refine g_imul S dX2_partsAt_53 ?_
          refine g_aload_n S 1 dX2_partsAt_54 rfl ?_
          refine g_calli (g_runV S hC (As := []) (rest := [.int (((σ.1 k 3) * (6 : Int32)) * ((sX2_burnt_r σ k) - a))]) (k := k) hk hKk (by decide) rfl (kX2_burnt l E σ k hk hKk) (cwV 0 S.2.2.2.2 gX2_partsAt_X2_burnt rfl rfl rfl (by decide +kernel) ⟨Nat.le_of_ble_eq_true rfl, Nat.le_of_ble_eq_true rfl⟩) rfl rfl (Nat.le_of_ble_eq_true rfl) dX2_partsAt_55 ⟨Nat.le_of_ble_eq_true rfl, Nat.le_of_ble_eq_true rfl⟩) ?_
          refine g_aload_n S 1 dX2_partsAt_58 rfl ?_
          refine g_calli (g_runV S hC (As := []) (rest := [.int (sX2_burnt_r σ k), .int (((σ.1 k 3) * (6 : Int32)) * ((sX2_burnt_r σ k) - a))]) (k := k) hk hKk (by decide) rfl (kX2_done l E σ k hk hKk) (cwV 0 S.2.2.2.2 gX2_partsAt_X2_done rfl rfl rfl (by decide +kernel) ⟨Nat.le_of_ble_eq_true rfl, Nat.le_of_ble_eq_true rfl⟩) rfl rfl (Nat.le_of_ble_eq_true rfl) dX2_partsAt_59 ⟨Nat.le_of_ble_eq_true rfl, Nat.le_of_ble_eq_true rfl⟩) ?_
          refine g_isub S dX2_partsAt_62 ?_
          refine g_idiv S dX2_partsAt_63 (by unfold sX2_burnt_r sX2_done_r; split <;> decide) ?_
          exact g_iret S hr hlocks dX2_partsAt_64 (by rw [sX2_partsAt_r, if_neg c_1, if_neg c_2, if_pos c_3, if_pos c_4]) rfl (Nat.le_of_ble_eq_true rfl) (Nat.le_of_ble_eq_true rfl)
      · skip
        refine g_const S dX2_partsAt_24 (v := 0) rfl ?_
        exact g_iret S hr hlocks dX2_partsAt_25 (by rw [sX2_partsAt_r, if_neg c_1, if_neg c_2, if_neg c_3]) rfl (Nat.le_of_ble_eq_true rfl) (Nat.le_of_ble_eq_true rfl)
def sX2_size_r (σ : gS) (k : Nat) : Int32 := (6 : Int32)
set_option maxRecDepth 100000 in
set_option maxHeartbeats 4000000 in
theorem kX2_size (l : Launch) (E : gT) (σ : gS) (k : Nat) (hk : k < 58) (hKk : gK k = 2) : gMi l yX2_size wsX2_size ({ frames := 0, cells := 0, slots := 0, locals := 0 }) 0 0 E σ [.ref (E.2.2 k)] (sX2_size_r σ k) σ := by
  refine g_met (mc := 0) (ms := 0) (nL := 1) (ret := (some .int)) (by decide) rfl (lv := [(0, .ref (E.2.2 k))]) rfl (Nat.le_of_ble_eq_true rfl) ?_
  intro p e s m below meth c S hr hlocks hC
  refine g_bipush S dX2_size_0 (v := 6) rfl ?_
  exact g_iret S hr hlocks dX2_size_2 rfl rfl (Nat.le_of_ble_eq_true rfl) (Nat.le_of_ble_eq_true rfl)
def sX2_tell_r (σ : gS) (k w : Nat) : Int32 := if w = 5 then sX2_partsAt_r σ k (σ.1 k 4) else σ.1 k w
set_option maxRecDepth 100000 in
set_option maxHeartbeats 4000000 in
theorem kX2_tell (l : Launch) (E : gT) (σ : gS) (k : Nat) (hk : k < 58) (hKk : gK k = 2) (w : Nat) (hw : w < 6) : gMi l yX2_tell wsX2_tell ({ frames := 2, cells := 0, slots := 0, locals := 42 }) 0 0 E σ [.ref (E.2.2 k), .int (nI w)] (sX2_tell_r σ k w) σ := by
  refine g_met (mc := 0) (ms := 0) (nL := 2) (ret := (some .int)) (by decide) rfl (lv := [(0, .ref (E.2.2 k)), (1, .int (nI w))]) rfl (Nat.le_of_ble_eq_true rfl) ?_
  intro p e s m below meth c S hr hlocks hC
  have hiX2 : ∀ w ∈ wsX20, w ∈ wsX2_tell := by decide +kernel
  rcases (show w = 0 ∨ w = 1 ∨ w = 2 ∨ w = 3 ∨ w = 4 ∨ w = 5 by omega) with rfl | rfl | rfl | rfl | rfl | rfl
  · skip
    refine g_iload_n S 1 dX2_tell_0 rfl ?_
    refine g_tabIn S 36 dX2_tell_1 (by decide) (by decide) rfl (by decide) ?_
    refine g_aload_n S 0 dX2_tell_36 rfl ?_
    refine gg2 S hC hiX2 hk hKk 0 (by decide) (by decide +kernel) dX2_tell_37 ?_
    exact g_iret S hr hlocks dX2_tell_40 rfl rfl (Nat.le_of_ble_eq_true rfl) (Nat.le_of_ble_eq_true rfl)
  · skip
    refine g_iload_n S 1 dX2_tell_0 rfl ?_
    refine g_tabIn S 41 dX2_tell_1 (by decide) (by decide) rfl (by decide) ?_
    refine g_aload_n S 0 dX2_tell_41 rfl ?_
    refine gg2 S hC hiX2 hk hKk 1 (by decide) (by decide +kernel) dX2_tell_42 ?_
    exact g_iret S hr hlocks dX2_tell_45 rfl rfl (Nat.le_of_ble_eq_true rfl) (Nat.le_of_ble_eq_true rfl)
  · skip
    refine g_iload_n S 1 dX2_tell_0 rfl ?_
    refine g_tabIn S 46 dX2_tell_1 (by decide) (by decide) rfl (by decide) ?_
    refine g_aload_n S 0 dX2_tell_46 rfl ?_
    refine gg2 S hC hiX2 hk hKk 2 (by decide) (by decide +kernel) dX2_tell_47 ?_
    exact g_iret S hr hlocks dX2_tell_50 rfl rfl (Nat.le_of_ble_eq_true rfl) (Nat.le_of_ble_eq_true rfl)
  · skip
    refine g_iload_n S 1 dX2_tell_0 rfl ?_
    refine g_tabIn S 51 dX2_tell_1 (by decide) (by decide) rfl (by decide) ?_
    refine g_aload_n S 0 dX2_tell_51 rfl ?_
    refine gg2 S hC hiX2 hk hKk 3 (by decide) (by decide +kernel) dX2_tell_52 ?_
    exact g_iret S hr hlocks dX2_tell_55 rfl rfl (Nat.le_of_ble_eq_true rfl) (Nat.le_of_ble_eq_true rfl)
  · skip
    refine g_iload_n S 1 dX2_tell_0 rfl ?_
    refine g_tabIn S 56 dX2_tell_1 (by decide) (by decide) rfl (by decide) ?_
    refine g_aload_n S 0 dX2_tell_56 rfl ?_
    refine gg2 S hC hiX2 hk hKk 4 (by decide) (by decide +kernel) dX2_tell_57 ?_
    exact g_iret S hr hlocks dX2_tell_60 rfl rfl (Nat.le_of_ble_eq_true rfl) (Nat.le_of_ble_eq_true rfl)
  · skip
    refine g_iload_n S 1 dX2_tell_0 rfl ?_
    refine g_tabOut S 61 dX2_tell_1 (by decide) (by decide) ?_
    refine g_aload_n S 0 dX2_tell_61 rfl ?_
    refine g_aload_n S 0 dX2_tell_62 rfl ?_
    refine gg2 S hC hiX2 hk hKk 4 (by decide) (by decide +kernel) dX2_tell_63 ?_
    refine g_calli (g_runV S hC (As := [.int (σ.1 k 4)]) (rest := []) (k := k) hk hKk (by decide) rfl (kX2_partsAt l E σ k hk hKk (σ.1 k 4)) (cwV 1 S.2.2.2.2 gX2_tell_X2_partsAt rfl rfl rfl (by decide +kernel) ⟨Nat.le_of_ble_eq_true rfl, Nat.le_of_ble_eq_true rfl⟩) rfl rfl (Nat.le_of_ble_eq_true rfl) dX2_tell_66 ⟨Nat.le_of_ble_eq_true rfl, Nat.le_of_ble_eq_true rfl⟩) ?_
    exact g_iret S hr hlocks dX2_tell_69 rfl rfl (Nat.le_of_ble_eq_true rfl) (Nat.le_of_ble_eq_true rfl)
def sX3_hire_s (σ : gS) (k : Nat) (a : Int32) (b : Int32) : gS := let S1 := gu σ k 0 a; let S2 := gu S1 k 1 b; S2
theorem fX3_hire (σ : gS) (k : Nat) (a : Int32) (b : Int32) (x : Nat) (hxk : x ≠ k) : (sX3_hire_s σ k a b).1 x = σ.1 x := by
  unfold sX3_hire_s
  (try dsimp only)
  (repeat' split)
  all_goals (simp [gu_ne, gcp, *])
set_option maxRecDepth 100000 in
set_option maxHeartbeats 4000000 in
theorem kX3_hire (l : Launch) (E : gT) (σ : gS) (k : Nat) (hk : k < 58) (hKk : gK k = 3) (a : Int32) (b : Int32) : gMv l yX3_hire wsX3_hire ({ frames := 0, cells := 0, slots := 0, locals := 0 }) 0 0 E σ [.ref (E.2.2 k), .int a, .int b] (sX3_hire_s σ k a b) := by
  refine g_met (mc := 0) (ms := 0) (nL := 3) (ret := none) (by decide) rfl (lv := [(0, .ref (E.2.2 k)), (1, .int a), (2, .int b)]) rfl (Nat.le_of_ble_eq_true rfl) ?_
  intro p e s m below meth c S hr hlocks hC
  have hiX3 : ∀ w ∈ wsX30, w ∈ wsX3_hire := by decide +kernel
  refine g_aload_n S 0 dX3_hire_0 rfl ?_
  refine g_iload_n S 1 dX3_hire_1 rfl ?_
  refine gp3 S hC hiX3 hk hKk 0 (by decide) (by decide +kernel) dX3_hire_2 ?_
  refine g_nm (fun S1 hS1 => ?_)
  refine g_aload_n S 0 dX3_hire_5 rfl ?_
  refine g_iload_n S 2 dX3_hire_6 rfl ?_
  refine gp3 S hC hiX3 hk hKk 1 (by decide) (by decide +kernel) dX3_hire_7 ?_
  refine g_nm (fun S2 hS2 => ?_)
  exact g_vret S hr hlocks dX3_hire_10 (by subst hS2 hS1; rfl) (Nat.le_of_ble_eq_true rfl) (Nat.le_of_ble_eq_true rfl)
def sX3_setOut_s (σ : gS) (k : Nat) : gS := let S1 := gu σ k 2 (1 : Int32); let S2 := gu S1 k 3 (S1.1 k 0); S2
theorem fX3_setOut (σ : gS) (k : Nat) (x : Nat) (hxk : x ≠ k) : (sX3_setOut_s σ k).1 x = σ.1 x := by
  unfold sX3_setOut_s
  (try dsimp only)
  (repeat' split)
  all_goals (simp [gu_ne, gcp, *])
set_option maxRecDepth 100000 in
set_option maxHeartbeats 4000000 in
theorem kX3_setOut (l : Launch) (E : gT) (σ : gS) (k : Nat) (hk : k < 58) (hKk : gK k = 3) : gMv l yX3_setOut wsX3_setOut ({ frames := 0, cells := 0, slots := 0, locals := 0 }) 0 0 E σ [.ref (E.2.2 k)] (sX3_setOut_s σ k) := by
  refine g_met (mc := 0) (ms := 0) (nL := 1) (ret := none) (by decide) rfl (lv := [(0, .ref (E.2.2 k))]) rfl (Nat.le_of_ble_eq_true rfl) ?_
  intro p e s m below meth c S hr hlocks hC
  have hiX3 : ∀ w ∈ wsX30, w ∈ wsX3_setOut := by decide +kernel
  refine g_aload_n S 0 dX3_setOut_0 rfl ?_
  refine g_const S dX3_setOut_1 (v := 1) rfl ?_
  refine gp3 S hC hiX3 hk hKk 2 (by decide) (by decide +kernel) dX3_setOut_2 ?_
  refine g_nm (fun S1 hS1 => ?_)
  refine g_aload_n S 0 dX3_setOut_5 rfl ?_
  refine g_aload_n S 0 dX3_setOut_6 rfl ?_
  refine gg3 S hC hiX3 hk hKk 0 (by decide) (by decide +kernel) dX3_setOut_7 ?_
  refine gp3 S hC hiX3 hk hKk 3 (by decide) (by decide +kernel) dX3_setOut_10 ?_
  refine g_nm (fun S2 hS2 => ?_)
  exact g_vret S hr hlocks dX3_setOut_13 (by subst hS2 hS1; rfl) (Nat.le_of_ble_eq_true rfl) (Nat.le_of_ble_eq_true rfl)
def sX3_comeHome_r (σ : gS) (k : Nat) : Int32 := if σ.1 k 2 = (1 : Int32) then (σ.1 k 1) else ((0 : Int32))
def sX3_comeHome_s (σ : gS) (k : Nat) : gS := if σ.1 k 2 = (1 : Int32) then (let S2 := gu σ k 2 (0 : Int32); S2) else (let S1 := gu σ k 2 (0 : Int32); S1)
theorem fX3_comeHome (σ : gS) (k : Nat) (x : Nat) (hxk : x ≠ k) : (sX3_comeHome_s σ k).1 x = σ.1 x := by
  unfold sX3_comeHome_s
  (try dsimp only)
  (repeat' split)
  all_goals (simp [gu_ne, gcp, *])
set_option maxRecDepth 100000 in
set_option maxHeartbeats 4000000 in
theorem kX3_comeHome (l : Launch) (E : gT) (σ : gS) (k : Nat) (hk : k < 58) (hKk : gK k = 3) : gMi l yX3_comeHome wsX3_comeHome ({ frames := 0, cells := 0, slots := 0, locals := 0 }) 0 0 E σ [.ref (E.2.2 k)] (sX3_comeHome_r σ k) (sX3_comeHome_s σ k) := by
  refine g_met (mc := 0) (ms := 0) (nL := 2) (ret := (some .int)) (by decide) rfl (lv := [(0, .ref (E.2.2 k))]) rfl (Nat.le_of_ble_eq_true rfl) ?_
  intro p e s m below meth c S hr hlocks hC
  have hiX3 : ∀ w ∈ wsX30, w ∈ wsX3_comeHome := by decide +kernel
  refine g_aload_n S 0 dX3_comeHome_0 rfl ?_
  refine gg3 S hC hiX3 hk hKk 2 (by decide) (by decide +kernel) dX3_comeHome_1 ?_
  refine g_const S dX3_comeHome_4 (v := 1) rfl ?_
  refine g_icmp_ne S 15 dX3_comeHome_5 (by decide) (fun c_1 => ?_) (fun c_1 => ?_)
  · skip
    refine g_const S dX3_comeHome_15 (v := 0) rfl ?_
    refine g_istore_n S [(1, .int (0 : Int32)), (0, .ref (E.2.2 k))] dX3_comeHome_16 (by decide) rfl ?_
    refine g_aload_n S 1 dX3_comeHome_17 rfl ?_
    refine g_const S dX3_comeHome_18 (v := 0) rfl ?_
    refine gp3 S hC hiX3 hk hKk 2 (by decide) (by decide +kernel) dX3_comeHome_19 ?_
    refine g_nm (fun S1 hS1 => ?_)
    refine g_iload_n S 0 dX3_comeHome_22 rfl ?_
    exact g_iret S hr hlocks dX3_comeHome_23 (by subst hS1; unfold sX3_comeHome_r; (try dsimp only); rw [if_neg c_1]) (by subst hS1; unfold sX3_comeHome_s; (try dsimp only); rw [if_neg c_1]) (Nat.le_of_ble_eq_true rfl) (Nat.le_of_ble_eq_true rfl)
  · skip
    refine g_aload_n S 0 dX3_comeHome_8 rfl ?_
    refine gg3 S hC hiX3 hk hKk 1 (by decide) (by decide +kernel) dX3_comeHome_9 ?_
    refine g_goto S 16 dX3_comeHome_12 (by decide) ?_
    refine g_istore_n S [(1, .int (σ.1 k 1)), (0, .ref (E.2.2 k))] dX3_comeHome_16 (by decide) rfl ?_
    refine g_aload_n S 1 dX3_comeHome_17 rfl ?_
    refine g_const S dX3_comeHome_18 (v := 0) rfl ?_
    refine gp3 S hC hiX3 hk hKk 2 (by decide) (by decide +kernel) dX3_comeHome_19 ?_
    refine g_nm (fun S2 hS2 => ?_)
    refine g_iload_n S 0 dX3_comeHome_22 rfl ?_
    exact g_iret S hr hlocks dX3_comeHome_23 (by subst hS2; unfold sX3_comeHome_r; (try dsimp only); rw [if_pos c_1]) (by subst hS2; unfold sX3_comeHome_s; (try dsimp only); rw [if_pos c_1]) (Nat.le_of_ble_eq_true rfl) (Nat.le_of_ble_eq_true rfl)
def sX3_travel_r (σ : gS) (k : Nat) (a : Int32) : Int32 := if σ.1 k 2 = 0 then ((0 : Int32)) else (let S1 := gu σ k 3 ((σ.1 k 3) - (1 : Int32)); if S1.1 k 2 = (1 : Int32) then (if S1.1 k 3 = (S1.1 k 0) / (2 : Int32) then (if a = 0 then (if S1.1 k 3 ≤ 0 then (sX3_comeHome_r S1 k) else ((0 : Int32))) else (let S5 := gu S1 k 2 (2 : Int32); let S6 := gu S5 k 3 (10 : Int32); let S7 := gu S6 k 4 ((S6.1 k 4) + (1 : Int32)); if S7.1 k 3 ≤ 0 then (sX3_comeHome_r S7 k) else ((0 : Int32)))) else (if S1.1 k 3 ≤ 0 then (sX3_comeHome_r S1 k) else ((0 : Int32)))) else (if S1.1 k 3 ≤ 0 then (sX3_comeHome_r S1 k) else ((0 : Int32))))
def sX3_travel_s (σ : gS) (k : Nat) (a : Int32) : gS := if σ.1 k 2 = 0 then (σ) else (let S1 := gu σ k 3 ((σ.1 k 3) - (1 : Int32)); if S1.1 k 2 = (1 : Int32) then (if S1.1 k 3 = (S1.1 k 0) / (2 : Int32) then (if a = 0 then (if S1.1 k 3 ≤ 0 then (let S4 := sX3_comeHome_s S1 k; S4) else (S1)) else (let S5 := gu S1 k 2 (2 : Int32); let S6 := gu S5 k 3 (10 : Int32); let S7 := gu S6 k 4 ((S6.1 k 4) + (1 : Int32)); if S7.1 k 3 ≤ 0 then (let S8 := sX3_comeHome_s S7 k; S8) else (S7))) else (if S1.1 k 3 ≤ 0 then (let S3 := sX3_comeHome_s S1 k; S3) else (S1))) else (if S1.1 k 3 ≤ 0 then (let S2 := sX3_comeHome_s S1 k; S2) else (S1)))
theorem fX3_travel (σ : gS) (k : Nat) (a : Int32) (x : Nat) (hxk : x ≠ k) : (sX3_travel_s σ k a).1 x = σ.1 x := by
  unfold sX3_travel_s
  (try dsimp only)
  (repeat' split)
  all_goals (simp [gu_ne, gcp, fX3_comeHome, *])
set_option maxRecDepth 100000 in
set_option maxHeartbeats 4000000 in
theorem kX3_travel (l : Launch) (E : gT) (σ : gS) (k : Nat) (hk : k < 58) (hKk : gK k = 3) (a : Int32) : gMi l yX3_travel wsX3_travel ({ frames := 1, cells := 0, slots := 0, locals := 21 }) 0 0 E σ [.ref (E.2.2 k), .int a] (sX3_travel_r σ k a) (sX3_travel_s σ k a) := by
  refine g_met (mc := 0) (ms := 0) (nL := 2) (ret := (some .int)) (by decide) rfl (lv := [(0, .ref (E.2.2 k)), (1, .int a)]) rfl (Nat.le_of_ble_eq_true rfl) ?_
  intro p e s m below meth c S hr hlocks hC
  have hiX3 : ∀ w ∈ wsX30, w ∈ wsX3_travel := by decide +kernel
  refine g_aload_n S 0 dX3_travel_0 rfl ?_
  refine gg3 S hC hiX3 hk hKk 2 (by decide) (by decide +kernel) dX3_travel_1 ?_
  refine g_if_ne S 9 dX3_travel_4 (by decide) (fun c_1 => ?_) (fun c_1 => ?_)
  · skip
    refine g_aload_n S 0 dX3_travel_9 rfl ?_
    refine g_dup S dX3_travel_10 rfl ?_
    refine gg3 S hC hiX3 hk hKk 3 (by decide) (by decide +kernel) dX3_travel_11 ?_
    refine g_const S dX3_travel_14 (v := 1) rfl ?_
    refine g_isub S dX3_travel_15 ?_
    refine gp3 S hC hiX3 hk hKk 3 (by decide) (by decide +kernel) dX3_travel_16 ?_
    refine g_nm (fun S1 hS1 => ?_)
    refine g_aload_n S 0 dX3_travel_19 rfl ?_
    refine gg3 S hC hiX3 hk hKk 2 (by decide) (by decide +kernel) dX3_travel_20 ?_
    refine g_const S dX3_travel_23 (v := 1) rfl ?_
    refine g_icmp_ne S 65 dX3_travel_24 (by decide) (fun c_2 => ?_) (fun c_2 => ?_)
    · skip
      refine g_aload_n S 0 dX3_travel_65 rfl ?_
      refine gg3 S hC hiX3 hk hKk 3 (by decide) (by decide +kernel) dX3_travel_66 ?_
      refine g_if_le S 76 dX3_travel_69 (by decide) (fun c_3 => ?_) (fun c_3 => ?_)
      · skip
        refine g_aload_n S 0 dX3_travel_76 rfl ?_
        refine g_calli (g_runV S hC (As := []) (rest := []) (k := k) hk hKk (by decide) rfl (kX3_comeHome l E S1 k hk hKk) (cwV 0 S.2.2.2.2 gX3_travel_X3_comeHome rfl rfl rfl (by decide +kernel) ⟨Nat.le_of_ble_eq_true rfl, Nat.le_of_ble_eq_true rfl⟩) rfl rfl (Nat.le_of_ble_eq_true rfl) dX3_travel_77 ⟨Nat.le_of_ble_eq_true rfl, Nat.le_of_ble_eq_true rfl⟩) ?_
        refine g_nm (fun S2 hS2 => ?_)
        exact g_iret S hr hlocks dX3_travel_80 (by subst hS2 hS1; unfold sX3_travel_r; (try dsimp only); rw [if_neg c_1, if_neg c_2, if_pos c_3]) (by subst hS2 hS1; unfold sX3_travel_s; (try dsimp only); rw [if_neg c_1, if_neg c_2, if_pos c_3]) (Nat.le_of_ble_eq_true rfl) (Nat.le_of_ble_eq_true rfl)
      · skip
        refine g_const S dX3_travel_72 (v := 0) rfl ?_
        refine g_goto S 80 dX3_travel_73 (by decide) ?_
        exact g_iret S hr hlocks dX3_travel_80 (by subst hS1; unfold sX3_travel_r; (try dsimp only); rw [if_neg c_1, if_neg c_2, if_neg c_3]) (by subst hS1; unfold sX3_travel_s; (try dsimp only); rw [if_neg c_1, if_neg c_2, if_neg c_3]) (Nat.le_of_ble_eq_true rfl) (Nat.le_of_ble_eq_true rfl)
    · skip
      refine g_aload_n S 0 dX3_travel_27 rfl ?_
      refine gg3 S hC hiX3 hk hKk 3 (by decide) (by decide +kernel) dX3_travel_28 ?_
      refine g_aload_n S 0 dX3_travel_31 rfl ?_
      refine gg3 S hC hiX3 hk hKk 0 (by decide) (by decide +kernel) dX3_travel_32 ?_
      refine g_const S dX3_travel_35 (v := 2) rfl ?_
      refine g_idiv S dX3_travel_36 (by decide) ?_
      refine g_icmp_ne S 65 dX3_travel_37 (by decide) (fun c_4 => ?_) (fun c_4 => ?_)
      · skip
        refine g_aload_n S 0 dX3_travel_65 rfl ?_
        refine gg3 S hC hiX3 hk hKk 3 (by decide) (by decide +kernel) dX3_travel_66 ?_
        refine g_if_le S 76 dX3_travel_69 (by decide) (fun c_5 => ?_) (fun c_5 => ?_)
        · skip
          refine g_aload_n S 0 dX3_travel_76 rfl ?_
          refine g_calli (g_runV S hC (As := []) (rest := []) (k := k) hk hKk (by decide) rfl (kX3_comeHome l E S1 k hk hKk) (cwV 0 S.2.2.2.2 gX3_travel_X3_comeHome rfl rfl rfl (by decide +kernel) ⟨Nat.le_of_ble_eq_true rfl, Nat.le_of_ble_eq_true rfl⟩) rfl rfl (Nat.le_of_ble_eq_true rfl) dX3_travel_77 ⟨Nat.le_of_ble_eq_true rfl, Nat.le_of_ble_eq_true rfl⟩) ?_
          refine g_nm (fun S3 hS3 => ?_)
          exact g_iret S hr hlocks dX3_travel_80 (by subst hS3 hS1; unfold sX3_travel_r; (try dsimp only); rw [if_neg c_1, if_pos c_2, if_neg c_4, if_pos c_5]) (by subst hS3 hS1; unfold sX3_travel_s; (try dsimp only); rw [if_neg c_1, if_pos c_2, if_neg c_4, if_pos c_5]) (Nat.le_of_ble_eq_true rfl) (Nat.le_of_ble_eq_true rfl)
        · skip
          refine g_const S dX3_travel_72 (v := 0) rfl ?_
          refine g_goto S 80 dX3_travel_73 (by decide) ?_
          exact g_iret S hr hlocks dX3_travel_80 (by subst hS1; unfold sX3_travel_r; (try dsimp only); rw [if_neg c_1, if_pos c_2, if_neg c_4, if_neg c_5]) (by subst hS1; unfold sX3_travel_s; (try dsimp only); rw [if_neg c_1, if_pos c_2, if_neg c_4, if_neg c_5]) (Nat.le_of_ble_eq_true rfl) (Nat.le_of_ble_eq_true rfl)
      · skip
        refine g_iload_n S 1 dX3_travel_40 rfl ?_
        refine g_if_eq S 65 dX3_travel_41 (by decide) (fun c_6 => ?_) (fun c_6 => ?_)
        · skip
          refine g_aload_n S 0 dX3_travel_65 rfl ?_
          refine gg3 S hC hiX3 hk hKk 3 (by decide) (by decide +kernel) dX3_travel_66 ?_
          refine g_if_le S 76 dX3_travel_69 (by decide) (fun c_7 => ?_) (fun c_7 => ?_)
          · skip
            refine g_aload_n S 0 dX3_travel_76 rfl ?_
            refine g_calli (g_runV S hC (As := []) (rest := []) (k := k) hk hKk (by decide) rfl (kX3_comeHome l E S1 k hk hKk) (cwV 0 S.2.2.2.2 gX3_travel_X3_comeHome rfl rfl rfl (by decide +kernel) ⟨Nat.le_of_ble_eq_true rfl, Nat.le_of_ble_eq_true rfl⟩) rfl rfl (Nat.le_of_ble_eq_true rfl) dX3_travel_77 ⟨Nat.le_of_ble_eq_true rfl, Nat.le_of_ble_eq_true rfl⟩) ?_
            refine g_nm (fun S4 hS4 => ?_)
            exact g_iret S hr hlocks dX3_travel_80 (by subst hS4 hS1; unfold sX3_travel_r; (try dsimp only); rw [if_neg c_1, if_pos c_2, if_pos c_4, if_pos c_6, if_pos c_7]) (by subst hS4 hS1; unfold sX3_travel_s; (try dsimp only); rw [if_neg c_1, if_pos c_2, if_pos c_4, if_pos c_6, if_pos c_7]) (Nat.le_of_ble_eq_true rfl) (Nat.le_of_ble_eq_true rfl)
          · skip
            refine g_const S dX3_travel_72 (v := 0) rfl ?_
            refine g_goto S 80 dX3_travel_73 (by decide) ?_
            exact g_iret S hr hlocks dX3_travel_80 (by subst hS1; unfold sX3_travel_r; (try dsimp only); rw [if_neg c_1, if_pos c_2, if_pos c_4, if_pos c_6, if_neg c_7]) (by subst hS1; unfold sX3_travel_s; (try dsimp only); rw [if_neg c_1, if_pos c_2, if_pos c_4, if_pos c_6, if_neg c_7]) (Nat.le_of_ble_eq_true rfl) (Nat.le_of_ble_eq_true rfl)
        · skip
          refine g_aload_n S 0 dX3_travel_44 rfl ?_
          refine g_const S dX3_travel_45 (v := 2) rfl ?_
          refine gp3 S hC hiX3 hk hKk 2 (by decide) (by decide +kernel) dX3_travel_46 ?_
          refine g_nm (fun S5 hS5 => ?_)
          refine g_aload_n S 0 dX3_travel_49 rfl ?_
          refine g_bipush S dX3_travel_50 (v := 10) rfl ?_
          refine gp3 S hC hiX3 hk hKk 3 (by decide) (by decide +kernel) dX3_travel_52 ?_
          refine g_nm (fun S6 hS6 => ?_)
          refine g_aload_n S 0 dX3_travel_55 rfl ?_
          refine g_dup S dX3_travel_56 rfl ?_
          refine gg3 S hC hiX3 hk hKk 4 (by decide) (by decide +kernel) dX3_travel_57 ?_
          refine g_const S dX3_travel_60 (v := 1) rfl ?_
          refine g_iadd S dX3_travel_61 ?_
          refine gp3 S hC hiX3 hk hKk 4 (by decide) (by decide +kernel) dX3_travel_62 ?_
          refine g_nm (fun S7 hS7 => ?_)
          refine g_aload_n S 0 dX3_travel_65 rfl ?_
          refine gg3 S hC hiX3 hk hKk 3 (by decide) (by decide +kernel) dX3_travel_66 ?_
          refine g_if_le S 76 dX3_travel_69 (by decide) (fun c_8 => ?_) (fun c_8 => ?_)
          · skip
            refine g_aload_n S 0 dX3_travel_76 rfl ?_
            refine g_calli (g_runV S hC (As := []) (rest := []) (k := k) hk hKk (by decide) rfl (kX3_comeHome l E S7 k hk hKk) (cwV 0 S.2.2.2.2 gX3_travel_X3_comeHome rfl rfl rfl (by decide +kernel) ⟨Nat.le_of_ble_eq_true rfl, Nat.le_of_ble_eq_true rfl⟩) rfl rfl (Nat.le_of_ble_eq_true rfl) dX3_travel_77 ⟨Nat.le_of_ble_eq_true rfl, Nat.le_of_ble_eq_true rfl⟩) ?_
            refine g_nm (fun S8 hS8 => ?_)
            exact g_iret S hr hlocks dX3_travel_80 (by subst hS8 hS7 hS6 hS5 hS1; unfold sX3_travel_r; (try dsimp only); rw [if_neg c_1, if_pos c_2, if_pos c_4, if_neg c_6, if_pos c_8]) (by subst hS8 hS7 hS6 hS5 hS1; unfold sX3_travel_s; (try dsimp only); rw [if_neg c_1, if_pos c_2, if_pos c_4, if_neg c_6, if_pos c_8]) (Nat.le_of_ble_eq_true rfl) (Nat.le_of_ble_eq_true rfl)
          · skip
            refine g_const S dX3_travel_72 (v := 0) rfl ?_
            refine g_goto S 80 dX3_travel_73 (by decide) ?_
            exact g_iret S hr hlocks dX3_travel_80 (by subst hS7 hS6 hS5 hS1; unfold sX3_travel_r; (try dsimp only); rw [if_neg c_1, if_pos c_2, if_pos c_4, if_neg c_6, if_neg c_8]) (by subst hS7 hS6 hS5 hS1; unfold sX3_travel_s; (try dsimp only); rw [if_neg c_1, if_pos c_2, if_pos c_4, if_neg c_6, if_neg c_8]) (Nat.le_of_ble_eq_true rfl) (Nat.le_of_ble_eq_true rfl)
  · skip
    refine g_const S dX3_travel_7 (v := 0) rfl ?_
    exact g_iret S hr hlocks dX3_travel_8 (by rw [sX3_travel_r, if_pos c_1]) (by rw [sX3_travel_s, if_pos c_1]) (Nat.le_of_ble_eq_true rfl) (Nat.le_of_ble_eq_true rfl)
def sX3_size_r (σ : gS) (k : Nat) : Int32 := (5 : Int32)
set_option maxRecDepth 100000 in
set_option maxHeartbeats 4000000 in
theorem kX3_size (l : Launch) (E : gT) (σ : gS) (k : Nat) (hk : k < 58) (hKk : gK k = 3) : gMi l yX3_size wsX3_size ({ frames := 0, cells := 0, slots := 0, locals := 0 }) 0 0 E σ [.ref (E.2.2 k)] (sX3_size_r σ k) σ := by
  refine g_met (mc := 0) (ms := 0) (nL := 1) (ret := (some .int)) (by decide) rfl (lv := [(0, .ref (E.2.2 k))]) rfl (Nat.le_of_ble_eq_true rfl) ?_
  intro p e s m below meth c S hr hlocks hC
  refine g_const S dX3_size_0 (v := 5) rfl ?_
  exact g_iret S hr hlocks dX3_size_1 rfl rfl (Nat.le_of_ble_eq_true rfl) (Nat.le_of_ble_eq_true rfl)
def sX3_tell_r (σ : gS) (k w : Nat) : Int32 := σ.1 k w
set_option maxRecDepth 100000 in
set_option maxHeartbeats 4000000 in
theorem kX3_tell (l : Launch) (E : gT) (σ : gS) (k : Nat) (hk : k < 58) (hKk : gK k = 3) (w : Nat) (hw : w < 5) : gMi l yX3_tell wsX3_tell ({ frames := 0, cells := 0, slots := 0, locals := 0 }) 0 0 E σ [.ref (E.2.2 k), .int (nI w)] (sX3_tell_r σ k w) σ := by
  refine g_met (mc := 0) (ms := 0) (nL := 2) (ret := (some .int)) (by decide) rfl (lv := [(0, .ref (E.2.2 k)), (1, .int (nI w))]) rfl (Nat.le_of_ble_eq_true rfl) ?_
  intro p e s m below meth c S hr hlocks hC
  have hiX3 : ∀ w ∈ wsX30, w ∈ wsX3_tell := by decide +kernel
  rcases (show w = 0 ∨ w = 1 ∨ w = 2 ∨ w = 3 ∨ w = 4 by omega) with rfl | rfl | rfl | rfl | rfl
  · skip
    refine g_iload_n S 1 dX3_tell_0 rfl ?_
    refine g_tabIn S 32 dX3_tell_1 (by decide) (by decide) rfl (by decide) ?_
    refine g_aload_n S 0 dX3_tell_32 rfl ?_
    refine gg3 S hC hiX3 hk hKk 0 (by decide) (by decide +kernel) dX3_tell_33 ?_
    exact g_iret S hr hlocks dX3_tell_36 rfl rfl (Nat.le_of_ble_eq_true rfl) (Nat.le_of_ble_eq_true rfl)
  · skip
    refine g_iload_n S 1 dX3_tell_0 rfl ?_
    refine g_tabIn S 37 dX3_tell_1 (by decide) (by decide) rfl (by decide) ?_
    refine g_aload_n S 0 dX3_tell_37 rfl ?_
    refine gg3 S hC hiX3 hk hKk 1 (by decide) (by decide +kernel) dX3_tell_38 ?_
    exact g_iret S hr hlocks dX3_tell_41 rfl rfl (Nat.le_of_ble_eq_true rfl) (Nat.le_of_ble_eq_true rfl)
  · skip
    refine g_iload_n S 1 dX3_tell_0 rfl ?_
    refine g_tabIn S 42 dX3_tell_1 (by decide) (by decide) rfl (by decide) ?_
    refine g_aload_n S 0 dX3_tell_42 rfl ?_
    refine gg3 S hC hiX3 hk hKk 2 (by decide) (by decide +kernel) dX3_tell_43 ?_
    exact g_iret S hr hlocks dX3_tell_46 rfl rfl (Nat.le_of_ble_eq_true rfl) (Nat.le_of_ble_eq_true rfl)
  · skip
    refine g_iload_n S 1 dX3_tell_0 rfl ?_
    refine g_tabIn S 47 dX3_tell_1 (by decide) (by decide) rfl (by decide) ?_
    refine g_aload_n S 0 dX3_tell_47 rfl ?_
    refine gg3 S hC hiX3 hk hKk 3 (by decide) (by decide +kernel) dX3_tell_48 ?_
    exact g_iret S hr hlocks dX3_tell_51 rfl rfl (Nat.le_of_ble_eq_true rfl) (Nat.le_of_ble_eq_true rfl)
  · skip
    refine g_iload_n S 1 dX3_tell_0 rfl ?_
    refine g_tabOut S 52 dX3_tell_1 (by decide) (by decide) ?_
    refine g_aload_n S 0 dX3_tell_52 rfl ?_
    refine gg3 S hC hiX3 hk hKk 4 (by decide) (by decide +kernel) dX3_tell_53 ?_
    exact g_iret S hr hlocks dX3_tell_56 rfl rfl (Nat.le_of_ble_eq_true rfl) (Nat.le_of_ble_eq_true rfl)
end
section
/-! pure facts of the walks: counts of a town, loops that keep a thing -/
def tB (σ : gS) (t j : Nat) : Nat := (σ.1 t j).toNatClampNeg
/-- a town's four counts are what they may be -/
def tOK (σ : gS) (t : Nat) : Prop := ∀ j, 5 ≤ j → j ≤ 8 → σ.1 t j = nI (tB σ t j) ∧ tB σ t j ≤ (if j = 8 then 10 else 4)
theorem tOK.eq {σ : gS} {t : Nat} (h : tOK σ t) (j : Nat) (h1 : 5 ≤ j) (h2 : j ≤ 8) : σ.1 t j = nI (tB σ t j) := (h j h1 h2).1
theorem tOK.le5 {σ : gS} {t : Nat} (h : tOK σ t) : tB σ t 5 ≤ 4 := (h 5 (by omega) (by omega)).2
theorem tOK.le6 {σ : gS} {t : Nat} (h : tOK σ t) : tB σ t 6 ≤ 4 := (h 6 (by omega) (by omega)).2
theorem tOK.le7 {σ : gS} {t : Nat} (h : tOK σ t) : tB σ t 7 ≤ 4 := (h 7 (by omega) (by omega)).2
theorem tOK.le8 {σ : gS} {t : Nat} (h : tOK σ t) : tB σ t 8 ≤ 10 := (h 8 (by omega) (by omega)).2
theorem tOK.of {σ σ' : gS} {t : Nat} (h : tOK σ t) (e : ∀ j, 5 ≤ j → j ≤ 8 → σ'.1 t j = σ.1 t j) : tOK σ' t := by
  intro j h1 h2
  unfold tB
  rw [e j h1 h2]
  exact h j h1 h2
theorem itr_keep {α β : Type} (f : Nat → α → α) (g : α → β) (h : ∀ j x, g (f j x) = g x) : ∀ n x, g (itr f n x) = g x
  | 0, _ => rfl
  | n + 1, x => (h n _).trans (itr_keep f g h n x)
theorem itr_inv {α : Type} (f : Nat → α → α) (I : α → Prop) (h : ∀ j x, I x → I (f j x)) : ∀ n x, I x → I (itr f n x)
  | 0, _, hx => hx
  | n + 1, x, hx => h n _ (itr_inv f I h n x hx)
end
section
def sX6_patrolled_r (σ : gS) (t : Nat) (a : Int32) : Int32 := if ((σ.1 t 10) >>> ((a - a / (7 : Int32) * (7 : Int32)) &&& 31)) &&& (1 : Int32) = (1 : Int32) then ((1 : Int32)) else ((0 : Int32))
theorem bX6_patrolled (σ : gS) (t : Nat) (a : Int32) : sX6_patrolled_r σ t a = 0 ∨ sX6_patrolled_r σ t a = 1 := by
  unfold sX6_patrolled_r
  repeat' split
  all_goals first | exact Or.inl rfl | exact Or.inr rfl
set_option maxRecDepth 100000 in
set_option maxHeartbeats 4000000 in
theorem kX6_patrolled (l : Launch) (E : gT) (σ : gS) (t : Nat) (ht : gTw t) (a : Int32) : gMi l yX6_patrolled wsX6_patrolled ({ frames := 0, cells := 0, slots := 0, locals := 0 }) 0 0 E σ [.ref (E.2.2 t), .int a] (sX6_patrolled_r σ t a) σ := by
  refine g_met (mc := 0) (ms := 0) (nL := 2) (ret := (some .boolean)) (by decide) rfl (lv := [(0, .ref (E.2.2 t)), (1, .int a)]) rfl (Nat.le_of_ble_eq_true rfl) ?_
  intro p e s m below meth c S hr hlocks hC
  have hiX6 : ∀ w ∈ wsX60, w ∈ wsX6_patrolled := by decide +kernel
  refine g_aload_n S 0 dX6_patrolled_0 rfl ?_
  refine gg5 S hC hiX6 (ht.lt (j := 0) (by decide)) ht.town 10 (by decide) (by decide +kernel) dX6_patrolled_1 ?_
  refine g_iload_n S 1 dX6_patrolled_4 rfl ?_
  refine g_bipush S dX6_patrolled_5 (v := 7) rfl ?_
  refine g_irem S dX6_patrolled_7 (by decide) ?_
  refine g_ishr S dX6_patrolled_8 ?_
  refine g_const S dX6_patrolled_9 (v := 1) rfl ?_
  refine g_iand S dX6_patrolled_10 ?_
  refine g_const S dX6_patrolled_11 (v := 1) rfl ?_
  refine g_icmp_ne S 19 dX6_patrolled_12 (by decide) (fun c_1 => ?_) (fun c_1 => ?_)
  · skip
    refine g_const S dX6_patrolled_19 (v := 0) rfl ?_
    exact g_zret S hr hlocks dX6_patrolled_20 rfl (by rw [sX6_patrolled_r, if_neg c_1]) rfl (Nat.le_of_ble_eq_true rfl) (Nat.le_of_ble_eq_true rfl)
  · skip
    refine g_const S dX6_patrolled_15 (v := 1) rfl ?_
    refine g_goto S 20 dX6_patrolled_16 (by decide) ?_
    exact g_zret S hr hlocks dX6_patrolled_20 rfl (by rw [sX6_patrolled_r, if_pos c_1]) rfl (Nat.le_of_ble_eq_true rfl) (Nat.le_of_ble_eq_true rfl)
def stX6_travel_2 (t : Nat) (j : Nat) (τ : gS) : gS := let S1201 := sX3_travel_s τ (t + 14 + j) (sX6_patrolled_r τ t (τ.1 t 9)); let S1202 := sX4_add_s S1201 (t + 5) (1 : Int32) (sX3_travel_r τ (t + 14 + j) (sX6_patrolled_r τ t (τ.1 t 9))); S1202
theorem frstX6_travel_2 {t j : Nat} {x : gS} : (stX6_travel_2 t j x).1 t = x.1 t := by
  unfold stX6_travel_2
  (try dsimp only)
  rw [fX4_add _ _ _ _ _ (by omega), fX3_travel _ _ _ _ (by omega)]
def sX6_travel_s (σ : gS) (t : Nat) : gS := (itr (stX6_travel_2 t) (tB σ t 7) σ)
set_option maxRecDepth 100000 in
set_option maxHeartbeats 4000000 in
theorem kX6_travel (l : Launch) (E : gT) (σ : gS) (t : Nat) (ht : gTw t) (hok : tOK σ t) : gMv l yX6_travel wsX6_travel ({ frames := 2, cells := 0, slots := 0, locals := 42 }) 0 0 E σ [.ref (E.2.2 t)] (sX6_travel_s σ t) := by
  refine g_met (mc := 0) (ms := 0) (nL := 2) (ret := none) (by decide) rfl (lv := [(0, .ref (E.2.2 t))]) rfl (Nat.le_of_ble_eq_true rfl) ?_
  intro p e s m below meth c S hr hlocks hC
  have hiX6 : ∀ w ∈ wsX60, w ∈ wsX6_travel := by decide +kernel
  refine g_const S dX6_travel_0 (v := 0) rfl ?_
  refine g_istore_n S [(1, .int (0 : Int32)), (0, .ref (E.2.2 t))] dX6_travel_1 (by decide) rfl ?_
  refine g_lvs [0, 1] (lv' := [(1, .int (0 : Int32)), (0, .ref (E.2.2 t))]) rfl ?_
  have hfr : ∀ i, (itr (stX6_travel_2 t) i σ).1 t = σ.1 t := fun i => itr_keep _ (fun x : gS => x.1 t) (fun j x => frstX6_travel_2) i σ
  have hb_i := hok.le7
  refine g_loop (tB σ t 7) (fun i2 : Nat => (itr (stX6_travel_2 t) i2 σ)) (fun i2 : Nat => [(1, .int (nI i2)), (0, .ref (E.2.2 t))]) [] rfl rfl ?_ ?_
  · intro i2 hi2 ih_i2
    (try dsimp only at ih_i2 ⊢)
    refine g_iload_n S 0 dX6_travel_2 rfl ?_
    refine g_aload_n S 1 dX6_travel_3 rfl ?_
    refine gg5 S hC hiX6 (ht.lt (j := 0) (by decide)) ht.town 7 (by decide) (by decide +kernel) dX6_travel_4 ?_
    refine g_icmp_ge S 41 dX6_travel_7 (by decide) (fun c_1 => absurd c_1 (by rw [congrFun (hfr i2) 7, hok.eq 7 (by decide) (by decide)]; exact nI_ge hi2 (by omega))) (fun c_1 => ?_)
    refine g_aload_n S 1 dX6_travel_10 rfl ?_
    refine gg5r S hC hiX6 (ht.lt (j := 0) (by decide)) ht.town 4 (by decide) (by decide +kernel) dX6_travel_11 ?_
    refine g_const S dX6_travel_14 (v := 1) rfl ?_
    refine g_aload_n S 1 dX6_travel_15 rfl ?_
    refine gg5r S hC hiX6 (ht.lt (j := 0) (by decide)) ht.town 2 (by decide) (by decide +kernel) dX6_travel_16 ?_
    refine g_iload_n S 0 dX6_travel_19 rfl ?_
    refine ga12 S hC (ht.lt (j := 3) (by decide)) ht.r3 i2 rfl (by show i2 < _; first | omega | (unfold gLen; simp; omega)) (t + 14 + i2) (by omega) dX6_travel_20 ?_
    refine g_aload_n S 1 dX6_travel_21 rfl ?_
    refine g_aload_n S 1 dX6_travel_22 rfl ?_
    refine gg5 S hC hiX6 (ht.lt (j := 0) (by decide)) ht.town 9 (by decide) (by decide +kernel) dX6_travel_23 ?_
    refine g_calli (g_runV S hC (As := [.int ((itr (stX6_travel_2 t) i2 σ).1 t 9)]) (rest := [.ref (E.2.2 (t + 14 + i2)), .int (1 : Int32), .ref (E.2.2 (t + 5))]) (k := t) (ht.lt (j := 0) (by decide)) ht.town (by decide) rfl (kX6_patrolled l E (itr (stX6_travel_2 t) i2 σ) t ht ((itr (stX6_travel_2 t) i2 σ).1 t 9)) (cwV 1 S.2.2.2.2 gX6_travel_X6_patrolled rfl rfl rfl (by decide +kernel) ⟨Nat.le_of_ble_eq_true rfl, Nat.le_of_ble_eq_true rfl⟩) rfl rfl (Nat.le_of_ble_eq_true rfl) dX6_travel_26 ⟨Nat.le_of_ble_eq_true rfl, Nat.le_of_ble_eq_true rfl⟩) ?_
    refine g_calli (g_runV S hC (As := [.int (sX6_patrolled_r (itr (stX6_travel_2 t) i2 σ) t ((itr (stX6_travel_2 t) i2 σ).1 t 9))]) (rest := [.int (1 : Int32), .ref (E.2.2 (t + 5))]) (k := t + 14 + i2) (ht.lt2 (a := 14) (by omega)) (ht.smug (by omega)) (by decide) rfl (kX3_travel l E (itr (stX6_travel_2 t) i2 σ) (t + 14 + i2) (ht.lt2 (a := 14) (by omega)) (ht.smug (by omega)) (sX6_patrolled_r (itr (stX6_travel_2 t) i2 σ) t ((itr (stX6_travel_2 t) i2 σ).1 t 9))) (cwV 1 S.2.2.2.2 gX6_travel_X3_travel rfl rfl rfl (by decide +kernel) ⟨Nat.le_of_ble_eq_true rfl, Nat.le_of_ble_eq_true rfl⟩) rfl rfl (Nat.le_of_ble_eq_true rfl) dX6_travel_29 ⟨Nat.le_of_ble_eq_true rfl, Nat.le_of_ble_eq_true rfl⟩) ?_
    refine g_nm (fun S1 hS1 => ?_)
    refine g_callv (g_runV S hC (As := [.int (1 : Int32), .int (sX3_travel_r (itr (stX6_travel_2 t) i2 σ) (t + 14 + i2) (sX6_patrolled_r (itr (stX6_travel_2 t) i2 σ) t ((itr (stX6_travel_2 t) i2 σ).1 t 9)))]) (rest := []) (k := t + 5) (ht.lt (j := 5) (by decide)) ht.store (by decide) rfl (kX4_add l E S1 (t + 5) (ht.lt (j := 5) (by decide)) ht.store (1 : Int32) (sX3_travel_r (itr (stX6_travel_2 t) i2 σ) (t + 14 + i2) (sX6_patrolled_r (itr (stX6_travel_2 t) i2 σ) t ((itr (stX6_travel_2 t) i2 σ).1 t 9)))) (cwV 2 S.2.2.2.2 gX6_travel_X4_add rfl rfl rfl (by decide +kernel) ⟨Nat.le_of_ble_eq_true rfl, Nat.le_of_ble_eq_true rfl⟩) rfl rfl (Nat.le_of_ble_eq_true rfl) dX6_travel_32 ⟨Nat.le_of_ble_eq_true rfl, Nat.le_of_ble_eq_true rfl⟩) ?_
    refine g_nm (fun S2 hS2 => ?_)
    refine g_iinc S [(1, .int (nI (i2 + 1))), (0, .ref (E.2.2 t))] 0 (nI (i2 + 1)) dX6_travel_35 rfl (by exact nI_1 i2) (by decide) rfl ?_
    refine g_goto S 2 dX6_travel_38 (by decide) ?_
    refine g_lvs [0, 1] (lv' := [(1, .int (nI (i2 + 1))), (0, .ref (E.2.2 t))]) rfl ?_
    exact g_to ih_i2 (by subst hS2 hS1; rfl) (by subst hS2 hS1; rfl) rfl
  · skip
    (try dsimp only)
    refine g_iload_n S 0 dX6_travel_2 rfl ?_
    refine g_aload_n S 1 dX6_travel_3 rfl ?_
    refine gg5 S hC hiX6 (ht.lt (j := 0) (by decide)) ht.town 7 (by decide) (by decide +kernel) dX6_travel_4 ?_
    refine g_icmp_ge S 41 dX6_travel_7 (by decide) (fun c_2 => ?_) (fun c_2 => absurd (by rw [congrFun (hfr (tB σ t 7)) 7, hok.eq 7 (by decide) (by decide)]; exact nI_le (Nat.le_refl _) (by omega)) c_2)
    exact g_vret S hr hlocks dX6_travel_41 rfl (Nat.le_of_ble_eq_true rfl) (Nat.le_of_ble_eq_true rfl)
theorem frX6_travel {σ : gS} {t : Nat} : (sX6_travel_s σ t).1 t = σ.1 t := by
  unfold sX6_travel_s
  exact itr_keep _ (fun x : gS => x.1 t) (fun j x => frstX6_travel_2) _ σ
theorem okX6_travel {σ : gS} {t : Nat} (_ : gTw t) (h : tOK σ t) : tOK (sX6_travel_s σ t) t := h.of (fun j _ _ => by rw [frX6_travel])
def stX6_warm_2 (t : Nat) (j : Nat) (τ : gS) : gS := let S1201 := sX2_warm_s τ (t + 10 + j); S1201
theorem frstX6_warm_2 {t j : Nat} {x : gS} : (stX6_warm_2 t j x).1 t = x.1 t := by
  unfold stX6_warm_2
  (try dsimp only)
  rw [fX2_warm _ _ _ (by omega)]
def sX6_warm_s (σ : gS) (t : Nat) : gS := (itr (stX6_warm_2 t) (tB σ t 6) σ)
set_option maxRecDepth 100000 in
set_option maxHeartbeats 4000000 in
theorem kX6_warm (l : Launch) (E : gT) (σ : gS) (t : Nat) (ht : gTw t) (hok : tOK σ t) : gMv l yX6_warm wsX6_warm ({ frames := 3, cells := 0, slots := 0, locals := 65 }) 0 0 E σ [.ref (E.2.2 t)] (sX6_warm_s σ t) := by
  refine g_met (mc := 0) (ms := 0) (nL := 2) (ret := none) (by decide) rfl (lv := [(0, .ref (E.2.2 t))]) rfl (Nat.le_of_ble_eq_true rfl) ?_
  intro p e s m below meth c S hr hlocks hC
  have hiX6 : ∀ w ∈ wsX60, w ∈ wsX6_warm := by decide +kernel
  refine g_const S dX6_warm_0 (v := 0) rfl ?_
  refine g_istore_n S [(1, .int (0 : Int32)), (0, .ref (E.2.2 t))] dX6_warm_1 (by decide) rfl ?_
  refine g_lvs [0, 1] (lv' := [(1, .int (0 : Int32)), (0, .ref (E.2.2 t))]) rfl ?_
  have hfr : ∀ i, (itr (stX6_warm_2 t) i σ).1 t = σ.1 t := fun i => itr_keep _ (fun x : gS => x.1 t) (fun j x => frstX6_warm_2) i σ
  have hb_i := hok.le6
  refine g_loop (tB σ t 6) (fun i2 : Nat => (itr (stX6_warm_2 t) i2 σ)) (fun i2 : Nat => [(1, .int (nI i2)), (0, .ref (E.2.2 t))]) [] rfl rfl ?_ ?_
  · intro i2 hi2 ih_i2
    (try dsimp only at ih_i2 ⊢)
    refine g_iload_n S 0 dX6_warm_2 rfl ?_
    refine g_aload_n S 1 dX6_warm_3 rfl ?_
    refine gg5 S hC hiX6 (ht.lt (j := 0) (by decide)) ht.town 6 (by decide) (by decide +kernel) dX6_warm_4 ?_
    refine g_icmp_ge S 25 dX6_warm_7 (by decide) (fun c_1 => absurd c_1 (by rw [congrFun (hfr i2) 6, hok.eq 6 (by decide) (by decide)]; exact nI_ge hi2 (by omega))) (fun c_1 => ?_)
    refine g_aload_n S 1 dX6_warm_10 rfl ?_
    refine gg5r S hC hiX6 (ht.lt (j := 0) (by decide)) ht.town 1 (by decide) (by decide +kernel) dX6_warm_11 ?_
    refine g_iload_n S 0 dX6_warm_14 rfl ?_
    refine ga11 S hC (ht.lt (j := 2) (by decide)) ht.r2 i2 rfl (by show i2 < _; first | omega | (unfold gLen; simp; omega)) (t + 10 + i2) (by omega) dX6_warm_15 ?_
    refine g_callv (g_runV S hC (As := []) (rest := []) (k := t + 10 + i2) (ht.lt2 (a := 10) (by omega)) (ht.drum (by omega)) (by decide) rfl (kX2_warm l E (itr (stX6_warm_2 t) i2 σ) (t + 10 + i2) (ht.lt2 (a := 10) (by omega)) (ht.drum (by omega))) (cwV 0 S.2.2.2.2 gX6_warm_X2_warm rfl rfl rfl (by decide +kernel) ⟨Nat.le_of_ble_eq_true rfl, Nat.le_of_ble_eq_true rfl⟩) rfl rfl (Nat.le_of_ble_eq_true rfl) dX6_warm_16 ⟨Nat.le_of_ble_eq_true rfl, Nat.le_of_ble_eq_true rfl⟩) ?_
    refine g_nm (fun S1 hS1 => ?_)
    refine g_iinc S [(1, .int (nI (i2 + 1))), (0, .ref (E.2.2 t))] 0 (nI (i2 + 1)) dX6_warm_19 rfl (by exact nI_1 i2) (by decide) rfl ?_
    refine g_goto S 2 dX6_warm_22 (by decide) ?_
    refine g_lvs [0, 1] (lv' := [(1, .int (nI (i2 + 1))), (0, .ref (E.2.2 t))]) rfl ?_
    exact g_to ih_i2 (by subst hS1; rfl) (by subst hS1; rfl) rfl
  · skip
    (try dsimp only)
    refine g_iload_n S 0 dX6_warm_2 rfl ?_
    refine g_aload_n S 1 dX6_warm_3 rfl ?_
    refine gg5 S hC hiX6 (ht.lt (j := 0) (by decide)) ht.town 6 (by decide) (by decide +kernel) dX6_warm_4 ?_
    refine g_icmp_ge S 25 dX6_warm_7 (by decide) (fun c_2 => ?_) (fun c_2 => absurd (by rw [congrFun (hfr (tB σ t 6)) 6, hok.eq 6 (by decide) (by decide)]; exact nI_le (Nat.le_refl _) (by omega)) c_2)
    exact g_vret S hr hlocks dX6_warm_25 rfl (Nat.le_of_ble_eq_true rfl) (Nat.le_of_ble_eq_true rfl)
theorem frX6_warm {σ : gS} {t : Nat} : (sX6_warm_s σ t).1 t = σ.1 t := by
  unfold sX6_warm_s
  exact itr_keep _ (fun x : gS => x.1 t) (fun j x => frstX6_warm_2) _ σ
theorem okX6_warm {σ : gS} {t : Nat} (_ : gTw t) (h : tOK σ t) : tOK (sX6_warm_s σ t) t := h.of (fun j _ _ => by rw [frX6_warm])
def stX6_grow_2 (t : Nat) (j : Nat) (τ : gS) : gS := let S1201 := sX0_grow_s τ (t + 6 + j); S1201
theorem frstX6_grow_2 {t j : Nat} {x : gS} : (stX6_grow_2 t j x).1 t = x.1 t := by
  unfold stX6_grow_2
  (try dsimp only)
  rw [fX0_grow _ _ _ (by omega)]
def sX6_grow_s (σ : gS) (t : Nat) : gS := (itr (stX6_grow_2 t) (tB σ t 5) σ)
set_option maxRecDepth 100000 in
set_option maxHeartbeats 4000000 in
theorem kX6_grow (l : Launch) (E : gT) (σ : gS) (t : Nat) (ht : gTw t) (hok : tOK σ t) : gMv l yX6_grow wsX6_grow ({ frames := 2, cells := 0, slots := 0, locals := 44 }) 0 0 E σ [.ref (E.2.2 t)] (sX6_grow_s σ t) := by
  refine g_met (mc := 0) (ms := 0) (nL := 2) (ret := none) (by decide) rfl (lv := [(0, .ref (E.2.2 t))]) rfl (Nat.le_of_ble_eq_true rfl) ?_
  intro p e s m below meth c S hr hlocks hC
  have hiX6 : ∀ w ∈ wsX60, w ∈ wsX6_grow := by decide +kernel
  refine g_const S dX6_grow_0 (v := 0) rfl ?_
  refine g_istore_n S [(1, .int (0 : Int32)), (0, .ref (E.2.2 t))] dX6_grow_1 (by decide) rfl ?_
  refine g_lvs [0, 1] (lv' := [(1, .int (0 : Int32)), (0, .ref (E.2.2 t))]) rfl ?_
  have hfr : ∀ i, (itr (stX6_grow_2 t) i σ).1 t = σ.1 t := fun i => itr_keep _ (fun x : gS => x.1 t) (fun j x => frstX6_grow_2) i σ
  have hb_i := hok.le5
  refine g_loop (tB σ t 5) (fun i2 : Nat => (itr (stX6_grow_2 t) i2 σ)) (fun i2 : Nat => [(1, .int (nI i2)), (0, .ref (E.2.2 t))]) [] rfl rfl ?_ ?_
  · intro i2 hi2 ih_i2
    (try dsimp only at ih_i2 ⊢)
    refine g_iload_n S 0 dX6_grow_2 rfl ?_
    refine g_aload_n S 1 dX6_grow_3 rfl ?_
    refine gg5 S hC hiX6 (ht.lt (j := 0) (by decide)) ht.town 5 (by decide) (by decide +kernel) dX6_grow_4 ?_
    refine g_icmp_ge S 25 dX6_grow_7 (by decide) (fun c_1 => absurd c_1 (by rw [congrFun (hfr i2) 5, hok.eq 5 (by decide) (by decide)]; exact nI_ge hi2 (by omega))) (fun c_1 => ?_)
    refine g_aload_n S 1 dX6_grow_10 rfl ?_
    refine gg5r S hC hiX6 (ht.lt (j := 0) (by decide)) ht.town 0 (by decide) (by decide +kernel) dX6_grow_11 ?_
    refine g_iload_n S 0 dX6_grow_14 rfl ?_
    refine ga10 S hC (ht.lt (j := 1) (by decide)) ht.r1 i2 rfl (by show i2 < _; first | omega | (unfold gLen; simp; omega)) (t + 6 + i2) (by omega) dX6_grow_15 ?_
    refine g_callv (g_runV S hC (As := []) (rest := []) (k := t + 6 + i2) (ht.lt2 (a := 6) (by omega)) (ht.bed (by omega)) (by decide) rfl (kX0_grow l E (itr (stX6_grow_2 t) i2 σ) (t + 6 + i2) (ht.lt2 (a := 6) (by omega)) (ht.bed (by omega))) (cwV 0 S.2.2.2.2 gX6_grow_X0_grow rfl rfl rfl (by decide +kernel) ⟨Nat.le_of_ble_eq_true rfl, Nat.le_of_ble_eq_true rfl⟩) rfl rfl (Nat.le_of_ble_eq_true rfl) dX6_grow_16 ⟨Nat.le_of_ble_eq_true rfl, Nat.le_of_ble_eq_true rfl⟩) ?_
    refine g_nm (fun S1 hS1 => ?_)
    refine g_iinc S [(1, .int (nI (i2 + 1))), (0, .ref (E.2.2 t))] 0 (nI (i2 + 1)) dX6_grow_19 rfl (by exact nI_1 i2) (by decide) rfl ?_
    refine g_goto S 2 dX6_grow_22 (by decide) ?_
    refine g_lvs [0, 1] (lv' := [(1, .int (nI (i2 + 1))), (0, .ref (E.2.2 t))]) rfl ?_
    exact g_to ih_i2 (by subst hS1; rfl) (by subst hS1; rfl) rfl
  · skip
    (try dsimp only)
    refine g_iload_n S 0 dX6_grow_2 rfl ?_
    refine g_aload_n S 1 dX6_grow_3 rfl ?_
    refine gg5 S hC hiX6 (ht.lt (j := 0) (by decide)) ht.town 5 (by decide) (by decide +kernel) dX6_grow_4 ?_
    refine g_icmp_ge S 25 dX6_grow_7 (by decide) (fun c_2 => ?_) (fun c_2 => absurd (by rw [congrFun (hfr (tB σ t 5)) 5, hok.eq 5 (by decide) (by decide)]; exact nI_le (Nat.le_refl _) (by omega)) c_2)
    exact g_vret S hr hlocks dX6_grow_25 rfl (Nat.le_of_ble_eq_true rfl) (Nat.le_of_ble_eq_true rfl)
theorem frX6_grow {σ : gS} {t : Nat} : (sX6_grow_s σ t).1 t = σ.1 t := by
  unfold sX6_grow_s
  exact itr_keep _ (fun x : gS => x.1 t) (fun j x => frstX6_grow_2) _ σ
theorem okX6_grow {σ : gS} {t : Nat} (_ : gTw t) (h : tOK σ t) : tOK (sX6_grow_s σ t) t := h.of (fun j _ _ => by rw [frX6_grow])
def stX6_serve_4 (t : Nat) (j : Nat) (τ : gS × Int32) : gS × Int32 := if (τ.1.1 t 9) - (τ.1.1 t 9) / (7 : Int32) * (7 : Int32) = 0 then (let S1402 := sX1_renew_s τ.1 (t + 18 + j); let S1403 := sX1_serveDay_s S1402 (t + 18 + j) (t + 5); (S1403, τ.2 + (sX1_serveDay_r S1402 (t + 18 + j) (t + 5)))) else (let S1401 := sX1_serveDay_s τ.1 (t + 18 + j) (t + 5); (S1401, τ.2 + (sX1_serveDay_r τ.1 (t + 18 + j) (t + 5))))
theorem frstX6_serve_4 {t j : Nat} {x : gS × Int32} : (stX6_serve_4 t j x).1.1 t = x.1.1 t := by
  unfold stX6_serve_4
  (try dsimp only)
  split
  · dsimp only
    rw [fX1_serveDay _ _ _ _ (by omega) (by omega), fX1_renew _ _ _ (by omega)]
  · dsimp only
    rw [fX1_serveDay _ _ _ _ (by omega) (by omega)]
def sX6_serve_r (σ : gS) (t : Nat) : Int32 := (itr (stX6_serve_4 t) (tB σ t 8) (σ, (0 : Int32))).2
def sX6_serve_s (σ : gS) (t : Nat) : gS := (itr (stX6_serve_4 t) (tB σ t 8) (σ, (0 : Int32))).1
set_option maxRecDepth 100000 in
set_option maxHeartbeats 4000000 in
theorem kX6_serve (l : Launch) (E : gT) (σ : gS) (t : Nat) (ht : gTw t) (hok : tOK σ t) : gMi l yX6_serve wsX6_serve ({ frames := 4, cells := 0, slots := 0, locals := 88 }) 0 0 E σ [.ref (E.2.2 t)] (sX6_serve_r σ t) (sX6_serve_s σ t) := by
  refine g_met (mc := 0) (ms := 0) (nL := 3) (ret := (some .int)) (by decide) rfl (lv := [(0, .ref (E.2.2 t))]) rfl (Nat.le_of_ble_eq_true rfl) ?_
  intro p e s m below meth c S hr hlocks hC
  have hiX6 : ∀ w ∈ wsX60, w ∈ wsX6_serve := by decide +kernel
  refine g_const S dX6_serve_0 (v := 0) rfl ?_
  refine g_istore_n S [(1, .int (0 : Int32)), (0, .ref (E.2.2 t))] dX6_serve_1 (by decide) rfl ?_
  refine g_const S dX6_serve_2 (v := 0) rfl ?_
  refine g_istore_n S [(2, .int (0 : Int32)), (1, .int (0 : Int32)), (0, .ref (E.2.2 t))] dX6_serve_3 (by decide) rfl ?_
  refine g_lvs [0, 1, 2] (lv' := [(2, .int (0 : Int32)), (1, .int (0 : Int32)), (0, .ref (E.2.2 t))]) rfl ?_
  have hfr : ∀ i, (itr (stX6_serve_4 t) i (σ, (0 : Int32))).1.1 t = σ.1 t := fun i => itr_keep _ (fun x : gS × Int32 => x.1.1 t) (fun j x => frstX6_serve_4) i (σ, (0 : Int32))
  have hb_i := hok.le8
  refine g_loop (tB σ t 8) (fun i4 : Nat => (itr (stX6_serve_4 t) i4 (σ, (0 : Int32))).1) (fun i4 : Nat => [(2, .int (nI i4)), (1, .int ((itr (stX6_serve_4 t) i4 (σ, (0 : Int32))).2)), (0, .ref (E.2.2 t))]) [] rfl rfl ?_ ?_
  · intro i4 hi4 ih_i4
    (try dsimp only at ih_i4 ⊢)
    refine g_iload_n S 0 dX6_serve_4 rfl ?_
    refine g_aload_n S 2 dX6_serve_5 rfl ?_
    refine gg5 S hC hiX6 (ht.lt (j := 0) (by decide)) ht.town 8 (by decide) (by decide +kernel) dX6_serve_6 ?_
    refine g_icmp_ge S 53 dX6_serve_9 (by decide) (fun c_1 => absurd c_1 (by rw [congrFun (hfr i4) 8, hok.eq 8 (by decide) (by decide)]; exact nI_ge hi4 (by omega))) (fun c_1 => ?_)
    refine g_aload_n S 2 dX6_serve_12 rfl ?_
    refine gg5 S hC hiX6 (ht.lt (j := 0) (by decide)) ht.town 9 (by decide) (by decide +kernel) dX6_serve_13 ?_
    refine g_bipush S dX6_serve_16 (v := 7) rfl ?_
    refine g_irem S dX6_serve_18 (by decide) ?_
    refine g_if_ne S 31 dX6_serve_19 (by decide) (fun c_2 => ?_) (fun c_2 => ?_)
    · skip
      refine g_iload_n S 1 dX6_serve_31 rfl ?_
      refine g_aload_n S 2 dX6_serve_32 rfl ?_
      refine gg5r S hC hiX6 (ht.lt (j := 0) (by decide)) ht.town 3 (by decide) (by decide +kernel) dX6_serve_33 ?_
      refine g_iload_n S 0 dX6_serve_36 rfl ?_
      refine ga13 S hC (ht.lt (j := 4) (by decide)) ht.r4 i4 rfl (by show i4 < _; first | omega | (unfold gLen; simp; omega)) (t + 18 + i4) (by omega) dX6_serve_37 ?_
      refine g_aload_n S 2 dX6_serve_38 rfl ?_
      refine gg5r S hC hiX6 (ht.lt (j := 0) (by decide)) ht.town 4 (by decide) (by decide +kernel) dX6_serve_39 ?_
      refine g_calli (g_runV S hC (As := [.ref (E.2.2 (t + 5))]) (rest := [.int ((itr (stX6_serve_4 t) i4 (σ, (0 : Int32))).2)]) (k := t + 18 + i4) (ht.lt2 (a := 18) (by omega)) (ht.card (by omega)) (by decide) rfl (kX1_serveDay l E ((itr (stX6_serve_4 t) i4 (σ, (0 : Int32))).1) (t + 18 + i4) (ht.lt2 (a := 18) (by omega)) (ht.card (by omega)) (t + 5) (ht.lt (j := 5) (by decide)) ht.store) (cwV 1 S.2.2.2.2 gX6_serve_X1_serveDay rfl rfl rfl (by decide +kernel) ⟨Nat.le_of_ble_eq_true rfl, Nat.le_of_ble_eq_true rfl⟩) rfl rfl (Nat.le_of_ble_eq_true rfl) dX6_serve_42 ⟨Nat.le_of_ble_eq_true rfl, Nat.le_of_ble_eq_true rfl⟩) ?_
      refine g_nm (fun S1 hS1 => ?_)
      refine g_iadd S dX6_serve_45 ?_
      refine g_istore_n S [(1, .int (((itr (stX6_serve_4 t) i4 (σ, (0 : Int32))).2) + (sX1_serveDay_r ((itr (stX6_serve_4 t) i4 (σ, (0 : Int32))).1) (t + 18 + i4) (t + 5)))), (2, .int (nI i4)), (0, .ref (E.2.2 t))] dX6_serve_46 (by decide) rfl ?_
      refine g_iinc S [(2, .int (nI (i4 + 1))), (1, .int (((itr (stX6_serve_4 t) i4 (σ, (0 : Int32))).2) + (sX1_serveDay_r ((itr (stX6_serve_4 t) i4 (σ, (0 : Int32))).1) (t + 18 + i4) (t + 5)))), (0, .ref (E.2.2 t))] 1 (nI (i4 + 1)) dX6_serve_47 rfl (by exact nI_1 i4) (by decide) rfl ?_
      refine g_goto S 4 dX6_serve_50 (by decide) ?_
      refine g_lvs [0, 1, 2] (lv' := [(2, .int (nI (i4 + 1))), (1, .int (((itr (stX6_serve_4 t) i4 (σ, (0 : Int32))).2) + (sX1_serveDay_r ((itr (stX6_serve_4 t) i4 (σ, (0 : Int32))).1) (t + 18 + i4) (t + 5)))), (0, .ref (E.2.2 t))]) rfl ?_
      exact g_to ih_i4 (by subst hS1; simp only [itr]; rw [stX6_serve_4]; (try dsimp only); rw [if_neg c_2]) (by subst hS1; simp only [itr]; rw [stX6_serve_4]; (try dsimp only); rw [if_neg c_2]) rfl
    · skip
      refine g_aload_n S 2 dX6_serve_22 rfl ?_
      refine gg5r S hC hiX6 (ht.lt (j := 0) (by decide)) ht.town 3 (by decide) (by decide +kernel) dX6_serve_23 ?_
      refine g_iload_n S 0 dX6_serve_26 rfl ?_
      refine ga13 S hC (ht.lt (j := 4) (by decide)) ht.r4 i4 rfl (by show i4 < _; first | omega | (unfold gLen; simp; omega)) (t + 18 + i4) (by omega) dX6_serve_27 ?_
      refine g_callv (g_runV S hC (As := []) (rest := []) (k := t + 18 + i4) (ht.lt2 (a := 18) (by omega)) (ht.card (by omega)) (by decide) rfl (kX1_renew l E ((itr (stX6_serve_4 t) i4 (σ, (0 : Int32))).1) (t + 18 + i4) (ht.lt2 (a := 18) (by omega)) (ht.card (by omega))) (cwV 0 S.2.2.2.2 gX6_serve_X1_renew rfl rfl rfl (by decide +kernel) ⟨Nat.le_of_ble_eq_true rfl, Nat.le_of_ble_eq_true rfl⟩) rfl rfl (Nat.le_of_ble_eq_true rfl) dX6_serve_28 ⟨Nat.le_of_ble_eq_true rfl, Nat.le_of_ble_eq_true rfl⟩) ?_
      refine g_nm (fun S2 hS2 => ?_)
      refine g_iload_n S 1 dX6_serve_31 rfl ?_
      refine g_aload_n S 2 dX6_serve_32 rfl ?_
      refine gg5r S hC hiX6 (ht.lt (j := 0) (by decide)) ht.town 3 (by decide) (by decide +kernel) dX6_serve_33 ?_
      refine g_iload_n S 0 dX6_serve_36 rfl ?_
      refine ga13 S hC (ht.lt (j := 4) (by decide)) ht.r4 i4 rfl (by show i4 < _; first | omega | (unfold gLen; simp; omega)) (t + 18 + i4) (by omega) dX6_serve_37 ?_
      refine g_aload_n S 2 dX6_serve_38 rfl ?_
      refine gg5r S hC hiX6 (ht.lt (j := 0) (by decide)) ht.town 4 (by decide) (by decide +kernel) dX6_serve_39 ?_
      refine g_calli (g_runV S hC (As := [.ref (E.2.2 (t + 5))]) (rest := [.int ((itr (stX6_serve_4 t) i4 (σ, (0 : Int32))).2)]) (k := t + 18 + i4) (ht.lt2 (a := 18) (by omega)) (ht.card (by omega)) (by decide) rfl (kX1_serveDay l E S2 (t + 18 + i4) (ht.lt2 (a := 18) (by omega)) (ht.card (by omega)) (t + 5) (ht.lt (j := 5) (by decide)) ht.store) (cwV 1 S.2.2.2.2 gX6_serve_X1_serveDay rfl rfl rfl (by decide +kernel) ⟨Nat.le_of_ble_eq_true rfl, Nat.le_of_ble_eq_true rfl⟩) rfl rfl (Nat.le_of_ble_eq_true rfl) dX6_serve_42 ⟨Nat.le_of_ble_eq_true rfl, Nat.le_of_ble_eq_true rfl⟩) ?_
      refine g_nm (fun S3 hS3 => ?_)
      refine g_iadd S dX6_serve_45 ?_
      refine g_istore_n S [(1, .int (((itr (stX6_serve_4 t) i4 (σ, (0 : Int32))).2) + (sX1_serveDay_r S2 (t + 18 + i4) (t + 5)))), (2, .int (nI i4)), (0, .ref (E.2.2 t))] dX6_serve_46 (by decide) rfl ?_
      refine g_iinc S [(2, .int (nI (i4 + 1))), (1, .int (((itr (stX6_serve_4 t) i4 (σ, (0 : Int32))).2) + (sX1_serveDay_r S2 (t + 18 + i4) (t + 5)))), (0, .ref (E.2.2 t))] 1 (nI (i4 + 1)) dX6_serve_47 rfl (by exact nI_1 i4) (by decide) rfl ?_
      refine g_goto S 4 dX6_serve_50 (by decide) ?_
      refine g_lvs [0, 1, 2] (lv' := [(2, .int (nI (i4 + 1))), (1, .int (((itr (stX6_serve_4 t) i4 (σ, (0 : Int32))).2) + (sX1_serveDay_r S2 (t + 18 + i4) (t + 5)))), (0, .ref (E.2.2 t))]) rfl ?_
      exact g_to ih_i4 (by subst hS3 hS2; simp only [itr]; rw [stX6_serve_4]; (try dsimp only); rw [if_pos c_2]) (by subst hS3 hS2; simp only [itr]; rw [stX6_serve_4]; (try dsimp only); rw [if_pos c_2]) rfl
  · skip
    (try dsimp only)
    refine g_iload_n S 0 dX6_serve_4 rfl ?_
    refine g_aload_n S 2 dX6_serve_5 rfl ?_
    refine gg5 S hC hiX6 (ht.lt (j := 0) (by decide)) ht.town 8 (by decide) (by decide +kernel) dX6_serve_6 ?_
    refine g_icmp_ge S 53 dX6_serve_9 (by decide) (fun c_3 => ?_) (fun c_3 => absurd (by rw [congrFun (hfr (tB σ t 8)) 8, hok.eq 8 (by decide) (by decide)]; exact nI_le (Nat.le_refl _) (by omega)) c_3)
    refine g_iload_n S 1 dX6_serve_53 rfl ?_
    exact g_iret S hr hlocks dX6_serve_54 rfl rfl (Nat.le_of_ble_eq_true rfl) (Nat.le_of_ble_eq_true rfl)
theorem frX6_serve {σ : gS} {t : Nat} : (sX6_serve_s σ t).1 t = σ.1 t := by
  unfold sX6_serve_s
  exact itr_keep _ (fun x : gS × Int32 => x.1.1 t) (fun j x => frstX6_serve_4) _ (σ, (0 : Int32))
theorem okX6_serve {σ : gS} {t : Nat} (_ : gTw t) (h : tOK σ t) : tOK (sX6_serve_s σ t) t := h.of (fun j _ _ => by rw [frX6_serve])
def stX6_live_4 (t : Nat) (d : Nat) (j : Nat) (τ : gS × Int32) : gS × Int32 := let S1401 := sX6_travel_s τ.1 t; let S1402 := sX6_warm_s S1401 t; let S1403 := sX6_grow_s S1402 t; let S1404 := sX6_serve_s S1403 t; let S1405 := gu S1404 t 9 ((S1404.1 t 9) + (1 : Int32)); (S1405, τ.2 + (sX6_serve_r S1403 t))
theorem okstX6_live_4 {t d j : Nat} (ht : gTw t) {x : gS × Int32} (h : tOK x.1 t) : tOK (stX6_live_4 t d j x).1 t := by
  unfold stX6_live_4
  dsimp only
  refine (okX6_serve ht (okX6_grow ht (okX6_warm ht (okX6_travel ht h)))).of (fun j h1 h2 => ?_)
  rw [gu_at, if_neg (by omega)]
def sX6_live_r (σ : gS) (t : Nat) (d : Nat) : Int32 := (itr (stX6_live_4 t d) d (σ, (0 : Int32))).2
def sX6_live_s (σ : gS) (t : Nat) (d : Nat) : gS := (itr (stX6_live_4 t d) d (σ, (0 : Int32))).1
set_option maxRecDepth 100000 in
set_option maxHeartbeats 4000000 in
theorem kX6_live (l : Launch) (E : gT) (σ : gS) (t : Nat) (ht : gTw t) (d : Nat) (hd : d < 61) (hok : tOK σ t) : gMi l yX6_live wsX6_live ({ frames := 5, cells := 0, slots := 0, locals := 110 }) 0 0 E σ [.ref (E.2.2 t), .int (nI d)] (sX6_live_r σ t d) (sX6_live_s σ t d) := by
  refine g_met (mc := 0) (ms := 0) (nL := 4) (ret := (some .int)) (by decide) rfl (lv := [(0, .ref (E.2.2 t)), (1, .int (nI d))]) rfl (Nat.le_of_ble_eq_true rfl) ?_
  intro p e s m below meth c S hr hlocks hC
  have hiX6 : ∀ w ∈ wsX60, w ∈ wsX6_live := by decide +kernel
  refine g_const S dX6_live_0 (v := 0) rfl ?_
  refine g_istore_n S [(2, .int (0 : Int32)), (0, .ref (E.2.2 t)), (1, .int (nI d))] dX6_live_1 (by decide) rfl ?_
  refine g_const S dX6_live_2 (v := 0) rfl ?_
  refine g_istore_n S [(3, .int (0 : Int32)), (2, .int (0 : Int32)), (0, .ref (E.2.2 t)), (1, .int (nI d))] dX6_live_3 (by decide) rfl ?_
  refine g_lvs [0, 1, 2, 3] (lv' := [(3, .int (0 : Int32)), (2, .int (0 : Int32)), (0, .ref (E.2.2 t)), (1, .int (nI d))]) rfl ?_
  have hokF : ∀ i, tOK (itr (stX6_live_4 t d) i (σ, (0 : Int32))).1 t := fun i => itr_inv _ (fun x : gS × Int32 => tOK x.1 t) (fun j x h => okstX6_live_4 ht h) i (σ, (0 : Int32)) hok
  refine g_loop d (fun i4 : Nat => (itr (stX6_live_4 t d) i4 (σ, (0 : Int32))).1) (fun i4 : Nat => [(3, .int (nI i4)), (2, .int ((itr (stX6_live_4 t d) i4 (σ, (0 : Int32))).2)), (0, .ref (E.2.2 t)), (1, .int (nI d))]) [] rfl rfl ?_ ?_
  · intro i4 hi4 ih_i4
    (try dsimp only at ih_i4 ⊢)
    refine g_iload_n S 0 dX6_live_4 rfl ?_
    refine g_iload_n S 3 dX6_live_5 rfl ?_
    refine g_icmp_ge S 44 dX6_live_6 (by decide) (fun c_1 => absurd c_1 (nI_ge hi4 (by omega))) (fun c_1 => ?_)
    refine g_aload_n S 2 dX6_live_9 rfl ?_
    refine g_callv (g_runV S hC (As := []) (rest := []) (k := t) (ht.lt (j := 0) (by decide)) ht.town (by decide) rfl (kX6_travel l E ((itr (stX6_live_4 t d) i4 (σ, (0 : Int32))).1) t ht (hokF i4)) (cwV 0 S.2.2.2.2 gX6_live_X6_travel rfl rfl rfl (by decide +kernel) ⟨Nat.le_of_ble_eq_true rfl, Nat.le_of_ble_eq_true rfl⟩) rfl rfl (Nat.le_of_ble_eq_true rfl) dX6_live_10 ⟨Nat.le_of_ble_eq_true rfl, Nat.le_of_ble_eq_true rfl⟩) ?_
    refine g_nm (fun S1 hS1 => ?_)
    refine g_aload_n S 2 dX6_live_13 rfl ?_
    refine g_callv (g_runV S hC (As := []) (rest := []) (k := t) (ht.lt (j := 0) (by decide)) ht.town (by decide) rfl (kX6_warm l E S1 t ht (by rw [hS1]; exact okX6_travel ht (hokF i4))) (cwV 0 S.2.2.2.2 gX6_live_X6_warm rfl rfl rfl (by decide +kernel) ⟨Nat.le_of_ble_eq_true rfl, Nat.le_of_ble_eq_true rfl⟩) rfl rfl (Nat.le_of_ble_eq_true rfl) dX6_live_14 ⟨Nat.le_of_ble_eq_true rfl, Nat.le_of_ble_eq_true rfl⟩) ?_
    refine g_nm (fun S2 hS2 => ?_)
    refine g_aload_n S 2 dX6_live_17 rfl ?_
    refine g_callv (g_runV S hC (As := []) (rest := []) (k := t) (ht.lt (j := 0) (by decide)) ht.town (by decide) rfl (kX6_grow l E S2 t ht (by rw [hS2]; exact okX6_warm ht (by rw [hS1]; exact okX6_travel ht (hokF i4)))) (cwV 0 S.2.2.2.2 gX6_live_X6_grow rfl rfl rfl (by decide +kernel) ⟨Nat.le_of_ble_eq_true rfl, Nat.le_of_ble_eq_true rfl⟩) rfl rfl (Nat.le_of_ble_eq_true rfl) dX6_live_18 ⟨Nat.le_of_ble_eq_true rfl, Nat.le_of_ble_eq_true rfl⟩) ?_
    refine g_nm (fun S3 hS3 => ?_)
    refine g_iload_n S 1 dX6_live_21 rfl ?_
    refine g_aload_n S 2 dX6_live_22 rfl ?_
    refine g_calli (g_runV S hC (As := []) (rest := [.int ((itr (stX6_live_4 t d) i4 (σ, (0 : Int32))).2)]) (k := t) (ht.lt (j := 0) (by decide)) ht.town (by decide) rfl (kX6_serve l E S3 t ht (by rw [hS3]; exact okX6_grow ht (by rw [hS2]; exact okX6_warm ht (by rw [hS1]; exact okX6_travel ht (hokF i4))))) (cwV 0 S.2.2.2.2 gX6_live_X6_serve rfl rfl rfl (by decide +kernel) ⟨Nat.le_of_ble_eq_true rfl, Nat.le_of_ble_eq_true rfl⟩) rfl rfl (Nat.le_of_ble_eq_true rfl) dX6_live_23 ⟨Nat.le_of_ble_eq_true rfl, Nat.le_of_ble_eq_true rfl⟩) ?_
    refine g_nm (fun S4 hS4 => ?_)
    refine g_iadd S dX6_live_26 ?_
    refine g_istore_n S [(2, .int (((itr (stX6_live_4 t d) i4 (σ, (0 : Int32))).2) + (sX6_serve_r S3 t))), (3, .int (nI i4)), (0, .ref (E.2.2 t)), (1, .int (nI d))] dX6_live_27 (by decide) rfl ?_
    refine g_aload_n S 2 dX6_live_28 rfl ?_
    refine g_dup S dX6_live_29 rfl ?_
    refine gg5 S hC hiX6 (ht.lt (j := 0) (by decide)) ht.town 9 (by decide) (by decide +kernel) dX6_live_30 ?_
    refine g_const S dX6_live_33 (v := 1) rfl ?_
    refine g_iadd S dX6_live_34 ?_
    refine gp5 S hC hiX6 (ht.lt (j := 0) (by decide)) ht.town 9 (by decide) (by decide +kernel) dX6_live_35 ?_
    refine g_nm (fun S5 hS5 => ?_)
    refine g_iinc S [(3, .int (nI (i4 + 1))), (2, .int (((itr (stX6_live_4 t d) i4 (σ, (0 : Int32))).2) + (sX6_serve_r S3 t))), (0, .ref (E.2.2 t)), (1, .int (nI d))] 1 (nI (i4 + 1)) dX6_live_38 rfl (by exact nI_1 i4) (by decide) rfl ?_
    refine g_goto S 4 dX6_live_41 (by decide) ?_
    refine g_lvs [0, 1, 2, 3] (lv' := [(3, .int (nI (i4 + 1))), (2, .int (((itr (stX6_live_4 t d) i4 (σ, (0 : Int32))).2) + (sX6_serve_r S3 t))), (0, .ref (E.2.2 t)), (1, .int (nI d))]) rfl ?_
    exact g_to ih_i4 (by subst hS5 hS4 hS3 hS2 hS1; rfl) (by subst hS5 hS4 hS3 hS2 hS1; rfl) rfl
  · skip
    (try dsimp only)
    refine g_iload_n S 0 dX6_live_4 rfl ?_
    refine g_iload_n S 3 dX6_live_5 rfl ?_
    refine g_icmp_ge S 44 dX6_live_6 (by decide) (fun c_2 => ?_) (fun c_2 => absurd (nI_le (Nat.le_refl _) (by omega)) c_2)
    refine g_iload_n S 1 dX6_live_44 rfl ?_
    exact g_iret S hr hlocks dX6_live_45 rfl rfl (Nat.le_of_ble_eq_true rfl) (Nat.le_of_ble_eq_true rfl)
theorem okX6_live {σ : gS} {t d : Nat} (ht : gTw t) (h : tOK σ t) : tOK (sX6_live_s σ t d) t := by
  unfold sX6_live_s
  exact itr_inv _ (fun x : gS × Int32 => tOK x.1 t) (fun j x h => okstX6_live_4 ht h) _ (σ, (0 : Int32)) h
def sX6_size_r (σ : gS) (t : Nat) : Int32 := (9 : Int32)
set_option maxRecDepth 100000 in
set_option maxHeartbeats 4000000 in
theorem kX6_size (l : Launch) (E : gT) (σ : gS) (t : Nat) (ht : gTw t) : gMi l yX6_size wsX6_size ({ frames := 0, cells := 0, slots := 0, locals := 0 }) 0 0 E σ [.ref (E.2.2 t)] (sX6_size_r σ t) σ := by
  refine g_met (mc := 0) (ms := 0) (nL := 1) (ret := (some .int)) (by decide) rfl (lv := [(0, .ref (E.2.2 t))]) rfl (Nat.le_of_ble_eq_true rfl) ?_
  intro p e s m below meth c S hr hlocks hC
  refine g_bipush S dX6_size_0 (v := 9) rfl ?_
  exact g_iret S hr hlocks dX6_size_2 rfl rfl (Nat.le_of_ble_eq_true rfl) (Nat.le_of_ble_eq_true rfl)
def sX6_tell_r (σ : gS) (t w : Nat) : Int32 := if w = 0 then σ.1 t 9 else if w = 1 then σ.1 (t + 5) 0 else if w = 2 then σ.1 (t + 5) 1 else if w = 3 then σ.1 (t + 5) 2 else if w = 4 then σ.1 (t + 5) 3 else if w = 5 then σ.1 (t + 5) 5 else if w = 6 then σ.1 (t + 5) 6 else if w = 7 then σ.1 (t + 5) 4 else σ.1 t 10
set_option maxRecDepth 100000 in
set_option maxHeartbeats 4000000 in
theorem kX6_tell (l : Launch) (E : gT) (σ : gS) (t : Nat) (ht : gTw t) (w : Nat) (hw : w < 9) : gMi l yX6_tell wsX6_tell ({ frames := 0, cells := 0, slots := 0, locals := 0 }) 0 0 E σ [.ref (E.2.2 t), .int (nI w)] (sX6_tell_r σ t w) σ := by
  refine g_met (mc := 0) (ms := 0) (nL := 2) (ret := (some .int)) (by decide) rfl (lv := [(0, .ref (E.2.2 t)), (1, .int (nI w))]) rfl (Nat.le_of_ble_eq_true rfl) ?_
  intro p e s m below meth c S hr hlocks hC
  have hiX4 : ∀ w ∈ wsX40, w ∈ wsX6_tell := by decide +kernel
  have hiX6 : ∀ w ∈ wsX60, w ∈ wsX6_tell := by decide +kernel
  rcases (show w = 0 ∨ w = 1 ∨ w = 2 ∨ w = 3 ∨ w = 4 ∨ w = 5 ∨ w = 6 ∨ w = 7 ∨ w = 8 by omega) with rfl | rfl | rfl | rfl | rfl | rfl | rfl | rfl | rfl
  · skip
    refine g_iload_n S 1 dX6_tell_0 rfl ?_
    refine g_tabIn S 48 dX6_tell_1 (by decide) (by decide) rfl (by decide) ?_
    refine g_aload_n S 0 dX6_tell_48 rfl ?_
    refine gg5 S hC hiX6 (ht.lt (j := 0) (by decide)) ht.town 9 (by decide) (by decide +kernel) dX6_tell_49 ?_
    exact g_iret S hr hlocks dX6_tell_52 rfl rfl (Nat.le_of_ble_eq_true rfl) (Nat.le_of_ble_eq_true rfl)
  · skip
    refine g_iload_n S 1 dX6_tell_0 rfl ?_
    refine g_tabIn S 53 dX6_tell_1 (by decide) (by decide) rfl (by decide) ?_
    refine g_aload_n S 0 dX6_tell_53 rfl ?_
    refine gg5r S hC hiX6 (ht.lt (j := 0) (by decide)) ht.town 4 (by decide) (by decide +kernel) dX6_tell_54 ?_
    refine gg4 S hC hiX4 (ht.lt (j := 5) (by decide)) ht.store 0 (by decide) (by decide +kernel) dX6_tell_57 ?_
    exact g_iret S hr hlocks dX6_tell_60 rfl rfl (Nat.le_of_ble_eq_true rfl) (Nat.le_of_ble_eq_true rfl)
  · skip
    refine g_iload_n S 1 dX6_tell_0 rfl ?_
    refine g_tabIn S 61 dX6_tell_1 (by decide) (by decide) rfl (by decide) ?_
    refine g_aload_n S 0 dX6_tell_61 rfl ?_
    refine gg5r S hC hiX6 (ht.lt (j := 0) (by decide)) ht.town 4 (by decide) (by decide +kernel) dX6_tell_62 ?_
    refine gg4 S hC hiX4 (ht.lt (j := 5) (by decide)) ht.store 1 (by decide) (by decide +kernel) dX6_tell_65 ?_
    exact g_iret S hr hlocks dX6_tell_68 rfl rfl (Nat.le_of_ble_eq_true rfl) (Nat.le_of_ble_eq_true rfl)
  · skip
    refine g_iload_n S 1 dX6_tell_0 rfl ?_
    refine g_tabIn S 69 dX6_tell_1 (by decide) (by decide) rfl (by decide) ?_
    refine g_aload_n S 0 dX6_tell_69 rfl ?_
    refine gg5r S hC hiX6 (ht.lt (j := 0) (by decide)) ht.town 4 (by decide) (by decide +kernel) dX6_tell_70 ?_
    refine gg4 S hC hiX4 (ht.lt (j := 5) (by decide)) ht.store 2 (by decide) (by decide +kernel) dX6_tell_73 ?_
    exact g_iret S hr hlocks dX6_tell_76 rfl rfl (Nat.le_of_ble_eq_true rfl) (Nat.le_of_ble_eq_true rfl)
  · skip
    refine g_iload_n S 1 dX6_tell_0 rfl ?_
    refine g_tabIn S 77 dX6_tell_1 (by decide) (by decide) rfl (by decide) ?_
    refine g_aload_n S 0 dX6_tell_77 rfl ?_
    refine gg5r S hC hiX6 (ht.lt (j := 0) (by decide)) ht.town 4 (by decide) (by decide +kernel) dX6_tell_78 ?_
    refine gg4 S hC hiX4 (ht.lt (j := 5) (by decide)) ht.store 3 (by decide) (by decide +kernel) dX6_tell_81 ?_
    exact g_iret S hr hlocks dX6_tell_84 rfl rfl (Nat.le_of_ble_eq_true rfl) (Nat.le_of_ble_eq_true rfl)
  · skip
    refine g_iload_n S 1 dX6_tell_0 rfl ?_
    refine g_tabIn S 85 dX6_tell_1 (by decide) (by decide) rfl (by decide) ?_
    refine g_aload_n S 0 dX6_tell_85 rfl ?_
    refine gg5r S hC hiX6 (ht.lt (j := 0) (by decide)) ht.town 4 (by decide) (by decide +kernel) dX6_tell_86 ?_
    refine gg4 S hC hiX4 (ht.lt (j := 5) (by decide)) ht.store 5 (by decide) (by decide +kernel) dX6_tell_89 ?_
    exact g_iret S hr hlocks dX6_tell_92 rfl rfl (Nat.le_of_ble_eq_true rfl) (Nat.le_of_ble_eq_true rfl)
  · skip
    refine g_iload_n S 1 dX6_tell_0 rfl ?_
    refine g_tabIn S 93 dX6_tell_1 (by decide) (by decide) rfl (by decide) ?_
    refine g_aload_n S 0 dX6_tell_93 rfl ?_
    refine gg5r S hC hiX6 (ht.lt (j := 0) (by decide)) ht.town 4 (by decide) (by decide +kernel) dX6_tell_94 ?_
    refine gg4 S hC hiX4 (ht.lt (j := 5) (by decide)) ht.store 6 (by decide) (by decide +kernel) dX6_tell_97 ?_
    exact g_iret S hr hlocks dX6_tell_100 rfl rfl (Nat.le_of_ble_eq_true rfl) (Nat.le_of_ble_eq_true rfl)
  · skip
    refine g_iload_n S 1 dX6_tell_0 rfl ?_
    refine g_tabIn S 101 dX6_tell_1 (by decide) (by decide) rfl (by decide) ?_
    refine g_aload_n S 0 dX6_tell_101 rfl ?_
    refine gg5r S hC hiX6 (ht.lt (j := 0) (by decide)) ht.town 4 (by decide) (by decide +kernel) dX6_tell_102 ?_
    refine gg4 S hC hiX4 (ht.lt (j := 5) (by decide)) ht.store 4 (by decide) (by decide +kernel) dX6_tell_105 ?_
    exact g_iret S hr hlocks dX6_tell_108 rfl rfl (Nat.le_of_ble_eq_true rfl) (Nat.le_of_ble_eq_true rfl)
  · skip
    refine g_iload_n S 1 dX6_tell_0 rfl ?_
    refine g_tabOut S 109 dX6_tell_1 (by decide) (by decide) ?_
    refine g_aload_n S 0 dX6_tell_109 rfl ?_
    refine gg5 S hC hiX6 (ht.lt (j := 0) (by decide)) ht.town 10 (by decide) (by decide +kernel) dX6_tell_110 ?_
    exact g_iret S hr hlocks dX6_tell_113 rfl rfl (Nat.le_of_ble_eq_true rfl) (Nat.le_of_ble_eq_true rfl)
end
section
/-! what a town's days, and the copy into the trial, leave alone -/
theorem itr_keepB {α β : Type} (f : Nat → α → α) (g : α → β) : ∀ n (_ : ∀ j x, j < n → g (f j x) = g x) x, g (itr f n x) = g x
  | 0, _, _ => rfl
  | n + 1, h, x => (h n _ (Nat.lt_succ_self n)).trans (itr_keepB f g n (fun j x hj => h j x (Nat.lt_succ_of_lt hj)) x)
theorem foX6_travel {σ : gS} {t x : Nat} (h : tOK σ t) (hx : x < t ∨ t + 28 ≤ x) : (sX6_travel_s σ t).1 x = σ.1 x := by
  unfold sX6_travel_s
  refine itr_keepB _ (fun y : gS => y.1 x) _ (fun j y hj => ?_) σ
  have := h.le7
  unfold stX6_travel_2
  dsimp only
  rw [fX4_add _ _ _ _ _ (by omega), fX3_travel _ _ _ _ (by omega)]
theorem foX6_warm {σ : gS} {t x : Nat} (h : tOK σ t) (hx : x < t ∨ t + 28 ≤ x) : (sX6_warm_s σ t).1 x = σ.1 x := by
  unfold sX6_warm_s
  refine itr_keepB _ (fun y : gS => y.1 x) _ (fun j y hj => ?_) σ
  have := h.le6
  unfold stX6_warm_2
  dsimp only
  rw [fX2_warm _ _ _ (by omega)]
theorem foX6_grow {σ : gS} {t x : Nat} (h : tOK σ t) (hx : x < t ∨ t + 28 ≤ x) : (sX6_grow_s σ t).1 x = σ.1 x := by
  unfold sX6_grow_s
  refine itr_keepB _ (fun y : gS => y.1 x) _ (fun j y hj => ?_) σ
  have := h.le5
  unfold stX6_grow_2
  dsimp only
  rw [fX0_grow _ _ _ (by omega)]
theorem foX6_serve {σ : gS} {t x : Nat} (h : tOK σ t) (hx : x < t ∨ t + 28 ≤ x) : (sX6_serve_s σ t).1 x = σ.1 x := by
  unfold sX6_serve_s
  refine itr_keepB _ (fun y : gS × Int32 => y.1.1 x) _ (fun j y hj => ?_) (σ, (0 : Int32))
  have := h.le8
  unfold stX6_serve_4
  dsimp only
  split
  · dsimp only
    rw [fX1_serveDay _ _ _ _ (by omega) (by omega), fX1_renew _ _ _ (by omega)]
  · dsimp only
    rw [fX1_serveDay _ _ _ _ (by omega) (by omega)]
theorem foX6_live {σ : gS} {t x d : Nat} (ht : gTw t) (h : tOK σ t) (hx : x < t ∨ t + 28 ≤ x) : (sX6_live_s σ t d).1 x = σ.1 x := by
  unfold sX6_live_s
  refine (itr_inv _ (fun y : gS × Int32 => tOK y.1 t ∧ y.1.1 x = σ.1 x) (fun j y hy => ⟨okstX6_live_4 ht hy.1, ?_⟩) d (σ, (0 : Int32)) ⟨h, rfl⟩).2
  obtain ⟨h1, h2⟩ := hy
  unfold stX6_live_4
  dsimp only
  have o1 := okX6_travel ht h1
  have o2 := okX6_warm ht o1
  have o3 := okX6_grow ht o2
  rw [gu_ne (by omega), foX6_serve o3 hx, foX6_grow o2 hx, foX6_warm o1 hx, foX6_travel h1 hx]
  exact h2
end
section
def sX7_checkIndex_t (σ : gS) (a : Int32) (b : Int32) : Nat := if a < 0 then (3) else (if a < b then (0) else (3))
set_option maxRecDepth 100000 in
set_option maxHeartbeats 4000000 in
theorem kX7_checkIndex (l : Launch) (hfl : l.stackTraces = false) (E : gT) (σ : gS) (a : Int32) (b : Int32) : gYv l yX7_checkIndex wsX7_checkIndex ({ frames := 6, cells := 1, slots := 6, locals := 90 }) 1 6 E σ [.int a, .int b] (sX7_checkIndex_t σ a b) σ := by
  refine g_vmet (mc := 1) (ms := 6) (nL := 2) (ret := none) (by decide) rfl (lv := [(0, .int a), (1, .int b)]) rfl (Nat.le_of_ble_eq_true rfl) ?_
  intro p e s m below meth c S hr hlocks hout hC
  refine g_iload_n S 0 dX7_checkIndex_0 rfl ?_
  refine g_if_lt S 9 dX7_checkIndex_1 (by decide) (fun c_1 => ?_) (fun c_1 => ?_)
  · skip
    exact g_throw S hC hfl hlocks hout (cls := "java/lang/IndexOutOfBoundsException") (names := ["java/lang/RuntimeException", "java/lang/Exception"]) 3 (by decide) rfl (by decide +kernel) (by decide +kernel) (by decide +kernel) (by decide +kernel) hC.2.2.2.2.1.1 (by decide +kernel) (by decide +kernel) (by decide +kernel) dX7_checkIndex_9 dX7_checkIndex_12 dX7_checkIndex_13 dX7_checkIndex_15 dX7_checkIndex_18 (Nat.le_of_ble_eq_true rfl) (Nat.le_of_ble_eq_true rfl) (Nat.le_of_ble_eq_true rfl) (Nat.le_of_ble_eq_true rfl) (Nat.le_of_ble_eq_true rfl) (Nat.le_of_ble_eq_true rfl) (by rw [sX7_checkIndex_t, if_pos c_1]) rfl
  · skip
    refine g_iload_n S 0 dX7_checkIndex_4 rfl ?_
    refine g_iload_n S 1 dX7_checkIndex_5 rfl ?_
    refine g_icmp_lt S 19 dX7_checkIndex_6 (by decide) (fun c_2 => ?_) (fun c_2 => ?_)
    · skip
      exact g_xvret S hr hlocks dX7_checkIndex_19 (by rw [sX7_checkIndex_t, if_neg c_1, if_pos c_2]) rfl (Nat.le_of_ble_eq_true rfl) (Nat.le_of_ble_eq_true rfl)
    · skip
      exact g_throw S hC hfl hlocks hout (cls := "java/lang/IndexOutOfBoundsException") (names := ["java/lang/RuntimeException", "java/lang/Exception"]) 3 (by decide) rfl (by decide +kernel) (by decide +kernel) (by decide +kernel) (by decide +kernel) hC.2.2.2.2.1.1 (by decide +kernel) (by decide +kernel) (by decide +kernel) dX7_checkIndex_9 dX7_checkIndex_12 dX7_checkIndex_13 dX7_checkIndex_15 dX7_checkIndex_18 (Nat.le_of_ble_eq_true rfl) (Nat.le_of_ble_eq_true rfl) (Nat.le_of_ble_eq_true rfl) (Nat.le_of_ble_eq_true rfl) (Nat.le_of_ble_eq_true rfl) (Nat.le_of_ble_eq_true rfl) (by rw [sX7_checkIndex_t, if_neg c_1, if_neg c_2]) rfl
def sX7_checkNumber_t (σ : gS) (a : Int32) (b : Int32) (n : Int32) : Nat := if a < b then (1) else (if a ≤ n then (0) else (1))
set_option maxRecDepth 100000 in
set_option maxHeartbeats 4000000 in
theorem kX7_checkNumber (l : Launch) (hfl : l.stackTraces = false) (E : gT) (σ : gS) (a : Int32) (b : Int32) (n : Int32) : gYv l yX7_checkNumber wsX7_checkNumber ({ frames := 6, cells := 1, slots := 6, locals := 90 }) 1 6 E σ [.int a, .int b, .int n] (sX7_checkNumber_t σ a b n) σ := by
  refine g_vmet (mc := 1) (ms := 6) (nL := 3) (ret := none) (by decide) rfl (lv := [(0, .int a), (1, .int b), (2, .int n)]) rfl (Nat.le_of_ble_eq_true rfl) ?_
  intro p e s m below meth c S hr hlocks hout hC
  refine g_iload_n S 0 dX7_checkNumber_0 rfl ?_
  refine g_iload_n S 1 dX7_checkNumber_1 rfl ?_
  refine g_icmp_lt S 10 dX7_checkNumber_2 (by decide) (fun c_1 => ?_) (fun c_1 => ?_)
  · skip
    exact g_throw S hC hfl hlocks hout (cls := "java/lang/IllegalArgumentException") (names := ["java/lang/RuntimeException", "java/lang/Exception"]) 1 (by decide) rfl (by decide +kernel) (by decide +kernel) (by decide +kernel) (by decide +kernel) hC.2.2.2.2.1.2.1 (by decide +kernel) (by decide +kernel) (by decide +kernel) dX7_checkNumber_10 dX7_checkNumber_13 dX7_checkNumber_14 dX7_checkNumber_16 dX7_checkNumber_19 (Nat.le_of_ble_eq_true rfl) (Nat.le_of_ble_eq_true rfl) (Nat.le_of_ble_eq_true rfl) (Nat.le_of_ble_eq_true rfl) (Nat.le_of_ble_eq_true rfl) (Nat.le_of_ble_eq_true rfl) (by rw [sX7_checkNumber_t, if_pos c_1]) rfl
  · skip
    refine g_iload_n S 0 dX7_checkNumber_5 rfl ?_
    refine g_iload_n S 2 dX7_checkNumber_6 rfl ?_
    refine g_icmp_le S 20 dX7_checkNumber_7 (by decide) (fun c_2 => ?_) (fun c_2 => ?_)
    · skip
      exact g_xvret S hr hlocks dX7_checkNumber_20 (by rw [sX7_checkNumber_t, if_neg c_1, if_pos c_2]) rfl (Nat.le_of_ble_eq_true rfl) (Nat.le_of_ble_eq_true rfl)
    · skip
      exact g_throw S hC hfl hlocks hout (cls := "java/lang/IllegalArgumentException") (names := ["java/lang/RuntimeException", "java/lang/Exception"]) 1 (by decide) rfl (by decide +kernel) (by decide +kernel) (by decide +kernel) (by decide +kernel) hC.2.2.2.2.1.2.1 (by decide +kernel) (by decide +kernel) (by decide +kernel) dX7_checkNumber_10 dX7_checkNumber_13 dX7_checkNumber_14 dX7_checkNumber_16 dX7_checkNumber_19 (Nat.le_of_ble_eq_true rfl) (Nat.le_of_ble_eq_true rfl) (Nat.le_of_ble_eq_true rfl) (Nat.le_of_ble_eq_true rfl) (Nat.le_of_ble_eq_true rfl) (Nat.le_of_ble_eq_true rfl) (by rw [sX7_checkNumber_t, if_neg c_1, if_neg c_2]) rfl
theorem ck_nm {σ : gS} {x : Int32} {lo hi : Nat} (hh : hi < 2 ^ 31) (hl : lo ≤ hi) (h : sX7_checkNumber_t σ x (nI lo) (nI hi) = 0) : (lo ≤ x.toNatClampNeg ∧ x.toNatClampNeg ≤ hi) ∧ x = nI x.toNatClampNeg := by
  unfold sX7_checkNumber_t at h
  by_cases h1 : x < nI lo
  · rw [if_pos h1] at h; exact absurd h (by decide)
  · rw [if_neg h1] at h
    by_cases h2 : x ≤ nI hi
    · have e1 := Int32.not_lt.mp h1
      rw [Int32.le_iff_toInt_le, nI_toInt (by omega)] at e1 h2
      have e3 : x.toNatClampNeg = x.toInt.toNat := rfl
      have e4 : x = nI x.toInt.toNat := by
        apply Int32.toInt_inj.mp
        rw [nI_toInt (by omega)]
        omega
      rw [e3]
      exact ⟨by omega, e4⟩
    · rw [if_neg h2] at h; exact absurd h (by decide)
theorem ck_ix {σ : gS} {x N : Int32} (n : Nat) (hN : N = nI n) (hn : n < 2 ^ 31) (h : sX7_checkIndex_t σ x N = 0) : x.toNatClampNeg < n ∧ x = nI x.toNatClampNeg := by
  unfold sX7_checkIndex_t at h
  subst hN
  by_cases h1 : x < 0
  · rw [if_pos h1] at h; exact absurd h (by decide)
  · rw [if_neg h1] at h
    by_cases h2 : x < nI n
    · have e1 := Int32.not_lt.mp h1
      rw [Int32.le_iff_toInt_le, Int32.toInt_zero] at e1
      rw [Int32.lt_iff_toInt_lt, nI_toInt (by omega)] at h2
      have e3 : x.toNatClampNeg = x.toInt.toNat := rfl
      have e4 : x = nI x.toInt.toNat := by
        apply Int32.toInt_inj.mp
        rw [nI_toInt (by omega)]
        omega
      rw [e3]
      exact ⟨by omega, e4⟩
    · rw [if_neg h2] at h; exact absurd h (by decide)
theorem cnt_lt {x : Int32} {k : Nat} (n : Nat) (hn : n < 2 ^ 31) (h : x = nI k) (hk : k ≤ 10) (h2 : ¬ nI n ≤ x) : k < n := by
  rcases Nat.lt_or_ge k n with q | q
  · exact q
  · exact absurd (by rw [h]; exact nI_le q (by omega)) h2
def sX7_checkState_t (σ : gS) (a : Int32) : Nat := if a = 0 then (2) else (0)
set_option maxRecDepth 100000 in
set_option maxHeartbeats 4000000 in
theorem kX7_checkState (l : Launch) (hfl : l.stackTraces = false) (E : gT) (σ : gS) (a : Int32) : gYv l yX7_checkState wsX7_checkState ({ frames := 6, cells := 1, slots := 6, locals := 90 }) 1 6 E σ [.int a] (sX7_checkState_t σ a) σ := by
  refine g_vmet (mc := 1) (ms := 6) (nL := 1) (ret := none) (by decide) rfl (lv := [(0, .int a)]) rfl (Nat.le_of_ble_eq_true rfl) ?_
  intro p e s m below meth c S hr hlocks hout hC
  refine g_iload_n S 0 dX7_checkState_0 rfl ?_
  refine g_if_ne S 14 dX7_checkState_1 (by decide) (fun c_1 => ?_) (fun c_1 => ?_)
  · skip
    exact g_xvret S hr hlocks dX7_checkState_14 (by rw [sX7_checkState_t, if_neg c_1]) rfl (Nat.le_of_ble_eq_true rfl) (Nat.le_of_ble_eq_true rfl)
  · skip
    exact g_throw S hC hfl hlocks hout (cls := "java/lang/IllegalStateException") (names := ["java/lang/RuntimeException", "java/lang/Exception"]) 2 (by decide) rfl (by decide +kernel) (by decide +kernel) (by decide +kernel) (by decide +kernel) hC.2.2.2.2.1.2.2 (by decide +kernel) (by decide +kernel) (by decide +kernel) dX7_checkState_4 dX7_checkState_7 dX7_checkState_8 dX7_checkState_10 dX7_checkState_13 (Nat.le_of_ble_eq_true rfl) (Nat.le_of_ble_eq_true rfl) (Nat.le_of_ble_eq_true rfl) (Nat.le_of_ble_eq_true rfl) (Nat.le_of_ble_eq_true rfl) (Nat.le_of_ble_eq_true rfl) (by rw [sX7_checkState_t, if_pos c_1]) rfl
def sX7_ask_k0_r (σ : gS) (k : Nat) (a : Int32) : Int32 := if sX7_checkIndex_t σ a (sX0_size_r σ k) = 0 then (sX0_tell_r σ k a.toNatClampNeg) else (0)
def sX7_ask_k0_t (σ : gS) (k : Nat) (a : Int32) : Nat := if sX7_checkIndex_t σ a (sX0_size_r σ k) = 0 then (0) else (sX7_checkIndex_t σ a (sX0_size_r σ k))
set_option maxRecDepth 100000 in
set_option maxHeartbeats 4000000 in
theorem kX7_ask_k0 (l : Launch) (hfl : l.stackTraces = false) (E : gT) (σ : gS) (k : Nat) (hk : k < 58) (hKk : gK k = 0) (a : Int32) : gYi l yX7_ask wsX7_ask ({ frames := 7, cells := 1, slots := 6, locals := 111 }) 1 6 E σ [.ref (E.2.2 k), .int a] (sX7_ask_k0_t σ k a) (sX7_ask_k0_r σ k a) σ := by
  refine g_vmet (mc := 1) (ms := 6) (nL := 2) (ret := (some .int)) (by decide) rfl (lv := [(0, .ref (E.2.2 k)), (1, .int a)]) rfl (Nat.le_of_ble_eq_true rfl) ?_
  intro p e s m below meth c S hr hlocks hout hC
  refine g_iload_n S 1 dX7_ask_0 rfl ?_
  refine g_aload_n S 0 dX7_ask_1 rfl ?_
  refine g_calli (g_runU S hC (As := []) (rest := [.int a]) (k := k) hk hKk (by decide) rfl (kX0_size l E σ k hk hKk) (va_cwA 0 S.2.2.2.2 gX7_ask_X0_size_u192X0 rfl rfl rfl hC.2.2.1.1.1 (by decide +kernel) ⟨Nat.le_of_ble_eq_true rfl, Nat.le_of_ble_eq_true rfl⟩) rfl rfl (Nat.le_of_ble_eq_true rfl) dX7_ask_2 ⟨Nat.le_of_ble_eq_true rfl, Nat.le_of_ble_eq_true rfl⟩) ?_
  refine g_callxv (g_xunS S hC (As := [.int a, .int (sX0_size_r σ k)]) (rest := []) (kX7_checkIndex l hfl E σ a (sX0_size_r σ k)) (va_cwS 2 S.2.2.2.2 gX7_ask_X7_checkIndex rfl rfl rfl (by decide +kernel) ⟨Nat.le_of_ble_eq_true rfl, Nat.le_of_ble_eq_true rfl⟩) rfl rfl (Nat.le_of_ble_eq_true rfl) dX7_ask_5 ⟨Nat.le_of_ble_eq_true rfl, Nat.le_of_ble_eq_true rfl⟩) (fun c_1 => g_out hlocks hout c_1 (by rw [sX7_ask_k0_t, if_neg c_1]) rfl (Nat.le_of_ble_eq_true rfl) (Nat.le_of_ble_eq_true rfl)) (fun c_1 => ?_)
  obtain ⟨hbb, hbe⟩ := ck_ix 3 rfl (by decide) c_1
  refine g_aload_n S 0 dX7_ask_8 rfl ?_
  refine g_iload_n S 1 dX7_ask_9 rfl ?_
  refine g_top (y := nI a.toNatClampNeg) hbe ?_
  refine g_calli (g_runU S hC (As := [.int (nI a.toNatClampNeg)]) (rest := []) (k := k) hk hKk (by decide) rfl (kX0_tell l E σ k hk hKk a.toNatClampNeg (by first | decide | omega)) (va_cwA 1 S.2.2.2.2 gX7_ask_X0_tell_u197X0 rfl rfl rfl hC.2.2.1.1.2.1 (by decide +kernel) ⟨Nat.le_of_ble_eq_true rfl, Nat.le_of_ble_eq_true rfl⟩) rfl rfl (Nat.le_of_ble_eq_true rfl) dX7_ask_10 ⟨Nat.le_of_ble_eq_true rfl, Nat.le_of_ble_eq_true rfl⟩) ?_
  exact g_xiret S hr hlocks dX7_ask_13 (by rw [sX7_ask_k0_t, if_pos c_1]) (by rw [sX7_ask_k0_r, if_pos c_1]) rfl (Nat.le_of_ble_eq_true rfl) (Nat.le_of_ble_eq_true rfl)
def sX7_ask_k1_r (σ : gS) (k : Nat) (a : Int32) : Int32 := if sX7_checkIndex_t σ a (sX1_size_r σ k) = 0 then (sX1_tell_r σ k a.toNatClampNeg) else (0)
def sX7_ask_k1_t (σ : gS) (k : Nat) (a : Int32) : Nat := if sX7_checkIndex_t σ a (sX1_size_r σ k) = 0 then (0) else (sX7_checkIndex_t σ a (sX1_size_r σ k))
set_option maxRecDepth 100000 in
set_option maxHeartbeats 4000000 in
theorem kX7_ask_k1 (l : Launch) (hfl : l.stackTraces = false) (E : gT) (σ : gS) (k : Nat) (hk : k < 58) (hKk : gK k = 1) (a : Int32) : gYi l yX7_ask wsX7_ask ({ frames := 7, cells := 1, slots := 6, locals := 111 }) 1 6 E σ [.ref (E.2.2 k), .int a] (sX7_ask_k1_t σ k a) (sX7_ask_k1_r σ k a) σ := by
  refine g_vmet (mc := 1) (ms := 6) (nL := 2) (ret := (some .int)) (by decide) rfl (lv := [(0, .ref (E.2.2 k)), (1, .int a)]) rfl (Nat.le_of_ble_eq_true rfl) ?_
  intro p e s m below meth c S hr hlocks hout hC
  refine g_iload_n S 1 dX7_ask_0 rfl ?_
  refine g_aload_n S 0 dX7_ask_1 rfl ?_
  refine g_calli (g_runU S hC (As := []) (rest := [.int a]) (k := k) hk hKk (by decide) rfl (kX1_size l E σ k hk hKk) (va_cwA 0 S.2.2.2.2 gX7_ask_X1_size_u192X1 rfl rfl rfl hC.2.2.1.1.1 (by decide +kernel) ⟨Nat.le_of_ble_eq_true rfl, Nat.le_of_ble_eq_true rfl⟩) rfl rfl (Nat.le_of_ble_eq_true rfl) dX7_ask_2 ⟨Nat.le_of_ble_eq_true rfl, Nat.le_of_ble_eq_true rfl⟩) ?_
  refine g_callxv (g_xunS S hC (As := [.int a, .int (sX1_size_r σ k)]) (rest := []) (kX7_checkIndex l hfl E σ a (sX1_size_r σ k)) (va_cwS 2 S.2.2.2.2 gX7_ask_X7_checkIndex rfl rfl rfl (by decide +kernel) ⟨Nat.le_of_ble_eq_true rfl, Nat.le_of_ble_eq_true rfl⟩) rfl rfl (Nat.le_of_ble_eq_true rfl) dX7_ask_5 ⟨Nat.le_of_ble_eq_true rfl, Nat.le_of_ble_eq_true rfl⟩) (fun c_1 => g_out hlocks hout c_1 (by rw [sX7_ask_k1_t, if_neg c_1]) rfl (Nat.le_of_ble_eq_true rfl) (Nat.le_of_ble_eq_true rfl)) (fun c_1 => ?_)
  obtain ⟨hbb, hbe⟩ := ck_ix 5 rfl (by decide) c_1
  refine g_aload_n S 0 dX7_ask_8 rfl ?_
  refine g_iload_n S 1 dX7_ask_9 rfl ?_
  refine g_top (y := nI a.toNatClampNeg) hbe ?_
  refine g_calli (g_runU S hC (As := [.int (nI a.toNatClampNeg)]) (rest := []) (k := k) hk hKk (by decide) rfl (kX1_tell l E σ k hk hKk a.toNatClampNeg (by first | decide | omega)) (va_cwA 1 S.2.2.2.2 gX7_ask_X1_tell_u197X1 rfl rfl rfl hC.2.2.1.1.2.1 (by decide +kernel) ⟨Nat.le_of_ble_eq_true rfl, Nat.le_of_ble_eq_true rfl⟩) rfl rfl (Nat.le_of_ble_eq_true rfl) dX7_ask_10 ⟨Nat.le_of_ble_eq_true rfl, Nat.le_of_ble_eq_true rfl⟩) ?_
  exact g_xiret S hr hlocks dX7_ask_13 (by rw [sX7_ask_k1_t, if_pos c_1]) (by rw [sX7_ask_k1_r, if_pos c_1]) rfl (Nat.le_of_ble_eq_true rfl) (Nat.le_of_ble_eq_true rfl)
def sX7_ask_k2_r (σ : gS) (k : Nat) (a : Int32) : Int32 := if sX7_checkIndex_t σ a (sX2_size_r σ k) = 0 then (sX2_tell_r σ k a.toNatClampNeg) else (0)
def sX7_ask_k2_t (σ : gS) (k : Nat) (a : Int32) : Nat := if sX7_checkIndex_t σ a (sX2_size_r σ k) = 0 then (0) else (sX7_checkIndex_t σ a (sX2_size_r σ k))
set_option maxRecDepth 100000 in
set_option maxHeartbeats 4000000 in
theorem kX7_ask_k2 (l : Launch) (hfl : l.stackTraces = false) (E : gT) (σ : gS) (k : Nat) (hk : k < 58) (hKk : gK k = 2) (a : Int32) : gYi l yX7_ask wsX7_ask ({ frames := 7, cells := 1, slots := 6, locals := 111 }) 1 6 E σ [.ref (E.2.2 k), .int a] (sX7_ask_k2_t σ k a) (sX7_ask_k2_r σ k a) σ := by
  refine g_vmet (mc := 1) (ms := 6) (nL := 2) (ret := (some .int)) (by decide) rfl (lv := [(0, .ref (E.2.2 k)), (1, .int a)]) rfl (Nat.le_of_ble_eq_true rfl) ?_
  intro p e s m below meth c S hr hlocks hout hC
  refine g_iload_n S 1 dX7_ask_0 rfl ?_
  refine g_aload_n S 0 dX7_ask_1 rfl ?_
  refine g_calli (g_runU S hC (As := []) (rest := [.int a]) (k := k) hk hKk (by decide) rfl (kX2_size l E σ k hk hKk) (va_cwA 0 S.2.2.2.2 gX7_ask_X2_size_u192X2 rfl rfl rfl hC.2.2.1.1.1 (by decide +kernel) ⟨Nat.le_of_ble_eq_true rfl, Nat.le_of_ble_eq_true rfl⟩) rfl rfl (Nat.le_of_ble_eq_true rfl) dX7_ask_2 ⟨Nat.le_of_ble_eq_true rfl, Nat.le_of_ble_eq_true rfl⟩) ?_
  refine g_callxv (g_xunS S hC (As := [.int a, .int (sX2_size_r σ k)]) (rest := []) (kX7_checkIndex l hfl E σ a (sX2_size_r σ k)) (va_cwS 2 S.2.2.2.2 gX7_ask_X7_checkIndex rfl rfl rfl (by decide +kernel) ⟨Nat.le_of_ble_eq_true rfl, Nat.le_of_ble_eq_true rfl⟩) rfl rfl (Nat.le_of_ble_eq_true rfl) dX7_ask_5 ⟨Nat.le_of_ble_eq_true rfl, Nat.le_of_ble_eq_true rfl⟩) (fun c_1 => g_out hlocks hout c_1 (by rw [sX7_ask_k2_t, if_neg c_1]) rfl (Nat.le_of_ble_eq_true rfl) (Nat.le_of_ble_eq_true rfl)) (fun c_1 => ?_)
  obtain ⟨hbb, hbe⟩ := ck_ix 6 rfl (by decide) c_1
  refine g_aload_n S 0 dX7_ask_8 rfl ?_
  refine g_iload_n S 1 dX7_ask_9 rfl ?_
  refine g_top (y := nI a.toNatClampNeg) hbe ?_
  refine g_calli (g_runU S hC (As := [.int (nI a.toNatClampNeg)]) (rest := []) (k := k) hk hKk (by decide) rfl (kX2_tell l E σ k hk hKk a.toNatClampNeg (by first | decide | omega)) (va_cwA 1 S.2.2.2.2 gX7_ask_X2_tell_u197X2 rfl rfl rfl hC.2.2.1.1.2.1 (by decide +kernel) ⟨Nat.le_of_ble_eq_true rfl, Nat.le_of_ble_eq_true rfl⟩) rfl rfl (Nat.le_of_ble_eq_true rfl) dX7_ask_10 ⟨Nat.le_of_ble_eq_true rfl, Nat.le_of_ble_eq_true rfl⟩) ?_
  exact g_xiret S hr hlocks dX7_ask_13 (by rw [sX7_ask_k2_t, if_pos c_1]) (by rw [sX7_ask_k2_r, if_pos c_1]) rfl (Nat.le_of_ble_eq_true rfl) (Nat.le_of_ble_eq_true rfl)
def sX7_ask_k3_r (σ : gS) (k : Nat) (a : Int32) : Int32 := if sX7_checkIndex_t σ a (sX3_size_r σ k) = 0 then (sX3_tell_r σ k a.toNatClampNeg) else (0)
def sX7_ask_k3_t (σ : gS) (k : Nat) (a : Int32) : Nat := if sX7_checkIndex_t σ a (sX3_size_r σ k) = 0 then (0) else (sX7_checkIndex_t σ a (sX3_size_r σ k))
set_option maxRecDepth 100000 in
set_option maxHeartbeats 4000000 in
theorem kX7_ask_k3 (l : Launch) (hfl : l.stackTraces = false) (E : gT) (σ : gS) (k : Nat) (hk : k < 58) (hKk : gK k = 3) (a : Int32) : gYi l yX7_ask wsX7_ask ({ frames := 7, cells := 1, slots := 6, locals := 111 }) 1 6 E σ [.ref (E.2.2 k), .int a] (sX7_ask_k3_t σ k a) (sX7_ask_k3_r σ k a) σ := by
  refine g_vmet (mc := 1) (ms := 6) (nL := 2) (ret := (some .int)) (by decide) rfl (lv := [(0, .ref (E.2.2 k)), (1, .int a)]) rfl (Nat.le_of_ble_eq_true rfl) ?_
  intro p e s m below meth c S hr hlocks hout hC
  refine g_iload_n S 1 dX7_ask_0 rfl ?_
  refine g_aload_n S 0 dX7_ask_1 rfl ?_
  refine g_calli (g_runU S hC (As := []) (rest := [.int a]) (k := k) hk hKk (by decide) rfl (kX3_size l E σ k hk hKk) (va_cwA 0 S.2.2.2.2 gX7_ask_X3_size_u192X3 rfl rfl rfl hC.2.2.1.1.1 (by decide +kernel) ⟨Nat.le_of_ble_eq_true rfl, Nat.le_of_ble_eq_true rfl⟩) rfl rfl (Nat.le_of_ble_eq_true rfl) dX7_ask_2 ⟨Nat.le_of_ble_eq_true rfl, Nat.le_of_ble_eq_true rfl⟩) ?_
  refine g_callxv (g_xunS S hC (As := [.int a, .int (sX3_size_r σ k)]) (rest := []) (kX7_checkIndex l hfl E σ a (sX3_size_r σ k)) (va_cwS 2 S.2.2.2.2 gX7_ask_X7_checkIndex rfl rfl rfl (by decide +kernel) ⟨Nat.le_of_ble_eq_true rfl, Nat.le_of_ble_eq_true rfl⟩) rfl rfl (Nat.le_of_ble_eq_true rfl) dX7_ask_5 ⟨Nat.le_of_ble_eq_true rfl, Nat.le_of_ble_eq_true rfl⟩) (fun c_1 => g_out hlocks hout c_1 (by rw [sX7_ask_k3_t, if_neg c_1]) rfl (Nat.le_of_ble_eq_true rfl) (Nat.le_of_ble_eq_true rfl)) (fun c_1 => ?_)
  obtain ⟨hbb, hbe⟩ := ck_ix 5 rfl (by decide) c_1
  refine g_aload_n S 0 dX7_ask_8 rfl ?_
  refine g_iload_n S 1 dX7_ask_9 rfl ?_
  refine g_top (y := nI a.toNatClampNeg) hbe ?_
  refine g_calli (g_runU S hC (As := [.int (nI a.toNatClampNeg)]) (rest := []) (k := k) hk hKk (by decide) rfl (kX3_tell l E σ k hk hKk a.toNatClampNeg (by first | decide | omega)) (va_cwA 1 S.2.2.2.2 gX7_ask_X3_tell_u197X3 rfl rfl rfl hC.2.2.1.1.2.1 (by decide +kernel) ⟨Nat.le_of_ble_eq_true rfl, Nat.le_of_ble_eq_true rfl⟩) rfl rfl (Nat.le_of_ble_eq_true rfl) dX7_ask_10 ⟨Nat.le_of_ble_eq_true rfl, Nat.le_of_ble_eq_true rfl⟩) ?_
  exact g_xiret S hr hlocks dX7_ask_13 (by rw [sX7_ask_k3_t, if_pos c_1]) (by rw [sX7_ask_k3_r, if_pos c_1]) rfl (Nat.le_of_ble_eq_true rfl) (Nat.le_of_ble_eq_true rfl)
def sX7_ask_k5_r (σ : gS) (t : Nat) (a : Int32) : Int32 := if sX7_checkIndex_t σ a (sX6_size_r σ t) = 0 then (sX6_tell_r σ t a.toNatClampNeg) else (0)
def sX7_ask_k5_t (σ : gS) (t : Nat) (a : Int32) : Nat := if sX7_checkIndex_t σ a (sX6_size_r σ t) = 0 then (0) else (sX7_checkIndex_t σ a (sX6_size_r σ t))
set_option maxRecDepth 100000 in
set_option maxHeartbeats 4000000 in
theorem kX7_ask_k5 (l : Launch) (hfl : l.stackTraces = false) (E : gT) (σ : gS) (t : Nat) (ht : gTw t) (a : Int32) : gYi l yX7_ask wsX7_ask ({ frames := 7, cells := 1, slots := 6, locals := 111 }) 1 6 E σ [.ref (E.2.2 t), .int a] (sX7_ask_k5_t σ t a) (sX7_ask_k5_r σ t a) σ := by
  refine g_vmet (mc := 1) (ms := 6) (nL := 2) (ret := (some .int)) (by decide) rfl (lv := [(0, .ref (E.2.2 t)), (1, .int a)]) rfl (Nat.le_of_ble_eq_true rfl) ?_
  intro p e s m below meth c S hr hlocks hout hC
  refine g_iload_n S 1 dX7_ask_0 rfl ?_
  refine g_aload_n S 0 dX7_ask_1 rfl ?_
  refine g_calli (g_runU S hC (As := []) (rest := [.int a]) (k := t) (ht.lt (j := 0) (by decide)) ht.town (by decide) rfl (kX6_size l E σ t ht) (va_cwA 0 S.2.2.2.2 gX7_ask_X6_size_u192X6 rfl rfl rfl hC.2.2.1.1.1 (by decide +kernel) ⟨Nat.le_of_ble_eq_true rfl, Nat.le_of_ble_eq_true rfl⟩) rfl rfl (Nat.le_of_ble_eq_true rfl) dX7_ask_2 ⟨Nat.le_of_ble_eq_true rfl, Nat.le_of_ble_eq_true rfl⟩) ?_
  refine g_callxv (g_xunS S hC (As := [.int a, .int (sX6_size_r σ t)]) (rest := []) (kX7_checkIndex l hfl E σ a (sX6_size_r σ t)) (va_cwS 2 S.2.2.2.2 gX7_ask_X7_checkIndex rfl rfl rfl (by decide +kernel) ⟨Nat.le_of_ble_eq_true rfl, Nat.le_of_ble_eq_true rfl⟩) rfl rfl (Nat.le_of_ble_eq_true rfl) dX7_ask_5 ⟨Nat.le_of_ble_eq_true rfl, Nat.le_of_ble_eq_true rfl⟩) (fun c_1 => g_out hlocks hout c_1 (by rw [sX7_ask_k5_t, if_neg c_1]) rfl (Nat.le_of_ble_eq_true rfl) (Nat.le_of_ble_eq_true rfl)) (fun c_1 => ?_)
  obtain ⟨hbb, hbe⟩ := ck_ix 9 rfl (by decide) c_1
  refine g_aload_n S 0 dX7_ask_8 rfl ?_
  refine g_iload_n S 1 dX7_ask_9 rfl ?_
  refine g_top (y := nI a.toNatClampNeg) hbe ?_
  refine g_calli (g_runU S hC (As := [.int (nI a.toNatClampNeg)]) (rest := []) (k := t) (ht.lt (j := 0) (by decide)) ht.town (by decide) rfl (kX6_tell l E σ t ht a.toNatClampNeg (by first | decide | omega)) (va_cwA 1 S.2.2.2.2 gX7_ask_X6_tell_u197X6 rfl rfl rfl hC.2.2.1.1.2.1 (by decide +kernel) ⟨Nat.le_of_ble_eq_true rfl, Nat.le_of_ble_eq_true rfl⟩) rfl rfl (Nat.le_of_ble_eq_true rfl) dX7_ask_10 ⟨Nat.le_of_ble_eq_true rfl, Nat.le_of_ble_eq_true rfl⟩) ?_
  exact g_xiret S hr hlocks dX7_ask_13 (by rw [sX7_ask_k5_t, if_pos c_1]) (by rw [sX7_ask_k5_r, if_pos c_1]) rfl (Nat.le_of_ble_eq_true rfl) (Nat.le_of_ble_eq_true rfl)
def sX7_bed_r (σ : gS) (a : Int32) (b : Int32) : Int32 := if sX7_checkNumber_t σ a (0 : Int32) (9 : Int32) = 0 then (if sX7_checkNumber_t σ b (1 : Int32) (99 : Int32) = 0 then (if (4 : Int32) ≤ σ.1 1 5 then (0) else (let S1 := sX0_lay_s σ (1 + 6 + (tB σ 1 5)) a b; S1.1 1 5)) else (0)) else (0)
def sX7_bed_s (σ : gS) (a : Int32) (b : Int32) : gS := if sX7_checkNumber_t σ a (0 : Int32) (9 : Int32) = 0 then (if sX7_checkNumber_t σ b (1 : Int32) (99 : Int32) = 0 then (if (4 : Int32) ≤ σ.1 1 5 then (σ) else (let S1 := sX0_lay_s σ (1 + 6 + (tB σ 1 5)) a b; let S2 := gu S1 1 5 ((S1.1 1 5) + (1 : Int32)); S2)) else (σ)) else (σ)
def sX7_bed_t (σ : gS) (a : Int32) (b : Int32) : Nat := if sX7_checkNumber_t σ a (0 : Int32) (9 : Int32) = 0 then (if sX7_checkNumber_t σ b (1 : Int32) (99 : Int32) = 0 then (if (4 : Int32) ≤ σ.1 1 5 then (2) else (0)) else (sX7_checkNumber_t σ b (1 : Int32) (99 : Int32))) else (sX7_checkNumber_t σ a (0 : Int32) (9 : Int32))
set_option maxRecDepth 100000 in
set_option maxHeartbeats 4000000 in
theorem kX7_bed (l : Launch) (hfl : l.stackTraces = false) (E : gT) (σ : gS) (a : Int32) (b : Int32) (hok : tOK σ 1) : gYi l yX7_bed wsX7_bed ({ frames := 7, cells := 3, slots := 18, locals := 112 }) 3 18 E σ [.ref (E.2.2 0), .int a, .int b] (sX7_bed_t σ a b) (sX7_bed_r σ a b) (sX7_bed_s σ a b) := by
  refine g_vmet (mc := 3) (ms := 18) (nL := 3) (ret := (some .int)) (by decide) rfl (lv := [(0, .ref (E.2.2 0)), (1, .int a), (2, .int b)]) rfl (Nat.le_of_ble_eq_true rfl) ?_
  intro p e s m below meth c S hr hlocks hout hC
  have hiX6 : ∀ w ∈ wsX60, w ∈ wsX7_bed := by decide +kernel
  have hiX7 : ∀ w ∈ wsX70, w ∈ wsX7_bed := by decide +kernel
  refine g_iload_n S 1 dX7_bed_0 rfl ?_
  refine g_const S dX7_bed_1 (v := 0) rfl ?_
  refine g_bipush S dX7_bed_2 (v := 9) rfl ?_
  refine g_callxv (g_xunS S hC (As := [.int a, .int (0 : Int32), .int (9 : Int32)]) (rest := []) (kX7_checkNumber l hfl E σ a (0 : Int32) (9 : Int32)) (va_cwS 3 S.2.2.2.2 gX7_bed_X7_checkNumber rfl rfl rfl (by decide +kernel) ⟨Nat.le_of_ble_eq_true rfl, Nat.le_of_ble_eq_true rfl⟩) rfl rfl (Nat.le_of_ble_eq_true rfl) dX7_bed_4 ⟨Nat.le_of_ble_eq_true rfl, Nat.le_of_ble_eq_true rfl⟩) (fun c_1 => g_out hlocks hout c_1 (by rw [sX7_bed_t, if_neg c_1]) (by rw [sX7_bed_s, if_neg c_1]) (Nat.le_of_ble_eq_true rfl) (Nat.le_of_ble_eq_true rfl)) (fun c_1 => ?_)
  refine g_iload_n S 2 dX7_bed_7 rfl ?_
  refine g_const S dX7_bed_8 (v := 1) rfl ?_
  refine g_bipush S dX7_bed_9 (v := 99) rfl ?_
  refine g_callxv (g_xunS S hC (As := [.int b, .int (1 : Int32), .int (99 : Int32)]) (rest := []) (kX7_checkNumber l hfl E σ b (1 : Int32) (99 : Int32)) (va_cwS 3 S.2.2.2.2 gX7_bed_X7_checkNumber rfl rfl rfl (by decide +kernel) ⟨Nat.le_of_ble_eq_true rfl, Nat.le_of_ble_eq_true rfl⟩) rfl rfl (Nat.le_of_ble_eq_true rfl) dX7_bed_11 ⟨Nat.le_of_ble_eq_true rfl, Nat.le_of_ble_eq_true rfl⟩) (fun c_2 => g_out hlocks hout c_2 (by rw [sX7_bed_t, if_pos c_1, if_neg c_2]) (by rw [sX7_bed_s, if_pos c_1, if_neg c_2]) (Nat.le_of_ble_eq_true rfl) (Nat.le_of_ble_eq_true rfl)) (fun c_2 => ?_)
  refine g_aload_n S 0 dX7_bed_14 rfl ?_
  refine gg6 S hC hiX7 (by decide +kernel) dX7_bed_15 ?_
  refine gg5 S hC hiX6 (by decide) rfl 5 (by decide) (by decide +kernel) dX7_bed_18 ?_
  refine g_const S dX7_bed_21 (v := 4) rfl ?_
  refine g_icmp_ge S 29 dX7_bed_22 (by decide) (fun c_3 => ?_) (fun c_3 => ?_)
  · skip
    refine g_const S dX7_bed_29 (v := 0) rfl ?_
    refine g_callxv (g_xunS S hC (As := [.int (0 : Int32)]) (rest := []) (kX7_checkState l hfl E σ (0 : Int32)) (va_cwS 1 S.2.2.2.2 gX7_bed_X7_checkState rfl rfl rfl (by decide +kernel) ⟨Nat.le_of_ble_eq_true rfl, Nat.le_of_ble_eq_true rfl⟩) rfl rfl (Nat.le_of_ble_eq_true rfl) dX7_bed_30 ⟨Nat.le_of_ble_eq_true rfl, Nat.le_of_ble_eq_true rfl⟩) (fun c_4 => g_out hlocks hout c_4 (by refine Eq.trans (by rw [sX7_bed_t, if_pos c_1, if_pos c_2, if_pos c_3]) ?_; unfold sX7_checkState_t; simp) (by rw [sX7_bed_s, if_pos c_1, if_pos c_2, if_pos c_3]) (Nat.le_of_ble_eq_true rfl) (Nat.le_of_ble_eq_true rfl)) (fun c_4 => absurd c_4 (by unfold sX7_checkState_t; simp))
  · skip
    refine g_const S dX7_bed_25 (v := 1) rfl ?_
    refine g_goto S 30 dX7_bed_26 (by decide) ?_
    refine g_callxv (g_xunS S hC (As := [.int (1 : Int32)]) (rest := []) (kX7_checkState l hfl E σ (1 : Int32)) (va_cwS 1 S.2.2.2.2 gX7_bed_X7_checkState rfl rfl rfl (by decide +kernel) ⟨Nat.le_of_ble_eq_true rfl, Nat.le_of_ble_eq_true rfl⟩) rfl rfl (Nat.le_of_ble_eq_true rfl) dX7_bed_30 ⟨Nat.le_of_ble_eq_true rfl, Nat.le_of_ble_eq_true rfl⟩) (fun c_5 => absurd (by unfold sX7_checkState_t; simp) c_5) (fun c_5 => ?_)
    have hle := hok.le5
    have hlt : tB σ 1 5 < 4 := cnt_lt 4 (by decide) (hok.eq 5 (by decide) (by decide)) (by omega) (by assumption)
    refine g_aload_n S 0 dX7_bed_33 rfl ?_
    refine gg6 S hC hiX7 (by decide +kernel) dX7_bed_34 ?_
    refine gg5r S hC hiX6 (by decide) rfl 0 (by decide) (by decide +kernel) dX7_bed_37 ?_
    refine g_aload_n S 0 dX7_bed_40 rfl ?_
    refine gg6 S hC hiX7 (by decide +kernel) dX7_bed_41 ?_
    refine gg5 S hC hiX6 (by decide) rfl 5 (by decide) (by decide +kernel) dX7_bed_44 ?_
    refine ga10 S hC (by decide) rfl (tB σ 1 5) (hok.eq 5 (by decide) (by decide)) (by first | assumption | omega) (1 + 6 + (tB σ 1 5)) (by omega) dX7_bed_47 ?_
    refine g_iload_n S 1 dX7_bed_48 rfl ?_
    refine g_iload_n S 2 dX7_bed_49 rfl ?_
    refine g_callv (g_runV S hC (As := [.int a, .int b]) (rest := []) (k := 1 + 6 + (tB σ 1 5)) (gT1.lt2 (a := 6) (by omega)) (gT1.bed (by omega)) (by decide) rfl (kX0_lay l E σ (1 + 6 + (tB σ 1 5)) (gT1.lt2 (a := 6) (by omega)) (gT1.bed (by omega)) a b) (cwV 2 S.2.2.2.2 gX7_bed_X0_lay rfl rfl rfl (by decide +kernel) ⟨Nat.le_of_ble_eq_true rfl, Nat.le_of_ble_eq_true rfl⟩) rfl rfl (Nat.le_of_ble_eq_true rfl) dX7_bed_50 ⟨Nat.le_of_ble_eq_true rfl, Nat.le_of_ble_eq_true rfl⟩) ?_
    refine g_nm (fun S1 hS1 => ?_)
    refine g_aload_n S 0 dX7_bed_53 rfl ?_
    refine gg6 S hC hiX7 (by decide +kernel) dX7_bed_54 ?_
    refine g_dup S dX7_bed_57 rfl ?_
    refine gg5 S hC hiX6 (by decide) rfl 5 (by decide) (by decide +kernel) dX7_bed_58 ?_
    refine g_dup_x1 S dX7_bed_61 rfl rfl ?_
    refine g_const S dX7_bed_62 (v := 1) rfl ?_
    refine g_iadd S dX7_bed_63 ?_
    refine gp5 S hC hiX6 (by decide) rfl 5 (by decide) (by decide +kernel) dX7_bed_64 ?_
    refine g_nm (fun S2 hS2 => ?_)
    exact g_xiret S hr hlocks dX7_bed_67 (by subst hS2 hS1; unfold sX7_bed_t; (try dsimp only); rw [if_pos c_1, if_pos c_2, if_neg c_3]) (by subst hS2 hS1; unfold sX7_bed_r; (try dsimp only); rw [if_pos c_1, if_pos c_2, if_neg c_3]) (by subst hS2 hS1; unfold sX7_bed_s; (try dsimp only); rw [if_pos c_1, if_pos c_2, if_neg c_3]) (Nat.le_of_ble_eq_true rfl) (Nat.le_of_ble_eq_true rfl)
def sX7_drum_r (σ : gS) (a : Int32) (b : Int32) : Int32 := if sX7_checkNumber_t σ a (1 : Int32) (40 : Int32) = 0 then (if sX7_checkNumber_t σ b (0 : Int32) (9 : Int32) = 0 then (if (4 : Int32) ≤ σ.1 1 6 then (0) else (let S1 := sX2_install_s σ (1 + 10 + (tB σ 1 6)) a b; S1.1 1 6)) else (0)) else (0)
def sX7_drum_s (σ : gS) (a : Int32) (b : Int32) : gS := if sX7_checkNumber_t σ a (1 : Int32) (40 : Int32) = 0 then (if sX7_checkNumber_t σ b (0 : Int32) (9 : Int32) = 0 then (if (4 : Int32) ≤ σ.1 1 6 then (σ) else (let S1 := sX2_install_s σ (1 + 10 + (tB σ 1 6)) a b; let S2 := gu S1 1 6 ((S1.1 1 6) + (1 : Int32)); S2)) else (σ)) else (σ)
def sX7_drum_t (σ : gS) (a : Int32) (b : Int32) : Nat := if sX7_checkNumber_t σ a (1 : Int32) (40 : Int32) = 0 then (if sX7_checkNumber_t σ b (0 : Int32) (9 : Int32) = 0 then (if (4 : Int32) ≤ σ.1 1 6 then (2) else (0)) else (sX7_checkNumber_t σ b (0 : Int32) (9 : Int32))) else (sX7_checkNumber_t σ a (1 : Int32) (40 : Int32))
set_option maxRecDepth 100000 in
set_option maxHeartbeats 4000000 in
theorem kX7_drum (l : Launch) (hfl : l.stackTraces = false) (E : gT) (σ : gS) (a : Int32) (b : Int32) (hok : tOK σ 1) : gYi l yX7_drum wsX7_drum ({ frames := 7, cells := 3, slots := 18, locals := 112 }) 3 18 E σ [.ref (E.2.2 0), .int a, .int b] (sX7_drum_t σ a b) (sX7_drum_r σ a b) (sX7_drum_s σ a b) := by
  refine g_vmet (mc := 3) (ms := 18) (nL := 3) (ret := (some .int)) (by decide) rfl (lv := [(0, .ref (E.2.2 0)), (1, .int a), (2, .int b)]) rfl (Nat.le_of_ble_eq_true rfl) ?_
  intro p e s m below meth c S hr hlocks hout hC
  have hiX6 : ∀ w ∈ wsX60, w ∈ wsX7_drum := by decide +kernel
  have hiX7 : ∀ w ∈ wsX70, w ∈ wsX7_drum := by decide +kernel
  refine g_iload_n S 1 dX7_drum_0 rfl ?_
  refine g_const S dX7_drum_1 (v := 1) rfl ?_
  refine g_bipush S dX7_drum_2 (v := 40) rfl ?_
  refine g_callxv (g_xunS S hC (As := [.int a, .int (1 : Int32), .int (40 : Int32)]) (rest := []) (kX7_checkNumber l hfl E σ a (1 : Int32) (40 : Int32)) (va_cwS 3 S.2.2.2.2 gX7_drum_X7_checkNumber rfl rfl rfl (by decide +kernel) ⟨Nat.le_of_ble_eq_true rfl, Nat.le_of_ble_eq_true rfl⟩) rfl rfl (Nat.le_of_ble_eq_true rfl) dX7_drum_4 ⟨Nat.le_of_ble_eq_true rfl, Nat.le_of_ble_eq_true rfl⟩) (fun c_1 => g_out hlocks hout c_1 (by rw [sX7_drum_t, if_neg c_1]) (by rw [sX7_drum_s, if_neg c_1]) (Nat.le_of_ble_eq_true rfl) (Nat.le_of_ble_eq_true rfl)) (fun c_1 => ?_)
  refine g_iload_n S 2 dX7_drum_7 rfl ?_
  refine g_const S dX7_drum_8 (v := 0) rfl ?_
  refine g_bipush S dX7_drum_9 (v := 9) rfl ?_
  refine g_callxv (g_xunS S hC (As := [.int b, .int (0 : Int32), .int (9 : Int32)]) (rest := []) (kX7_checkNumber l hfl E σ b (0 : Int32) (9 : Int32)) (va_cwS 3 S.2.2.2.2 gX7_drum_X7_checkNumber rfl rfl rfl (by decide +kernel) ⟨Nat.le_of_ble_eq_true rfl, Nat.le_of_ble_eq_true rfl⟩) rfl rfl (Nat.le_of_ble_eq_true rfl) dX7_drum_11 ⟨Nat.le_of_ble_eq_true rfl, Nat.le_of_ble_eq_true rfl⟩) (fun c_2 => g_out hlocks hout c_2 (by rw [sX7_drum_t, if_pos c_1, if_neg c_2]) (by rw [sX7_drum_s, if_pos c_1, if_neg c_2]) (Nat.le_of_ble_eq_true rfl) (Nat.le_of_ble_eq_true rfl)) (fun c_2 => ?_)
  refine g_aload_n S 0 dX7_drum_14 rfl ?_
  refine gg6 S hC hiX7 (by decide +kernel) dX7_drum_15 ?_
  refine gg5 S hC hiX6 (by decide) rfl 6 (by decide) (by decide +kernel) dX7_drum_18 ?_
  refine g_const S dX7_drum_21 (v := 4) rfl ?_
  refine g_icmp_ge S 29 dX7_drum_22 (by decide) (fun c_3 => ?_) (fun c_3 => ?_)
  · skip
    refine g_const S dX7_drum_29 (v := 0) rfl ?_
    refine g_callxv (g_xunS S hC (As := [.int (0 : Int32)]) (rest := []) (kX7_checkState l hfl E σ (0 : Int32)) (va_cwS 1 S.2.2.2.2 gX7_drum_X7_checkState rfl rfl rfl (by decide +kernel) ⟨Nat.le_of_ble_eq_true rfl, Nat.le_of_ble_eq_true rfl⟩) rfl rfl (Nat.le_of_ble_eq_true rfl) dX7_drum_30 ⟨Nat.le_of_ble_eq_true rfl, Nat.le_of_ble_eq_true rfl⟩) (fun c_4 => g_out hlocks hout c_4 (by refine Eq.trans (by rw [sX7_drum_t, if_pos c_1, if_pos c_2, if_pos c_3]) ?_; unfold sX7_checkState_t; simp) (by rw [sX7_drum_s, if_pos c_1, if_pos c_2, if_pos c_3]) (Nat.le_of_ble_eq_true rfl) (Nat.le_of_ble_eq_true rfl)) (fun c_4 => absurd c_4 (by unfold sX7_checkState_t; simp))
  · skip
    refine g_const S dX7_drum_25 (v := 1) rfl ?_
    refine g_goto S 30 dX7_drum_26 (by decide) ?_
    refine g_callxv (g_xunS S hC (As := [.int (1 : Int32)]) (rest := []) (kX7_checkState l hfl E σ (1 : Int32)) (va_cwS 1 S.2.2.2.2 gX7_drum_X7_checkState rfl rfl rfl (by decide +kernel) ⟨Nat.le_of_ble_eq_true rfl, Nat.le_of_ble_eq_true rfl⟩) rfl rfl (Nat.le_of_ble_eq_true rfl) dX7_drum_30 ⟨Nat.le_of_ble_eq_true rfl, Nat.le_of_ble_eq_true rfl⟩) (fun c_5 => absurd (by unfold sX7_checkState_t; simp) c_5) (fun c_5 => ?_)
    have hle := hok.le6
    have hlt : tB σ 1 6 < 4 := cnt_lt 4 (by decide) (hok.eq 6 (by decide) (by decide)) (by omega) (by assumption)
    refine g_aload_n S 0 dX7_drum_33 rfl ?_
    refine gg6 S hC hiX7 (by decide +kernel) dX7_drum_34 ?_
    refine gg5r S hC hiX6 (by decide) rfl 1 (by decide) (by decide +kernel) dX7_drum_37 ?_
    refine g_aload_n S 0 dX7_drum_40 rfl ?_
    refine gg6 S hC hiX7 (by decide +kernel) dX7_drum_41 ?_
    refine gg5 S hC hiX6 (by decide) rfl 6 (by decide) (by decide +kernel) dX7_drum_44 ?_
    refine ga11 S hC (by decide) rfl (tB σ 1 6) (hok.eq 6 (by decide) (by decide)) (by first | assumption | omega) (1 + 10 + (tB σ 1 6)) (by omega) dX7_drum_47 ?_
    refine g_iload_n S 1 dX7_drum_48 rfl ?_
    refine g_iload_n S 2 dX7_drum_49 rfl ?_
    refine g_callv (g_runV S hC (As := [.int a, .int b]) (rest := []) (k := 1 + 10 + (tB σ 1 6)) (gT1.lt2 (a := 10) (by omega)) (gT1.drum (by omega)) (by decide) rfl (kX2_install l E σ (1 + 10 + (tB σ 1 6)) (gT1.lt2 (a := 10) (by omega)) (gT1.drum (by omega)) a b) (cwV 2 S.2.2.2.2 gX7_drum_X2_install rfl rfl rfl (by decide +kernel) ⟨Nat.le_of_ble_eq_true rfl, Nat.le_of_ble_eq_true rfl⟩) rfl rfl (Nat.le_of_ble_eq_true rfl) dX7_drum_50 ⟨Nat.le_of_ble_eq_true rfl, Nat.le_of_ble_eq_true rfl⟩) ?_
    refine g_nm (fun S1 hS1 => ?_)
    refine g_aload_n S 0 dX7_drum_53 rfl ?_
    refine gg6 S hC hiX7 (by decide +kernel) dX7_drum_54 ?_
    refine g_dup S dX7_drum_57 rfl ?_
    refine gg5 S hC hiX6 (by decide) rfl 6 (by decide) (by decide +kernel) dX7_drum_58 ?_
    refine g_dup_x1 S dX7_drum_61 rfl rfl ?_
    refine g_const S dX7_drum_62 (v := 1) rfl ?_
    refine g_iadd S dX7_drum_63 ?_
    refine gp5 S hC hiX6 (by decide) rfl 6 (by decide) (by decide +kernel) dX7_drum_64 ?_
    refine g_nm (fun S2 hS2 => ?_)
    exact g_xiret S hr hlocks dX7_drum_67 (by subst hS2 hS1; unfold sX7_drum_t; (try dsimp only); rw [if_pos c_1, if_pos c_2, if_neg c_3]) (by subst hS2 hS1; unfold sX7_drum_r; (try dsimp only); rw [if_pos c_1, if_pos c_2, if_neg c_3]) (by subst hS2 hS1; unfold sX7_drum_s; (try dsimp only); rw [if_pos c_1, if_pos c_2, if_neg c_3]) (Nat.le_of_ble_eq_true rfl) (Nat.le_of_ble_eq_true rfl)
def sX7_smuggler_r (σ : gS) (a : Int32) (b : Int32) : Int32 := if sX7_checkNumber_t σ a (2 : Int32) (14 : Int32) = 0 then (if sX7_checkNumber_t σ b (1 : Int32) (30 : Int32) = 0 then (if (4 : Int32) ≤ σ.1 1 7 then (0) else (let S1 := sX3_hire_s σ (1 + 14 + (tB σ 1 7)) a b; S1.1 1 7)) else (0)) else (0)
def sX7_smuggler_s (σ : gS) (a : Int32) (b : Int32) : gS := if sX7_checkNumber_t σ a (2 : Int32) (14 : Int32) = 0 then (if sX7_checkNumber_t σ b (1 : Int32) (30 : Int32) = 0 then (if (4 : Int32) ≤ σ.1 1 7 then (σ) else (let S1 := sX3_hire_s σ (1 + 14 + (tB σ 1 7)) a b; let S2 := gu S1 1 7 ((S1.1 1 7) + (1 : Int32)); S2)) else (σ)) else (σ)
def sX7_smuggler_t (σ : gS) (a : Int32) (b : Int32) : Nat := if sX7_checkNumber_t σ a (2 : Int32) (14 : Int32) = 0 then (if sX7_checkNumber_t σ b (1 : Int32) (30 : Int32) = 0 then (if (4 : Int32) ≤ σ.1 1 7 then (2) else (0)) else (sX7_checkNumber_t σ b (1 : Int32) (30 : Int32))) else (sX7_checkNumber_t σ a (2 : Int32) (14 : Int32))
set_option maxRecDepth 100000 in
set_option maxHeartbeats 4000000 in
theorem kX7_smuggler (l : Launch) (hfl : l.stackTraces = false) (E : gT) (σ : gS) (a : Int32) (b : Int32) (hok : tOK σ 1) : gYi l yX7_smuggler wsX7_smuggler ({ frames := 7, cells := 3, slots := 18, locals := 112 }) 3 18 E σ [.ref (E.2.2 0), .int a, .int b] (sX7_smuggler_t σ a b) (sX7_smuggler_r σ a b) (sX7_smuggler_s σ a b) := by
  refine g_vmet (mc := 3) (ms := 18) (nL := 3) (ret := (some .int)) (by decide) rfl (lv := [(0, .ref (E.2.2 0)), (1, .int a), (2, .int b)]) rfl (Nat.le_of_ble_eq_true rfl) ?_
  intro p e s m below meth c S hr hlocks hout hC
  have hiX6 : ∀ w ∈ wsX60, w ∈ wsX7_smuggler := by decide +kernel
  have hiX7 : ∀ w ∈ wsX70, w ∈ wsX7_smuggler := by decide +kernel
  refine g_iload_n S 1 dX7_smuggler_0 rfl ?_
  refine g_const S dX7_smuggler_1 (v := 2) rfl ?_
  refine g_bipush S dX7_smuggler_2 (v := 14) rfl ?_
  refine g_callxv (g_xunS S hC (As := [.int a, .int (2 : Int32), .int (14 : Int32)]) (rest := []) (kX7_checkNumber l hfl E σ a (2 : Int32) (14 : Int32)) (va_cwS 3 S.2.2.2.2 gX7_smuggler_X7_checkNumber rfl rfl rfl (by decide +kernel) ⟨Nat.le_of_ble_eq_true rfl, Nat.le_of_ble_eq_true rfl⟩) rfl rfl (Nat.le_of_ble_eq_true rfl) dX7_smuggler_4 ⟨Nat.le_of_ble_eq_true rfl, Nat.le_of_ble_eq_true rfl⟩) (fun c_1 => g_out hlocks hout c_1 (by rw [sX7_smuggler_t, if_neg c_1]) (by rw [sX7_smuggler_s, if_neg c_1]) (Nat.le_of_ble_eq_true rfl) (Nat.le_of_ble_eq_true rfl)) (fun c_1 => ?_)
  refine g_iload_n S 2 dX7_smuggler_7 rfl ?_
  refine g_const S dX7_smuggler_8 (v := 1) rfl ?_
  refine g_bipush S dX7_smuggler_9 (v := 30) rfl ?_
  refine g_callxv (g_xunS S hC (As := [.int b, .int (1 : Int32), .int (30 : Int32)]) (rest := []) (kX7_checkNumber l hfl E σ b (1 : Int32) (30 : Int32)) (va_cwS 3 S.2.2.2.2 gX7_smuggler_X7_checkNumber rfl rfl rfl (by decide +kernel) ⟨Nat.le_of_ble_eq_true rfl, Nat.le_of_ble_eq_true rfl⟩) rfl rfl (Nat.le_of_ble_eq_true rfl) dX7_smuggler_11 ⟨Nat.le_of_ble_eq_true rfl, Nat.le_of_ble_eq_true rfl⟩) (fun c_2 => g_out hlocks hout c_2 (by rw [sX7_smuggler_t, if_pos c_1, if_neg c_2]) (by rw [sX7_smuggler_s, if_pos c_1, if_neg c_2]) (Nat.le_of_ble_eq_true rfl) (Nat.le_of_ble_eq_true rfl)) (fun c_2 => ?_)
  refine g_aload_n S 0 dX7_smuggler_14 rfl ?_
  refine gg6 S hC hiX7 (by decide +kernel) dX7_smuggler_15 ?_
  refine gg5 S hC hiX6 (by decide) rfl 7 (by decide) (by decide +kernel) dX7_smuggler_18 ?_
  refine g_const S dX7_smuggler_21 (v := 4) rfl ?_
  refine g_icmp_ge S 29 dX7_smuggler_22 (by decide) (fun c_3 => ?_) (fun c_3 => ?_)
  · skip
    refine g_const S dX7_smuggler_29 (v := 0) rfl ?_
    refine g_callxv (g_xunS S hC (As := [.int (0 : Int32)]) (rest := []) (kX7_checkState l hfl E σ (0 : Int32)) (va_cwS 1 S.2.2.2.2 gX7_smuggler_X7_checkState rfl rfl rfl (by decide +kernel) ⟨Nat.le_of_ble_eq_true rfl, Nat.le_of_ble_eq_true rfl⟩) rfl rfl (Nat.le_of_ble_eq_true rfl) dX7_smuggler_30 ⟨Nat.le_of_ble_eq_true rfl, Nat.le_of_ble_eq_true rfl⟩) (fun c_4 => g_out hlocks hout c_4 (by refine Eq.trans (by rw [sX7_smuggler_t, if_pos c_1, if_pos c_2, if_pos c_3]) ?_; unfold sX7_checkState_t; simp) (by rw [sX7_smuggler_s, if_pos c_1, if_pos c_2, if_pos c_3]) (Nat.le_of_ble_eq_true rfl) (Nat.le_of_ble_eq_true rfl)) (fun c_4 => absurd c_4 (by unfold sX7_checkState_t; simp))
  · skip
    refine g_const S dX7_smuggler_25 (v := 1) rfl ?_
    refine g_goto S 30 dX7_smuggler_26 (by decide) ?_
    refine g_callxv (g_xunS S hC (As := [.int (1 : Int32)]) (rest := []) (kX7_checkState l hfl E σ (1 : Int32)) (va_cwS 1 S.2.2.2.2 gX7_smuggler_X7_checkState rfl rfl rfl (by decide +kernel) ⟨Nat.le_of_ble_eq_true rfl, Nat.le_of_ble_eq_true rfl⟩) rfl rfl (Nat.le_of_ble_eq_true rfl) dX7_smuggler_30 ⟨Nat.le_of_ble_eq_true rfl, Nat.le_of_ble_eq_true rfl⟩) (fun c_5 => absurd (by unfold sX7_checkState_t; simp) c_5) (fun c_5 => ?_)
    have hle := hok.le7
    have hlt : tB σ 1 7 < 4 := cnt_lt 4 (by decide) (hok.eq 7 (by decide) (by decide)) (by omega) (by assumption)
    refine g_aload_n S 0 dX7_smuggler_33 rfl ?_
    refine gg6 S hC hiX7 (by decide +kernel) dX7_smuggler_34 ?_
    refine gg5r S hC hiX6 (by decide) rfl 2 (by decide) (by decide +kernel) dX7_smuggler_37 ?_
    refine g_aload_n S 0 dX7_smuggler_40 rfl ?_
    refine gg6 S hC hiX7 (by decide +kernel) dX7_smuggler_41 ?_
    refine gg5 S hC hiX6 (by decide) rfl 7 (by decide) (by decide +kernel) dX7_smuggler_44 ?_
    refine ga12 S hC (by decide) rfl (tB σ 1 7) (hok.eq 7 (by decide) (by decide)) (by first | assumption | omega) (1 + 14 + (tB σ 1 7)) (by omega) dX7_smuggler_47 ?_
    refine g_iload_n S 1 dX7_smuggler_48 rfl ?_
    refine g_iload_n S 2 dX7_smuggler_49 rfl ?_
    refine g_callv (g_runV S hC (As := [.int a, .int b]) (rest := []) (k := 1 + 14 + (tB σ 1 7)) (gT1.lt2 (a := 14) (by omega)) (gT1.smug (by omega)) (by decide) rfl (kX3_hire l E σ (1 + 14 + (tB σ 1 7)) (gT1.lt2 (a := 14) (by omega)) (gT1.smug (by omega)) a b) (cwV 2 S.2.2.2.2 gX7_smuggler_X3_hire rfl rfl rfl (by decide +kernel) ⟨Nat.le_of_ble_eq_true rfl, Nat.le_of_ble_eq_true rfl⟩) rfl rfl (Nat.le_of_ble_eq_true rfl) dX7_smuggler_50 ⟨Nat.le_of_ble_eq_true rfl, Nat.le_of_ble_eq_true rfl⟩) ?_
    refine g_nm (fun S1 hS1 => ?_)
    refine g_aload_n S 0 dX7_smuggler_53 rfl ?_
    refine gg6 S hC hiX7 (by decide +kernel) dX7_smuggler_54 ?_
    refine g_dup S dX7_smuggler_57 rfl ?_
    refine gg5 S hC hiX6 (by decide) rfl 7 (by decide) (by decide +kernel) dX7_smuggler_58 ?_
    refine g_dup_x1 S dX7_smuggler_61 rfl rfl ?_
    refine g_const S dX7_smuggler_62 (v := 1) rfl ?_
    refine g_iadd S dX7_smuggler_63 ?_
    refine gp5 S hC hiX6 (by decide) rfl 7 (by decide) (by decide +kernel) dX7_smuggler_64 ?_
    refine g_nm (fun S2 hS2 => ?_)
    exact g_xiret S hr hlocks dX7_smuggler_67 (by subst hS2 hS1; unfold sX7_smuggler_t; (try dsimp only); rw [if_pos c_1, if_pos c_2, if_neg c_3]) (by subst hS2 hS1; unfold sX7_smuggler_r; (try dsimp only); rw [if_pos c_1, if_pos c_2, if_neg c_3]) (by subst hS2 hS1; unfold sX7_smuggler_s; (try dsimp only); rw [if_pos c_1, if_pos c_2, if_neg c_3]) (Nat.le_of_ble_eq_true rfl) (Nat.le_of_ble_eq_true rfl)
def sX7_card_r (σ : gS) (a : Int32) (b : Int32) : Int32 := if sX7_checkNumber_t σ a (1 : Int32) (9 : Int32) = 0 then (if sX7_checkNumber_t σ b (0 : Int32) (10 : Int32) = 0 then (if (10 : Int32) ≤ σ.1 1 8 then (0) else (let S1 := sX1_issue_s σ (1 + 18 + (tB σ 1 8)) a b; S1.1 1 8)) else (0)) else (0)
def sX7_card_s (σ : gS) (a : Int32) (b : Int32) : gS := if sX7_checkNumber_t σ a (1 : Int32) (9 : Int32) = 0 then (if sX7_checkNumber_t σ b (0 : Int32) (10 : Int32) = 0 then (if (10 : Int32) ≤ σ.1 1 8 then (σ) else (let S1 := sX1_issue_s σ (1 + 18 + (tB σ 1 8)) a b; let S2 := gu S1 1 8 ((S1.1 1 8) + (1 : Int32)); S2)) else (σ)) else (σ)
def sX7_card_t (σ : gS) (a : Int32) (b : Int32) : Nat := if sX7_checkNumber_t σ a (1 : Int32) (9 : Int32) = 0 then (if sX7_checkNumber_t σ b (0 : Int32) (10 : Int32) = 0 then (if (10 : Int32) ≤ σ.1 1 8 then (2) else (0)) else (sX7_checkNumber_t σ b (0 : Int32) (10 : Int32))) else (sX7_checkNumber_t σ a (1 : Int32) (9 : Int32))
set_option maxRecDepth 100000 in
set_option maxHeartbeats 4000000 in
theorem kX7_card (l : Launch) (hfl : l.stackTraces = false) (E : gT) (σ : gS) (a : Int32) (b : Int32) (hok : tOK σ 1) : gYi l yX7_card wsX7_card ({ frames := 7, cells := 3, slots := 18, locals := 112 }) 3 18 E σ [.ref (E.2.2 0), .int a, .int b] (sX7_card_t σ a b) (sX7_card_r σ a b) (sX7_card_s σ a b) := by
  refine g_vmet (mc := 3) (ms := 18) (nL := 3) (ret := (some .int)) (by decide) rfl (lv := [(0, .ref (E.2.2 0)), (1, .int a), (2, .int b)]) rfl (Nat.le_of_ble_eq_true rfl) ?_
  intro p e s m below meth c S hr hlocks hout hC
  have hiX6 : ∀ w ∈ wsX60, w ∈ wsX7_card := by decide +kernel
  have hiX7 : ∀ w ∈ wsX70, w ∈ wsX7_card := by decide +kernel
  refine g_iload_n S 1 dX7_card_0 rfl ?_
  refine g_const S dX7_card_1 (v := 1) rfl ?_
  refine g_bipush S dX7_card_2 (v := 9) rfl ?_
  refine g_callxv (g_xunS S hC (As := [.int a, .int (1 : Int32), .int (9 : Int32)]) (rest := []) (kX7_checkNumber l hfl E σ a (1 : Int32) (9 : Int32)) (va_cwS 3 S.2.2.2.2 gX7_card_X7_checkNumber rfl rfl rfl (by decide +kernel) ⟨Nat.le_of_ble_eq_true rfl, Nat.le_of_ble_eq_true rfl⟩) rfl rfl (Nat.le_of_ble_eq_true rfl) dX7_card_4 ⟨Nat.le_of_ble_eq_true rfl, Nat.le_of_ble_eq_true rfl⟩) (fun c_1 => g_out hlocks hout c_1 (by rw [sX7_card_t, if_neg c_1]) (by rw [sX7_card_s, if_neg c_1]) (Nat.le_of_ble_eq_true rfl) (Nat.le_of_ble_eq_true rfl)) (fun c_1 => ?_)
  refine g_iload_n S 2 dX7_card_7 rfl ?_
  refine g_const S dX7_card_8 (v := 0) rfl ?_
  refine g_bipush S dX7_card_9 (v := 10) rfl ?_
  refine g_callxv (g_xunS S hC (As := [.int b, .int (0 : Int32), .int (10 : Int32)]) (rest := []) (kX7_checkNumber l hfl E σ b (0 : Int32) (10 : Int32)) (va_cwS 3 S.2.2.2.2 gX7_card_X7_checkNumber rfl rfl rfl (by decide +kernel) ⟨Nat.le_of_ble_eq_true rfl, Nat.le_of_ble_eq_true rfl⟩) rfl rfl (Nat.le_of_ble_eq_true rfl) dX7_card_11 ⟨Nat.le_of_ble_eq_true rfl, Nat.le_of_ble_eq_true rfl⟩) (fun c_2 => g_out hlocks hout c_2 (by rw [sX7_card_t, if_pos c_1, if_neg c_2]) (by rw [sX7_card_s, if_pos c_1, if_neg c_2]) (Nat.le_of_ble_eq_true rfl) (Nat.le_of_ble_eq_true rfl)) (fun c_2 => ?_)
  refine g_aload_n S 0 dX7_card_14 rfl ?_
  refine gg6 S hC hiX7 (by decide +kernel) dX7_card_15 ?_
  refine gg5 S hC hiX6 (by decide) rfl 8 (by decide) (by decide +kernel) dX7_card_18 ?_
  refine g_bipush S dX7_card_21 (v := 10) rfl ?_
  refine g_icmp_ge S 30 dX7_card_23 (by decide) (fun c_3 => ?_) (fun c_3 => ?_)
  · skip
    refine g_const S dX7_card_30 (v := 0) rfl ?_
    refine g_callxv (g_xunS S hC (As := [.int (0 : Int32)]) (rest := []) (kX7_checkState l hfl E σ (0 : Int32)) (va_cwS 1 S.2.2.2.2 gX7_card_X7_checkState rfl rfl rfl (by decide +kernel) ⟨Nat.le_of_ble_eq_true rfl, Nat.le_of_ble_eq_true rfl⟩) rfl rfl (Nat.le_of_ble_eq_true rfl) dX7_card_31 ⟨Nat.le_of_ble_eq_true rfl, Nat.le_of_ble_eq_true rfl⟩) (fun c_4 => g_out hlocks hout c_4 (by refine Eq.trans (by rw [sX7_card_t, if_pos c_1, if_pos c_2, if_pos c_3]) ?_; unfold sX7_checkState_t; simp) (by rw [sX7_card_s, if_pos c_1, if_pos c_2, if_pos c_3]) (Nat.le_of_ble_eq_true rfl) (Nat.le_of_ble_eq_true rfl)) (fun c_4 => absurd c_4 (by unfold sX7_checkState_t; simp))
  · skip
    refine g_const S dX7_card_26 (v := 1) rfl ?_
    refine g_goto S 31 dX7_card_27 (by decide) ?_
    refine g_callxv (g_xunS S hC (As := [.int (1 : Int32)]) (rest := []) (kX7_checkState l hfl E σ (1 : Int32)) (va_cwS 1 S.2.2.2.2 gX7_card_X7_checkState rfl rfl rfl (by decide +kernel) ⟨Nat.le_of_ble_eq_true rfl, Nat.le_of_ble_eq_true rfl⟩) rfl rfl (Nat.le_of_ble_eq_true rfl) dX7_card_31 ⟨Nat.le_of_ble_eq_true rfl, Nat.le_of_ble_eq_true rfl⟩) (fun c_5 => absurd (by unfold sX7_checkState_t; simp) c_5) (fun c_5 => ?_)
    have hle := hok.le8
    have hlt : tB σ 1 8 < 10 := cnt_lt 10 (by decide) (hok.eq 8 (by decide) (by decide)) (by omega) (by assumption)
    refine g_aload_n S 0 dX7_card_34 rfl ?_
    refine gg6 S hC hiX7 (by decide +kernel) dX7_card_35 ?_
    refine gg5r S hC hiX6 (by decide) rfl 3 (by decide) (by decide +kernel) dX7_card_38 ?_
    refine g_aload_n S 0 dX7_card_41 rfl ?_
    refine gg6 S hC hiX7 (by decide +kernel) dX7_card_42 ?_
    refine gg5 S hC hiX6 (by decide) rfl 8 (by decide) (by decide +kernel) dX7_card_45 ?_
    refine ga13 S hC (by decide) rfl (tB σ 1 8) (hok.eq 8 (by decide) (by decide)) (by first | assumption | omega) (1 + 18 + (tB σ 1 8)) (by omega) dX7_card_48 ?_
    refine g_iload_n S 1 dX7_card_49 rfl ?_
    refine g_iload_n S 2 dX7_card_50 rfl ?_
    refine g_callv (g_runV S hC (As := [.int a, .int b]) (rest := []) (k := 1 + 18 + (tB σ 1 8)) (gT1.lt2 (a := 18) (by omega)) (gT1.card (by omega)) (by decide) rfl (kX1_issue l E σ (1 + 18 + (tB σ 1 8)) (gT1.lt2 (a := 18) (by omega)) (gT1.card (by omega)) a b) (cwV 2 S.2.2.2.2 gX7_card_X1_issue rfl rfl rfl (by decide +kernel) ⟨Nat.le_of_ble_eq_true rfl, Nat.le_of_ble_eq_true rfl⟩) rfl rfl (Nat.le_of_ble_eq_true rfl) dX7_card_51 ⟨Nat.le_of_ble_eq_true rfl, Nat.le_of_ble_eq_true rfl⟩) ?_
    refine g_nm (fun S1 hS1 => ?_)
    refine g_aload_n S 0 dX7_card_54 rfl ?_
    refine gg6 S hC hiX7 (by decide +kernel) dX7_card_55 ?_
    refine g_dup S dX7_card_58 rfl ?_
    refine gg5 S hC hiX6 (by decide) rfl 8 (by decide) (by decide +kernel) dX7_card_59 ?_
    refine g_dup_x1 S dX7_card_62 rfl rfl ?_
    refine g_const S dX7_card_63 (v := 1) rfl ?_
    refine g_iadd S dX7_card_64 ?_
    refine gp5 S hC hiX6 (by decide) rfl 8 (by decide) (by decide +kernel) dX7_card_65 ?_
    refine g_nm (fun S2 hS2 => ?_)
    exact g_xiret S hr hlocks dX7_card_68 (by subst hS2 hS1; unfold sX7_card_t; (try dsimp only); rw [if_pos c_1, if_pos c_2, if_neg c_3]) (by subst hS2 hS1; unfold sX7_card_r; (try dsimp only); rw [if_pos c_1, if_pos c_2, if_neg c_3]) (by subst hS2 hS1; unfold sX7_card_s; (try dsimp only); rw [if_pos c_1, if_pos c_2, if_neg c_3]) (Nat.le_of_ble_eq_true rfl) (Nat.le_of_ble_eq_true rfl)
def sX7_setPatrol_r (σ : gS) (a : Int32) : Int32 := if sX7_checkNumber_t σ a (0 : Int32) (127 : Int32) = 0 then (σ.1 1 10) else (0)
def sX7_setPatrol_s (σ : gS) (a : Int32) : gS := if sX7_checkNumber_t σ a (0 : Int32) (127 : Int32) = 0 then (let S1 := gu σ 1 10 a; S1) else (σ)
def sX7_setPatrol_t (σ : gS) (a : Int32) : Nat := if sX7_checkNumber_t σ a (0 : Int32) (127 : Int32) = 0 then (0) else (sX7_checkNumber_t σ a (0 : Int32) (127 : Int32))
set_option maxRecDepth 100000 in
set_option maxHeartbeats 4000000 in
theorem kX7_setPatrol (l : Launch) (hfl : l.stackTraces = false) (E : gT) (σ : gS) (a : Int32) : gYi l yX7_setPatrol wsX7_setPatrol ({ frames := 7, cells := 1, slots := 6, locals := 112 }) 1 6 E σ [.ref (E.2.2 0), .int a] (sX7_setPatrol_t σ a) (sX7_setPatrol_r σ a) (sX7_setPatrol_s σ a) := by
  refine g_vmet (mc := 1) (ms := 6) (nL := 3) (ret := (some .int)) (by decide) rfl (lv := [(0, .ref (E.2.2 0)), (1, .int a)]) rfl (Nat.le_of_ble_eq_true rfl) ?_
  intro p e s m below meth c S hr hlocks hout hC
  have hiX6 : ∀ w ∈ wsX60, w ∈ wsX7_setPatrol := by decide +kernel
  have hiX7 : ∀ w ∈ wsX70, w ∈ wsX7_setPatrol := by decide +kernel
  refine g_iload_n S 1 dX7_setPatrol_0 rfl ?_
  refine g_const S dX7_setPatrol_1 (v := 0) rfl ?_
  refine g_bipush S dX7_setPatrol_2 (v := 127) rfl ?_
  refine g_callxv (g_xunS S hC (As := [.int a, .int (0 : Int32), .int (127 : Int32)]) (rest := []) (kX7_checkNumber l hfl E σ a (0 : Int32) (127 : Int32)) (va_cwS 3 S.2.2.2.2 gX7_setPatrol_X7_checkNumber rfl rfl rfl (by decide +kernel) ⟨Nat.le_of_ble_eq_true rfl, Nat.le_of_ble_eq_true rfl⟩) rfl rfl (Nat.le_of_ble_eq_true rfl) dX7_setPatrol_4 ⟨Nat.le_of_ble_eq_true rfl, Nat.le_of_ble_eq_true rfl⟩) (fun c_1 => g_out hlocks hout c_1 (by rw [sX7_setPatrol_t, if_neg c_1]) (by rw [sX7_setPatrol_s, if_neg c_1]) (Nat.le_of_ble_eq_true rfl) (Nat.le_of_ble_eq_true rfl)) (fun c_1 => ?_)
  refine g_aload_n S 0 dX7_setPatrol_7 rfl ?_
  refine gg6 S hC hiX7 (by decide +kernel) dX7_setPatrol_8 ?_
  refine gg5 S hC hiX6 (by decide) rfl 10 (by decide) (by decide +kernel) dX7_setPatrol_11 ?_
  refine g_istore_n S [(2, .int (σ.1 1 10)), (0, .ref (E.2.2 0)), (1, .int a)] dX7_setPatrol_14 (by decide) rfl ?_
  refine g_aload_n S 1 dX7_setPatrol_15 rfl ?_
  refine gg6 S hC hiX7 (by decide +kernel) dX7_setPatrol_16 ?_
  refine g_iload_n S 2 dX7_setPatrol_19 rfl ?_
  refine gp5 S hC hiX6 (by decide) rfl 10 (by decide) (by decide +kernel) dX7_setPatrol_20 ?_
  refine g_nm (fun S1 hS1 => ?_)
  refine g_iload_n S 0 dX7_setPatrol_23 rfl ?_
  exact g_xiret S hr hlocks dX7_setPatrol_24 (by subst hS1; unfold sX7_setPatrol_t; (try dsimp only); rw [if_pos c_1]) (by subst hS1; unfold sX7_setPatrol_r; (try dsimp only); rw [if_pos c_1]) (by subst hS1; unfold sX7_setPatrol_s; (try dsimp only); rw [if_pos c_1]) (Nat.le_of_ble_eq_true rfl) (Nat.le_of_ble_eq_true rfl)
def sX7_setShare_r (σ : gS) (a : Int32) : Int32 := if sX7_checkNumber_t σ a (0 : Int32) (10 : Int32) = 0 then (σ.1 6 4) else (0)
def sX7_setShare_s (σ : gS) (a : Int32) : gS := if sX7_checkNumber_t σ a (0 : Int32) (10 : Int32) = 0 then (let S1 := gu σ 6 4 a; S1) else (σ)
def sX7_setShare_t (σ : gS) (a : Int32) : Nat := if sX7_checkNumber_t σ a (0 : Int32) (10 : Int32) = 0 then (0) else (sX7_checkNumber_t σ a (0 : Int32) (10 : Int32))
set_option maxRecDepth 100000 in
set_option maxHeartbeats 4000000 in
theorem kX7_setShare (l : Launch) (hfl : l.stackTraces = false) (E : gT) (σ : gS) (a : Int32) : gYi l yX7_setShare wsX7_setShare ({ frames := 7, cells := 1, slots := 6, locals := 112 }) 1 6 E σ [.ref (E.2.2 0), .int a] (sX7_setShare_t σ a) (sX7_setShare_r σ a) (sX7_setShare_s σ a) := by
  refine g_vmet (mc := 1) (ms := 6) (nL := 3) (ret := (some .int)) (by decide) rfl (lv := [(0, .ref (E.2.2 0)), (1, .int a)]) rfl (Nat.le_of_ble_eq_true rfl) ?_
  intro p e s m below meth c S hr hlocks hout hC
  have hiX4 : ∀ w ∈ wsX40, w ∈ wsX7_setShare := by decide +kernel
  have hiX6 : ∀ w ∈ wsX60, w ∈ wsX7_setShare := by decide +kernel
  have hiX7 : ∀ w ∈ wsX70, w ∈ wsX7_setShare := by decide +kernel
  refine g_iload_n S 1 dX7_setShare_0 rfl ?_
  refine g_const S dX7_setShare_1 (v := 0) rfl ?_
  refine g_bipush S dX7_setShare_2 (v := 10) rfl ?_
  refine g_callxv (g_xunS S hC (As := [.int a, .int (0 : Int32), .int (10 : Int32)]) (rest := []) (kX7_checkNumber l hfl E σ a (0 : Int32) (10 : Int32)) (va_cwS 3 S.2.2.2.2 gX7_setShare_X7_checkNumber rfl rfl rfl (by decide +kernel) ⟨Nat.le_of_ble_eq_true rfl, Nat.le_of_ble_eq_true rfl⟩) rfl rfl (Nat.le_of_ble_eq_true rfl) dX7_setShare_4 ⟨Nat.le_of_ble_eq_true rfl, Nat.le_of_ble_eq_true rfl⟩) (fun c_1 => g_out hlocks hout c_1 (by rw [sX7_setShare_t, if_neg c_1]) (by rw [sX7_setShare_s, if_neg c_1]) (Nat.le_of_ble_eq_true rfl) (Nat.le_of_ble_eq_true rfl)) (fun c_1 => ?_)
  refine g_aload_n S 0 dX7_setShare_7 rfl ?_
  refine gg6 S hC hiX7 (by decide +kernel) dX7_setShare_8 ?_
  refine gg5r S hC hiX6 (by decide) rfl 4 (by decide) (by decide +kernel) dX7_setShare_11 ?_
  refine gg4 S hC hiX4 (by decide) rfl 4 (by decide) (by decide +kernel) dX7_setShare_14 ?_
  refine g_istore_n S [(2, .int (σ.1 6 4)), (0, .ref (E.2.2 0)), (1, .int a)] dX7_setShare_17 (by decide) rfl ?_
  refine g_aload_n S 1 dX7_setShare_18 rfl ?_
  refine gg6 S hC hiX7 (by decide +kernel) dX7_setShare_19 ?_
  refine gg5r S hC hiX6 (by decide) rfl 4 (by decide) (by decide +kernel) dX7_setShare_22 ?_
  refine g_iload_n S 2 dX7_setShare_25 rfl ?_
  refine gp4 S hC hiX4 (by decide) rfl 4 (by decide) (by decide +kernel) dX7_setShare_26 ?_
  refine g_nm (fun S1 hS1 => ?_)
  refine g_iload_n S 0 dX7_setShare_29 rfl ?_
  exact g_xiret S hr hlocks dX7_setShare_30 (by subst hS1; unfold sX7_setShare_t; (try dsimp only); rw [if_pos c_1]) (by subst hS1; unfold sX7_setShare_r; (try dsimp only); rw [if_pos c_1]) (by subst hS1; unfold sX7_setShare_s; (try dsimp only); rw [if_pos c_1]) (Nat.le_of_ble_eq_true rfl) (Nat.le_of_ble_eq_true rfl)
def sX7_setHeat_r (σ : gS) (a : Int32) (b : Int32) : Int32 := if sX7_checkIndex_t σ a (σ.1 1 6) = 0 then (if sX7_checkNumber_t σ b (0 : Int32) (9 : Int32) = 0 then (σ.1 (1 + 10 + (a.toNatClampNeg)) 1) else (0)) else (0)
def sX7_setHeat_s (σ : gS) (a : Int32) (b : Int32) : gS := if sX7_checkIndex_t σ a (σ.1 1 6) = 0 then (if sX7_checkNumber_t σ b (0 : Int32) (9 : Int32) = 0 then (let S1 := gu σ (1 + 10 + (a.toNatClampNeg)) 1 b; S1) else (σ)) else (σ)
def sX7_setHeat_t (σ : gS) (a : Int32) (b : Int32) : Nat := if sX7_checkIndex_t σ a (σ.1 1 6) = 0 then (if sX7_checkNumber_t σ b (0 : Int32) (9 : Int32) = 0 then (0) else (sX7_checkNumber_t σ b (0 : Int32) (9 : Int32))) else (sX7_checkIndex_t σ a (σ.1 1 6))
set_option maxRecDepth 100000 in
set_option maxHeartbeats 4000000 in
theorem kX7_setHeat (l : Launch) (hfl : l.stackTraces = false) (E : gT) (σ : gS) (a : Int32) (b : Int32) (hok : tOK σ 1) : gYi l yX7_setHeat wsX7_setHeat ({ frames := 7, cells := 2, slots := 12, locals := 112 }) 2 12 E σ [.ref (E.2.2 0), .int a, .int b] (sX7_setHeat_t σ a b) (sX7_setHeat_r σ a b) (sX7_setHeat_s σ a b) := by
  refine g_vmet (mc := 2) (ms := 12) (nL := 4) (ret := (some .int)) (by decide) rfl (lv := [(0, .ref (E.2.2 0)), (1, .int a), (2, .int b)]) rfl (Nat.le_of_ble_eq_true rfl) ?_
  intro p e s m below meth c S hr hlocks hout hC
  have hiX2 : ∀ w ∈ wsX20, w ∈ wsX7_setHeat := by decide +kernel
  have hiX6 : ∀ w ∈ wsX60, w ∈ wsX7_setHeat := by decide +kernel
  have hiX7 : ∀ w ∈ wsX70, w ∈ wsX7_setHeat := by decide +kernel
  refine g_iload_n S 1 dX7_setHeat_0 rfl ?_
  refine g_aload_n S 0 dX7_setHeat_1 rfl ?_
  refine gg6 S hC hiX7 (by decide +kernel) dX7_setHeat_2 ?_
  refine gg5 S hC hiX6 (by decide) rfl 6 (by decide) (by decide +kernel) dX7_setHeat_5 ?_
  refine g_callxv (g_xunS S hC (As := [.int a, .int (σ.1 1 6)]) (rest := []) (kX7_checkIndex l hfl E σ a (σ.1 1 6)) (va_cwS 2 S.2.2.2.2 gX7_setHeat_X7_checkIndex rfl rfl rfl (by decide +kernel) ⟨Nat.le_of_ble_eq_true rfl, Nat.le_of_ble_eq_true rfl⟩) rfl rfl (Nat.le_of_ble_eq_true rfl) dX7_setHeat_8 ⟨Nat.le_of_ble_eq_true rfl, Nat.le_of_ble_eq_true rfl⟩) (fun c_1 => g_out hlocks hout c_1 (by rw [sX7_setHeat_t, if_neg c_1]) (by rw [sX7_setHeat_s, if_neg c_1]) (Nat.le_of_ble_eq_true rfl) (Nat.le_of_ble_eq_true rfl)) (fun c_1 => ?_)
  have hle := hok.le6
  obtain ⟨hbb, hbe⟩ := ck_ix (tB σ 1 6) (hok.eq 6 (by decide) (by decide)) (by omega) c_1
  have hbl : a.toNatClampNeg < 4 := by omega
  refine g_iload_n S 2 dX7_setHeat_11 rfl ?_
  refine g_const S dX7_setHeat_12 (v := 0) rfl ?_
  refine g_bipush S dX7_setHeat_13 (v := 9) rfl ?_
  refine g_callxv (g_xunS S hC (As := [.int b, .int (0 : Int32), .int (9 : Int32)]) (rest := []) (kX7_checkNumber l hfl E σ b (0 : Int32) (9 : Int32)) (va_cwS 3 S.2.2.2.2 gX7_setHeat_X7_checkNumber rfl rfl rfl (by decide +kernel) ⟨Nat.le_of_ble_eq_true rfl, Nat.le_of_ble_eq_true rfl⟩) rfl rfl (Nat.le_of_ble_eq_true rfl) dX7_setHeat_15 ⟨Nat.le_of_ble_eq_true rfl, Nat.le_of_ble_eq_true rfl⟩) (fun c_2 => g_out hlocks hout c_2 (by rw [sX7_setHeat_t, if_pos c_1, if_neg c_2]) (by rw [sX7_setHeat_s, if_pos c_1, if_neg c_2]) (Nat.le_of_ble_eq_true rfl) (Nat.le_of_ble_eq_true rfl)) (fun c_2 => ?_)
  refine g_aload_n S 0 dX7_setHeat_18 rfl ?_
  refine gg6 S hC hiX7 (by decide +kernel) dX7_setHeat_19 ?_
  refine gg5r S hC hiX6 (by decide) rfl 1 (by decide) (by decide +kernel) dX7_setHeat_22 ?_
  refine g_iload_n S 1 dX7_setHeat_25 rfl ?_
  refine ga11 S hC (by decide) rfl a.toNatClampNeg hbe (by first | assumption | omega) (1 + 10 + (a.toNatClampNeg)) (by omega) dX7_setHeat_26 ?_
  refine gg2 S hC hiX2 (gT1.lt2 (a := 10) (by omega)) (gT1.drum (by omega)) 1 (by decide) (by decide +kernel) dX7_setHeat_27 ?_
  refine g_istore_n S [(3, .int (σ.1 (1 + 10 + (a.toNatClampNeg)) 1)), (0, .ref (E.2.2 0)), (1, .int a), (2, .int b)] dX7_setHeat_30 (by decide) rfl ?_
  refine g_aload_n S 1 dX7_setHeat_31 rfl ?_
  refine gg6 S hC hiX7 (by decide +kernel) dX7_setHeat_32 ?_
  refine gg5r S hC hiX6 (by decide) rfl 1 (by decide) (by decide +kernel) dX7_setHeat_35 ?_
  refine g_iload_n S 2 dX7_setHeat_38 rfl ?_
  refine ga11 S hC (by decide) rfl a.toNatClampNeg hbe (by first | assumption | omega) (1 + 10 + (a.toNatClampNeg)) (by omega) dX7_setHeat_39 ?_
  refine g_iload_n S 3 dX7_setHeat_40 rfl ?_
  refine gp2 S hC hiX2 (gT1.lt2 (a := 10) (by omega)) (gT1.drum (by omega)) 1 (by decide) (by decide +kernel) dX7_setHeat_41 ?_
  refine g_nm (fun S1 hS1 => ?_)
  refine g_iload_n S 0 dX7_setHeat_44 rfl ?_
  exact g_xiret S hr hlocks dX7_setHeat_45 (by subst hS1; unfold sX7_setHeat_t; (try dsimp only); rw [if_pos c_1, if_pos c_2]) (by subst hS1; unfold sX7_setHeat_r; (try dsimp only); rw [if_pos c_1, if_pos c_2]) (by subst hS1; unfold sX7_setHeat_s; (try dsimp only); rw [if_pos c_1, if_pos c_2]) (Nat.le_of_ble_eq_true rfl) (Nat.le_of_ble_eq_true rfl)
def sX7_dig_r (σ : gS) (a : Int32) (b : Int32) : Int32 := if sX7_checkIndex_t σ a (σ.1 1 5) = 0 then (if sX7_checkNumber_t σ b (1 : Int32) (99 : Int32) = 0 then (if σ.1 (1 + 6 + (a.toNatClampNeg)) 2 < b then (0) else (let S1 := gu σ (1 + 6 + (a.toNatClampNeg)) 2 ((σ.1 (1 + 6 + (a.toNatClampNeg)) 2) - b); let S2 := sX4_add_s S1 6 (0 : Int32) b; S2.1 (1 + 6 + (a.toNatClampNeg)) 2)) else (0)) else (0)
def sX7_dig_s (σ : gS) (a : Int32) (b : Int32) : gS := if sX7_checkIndex_t σ a (σ.1 1 5) = 0 then (if sX7_checkNumber_t σ b (1 : Int32) (99 : Int32) = 0 then (if σ.1 (1 + 6 + (a.toNatClampNeg)) 2 < b then (σ) else (let S1 := gu σ (1 + 6 + (a.toNatClampNeg)) 2 ((σ.1 (1 + 6 + (a.toNatClampNeg)) 2) - b); let S2 := sX4_add_s S1 6 (0 : Int32) b; S2)) else (σ)) else (σ)
def sX7_dig_t (σ : gS) (a : Int32) (b : Int32) : Nat := if sX7_checkIndex_t σ a (σ.1 1 5) = 0 then (if sX7_checkNumber_t σ b (1 : Int32) (99 : Int32) = 0 then (if σ.1 (1 + 6 + (a.toNatClampNeg)) 2 < b then (2) else (0)) else (sX7_checkNumber_t σ b (1 : Int32) (99 : Int32))) else (sX7_checkIndex_t σ a (σ.1 1 5))
set_option maxRecDepth 100000 in
set_option maxHeartbeats 4000000 in
theorem kX7_dig (l : Launch) (hfl : l.stackTraces = false) (E : gT) (σ : gS) (a : Int32) (b : Int32) (hok : tOK σ 1) : gYi l yX7_dig wsX7_dig ({ frames := 7, cells := 3, slots := 18, locals := 112 }) 3 18 E σ [.ref (E.2.2 0), .int a, .int b] (sX7_dig_t σ a b) (sX7_dig_r σ a b) (sX7_dig_s σ a b) := by
  refine g_vmet (mc := 3) (ms := 18) (nL := 3) (ret := (some .int)) (by decide) rfl (lv := [(0, .ref (E.2.2 0)), (1, .int a), (2, .int b)]) rfl (Nat.le_of_ble_eq_true rfl) ?_
  intro p e s m below meth c S hr hlocks hout hC
  have hiX0 : ∀ w ∈ wsX00, w ∈ wsX7_dig := by decide +kernel
  have hiX6 : ∀ w ∈ wsX60, w ∈ wsX7_dig := by decide +kernel
  have hiX7 : ∀ w ∈ wsX70, w ∈ wsX7_dig := by decide +kernel
  refine g_iload_n S 1 dX7_dig_0 rfl ?_
  refine g_aload_n S 0 dX7_dig_1 rfl ?_
  refine gg6 S hC hiX7 (by decide +kernel) dX7_dig_2 ?_
  refine gg5 S hC hiX6 (by decide) rfl 5 (by decide) (by decide +kernel) dX7_dig_5 ?_
  refine g_callxv (g_xunS S hC (As := [.int a, .int (σ.1 1 5)]) (rest := []) (kX7_checkIndex l hfl E σ a (σ.1 1 5)) (va_cwS 2 S.2.2.2.2 gX7_dig_X7_checkIndex rfl rfl rfl (by decide +kernel) ⟨Nat.le_of_ble_eq_true rfl, Nat.le_of_ble_eq_true rfl⟩) rfl rfl (Nat.le_of_ble_eq_true rfl) dX7_dig_8 ⟨Nat.le_of_ble_eq_true rfl, Nat.le_of_ble_eq_true rfl⟩) (fun c_1 => g_out hlocks hout c_1 (by rw [sX7_dig_t, if_neg c_1]) (by rw [sX7_dig_s, if_neg c_1]) (Nat.le_of_ble_eq_true rfl) (Nat.le_of_ble_eq_true rfl)) (fun c_1 => ?_)
  have hle := hok.le5
  obtain ⟨hbb, hbe⟩ := ck_ix (tB σ 1 5) (hok.eq 5 (by decide) (by decide)) (by omega) c_1
  have hbl : a.toNatClampNeg < 4 := by omega
  refine g_iload_n S 2 dX7_dig_11 rfl ?_
  refine g_const S dX7_dig_12 (v := 1) rfl ?_
  refine g_bipush S dX7_dig_13 (v := 99) rfl ?_
  refine g_callxv (g_xunS S hC (As := [.int b, .int (1 : Int32), .int (99 : Int32)]) (rest := []) (kX7_checkNumber l hfl E σ b (1 : Int32) (99 : Int32)) (va_cwS 3 S.2.2.2.2 gX7_dig_X7_checkNumber rfl rfl rfl (by decide +kernel) ⟨Nat.le_of_ble_eq_true rfl, Nat.le_of_ble_eq_true rfl⟩) rfl rfl (Nat.le_of_ble_eq_true rfl) dX7_dig_15 ⟨Nat.le_of_ble_eq_true rfl, Nat.le_of_ble_eq_true rfl⟩) (fun c_2 => g_out hlocks hout c_2 (by rw [sX7_dig_t, if_pos c_1, if_neg c_2]) (by rw [sX7_dig_s, if_pos c_1, if_neg c_2]) (Nat.le_of_ble_eq_true rfl) (Nat.le_of_ble_eq_true rfl)) (fun c_2 => ?_)
  refine g_aload_n S 0 dX7_dig_18 rfl ?_
  refine gg6 S hC hiX7 (by decide +kernel) dX7_dig_19 ?_
  refine gg5r S hC hiX6 (by decide) rfl 0 (by decide) (by decide +kernel) dX7_dig_22 ?_
  refine g_iload_n S 1 dX7_dig_25 rfl ?_
  refine ga10 S hC (by decide) rfl a.toNatClampNeg hbe (by first | assumption | omega) (1 + 6 + (a.toNatClampNeg)) (by omega) dX7_dig_26 ?_
  refine gg0 S hC hiX0 (gT1.lt2 (a := 6) (by omega)) (gT1.bed (by omega)) 2 (by decide) (by decide +kernel) dX7_dig_27 ?_
  refine g_iload_n S 2 dX7_dig_30 rfl ?_
  refine g_icmp_lt S 38 dX7_dig_31 (by decide) (fun c_3 => ?_) (fun c_3 => ?_)
  · skip
    refine g_const S dX7_dig_38 (v := 0) rfl ?_
    refine g_callxv (g_xunS S hC (As := [.int (0 : Int32)]) (rest := []) (kX7_checkState l hfl E σ (0 : Int32)) (va_cwS 1 S.2.2.2.2 gX7_dig_X7_checkState rfl rfl rfl (by decide +kernel) ⟨Nat.le_of_ble_eq_true rfl, Nat.le_of_ble_eq_true rfl⟩) rfl rfl (Nat.le_of_ble_eq_true rfl) dX7_dig_39 ⟨Nat.le_of_ble_eq_true rfl, Nat.le_of_ble_eq_true rfl⟩) (fun c_4 => g_out hlocks hout c_4 (by refine Eq.trans (by rw [sX7_dig_t, if_pos c_1, if_pos c_2, if_pos c_3]) ?_; unfold sX7_checkState_t; simp) (by rw [sX7_dig_s, if_pos c_1, if_pos c_2, if_pos c_3]) (Nat.le_of_ble_eq_true rfl) (Nat.le_of_ble_eq_true rfl)) (fun c_4 => absurd c_4 (by unfold sX7_checkState_t; simp))
  · skip
    refine g_const S dX7_dig_34 (v := 1) rfl ?_
    refine g_goto S 39 dX7_dig_35 (by decide) ?_
    refine g_callxv (g_xunS S hC (As := [.int (1 : Int32)]) (rest := []) (kX7_checkState l hfl E σ (1 : Int32)) (va_cwS 1 S.2.2.2.2 gX7_dig_X7_checkState rfl rfl rfl (by decide +kernel) ⟨Nat.le_of_ble_eq_true rfl, Nat.le_of_ble_eq_true rfl⟩) rfl rfl (Nat.le_of_ble_eq_true rfl) dX7_dig_39 ⟨Nat.le_of_ble_eq_true rfl, Nat.le_of_ble_eq_true rfl⟩) (fun c_5 => absurd (by unfold sX7_checkState_t; simp) c_5) (fun c_5 => ?_)
    refine g_aload_n S 0 dX7_dig_42 rfl ?_
    refine gg6 S hC hiX7 (by decide +kernel) dX7_dig_43 ?_
    refine gg5r S hC hiX6 (by decide) rfl 0 (by decide) (by decide +kernel) dX7_dig_46 ?_
    refine g_iload_n S 1 dX7_dig_49 rfl ?_
    refine ga10 S hC (by decide) rfl a.toNatClampNeg hbe (by first | assumption | omega) (1 + 6 + (a.toNatClampNeg)) (by omega) dX7_dig_50 ?_
    refine g_dup S dX7_dig_51 rfl ?_
    refine gg0 S hC hiX0 (gT1.lt2 (a := 6) (by omega)) (gT1.bed (by omega)) 2 (by decide) (by decide +kernel) dX7_dig_52 ?_
    refine g_iload_n S 2 dX7_dig_55 rfl ?_
    refine g_isub S dX7_dig_56 ?_
    refine gp0 S hC hiX0 (gT1.lt2 (a := 6) (by omega)) (gT1.bed (by omega)) 2 (by decide) (by decide +kernel) dX7_dig_57 ?_
    refine g_nm (fun S1 hS1 => ?_)
    refine g_aload_n S 0 dX7_dig_60 rfl ?_
    refine gg6 S hC hiX7 (by decide +kernel) dX7_dig_61 ?_
    refine gg5r S hC hiX6 (by decide) rfl 4 (by decide) (by decide +kernel) dX7_dig_64 ?_
    refine g_const S dX7_dig_67 (v := 0) rfl ?_
    refine g_iload_n S 2 dX7_dig_68 rfl ?_
    refine g_callv (g_runV S hC (As := [.int (0 : Int32), .int b]) (rest := []) (k := 6) (by decide) rfl (by decide) rfl (kX4_add l E S1 6 (by decide) rfl (0 : Int32) b) (cwV 2 S.2.2.2.2 gX7_dig_X4_add rfl rfl rfl (by decide +kernel) ⟨Nat.le_of_ble_eq_true rfl, Nat.le_of_ble_eq_true rfl⟩) rfl rfl (Nat.le_of_ble_eq_true rfl) dX7_dig_69 ⟨Nat.le_of_ble_eq_true rfl, Nat.le_of_ble_eq_true rfl⟩) ?_
    refine g_nm (fun S2 hS2 => ?_)
    refine g_aload_n S 0 dX7_dig_72 rfl ?_
    refine gg6 S hC hiX7 (by decide +kernel) dX7_dig_73 ?_
    refine gg5r S hC hiX6 (by decide) rfl 0 (by decide) (by decide +kernel) dX7_dig_76 ?_
    refine g_iload_n S 1 dX7_dig_79 rfl ?_
    refine ga10 S hC (by decide) rfl a.toNatClampNeg hbe (by first | assumption | omega) (1 + 6 + (a.toNatClampNeg)) (by omega) dX7_dig_80 ?_
    refine gg0 S hC hiX0 (gT1.lt2 (a := 6) (by omega)) (gT1.bed (by omega)) 2 (by decide) (by decide +kernel) dX7_dig_81 ?_
    exact g_xiret S hr hlocks dX7_dig_84 (by subst hS2 hS1; unfold sX7_dig_t; (try dsimp only); rw [if_pos c_1, if_pos c_2, if_neg c_3]) (by subst hS2 hS1; unfold sX7_dig_r; (try dsimp only); rw [if_pos c_1, if_pos c_2, if_neg c_3]) (by subst hS2 hS1; unfold sX7_dig_s; (try dsimp only); rw [if_pos c_1, if_pos c_2, if_neg c_3]) (Nat.le_of_ble_eq_true rfl) (Nat.le_of_ble_eq_true rfl)
def sX7_give_r (σ : gS) (a : Int32) (b : Int32) : Int32 := if sX7_checkIndex_t σ a (2 : Int32) = 0 then (if sX7_checkNumber_t σ b (1 : Int32) (99 : Int32) = 0 then (let S1 := sX4_add_s σ 6 a b; sX4_stock_r S1 6 a) else (0)) else (0)
def sX7_give_s (σ : gS) (a : Int32) (b : Int32) : gS := if sX7_checkIndex_t σ a (2 : Int32) = 0 then (if sX7_checkNumber_t σ b (1 : Int32) (99 : Int32) = 0 then (let S1 := sX4_add_s σ 6 a b; S1) else (σ)) else (σ)
def sX7_give_t (σ : gS) (a : Int32) (b : Int32) : Nat := if sX7_checkIndex_t σ a (2 : Int32) = 0 then (if sX7_checkNumber_t σ b (1 : Int32) (99 : Int32) = 0 then (0) else (sX7_checkNumber_t σ b (1 : Int32) (99 : Int32))) else (sX7_checkIndex_t σ a (2 : Int32))
set_option maxRecDepth 100000 in
set_option maxHeartbeats 4000000 in
theorem kX7_give (l : Launch) (hfl : l.stackTraces = false) (E : gT) (σ : gS) (a : Int32) (b : Int32) : gYi l yX7_give wsX7_give ({ frames := 7, cells := 2, slots := 12, locals := 112 }) 2 12 E σ [.ref (E.2.2 0), .int a, .int b] (sX7_give_t σ a b) (sX7_give_r σ a b) (sX7_give_s σ a b) := by
  refine g_vmet (mc := 2) (ms := 12) (nL := 3) (ret := (some .int)) (by decide) rfl (lv := [(0, .ref (E.2.2 0)), (1, .int a), (2, .int b)]) rfl (Nat.le_of_ble_eq_true rfl) ?_
  intro p e s m below meth c S hr hlocks hout hC
  have hiX6 : ∀ w ∈ wsX60, w ∈ wsX7_give := by decide +kernel
  have hiX7 : ∀ w ∈ wsX70, w ∈ wsX7_give := by decide +kernel
  refine g_iload_n S 1 dX7_give_0 rfl ?_
  refine g_const S dX7_give_1 (v := 2) rfl ?_
  refine g_callxv (g_xunS S hC (As := [.int a, .int (2 : Int32)]) (rest := []) (kX7_checkIndex l hfl E σ a (2 : Int32)) (va_cwS 2 S.2.2.2.2 gX7_give_X7_checkIndex rfl rfl rfl (by decide +kernel) ⟨Nat.le_of_ble_eq_true rfl, Nat.le_of_ble_eq_true rfl⟩) rfl rfl (Nat.le_of_ble_eq_true rfl) dX7_give_2 ⟨Nat.le_of_ble_eq_true rfl, Nat.le_of_ble_eq_true rfl⟩) (fun c_1 => g_out hlocks hout c_1 (by rw [sX7_give_t, if_neg c_1]) (by rw [sX7_give_s, if_neg c_1]) (Nat.le_of_ble_eq_true rfl) (Nat.le_of_ble_eq_true rfl)) (fun c_1 => ?_)
  refine g_iload_n S 2 dX7_give_5 rfl ?_
  refine g_const S dX7_give_6 (v := 1) rfl ?_
  refine g_bipush S dX7_give_7 (v := 99) rfl ?_
  refine g_callxv (g_xunS S hC (As := [.int b, .int (1 : Int32), .int (99 : Int32)]) (rest := []) (kX7_checkNumber l hfl E σ b (1 : Int32) (99 : Int32)) (va_cwS 3 S.2.2.2.2 gX7_give_X7_checkNumber rfl rfl rfl (by decide +kernel) ⟨Nat.le_of_ble_eq_true rfl, Nat.le_of_ble_eq_true rfl⟩) rfl rfl (Nat.le_of_ble_eq_true rfl) dX7_give_9 ⟨Nat.le_of_ble_eq_true rfl, Nat.le_of_ble_eq_true rfl⟩) (fun c_2 => g_out hlocks hout c_2 (by rw [sX7_give_t, if_pos c_1, if_neg c_2]) (by rw [sX7_give_s, if_pos c_1, if_neg c_2]) (Nat.le_of_ble_eq_true rfl) (Nat.le_of_ble_eq_true rfl)) (fun c_2 => ?_)
  refine g_aload_n S 0 dX7_give_12 rfl ?_
  refine gg6 S hC hiX7 (by decide +kernel) dX7_give_13 ?_
  refine gg5r S hC hiX6 (by decide) rfl 4 (by decide) (by decide +kernel) dX7_give_16 ?_
  refine g_iload_n S 1 dX7_give_19 rfl ?_
  refine g_iload_n S 2 dX7_give_20 rfl ?_
  refine g_callv (g_runV S hC (As := [.int a, .int b]) (rest := []) (k := 6) (by decide) rfl (by decide) rfl (kX4_add l E σ 6 (by decide) rfl a b) (cwV 2 S.2.2.2.2 gX7_give_X4_add rfl rfl rfl (by decide +kernel) ⟨Nat.le_of_ble_eq_true rfl, Nat.le_of_ble_eq_true rfl⟩) rfl rfl (Nat.le_of_ble_eq_true rfl) dX7_give_21 ⟨Nat.le_of_ble_eq_true rfl, Nat.le_of_ble_eq_true rfl⟩) ?_
  refine g_nm (fun S1 hS1 => ?_)
  refine g_aload_n S 0 dX7_give_24 rfl ?_
  refine gg6 S hC hiX7 (by decide +kernel) dX7_give_25 ?_
  refine gg5r S hC hiX6 (by decide) rfl 4 (by decide) (by decide +kernel) dX7_give_28 ?_
  refine g_iload_n S 1 dX7_give_31 rfl ?_
  refine g_calli (g_runV S hC (As := [.int a]) (rest := []) (k := 6) (by decide) rfl (by decide) rfl (kX4_stock l E S1 6 (by decide) rfl a) (cwV 1 S.2.2.2.2 gX7_give_X4_stock rfl rfl rfl (by decide +kernel) ⟨Nat.le_of_ble_eq_true rfl, Nat.le_of_ble_eq_true rfl⟩) rfl rfl (Nat.le_of_ble_eq_true rfl) dX7_give_32 ⟨Nat.le_of_ble_eq_true rfl, Nat.le_of_ble_eq_true rfl⟩) ?_
  exact g_xiret S hr hlocks dX7_give_35 (by subst hS1; unfold sX7_give_t; (try dsimp only); rw [if_pos c_1, if_pos c_2]) (by subst hS1; unfold sX7_give_r; (try dsimp only); rw [if_pos c_1, if_pos c_2]) (by subst hS1; unfold sX7_give_s; (try dsimp only); rw [if_pos c_1, if_pos c_2]) (Nat.le_of_ble_eq_true rfl) (Nat.le_of_ble_eq_true rfl)
def sX7_load_r (σ : gS) (a : Int32) (b : Int32) (n : Int32) : Int32 := if sX7_checkIndex_t σ a (σ.1 1 6) = 0 then (if sX7_checkIndex_t σ b (2 : Int32) = 0 then (if sX7_checkNumber_t σ n (1 : Int32) (σ.1 (1 + 10 + (a.toNatClampNeg)) 0) = 0 then (if σ.1 (1 + 10 + (a.toNatClampNeg)) 2 = (-1 : Int32) then (if sX4_stock_r σ 6 b < n then (0) else (let S1 := sX4_add_s σ 6 b (-n); let S2 := sX2_fill_s S1 (1 + 10 + (a.toNatClampNeg)) b n; sX4_stock_r S2 6 b)) else (0)) else (0)) else (0)) else (0)
def sX7_load_s (σ : gS) (a : Int32) (b : Int32) (n : Int32) : gS := if sX7_checkIndex_t σ a (σ.1 1 6) = 0 then (if sX7_checkIndex_t σ b (2 : Int32) = 0 then (if sX7_checkNumber_t σ n (1 : Int32) (σ.1 (1 + 10 + (a.toNatClampNeg)) 0) = 0 then (if σ.1 (1 + 10 + (a.toNatClampNeg)) 2 = (-1 : Int32) then (if sX4_stock_r σ 6 b < n then (σ) else (let S1 := sX4_add_s σ 6 b (-n); let S2 := sX2_fill_s S1 (1 + 10 + (a.toNatClampNeg)) b n; S2)) else (σ)) else (σ)) else (σ)) else (σ)
def sX7_load_t (σ : gS) (a : Int32) (b : Int32) (n : Int32) : Nat := if sX7_checkIndex_t σ a (σ.1 1 6) = 0 then (if sX7_checkIndex_t σ b (2 : Int32) = 0 then (if sX7_checkNumber_t σ n (1 : Int32) (σ.1 (1 + 10 + (a.toNatClampNeg)) 0) = 0 then (if σ.1 (1 + 10 + (a.toNatClampNeg)) 2 = (-1 : Int32) then (if sX4_stock_r σ 6 b < n then (2) else (0)) else (2)) else (sX7_checkNumber_t σ n (1 : Int32) (σ.1 (1 + 10 + (a.toNatClampNeg)) 0))) else (sX7_checkIndex_t σ b (2 : Int32))) else (sX7_checkIndex_t σ a (σ.1 1 6))
set_option maxRecDepth 100000 in
set_option maxHeartbeats 4000000 in
theorem kX7_load (l : Launch) (hfl : l.stackTraces = false) (E : gT) (σ : gS) (a : Int32) (b : Int32) (n : Int32) (hok : tOK σ 1) : gYi l yX7_load wsX7_load ({ frames := 7, cells := 5, slots := 30, locals := 112 }) 5 30 E σ [.ref (E.2.2 0), .int a, .int b, .int n] (sX7_load_t σ a b n) (sX7_load_r σ a b n) (sX7_load_s σ a b n) := by
  refine g_vmet (mc := 5) (ms := 30) (nL := 4) (ret := (some .int)) (by decide) rfl (lv := [(0, .ref (E.2.2 0)), (1, .int a), (2, .int b), (3, .int n)]) rfl (Nat.le_of_ble_eq_true rfl) ?_
  intro p e s m below meth c S hr hlocks hout hC
  have hiX2 : ∀ w ∈ wsX20, w ∈ wsX7_load := by decide +kernel
  have hiX6 : ∀ w ∈ wsX60, w ∈ wsX7_load := by decide +kernel
  have hiX7 : ∀ w ∈ wsX70, w ∈ wsX7_load := by decide +kernel
  refine g_iload_n S 1 dX7_load_0 rfl ?_
  refine g_aload_n S 0 dX7_load_1 rfl ?_
  refine gg6 S hC hiX7 (by decide +kernel) dX7_load_2 ?_
  refine gg5 S hC hiX6 (by decide) rfl 6 (by decide) (by decide +kernel) dX7_load_5 ?_
  refine g_callxv (g_xunS S hC (As := [.int a, .int (σ.1 1 6)]) (rest := []) (kX7_checkIndex l hfl E σ a (σ.1 1 6)) (va_cwS 2 S.2.2.2.2 gX7_load_X7_checkIndex rfl rfl rfl (by decide +kernel) ⟨Nat.le_of_ble_eq_true rfl, Nat.le_of_ble_eq_true rfl⟩) rfl rfl (Nat.le_of_ble_eq_true rfl) dX7_load_8 ⟨Nat.le_of_ble_eq_true rfl, Nat.le_of_ble_eq_true rfl⟩) (fun c_1 => g_out hlocks hout c_1 (by rw [sX7_load_t, if_neg c_1]) (by rw [sX7_load_s, if_neg c_1]) (Nat.le_of_ble_eq_true rfl) (Nat.le_of_ble_eq_true rfl)) (fun c_1 => ?_)
  have hle := hok.le6
  obtain ⟨hbb, hbe⟩ := ck_ix (tB σ 1 6) (hok.eq 6 (by decide) (by decide)) (by omega) c_1
  have hbl : a.toNatClampNeg < 4 := by omega
  refine g_iload_n S 2 dX7_load_11 rfl ?_
  refine g_const S dX7_load_12 (v := 2) rfl ?_
  refine g_callxv (g_xunS S hC (As := [.int b, .int (2 : Int32)]) (rest := []) (kX7_checkIndex l hfl E σ b (2 : Int32)) (va_cwS 2 S.2.2.2.2 gX7_load_X7_checkIndex rfl rfl rfl (by decide +kernel) ⟨Nat.le_of_ble_eq_true rfl, Nat.le_of_ble_eq_true rfl⟩) rfl rfl (Nat.le_of_ble_eq_true rfl) dX7_load_13 ⟨Nat.le_of_ble_eq_true rfl, Nat.le_of_ble_eq_true rfl⟩) (fun c_2 => g_out hlocks hout c_2 (by rw [sX7_load_t, if_pos c_1, if_neg c_2]) (by rw [sX7_load_s, if_pos c_1, if_neg c_2]) (Nat.le_of_ble_eq_true rfl) (Nat.le_of_ble_eq_true rfl)) (fun c_2 => ?_)
  refine g_iload_n S 3 dX7_load_16 rfl ?_
  refine g_const S dX7_load_17 (v := 1) rfl ?_
  refine g_aload_n S 0 dX7_load_18 rfl ?_
  refine gg6 S hC hiX7 (by decide +kernel) dX7_load_19 ?_
  refine gg5r S hC hiX6 (by decide) rfl 1 (by decide) (by decide +kernel) dX7_load_22 ?_
  refine g_iload_n S 1 dX7_load_25 rfl ?_
  refine ga11 S hC (by decide) rfl a.toNatClampNeg hbe (by first | assumption | omega) (1 + 10 + (a.toNatClampNeg)) (by omega) dX7_load_26 ?_
  refine gg2 S hC hiX2 (gT1.lt2 (a := 10) (by omega)) (gT1.drum (by omega)) 0 (by decide) (by decide +kernel) dX7_load_27 ?_
  refine g_callxv (g_xunS S hC (As := [.int n, .int (1 : Int32), .int (σ.1 (1 + 10 + (a.toNatClampNeg)) 0)]) (rest := []) (kX7_checkNumber l hfl E σ n (1 : Int32) (σ.1 (1 + 10 + (a.toNatClampNeg)) 0)) (va_cwS 3 S.2.2.2.2 gX7_load_X7_checkNumber rfl rfl rfl (by decide +kernel) ⟨Nat.le_of_ble_eq_true rfl, Nat.le_of_ble_eq_true rfl⟩) rfl rfl (Nat.le_of_ble_eq_true rfl) dX7_load_30 ⟨Nat.le_of_ble_eq_true rfl, Nat.le_of_ble_eq_true rfl⟩) (fun c_3 => g_out hlocks hout c_3 (by rw [sX7_load_t, if_pos c_1, if_pos c_2, if_neg c_3]) (by rw [sX7_load_s, if_pos c_1, if_pos c_2, if_neg c_3]) (Nat.le_of_ble_eq_true rfl) (Nat.le_of_ble_eq_true rfl)) (fun c_3 => ?_)
  refine g_aload_n S 0 dX7_load_33 rfl ?_
  refine gg6 S hC hiX7 (by decide +kernel) dX7_load_34 ?_
  refine gg5r S hC hiX6 (by decide) rfl 1 (by decide) (by decide +kernel) dX7_load_37 ?_
  refine g_iload_n S 1 dX7_load_40 rfl ?_
  refine ga11 S hC (by decide) rfl a.toNatClampNeg hbe (by first | assumption | omega) (1 + 10 + (a.toNatClampNeg)) (by omega) dX7_load_41 ?_
  refine gg2 S hC hiX2 (gT1.lt2 (a := 10) (by omega)) (gT1.drum (by omega)) 2 (by decide) (by decide +kernel) dX7_load_42 ?_
  refine g_const S dX7_load_45 (v := (-1)) rfl ?_
  refine g_icmp_ne S 53 dX7_load_46 (by decide) (fun c_4 => ?_) (fun c_4 => ?_)
  · skip
    refine g_const S dX7_load_53 (v := 0) rfl ?_
    refine g_callxv (g_xunS S hC (As := [.int (0 : Int32)]) (rest := []) (kX7_checkState l hfl E σ (0 : Int32)) (va_cwS 1 S.2.2.2.2 gX7_load_X7_checkState rfl rfl rfl (by decide +kernel) ⟨Nat.le_of_ble_eq_true rfl, Nat.le_of_ble_eq_true rfl⟩) rfl rfl (Nat.le_of_ble_eq_true rfl) dX7_load_54 ⟨Nat.le_of_ble_eq_true rfl, Nat.le_of_ble_eq_true rfl⟩) (fun c_5 => g_out hlocks hout c_5 (by refine Eq.trans (by rw [sX7_load_t, if_pos c_1, if_pos c_2, if_pos c_3, if_neg c_4]) ?_; unfold sX7_checkState_t; simp) (by rw [sX7_load_s, if_pos c_1, if_pos c_2, if_pos c_3, if_neg c_4]) (Nat.le_of_ble_eq_true rfl) (Nat.le_of_ble_eq_true rfl)) (fun c_5 => absurd c_5 (by unfold sX7_checkState_t; simp))
  · skip
    refine g_const S dX7_load_49 (v := 1) rfl ?_
    refine g_goto S 54 dX7_load_50 (by decide) ?_
    refine g_callxv (g_xunS S hC (As := [.int (1 : Int32)]) (rest := []) (kX7_checkState l hfl E σ (1 : Int32)) (va_cwS 1 S.2.2.2.2 gX7_load_X7_checkState rfl rfl rfl (by decide +kernel) ⟨Nat.le_of_ble_eq_true rfl, Nat.le_of_ble_eq_true rfl⟩) rfl rfl (Nat.le_of_ble_eq_true rfl) dX7_load_54 ⟨Nat.le_of_ble_eq_true rfl, Nat.le_of_ble_eq_true rfl⟩) (fun c_6 => absurd (by unfold sX7_checkState_t; simp) c_6) (fun c_6 => ?_)
    refine g_aload_n S 0 dX7_load_57 rfl ?_
    refine gg6 S hC hiX7 (by decide +kernel) dX7_load_58 ?_
    refine gg5r S hC hiX6 (by decide) rfl 4 (by decide) (by decide +kernel) dX7_load_61 ?_
    refine g_iload_n S 2 dX7_load_64 rfl ?_
    refine g_calli (g_runV S hC (As := [.int b]) (rest := []) (k := 6) (by decide) rfl (by decide) rfl (kX4_stock l E σ 6 (by decide) rfl b) (cwV 1 S.2.2.2.2 gX7_load_X4_stock rfl rfl rfl (by decide +kernel) ⟨Nat.le_of_ble_eq_true rfl, Nat.le_of_ble_eq_true rfl⟩) rfl rfl (Nat.le_of_ble_eq_true rfl) dX7_load_65 ⟨Nat.le_of_ble_eq_true rfl, Nat.le_of_ble_eq_true rfl⟩) ?_
    refine g_iload_n S 3 dX7_load_68 rfl ?_
    refine g_icmp_lt S 76 dX7_load_69 (by decide) (fun c_7 => ?_) (fun c_7 => ?_)
    · skip
      refine g_const S dX7_load_76 (v := 0) rfl ?_
      refine g_callxv (g_xunS S hC (As := [.int (0 : Int32)]) (rest := []) (kX7_checkState l hfl E σ (0 : Int32)) (va_cwS 1 S.2.2.2.2 gX7_load_X7_checkState rfl rfl rfl (by decide +kernel) ⟨Nat.le_of_ble_eq_true rfl, Nat.le_of_ble_eq_true rfl⟩) rfl rfl (Nat.le_of_ble_eq_true rfl) dX7_load_77 ⟨Nat.le_of_ble_eq_true rfl, Nat.le_of_ble_eq_true rfl⟩) (fun c_8 => g_out hlocks hout c_8 (by refine Eq.trans (by rw [sX7_load_t, if_pos c_1, if_pos c_2, if_pos c_3, if_pos c_4, if_pos c_7]) ?_; unfold sX7_checkState_t; simp) (by rw [sX7_load_s, if_pos c_1, if_pos c_2, if_pos c_3, if_pos c_4, if_pos c_7]) (Nat.le_of_ble_eq_true rfl) (Nat.le_of_ble_eq_true rfl)) (fun c_8 => absurd c_8 (by unfold sX7_checkState_t; simp))
    · skip
      refine g_const S dX7_load_72 (v := 1) rfl ?_
      refine g_goto S 77 dX7_load_73 (by decide) ?_
      refine g_callxv (g_xunS S hC (As := [.int (1 : Int32)]) (rest := []) (kX7_checkState l hfl E σ (1 : Int32)) (va_cwS 1 S.2.2.2.2 gX7_load_X7_checkState rfl rfl rfl (by decide +kernel) ⟨Nat.le_of_ble_eq_true rfl, Nat.le_of_ble_eq_true rfl⟩) rfl rfl (Nat.le_of_ble_eq_true rfl) dX7_load_77 ⟨Nat.le_of_ble_eq_true rfl, Nat.le_of_ble_eq_true rfl⟩) (fun c_9 => absurd (by unfold sX7_checkState_t; simp) c_9) (fun c_9 => ?_)
      refine g_aload_n S 0 dX7_load_80 rfl ?_
      refine gg6 S hC hiX7 (by decide +kernel) dX7_load_81 ?_
      refine gg5r S hC hiX6 (by decide) rfl 4 (by decide) (by decide +kernel) dX7_load_84 ?_
      refine g_iload_n S 2 dX7_load_87 rfl ?_
      refine g_iload_n S 3 dX7_load_88 rfl ?_
      refine g_ineg S dX7_load_89 ?_
      refine g_callv (g_runV S hC (As := [.int b, .int (-n)]) (rest := []) (k := 6) (by decide) rfl (by decide) rfl (kX4_add l E σ 6 (by decide) rfl b (-n)) (cwV 2 S.2.2.2.2 gX7_load_X4_add rfl rfl rfl (by decide +kernel) ⟨Nat.le_of_ble_eq_true rfl, Nat.le_of_ble_eq_true rfl⟩) rfl rfl (Nat.le_of_ble_eq_true rfl) dX7_load_90 ⟨Nat.le_of_ble_eq_true rfl, Nat.le_of_ble_eq_true rfl⟩) ?_
      refine g_nm (fun S1 hS1 => ?_)
      refine g_aload_n S 0 dX7_load_93 rfl ?_
      refine gg6 S hC hiX7 (by decide +kernel) dX7_load_94 ?_
      refine gg5r S hC hiX6 (by decide) rfl 1 (by decide) (by decide +kernel) dX7_load_97 ?_
      refine g_iload_n S 1 dX7_load_100 rfl ?_
      refine ga11 S hC (by decide) rfl a.toNatClampNeg hbe (by first | assumption | omega) (1 + 10 + (a.toNatClampNeg)) (by omega) dX7_load_101 ?_
      refine g_iload_n S 2 dX7_load_102 rfl ?_
      refine g_iload_n S 3 dX7_load_103 rfl ?_
      refine g_callv (g_runV S hC (As := [.int b, .int n]) (rest := []) (k := 1 + 10 + (a.toNatClampNeg)) (gT1.lt2 (a := 10) (by omega)) (gT1.drum (by omega)) (by decide) rfl (kX2_fill l E S1 (1 + 10 + (a.toNatClampNeg)) (gT1.lt2 (a := 10) (by omega)) (gT1.drum (by omega)) b n) (cwV 2 S.2.2.2.2 gX7_load_X2_fill rfl rfl rfl (by decide +kernel) ⟨Nat.le_of_ble_eq_true rfl, Nat.le_of_ble_eq_true rfl⟩) rfl rfl (Nat.le_of_ble_eq_true rfl) dX7_load_104 ⟨Nat.le_of_ble_eq_true rfl, Nat.le_of_ble_eq_true rfl⟩) ?_
      refine g_nm (fun S2 hS2 => ?_)
      refine g_aload_n S 0 dX7_load_107 rfl ?_
      refine gg6 S hC hiX7 (by decide +kernel) dX7_load_108 ?_
      refine gg5r S hC hiX6 (by decide) rfl 4 (by decide) (by decide +kernel) dX7_load_111 ?_
      refine g_iload_n S 2 dX7_load_114 rfl ?_
      refine g_calli (g_runV S hC (As := [.int b]) (rest := []) (k := 6) (by decide) rfl (by decide) rfl (kX4_stock l E S2 6 (by decide) rfl b) (cwV 1 S.2.2.2.2 gX7_load_X4_stock rfl rfl rfl (by decide +kernel) ⟨Nat.le_of_ble_eq_true rfl, Nat.le_of_ble_eq_true rfl⟩) rfl rfl (Nat.le_of_ble_eq_true rfl) dX7_load_115 ⟨Nat.le_of_ble_eq_true rfl, Nat.le_of_ble_eq_true rfl⟩) ?_
      exact g_xiret S hr hlocks dX7_load_118 (by subst hS2 hS1; unfold sX7_load_t; (try dsimp only); rw [if_pos c_1, if_pos c_2, if_pos c_3, if_pos c_4, if_neg c_7]) (by subst hS2 hS1; unfold sX7_load_r; (try dsimp only); rw [if_pos c_1, if_pos c_2, if_pos c_3, if_pos c_4, if_neg c_7]) (by subst hS2 hS1; unfold sX7_load_s; (try dsimp only); rw [if_pos c_1, if_pos c_2, if_pos c_3, if_pos c_4, if_neg c_7]) (Nat.le_of_ble_eq_true rfl) (Nat.le_of_ble_eq_true rfl)
def sX7_take_r (σ : gS) (a : Int32) : Int32 := if sX7_checkIndex_t σ a (σ.1 1 6) = 0 then (if σ.1 (1 + 10 + (a.toNatClampNeg)) 2 = (-1 : Int32) then (0) else (sX2_partsAt_r σ (1 + 10 + (a.toNatClampNeg)) (σ.1 (1 + 10 + (a.toNatClampNeg)) 4))) else (0)
def sX7_take_s (σ : gS) (a : Int32) : gS := if sX7_checkIndex_t σ a (σ.1 1 6) = 0 then (if σ.1 (1 + 10 + (a.toNatClampNeg)) 2 = (-1 : Int32) then (σ) else (let S1 := sX4_addRoasted_s σ 6 (σ.1 (1 + 10 + (a.toNatClampNeg)) 2) (sX2_partsAt_r σ (1 + 10 + (a.toNatClampNeg)) (σ.1 (1 + 10 + (a.toNatClampNeg)) 4)); let S2 := sX2_fill_s S1 (1 + 10 + (a.toNatClampNeg)) (-1 : Int32) (0 : Int32); S2)) else (σ)
def sX7_take_t (σ : gS) (a : Int32) : Nat := if sX7_checkIndex_t σ a (σ.1 1 6) = 0 then (if σ.1 (1 + 10 + (a.toNatClampNeg)) 2 = (-1 : Int32) then (2) else (0)) else (sX7_checkIndex_t σ a (σ.1 1 6))
set_option maxRecDepth 100000 in
set_option maxHeartbeats 4000000 in
theorem kX7_take (l : Launch) (hfl : l.stackTraces = false) (E : gT) (σ : gS) (a : Int32) (hok : tOK σ 1) : gYi l yX7_take wsX7_take ({ frames := 7, cells := 2, slots := 12, locals := 111 }) 2 12 E σ [.ref (E.2.2 0), .int a] (sX7_take_t σ a) (sX7_take_r σ a) (sX7_take_s σ a) := by
  refine g_vmet (mc := 2) (ms := 12) (nL := 4) (ret := (some .int)) (by decide) rfl (lv := [(0, .ref (E.2.2 0)), (1, .int a)]) rfl (Nat.le_of_ble_eq_true rfl) ?_
  intro p e s m below meth c S hr hlocks hout hC
  have hiX2 : ∀ w ∈ wsX20, w ∈ wsX7_take := by decide +kernel
  have hiX6 : ∀ w ∈ wsX60, w ∈ wsX7_take := by decide +kernel
  have hiX7 : ∀ w ∈ wsX70, w ∈ wsX7_take := by decide +kernel
  refine g_iload_n S 1 dX7_take_0 rfl ?_
  refine g_aload_n S 0 dX7_take_1 rfl ?_
  refine gg6 S hC hiX7 (by decide +kernel) dX7_take_2 ?_
  refine gg5 S hC hiX6 (by decide) rfl 6 (by decide) (by decide +kernel) dX7_take_5 ?_
  refine g_callxv (g_xunS S hC (As := [.int a, .int (σ.1 1 6)]) (rest := []) (kX7_checkIndex l hfl E σ a (σ.1 1 6)) (va_cwS 2 S.2.2.2.2 gX7_take_X7_checkIndex rfl rfl rfl (by decide +kernel) ⟨Nat.le_of_ble_eq_true rfl, Nat.le_of_ble_eq_true rfl⟩) rfl rfl (Nat.le_of_ble_eq_true rfl) dX7_take_8 ⟨Nat.le_of_ble_eq_true rfl, Nat.le_of_ble_eq_true rfl⟩) (fun c_1 => g_out hlocks hout c_1 (by rw [sX7_take_t, if_neg c_1]) (by rw [sX7_take_s, if_neg c_1]) (Nat.le_of_ble_eq_true rfl) (Nat.le_of_ble_eq_true rfl)) (fun c_1 => ?_)
  have hle := hok.le6
  obtain ⟨hbb, hbe⟩ := ck_ix (tB σ 1 6) (hok.eq 6 (by decide) (by decide)) (by omega) c_1
  have hbl : a.toNatClampNeg < 4 := by omega
  refine g_aload_n S 0 dX7_take_11 rfl ?_
  refine gg6 S hC hiX7 (by decide +kernel) dX7_take_12 ?_
  refine gg5r S hC hiX6 (by decide) rfl 1 (by decide) (by decide +kernel) dX7_take_15 ?_
  refine g_iload_n S 1 dX7_take_18 rfl ?_
  refine ga11 S hC (by decide) rfl a.toNatClampNeg hbe (by first | assumption | omega) (1 + 10 + (a.toNatClampNeg)) (by omega) dX7_take_19 ?_
  refine g_astore_n S [(2, .ref (E.2.2 (1 + 10 + (a.toNatClampNeg)))), (0, .ref (E.2.2 0)), (1, .int a)] dX7_take_20 (by decide) rfl ?_
  refine g_aload_n S 0 dX7_take_21 rfl ?_
  refine gg2 S hC hiX2 (gT1.lt2 (a := 10) (by omega)) (gT1.drum (by omega)) 2 (by decide) (by decide +kernel) dX7_take_22 ?_
  refine g_const S dX7_take_25 (v := (-1)) rfl ?_
  refine g_icmp_eq S 33 dX7_take_26 (by decide) (fun c_2 => ?_) (fun c_2 => ?_)
  · skip
    refine g_const S dX7_take_33 (v := 0) rfl ?_
    refine g_callxv (g_xunS S hC (As := [.int (0 : Int32)]) (rest := []) (kX7_checkState l hfl E σ (0 : Int32)) (va_cwS 1 S.2.2.2.2 gX7_take_X7_checkState rfl rfl rfl (by decide +kernel) ⟨Nat.le_of_ble_eq_true rfl, Nat.le_of_ble_eq_true rfl⟩) rfl rfl (Nat.le_of_ble_eq_true rfl) dX7_take_34 ⟨Nat.le_of_ble_eq_true rfl, Nat.le_of_ble_eq_true rfl⟩) (fun c_3 => g_out hlocks hout c_3 (by refine Eq.trans (by rw [sX7_take_t, if_pos c_1, if_pos c_2]) ?_; unfold sX7_checkState_t; simp) (by rw [sX7_take_s, if_pos c_1, if_pos c_2]) (Nat.le_of_ble_eq_true rfl) (Nat.le_of_ble_eq_true rfl)) (fun c_3 => absurd c_3 (by unfold sX7_checkState_t; simp))
  · skip
    refine g_const S dX7_take_29 (v := 1) rfl ?_
    refine g_goto S 34 dX7_take_30 (by decide) ?_
    refine g_callxv (g_xunS S hC (As := [.int (1 : Int32)]) (rest := []) (kX7_checkState l hfl E σ (1 : Int32)) (va_cwS 1 S.2.2.2.2 gX7_take_X7_checkState rfl rfl rfl (by decide +kernel) ⟨Nat.le_of_ble_eq_true rfl, Nat.le_of_ble_eq_true rfl⟩) rfl rfl (Nat.le_of_ble_eq_true rfl) dX7_take_34 ⟨Nat.le_of_ble_eq_true rfl, Nat.le_of_ble_eq_true rfl⟩) (fun c_4 => absurd (by unfold sX7_checkState_t; simp) c_4) (fun c_4 => ?_)
    refine g_aload_n S 0 dX7_take_37 rfl ?_
    refine g_aload_n S 0 dX7_take_38 rfl ?_
    refine gg2 S hC hiX2 (gT1.lt2 (a := 10) (by omega)) (gT1.drum (by omega)) 4 (by decide) (by decide +kernel) dX7_take_39 ?_
    refine g_calli (g_runV S hC (As := [.int (σ.1 (1 + 10 + (a.toNatClampNeg)) 4)]) (rest := []) (k := 1 + 10 + (a.toNatClampNeg)) (gT1.lt2 (a := 10) (by omega)) (gT1.drum (by omega)) (by decide) rfl (kX2_partsAt l E σ (1 + 10 + (a.toNatClampNeg)) (gT1.lt2 (a := 10) (by omega)) (gT1.drum (by omega)) (σ.1 (1 + 10 + (a.toNatClampNeg)) 4)) (cwV 1 S.2.2.2.2 gX7_take_X2_partsAt rfl rfl rfl (by decide +kernel) ⟨Nat.le_of_ble_eq_true rfl, Nat.le_of_ble_eq_true rfl⟩) rfl rfl (Nat.le_of_ble_eq_true rfl) dX7_take_42 ⟨Nat.le_of_ble_eq_true rfl, Nat.le_of_ble_eq_true rfl⟩) ?_
    refine g_istore_n S [(3, .int (sX2_partsAt_r σ (1 + 10 + (a.toNatClampNeg)) (σ.1 (1 + 10 + (a.toNatClampNeg)) 4))), (2, .ref (E.2.2 (1 + 10 + (a.toNatClampNeg)))), (0, .ref (E.2.2 0)), (1, .int a)] dX7_take_45 (by decide) rfl ?_
    refine g_aload_n S 2 dX7_take_46 rfl ?_
    refine gg6 S hC hiX7 (by decide +kernel) dX7_take_47 ?_
    refine gg5r S hC hiX6 (by decide) rfl 4 (by decide) (by decide +kernel) dX7_take_50 ?_
    refine g_aload_n S 1 dX7_take_53 rfl ?_
    refine gg2 S hC hiX2 (gT1.lt2 (a := 10) (by omega)) (gT1.drum (by omega)) 2 (by decide) (by decide +kernel) dX7_take_54 ?_
    refine g_iload_n S 0 dX7_take_57 rfl ?_
    refine g_callv (g_runV S hC (As := [.int (σ.1 (1 + 10 + (a.toNatClampNeg)) 2), .int (sX2_partsAt_r σ (1 + 10 + (a.toNatClampNeg)) (σ.1 (1 + 10 + (a.toNatClampNeg)) 4))]) (rest := []) (k := 6) (by decide) rfl (by decide) rfl (kX4_addRoasted l E σ 6 (by decide) rfl (σ.1 (1 + 10 + (a.toNatClampNeg)) 2) (sX2_partsAt_r σ (1 + 10 + (a.toNatClampNeg)) (σ.1 (1 + 10 + (a.toNatClampNeg)) 4))) (cwV 2 S.2.2.2.2 gX7_take_X4_addRoasted rfl rfl rfl (by decide +kernel) ⟨Nat.le_of_ble_eq_true rfl, Nat.le_of_ble_eq_true rfl⟩) rfl rfl (Nat.le_of_ble_eq_true rfl) dX7_take_58 ⟨Nat.le_of_ble_eq_true rfl, Nat.le_of_ble_eq_true rfl⟩) ?_
    refine g_nm (fun S1 hS1 => ?_)
    refine g_aload_n S 1 dX7_take_61 rfl ?_
    refine g_const S dX7_take_62 (v := (-1)) rfl ?_
    refine g_const S dX7_take_63 (v := 0) rfl ?_
    refine g_callv (g_runV S hC (As := [.int (-1 : Int32), .int (0 : Int32)]) (rest := []) (k := 1 + 10 + (a.toNatClampNeg)) (gT1.lt2 (a := 10) (by omega)) (gT1.drum (by omega)) (by decide) rfl (kX2_fill l E S1 (1 + 10 + (a.toNatClampNeg)) (gT1.lt2 (a := 10) (by omega)) (gT1.drum (by omega)) (-1 : Int32) (0 : Int32)) (cwV 2 S.2.2.2.2 gX7_take_X2_fill rfl rfl rfl (by decide +kernel) ⟨Nat.le_of_ble_eq_true rfl, Nat.le_of_ble_eq_true rfl⟩) rfl rfl (Nat.le_of_ble_eq_true rfl) dX7_take_64 ⟨Nat.le_of_ble_eq_true rfl, Nat.le_of_ble_eq_true rfl⟩) ?_
    refine g_nm (fun S2 hS2 => ?_)
    refine g_iload_n S 0 dX7_take_67 rfl ?_
    exact g_xiret S hr hlocks dX7_take_68 (by subst hS2 hS1; unfold sX7_take_t; (try dsimp only); rw [if_pos c_1, if_neg c_2]) (by subst hS2 hS1; unfold sX7_take_r; (try dsimp only); rw [if_pos c_1, if_neg c_2]) (by subst hS2 hS1; unfold sX7_take_s; (try dsimp only); rw [if_pos c_1, if_neg c_2]) (Nat.le_of_ble_eq_true rfl) (Nat.le_of_ble_eq_true rfl)
def sX7_send_r (σ : gS) (a : Int32) : Int32 := if sX7_checkIndex_t σ a (σ.1 1 7) = 0 then (if σ.1 (1 + 14 + (a.toNatClampNeg)) 2 = 0 then (let S1 := sX3_setOut_s σ (1 + 14 + (a.toNatClampNeg)); S1.1 (1 + 14 + (a.toNatClampNeg)) 3) else (0)) else (0)
def sX7_send_s (σ : gS) (a : Int32) : gS := if sX7_checkIndex_t σ a (σ.1 1 7) = 0 then (if σ.1 (1 + 14 + (a.toNatClampNeg)) 2 = 0 then (let S1 := sX3_setOut_s σ (1 + 14 + (a.toNatClampNeg)); S1) else (σ)) else (σ)
def sX7_send_t (σ : gS) (a : Int32) : Nat := if sX7_checkIndex_t σ a (σ.1 1 7) = 0 then (if σ.1 (1 + 14 + (a.toNatClampNeg)) 2 = 0 then (0) else (2)) else (sX7_checkIndex_t σ a (σ.1 1 7))
set_option maxRecDepth 100000 in
set_option maxHeartbeats 4000000 in
theorem kX7_send (l : Launch) (hfl : l.stackTraces = false) (E : gT) (σ : gS) (a : Int32) (hok : tOK σ 1) : gYi l yX7_send wsX7_send ({ frames := 7, cells := 2, slots := 12, locals := 111 }) 2 12 E σ [.ref (E.2.2 0), .int a] (sX7_send_t σ a) (sX7_send_r σ a) (sX7_send_s σ a) := by
  refine g_vmet (mc := 2) (ms := 12) (nL := 2) (ret := (some .int)) (by decide) rfl (lv := [(0, .ref (E.2.2 0)), (1, .int a)]) rfl (Nat.le_of_ble_eq_true rfl) ?_
  intro p e s m below meth c S hr hlocks hout hC
  have hiX3 : ∀ w ∈ wsX30, w ∈ wsX7_send := by decide +kernel
  have hiX6 : ∀ w ∈ wsX60, w ∈ wsX7_send := by decide +kernel
  have hiX7 : ∀ w ∈ wsX70, w ∈ wsX7_send := by decide +kernel
  refine g_iload_n S 1 dX7_send_0 rfl ?_
  refine g_aload_n S 0 dX7_send_1 rfl ?_
  refine gg6 S hC hiX7 (by decide +kernel) dX7_send_2 ?_
  refine gg5 S hC hiX6 (by decide) rfl 7 (by decide) (by decide +kernel) dX7_send_5 ?_
  refine g_callxv (g_xunS S hC (As := [.int a, .int (σ.1 1 7)]) (rest := []) (kX7_checkIndex l hfl E σ a (σ.1 1 7)) (va_cwS 2 S.2.2.2.2 gX7_send_X7_checkIndex rfl rfl rfl (by decide +kernel) ⟨Nat.le_of_ble_eq_true rfl, Nat.le_of_ble_eq_true rfl⟩) rfl rfl (Nat.le_of_ble_eq_true rfl) dX7_send_8 ⟨Nat.le_of_ble_eq_true rfl, Nat.le_of_ble_eq_true rfl⟩) (fun c_1 => g_out hlocks hout c_1 (by rw [sX7_send_t, if_neg c_1]) (by rw [sX7_send_s, if_neg c_1]) (Nat.le_of_ble_eq_true rfl) (Nat.le_of_ble_eq_true rfl)) (fun c_1 => ?_)
  have hle := hok.le7
  obtain ⟨hbb, hbe⟩ := ck_ix (tB σ 1 7) (hok.eq 7 (by decide) (by decide)) (by omega) c_1
  have hbl : a.toNatClampNeg < 4 := by omega
  refine g_aload_n S 0 dX7_send_11 rfl ?_
  refine gg6 S hC hiX7 (by decide +kernel) dX7_send_12 ?_
  refine gg5r S hC hiX6 (by decide) rfl 2 (by decide) (by decide +kernel) dX7_send_15 ?_
  refine g_iload_n S 1 dX7_send_18 rfl ?_
  refine ga12 S hC (by decide) rfl a.toNatClampNeg hbe (by first | assumption | omega) (1 + 14 + (a.toNatClampNeg)) (by omega) dX7_send_19 ?_
  refine gg3 S hC hiX3 (gT1.lt2 (a := 14) (by omega)) (gT1.smug (by omega)) 2 (by decide) (by decide +kernel) dX7_send_20 ?_
  refine g_if_ne S 30 dX7_send_23 (by decide) (fun c_2 => ?_) (fun c_2 => ?_)
  · skip
    refine g_const S dX7_send_30 (v := 0) rfl ?_
    refine g_callxv (g_xunS S hC (As := [.int (0 : Int32)]) (rest := []) (kX7_checkState l hfl E σ (0 : Int32)) (va_cwS 1 S.2.2.2.2 gX7_send_X7_checkState rfl rfl rfl (by decide +kernel) ⟨Nat.le_of_ble_eq_true rfl, Nat.le_of_ble_eq_true rfl⟩) rfl rfl (Nat.le_of_ble_eq_true rfl) dX7_send_31 ⟨Nat.le_of_ble_eq_true rfl, Nat.le_of_ble_eq_true rfl⟩) (fun c_3 => g_out hlocks hout c_3 (by refine Eq.trans (by rw [sX7_send_t, if_pos c_1, if_neg c_2]) ?_; unfold sX7_checkState_t; simp) (by rw [sX7_send_s, if_pos c_1, if_neg c_2]) (Nat.le_of_ble_eq_true rfl) (Nat.le_of_ble_eq_true rfl)) (fun c_3 => absurd c_3 (by unfold sX7_checkState_t; simp))
  · skip
    refine g_const S dX7_send_26 (v := 1) rfl ?_
    refine g_goto S 31 dX7_send_27 (by decide) ?_
    refine g_callxv (g_xunS S hC (As := [.int (1 : Int32)]) (rest := []) (kX7_checkState l hfl E σ (1 : Int32)) (va_cwS 1 S.2.2.2.2 gX7_send_X7_checkState rfl rfl rfl (by decide +kernel) ⟨Nat.le_of_ble_eq_true rfl, Nat.le_of_ble_eq_true rfl⟩) rfl rfl (Nat.le_of_ble_eq_true rfl) dX7_send_31 ⟨Nat.le_of_ble_eq_true rfl, Nat.le_of_ble_eq_true rfl⟩) (fun c_4 => absurd (by unfold sX7_checkState_t; simp) c_4) (fun c_4 => ?_)
    refine g_aload_n S 0 dX7_send_34 rfl ?_
    refine gg6 S hC hiX7 (by decide +kernel) dX7_send_35 ?_
    refine gg5r S hC hiX6 (by decide) rfl 2 (by decide) (by decide +kernel) dX7_send_38 ?_
    refine g_iload_n S 1 dX7_send_41 rfl ?_
    refine ga12 S hC (by decide) rfl a.toNatClampNeg hbe (by first | assumption | omega) (1 + 14 + (a.toNatClampNeg)) (by omega) dX7_send_42 ?_
    refine g_callv (g_runV S hC (As := []) (rest := []) (k := 1 + 14 + (a.toNatClampNeg)) (gT1.lt2 (a := 14) (by omega)) (gT1.smug (by omega)) (by decide) rfl (kX3_setOut l E σ (1 + 14 + (a.toNatClampNeg)) (gT1.lt2 (a := 14) (by omega)) (gT1.smug (by omega))) (cwV 0 S.2.2.2.2 gX7_send_X3_setOut rfl rfl rfl (by decide +kernel) ⟨Nat.le_of_ble_eq_true rfl, Nat.le_of_ble_eq_true rfl⟩) rfl rfl (Nat.le_of_ble_eq_true rfl) dX7_send_43 ⟨Nat.le_of_ble_eq_true rfl, Nat.le_of_ble_eq_true rfl⟩) ?_
    refine g_nm (fun S1 hS1 => ?_)
    refine g_aload_n S 0 dX7_send_46 rfl ?_
    refine gg6 S hC hiX7 (by decide +kernel) dX7_send_47 ?_
    refine gg5r S hC hiX6 (by decide) rfl 2 (by decide) (by decide +kernel) dX7_send_50 ?_
    refine g_iload_n S 1 dX7_send_53 rfl ?_
    refine ga12 S hC (by decide) rfl a.toNatClampNeg hbe (by first | assumption | omega) (1 + 14 + (a.toNatClampNeg)) (by omega) dX7_send_54 ?_
    refine gg3 S hC hiX3 (gT1.lt2 (a := 14) (by omega)) (gT1.smug (by omega)) 3 (by decide) (by decide +kernel) dX7_send_55 ?_
    exact g_xiret S hr hlocks dX7_send_58 (by subst hS1; unfold sX7_send_t; (try dsimp only); rw [if_pos c_1, if_pos c_2]) (by subst hS1; unfold sX7_send_r; (try dsimp only); rw [if_pos c_1, if_pos c_2]) (by subst hS1; unfold sX7_send_s; (try dsimp only); rw [if_pos c_1, if_pos c_2]) (Nat.le_of_ble_eq_true rfl) (Nat.le_of_ble_eq_true rfl)
def sX7_about_r (σ : gS) (a : Int32) (b : Int32) : Int32 := if sX7_checkIndex_t σ a (σ.1 1 5) = 0 then (if sX7_ask_k0_t σ (1 + 6 + (a.toNatClampNeg)) b = 0 then (sX7_ask_k0_r σ (1 + 6 + (a.toNatClampNeg)) b) else (0)) else (0)
def sX7_about_t (σ : gS) (a : Int32) (b : Int32) : Nat := if sX7_checkIndex_t σ a (σ.1 1 5) = 0 then (if sX7_ask_k0_t σ (1 + 6 + (a.toNatClampNeg)) b = 0 then (0) else (sX7_ask_k0_t σ (1 + 6 + (a.toNatClampNeg)) b)) else (sX7_checkIndex_t σ a (σ.1 1 5))
set_option maxRecDepth 100000 in
set_option maxHeartbeats 4000000 in
theorem kX7_about (l : Launch) (hfl : l.stackTraces = false) (E : gT) (σ : gS) (a : Int32) (b : Int32) (hok : tOK σ 1) : gYi l yX7_about wsX7_about ({ frames := 8, cells := 2, slots := 12, locals := 132 }) 2 12 E σ [.ref (E.2.2 0), .int a, .int b] (sX7_about_t σ a b) (sX7_about_r σ a b) σ := by
  refine g_vmet (mc := 2) (ms := 12) (nL := 3) (ret := (some .int)) (by decide) rfl (lv := [(0, .ref (E.2.2 0)), (1, .int a), (2, .int b)]) rfl (Nat.le_of_ble_eq_true rfl) ?_
  intro p e s m below meth c S hr hlocks hout hC
  have hiX6 : ∀ w ∈ wsX60, w ∈ wsX7_about := by decide +kernel
  have hiX7 : ∀ w ∈ wsX70, w ∈ wsX7_about := by decide +kernel
  refine g_iload_n S 1 dX7_about_0 rfl ?_
  refine g_aload_n S 0 dX7_about_1 rfl ?_
  refine gg6 S hC hiX7 (by decide +kernel) dX7_about_2 ?_
  refine gg5 S hC hiX6 (by decide) rfl 5 (by decide) (by decide +kernel) dX7_about_5 ?_
  refine g_callxv (g_xunS S hC (As := [.int a, .int (σ.1 1 5)]) (rest := []) (kX7_checkIndex l hfl E σ a (σ.1 1 5)) (va_cwS 2 S.2.2.2.2 gX7_about_X7_checkIndex rfl rfl rfl (by decide +kernel) ⟨Nat.le_of_ble_eq_true rfl, Nat.le_of_ble_eq_true rfl⟩) rfl rfl (Nat.le_of_ble_eq_true rfl) dX7_about_8 ⟨Nat.le_of_ble_eq_true rfl, Nat.le_of_ble_eq_true rfl⟩) (fun c_1 => g_out hlocks hout c_1 (by rw [sX7_about_t, if_neg c_1]) rfl (Nat.le_of_ble_eq_true rfl) (Nat.le_of_ble_eq_true rfl)) (fun c_1 => ?_)
  have hle := hok.le5
  obtain ⟨hbb, hbe⟩ := ck_ix (tB σ 1 5) (hok.eq 5 (by decide) (by decide)) (by omega) c_1
  have hbl : a.toNatClampNeg < 4 := by omega
  refine g_aload_n S 0 dX7_about_11 rfl ?_
  refine gg6 S hC hiX7 (by decide +kernel) dX7_about_12 ?_
  refine gg5r S hC hiX6 (by decide) rfl 0 (by decide) (by decide +kernel) dX7_about_15 ?_
  refine g_iload_n S 1 dX7_about_18 rfl ?_
  refine ga10 S hC (by decide) rfl a.toNatClampNeg hbe (by first | assumption | omega) (1 + 6 + (a.toNatClampNeg)) (by omega) dX7_about_19 ?_
  refine g_iload_n S 2 dX7_about_20 rfl ?_
  refine g_callxi (g_xunS S hC (As := [.ref (E.2.2 (1 + 6 + (a.toNatClampNeg))), .int b]) (rest := []) (kX7_ask_k0 l hfl E σ (1 + 6 + (a.toNatClampNeg)) (gT1.lt2 (a := 6) (by omega)) (gT1.bed (by omega)) b) (va_cwS 2 S.2.2.2.2 gX7_about_X7_ask rfl rfl rfl (by decide +kernel) ⟨Nat.le_of_ble_eq_true rfl, Nat.le_of_ble_eq_true rfl⟩) rfl rfl (Nat.le_of_ble_eq_true rfl) dX7_about_21 ⟨Nat.le_of_ble_eq_true rfl, Nat.le_of_ble_eq_true rfl⟩) (fun c_2 => g_out hlocks hout c_2 (by rw [sX7_about_t, if_pos c_1, if_neg c_2]) rfl (Nat.le_of_ble_eq_true rfl) (Nat.le_of_ble_eq_true rfl)) (fun c_2 => ?_)
  exact g_xiret S hr hlocks dX7_about_24 (by rw [sX7_about_t, if_pos c_1, if_pos c_2]) (by rw [sX7_about_r, if_pos c_1, if_pos c_2]) rfl (Nat.le_of_ble_eq_true rfl) (Nat.le_of_ble_eq_true rfl)
def sX7_roast_r (σ : gS) (a : Int32) (b : Int32) : Int32 := if sX7_checkIndex_t σ a (σ.1 1 6) = 0 then (if sX7_ask_k2_t σ (1 + 10 + (a.toNatClampNeg)) b = 0 then (sX7_ask_k2_r σ (1 + 10 + (a.toNatClampNeg)) b) else (0)) else (0)
def sX7_roast_t (σ : gS) (a : Int32) (b : Int32) : Nat := if sX7_checkIndex_t σ a (σ.1 1 6) = 0 then (if sX7_ask_k2_t σ (1 + 10 + (a.toNatClampNeg)) b = 0 then (0) else (sX7_ask_k2_t σ (1 + 10 + (a.toNatClampNeg)) b)) else (sX7_checkIndex_t σ a (σ.1 1 6))
set_option maxRecDepth 100000 in
set_option maxHeartbeats 4000000 in
theorem kX7_roast (l : Launch) (hfl : l.stackTraces = false) (E : gT) (σ : gS) (a : Int32) (b : Int32) (hok : tOK σ 1) : gYi l yX7_roast wsX7_roast ({ frames := 8, cells := 2, slots := 12, locals := 132 }) 2 12 E σ [.ref (E.2.2 0), .int a, .int b] (sX7_roast_t σ a b) (sX7_roast_r σ a b) σ := by
  refine g_vmet (mc := 2) (ms := 12) (nL := 3) (ret := (some .int)) (by decide) rfl (lv := [(0, .ref (E.2.2 0)), (1, .int a), (2, .int b)]) rfl (Nat.le_of_ble_eq_true rfl) ?_
  intro p e s m below meth c S hr hlocks hout hC
  have hiX6 : ∀ w ∈ wsX60, w ∈ wsX7_roast := by decide +kernel
  have hiX7 : ∀ w ∈ wsX70, w ∈ wsX7_roast := by decide +kernel
  refine g_iload_n S 1 dX7_roast_0 rfl ?_
  refine g_aload_n S 0 dX7_roast_1 rfl ?_
  refine gg6 S hC hiX7 (by decide +kernel) dX7_roast_2 ?_
  refine gg5 S hC hiX6 (by decide) rfl 6 (by decide) (by decide +kernel) dX7_roast_5 ?_
  refine g_callxv (g_xunS S hC (As := [.int a, .int (σ.1 1 6)]) (rest := []) (kX7_checkIndex l hfl E σ a (σ.1 1 6)) (va_cwS 2 S.2.2.2.2 gX7_roast_X7_checkIndex rfl rfl rfl (by decide +kernel) ⟨Nat.le_of_ble_eq_true rfl, Nat.le_of_ble_eq_true rfl⟩) rfl rfl (Nat.le_of_ble_eq_true rfl) dX7_roast_8 ⟨Nat.le_of_ble_eq_true rfl, Nat.le_of_ble_eq_true rfl⟩) (fun c_1 => g_out hlocks hout c_1 (by rw [sX7_roast_t, if_neg c_1]) rfl (Nat.le_of_ble_eq_true rfl) (Nat.le_of_ble_eq_true rfl)) (fun c_1 => ?_)
  have hle := hok.le6
  obtain ⟨hbb, hbe⟩ := ck_ix (tB σ 1 6) (hok.eq 6 (by decide) (by decide)) (by omega) c_1
  have hbl : a.toNatClampNeg < 4 := by omega
  refine g_aload_n S 0 dX7_roast_11 rfl ?_
  refine gg6 S hC hiX7 (by decide +kernel) dX7_roast_12 ?_
  refine gg5r S hC hiX6 (by decide) rfl 1 (by decide) (by decide +kernel) dX7_roast_15 ?_
  refine g_iload_n S 1 dX7_roast_18 rfl ?_
  refine ga11 S hC (by decide) rfl a.toNatClampNeg hbe (by first | assumption | omega) (1 + 10 + (a.toNatClampNeg)) (by omega) dX7_roast_19 ?_
  refine g_iload_n S 2 dX7_roast_20 rfl ?_
  refine g_callxi (g_xunS S hC (As := [.ref (E.2.2 (1 + 10 + (a.toNatClampNeg))), .int b]) (rest := []) (kX7_ask_k2 l hfl E σ (1 + 10 + (a.toNatClampNeg)) (gT1.lt2 (a := 10) (by omega)) (gT1.drum (by omega)) b) (va_cwS 2 S.2.2.2.2 gX7_roast_X7_ask rfl rfl rfl (by decide +kernel) ⟨Nat.le_of_ble_eq_true rfl, Nat.le_of_ble_eq_true rfl⟩) rfl rfl (Nat.le_of_ble_eq_true rfl) dX7_roast_21 ⟨Nat.le_of_ble_eq_true rfl, Nat.le_of_ble_eq_true rfl⟩) (fun c_2 => g_out hlocks hout c_2 (by rw [sX7_roast_t, if_pos c_1, if_neg c_2]) rfl (Nat.le_of_ble_eq_true rfl) (Nat.le_of_ble_eq_true rfl)) (fun c_2 => ?_)
  exact g_xiret S hr hlocks dX7_roast_24 (by rw [sX7_roast_t, if_pos c_1, if_pos c_2]) (by rw [sX7_roast_r, if_pos c_1, if_pos c_2]) rfl (Nat.le_of_ble_eq_true rfl) (Nat.le_of_ble_eq_true rfl)
def sX7_told_r (σ : gS) (a : Int32) (b : Int32) : Int32 := if sX7_checkIndex_t σ a (σ.1 1 7) = 0 then (if sX7_ask_k3_t σ (1 + 14 + (a.toNatClampNeg)) b = 0 then (sX7_ask_k3_r σ (1 + 14 + (a.toNatClampNeg)) b) else (0)) else (0)
def sX7_told_t (σ : gS) (a : Int32) (b : Int32) : Nat := if sX7_checkIndex_t σ a (σ.1 1 7) = 0 then (if sX7_ask_k3_t σ (1 + 14 + (a.toNatClampNeg)) b = 0 then (0) else (sX7_ask_k3_t σ (1 + 14 + (a.toNatClampNeg)) b)) else (sX7_checkIndex_t σ a (σ.1 1 7))
set_option maxRecDepth 100000 in
set_option maxHeartbeats 4000000 in
theorem kX7_told (l : Launch) (hfl : l.stackTraces = false) (E : gT) (σ : gS) (a : Int32) (b : Int32) (hok : tOK σ 1) : gYi l yX7_told wsX7_told ({ frames := 8, cells := 2, slots := 12, locals := 132 }) 2 12 E σ [.ref (E.2.2 0), .int a, .int b] (sX7_told_t σ a b) (sX7_told_r σ a b) σ := by
  refine g_vmet (mc := 2) (ms := 12) (nL := 3) (ret := (some .int)) (by decide) rfl (lv := [(0, .ref (E.2.2 0)), (1, .int a), (2, .int b)]) rfl (Nat.le_of_ble_eq_true rfl) ?_
  intro p e s m below meth c S hr hlocks hout hC
  have hiX6 : ∀ w ∈ wsX60, w ∈ wsX7_told := by decide +kernel
  have hiX7 : ∀ w ∈ wsX70, w ∈ wsX7_told := by decide +kernel
  refine g_iload_n S 1 dX7_told_0 rfl ?_
  refine g_aload_n S 0 dX7_told_1 rfl ?_
  refine gg6 S hC hiX7 (by decide +kernel) dX7_told_2 ?_
  refine gg5 S hC hiX6 (by decide) rfl 7 (by decide) (by decide +kernel) dX7_told_5 ?_
  refine g_callxv (g_xunS S hC (As := [.int a, .int (σ.1 1 7)]) (rest := []) (kX7_checkIndex l hfl E σ a (σ.1 1 7)) (va_cwS 2 S.2.2.2.2 gX7_told_X7_checkIndex rfl rfl rfl (by decide +kernel) ⟨Nat.le_of_ble_eq_true rfl, Nat.le_of_ble_eq_true rfl⟩) rfl rfl (Nat.le_of_ble_eq_true rfl) dX7_told_8 ⟨Nat.le_of_ble_eq_true rfl, Nat.le_of_ble_eq_true rfl⟩) (fun c_1 => g_out hlocks hout c_1 (by rw [sX7_told_t, if_neg c_1]) rfl (Nat.le_of_ble_eq_true rfl) (Nat.le_of_ble_eq_true rfl)) (fun c_1 => ?_)
  have hle := hok.le7
  obtain ⟨hbb, hbe⟩ := ck_ix (tB σ 1 7) (hok.eq 7 (by decide) (by decide)) (by omega) c_1
  have hbl : a.toNatClampNeg < 4 := by omega
  refine g_aload_n S 0 dX7_told_11 rfl ?_
  refine gg6 S hC hiX7 (by decide +kernel) dX7_told_12 ?_
  refine gg5r S hC hiX6 (by decide) rfl 2 (by decide) (by decide +kernel) dX7_told_15 ?_
  refine g_iload_n S 1 dX7_told_18 rfl ?_
  refine ga12 S hC (by decide) rfl a.toNatClampNeg hbe (by first | assumption | omega) (1 + 14 + (a.toNatClampNeg)) (by omega) dX7_told_19 ?_
  refine g_iload_n S 2 dX7_told_20 rfl ?_
  refine g_callxi (g_xunS S hC (As := [.ref (E.2.2 (1 + 14 + (a.toNatClampNeg))), .int b]) (rest := []) (kX7_ask_k3 l hfl E σ (1 + 14 + (a.toNatClampNeg)) (gT1.lt2 (a := 14) (by omega)) (gT1.smug (by omega)) b) (va_cwS 2 S.2.2.2.2 gX7_told_X7_ask rfl rfl rfl (by decide +kernel) ⟨Nat.le_of_ble_eq_true rfl, Nat.le_of_ble_eq_true rfl⟩) rfl rfl (Nat.le_of_ble_eq_true rfl) dX7_told_21 ⟨Nat.le_of_ble_eq_true rfl, Nat.le_of_ble_eq_true rfl⟩) (fun c_2 => g_out hlocks hout c_2 (by rw [sX7_told_t, if_pos c_1, if_neg c_2]) rfl (Nat.le_of_ble_eq_true rfl) (Nat.le_of_ble_eq_true rfl)) (fun c_2 => ?_)
  exact g_xiret S hr hlocks dX7_told_24 (by rw [sX7_told_t, if_pos c_1, if_pos c_2]) (by rw [sX7_told_r, if_pos c_1, if_pos c_2]) rfl (Nat.le_of_ble_eq_true rfl) (Nat.le_of_ble_eq_true rfl)
def sX7_ration_r (σ : gS) (a : Int32) (b : Int32) : Int32 := if sX7_checkIndex_t σ a (σ.1 1 8) = 0 then (if sX7_ask_k1_t σ (1 + 18 + (a.toNatClampNeg)) b = 0 then (sX7_ask_k1_r σ (1 + 18 + (a.toNatClampNeg)) b) else (0)) else (0)
def sX7_ration_t (σ : gS) (a : Int32) (b : Int32) : Nat := if sX7_checkIndex_t σ a (σ.1 1 8) = 0 then (if sX7_ask_k1_t σ (1 + 18 + (a.toNatClampNeg)) b = 0 then (0) else (sX7_ask_k1_t σ (1 + 18 + (a.toNatClampNeg)) b)) else (sX7_checkIndex_t σ a (σ.1 1 8))
set_option maxRecDepth 100000 in
set_option maxHeartbeats 4000000 in
theorem kX7_ration (l : Launch) (hfl : l.stackTraces = false) (E : gT) (σ : gS) (a : Int32) (b : Int32) (hok : tOK σ 1) : gYi l yX7_ration wsX7_ration ({ frames := 8, cells := 2, slots := 12, locals := 132 }) 2 12 E σ [.ref (E.2.2 0), .int a, .int b] (sX7_ration_t σ a b) (sX7_ration_r σ a b) σ := by
  refine g_vmet (mc := 2) (ms := 12) (nL := 3) (ret := (some .int)) (by decide) rfl (lv := [(0, .ref (E.2.2 0)), (1, .int a), (2, .int b)]) rfl (Nat.le_of_ble_eq_true rfl) ?_
  intro p e s m below meth c S hr hlocks hout hC
  have hiX6 : ∀ w ∈ wsX60, w ∈ wsX7_ration := by decide +kernel
  have hiX7 : ∀ w ∈ wsX70, w ∈ wsX7_ration := by decide +kernel
  refine g_iload_n S 1 dX7_ration_0 rfl ?_
  refine g_aload_n S 0 dX7_ration_1 rfl ?_
  refine gg6 S hC hiX7 (by decide +kernel) dX7_ration_2 ?_
  refine gg5 S hC hiX6 (by decide) rfl 8 (by decide) (by decide +kernel) dX7_ration_5 ?_
  refine g_callxv (g_xunS S hC (As := [.int a, .int (σ.1 1 8)]) (rest := []) (kX7_checkIndex l hfl E σ a (σ.1 1 8)) (va_cwS 2 S.2.2.2.2 gX7_ration_X7_checkIndex rfl rfl rfl (by decide +kernel) ⟨Nat.le_of_ble_eq_true rfl, Nat.le_of_ble_eq_true rfl⟩) rfl rfl (Nat.le_of_ble_eq_true rfl) dX7_ration_8 ⟨Nat.le_of_ble_eq_true rfl, Nat.le_of_ble_eq_true rfl⟩) (fun c_1 => g_out hlocks hout c_1 (by rw [sX7_ration_t, if_neg c_1]) rfl (Nat.le_of_ble_eq_true rfl) (Nat.le_of_ble_eq_true rfl)) (fun c_1 => ?_)
  have hle := hok.le8
  obtain ⟨hbb, hbe⟩ := ck_ix (tB σ 1 8) (hok.eq 8 (by decide) (by decide)) (by omega) c_1
  have hbl : a.toNatClampNeg < 10 := by omega
  refine g_aload_n S 0 dX7_ration_11 rfl ?_
  refine gg6 S hC hiX7 (by decide +kernel) dX7_ration_12 ?_
  refine gg5r S hC hiX6 (by decide) rfl 3 (by decide) (by decide +kernel) dX7_ration_15 ?_
  refine g_iload_n S 1 dX7_ration_18 rfl ?_
  refine ga13 S hC (by decide) rfl a.toNatClampNeg hbe (by first | assumption | omega) (1 + 18 + (a.toNatClampNeg)) (by omega) dX7_ration_19 ?_
  refine g_iload_n S 2 dX7_ration_20 rfl ?_
  refine g_callxi (g_xunS S hC (As := [.ref (E.2.2 (1 + 18 + (a.toNatClampNeg))), .int b]) (rest := []) (kX7_ask_k1 l hfl E σ (1 + 18 + (a.toNatClampNeg)) (gT1.lt2 (a := 18) (by omega)) (gT1.card (by omega)) b) (va_cwS 2 S.2.2.2.2 gX7_ration_X7_ask rfl rfl rfl (by decide +kernel) ⟨Nat.le_of_ble_eq_true rfl, Nat.le_of_ble_eq_true rfl⟩) rfl rfl (Nat.le_of_ble_eq_true rfl) dX7_ration_21 ⟨Nat.le_of_ble_eq_true rfl, Nat.le_of_ble_eq_true rfl⟩) (fun c_2 => g_out hlocks hout c_2 (by rw [sX7_ration_t, if_pos c_1, if_neg c_2]) rfl (Nat.le_of_ble_eq_true rfl) (Nat.le_of_ble_eq_true rfl)) (fun c_2 => ?_)
  exact g_xiret S hr hlocks dX7_ration_24 (by rw [sX7_ration_t, if_pos c_1, if_pos c_2]) (by rw [sX7_ration_r, if_pos c_1, if_pos c_2]) rfl (Nat.le_of_ble_eq_true rfl) (Nat.le_of_ble_eq_true rfl)
def sX7_count_r (σ : gS) (a : Int32) : Int32 := if sX7_ask_k5_t σ 1 a = 0 then (sX7_ask_k5_r σ 1 a) else (0)
def sX7_count_t (σ : gS) (a : Int32) : Nat := if sX7_ask_k5_t σ 1 a = 0 then (0) else (sX7_ask_k5_t σ 1 a)
set_option maxRecDepth 100000 in
set_option maxHeartbeats 4000000 in
theorem kX7_count (l : Launch) (hfl : l.stackTraces = false) (E : gT) (σ : gS) (a : Int32) : gYi l yX7_count wsX7_count ({ frames := 8, cells := 1, slots := 6, locals := 132 }) 1 6 E σ [.ref (E.2.2 0), .int a] (sX7_count_t σ a) (sX7_count_r σ a) σ := by
  refine g_vmet (mc := 1) (ms := 6) (nL := 2) (ret := (some .int)) (by decide) rfl (lv := [(0, .ref (E.2.2 0)), (1, .int a)]) rfl (Nat.le_of_ble_eq_true rfl) ?_
  intro p e s m below meth c S hr hlocks hout hC
  have hiX7 : ∀ w ∈ wsX70, w ∈ wsX7_count := by decide +kernel
  refine g_aload_n S 0 dX7_count_0 rfl ?_
  refine gg6 S hC hiX7 (by decide +kernel) dX7_count_1 ?_
  refine g_iload_n S 1 dX7_count_4 rfl ?_
  refine g_callxi (g_xunS S hC (As := [.ref (E.2.2 1), .int a]) (rest := []) (kX7_ask_k5 l hfl E σ 1 gT1 a) (va_cwS 2 S.2.2.2.2 gX7_count_X7_ask rfl rfl rfl (by decide +kernel) ⟨Nat.le_of_ble_eq_true rfl, Nat.le_of_ble_eq_true rfl⟩) rfl rfl (Nat.le_of_ble_eq_true rfl) dX7_count_5 ⟨Nat.le_of_ble_eq_true rfl, Nat.le_of_ble_eq_true rfl⟩) (fun c_1 => g_out hlocks hout c_1 (by rw [sX7_count_t, if_neg c_1]) rfl (Nat.le_of_ble_eq_true rfl) (Nat.le_of_ble_eq_true rfl)) (fun c_1 => ?_)
  exact g_xiret S hr hlocks dX7_count_8 (by rw [sX7_count_t, if_pos c_1]) (by rw [sX7_count_r, if_pos c_1]) rfl (Nat.le_of_ble_eq_true rfl) (Nat.le_of_ble_eq_true rfl)
def sX7_pass_r (σ : gS) (a : Int32) : Int32 := if sX7_checkNumber_t σ a (1 : Int32) (60 : Int32) = 0 then (sX6_live_r σ 1 a.toNatClampNeg) else (0)
def sX7_pass_s (σ : gS) (a : Int32) : gS := if sX7_checkNumber_t σ a (1 : Int32) (60 : Int32) = 0 then (let S1 := sX6_live_s σ 1 a.toNatClampNeg; S1) else (σ)
def sX7_pass_t (σ : gS) (a : Int32) : Nat := if sX7_checkNumber_t σ a (1 : Int32) (60 : Int32) = 0 then (0) else (sX7_checkNumber_t σ a (1 : Int32) (60 : Int32))
set_option maxRecDepth 100000 in
set_option maxHeartbeats 4000000 in
theorem kX7_pass (l : Launch) (hfl : l.stackTraces = false) (E : gT) (σ : gS) (a : Int32) (hok : tOK σ 1) : gYi l yX7_pass wsX7_pass ({ frames := 7, cells := 1, slots := 6, locals := 133 }) 1 6 E σ [.ref (E.2.2 0), .int a] (sX7_pass_t σ a) (sX7_pass_r σ a) (sX7_pass_s σ a) := by
  refine g_vmet (mc := 1) (ms := 6) (nL := 2) (ret := (some .int)) (by decide) rfl (lv := [(0, .ref (E.2.2 0)), (1, .int a)]) rfl (Nat.le_of_ble_eq_true rfl) ?_
  intro p e s m below meth c S hr hlocks hout hC
  have hiX7 : ∀ w ∈ wsX70, w ∈ wsX7_pass := by decide +kernel
  refine g_iload_n S 1 dX7_pass_0 rfl ?_
  refine g_const S dX7_pass_1 (v := 1) rfl ?_
  refine g_bipush S dX7_pass_2 (v := 60) rfl ?_
  refine g_callxv (g_xunS S hC (As := [.int a, .int (1 : Int32), .int (60 : Int32)]) (rest := []) (kX7_checkNumber l hfl E σ a (1 : Int32) (60 : Int32)) (va_cwS 3 S.2.2.2.2 gX7_pass_X7_checkNumber rfl rfl rfl (by decide +kernel) ⟨Nat.le_of_ble_eq_true rfl, Nat.le_of_ble_eq_true rfl⟩) rfl rfl (Nat.le_of_ble_eq_true rfl) dX7_pass_4 ⟨Nat.le_of_ble_eq_true rfl, Nat.le_of_ble_eq_true rfl⟩) (fun c_1 => g_out hlocks hout c_1 (by rw [sX7_pass_t, if_neg c_1]) (by rw [sX7_pass_s, if_neg c_1]) (Nat.le_of_ble_eq_true rfl) (Nat.le_of_ble_eq_true rfl)) (fun c_1 => ?_)
  obtain ⟨⟨_, hbb0⟩, hbe⟩ := ck_nm (lo := 1) (hi := 60) (by decide) (by decide) c_1
  have hbb : a.toNatClampNeg < 61 := by omega
  refine g_aload_n S 0 dX7_pass_7 rfl ?_
  refine gg6 S hC hiX7 (by decide +kernel) dX7_pass_8 ?_
  refine g_iload_n S 1 dX7_pass_11 rfl ?_
  refine g_top (y := nI a.toNatClampNeg) hbe ?_
  refine g_calli (g_runV S hC (As := [.int (nI a.toNatClampNeg)]) (rest := []) (k := 1) (by decide) rfl (by decide) rfl (kX6_live l E σ 1 gT1 a.toNatClampNeg (by first | decide | omega) hok) (cwV 1 S.2.2.2.2 gX7_pass_X6_live rfl rfl rfl (by decide +kernel) ⟨Nat.le_of_ble_eq_true rfl, Nat.le_of_ble_eq_true rfl⟩) rfl rfl (Nat.le_of_ble_eq_true rfl) dX7_pass_12 ⟨Nat.le_of_ble_eq_true rfl, Nat.le_of_ble_eq_true rfl⟩) ?_
  refine g_nm (fun S1 hS1 => ?_)
  exact g_xiret S hr hlocks dX7_pass_15 (by subst hS1; unfold sX7_pass_t; (try dsimp only); rw [if_pos c_1]) (by subst hS1; unfold sX7_pass_r; (try dsimp only); rw [if_pos c_1]) (by subst hS1; unfold sX7_pass_s; (try dsimp only); rw [if_pos c_1]) (Nat.le_of_ble_eq_true rfl) (Nat.le_of_ble_eq_true rfl)
end
section
section GD
variable {p : Program} {l : Launch} {e : Env} {R : Room} {s : State} {m : MethodId} {args : Array Value} {below : List Frame} {meth : Method} {c : Code} {Q : State → Prop}
variable {cc : ByteArray} {nL : Nat} {Ts : List Cond} {own : String} {E : gT} {σ σ' : gS} {cells slots pc : Nat} {lv lv' : List (Nat × Value)} {rest st0 : List Value} {d0 : Drawn}
theorem gS_dr (S : CallFix p m c cc nL s args Ts own) (d : Drawn) : CallFix p m c cc nL (s.setDrawn d) args Ts own := ⟨S.1, S.2.1, S.2.2.1, S.2.2.2.1, dr_words S.2.2.2.2 d⟩
theorem gC.dr (h : gC E s) (d : Drawn) : gC E (s.setDrawn d) := h.same rfl rfl
abbrev gRd (E : gT) (σ : gS) (x : UInt64) (sz : Nat) : Array Value → State → Outcome → State → Prop := va_Qd (fun (r : UInt64) (_ : Unit) => alike64 r x = true) (fun _ => gBt E σ) (gA E sz)
/-- a method that may draw: a number alike x -/
def gMd (l : Launch) (y : MethodName) (ws : List Cond) (rm : Room) (mc ms : Nat) (E : gT) (σ : gS) (av : List Value) (x : UInt64) (σ' : gS) : Prop := ∀ sz, MetD lw_cs l y ws rm (gPre E σ sz av) (gRd E σ' x sz) mc ms (gA E sz)
theorem g_metD {y : MethodName} {ws ws' : List Cond} {rm : Room} {mc ms : Nat} {av : List Value} {ret : Option FieldType} {Qc : Nat → Array Value → State → Outcome → State → Prop} (hy : plainName y.cls = true) (hw : ws = Cond.code y cc nL ret :: ws') (hlv : lv_args 0 av = lv) (hsz : (lg_sl av).length ≤ nL)
    (body : ∀ (p : Program) (e : Env) (s : State) (m : MethodId) (below : List Frame) (meth : Method) (c : Code), CallFix p m c cc nL s av.toArray ws y.cls → meth.sig.returnType = ret → meth.locks = false → gC E s → s.drawn.sameBut s.drawn lw_cs →
      gJ p l e rm (s.setDrawn s.drawn) m av.toArray below meth c (MQD lw_cs below (Qc s.heap.size) av.toArray s mc ms (gA E s.heap.size)) nL E σ 0 0 0 lv []) : ∀ sz, MetD lw_cs l y ws rm (gPre E σ sz av) (Qc sz) mc ms (gA E sz) := by
  intro sz
  refine MetD.ofW (cc := cc) (maxL := nL) (ret := ret) hy hw ?_
  intro p e s m args below meth c s₁ B hml hv hd0
  obtain ⟨rfl, rfl, hC, hP⟩ := hv
  exact g_ent (s := s.setDrawn s.drawn) (k := fun _ => True) (ls := #[]) hlv hsz (body p e s m below meth c ⟨B.exec, B.bytes, hml, findClass_of_methodNamed B.named, atoms_spec (ws := ws) B.pre⟩ B.returns B.notSynchronized hC hd0) hP
theorem g_ddiv (hd0 : s.drawn.sameBut d0 lw_cs) (S : CallFix p m c cc nL s args Ts own) {x y : UInt64} (d : decode cc pc = .ok (.ddiv, 1)) (kk : ∀ (r : UInt64) (d1 : Drawn), alike64 r (FP.ddiv x y) = true → s.drawn.sameBut d1 lw_cs → gJ p l e R (s.setDrawn d1) m args below meth c Q nL E σ cells slots (pc + 1) lv (.double r :: rest)) : gJ p l e R (s.setDrawn d0) m args below meth c Q nL E σ cells slots pc lv (.double y :: .double x :: rest) :=
  fun H locs ls hP hS hl => lv_ddiv_any hd0 lw_bits S.1 S.2.1 d (fun r d1 hal hd1 => kk r d1 hal hd1 H locs ls hP hS hl)
theorem g_dret (hd0 : s.drawn.sameBut d0 lw_cs) (S : CallFix p m c cc nL s args Ts own) (hr : meth.sig.returnType = some .double) (hlocks : meth.locks = false) {r x : UInt64} {mc ms : Nat} (d : decode cc pc = .ok (.dreturn, 1)) (h1 : alike64 r x = true) (h2 : σ = σ') (h3 : cells ≤ mc) (h4 : slots ≤ ms) :
    gJ p l e R (s.setDrawn d0) m args below meth c (MQD lw_cs below (gRd E σ' x s.heap.size) args s mc ms (gA E s.heap.size)) nL E σ cells slots pc lv [.double r] := by
  subst h2
  exact fun H locs ls hP hS hl => W.endD hd0 (W.widen h3 h4 (W.dret S.1 S.2.1 hr (fun t ht _ => ⟨⟨r, (), rfl, h1, by show gP _ _ t.heap; rw [ht]; exact hP⟩, va_S.F (s := s.setDrawn d0) hS ht⟩) hS.2.2 d))
/-- a call that may draw -/
def gRunD (p : Program) (l : Launch) (e : Env) (R : Room) (s : State) (m : MethodId) (args : Array Value) (below : List Frame) (meth : Method) (c : Code) (nL : Nat) (E : gT) (σ : gS) (cells slots pc : Nat) (lv : List (Nat × Value)) (st0 rest : List Value) (Qa : Nat → State → Outcome → State → Prop) (mc ms : Nat) : Prop :=
  ∀ (H : Heap) (locs : List Loc) (ls : Array Slot), gP E σ H → va_S (gA E s.heap.size) s.heap H locs → lv_has ls nL lv → va_RunD lw_cs p l e R s m args below meth c H locs cells slots mc ms (F0 m pc ls st0) rest (Qa H.size) (gA E H.size)
variable {y : MethodName} {bytes : ByteArray} {maxL n index mc ms : Nat} {ret : Option FieldType} {ws : List Cond} {rm : Room} {As : List Value} {Qc : Nat → Array Value → State → Outcome → State → Prop}
theorem g_runVD (S : CallFix p m c cc nL s args Ts own) (hC : gC E s) {k ci : Nat} {q : vw_C} (hk : k < 58) (hkd : gK k = ci) (hci : ci < 8) (hcl : vwCl[ci]? = some q) (hM : ∀ sz, MetD lw_cs l y ws rm (gPre E σ sz (.ref (E.2.2 k) :: As)) (Qc sz) mc ms (gA E sz)) (cw : CallW R s args own q.1 index y bytes maxL ret ws rm mc ms n) (hn : As.length = n) (hst : st0 = As.reverse ++ .ref (E.2.2 k) :: rest) (hcat : (rest.map fun v => v.category).sum ≤ 8) (d : decode cc pc = .ok (.invokevirtual index, 3)) (hf : cells + mc ≤ R.cells ∧ slots + ms ≤ R.slots) :
    gRunD p l e R s m args below meth c nL E σ cells slots pc lv st0 rest (fun sz => Qc sz (Value.ref (E.2.2 k) :: As).toArray) mc ms :=
  fun H locs ls hP hS hl => va_runV_D S (hM H.size) cw ⟨gPre_blind, g_recv hC hk hkd hci hcl hP, fun U hU hW => ⟨rfl, by rw [hU], hC.go hS hU hW, by rw [hU]; exact hP⟩⟩ rfl hn hl.1 hst (lv_room hcat) d hf
variable {a : Array Value}
theorem g_calld (hd0 : s.drawn.sameBut d0 lw_cs) {x : UInt64} (hr : gRunD p l e R (s.setDrawn d0) m args below meth c nL E σ cells slots pc lv st0 rest (fun sz => gRd E σ' x sz a) mc ms) (kk : ∀ (r : UInt64) (d1 : Drawn), alike64 r x = true → s.drawn.sameBut d1 lw_cs → gJ p l e R (s.setDrawn d1) m args below meth c Q nL E σ' (cells + mc) (slots + ms) (pc + 3) lv (.double r :: rest)) : gJ p l e R (s.setDrawn d0) m args below meth c Q nL E σ cells slots pc lv st0 := by
  intro H locs ls hP hS hl
  refine va_calldD hd0 (hr H locs ls hP hS hl) hS (fun q _ h => gA_mono hS.1 q h) (gA_mono hS.1) (fun r u t H1 locs1 ht hvm hr' hB hz hk hS1 d1 hd1 => ?_)
  have hB : gP _ _ t.heap := hB
  rw [ht] at hB
  exact kk r d1 hr' hd1 H1 locs1 ls hB hS1 hl
end GD
end
section
def sX7_mean_r (σ : gS) : UInt64 := if σ.1 1 8 = 0 then (FP.dconst0) else (FP.ddiv (FP.i2d (σ.1 6 5)) (FP.i2d (σ.1 1 8)))
set_option maxRecDepth 100000 in
set_option maxHeartbeats 4000000 in
theorem kX7_mean (l : Launch) (E : gT) (σ : gS) : gMd l yX7_mean wsX7_mean ({ frames := 0, cells := 0, slots := 0, locals := 0 }) 0 0 E σ [.ref (E.2.2 0)] (sX7_mean_r σ) σ := by
  refine g_metD (mc := 0) (ms := 0) (nL := 1) (ret := (some .double)) (by decide) rfl (lv := [(0, .ref (E.2.2 0))]) rfl (Nat.le_of_ble_eq_true rfl) ?_
  intro p e s m below meth c S0 hr hlocks hC hd0
  have S := gS_dr S0 s.drawn
  have hC := hC.dr s.drawn
  have hiX4 : ∀ w ∈ wsX40, w ∈ wsX7_mean := by decide +kernel
  have hiX6 : ∀ w ∈ wsX60, w ∈ wsX7_mean := by decide +kernel
  have hiX7 : ∀ w ∈ wsX70, w ∈ wsX7_mean := by decide +kernel
  refine g_aload_n S 0 dX7_mean_0 rfl ?_
  refine gg6 S hC hiX7 (by decide +kernel) dX7_mean_1 ?_
  refine gg5 S hC hiX6 (by decide) rfl 8 (by decide) (by decide +kernel) dX7_mean_4 ?_
  refine g_if_ne S 12 dX7_mean_7 (by decide) (fun c_1 => ?_) (fun c_1 => ?_)
  · skip
    refine g_aload_n S 0 dX7_mean_12 rfl ?_
    refine gg6 S hC hiX7 (by decide +kernel) dX7_mean_13 ?_
    refine gg5r S hC hiX6 (by decide) rfl 4 (by decide) (by decide +kernel) dX7_mean_16 ?_
    refine gg4 S hC hiX4 (by decide) rfl 5 (by decide) (by decide +kernel) dX7_mean_19 ?_
    refine g_i2d S dX7_mean_22 ?_
    refine g_aload_n S 0 dX7_mean_23 rfl ?_
    refine gg6 S hC hiX7 (by decide +kernel) dX7_mean_24 ?_
    refine gg5 S hC hiX6 (by decide) rfl 8 (by decide) (by decide +kernel) dX7_mean_27 ?_
    refine g_i2d S dX7_mean_30 ?_
    refine g_ddiv hd0 S0 dX7_mean_31 (fun r d1 hal hd1 => ?_)
    exact g_dret hd1 S0 hr hlocks dX7_mean_32 (by rw [← show FP.ddiv (FP.i2d (σ.1 6 5)) (FP.i2d (σ.1 1 8)) = sX7_mean_r σ from (by rw [sX7_mean_r, if_neg c_1])]; exact hal) rfl (Nat.le_of_ble_eq_true rfl) (Nat.le_of_ble_eq_true rfl)
  · skip
    refine g_dconst S dX7_mean_10 ?_
    exact g_dret hd0 S0 hr hlocks dX7_mean_11 (by rw [← show FP.dconst0 = sX7_mean_r σ from (by rw [sX7_mean_r, if_pos c_1])]; exact alike64_refl _) rfl (Nat.le_of_ble_eq_true rfl) (Nat.le_of_ble_eq_true rfl)
end
