section
-- ===== PART A: goes FIRST, ahead of the names: the tables' words, and 'selects' of the private methods out of them =====
/-- a private method of a class that the tables say can be made, by its rows of tables_1 -/
def lw_okq (q : MethodName × Nat) : Prop := (q.1.cls ≠ "java/lang/invoke/MethodHandle" ∧ q.1.cls ≠ "java/lang/invoke/VarHandle") ∧ Cond.instantiable q.1.cls q.2 ∈ tables_1 ∧ Cond.privateMethod q.1 ∈ tables_1 ∧ Cond.instanceMethod q.1 ∈ tables_1
theorem lw_p0 : lw_okq (⟨"java/lang/Throwable", "fillInStackTrace", "(I)Ljava/lang/Throwable;"⟩, 6) := ⟨⟨by decide +kernel, by decide +kernel⟩, List.mem_of_getElem? (i := 344) (by decide +kernel), List.mem_of_getElem? (i := 342) (by decide +kernel), List.mem_of_getElem? (i := 343) (by decide +kernel)⟩
theorem lw_p1 : lw_okq (⟨"ChicoryRoastersModel", "fail", "(I)I"⟩, 11) := ⟨⟨by decide +kernel, by decide +kernel⟩, List.mem_of_getElem? (i := 711) (by decide +kernel), List.mem_of_getElem? (i := 763) (by decide +kernel), List.mem_of_getElem? (i := 764) (by decide +kernel)⟩
theorem lw_p2 : lw_okq (⟨"ChicoryRoastersModel", "letDrum", "(III)V"⟩, 11) := ⟨⟨by decide +kernel, by decide +kernel⟩, List.mem_of_getElem? (i := 711) (by decide +kernel), List.mem_of_getElem? (i := 771) (by decide +kernel), List.mem_of_getElem? (i := 772) (by decide +kernel)⟩
theorem lw_p3 : lw_okq (⟨"ChicoryRoastersModel", "moreCard", "(III)V"⟩, 11) := ⟨⟨by decide +kernel, by decide +kernel⟩, List.mem_of_getElem? (i := 711) (by decide +kernel), List.mem_of_getElem? (i := 783) (by decide +kernel), List.mem_of_getElem? (i := 784) (by decide +kernel)⟩
theorem lw_p4 : lw_okq (⟨"ChicoryRoastersModel", "change", "(III)I"⟩, 11) := ⟨⟨by decide +kernel, by decide +kernel⟩, List.mem_of_getElem? (i := 711) (by decide +kernel), List.mem_of_getElem? (i := 791) (by decide +kernel), List.mem_of_getElem? (i := 792) (by decide +kernel)⟩
theorem lw_p5 : lw_okq (⟨"ChicoryRoastersModel", "isDrum", "(I)Z"⟩, 11) := ⟨⟨by decide +kernel, by decide +kernel⟩, List.mem_of_getElem? (i := 711) (by decide +kernel), List.mem_of_getElem? (i := 803) (by decide +kernel), List.mem_of_getElem? (i := 804) (by decide +kernel)⟩
theorem lw_p6 : lw_okq (⟨"ChicoryRoastersModel", "dr", "(II)I"⟩, 11) := ⟨⟨by decide +kernel, by decide +kernel⟩, List.mem_of_getElem? (i := 711) (by decide +kernel), List.mem_of_getElem? (i := 807) (by decide +kernel), List.mem_of_getElem? (i := 808) (by decide +kernel)⟩
theorem lw_p7 : lw_okq (⟨"ChicoryRoastersModel", "yieldOf", "(I)I"⟩, 11) := ⟨⟨by decide +kernel, by decide +kernel⟩, List.mem_of_getElem? (i := 711) (by decide +kernel), List.mem_of_getElem? (i := 827) (by decide +kernel), List.mem_of_getElem? (i := 828) (by decide +kernel)⟩
theorem lw_p8 : lw_okq (⟨"ChicoryRoastersModel", "isSmuggler", "(I)Z"⟩, 11) := ⟨⟨by decide +kernel, by decide +kernel⟩, List.mem_of_getElem? (i := 711) (by decide +kernel), List.mem_of_getElem? (i := 844) (by decide +kernel), List.mem_of_getElem? (i := 845) (by decide +kernel)⟩
theorem lw_p9 : lw_okq (⟨"ChicoryRoastersModel", "sm", "(II)I"⟩, 11) := ⟨⟨by decide +kernel, by decide +kernel⟩, List.mem_of_getElem? (i := 711) (by decide +kernel), List.mem_of_getElem? (i := 848) (by decide +kernel), List.mem_of_getElem? (i := 849) (by decide +kernel)⟩
theorem lw_p10 : lw_okq (⟨"ChicoryRoastersModel", "letSmuggler", "(III)V"⟩, 11) := ⟨⟨by decide +kernel, by decide +kernel⟩, List.mem_of_getElem? (i := 711) (by decide +kernel), List.mem_of_getElem? (i := 852) (by decide +kernel), List.mem_of_getElem? (i := 853) (by decide +kernel)⟩
theorem lw_p11 : lw_okq (⟨"ChicoryRoastersModel", "bedIs", "(II)I"⟩, 11) := ⟨⟨by decide +kernel, by decide +kernel⟩, List.mem_of_getElem? (i := 711) (by decide +kernel), List.mem_of_getElem? (i := 860) (by decide +kernel), List.mem_of_getElem? (i := 861) (by decide +kernel)⟩
theorem lw_p12 : lw_okq (⟨"ChicoryRoastersModel", "drumIs", "(II)I"⟩, 11) := ⟨⟨by decide +kernel, by decide +kernel⟩, List.mem_of_getElem? (i := 711) (by decide +kernel), List.mem_of_getElem? (i := 868) (by decide +kernel), List.mem_of_getElem? (i := 869) (by decide +kernel)⟩
theorem lw_p13 : lw_okq (⟨"ChicoryRoastersModel", "smugglerIs", "(II)I"⟩, 11) := ⟨⟨by decide +kernel, by decide +kernel⟩, List.mem_of_getElem? (i := 711) (by decide +kernel), List.mem_of_getElem? (i := 876) (by decide +kernel), List.mem_of_getElem? (i := 877) (by decide +kernel)⟩
theorem lw_p14 : lw_okq (⟨"ChicoryRoastersModel", "cardIs", "(II)I"⟩, 11) := ⟨⟨by decide +kernel, by decide +kernel⟩, List.mem_of_getElem? (i := 711) (by decide +kernel), List.mem_of_getElem? (i := 884) (by decide +kernel), List.mem_of_getElem? (i := 885) (by decide +kernel)⟩
theorem lw_p15 : lw_okq (⟨"ChicoryRoastersModel", "ca", "(II)I"⟩, 11) := ⟨⟨by decide +kernel, by decide +kernel⟩, List.mem_of_getElem? (i := 711) (by decide +kernel), List.mem_of_getElem? (i := 888) (by decide +kernel), List.mem_of_getElem? (i := 889) (by decide +kernel)⟩
def lw_privs_1 : List (MethodName × Nat) := [(⟨"java/lang/Throwable", "fillInStackTrace", "(I)Ljava/lang/Throwable;"⟩, 6), (⟨"ChicoryRoastersModel", "fail", "(I)I"⟩, 11), (⟨"ChicoryRoastersModel", "letDrum", "(III)V"⟩, 11), (⟨"ChicoryRoastersModel", "moreCard", "(III)V"⟩, 11), (⟨"ChicoryRoastersModel", "change", "(III)I"⟩, 11), (⟨"ChicoryRoastersModel", "isDrum", "(I)Z"⟩, 11), (⟨"ChicoryRoastersModel", "dr", "(II)I"⟩, 11), (⟨"ChicoryRoastersModel", "yieldOf", "(I)I"⟩, 11), (⟨"ChicoryRoastersModel", "isSmuggler", "(I)Z"⟩, 11), (⟨"ChicoryRoastersModel", "sm", "(II)I"⟩, 11), (⟨"ChicoryRoastersModel", "letSmuggler", "(III)V"⟩, 11), (⟨"ChicoryRoastersModel", "bedIs", "(II)I"⟩, 11), (⟨"ChicoryRoastersModel", "drumIs", "(II)I"⟩, 11), (⟨"ChicoryRoastersModel", "smugglerIs", "(II)I"⟩, 11), (⟨"ChicoryRoastersModel", "cardIs", "(II)I"⟩, 11), (⟨"ChicoryRoastersModel", "ca", "(II)I"⟩, 11)]
theorem lw_r1 : ∀ q ∈ lw_privs_1, lw_okq q := List.forall_mem_cons.mpr ⟨lw_p0, List.forall_mem_cons.mpr ⟨lw_p1, List.forall_mem_cons.mpr ⟨lw_p2, List.forall_mem_cons.mpr ⟨lw_p3, List.forall_mem_cons.mpr ⟨lw_p4, List.forall_mem_cons.mpr ⟨lw_p5, List.forall_mem_cons.mpr ⟨lw_p6, List.forall_mem_cons.mpr ⟨lw_p7, List.forall_mem_cons.mpr ⟨lw_p8, List.forall_mem_cons.mpr ⟨lw_p9, List.forall_mem_cons.mpr ⟨lw_p10, List.forall_mem_cons.mpr ⟨lw_p11, List.forall_mem_cons.mpr ⟨lw_p12, List.forall_mem_cons.mpr ⟨lw_p13, List.forall_mem_cons.mpr ⟨lw_p14, List.forall_mem_cons.mpr ⟨lw_p15, fun _ h => absurd h List.not_mem_nil⟩⟩⟩⟩⟩⟩⟩⟩⟩⟩⟩⟩⟩⟩⟩⟩
theorem lw_p16 : lw_okq (⟨"ChicoryRoastersModel", "daysOn", "(I)V"⟩, 11) := ⟨⟨by decide +kernel, by decide +kernel⟩, List.mem_of_getElem? (i := 711) (by decide +kernel), List.mem_of_getElem? (i := 900) (by decide +kernel), List.mem_of_getElem? (i := 901) (by decide +kernel)⟩
theorem lw_p17 : lw_okq (⟨"ChicoryRoastersModel", "dayOn", "()V"⟩, 11) := ⟨⟨by decide +kernel, by decide +kernel⟩, List.mem_of_getElem? (i := 711) (by decide +kernel), List.mem_of_getElem? (i := 904) (by decide +kernel), List.mem_of_getElem? (i := 905) (by decide +kernel)⟩
theorem lw_p18 : lw_okq (⟨"ChicoryRoastersModel", "goOn", "(I)V"⟩, 11) := ⟨⟨by decide +kernel, by decide +kernel⟩, List.mem_of_getElem? (i := 711) (by decide +kernel), List.mem_of_getElem? (i := 908) (by decide +kernel), List.mem_of_getElem? (i := 909) (by decide +kernel)⟩
theorem lw_p19 : lw_okq (⟨"ChicoryRoastersModel", "isPatrol", "(I)Z"⟩, 11) := ⟨⟨by decide +kernel, by decide +kernel⟩, List.mem_of_getElem? (i := 711) (by decide +kernel), List.mem_of_getElem? (i := 912) (by decide +kernel), List.mem_of_getElem? (i := 913) (by decide +kernel)⟩
theorem lw_p20 : lw_okq (⟨"ChicoryRoastersModel", "serve", "(I)Z"⟩, 11) := ⟨⟨by decide +kernel, by decide +kernel⟩, List.mem_of_getElem? (i := 711) (by decide +kernel), List.mem_of_getElem? (i := 917) (by decide +kernel), List.mem_of_getElem? (i := 918) (by decide +kernel)⟩
theorem lw_p21 : lw_okq (⟨"ChicoryRoastersModel", "keep", "()V"⟩, 11) := ⟨⟨by decide +kernel, by decide +kernel⟩, List.mem_of_getElem? (i := 711) (by decide +kernel), List.mem_of_getElem? (i := 925) (by decide +kernel), List.mem_of_getElem? (i := 926) (by decide +kernel)⟩
theorem lw_p22 : lw_okq (⟨"ChicoryRoastersModel", "behind", "(II)I"⟩, 11) := ⟨⟨by decide +kernel, by decide +kernel⟩, List.mem_of_getElem? (i := 711) (by decide +kernel), List.mem_of_getElem? (i := 932) (by decide +kernel), List.mem_of_getElem? (i := 933) (by decide +kernel)⟩
theorem lw_p23 : lw_okq (⟨"ChicoryRoastersModel", "bringBack", "()V"⟩, 11) := ⟨⟨by decide +kernel, by decide +kernel⟩, List.mem_of_getElem? (i := 711) (by decide +kernel), List.mem_of_getElem? (i := 936) (by decide +kernel), List.mem_of_getElem? (i := 937) (by decide +kernel)⟩
def lw_privs_2 : List (MethodName × Nat) := [(⟨"ChicoryRoastersModel", "daysOn", "(I)V"⟩, 11), (⟨"ChicoryRoastersModel", "dayOn", "()V"⟩, 11), (⟨"ChicoryRoastersModel", "goOn", "(I)V"⟩, 11), (⟨"ChicoryRoastersModel", "isPatrol", "(I)Z"⟩, 11), (⟨"ChicoryRoastersModel", "serve", "(I)Z"⟩, 11), (⟨"ChicoryRoastersModel", "keep", "()V"⟩, 11), (⟨"ChicoryRoastersModel", "behind", "(II)I"⟩, 11), (⟨"ChicoryRoastersModel", "bringBack", "()V"⟩, 11)]
theorem lw_r2 : ∀ q ∈ lw_privs_2, lw_okq q := List.forall_mem_cons.mpr ⟨lw_p16, List.forall_mem_cons.mpr ⟨lw_p17, List.forall_mem_cons.mpr ⟨lw_p18, List.forall_mem_cons.mpr ⟨lw_p19, List.forall_mem_cons.mpr ⟨lw_p20, List.forall_mem_cons.mpr ⟨lw_p21, List.forall_mem_cons.mpr ⟨lw_p22, List.forall_mem_cons.mpr ⟨lw_p23, fun _ h => absurd h List.not_mem_nil⟩⟩⟩⟩⟩⟩⟩⟩
def lw_privs : List (MethodName × Nat) := lw_privs_1 ++ (lw_privs_2)
def lw_tbl : List Cond := k2_sels lw_privs ++ tables_1
theorem lw_privs_ok : ∀ q ∈ lw_privs, lw_okq q := by
  show ∀ q ∈ lw_privs_1 ++ (lw_privs_2), lw_okq q
  exact List.forall_mem_append.mpr ⟨lw_r1, lw_r2⟩
/-- the streams that the claim lets the run draw from -/
abbrev lw_cs : List Choice := [Jvm.Choice.named "NaN.bits"]
theorem lw_bits : nanBits ∈ lw_cs := by first | decide | exact List.mem_cons_self | simp [lw_cs, nanBits]
-- ===== end of PART A; then your names; then what follows =====
/-! ===== BEGIN words of one list among another's, by their places ===== -/
theorem goodIn_r {big : List Cond} (ws : List Cond) (ps : List Nat) (hp : ws = ps.filterMap (fun i => big[i]?)) (h : ws.all goodWord = true) : GoodIn big ws := by
  intro w hw
  have h1 := List.all_eq_true.mp h w hw
  rw [hp] at hw
  obtain ⟨i, -, hi⟩ := List.mem_filterMap.mp hw
  have hm : w ∈ big := by first | exact List.mem_of_getElem? hi | exact List.getElem?_mem hi
  exact ⟨hm, good_of_word h1⟩
theorem goodIn_app {big a b : List Cond} (ha : GoodIn big a) (hb : GoodIn big b) : GoodIn big (a ++ b) := fun w h => (List.mem_append.mp h).elim (ha w) (hb w)
theorem goodIn_ca {big a b : List Cond} {c : Cond} (ha : GoodIn big (c :: a)) (hb : GoodIn big b) : GoodIn big (c :: (a ++ b)) := fun w h => (List.mem_cons.mp h).elim (fun e => ha w (List.mem_cons.mpr (Or.inl e))) (fun h => (List.mem_append.mp h).elim (fun h => ha w (List.mem_cons.mpr (Or.inr h))) (hb w))
theorem goodIn_sub {big ws : List Cond} (hm : ∀ w ∈ ws, w ∈ big) (h : ws.all goodWord = true) : GoodIn big ws := fun w hw => ⟨hm w hw, good_of_word (List.all_eq_true.mp h w hw)⟩
/-! ===== END ===== -/

/-! ===== BEGIN exceptions that leave a method, and their catching by the caller (launches without stack traces) ===== -/
section VXA
/-! The laws vx_back, vx_callV, vx_callS, vx_callSW, vx_throw0, vx_throwS follow proofs of the library, with one case more: JvmDerived/Free/Laws.lean (Back.of_free), Shelf42/LK1.lean (callV, callS), Shelf/KitTraced.lean (throwNew0V, throwNewS). -/
/-- where a method has thrown q: the class by its name, the cell, what was written, the world -/
def vx_T (XC : String → State → State → Prop) (st : State) (q : Addr) (t : State) (mc ms : Nat) (free : Addr → Prop) : Prop :=
  ∃ (E : String) (ce : Cell) (L : List Loc), XC E st t ∧ t.heap[q]? = some ce ∧ ce.vm = .none ∧ st.vm.findClass E = some ce.cls ∧ st.WarmedH t.vm ∧ st.sameButNew ({ t with vm := st.vm } : State) L mc ms ∧ ∀ z ∈ L, free z.base
def vx_Q (Qc : Array Value → State → Outcome → State → Prop) (XC : String → State → State → Prop) (mc ms : Nat) (free : Addr → Prop) : Array Value → State → Outcome → State → Prop := fun a st o t =>
  (Qc a st o t ∧ ∃ L, FrameEnd st o t L mc ms ∧ ∀ q ∈ L, free q.base) ∨ ∃ q, o = .threw q ∧ vx_T XC st q t mc ms free
/-- a callee that returns or throws -/
def vx_Met (l : Launch) (y : MethodName) (ws : List Cond) (rm : Room) (Pc : Array Value → State → Prop) (Qc : Array Value → State → Outcome → State → Prop) (XC : String → State → State → Prop) (mc ms : Nat) (free : Addr → Prop) : Prop :=
  MetFree l y (headSpec ws rm) Pc (fun _ _ _ _ _ => True) (vx_Q Qc XC mc ms free)
def vx_Post (XC : String → State → State → Prop) (mc ms : Nat) (free : Addr → Prop) : Pt → Array Value → Addr → Pt → Prop := fun A a q B =>
  ∃ (g : JFrame) (mk : MethodId) (t : State) (L : List Loc) (E : String) (ce : Cell), B.U.heap = t.heap ∧ B.U.vm = t.vm ∧ XC E (A.U.calling g mk a) t ∧ t.heap[q]? = some ce ∧ ce.vm = .none ∧ A.U.vm.findClass E = some ce.cls ∧ B.locs = A.locs ++ L ∧ (∀ z ∈ L, free z.base) ∧ B.cells = A.cells + mc ∧ B.slots = A.slots + ms
def vx_Back (l : Launch) (R : Room) (p : Program) (e : Env) (below : List Frame) (s : State) (sargs : Array Value) (y : MethodName) (len W9 : Nat)
    (Pre : Pt → Array Value → Prop) (Post : Pt → Array Value → Option Value → Pt → Prop) (PostX : Pt → Array Value → Addr → Pt → Prop) : Prop :=
  ∀ (m : MethodId) (meth : Method) (c : Code) (A : Pt) (g : JFrame) (ig : Instr) (mk : MethodId) (a : Array Value),
    Stand p l e R s m sargs below meth c A.U A.locs A.cells A.slots → g.method = m → g.locals.size = c.maxLocals → decode c.code g.pc = .ok (ig, len) →
    2 * g.monitorRoom + (g.stack.map fun v => v.category).sum ≤ W9 → A.U.methodNamed? y = some mk → Pre A a →
    (∃ (v : Option Value) (B : Pt), Stand p l e R s m sargs below meth c B.U B.locs B.cells B.slots ∧ Post A a v B ∧
      Steps p.tables e below (doInvoke e (A.U.setTop g) [] mk a).1 (B.U.setTop { g with pc := g.pc + len, stack := v.toList ++ g.stack })) ∨
    (∃ (q : Addr) (B : Pt), Stand p l e R s m sargs below meth c B.U B.locs B.cells B.slots ∧ PostX A a q B ∧
      Steps p.tables e below (doInvoke e (A.U.setTop g) [] mk a).1 ((B.U.setTop g).pushFrame (.throwing q)))
section Payer
variable {l : Launch} {R : Room} {p : Program} {e : Env} {below : List Frame} {s : State} {sargs : Array Value} {y : MethodName} {len W9 : Nat}
theorem vx_back {ws : List Cond} {rm : Room} {Pc : Array Value → State → Prop} {Qc : Array Value → State → Outcome → State → Prop} {XC : String → State → State → Prop} {mc ms : Nat} {free : Addr → Prop} {bytes : ByteArray} {maxL : Nat} {ret : Option FieldType}
    (hM : vx_Met l y ws rm Pc Qc XC mc ms free) (hblind : FrameBlind Pc) (hrc : rm.cells = mc) (hrs : rm.slots = ms)
    (hframes : rm.frames + 1 ≤ R.frames) (hlocals : W9 + (maxL + 11) + rm.locals ≤ R.locals)
    (hws : ∀ w ∈ ws, ∀ a' U, s.WarmedH U.vm → w.before a' U = true) (hcode : Cond.code y bytes maxL ret ∈ ws) (hinit : ∀ a' U, s.WarmedH U.vm → (Cond.initialized y.cls).before a' U = true) :
    vx_Back l R p e below s sargs y len W9 (PreOf R mc ms Pc) (PostOf Qc mc ms free) (vx_Post XC mc ms free) := by
  intro m meth c A g ig mk a X hg hsize hdg hW hn hp
  have h1 : (headSpec ws rm).pre.before a A.U = true := atoms_intro fun w hw => hws w hw _ _ X.warmed
  have h2 : (Cond.code y bytes maxL ret).before a A.U = true := hws _ hcode _ _ X.warmed
  have h3 : (Cond.initialized y.cls).before a A.U = true := hinit _ _ X.warmed
  have h4 : A.cells + (headSpec ws rm).room.cells ≤ R.cells := by rw [show (headSpec ws rm).room.cells = mc from hrc]; exact hp.1
  have h5 : A.slots + (headSpec ws rm).room.slots ≤ R.slots := by rw [show (headSpec ws rm).room.slots = ms from hrs]; exact hp.2.1
  have hPc : Pc a (A.U.calling g mk a) := hblind _ _ _ _ hp.2.2
  obtain ⟨U, Ls, c0, s0⟩ := A
  dsimp only [Pt.U, Pt.locs, Pt.cells, Pt.slots] at h1 h2 h3 h4 h5 X hn hPc ⊢
  obtain ⟨methY, cY, hmY, hcY, -, hlY, -, -, -, -⟩ := Cond.code_spec hn h2
  obtain ⟨kY, hkY, -⟩ := className_of_methodNamed hn
  have hinitY : kY.init = .initialized := Cond.initialized_spec (findClass_of_methodNamed hn) hkY h3
  have h : At U g.method c below := by rw [hg]; exact X.here
  have hlocals9 : W9 + (maxL + 11) + (headSpec ws rm).room.locals ≤ R.locals := hlocals
  have happ : (headSpec ws rm).appliesLoose y e.platform (U.calling g mk a) = true :=
    Spec.appliesLoose_calling (g := g) h hdg hn hkY hinitY
      (X.room_calling (g := g) (R' := (headSpec ws rm).room) hsize hmY hcY hframes (by rw [hlY]; omega) h4 h5) h1
  obtain ⟨mid, hmid⟩ := h.above
  have hfr : (U.setTop g).frames = (.java g :: mid) ++ below := by rw [State.frames_setTop' g h.top, hmid]; rfl
  obtain ⟨o, s₂, hsteps, -, hend, hq⟩ := Steps.callFree hM p X.admits X.cas X.clock (acts := []) hfr happ hPc trivial
  have hq' : vx_Q Qc XC mc ms free a (U.calling g mk a) o s₂ := hq
  rw [State.frames_setTop' g h.top] at hend
  obtain ⟨g₀, hg0⟩ := Option.isSome_iff_exists.mp h.top
  obtain ⟨r, hr⟩ := State.topJava?_eq_some.mp hg0
  have hr' : (({ U with heap := s₂.heap, slotsUsed := s₂.slotsUsed } : State).setVm s₂.vm).frames = .java g₀ :: r := hr
  rcases hq' with ⟨hqc, L, hfe, hL⟩ | ⟨q, rfl, E, ce, L, hx, hce, hcv, hcl, hW₂, hsm, hL⟩
  · obtain ⟨⟨v, rfl⟩, hW₂, e2, q2, q3, q4, q5, q6⟩ := id hfe
    have e3 : s₂ = ({ (U.calling g mk a).setFrames s₂.frames with heap := s₂.heap, slotsUsed := s₂.slotsUsed } : State).setVm s₂.vm := by
      have : s₂ = ({ s₂ with vm := (U.calling g mk a).vm } : State).setVm s₂.vm := rfl
      rw [e2] at this
      exact this
    obtain ⟨c₂, i₂, len₂, hc₂, hd₂, hf₂⟩ := hend
    have hW' : U.WarmedH s₂.vm := hW₂
    have hcc : c₂ = c := by
      have h1 : s₂.code? g.method = U.code? g.method := by
        rw [State.code?_eq, State.code?_eq, hW'.alike.method?]
      exact Option.some.inj (hc₂.symm.trans (h1.trans h.code))
    subst hcc
    have hlen : len₂ = len := by rw [hdg] at hd₂; cases hd₂; rfl
    subst hlen
    have hs₂ : s₂ = (({ U with heap := s₂.heap, slotsUsed := s₂.slotsUsed } : State).setVm s₂.vm).setTop { g with pc := g.pc + len₂, stack := v.toList ++ g.stack } := by
      refine e3.trans ?_
      rw [hf₂, State.calling_eq h.top, State.setFrames_setFrames, State.setTop_of_frames _ hr', hr]
      rfl
    have hsame : U.sameButNew ({ U with heap := s₂.heap, slotsUsed := s₂.slotsUsed } : State) L mc ms := by
      refine ⟨?_, q2, q3, q4, q5, q6⟩
      obtain ⟨t, ht, -⟩ := State.frames_cons hr
      show ({ U with heap := s₂.heap, slotsUsed := s₂.slotsUsed } : State) = { U.setFrames U.frames with heap := s₂.heap, slotsUsed := s₂.slotsUsed }
      rw [State.setFrames_self ht]
    subst hg
    refine Or.inl ⟨v, ⟨(({ U with heap := s₂.heap, slotsUsed := s₂.slotsUsed } : State).setVm s₂.vm), Ls ++ L, c0 + mc, s0 + ms⟩,
      ⟨X.admits, X.cas, X.clock, X.frames, X.room, X.hears, X.method, X.code, (X.here.setHeapUsed s₂.heap s₂.slotsUsed).setVm hW'.alike, X.tail, State.WarmedH.trans X.warmed hW', X.limits, X.bytes, X.same.trans (hsame.setVm s.vm)⟩,
      ⟨g, mk, s₂, L, rfl, rfl, hqc, rfl, hL, rfl, rfl⟩, ?_⟩
    show Steps p.tables e below _ ((({ U with heap := s₂.heap, slotsUsed := s₂.slotsUsed } : State).setVm s₂.vm).setTop { g with pc := g.pc + len₂, stack := v.toList ++ g.stack })
    rw [← hs₂]
    exact hsteps
  · obtain ⟨e2, q2, q3, q4, q5, q6⟩ := id hsm
    have e3 : s₂ = ({ (U.calling g mk a).setFrames s₂.frames with heap := s₂.heap, slotsUsed := s₂.slotsUsed } : State).setVm s₂.vm := by
      have : s₂ = ({ s₂ with vm := (U.calling g mk a).vm } : State).setVm s₂.vm := rfl
      rw [e2] at this
      exact this
    have hf₂ : s₂.frames = .throwing q :: .java g :: U.frames.tail := hend
    have hW' : U.WarmedH s₂.vm := hW₂
    have hs₂ : s₂ = ((({ U with heap := s₂.heap, slotsUsed := s₂.slotsUsed } : State).setVm s₂.vm).setTop g).pushFrame (.throwing q) := by
      refine e3.trans ?_
      rw [hf₂, State.calling_eq h.top, State.setFrames_setFrames, State.pushFrame, State.frames_setTop _ hr', State.setTop_of_frames _ hr', State.setFrames_setFrames, hr]
      rfl
    have hsame : U.sameButNew ({ U with heap := s₂.heap, slotsUsed := s₂.slotsUsed } : State) L mc ms := by
      refine ⟨?_, q2, q3, q4, q5, q6⟩
      obtain ⟨t, ht, -⟩ := State.frames_cons hr
      show ({ U with heap := s₂.heap, slotsUsed := s₂.slotsUsed } : State) = { U.setFrames U.frames with heap := s₂.heap, slotsUsed := s₂.slotsUsed }
      rw [State.setFrames_self ht]
    subst hg
    refine Or.inr ⟨q, ⟨(({ U with heap := s₂.heap, slotsUsed := s₂.slotsUsed } : State).setVm s₂.vm), Ls ++ L, c0 + mc, s0 + ms⟩,
      ⟨X.admits, X.cas, X.clock, X.frames, X.room, X.hears, X.method, X.code, (X.here.setHeapUsed s₂.heap s₂.slotsUsed).setVm hW'.alike, X.tail, State.WarmedH.trans X.warmed hW', X.limits, X.bytes, X.same.trans (hsame.setVm s.vm)⟩,
      ⟨g, mk, s₂, L, E, ce, rfl, rfl, hx, hce, hcv, hcl, rfl, hL, rfl, rfl⟩, ?_⟩
    show Steps p.tables e below _ (((({ U with heap := s₂.heap, slotsUsed := s₂.slotsUsed } : State).setVm s₂.vm).setTop g).pushFrame (.throwing q))
    rw [← hs₂]
    exact hsteps
end Payer
section Calls
variable {p : Program} {l : Launch} {e : Env} {R : Room} {s : State} {m : MethodId} {args : Array Value} {below : List Frame} {meth : Method} {c : Code} {T : State} {locs : List Loc} {cells slots : Nat}
theorem vx_callV (X : Stand p l e R s m args below meth c T locs cells slots) (hexec : p.tables.exec = Jvm.exec) {own C : String} {index : Nat} {y : MethodName} {bytes : ByteArray} {maxL : Nat} {ret : Option FieldType}
    (hown : s.vm.findClass own = some m.cls) (hlink : (Cond.methodLink own index y).before args s = true) (hinst : (Cond.instanceMethod y).before args s = true) (hsel : (Cond.selects C y y).before args s = true)
    (hcode : (Cond.code y bytes maxL ret).before args s = true) (hy : y.cls ≠ "java/lang/invoke/MethodHandle" ∧ y.cls ≠ "java/lang/invoke/VarHandle")
    {W9 : Nat} {Pre : Pt → Array Value → Prop} {Post : Pt → Array Value → Option Value → Pt → Prop} {PostX : Pt → Array Value → Addr → Pt → Prop} (hK : vx_Back l R p e below s args y 3 W9 Pre Post PostX)
    {b : Addr} {cellB : Cell} (hcell : T.heap[b]? = some cellB) (hobj : cellB.vm.isStatics = false) (hcls : s.vm.findClass C = some cellB.cls)
    {g : JFrame} (hg : g.method = m) (hsize : g.locals.size = c.maxLocals) {argsL rest : List Value} (hlen : ∀ sig, parseMethodDescriptor y.desc = some sig → argsL.length = sig.parameters.length)
    (hstack : g.stack = argsL.reverse ++ .ref b :: rest) (hW : 2 * g.monitorRoom + (rest.map fun v => v.category).sum ≤ W9) (hdg : decode c.code g.pc = .ok (.invokevirtual index, 3))
    (hpre : ∀ vm₁, s.WarmedH vm₁ → Pre ⟨T.setVm vm₁, locs, cells, slots⟩ (Value.ref b :: argsL).toArray) :
    (∃ (v : Option Value) (vm₁ : Vm) (B : Pt), s.WarmedH vm₁ ∧ Stand p l e R s m args below meth c B.U B.locs B.cells B.slots ∧ Post ⟨T.setVm vm₁, locs, cells, slots⟩ (Value.ref b :: argsL).toArray v B ∧
      ∀ target, Steps p.tables e below (B.U.setTop { g with pc := g.pc + 3, stack := v.toList ++ rest }) target → Steps p.tables e below (T.setTop g) target) ∨
    (∃ (q : Addr) (vm₁ : Vm) (B : Pt), s.WarmedH vm₁ ∧ Stand p l e R s m args below meth c B.U B.locs B.cells B.slots ∧ PostX ⟨T.setVm vm₁, locs, cells, slots⟩ (Value.ref b :: argsL).toArray q B ∧
      Steps p.tables e below (T.setTop g) ((B.U.setTop { g with stack := rest }).pushFrame (.throwing q))) := by
  obtain ⟨mk, methM, hnamed, hmethM, hstM, habM⟩ := Cond.instanceMethod_spec hinst
  obtain ⟨methM', cM, hmethM', -, -, -, -, -, -, hsigM⟩ := Cond.code_spec hnamed hcode
  cases hmethM.symm.trans hmethM'
  obtain ⟨c2, r2, m2, q1, q2, q3, q4, kP, hkP, hkPi⟩ := Cond.selects_spec hsel
  cases hcls.symm.trans q1
  cases (State.methodFound?_of_named hnamed hy).symm.trans q2
  cases hnamed.symm.trans q3
  have hselP : selectMethod e.platform s.vm cellB.cls mk = .method mk := by rw [Launch.admits_selectMethod X.admits]; exact q4
  obtain ⟨vm₁, X₁, hstep₁⟩ := X.invokevirtual hexec hown hlink hnamed hmethM hstM hkP hkPi hy (a := b) (cell := cellB) hcell
    (fun z h => by rw [h] at hobj; cases hobj) hselP hmethM habM hkP hkPi (g := g) hg (argsL := argsL) (rest := rest) (hlen _ hsigM) hstack hdg
  rcases hK m meth c ⟨T.setVm vm₁, locs, cells, slots⟩ { g with stack := rest } (.invokevirtual index) mk (Value.ref b :: argsL).toArray X₁ hg hsize hdg hW (X₁.named hnamed) (hpre vm₁ X₁.warmed) with ⟨v, B, X', hpost, hsteps⟩ | ⟨q, B, X', hpost, hsteps⟩
  · exact Or.inl ⟨v, vm₁, B, X₁.warmed, X', hpost, fun target h => hstep₁ _ fun acts => by rw [doInvoke_state]; exact hsteps.trans h⟩
  · exact Or.inr ⟨q, vm₁, B, X₁.warmed, X', hpost, hstep₁ _ fun acts => by rw [doInvoke_state]; exact hsteps⟩
theorem vx_callS (X : Stand p l e R s m args below meth c T locs cells slots) (hexec : p.tables.exec = Jvm.exec) {own : String} {index : Nat} {y : MethodName} {bytes : ByteArray} {maxL : Nat} {ret : Option FieldType}
    (hown : s.vm.findClass own = some m.cls) (hlink : (Cond.methodLink own index y).before args s = true) (hstat : (Cond.static y).before args s = true) (hinit : (Cond.initialized y.cls).before args s = true)
    (hcode : (Cond.code y bytes maxL ret).before args s = true) (hy : y.cls ≠ "java/lang/invoke/MethodHandle" ∧ y.cls ≠ "java/lang/invoke/VarHandle")
    {W9 : Nat} {Pre : Pt → Array Value → Prop} {Post : Pt → Array Value → Option Value → Pt → Prop} {PostX : Pt → Array Value → Addr → Pt → Prop} (hK : vx_Back l R p e below s args y 3 W9 Pre Post PostX)
    {g : JFrame} (hg : g.method = m) (hsize : g.locals.size = c.maxLocals) {argsL rest : List Value} (hlen : ∀ sig, parseMethodDescriptor y.desc = some sig → argsL.length = sig.parameters.length)
    (hstack : g.stack = argsL.reverse ++ rest) (hW : 2 * g.monitorRoom + (rest.map fun v => v.category).sum ≤ W9) (hdg : decode c.code g.pc = .ok (.invokestatic index, 3))
    (hpre : ∀ vm₁, s.WarmedH vm₁ → Pre ⟨T.setVm vm₁, locs, cells, slots⟩ argsL.toArray) :
    (∃ (v : Option Value) (vm₁ : Vm) (B : Pt), s.WarmedH vm₁ ∧ Stand p l e R s m args below meth c B.U B.locs B.cells B.slots ∧ Post ⟨T.setVm vm₁, locs, cells, slots⟩ argsL.toArray v B ∧
      ∀ target, Steps p.tables e below (B.U.setTop { g with pc := g.pc + 3, stack := v.toList ++ rest }) target → Steps p.tables e below (T.setTop g) target) ∨
    (∃ (q : Addr) (vm₁ : Vm) (B : Pt), s.WarmedH vm₁ ∧ Stand p l e R s m args below meth c B.U B.locs B.cells B.slots ∧ PostX ⟨T.setVm vm₁, locs, cells, slots⟩ argsL.toArray q B ∧
      Steps p.tables e below (T.setTop g) ((B.U.setTop { g with stack := rest }).pushFrame (.throwing q))) := by
  obtain ⟨mk, hnamed⟩ := Cond.code_named hcode
  obtain ⟨methM, cM, hmethM, -, -, -, -, -, -, hsigM⟩ := Cond.code_spec hnamed hcode
  have hstatic : methM.isStatic = true := Cond.static_spec hnamed hmethM hstat
  obtain ⟨kP, hkP, -⟩ := className_of_methodNamed hnamed
  have hinitP : kP.init = .initialized := Cond.initialized_spec (findClass_of_methodNamed hnamed) hkP hinit
  obtain ⟨vm₁, X₁, hstep₁⟩ := X.invokestatic hexec hown hlink hnamed hmethM hstatic hkP hinitP hy (g := g) hg (argsL := argsL) (rest := rest) (hlen _ hsigM) hstack hdg
  rcases hK m meth c ⟨T.setVm vm₁, locs, cells, slots⟩ { g with stack := rest } (.invokestatic index) mk argsL.toArray X₁ hg hsize hdg hW (X₁.named hnamed) (hpre vm₁ X₁.warmed) with ⟨v, B, X', hpost, hsteps⟩ | ⟨q, B, X', hpost, hsteps⟩
  · exact Or.inl ⟨v, vm₁, B, X₁.warmed, X', hpost, fun target h => hstep₁ _ fun acts => by rw [doInvoke_state]; exact hsteps.trans h⟩
  · exact Or.inr ⟨q, vm₁, B, X₁.warmed, X', hpost, hstep₁ _ fun acts => by rw [doInvoke_state]; exact hsteps⟩
end Calls
theorem vx_cls {s : State} {T : State} {vm₁ : Vm} {E : String} {k : ClassId} (hW : s.WarmedH vm₁) (h : (T.setVm vm₁).vm.findClass E = some k) : s.vm.findClass E = some k := by
  have h1 : vm₁.findClass E = some k := h
  rw [hW.alike.findClass] at h1
  exact h1
/-- the method's frame g, with q thrown over it -/
def vx_W (p : Program) (l : Launch) (e : Env) (R : Room) (s : State) (m : MethodId) (args : Array Value) (below : List Frame) (meth : Method) (c : Code) (H : Heap) (locs : List Loc) (cells slots : Nat) (Q : State → Prop) (g : JFrame) (q : Addr) : Prop :=
  ∀ T : State, T.heap = H → Stand p l e R s m args below meth c T locs cells slots → ∃ t, Steps p.tables e below ((T.setTop g).pushFrame (.throwing q)) t ∧ Q t
def vx_Run (p : Program) (l : Launch) (e : Env) (R : Room) (s : State) (m : MethodId) (args : Array Value) (below : List Frame) (meth : Method) (c : Code) (H : Heap) (locs : List Loc) (cells slots mc ms : Nat) (g : JFrame) (rest : List Value) (Qa : State → Outcome → State → Prop) (XC : String → State → State → Prop) (free : Addr → Prop) : Prop :=
  ∀ T : State, T.heap = H → Stand p l e R s m args below meth c T locs cells slots →
    (∃ (v : Option Value) (st₀ t T' : State) (L : List Loc), st₀.heap = H ∧ Stand p l e R s m args below meth c T' (locs ++ L) (cells + mc) (slots + ms) ∧ (∀ q ∈ L, free q.base) ∧ T'.heap = t.heap ∧ T'.vm = t.vm ∧ Qa st₀ (.returned v) t ∧
      Goes p e below T g T' { g with pc := g.pc + 3, stack := v.toList ++ rest }) ∨
    (∃ (q : Addr) (st₀ t T' : State) (L : List Loc) (E : String) (ce : Cell), st₀.heap = H ∧ Stand p l e R s m args below meth c T' (locs ++ L) (cells + mc) (slots + ms) ∧ (∀ z ∈ L, free z.base) ∧ T'.heap = t.heap ∧ T'.vm = t.vm ∧ XC E st₀ t ∧ t.heap[q]? = some ce ∧ ce.vm = .none ∧ s.vm.findClass E = some ce.cls ∧
      Steps p.tables e below (T.setTop g) ((T'.setTop { g with stack := rest }).pushFrame (.throwing q)))
def vx_X {S : Type} (px : S → Prop) (B : String → S → State → Prop) (A : Nat → Prop) : String → State → State → Prop := fun E st t => ∃ u : S, px u ∧ B E u t ∧ va_F A st t
section Runs
variable {p : Program} {l : Launch} {e : Env} {R : Room} {s : State} {m : MethodId} {args : Array Value} {below : List Frame} {meth : Method} {c : Code} {H : Heap} {locs : List Loc} {cells slots : Nat}
variable {y : MethodName} {bytes cc : ByteArray} {maxL nL mc ms n index : Nat} {ret : Option FieldType} {ws : List Cond} {rm : Room} {Pc : Array Value → State → Prop} {Qc : Array Value → State → Outcome → State → Prop} {XC : String → State → State → Prop} {free : Addr → Prop} {Ts : List Cond} {own C : String} {b : Addr} {As rest : List Value} {g : JFrame}
theorem vx_callBack (cb : CallB R s args own index y bytes maxL ret ws rm mc ms n) (hM : vx_Met l y ws rm Pc Qc XC mc ms free) (hbl : FrameBlind Pc) : vx_Back l R p e below s args y 3 8 (PreOf R mc ms Pc) (PostOf Qc mc ms free) (vx_Post XC mc ms free) := by
  obtain ⟨hrc, hrs, hfr, hlo, hws, hcw, -, hini, -⟩ := cb
  exact vx_back (bytes := bytes) (maxL := maxL) (ret := ret) hM hbl hrc hrs hfr hlo hws hcw (fun a' U hW => word_at hW (Or.inl (by first | rfl | simp [Cond.onTables, Cond.keeps, Cond.steady])) hini)
theorem vx_runV (S : CallFix p m c cc nL s args Ts own) (hM : vx_Met l y ws rm Pc Qc XC mc ms free) (cw : CallW R s args own C index y bytes maxL ret ws rm mc ms n) (hp : PreV s H C b Pc As)
    (hg : g.method = m) (hn : As.length = n) (hsize : g.locals.size = nL) (hstack : g.stack = As.reverse ++ .ref b :: rest) (hW : 2 * g.monitorRoom + (rest.map fun v => v.category).sum ≤ 8) (hdg : decode cc g.pc = .ok (.invokevirtual index, 3)) (hf : cells + mc ≤ R.cells ∧ slots + ms ≤ R.slots) :
    vx_Run p l e R s m args below meth c H locs cells slots mc ms g rest (Qc (Value.ref b :: As).toArray) XC free := by
  have hK : vx_Back l R p e below s args y 3 8 (PreOf R mc ms Pc) (PostOf Qc mc ms free) (vx_Post XC mc ms free) := vx_callBack cw.1 hM hp.1
  obtain ⟨⟨-, -, -, -, -, -, hcode, -, hy, hlen, hl⟩, hin, hse⟩ := cw
  obtain ⟨hx, hb, hml, ho, -⟩ := S
  obtain ⟨-, ⟨cellB, hcB, hoB, hclB⟩, hPc⟩ := hp
  intro T hT X
  rcases vx_callV X hx (C := C) (bytes := bytes) (maxL := maxL) (ret := ret) ho hl hin hse hcode hy hK (by rw [hT]; exact hcB) hoB hclB hg (hsize.trans hml.symm) (argsL := As) (rest := rest) (fun sig h => hn.trans (hlen sig h)) hstack hW (by rw [hb]; exact hdg)
    (fun vm₁ hW₁ => ⟨hf.1, hf.2, hPc (T.setVm vm₁) hT hW₁⟩) with ⟨v, vm₁, ⟨U', l2, c2, s2⟩, hW₁, X', ⟨g', mk, t, L, e1, e2, hq, h1, hL, h2, h3⟩, st⟩ | ⟨q, vm₁, ⟨U', l2, c2, s2⟩, hW₁, X', ⟨g', mk, t, L, E, ce, e1, e2, hq, hce, hcv, hcl, h1, hL, h2, h3⟩, st⟩
  · dsimp only [Pt.U, Pt.locs, Pt.cells, Pt.slots] at X' e1 e2 h1 h2 h3 st
    subst h1; subst h2; subst h3
    exact Or.inl ⟨v, (T.setVm vm₁).calling g' mk (Value.ref b :: As).toArray, t, U', L, hT, X', hL, e1, e2, hq, st⟩
  · dsimp only [Pt.U, Pt.locs, Pt.cells, Pt.slots] at X' e1 e2 h1 h2 h3 st hcl
    subst h1; subst h2; subst h3
    exact Or.inr ⟨q, (T.setVm vm₁).calling g' mk (Value.ref b :: As).toArray, t, U', L, E, ce, hT, X', hL, e1, e2, hq, hce, hcv, vx_cls hW₁ hcl, st⟩
theorem vx_runS (S : CallFix p m c cc nL s args Ts own) (hM : vx_Met l y ws rm Pc Qc XC mc ms free) (cw : CallB R s args own index y bytes maxL ret ws rm mc ms n ∧ (Cond.static y).before args s = true) (hp : PreS s H Pc As)
    (hg : g.method = m) (hn : As.length = n) (hsize : g.locals.size = nL) (hstack : g.stack = As.reverse ++ rest) (hW : 2 * g.monitorRoom + (rest.map fun v => v.category).sum ≤ 8) (hdg : decode cc g.pc = .ok (.invokestatic index, 3)) (hf : cells + mc ≤ R.cells ∧ slots + ms ≤ R.slots) :
    vx_Run p l e R s m args below meth c H locs cells slots mc ms g rest (Qc As.toArray) XC free := by
  have hK : vx_Back l R p e below s args y 3 8 (PreOf R mc ms Pc) (PostOf Qc mc ms free) (vx_Post XC mc ms free) := vx_callBack cw.1 hM hp.1
  obtain ⟨⟨-, -, -, -, -, -, hcode, hini, hy, hlen, hl⟩, hstt⟩ := cw
  obtain ⟨hx, hb, hml, ho, -⟩ := S
  intro T hT X
  rcases vx_callS X hx (bytes := bytes) (maxL := maxL) (ret := ret) ho hl hstt hini hcode hy hK hg (hsize.trans hml.symm) (argsL := As) (rest := rest) (fun sig h => hn.trans (hlen sig h)) hstack hW (by rw [hb]; exact hdg)
    (fun vm₁ hW₁ => ⟨hf.1, hf.2, hp.2 (T.setVm vm₁) hT hW₁⟩) with ⟨v, vm₁, ⟨U', l2, c2, s2⟩, hW₁, X', ⟨g', mk, t, L, e1, e2, hq, h1, hL, h2, h3⟩, st⟩ | ⟨q, vm₁, ⟨U', l2, c2, s2⟩, hW₁, X', ⟨g', mk, t, L, E, ce, e1, e2, hq, hce, hcv, hcl, h1, hL, h2, h3⟩, st⟩
  · dsimp only [Pt.U, Pt.locs, Pt.cells, Pt.slots] at X' e1 e2 h1 h2 h3 st
    subst h1; subst h2; subst h3
    exact Or.inl ⟨v, (T.setVm vm₁).calling g' mk As.toArray, t, U', L, hT, X', hL, e1, e2, hq, st⟩
  · dsimp only [Pt.U, Pt.locs, Pt.cells, Pt.slots] at X' e1 e2 h1 h2 h3 st hcl
    subst h1; subst h2; subst h3
    exact Or.inr ⟨q, (T.setVm vm₁).calling g' mk As.toArray, t, U', L, E, ce, hT, X', hL, e1, e2, hq, hce, hcv, vx_cls hW₁ hcl, st⟩
end Runs
section Rows
variable {p : Program} {l : Launch} {e : Env} {R : Room} {s : State} {m : MethodId} {args : Array Value} {below : List Frame} {meth : Method} {c : Code} {H : Heap} {locs : List Loc} {cells slots : Nat} {Q : State → Prop}
variable {mc ms : Nat} {free : Addr → Prop} {A0 A1 : Nat → Prop} {H0 : Heap} {a : Array Value} {pc : Nat} {ls : Array Slot} {st0 rest : List Value}
theorem vx_keep {st₀ t T' : State} {L : List Loc} (h0 : st₀.heap = H) (e1 : T'.heap = t.heap) (hS : va_S A0 H0 H locs) (hA : ∀ q, q < H.size → A1 q → A0 q) (hf : ∀ q, free q → A0 q) (hL : ∀ q ∈ L, free q.base) (hF : va_F A1 st₀ t) :
    H.size ≤ T'.heap.size ∧ (∀ q : Nat, q < H.size → ¬ A1 q → T'.heap[q]? = H[q]?) ∧ va_S A0 H0 T'.heap (locs ++ L) := by
  obtain ⟨hz, hk⟩ := hF
  rw [h0] at hz hk
  exact ⟨by rw [e1]; exact hz, fun q h1 h2 => by rw [e1]; exact hk q h1 h2,
    ⟨Nat.le_trans hS.1 (by rw [e1]; exact hz), fun q h1 h2 => by rw [e1, hk q (Nat.lt_of_lt_of_le h1 hS.1) (fun z => h2 (hA q (Nat.lt_of_lt_of_le h1 hS.1) z))]; exact hS.2.1 q h1 h2, fun q hq => by
      rcases List.mem_append.mp hq with h | h
      · exact hS.2.2 q h
      · exact hf _ (hL q h)⟩⟩
theorem vx_calli {S SX : Type} {post : Int32 → S → Prop} {px : SX → Prop} {B : S → State → Prop} {BX : String → SX → State → Prop} {AX : Nat → Prop} (hr : vx_Run p l e R s m args below meth c H locs cells slots mc ms (F0 m pc ls st0) rest (va_Qi post B A1 a) (vx_X px BX AX) free) (hS : va_S A0 H0 H locs) (hA : ∀ q, q < H.size → A1 q → A0 q) (hf : ∀ q, free q → A0 q) (hAX : ∀ q, q < H.size → AX q → A0 q)
    (kx : ∀ (E : String) (ce : Cell) (q9 : Addr) (u : SX) (t : State) (H1 : Heap) (locs1 : List Loc), t.heap = H1 → s.vm.Alike t.vm → px u → BX E u t → H.size ≤ H1.size → (∀ q : Nat, q < H.size → ¬ AX q → H1[q]? = H[q]?) → va_S A0 H0 H1 locs1 → H1[q9]? = some ce → ce.vm = .none → s.vm.findClass E = some ce.cls → vx_W p l e R s m args below meth c H1 locs1 (cells + mc) (slots + ms) Q (F0 m pc ls rest) q9)
    (kk : ∀ (r : Int32) (u : S) (t : State) (H1 : Heap) (locs1 : List Loc), t.heap = H1 → s.vm.Alike t.vm → post r u → B u t → H.size ≤ H1.size → (∀ q : Nat, q < H.size → ¬ A1 q → H1[q]? = H[q]?) → va_S A0 H0 H1 locs1 → W p l e R s m args below meth c H1 locs1 (cells + mc) (slots + ms) Q (F0 m (pc + 3) ls (.int r :: rest))) : W p l e R s m args below meth c H locs cells slots Q (F0 m pc ls st0) := by
  intro T hT X
  rcases hr T hT X with ⟨v, st₀, t, T', L, h0, X', hL, e1, e2, ⟨⟨r, u, hv, hp, hb⟩, hF⟩, st⟩ | ⟨q, st₀, t, T', L, E, ce, h0, X', hL, e1, e2, ⟨u, hp, hb, hF⟩, hce, hcv, hcl, st⟩
  · cases hv
    obtain ⟨k1, k2, k3⟩ := vx_keep h0 e1 hS hA hf hL hF
    obtain ⟨t2, a1, b1⟩ := kk r u t T'.heap (locs ++ L) e1.symm (by rw [← e2]; exact X'.warmed.alike) hp hb k1 k2 k3 T' rfl X'
    exact ⟨t2, st t2 a1, b1⟩
  · obtain ⟨k1, k2, k3⟩ := vx_keep h0 e1 hS hAX hf hL hF
    obtain ⟨t2, a1, b1⟩ := kx E ce q u t T'.heap (locs ++ L) e1.symm (by rw [← e2]; exact X'.warmed.alike) hp hb k1 k2 k3 (by rw [e1]; exact hce) hcv hcl T' rfl X'
    exact ⟨t2, st.trans a1, b1⟩
theorem vx_calll {S SX : Type} {post : Int64 → S → Prop} {px : SX → Prop} {B : S → State → Prop} {BX : String → SX → State → Prop} {AX : Nat → Prop} (hr : vx_Run p l e R s m args below meth c H locs cells slots mc ms (F0 m pc ls st0) rest (va_Ql post B A1 a) (vx_X px BX AX) free) (hS : va_S A0 H0 H locs) (hA : ∀ q, q < H.size → A1 q → A0 q) (hf : ∀ q, free q → A0 q) (hAX : ∀ q, q < H.size → AX q → A0 q)
    (kx : ∀ (E : String) (ce : Cell) (q9 : Addr) (u : SX) (t : State) (H1 : Heap) (locs1 : List Loc), t.heap = H1 → s.vm.Alike t.vm → px u → BX E u t → H.size ≤ H1.size → (∀ q : Nat, q < H.size → ¬ AX q → H1[q]? = H[q]?) → va_S A0 H0 H1 locs1 → H1[q9]? = some ce → ce.vm = .none → s.vm.findClass E = some ce.cls → vx_W p l e R s m args below meth c H1 locs1 (cells + mc) (slots + ms) Q (F0 m pc ls rest) q9)
    (kk : ∀ (r : Int64) (u : S) (t : State) (H1 : Heap) (locs1 : List Loc), t.heap = H1 → s.vm.Alike t.vm → post r u → B u t → H.size ≤ H1.size → (∀ q : Nat, q < H.size → ¬ A1 q → H1[q]? = H[q]?) → va_S A0 H0 H1 locs1 → W p l e R s m args below meth c H1 locs1 (cells + mc) (slots + ms) Q (F0 m (pc + 3) ls (.long r :: rest))) : W p l e R s m args below meth c H locs cells slots Q (F0 m pc ls st0) := by
  intro T hT X
  rcases hr T hT X with ⟨v, st₀, t, T', L, h0, X', hL, e1, e2, ⟨⟨r, u, hv, hp, hb⟩, hF⟩, st⟩ | ⟨q, st₀, t, T', L, E, ce, h0, X', hL, e1, e2, ⟨u, hp, hb, hF⟩, hce, hcv, hcl, st⟩
  · cases hv
    obtain ⟨k1, k2, k3⟩ := vx_keep h0 e1 hS hA hf hL hF
    obtain ⟨t2, a1, b1⟩ := kk r u t T'.heap (locs ++ L) e1.symm (by rw [← e2]; exact X'.warmed.alike) hp hb k1 k2 k3 T' rfl X'
    exact ⟨t2, st t2 a1, b1⟩
  · obtain ⟨k1, k2, k3⟩ := vx_keep h0 e1 hS hAX hf hL hF
    obtain ⟨t2, a1, b1⟩ := kx E ce q u t T'.heap (locs ++ L) e1.symm (by rw [← e2]; exact X'.warmed.alike) hp hb k1 k2 k3 (by rw [e1]; exact hce) hcv hcl T' rfl X'
    exact ⟨t2, st.trans a1, b1⟩
theorem vx_callf {S SX : Type} {post : UInt32 → S → Prop} {px : SX → Prop} {B : S → State → Prop} {BX : String → SX → State → Prop} {AX : Nat → Prop} (hr : vx_Run p l e R s m args below meth c H locs cells slots mc ms (F0 m pc ls st0) rest (va_Qf post B A1 a) (vx_X px BX AX) free) (hS : va_S A0 H0 H locs) (hA : ∀ q, q < H.size → A1 q → A0 q) (hf : ∀ q, free q → A0 q) (hAX : ∀ q, q < H.size → AX q → A0 q)
    (kx : ∀ (E : String) (ce : Cell) (q9 : Addr) (u : SX) (t : State) (H1 : Heap) (locs1 : List Loc), t.heap = H1 → s.vm.Alike t.vm → px u → BX E u t → H.size ≤ H1.size → (∀ q : Nat, q < H.size → ¬ AX q → H1[q]? = H[q]?) → va_S A0 H0 H1 locs1 → H1[q9]? = some ce → ce.vm = .none → s.vm.findClass E = some ce.cls → vx_W p l e R s m args below meth c H1 locs1 (cells + mc) (slots + ms) Q (F0 m pc ls rest) q9)
    (kk : ∀ (r : UInt32) (u : S) (t : State) (H1 : Heap) (locs1 : List Loc), t.heap = H1 → s.vm.Alike t.vm → post r u → B u t → H.size ≤ H1.size → (∀ q : Nat, q < H.size → ¬ A1 q → H1[q]? = H[q]?) → va_S A0 H0 H1 locs1 → W p l e R s m args below meth c H1 locs1 (cells + mc) (slots + ms) Q (F0 m (pc + 3) ls (.float r :: rest))) : W p l e R s m args below meth c H locs cells slots Q (F0 m pc ls st0) := by
  intro T hT X
  rcases hr T hT X with ⟨v, st₀, t, T', L, h0, X', hL, e1, e2, ⟨⟨r, u, hv, hp, hb⟩, hF⟩, st⟩ | ⟨q, st₀, t, T', L, E, ce, h0, X', hL, e1, e2, ⟨u, hp, hb, hF⟩, hce, hcv, hcl, st⟩
  · cases hv
    obtain ⟨k1, k2, k3⟩ := vx_keep h0 e1 hS hA hf hL hF
    obtain ⟨t2, a1, b1⟩ := kk r u t T'.heap (locs ++ L) e1.symm (by rw [← e2]; exact X'.warmed.alike) hp hb k1 k2 k3 T' rfl X'
    exact ⟨t2, st t2 a1, b1⟩
  · obtain ⟨k1, k2, k3⟩ := vx_keep h0 e1 hS hAX hf hL hF
    obtain ⟨t2, a1, b1⟩ := kx E ce q u t T'.heap (locs ++ L) e1.symm (by rw [← e2]; exact X'.warmed.alike) hp hb k1 k2 k3 (by rw [e1]; exact hce) hcv hcl T' rfl X'
    exact ⟨t2, st.trans a1, b1⟩
theorem vx_calld {S SX : Type} {post : UInt64 → S → Prop} {px : SX → Prop} {B : S → State → Prop} {BX : String → SX → State → Prop} {AX : Nat → Prop} (hr : vx_Run p l e R s m args below meth c H locs cells slots mc ms (F0 m pc ls st0) rest (va_Qd post B A1 a) (vx_X px BX AX) free) (hS : va_S A0 H0 H locs) (hA : ∀ q, q < H.size → A1 q → A0 q) (hf : ∀ q, free q → A0 q) (hAX : ∀ q, q < H.size → AX q → A0 q)
    (kx : ∀ (E : String) (ce : Cell) (q9 : Addr) (u : SX) (t : State) (H1 : Heap) (locs1 : List Loc), t.heap = H1 → s.vm.Alike t.vm → px u → BX E u t → H.size ≤ H1.size → (∀ q : Nat, q < H.size → ¬ AX q → H1[q]? = H[q]?) → va_S A0 H0 H1 locs1 → H1[q9]? = some ce → ce.vm = .none → s.vm.findClass E = some ce.cls → vx_W p l e R s m args below meth c H1 locs1 (cells + mc) (slots + ms) Q (F0 m pc ls rest) q9)
    (kk : ∀ (r : UInt64) (u : S) (t : State) (H1 : Heap) (locs1 : List Loc), t.heap = H1 → s.vm.Alike t.vm → post r u → B u t → H.size ≤ H1.size → (∀ q : Nat, q < H.size → ¬ A1 q → H1[q]? = H[q]?) → va_S A0 H0 H1 locs1 → W p l e R s m args below meth c H1 locs1 (cells + mc) (slots + ms) Q (F0 m (pc + 3) ls (.double r :: rest))) : W p l e R s m args below meth c H locs cells slots Q (F0 m pc ls st0) := by
  intro T hT X
  rcases hr T hT X with ⟨v, st₀, t, T', L, h0, X', hL, e1, e2, ⟨⟨r, u, hv, hp, hb⟩, hF⟩, st⟩ | ⟨q, st₀, t, T', L, E, ce, h0, X', hL, e1, e2, ⟨u, hp, hb, hF⟩, hce, hcv, hcl, st⟩
  · cases hv
    obtain ⟨k1, k2, k3⟩ := vx_keep h0 e1 hS hA hf hL hF
    obtain ⟨t2, a1, b1⟩ := kk r u t T'.heap (locs ++ L) e1.symm (by rw [← e2]; exact X'.warmed.alike) hp hb k1 k2 k3 T' rfl X'
    exact ⟨t2, st t2 a1, b1⟩
  · obtain ⟨k1, k2, k3⟩ := vx_keep h0 e1 hS hAX hf hL hF
    obtain ⟨t2, a1, b1⟩ := kx E ce q u t T'.heap (locs ++ L) e1.symm (by rw [← e2]; exact X'.warmed.alike) hp hb k1 k2 k3 (by rw [e1]; exact hce) hcv hcl T' rfl X'
    exact ⟨t2, st.trans a1, b1⟩
theorem vx_callv {S SX : Type} {post : S → Prop} {px : SX → Prop} {B : S → State → Prop} {BX : String → SX → State → Prop} {AX : Nat → Prop} (hr : vx_Run p l e R s m args below meth c H locs cells slots mc ms (F0 m pc ls st0) rest (va_Qv post B A1 a) (vx_X px BX AX) free) (hS : va_S A0 H0 H locs) (hA : ∀ q, q < H.size → A1 q → A0 q) (hf : ∀ q, free q → A0 q) (hAX : ∀ q, q < H.size → AX q → A0 q)
    (kx : ∀ (E : String) (ce : Cell) (q9 : Addr) (u : SX) (t : State) (H1 : Heap) (locs1 : List Loc), t.heap = H1 → s.vm.Alike t.vm → px u → BX E u t → H.size ≤ H1.size → (∀ q : Nat, q < H.size → ¬ AX q → H1[q]? = H[q]?) → va_S A0 H0 H1 locs1 → H1[q9]? = some ce → ce.vm = .none → s.vm.findClass E = some ce.cls → vx_W p l e R s m args below meth c H1 locs1 (cells + mc) (slots + ms) Q (F0 m pc ls rest) q9)
    (kk : ∀ (u : S) (t : State) (H1 : Heap) (locs1 : List Loc), t.heap = H1 → s.vm.Alike t.vm → post u → B u t → H.size ≤ H1.size → (∀ q : Nat, q < H.size → ¬ A1 q → H1[q]? = H[q]?) → va_S A0 H0 H1 locs1 → W p l e R s m args below meth c H1 locs1 (cells + mc) (slots + ms) Q (F0 m (pc + 3) ls (rest))) : W p l e R s m args below meth c H locs cells slots Q (F0 m pc ls st0) := by
  intro T hT X
  rcases hr T hT X with ⟨v, st₀, t, T', L, h0, X', hL, e1, e2, ⟨⟨u, hv, hp, hb⟩, hF⟩, st⟩ | ⟨q, st₀, t, T', L, E, ce, h0, X', hL, e1, e2, ⟨u, hp, hb, hF⟩, hce, hcv, hcl, st⟩
  · cases hv
    obtain ⟨k1, k2, k3⟩ := vx_keep h0 e1 hS hA hf hL hF
    obtain ⟨t2, a1, b1⟩ := kk u t T'.heap (locs ++ L) e1.symm (by rw [← e2]; exact X'.warmed.alike) hp hb k1 k2 k3 T' rfl X'
    exact ⟨t2, st t2 a1, b1⟩
  · obtain ⟨k1, k2, k3⟩ := vx_keep h0 e1 hS hAX hf hL hF
    obtain ⟨t2, a1, b1⟩ := kx E ce q u t T'.heap (locs ++ L) e1.symm (by rw [← e2]; exact X'.warmed.alike) hp hb k1 k2 k3 (by rw [e1]; exact hce) hcv hcl T' rfl X'
    exact ⟨t2, st.trans a1, b1⟩
/-- caught by the row x of this method's table; the rows ahead don't take it -/
theorem vx_catch {own name : String} {E : String} {ce : Cell} {q : Addr} (hown : s.vm.findClass own = some m.cls) (pre : List ExceptionTableEntry) (x : ExceptionTableEntry) (suf : List ExceptionTableEntry) (hsplit : c.exceptionTable.toList = pre ++ x :: suf)
    (hpass : ∀ z ∈ pre, covers z pc = false ∨ (z.catchType ≠ 0 ∧ ∃ nm : String, (Cond.classLink own z.catchType nm).before args s = true ∧ va_Nc E nm s)) (hx : covers x pc = true) (h0 : x.catchType ≠ 0)
    (hlink : (Cond.classLink own x.catchType name).before args s = true) (hcast : (Cond.castable E name).before args s = true) (hcell : H[q]? = some ce) (hv : ce.vm = .none) (hcl : s.vm.findClass E = some ce.cls)
    (kk : W p l e R s m args below meth c H locs cells slots Q (F0 m x.handlerPc ls [.ref q])) : vx_W p l e R s m args below meth c H locs cells slots Q (F0 m pc ls rest) q := by
  intro T hT X
  have hpl : e.platform.magicAccessors = ({} : Platform).magicAccessors := by rw [X.admits.platform]
  obtain ⟨c3, c4, hc3, hc4, hasg⟩ := Cond.castable_spec hcast
  cases Option.some.inj (hc3.symm.trans hcl)
  obtain ⟨c5, hc5, hcl5⟩ := Cond.classLink_spec hown hlink e.platform hpl
  cases Option.some.inj (hc4.symm.trans hc5)
  obtain ⟨vm', X', st⟩ := X.thenCaughtThrough q (g := F0 m pc ls rest) rfl (Steps.refl _) (by rw [hT]; exact hcell) (by rw [hv]; rfl) (by obtain ⟨k9, h9, -⟩ := Vm.findClass_spec hcl; exact ⟨k9, h9⟩) pre x suf hsplit
    (fun z hz => by
      rcases hpass z hz with h | ⟨hz0, nm, hl1, hn1⟩
      · exact Or.inl h
      · obtain ⟨c6, hc6, hcl6⟩ := Cond.classLink_spec hown hl1 e.platform hpl
        obtain ⟨a8, b8, h1, h2, h3⟩ := hn1
        cases Option.some.inj (h1.symm.trans hcl)
        cases Option.some.inj (h2.symm.trans hc6)
        exact Or.inr ⟨hz0, _, hcl6, h3⟩) hx (Or.inr ⟨h0, c4, hcl5, hasg⟩)
  obtain ⟨t, a1, b1⟩ := kk (T.setVm vm') hT X'
  exact ⟨t, st.trans a1, b1⟩
end Rows
section Ends
variable {p : Program} {l : Launch} {e : Env} {R : Room} {s : State} {m : MethodId} {args : Array Value} {below : List Frame} {meth : Method} {c : Code} {H : Heap} {locs : List Loc} {cells slots : Nat} {Q : State → Prop}
variable {mc ms : Nat} {free : Addr → Prop} {A0 A1 : Nat → Prop} {H0 : Heap} {a : Array Value} {ls : Array Slot} {st0 rest : List Value}
variable {Qc : Array Value → State → Outcome → State → Prop} {XC : String → State → State → Prop}
/-- what a body that may throw owes at its end -/
def vx_MQ (below : List Frame) (Qc : Array Value → State → Outcome → State → Prop) (XC : String → State → State → Prop) (a : Array Value) (s : State) (mc ms : Nat) (free : Addr → Prop) : State → Prop := fun t =>
  ∃ o, t.status = .running ∧ Ended t below o ∧ vx_Q Qc XC mc ms free a s o t
theorem vx_ret {g : JFrame} {mc ms : Nat} (k : W p l e R s m args below meth c H locs cells slots (MQ below Qc args s mc ms free) g) : W p l e R s m args below meth c H locs cells slots (vx_MQ below Qc XC args s mc ms free) g := by
  intro T hT X
  obtain ⟨t, a1, o, b1, b2, b3, b4⟩ := k T hT X
  exact ⟨t, a1, o, b1, b2, Or.inl ⟨b3, b4⟩⟩
/-- not caught here: it goes on to the caller -/
theorem vx_widen {g : JFrame} {q : Addr} {k n : Nat} (h1 : cells ≤ k) (h2 : slots ≤ n) (kk : vx_W p l e R s m args below meth c H locs k n Q g q) : vx_W p l e R s m args below meth c H locs cells slots Q g q := fun T hT X => kk T hT (stand_widen X h1 h2)
theorem vx_out {pc : Nat} {E : String} {ce : Cell} {q : Addr} {mc ms : Nat} (hout : ∀ x ∈ c.exceptionTable.toList, covers x pc = false) (hlocks : meth.locks = false) (hcell : H[q]? = some ce) (hv : ce.vm = .none) (hcl : s.vm.findClass E = some ce.cls)
    (hx : ∀ t : State, t.heap = H → s.vm.Alike t.vm → XC E s t) (hf : ∀ z ∈ locs, free z.base) (hc : cells ≤ mc) (hs : slots ≤ ms) :
    vx_W p l e R s m args below meth c H locs cells slots (vx_MQ below Qc XC args s mc ms free) (F0 m pc ls rest) q := by
  intro T hT X
  obtain ⟨st1, hrun, hend, hW, hsm⟩ := X.leaveThrown q (g := F0 m pc ls rest) rfl rfl rfl hout hlocks
  have hcell9 : (T.setFrames (.throwing q :: below)).heap[q]? = some ce := by
    show T.heap[q]? = some ce
    rw [hT]; exact hcell
  exact ⟨_, st1, .threw q, hrun, hend, Or.inr ⟨q, rfl, E, ce, locs, hx _ hT hW.alike, hcell9, hv, hcl, hW, hsm.mono hc hs, hf⟩⟩
theorem vx_frame {U : State} {k n : Nat} (h : s.sameButNew ({ U with vm := s.vm } : State) locs k n) : s.heap.size ≤ U.heap.size ∧ ∀ q : Nat, q < s.heap.size → (∀ z ∈ locs, z.base ≠ q) → U.heap[q]? = s.heap[q]? := by
  obtain ⟨-, h2, -, -, -, h6⟩ := h
  refine ⟨h2, fun q hq hz => ?_⟩
  obtain ⟨c9, e1, e2, e3, e4⟩ := h6 q _ (Array.getElem?_eq_getElem hq)
  have hs : c9.slots = (s.heap[q]).slots := Array.ext_getElem? fun i => e4 i fun hm => hz _ hm rfl
  have h9 : c9 = s.heap[q] := by
    rw [hs] at e2
    exact e2
  have e5 : U.heap[q]? = some c9 := e1
  rw [e5, h9, Array.getElem?_eq_getElem hq]
/-- the words of a throw but the four that speak of the heap -/
def vx_no (w : Cond) : Bool := decide (w ≠ .isRef (.static Bundle.tN "UNASSIGNED_STACK" Bundle.steD)) && decide (w ≠ .isRef (.static Bundle.tN "SUPPRESSED_SENTINEL" Bundle.listD)) && decide (w ≠ .laysStatic Bundle.tN "UNASSIGNED_STACK" Bundle.steD) && decide (w ≠ .laysStatic Bundle.tN "SUPPRESSED_SENTINEL" Bundle.listD)
def vx_at0 (own : String) (ic : Nat) (X : String) (names : List String) : List Cond := (Bundle.ownAtoms0 own ic X names).filter vx_no
def vx_atS (own : String) (ic : Nat) (X : String) (names : List String) : List Cond := (Bundle.ownAtoms own ic X names).filter vx_no
/-- a word that the tables alone decide, or a good one -/
def vx_ot (w : Cond) : Bool := w.onTables || goodWord w
theorem vx_ot_at {args a' : Array Value} {s U : State} {w : Cond} (hW : s.WarmedH U.vm) (hvm : s.vm = U.vm) (hg : vx_ot w = true) (h : w.before args s = true) : w.before a' U = true := by
  simp only [vx_ot, Bool.or_eq_true] at hg
  rcases hg with hg | hg
  · exact va_tabs hg hvm h
  · exact word_at hW (good_of_word hg) h
/-- a list's words: the good ones out of the method's own list, the others by premises of their own -/
theorem vx_hat {args : Array Value} {s : State} {L B : List Cond} (h1 : ∀ w ∈ L.filter goodWord, w.before args s = true) (h2 : ∀ w ∈ L.filter (fun w => !goodWord w), w ∈ B) (h3 : ∀ w ∈ B, w.before args s = true) : ∀ w ∈ L, w.before args s = true := by
  intro w hw
  by_cases g : goodWord w = true
  · exact h1 w (List.mem_filter.mpr ⟨hw, g⟩)
  · refine h3 w (h2 w (List.mem_filter.mpr ⟨hw, ?_⟩))
    show (!goodWord w) = true
    cases hgw : goodWord w
    · rfl
    · exact absurd hgw g
theorem vx_c {args : Array Value} {s : State} {w : Cond} {B : List Cond} (h : w.before args s = true) (t : ∀ w ∈ B, w.before args s = true) : ∀ w' ∈ w :: B, w'.before args s = true := fun w' h' => (List.mem_cons.mp h').elim (fun e => by rw [e]; exact h) (t w')
theorem vx_n {args : Array Value} {s : State} : ∀ w ∈ ([] : List Cond), w.before args s = true := fun _ h => nomatch h
theorem vx_own {args : Array Value} {s : State} {L : List Cond} (h1 : ∀ w ∈ L.filter vx_no, w.before args s = true)
    (hU : (Cond.isRef (.static Bundle.tN "UNASSIGNED_STACK" Bundle.steD)).before args s = true) (hN : (Cond.isRef (.static Bundle.tN "SUPPRESSED_SENTINEL" Bundle.listD)).before args s = true)
    (lU : (Cond.laysStatic Bundle.tN "UNASSIGNED_STACK" Bundle.steD).before args s = true) (lN : (Cond.laysStatic Bundle.tN "SUPPRESSED_SENTINEL" Bundle.listD).before args s = true) : ∀ w ∈ L, w.before args s = true := by
  intro w hw
  by_cases e1 : w = .isRef (.static Bundle.tN "UNASSIGNED_STACK" Bundle.steD)
  · rw [e1]; exact hU
  · by_cases e2 : w = .isRef (.static Bundle.tN "SUPPRESSED_SENTINEL" Bundle.listD)
    · rw [e2]; exact hN
    · by_cases e3 : w = .laysStatic Bundle.tN "UNASSIGNED_STACK" Bundle.steD
      · rw [e3]; exact lU
      · by_cases e4 : w = .laysStatic Bundle.tN "SUPPRESSED_SENTINEL" Bundle.listD
        · rw [e4]; exact lN
        · exact h1 w (List.mem_filter.mpr ⟨hw, by unfold vx_no; rw [decide_eq_true e1, decide_eq_true e2, decide_eq_true e3, decide_eq_true e4]; rfl⟩)
/-- where a static field lies, its class's statics cell in H -/
def vx_L (C n d : String) (A : Nat → Prop) (U : State) (H : Heap) : Prop := ∃ (c : ClassId) (k : Class) (i : Nat) (f : Field) (a : Nat) (cell : Cell), U.vm.findClass C = some c ∧ U.fieldFound? C n d = some (c, k, i, f) ∧ f.isStatic = true ∧ k.statics = some a ∧ H[a]? = some cell ∧ cell.vm.isStatics = true ∧ cell.cls = c ∧ f.slot < cell.slots.size ∧ k.staticTypes[f.slot]? = some f.type ∧ ¬ A a
theorem vx_L.moved {C n d : String} {A : Nat → Prop} {u U : State} {H : Heap} (hvm : u.vm.Alike U.vm) (h : vx_L C n d A u H) : vx_L C n d A U H := by
  obtain ⟨c, k, i, f, a, cell, h1, h2, h3, h4, h5, h6, h7, h8, h9, h10⟩ := h
  obtain ⟨k', hi', he⟩ := State.fieldFound?_setVm hvm h2
  exact ⟨c, k', i, f, a, cell, by rw [hvm.findClass]; exact h1, hi', h3, by rw [he]; exact h4, h5, h6, h7, h8, by rw [he]; exact h9, h10⟩
theorem vx_L.kept {C n d : String} {A : Nat → Prop} {U : State} {H H1 : Heap} (h : vx_L C n d A U H) (hq : ∀ a : Nat, a < H.size → ¬ A a → H1[a]? = H[a]?) : vx_L C n d A U H1 := by
  obtain ⟨c, k, i, f, a, cell, h1, h2, h3, h4, h5, h6, h7, h8, h9, h10⟩ := h
  exact ⟨c, k, i, f, a, cell, h1, h2, h3, h4, by rw [hq a (Array.getElem?_eq_some_iff.mp h5).1 h10]; exact h5, h6, h7, h8, h9, h10⟩
theorem vx_L.narrow {C n d : String} {A B : Nat → Prop} {U : State} {H : Heap} (h : vx_L C n d A U H) (hAB : ∀ q, B q → A q) : vx_L C n d B U H := by
  obtain ⟨c, k, i, f, a, cell, h1, h2, h3, h4, h5, h6, h7, h8, h9, h10⟩ := h
  exact ⟨c, k, i, f, a, cell, h1, h2, h3, h4, h5, h6, h7, h8, h9, fun z => h10 (hAB _ z)⟩
theorem vx_L.word {C n d : String} {A : Nat → Prop} {s : State} {args : Array Value} (h : vx_L C n d A s s.heap) : (Cond.laysStatic C n d).before args s = true := by
  obtain ⟨c, k, i, f, a, cell, h1, h2, h3, h4, h5, h6, h7, h8, h9, -⟩ := h
  show (Cond.laysStatic C n d).holds args s none s [] = true
  exact Cond.laysStatic_of h1 h2 h3 h4 h5 h6 h7 h8 h9
/-- .. and what it holds: null or some reference -/
def vx_Zq (C n d : String) (A : Nat → Prop) (U : State) (H : Heap) : Prop := va_Zq C n d A U H ∧ vx_L C n d A U H
theorem vx_Zq.moved {C n d : String} {A : Nat → Prop} {u U : State} {H : Heap} (hvm : u.vm.Alike U.vm) (h : vx_Zq C n d A u H) : vx_Zq C n d A U H := ⟨va_Zq.moved hvm h.1, vx_L.moved hvm h.2⟩
theorem vx_Zq.kept {C n d : String} {A : Nat → Prop} {U : State} {H H1 : Heap} (h : vx_Zq C n d A U H) (hq : ∀ a : Nat, a < H.size → ¬ A a → H1[a]? = H[a]?) : vx_Zq C n d A U H1 := ⟨va_Zq.kept h.1 hq, vx_L.kept h.2 hq⟩
theorem vx_Zq.narrow {C n d : String} {A B : Nat → Prop} {U : State} {H : Heap} (h : vx_Zq C n d A U H) (hAB : ∀ q, B q → A q) : vx_Zq C n d B U H := ⟨va_Zq.narrow h.1 hAB, vx_L.narrow h.2 hAB⟩
theorem vx_Zqof {args : Array Value} {s : State} {C n d : String} {A : Nat → Prop} (hl : (Cond.laysStatic C n d).before args s = true) (hini : (Cond.initialized C).before args s = true) (h : (Cond.isRef (.static C n d)).before args s = true) (hA : ∀ a : Nat, a < s.heap.size → ¬ A a) : vx_Zq C n d A s s.heap := by
  refine ⟨va_Zqof hl hini h hA, ?_⟩
  obtain ⟨c, k, i, f, a, cell, h1, h2, h3, h4, h5, h6, h7, h8, h9⟩ := Cond.laysStatic_spec hl
  exact ⟨c, k, i, f, a, cell, h1, h2, h3, h4, h5, h6, h7, h8, h9, hA a (Array.getElem?_eq_some_iff.mp h5).1⟩
theorem vx_isRef {C n d : String} {v : Value} {A : Nat → Prop} {s : State} {args : Array Value} (h : va_Z C n d v A s s.heap) (hv : v.isRef = true) : (Cond.isRef (.static C n d)).before args s = true := by
  obtain ⟨cf, kf, fi, f, a, cell, h1, h2, h3, h4, h5, h6, h7, -⟩ := h
  have he : (Term.static C n d).eval args s none [] s = some v := by
    simp [Term.eval, State.fieldNamed?, h1, h2, h4, h5, h6, h7]
  simp only [Cond.before, Cond.holds, Cond.value, he]
  cases v <;> simp_all [Value.isRef]
theorem vx_isRefq {C n d : String} {A : Nat → Prop} {s : State} {args : Array Value} (h : va_Zq C n d A s s.heap) : (Cond.isRef (.static C n d)).before args s = true := by
  rcases h with h | ⟨t, h⟩
  · exact vx_isRef h rfl
  · exact vx_isRef h rfl
/-- the same frame, seen from here: as if the method were called anew in this heap -/
theorem vx_rebase {T : State} (X : Stand p l e R s m args below meth c T locs cells slots) {R' : Room} (hf : R'.frames ≤ R.frames) (hl : R'.locals ≤ R.locals) (hc : cells + R'.cells ≤ R.cells) (hs : slots + R'.slots ≤ R.slots) :
    Stand p l e R' ((T.setVm s.vm).setFrames (.invoking m args :: below)) m args below meth c T [] 0 0 := by
  have htop : (T.setVm s.vm).topJava?.isSome := X.here.top
  have hF : ((T.setVm s.vm).setFrames (.invoking m args :: below)).frames = .invoking m args :: below := State.frames_setFrames _ (State.cur_lt_of_top htop)
  obtain ⟨g₀, hg0⟩ := Option.isSome_iff_exists.mp htop
  obtain ⟨r, hr⟩ := State.topJava?_eq_some.mp hg0
  have hl9 : e.platform.stackLimits (T.setVm s.vm).me = e.platform.stackLimits s.me := X.limits
  have hb9 : (T.setVm s.vm).me.stackBytes = s.me.stackBytes := X.bytes
  refine ⟨X.admits, X.cas, X.clock, hF, ?_, X.hears, X.method, X.code, X.here, X.tail, X.warmed, ?_, ?_, ?_⟩
  · have h := X.room
    have hU : ((T.setVm s.vm).setFrames (.invoking m args :: below)).localsInUse = s.localsInUse := by
      rw [State.localsInUse_invoking hF (meth := meth) (c := c) X.method X.code, State.localsInUse_invoking X.frames X.method X.code]
    simp only [State.hasRoom, Bool.and_eq_true, decide_eq_true_eq] at h ⊢
    obtain ⟨⟨⟨⟨h1, h2, h3, h4, h5, h6⟩, h7⟩, h8⟩, h9⟩ := h
    rw [X.frames, List.length_cons] at h2 h3
    have q1 := X.heapSize
    have q2 := X.used
    simp only [hF, hU, List.length_cons, State.stackLimits_setFrames, State.stackBytes_setFrames, hl9, hb9]
    refine ⟨⟨⟨⟨by omega, by omega, by omega, by omega, by omega, h6⟩, ?_⟩, ?_⟩, X.book⟩
    · show T.heap.size + R'.cells ≤ e.platform.maxCells
      omega
    · show T.slotsUsed + R'.slots ≤ e.platform.maxSlots
      omega
  · rw [State.stackLimits_setFrames]; rfl
  · rw [State.stackBytes_setFrames]; rfl
  · refine ⟨?_, Nat.le_refl _, Nat.le_refl _, ?_, ?_, fun a c9 h9 => ⟨c9, h9, rfl, rfl, fun _ _ => rfl⟩⟩
    · obtain ⟨t, ht, -⟩ := State.frames_cons hr
      show T.setVm s.vm = { ((T.setVm s.vm).setFrames (.invoking m args :: below)).setFrames (T.setVm s.vm).frames with heap := T.heap, slotsUsed := T.slotsUsed }
      rw [State.setFrames_setFrames, State.setFrames_self ht]
      rfl
    · show T.slotsUsed = T.slotsUsed + ((T.heap.toList.drop T.heap.size).map (·.slots.size)).sum
      rw [List.drop_eq_nil_of_le (Nat.le_of_eq Array.length_toList)]
      rfl
    · show ((T.heap.toList.drop T.heap.size).map (·.slots.size)).sum ≤ 0
      rw [List.drop_eq_nil_of_le (Nat.le_of_eq Array.length_toList)]
      exact Nat.le_refl _
/-- 'throw new E()': new; dup; invokespecial; athrow -/
theorem vx_throw0 {cc : ByteArray} {pc : Nat} (hexec : p.tables.exec = Jvm.exec) (hb : c.code = cc) (hl : l.stackTraces = false) {own cls : String} {names : List String} {ik ic mc ms : Nat} {A : Nat → Prop}
    (hown : s.vm.findClass own = some m.cls) (hcls : Bundle.fit cls = true) (hnames : ∀ n ∈ names, Bundle.fit n = true)
    (hk : (Cond.classLink own ik cls).before args s = true) (hini : (Cond.initialized cls).before args s = true) (hat : ∀ w ∈ vx_at0 own ic cls names, w.before args s = true)
    (hgood : ∀ w ∈ Cond.classLink own ik cls :: Cond.initialized cls :: vx_at0 own ic cls names, vx_ot w = true)
    (hU : vx_Zq Bundle.tN "UNASSIGNED_STACK" Bundle.steD A s s.heap) (hN : vx_Zq Bundle.tN "SUPPRESSED_SENTINEL" Bundle.listD A s s.heap) (hS : va_S A s.heap H locs) (hsize : ls.size = c.maxLocals)
    (d0 : decode cc pc = .ok (.new ik, 3)) (d3 : decode cc (pc + 3) = .ok (.dup, 1)) (d4 : decode cc (pc + 4) = .ok (.invokespecial ic, 3)) (d7 : decode cc (pc + 7) = .ok (.athrow, 1))
    (hout : ∀ x ∈ c.exceptionTable.toList, covers x (pc + 7) = false)
    (hRframes : names.length + 3 < R.frames) (hRlocals : (rest.map fun v => v.category).sum + (13 * (names.length + 1) + 42) ≤ R.locals) (hRcells : cells + 1 ≤ R.cells) (hRslots : slots + 6 ≤ R.slots) (hlocks : meth.locks = false)
    (hx : ∀ t : State, s.vm.Alike t.vm → H.size ≤ t.heap.size → (∀ q : Nat, q < H.size → t.heap[q]? = H[q]?) → XC cls s t)
    (hf : ∀ z ∈ locs, free z.base) (hc : cells + 1 ≤ mc) (hs : slots + 6 ≤ ms) :
    W p l e R s m args below meth c H locs cells slots (vx_MQ below Qc XC args s mc ms free) (F0 m pc ls rest) := by
  intro T hT X
  have htr : e.platform.stackTraces = false := (show e.platform.stackTraces = l.stackTraces by rw [X.admits.platform]).trans hl
  have Y := vx_rebase X (R' := { frames := R.frames, locals := R.locals, cells := 1, slots := 6 }) (Nat.le_refl _) (Nat.le_refl _) hRcells hRslots
  obtain ⟨s', hA⟩ : ∃ z, z = (T.setVm s.vm).setFrames (.invoking m args :: below) := ⟨_, rfl⟩
  rw [← hA] at Y
  have hvm : s'.vm = s.vm := by rw [hA]; rfl
  have hhp : s'.heap = H := by rw [hA]; exact hT
  have hW0 : s.WarmedH s'.vm := by rw [hvm]; exact State.WarmedH.refl s
  have hat' : ∀ w ∈ vx_at0 own ic cls names, w.before args s' = true := fun w hw => vx_ot_at hW0 hvm.symm (hgood w (List.mem_cons_of_mem _ (List.mem_cons_of_mem _ hw))) (hat w hw)
  have hk' : (Cond.classLink own ik cls).before args s' = true := vx_ot_at hW0 hvm.symm (hgood _ List.mem_cons_self) hk
  have hini' : (Cond.initialized cls).before args s' = true := vx_ot_at hW0 hvm.symm (hgood _ (List.mem_cons_of_mem _ List.mem_cons_self)) hini
  have hU' : vx_Zq Bundle.tN "UNASSIGNED_STACK" Bundle.steD A s' s'.heap := by rw [hhp]; exact vx_Zq.moved hW0.alike (hU.kept hS.2.1)
  have hN' : vx_Zq Bundle.tN "SUPPRESSED_SENTINEL" Bundle.listD A s' s'.heap := by rw [hhp]; exact vx_Zq.moved hW0.alike (hN.kept hS.2.1)
  have h : ∀ w ∈ Bundle.ownAtoms0 own ic cls names, w.before args s' = true := vx_own hat' (vx_isRefq hU'.1) (vx_isRefq hN'.1) hU'.2.word hN'.2.word
  have hown' : s'.vm.findClass own = some m.cls := by rw [hvm]; exact hown
  have hins : (Cond.instantiable cls 6).before args s' = true := h _ (by simp [Bundle.ownAtoms0])
  obtain ⟨vm₁, cX, kX, hfX, hkX, -, -, X₁, st1⟩ := Y.newCold hexec (own := own) (C := cls) (index := ik) (n := 6) hown' hk' hins hini'
    (g := F0 m pc ls rest) rfl (by rw [hb]; exact d0) (Nat.le_refl _) (Nat.le_refl _)
  generalize hT1 : (T.setVm vm₁).pushCell { cls := cX, slots := kX.instanceTypes.map defaultValue, vm := .none } = T1 at X₁ st1
  have hcat : (Value.ref T.heap.size).category = 1 := rfl
  have hcellA : T1.heap[T.heap.size]? = some (freshCell cX kX) := by rw [← hT1]; exact State.heap_pushCell_size _ _
  have d3' : decode c.code (pc + 3) = .ok (.dup, 1) := by rw [hb]; exact d3
  obtain ⟨U, hsteps, hrun, hend, hW, hsame, ce, hce, hO⟩ := X₁.ctorThrow0 hexec htr (own := own) (cls := cls) (names := names) (ic := ic) hown' hcls hnames h (fun x hx => nomatch hx) hfX hkX hcellA (by rw [hhp, hT]; exact Nat.le_refl _)
    (g := { method := m, pc := pc + 4, locals := ls, stack := .ref T.heap.size :: .ref T.heap.size :: rest, locked := none }) rfl hsize rfl rfl (rest := rest) rfl
    (by rw [hb]; exact d4) (by rw [hb]; exact d7) hout hRframes (by simp only [List.map_cons, List.sum_cons, hcat]; omega) hlocks
  obtain ⟨f1, f2⟩ := vx_frame hsame
  rw [hhp] at f1 f2
  have hWs : s.WarmedH U.vm := State.WarmedH.trans hW0 hW
  have hcl : s.vm.findClass cls = some ce.cls := by
    have h9 := hO.cls
    rw [hvm] at h9
    exact h9
  have hall : s.sameButNew ({ U with vm := s.vm } : State) locs mc ms := by
    subst hA
    obtain ⟨e1, e2⟩ := hsame
    rw [State.setFrames_setFrames] at e1
    have h2 : (T.setVm s.vm).sameButNew ({ U with vm := s.vm } : State) [] (0 + 1) (0 + 6) := ⟨e1, e2⟩
    have h3 := X.same.trans h2
    rw [List.append_nil] at h3
    exact h3.mono hc hs
  refine ⟨U, ?_, .threw T.heap.size, hrun, hend, Or.inr ⟨T.heap.size, rfl, cls, ce, locs, hx U hWs.alike f1 (fun q hq => f2 q hq (fun z hz => nomatch hz)), hce, hO.vm, hcl, hWs, hall, hf⟩⟩
  refine st1 _ ?_
  show Steps p.tables e below (T1.setTop { method := m, pc := pc + 3, locals := ls, stack := .ref T.heap.size :: rest, locked := none }) _
  jvm_step X₁.here [X₁.here.top, hexec, d3', Value.category]
  exact hsteps
/-- 'throw new E("text")': new; dup; ldc; invokespecial; athrow -/
theorem vx_throwS {cc : ByteArray} {pc : Nat} (hexec : p.tables.exec = Jvm.exec) (hb : c.code = cc) (hl : l.stackTraces = false) {own cls text : String} {names : List String} {ik is ic mc ms sa : Nat} {A : Nat → Prop}
    (hown : s.vm.findClass own = some m.cls) (hcls : Bundle.fit cls = true) (hnames : ∀ n ∈ names, Bundle.fit n = true)
    (hk : (Cond.classLink own ik cls).before args s = true) (hini : (Cond.initialized cls).before args s = true) (hstr : vk_R own is text sa s) (hat : ∀ w ∈ vx_atS own ic cls names, w.before args s = true)
    (hgood : ∀ w ∈ Cond.classLink own ik cls :: Cond.initialized cls :: vx_atS own ic cls names, vx_ot w = true)
    (hU : vx_Zq Bundle.tN "UNASSIGNED_STACK" Bundle.steD A s s.heap) (hN : vx_Zq Bundle.tN "SUPPRESSED_SENTINEL" Bundle.listD A s s.heap) (hS : va_S A s.heap H locs) (hsize : ls.size = c.maxLocals)
    (d0 : decode cc pc = .ok (.new ik, 3)) (d3 : decode cc (pc + 3) = .ok (.dup, 1)) (d4 : decode cc (pc + 4) = .ok (.ldc is, 2)) (d6 : decode cc (pc + 6) = .ok (.invokespecial ic, 3)) (d9 : decode cc (pc + 9) = .ok (.athrow, 1))
    (hout : ∀ x ∈ c.exceptionTable.toList, covers x (pc + 9) = false)
    (hRframes : names.length + 3 < R.frames) (hRlocals : (rest.map fun v => v.category).sum + (13 * (names.length + 1) + 43) ≤ R.locals) (hRcells : cells + 1 ≤ R.cells) (hRslots : slots + 6 ≤ R.slots) (hlocks : meth.locks = false)
    (hx : ∀ t : State, s.vm.Alike t.vm → H.size ≤ t.heap.size → (∀ q : Nat, q < H.size → t.heap[q]? = H[q]?) → XC cls s t)
    (hf : ∀ z ∈ locs, free z.base) (hc : cells + 1 ≤ mc) (hs : slots + 6 ≤ ms) :
    W p l e R s m args below meth c H locs cells slots (vx_MQ below Qc XC args s mc ms free) (F0 m pc ls rest) := by
  intro T hT X
  have htr : e.platform.stackTraces = false := (show e.platform.stackTraces = l.stackTraces by rw [X.admits.platform]).trans hl
  have Y := vx_rebase X (R' := { frames := R.frames, locals := R.locals, cells := 1, slots := 6 }) (Nat.le_refl _) (Nat.le_refl _) hRcells hRslots
  obtain ⟨s', hA⟩ : ∃ z, z = (T.setVm s.vm).setFrames (.invoking m args :: below) := ⟨_, rfl⟩
  rw [← hA] at Y
  have hvm : s'.vm = s.vm := by rw [hA]; rfl
  have hhp : s'.heap = H := by rw [hA]; exact hT
  have hW0 : s.WarmedH s'.vm := by rw [hvm]; exact State.WarmedH.refl s
  have hat' : ∀ w ∈ vx_atS own ic cls names, w.before args s' = true := fun w hw => vx_ot_at hW0 hvm.symm (hgood w (List.mem_cons_of_mem _ (List.mem_cons_of_mem _ hw))) (hat w hw)
  have hk' : (Cond.classLink own ik cls).before args s' = true := vx_ot_at hW0 hvm.symm (hgood _ List.mem_cons_self) hk
  have hini' : (Cond.initialized cls).before args s' = true := vx_ot_at hW0 hvm.symm (hgood _ (List.mem_cons_of_mem _ List.mem_cons_self)) hini
  have hU' : vx_Zq Bundle.tN "UNASSIGNED_STACK" Bundle.steD A s' s'.heap := by rw [hhp]; exact vx_Zq.moved hW0.alike (hU.kept hS.2.1)
  have hN' : vx_Zq Bundle.tN "SUPPRESSED_SENTINEL" Bundle.listD A s' s'.heap := by rw [hhp]; exact vx_Zq.moved hW0.alike (hN.kept hS.2.1)
  have h : ∀ w ∈ Bundle.ownAtoms own ic cls names, w.before args s' = true := vx_own hat' (vx_isRefq hU'.1) (vx_isRefq hN'.1) hU'.2.word hN'.2.word
  have hown' : s'.vm.findClass own = some m.cls := by rw [hvm]; exact hown
  have hins : (Cond.instantiable cls 6).before args s' = true := h _ (by simp [Bundle.ownAtoms])
  obtain ⟨vm₁, cX, kX, hfX, hkX, -, -, X₁, st1⟩ := Y.newCold hexec (own := own) (C := cls) (index := ik) (n := 6) hown' hk' hins hini'
    (g := F0 m pc ls rest) rfl (by rw [hb]; exact d0) (Nat.le_refl _) (Nat.le_refl _)
  generalize hT1 : (T.setVm vm₁).pushCell { cls := cX, slots := kX.instanceTypes.map defaultValue, vm := .none } = T1 at X₁ st1
  have hcat : (Value.ref T.heap.size).category = 1 := rfl
  have hcellA : T1.heap[T.heap.size]? = some (freshCell cX kX) := by rw [← hT1]; exact State.heap_pushCell_size _ _
  have d3' : decode c.code (pc + 3) = .ok (.dup, 1) := by rw [hb]; exact d3
  have d4' : decode c.code (pc + 4) = .ok (.ldc is, 2) := by rw [hb]; exact d4
  have hstr' : vk_R own is text sa s' := vk_R.warm hW0 hstr
  obtain ⟨U, hsteps, hrun, hend, hW, hsame, ce, hce, hO⟩ := X₁.ctorThrowS hexec htr (own := own) (cls := cls) (names := names) (ic := ic) hown' hcls hnames h (fun x hx => nomatch hx) hfX hkX hcellA (by rw [hhp, hT]; exact Nat.le_refl _) (msg := .ref sa) rfl
    (g := { method := m, pc := pc + 6, locals := ls, stack := .ref sa :: .ref T.heap.size :: .ref T.heap.size :: rest, locked := none }) rfl hsize rfl rfl (rest := rest) rfl
    (by rw [hb]; exact d6) (by rw [hb]; exact d9) hout hRframes (by simp only [List.map_cons, List.sum_cons, hcat]; omega) hlocks
  obtain ⟨f1, f2⟩ := vx_frame hsame
  rw [hhp] at f1 f2
  have hWs : s.WarmedH U.vm := State.WarmedH.trans hW0 hW
  have hcl : s.vm.findClass cls = some ce.cls := by
    have h9 := hO.cls
    rw [hvm] at h9
    exact h9
  have hall : s.sameButNew ({ U with vm := s.vm } : State) locs mc ms := by
    subst hA
    obtain ⟨e1, e2⟩ := hsame
    rw [State.setFrames_setFrames] at e1
    have h2 : (T.setVm s.vm).sameButNew ({ U with vm := s.vm } : State) [] (0 + 1) (0 + 6) := ⟨e1, e2⟩
    have h3 := X.same.trans h2
    rw [List.append_nil] at h3
    exact h3.mono hc hs
  refine ⟨U, ?_, .threw T.heap.size, hrun, hend, Or.inr ⟨T.heap.size, rfl, cls, ce, locs, hx U hWs.alike f1 (fun q hq => f2 q hq (fun z hz => nomatch hz)), hce, hO.vm, hcl, hWs, hall, hf⟩⟩
  refine st1 _ ?_
  show Steps p.tables e below (T1.setTop { method := m, pc := pc + 3, locals := ls, stack := .ref T.heap.size :: rest, locked := none }) _
  jvm_step X₁.here [X₁.here.top, hexec, d3', Value.category]
  exact X₁.ldcString hexec (own := own) (text := text) (index := is) (a := sa) hown' hstr'.1 hstr'.2
    (g := { method := m, pc := pc + 4, locals := ls, stack := .ref T.heap.size :: .ref T.heap.size :: rest, locked := none }) rfl d4' _ hsteps
/-- 'throw new E("text")', the text by a wide index -/
theorem vx_throwSW {cc : ByteArray} {pc : Nat} (hexec : p.tables.exec = Jvm.exec) (hb : c.code = cc) (hl : l.stackTraces = false) {own cls text : String} {names : List String} {ik is ic mc ms sa : Nat} {A : Nat → Prop}
    (hown : s.vm.findClass own = some m.cls) (hcls : Bundle.fit cls = true) (hnames : ∀ n ∈ names, Bundle.fit n = true)
    (hk : (Cond.classLink own ik cls).before args s = true) (hini : (Cond.initialized cls).before args s = true) (hstr : vk_R own is text sa s) (hat : ∀ w ∈ vx_atS own ic cls names, w.before args s = true)
    (hgood : ∀ w ∈ Cond.classLink own ik cls :: Cond.initialized cls :: vx_atS own ic cls names, vx_ot w = true)
    (hU : vx_Zq Bundle.tN "UNASSIGNED_STACK" Bundle.steD A s s.heap) (hN : vx_Zq Bundle.tN "SUPPRESSED_SENTINEL" Bundle.listD A s s.heap) (hS : va_S A s.heap H locs) (hsize : ls.size = c.maxLocals)
    (d0 : decode cc pc = .ok (.new ik, 3)) (d3 : decode cc (pc + 3) = .ok (.dup, 1)) (d4 : decode cc (pc + 4) = .ok (.ldc_w is, 3)) (d7 : decode cc (pc + 7) = .ok (.invokespecial ic, 3)) (d10 : decode cc (pc + 10) = .ok (.athrow, 1))
    (hout : ∀ x ∈ c.exceptionTable.toList, covers x (pc + 10) = false)
    (hRframes : names.length + 3 < R.frames) (hRlocals : (rest.map fun v => v.category).sum + (13 * (names.length + 1) + 43) ≤ R.locals) (hRcells : cells + 1 ≤ R.cells) (hRslots : slots + 6 ≤ R.slots) (hlocks : meth.locks = false)
    (hx : ∀ t : State, s.vm.Alike t.vm → H.size ≤ t.heap.size → (∀ q : Nat, q < H.size → t.heap[q]? = H[q]?) → XC cls s t)
    (hf : ∀ z ∈ locs, free z.base) (hc : cells + 1 ≤ mc) (hs : slots + 6 ≤ ms) :
    W p l e R s m args below meth c H locs cells slots (vx_MQ below Qc XC args s mc ms free) (F0 m pc ls rest) := by
  intro T hT X
  have htr : e.platform.stackTraces = false := (show e.platform.stackTraces = l.stackTraces by rw [X.admits.platform]).trans hl
  have Y := vx_rebase X (R' := { frames := R.frames, locals := R.locals, cells := 1, slots := 6 }) (Nat.le_refl _) (Nat.le_refl _) hRcells hRslots
  obtain ⟨s', hA⟩ : ∃ z, z = (T.setVm s.vm).setFrames (.invoking m args :: below) := ⟨_, rfl⟩
  rw [← hA] at Y
  have hvm : s'.vm = s.vm := by rw [hA]; rfl
  have hhp : s'.heap = H := by rw [hA]; exact hT
  have hW0 : s.WarmedH s'.vm := by rw [hvm]; exact State.WarmedH.refl s
  have hat' : ∀ w ∈ vx_atS own ic cls names, w.before args s' = true := fun w hw => vx_ot_at hW0 hvm.symm (hgood w (List.mem_cons_of_mem _ (List.mem_cons_of_mem _ hw))) (hat w hw)
  have hk' : (Cond.classLink own ik cls).before args s' = true := vx_ot_at hW0 hvm.symm (hgood _ List.mem_cons_self) hk
  have hini' : (Cond.initialized cls).before args s' = true := vx_ot_at hW0 hvm.symm (hgood _ (List.mem_cons_of_mem _ List.mem_cons_self)) hini
  have hU' : vx_Zq Bundle.tN "UNASSIGNED_STACK" Bundle.steD A s' s'.heap := by rw [hhp]; exact vx_Zq.moved hW0.alike (hU.kept hS.2.1)
  have hN' : vx_Zq Bundle.tN "SUPPRESSED_SENTINEL" Bundle.listD A s' s'.heap := by rw [hhp]; exact vx_Zq.moved hW0.alike (hN.kept hS.2.1)
  have h : ∀ w ∈ Bundle.ownAtoms own ic cls names, w.before args s' = true := vx_own hat' (vx_isRefq hU'.1) (vx_isRefq hN'.1) hU'.2.word hN'.2.word
  have hown' : s'.vm.findClass own = some m.cls := by rw [hvm]; exact hown
  have hins : (Cond.instantiable cls 6).before args s' = true := h _ (by simp [Bundle.ownAtoms])
  obtain ⟨vm₁, cX, kX, hfX, hkX, -, -, X₁, st1⟩ := Y.newCold hexec (own := own) (C := cls) (index := ik) (n := 6) hown' hk' hins hini'
    (g := F0 m pc ls rest) rfl (by rw [hb]; exact d0) (Nat.le_refl _) (Nat.le_refl _)
  generalize hT1 : (T.setVm vm₁).pushCell { cls := cX, slots := kX.instanceTypes.map defaultValue, vm := .none } = T1 at X₁ st1
  have hcat : (Value.ref T.heap.size).category = 1 := rfl
  have hcellA : T1.heap[T.heap.size]? = some (freshCell cX kX) := by rw [← hT1]; exact State.heap_pushCell_size _ _
  have d3' : decode c.code (pc + 3) = .ok (.dup, 1) := by rw [hb]; exact d3
  have d4' : decode c.code (pc + 4) = .ok (.ldc_w is, 3) := by rw [hb]; exact d4
  have hstr' : vk_R own is text sa s' := vk_R.warm hW0 hstr
  obtain ⟨U, hsteps, hrun, hend, hW, hsame, ce, hce, hO⟩ := X₁.ctorThrowS hexec htr (own := own) (cls := cls) (names := names) (ic := ic) hown' hcls hnames h (fun x hx => nomatch hx) hfX hkX hcellA (by rw [hhp, hT]; exact Nat.le_refl _) (msg := .ref sa) rfl
    (g := { method := m, pc := pc + 7, locals := ls, stack := .ref sa :: .ref T.heap.size :: .ref T.heap.size :: rest, locked := none }) rfl hsize rfl rfl (rest := rest) rfl
    (by rw [hb]; exact d7) (by rw [hb]; exact d10) hout hRframes (by simp only [List.map_cons, List.sum_cons, hcat]; omega) hlocks
  obtain ⟨f1, f2⟩ := vx_frame hsame
  rw [hhp] at f1 f2
  have hWs : s.WarmedH U.vm := State.WarmedH.trans hW0 hW
  have hcl : s.vm.findClass cls = some ce.cls := by
    have h9 := hO.cls
    rw [hvm] at h9
    exact h9
  have hall : s.sameButNew ({ U with vm := s.vm } : State) locs mc ms := by
    subst hA
    obtain ⟨e1, e2⟩ := hsame
    rw [State.setFrames_setFrames] at e1
    have h2 : (T.setVm s.vm).sameButNew ({ U with vm := s.vm } : State) [] (0 + 1) (0 + 6) := ⟨e1, e2⟩
    have h3 := X.same.trans h2
    rw [List.append_nil] at h3
    exact h3.mono hc hs
  refine ⟨U, ?_, .threw T.heap.size, hrun, hend, Or.inr ⟨T.heap.size, rfl, cls, ce, locs, hx U hWs.alike f1 (fun q hq => f2 q hq (fun z hz => nomatch hz)), hce, hO.vm, hcl, hWs, hall, hf⟩⟩
  refine st1 _ ?_
  show Steps p.tables e below (T1.setTop { method := m, pc := pc + 3, locals := ls, stack := .ref T.heap.size :: rest, locked := none }) _
  jvm_step X₁.here [X₁.here.top, hexec, d3', Value.category]
  exact X₁.ldcStringW hexec (own := own) (text := text) (index := is) (a := sa) hown' hstr'.1 hstr'.2
    (g := { method := m, pc := pc + 4, locals := ls, stack := .ref T.heap.size :: .ref T.heap.size :: rest, locked := none }) rfl d4' _ hsteps
end Ends
section Bodies
variable {l : Launch}
theorem vx_ofW {y : MethodName} {ws ws' : List Cond} {rm : Room} {Pc : Array Value → State → Prop} {Qc : Array Value → State → Outcome → State → Prop} {XC : String → State → State → Prop} {mc ms : Nat} {free : Addr → Prop} {cc : ByteArray} {maxL : Nat} {ret : Option FieldType}
    (hy : plainName y.cls = true) (hw : ws = Cond.code y cc maxL ret :: ws')
    (body : ∀ p e s m args below meth c s₁, BodyLoose p l y (headSpec ws rm) cc maxL ret e s m args below meth c s₁ → c.maxLocals = maxL → (∀ x ∈ c.exceptionTable.toList, False) → Pc args s →
      W p l e (headSpec ws rm).room s m args below meth c s.heap [] 0 0 (vx_MQ below Qc XC args s mc ms free) (entryFrame m args maxL)) : vx_Met l y ws rm Pc Qc XC mc ms free := by
  refine MetFree.of_bodyS (code := cc) (maxLocals := maxL) (ret := ret) hy ?_ ?_
  · intro args s m h hn
    obtain ⟨meth, c, h1, h2, h3, h4, h5, h6, -, -⟩ := Cond.code_spec hn (atoms_spec (ws := ws) h _ (by rw [hw]; exact List.mem_cons_self))
    exact ⟨meth, c, h1, h2, h3, h4, h5, h6⟩
  · intro p e s m args below meth c s₁ B hml hP _
    have hh0 : s₁.heap = s.heap := by rw [B.state]; rfl
    have ht : ∀ x ∈ c.exceptionTable.toList, False := by
      obtain ⟨meth9, c9, h1, h2, -, -, -, -, h7, -⟩ := Cond.code_spec B.named (atoms_spec (ws := ws) B.pre _ (by rw [hw]; exact List.mem_cons_self))
      cases Option.some.inj (h1.symm.trans B.method)
      cases Option.some.inj (h2.symm.trans (Stand.of_body B).code)
      intro x hx
      rw [Array.isEmpty_iff.mp h7] at hx
      cases hx
    obtain ⟨t, a1, o, b1, b2, b3⟩ := body p e s m args below meth c s₁ B hml ht hP s₁ hh0 (Stand.of_body B)
    exact ⟨t, o, a1, b1, b2, b3⟩
/-- the table of a body with handlers -/
theorem vx_table {p : Program} {x y : MethodName} {S : Spec} {cc bytes : ByteArray} {maxL maxL' : Nat} {ret ret' : Option FieldType} {e : Env} {s s₁ : State} {m : MethodId} {args : Array Value} {below : List Frame} {meth : Method} {c : Code} {hh : List (Nat × Nat × Nat × Nat)}
    (B : BodyLoose p l y S cc maxL ret e s m args below meth c s₁) (h : (Cond.codeWith y bytes maxL' ret' hh).before args s = true) : c.exceptionTable.toList = tableOf hh := by
  obtain ⟨m9, meth9, c9, hn9, h1, h2, -, -, h6, -⟩ := Cond.codeWith_spec h
  cases Option.some.inj (hn9.symm.trans B.named)
  cases Option.some.inj (h1.symm.trans B.method)
  cases Option.some.inj (h2.symm.trans (Stand.of_body B).code)
  rw [← h6, table_eq]
end Bodies
end VXA
/-! ===== END ===== -/
/-! ===== BEGIN a static call of a method with an exception table ===== -/
section VXS
variable {p : Program} {l : Launch} {e : Env} {R : Room} {s : State} {m : MethodId} {args : Array Value} {below : List Frame} {meth : Method} {c : Code} {T : State} {H : Heap} {locs : List Loc} {cells slots : Nat}
abbrev vx_CSW (R : Room) (s : State) (args : Array Value) (own : String) (index : Nat) (y : MethodName) (bytes : ByteArray) (maxL : Nat) (ret : Option FieldType) (hh : List (Nat × Nat × Nat × Nat)) (ws : List Cond) (rm : Room) (mc ms n : Nat) : Prop :=
  (rm.cells = mc ∧ rm.slots = ms ∧ rm.frames + 1 ≤ R.frames ∧ 8 + (maxL + 11) + rm.locals ≤ R.locals ∧ (∀ w ∈ ws, ∀ (a' : Array Value) (U : State), s.WarmedH U.vm → w.before a' U = true) ∧ Cond.codeWith y bytes maxL ret hh ∈ ws) ∧
  (Cond.codeWith y bytes maxL ret hh).before args s = true ∧ (Cond.initialized y.cls).before args s = true ∧ (y.cls ≠ "java/lang/invoke/MethodHandle" ∧ y.cls ≠ "java/lang/invoke/VarHandle") ∧
  (∀ sig, parseMethodDescriptor y.desc = some sig → n = sig.parameters.length) ∧ (Cond.methodLink own index y).before args s = true ∧ (Cond.static y).before args s = true
theorem vx_cwSW {own : String} {index maxL mc ms : Nat} {y : MethodName} {bytes : ByteArray} {ret : Option FieldType} {hh : List (Nat × Nat × Nat × Nat)} {Ts ws ws' : List Cond} {rm : Room} (n : Nat) (ht : ∀ w ∈ Ts, w.before args s = true) (hT : GoodIn Ts (va_wsS own index y ws)) (hw : ws = Cond.codeWith y bytes maxL ret hh :: ws') (hrc : rm.cells = mc) (hrs : rm.slots = ms)
    (hd : y.cls ≠ "java/lang/invoke/MethodHandle" ∧ y.cls ≠ "java/lang/invoke/VarHandle" ∧ (parseMethodDescriptor y.desc).map (fun d => d.parameters.length) = some n) (hR : rm.frames + 1 ≤ R.frames ∧ 8 + (maxL + 11) + rm.locals ≤ R.locals) :
    vx_CSW R s args own index y bytes maxL ret hh ws rm mc ms n := by
  have ok : ∀ w ∈ va_wsS own index y ws, w.before args s = true := fun w h => ht w (hT w h).1
  have hG : GoodIn Ts ws := fun w h => hT w (by unfold va_wsS; exact List.mem_append_right _ h)
  have hc : Cond.codeWith y bytes maxL ret hh ∈ ws := by rw [hw]; exact List.mem_cons_self
  refine ⟨⟨hrc, hrs, hR.1, hR.2, pay_in ht hG, hc⟩, ht _ (hG _ hc).1, ok _ (by simp [va_wsS]), ⟨hd.1, hd.2.1⟩, fun sig h => ?_, ok _ (by simp [va_wsS]), ok _ (by simp [va_wsS])⟩
  have h2 := hd.2.2
  rw [h] at h2
  exact (Option.some.inj h2).symm
theorem vx_callSW (X : Stand p l e R s m args below meth c T locs cells slots) (hexec : p.tables.exec = Jvm.exec) {own : String} {index : Nat} {y : MethodName} {bytes : ByteArray} {maxL : Nat} {ret : Option FieldType} {hh : List (Nat × Nat × Nat × Nat)}
    (hown : s.vm.findClass own = some m.cls) (hlink : (Cond.methodLink own index y).before args s = true) (hstat : (Cond.static y).before args s = true) (hinit : (Cond.initialized y.cls).before args s = true)
    (hcode : (Cond.codeWith y bytes maxL ret hh).before args s = true) (hy : y.cls ≠ "java/lang/invoke/MethodHandle" ∧ y.cls ≠ "java/lang/invoke/VarHandle")
    {W9 : Nat} {Pre : Pt → Array Value → Prop} {Post : Pt → Array Value → Option Value → Pt → Prop} (hK : Back l R p e below s args y 3 W9 Pre Post)
    {g : JFrame} (hg : g.method = m) (hsize : g.locals.size = c.maxLocals) {argsL rest : List Value} (hlen : ∀ sig, parseMethodDescriptor y.desc = some sig → argsL.length = sig.parameters.length)
    (hstack : g.stack = argsL.reverse ++ rest) (hW : 2 * g.monitorRoom + (rest.map fun v => v.category).sum ≤ W9) (hdg : decode c.code g.pc = .ok (.invokestatic index, 3))
    (hpre : ∀ vm₁, s.WarmedH vm₁ → Pre ⟨T.setVm vm₁, locs, cells, slots⟩ argsL.toArray) :
    ∃ (v : Option Value) (vm₁ : Vm) (B : Pt), s.WarmedH vm₁ ∧ Stand p l e R s m args below meth c B.U B.locs B.cells B.slots ∧ Post ⟨T.setVm vm₁, locs, cells, slots⟩ argsL.toArray v B ∧
      ∀ target, Steps p.tables e below (B.U.setTop { g with pc := g.pc + 3, stack := v.toList ++ rest }) target → Steps p.tables e below (T.setTop g) target := by
  obtain ⟨mk, methM, cM, hnamed, hmethM, -, -, -, -, -, -, hsigM⟩ := Cond.codeWith_spec hcode
  have hstatic : methM.isStatic = true := Cond.static_spec hnamed hmethM hstat
  obtain ⟨kP, hkP, -⟩ := className_of_methodNamed hnamed
  have hinitP : kP.init = .initialized := Cond.initialized_spec (findClass_of_methodNamed hnamed) hkP hinit
  obtain ⟨vm₁, X₁, hstep₁⟩ := X.invokestatic hexec hown hlink hnamed hmethM hstatic hkP hinitP hy (g := g) hg (argsL := argsL) (rest := rest) (hlen _ hsigM) hstack hdg
  obtain ⟨v, B, X', hpost, hsteps⟩ := hK m meth c ⟨T.setVm vm₁, locs, cells, slots⟩ { g with stack := rest } (.invokestatic index) mk argsL.toArray X₁ hg hsize hdg hW (X₁.named hnamed) (hpre vm₁ X₁.warmed)
  exact ⟨v, vm₁, B, X₁.warmed, X', hpost, fun target h => hstep₁ _ fun acts => by rw [doInvoke_state]; exact hsteps.trans h⟩
theorem vx_runSW {y : MethodName} {bytes cc : ByteArray} {maxL nL mc ms n index : Nat} {ret : Option FieldType} {hh : List (Nat × Nat × Nat × Nat)} {ws : List Cond} {rm : Room} {Pc : Array Value → State → Prop} {Qc : Array Value → State → Outcome → State → Prop} {free : Addr → Prop} {Ts : List Cond} {own : String} {As rest : List Value} {g : JFrame}
    (S : CallFix p m c cc nL s args Ts own) (hM : Met l y ws rm Pc Qc mc ms free) (cw : vx_CSW R s args own index y bytes maxL ret hh ws rm mc ms n) (hp : PreS s H Pc As)
    (hg : g.method = m) (hn : As.length = n) (hsize : g.locals.size = nL) (hstack : g.stack = As.reverse ++ rest) (hW : 2 * g.monitorRoom + (rest.map fun v => v.category).sum ≤ 8) (hdg : decode cc g.pc = .ok (.invokestatic index, 3)) (hf : cells + mc ≤ R.cells ∧ slots + ms ≤ R.slots) :
    va_Run p l e R s m args below meth c H locs cells slots mc ms g rest (Qc As.toArray) (free) := by
  obtain ⟨⟨hrc, hrs, hfr, hlo, hws, hcw⟩, hcode, hini, hy, hlen, hl, hstt⟩ := cw
  have hK : Back l R p e below s args y 3 8 (PreOf R mc ms Pc) (PostOf Qc mc ms free) := va_backW (hh := hh) (bytes := bytes) (maxL := maxL) (ret := ret) hM hp.1 hrc hrs hfr hlo hws hcw (fun a' U hW => word_at hW (Or.inl (by first | rfl | simp [Cond.onTables, Cond.keeps, Cond.steady])) hini)
  obtain ⟨hx, hb, hml, ho, -⟩ := S
  intro T hT X
  obtain ⟨v, vm₁, ⟨U', l2, c2, s2⟩, hW₁, X', ⟨g', mk, t, L, e1, e2, hq, h1, hL, h2, h3⟩, st⟩ := vx_callSW X hx (hh := hh) (bytes := bytes) (maxL := maxL) (ret := ret) ho hl hstt hini hcode hy hK hg (hsize.trans hml.symm) (argsL := As) (rest := rest) (fun sig h => hn.trans (hlen sig h)) hstack hW (by rw [hb]; exact hdg)
    (fun vm₁ hW₁ => ⟨hf.1, hf.2, hp.2 (T.setVm vm₁) hT hW₁⟩)
  dsimp only [Pt.U, Pt.locs, Pt.cells, Pt.slots] at X' e1 e2 h1 h2 h3 st
  subst h1; subst h2; subst h3
  exact ⟨v, (T.setVm vm₁).calling g' mk As.toArray, t, U', L, hT, X', hL, e1, e2, hq, st⟩
/-- not caught here, past rows that name other classes: it goes on to the caller -/
theorem vx_outP {p : Program} {l : Launch} {e : Env} {R : Room} {s : State} {m : MethodId} {args : Array Value} {below : List Frame} {meth : Method} {c : Code} {H : Heap} {locs : List Loc} {cells slots : Nat} {free : Addr → Prop} {ls : Array Slot} {rest : List Value} {Qc : Array Value → State → Outcome → State → Prop} {XC : String → State → State → Prop}
    {pc : Nat} {own E : String} {ce : Cell} {q : Addr} {mc ms : Nat} (hown : s.vm.findClass own = some m.cls) (hlocks : meth.locks = false)
    (hpass : ∀ z ∈ c.exceptionTable.toList, covers z pc = false ∨ (z.catchType ≠ 0 ∧ ∃ nm : String, (Cond.classLink own z.catchType nm).before args s = true ∧ va_Nc E nm s)) (hcell : H[q]? = some ce) (hv : ce.vm = .none) (hcl : s.vm.findClass E = some ce.cls)
    (hx : ∀ t : State, t.heap = H → s.vm.Alike t.vm → XC E s t) (hf : ∀ z ∈ locs, free z.base) (hc : cells ≤ mc) (hs : slots ≤ ms) :
    vx_W p l e R s m args below meth c H locs cells slots (vx_MQ below Qc XC args s mc ms free) (F0 m pc ls rest) q := by
  intro T hT X
  have hpl : e.platform.magicAccessors = ({} : Platform).magicAccessors := by rw [X.admits.platform]
  obtain ⟨vm', hW', X', st⟩ := X.outThrough hlocks q (g := F0 m pc ls rest) rfl rfl rfl (cell := ce) (by rw [hT]; exact hcell) (by rw [hv]; rfl)
    (by obtain ⟨k9, h9, -⟩ := Vm.findClass_spec hcl; exact ⟨k9, h9⟩) (fun z hz => by
      rcases hpass z hz with h | ⟨hz0, nm, hl1, hn1⟩
      · exact Or.inl h
      · obtain ⟨c6, hc6, hcl6⟩ := Cond.classLink_spec hown hl1 e.platform hpl
        obtain ⟨a8, b8, h1, h2, h3⟩ := hn1
        cases Option.some.inj (h1.symm.trans hcl)
        cases Option.some.inj (h2.symm.trans hc6)
        exact Or.inr ⟨hz0, _, hcl6, h3⟩)
  obtain ⟨g₀, hfr⟩ := X'.frames_eq
  have hcell9 : ((T.setVm vm').setFrames (.throwing q :: below)).heap[q]? = some ce := by
    show T.heap[q]? = some ce
    rw [hT]; exact hcell
  have hend : Ended ((T.setVm vm').setFrames (.throwing q :: below)) below (.threw q) := State.frames_setFrames _ (State.cur_lt_of_frames hfr)
  refine ⟨(T.setVm vm').setFrames (.throwing q :: below), ?_, .threw q, X'.here.running, hend, Or.inr ⟨q, rfl, E, ce, locs, hx _ hT (X'.ends _).1.alike, hcell9, hv, hcl, (X'.ends _).1, (X'.ends _).2.mono hc hs, hf⟩⟩
  rw [X.pushThrowing_eq]
  exact st
/-- a thing of a world lies in the heap -/
theorem vx_lt {D : va_G} {cl : List vw_C} {ws : va_W} {H1 : Heap} (h : va_P D cl ws H1) {k : Nat} {q : Nat × va_E} (hk : ws[k]? = some q) : q.1 < H1.size := (h k q hk).lt
end VXS
/-! ===== END ===== -/
/-! ===== BEGIN methods with a table of their own: called by a name, returning or throwing ===== -/
section VXH
/-! vx_backW, vx_callVX, vx_callSX, vx_callVW, vx_runVW, vx_runVX, vx_runSX, vx_ofWH follow the same proofs as their sisters above (Free/Laws.lean, Shelf42/LK1.lean); vx_outP calls Shelf42/NT130.lean (outThrough). -/
section
variable {l : Launch} {R : Room} {p : Program} {e : Env} {below : List Frame} {s : State} {sargs : Array Value} {y : MethodName} {len W9 : Nat}
theorem vx_backW {ws : List Cond} {rm : Room} {Pc : Array Value → State → Prop} {Qc : Array Value → State → Outcome → State → Prop} {XC : String → State → State → Prop} {mc ms : Nat} {free : Addr → Prop} {bytes : ByteArray} {maxL : Nat} {ret : Option FieldType} {hh : List (Nat × Nat × Nat × Nat)}
    (hM : vx_Met l y ws rm Pc Qc XC mc ms free) (hblind : FrameBlind Pc) (hrc : rm.cells = mc) (hrs : rm.slots = ms)
    (hframes : rm.frames + 1 ≤ R.frames) (hlocals : W9 + (maxL + 11) + rm.locals ≤ R.locals)
    (hws : ∀ w ∈ ws, ∀ a' U, s.WarmedH U.vm → w.before a' U = true) (hcode : Cond.codeWith y bytes maxL ret hh ∈ ws) (hinit : ∀ a' U, s.WarmedH U.vm → (Cond.initialized y.cls).before a' U = true) :
    vx_Back l R p e below s sargs y len W9 (PreOf R mc ms Pc) (PostOf Qc mc ms free) (vx_Post XC mc ms free) := by
  intro m meth c A g ig mk a X hg hsize hdg hW hn hp
  have h1 : (headSpec ws rm).pre.before a A.U = true := atoms_intro fun w hw => hws w hw _ _ X.warmed
  have h2 : (Cond.codeWith y bytes maxL ret hh).before a A.U = true := hws _ hcode _ _ X.warmed
  have h3 : (Cond.initialized y.cls).before a A.U = true := hinit _ _ X.warmed
  have h4 : A.cells + (headSpec ws rm).room.cells ≤ R.cells := by rw [show (headSpec ws rm).room.cells = mc from hrc]; exact hp.1
  have h5 : A.slots + (headSpec ws rm).room.slots ≤ R.slots := by rw [show (headSpec ws rm).room.slots = ms from hrs]; exact hp.2.1
  have hPc : Pc a (A.U.calling g mk a) := hblind _ _ _ _ hp.2.2
  obtain ⟨U, Ls, c0, s0⟩ := A
  dsimp only [Pt.U, Pt.locs, Pt.cells, Pt.slots] at h1 h2 h3 h4 h5 X hn hPc ⊢
  obtain ⟨m9, methY, cY, hn9, hmY, hcY, -, hlY, -⟩ := Cond.codeWith_spec h2
  cases Option.some.inj (hn9.symm.trans hn)
  obtain ⟨kY, hkY, -⟩ := className_of_methodNamed hn
  have hinitY : kY.init = .initialized := Cond.initialized_spec (findClass_of_methodNamed hn) hkY h3
  have h : At U g.method c below := by rw [hg]; exact X.here
  have hlocals9 : W9 + (maxL + 11) + (headSpec ws rm).room.locals ≤ R.locals := hlocals
  have happ : (headSpec ws rm).appliesLoose y e.platform (U.calling g mk a) = true :=
    Spec.appliesLoose_calling (g := g) h hdg hn hkY hinitY
      (X.room_calling (g := g) (R' := (headSpec ws rm).room) hsize hmY hcY hframes (by rw [hlY]; omega) h4 h5) h1
  obtain ⟨mid, hmid⟩ := h.above
  have hfr : (U.setTop g).frames = (.java g :: mid) ++ below := by rw [State.frames_setTop' g h.top, hmid]; rfl
  obtain ⟨o, s₂, hsteps, -, hend, hq⟩ := Steps.callFree hM p X.admits X.cas X.clock (acts := []) hfr happ hPc trivial
  have hq' : vx_Q Qc XC mc ms free a (U.calling g mk a) o s₂ := hq
  rw [State.frames_setTop' g h.top] at hend
  obtain ⟨g₀, hg0⟩ := Option.isSome_iff_exists.mp h.top
  obtain ⟨r, hr⟩ := State.topJava?_eq_some.mp hg0
  have hr' : (({ U with heap := s₂.heap, slotsUsed := s₂.slotsUsed } : State).setVm s₂.vm).frames = .java g₀ :: r := hr
  rcases hq' with ⟨hqc, L, hfe, hL⟩ | ⟨q, rfl, E, ce, L, hx, hce, hcv, hcl, hW₂, hsm, hL⟩
  · obtain ⟨⟨v, rfl⟩, hW₂, e2, q2, q3, q4, q5, q6⟩ := id hfe
    have e3 : s₂ = ({ (U.calling g mk a).setFrames s₂.frames with heap := s₂.heap, slotsUsed := s₂.slotsUsed } : State).setVm s₂.vm := by
      have : s₂ = ({ s₂ with vm := (U.calling g mk a).vm } : State).setVm s₂.vm := rfl
      rw [e2] at this
      exact this
    obtain ⟨c₂, i₂, len₂, hc₂, hd₂, hf₂⟩ := hend
    have hW' : U.WarmedH s₂.vm := hW₂
    have hcc : c₂ = c := by
      have h1 : s₂.code? g.method = U.code? g.method := by
        rw [State.code?_eq, State.code?_eq, hW'.alike.method?]
      exact Option.some.inj (hc₂.symm.trans (h1.trans h.code))
    subst hcc
    have hlen : len₂ = len := by rw [hdg] at hd₂; cases hd₂; rfl
    subst hlen
    have hs₂ : s₂ = (({ U with heap := s₂.heap, slotsUsed := s₂.slotsUsed } : State).setVm s₂.vm).setTop { g with pc := g.pc + len₂, stack := v.toList ++ g.stack } := by
      refine e3.trans ?_
      rw [hf₂, State.calling_eq h.top, State.setFrames_setFrames, State.setTop_of_frames _ hr', hr]
      rfl
    have hsame : U.sameButNew ({ U with heap := s₂.heap, slotsUsed := s₂.slotsUsed } : State) L mc ms := by
      refine ⟨?_, q2, q3, q4, q5, q6⟩
      obtain ⟨t, ht, -⟩ := State.frames_cons hr
      show ({ U with heap := s₂.heap, slotsUsed := s₂.slotsUsed } : State) = { U.setFrames U.frames with heap := s₂.heap, slotsUsed := s₂.slotsUsed }
      rw [State.setFrames_self ht]
    subst hg
    refine Or.inl ⟨v, ⟨(({ U with heap := s₂.heap, slotsUsed := s₂.slotsUsed } : State).setVm s₂.vm), Ls ++ L, c0 + mc, s0 + ms⟩,
      ⟨X.admits, X.cas, X.clock, X.frames, X.room, X.hears, X.method, X.code, (X.here.setHeapUsed s₂.heap s₂.slotsUsed).setVm hW'.alike, X.tail, State.WarmedH.trans X.warmed hW', X.limits, X.bytes, X.same.trans (hsame.setVm s.vm)⟩,
      ⟨g, mk, s₂, L, rfl, rfl, hqc, rfl, hL, rfl, rfl⟩, ?_⟩
    show Steps p.tables e below _ ((({ U with heap := s₂.heap, slotsUsed := s₂.slotsUsed } : State).setVm s₂.vm).setTop { g with pc := g.pc + len₂, stack := v.toList ++ g.stack })
    rw [← hs₂]
    exact hsteps
  · obtain ⟨e2, q2, q3, q4, q5, q6⟩ := id hsm
    have e3 : s₂ = ({ (U.calling g mk a).setFrames s₂.frames with heap := s₂.heap, slotsUsed := s₂.slotsUsed } : State).setVm s₂.vm := by
      have : s₂ = ({ s₂ with vm := (U.calling g mk a).vm } : State).setVm s₂.vm := rfl
      rw [e2] at this
      exact this
    have hf₂ : s₂.frames = .throwing q :: .java g :: U.frames.tail := hend
    have hW' : U.WarmedH s₂.vm := hW₂
    have hs₂ : s₂ = ((({ U with heap := s₂.heap, slotsUsed := s₂.slotsUsed } : State).setVm s₂.vm).setTop g).pushFrame (.throwing q) := by
      refine e3.trans ?_
      rw [hf₂, State.calling_eq h.top, State.setFrames_setFrames, State.pushFrame, State.frames_setTop _ hr', State.setTop_of_frames _ hr', State.setFrames_setFrames, hr]
      rfl
    have hsame : U.sameButNew ({ U with heap := s₂.heap, slotsUsed := s₂.slotsUsed } : State) L mc ms := by
      refine ⟨?_, q2, q3, q4, q5, q6⟩
      obtain ⟨t, ht, -⟩ := State.frames_cons hr
      show ({ U with heap := s₂.heap, slotsUsed := s₂.slotsUsed } : State) = { U.setFrames U.frames with heap := s₂.heap, slotsUsed := s₂.slotsUsed }
      rw [State.setFrames_self ht]
    subst hg
    refine Or.inr ⟨q, ⟨(({ U with heap := s₂.heap, slotsUsed := s₂.slotsUsed } : State).setVm s₂.vm), Ls ++ L, c0 + mc, s0 + ms⟩,
      ⟨X.admits, X.cas, X.clock, X.frames, X.room, X.hears, X.method, X.code, (X.here.setHeapUsed s₂.heap s₂.slotsUsed).setVm hW'.alike, X.tail, State.WarmedH.trans X.warmed hW', X.limits, X.bytes, X.same.trans (hsame.setVm s.vm)⟩,
      ⟨g, mk, s₂, L, E, ce, rfl, rfl, hx, hce, hcv, hcl, rfl, hL, rfl, rfl⟩, ?_⟩
    show Steps p.tables e below _ (((({ U with heap := s₂.heap, slotsUsed := s₂.slotsUsed } : State).setVm s₂.vm).setTop g).pushFrame (.throwing q))
    rw [← hs₂]
    exact hsteps
end
variable {p : Program} {l : Launch} {e : Env} {R : Room} {s : State} {m : MethodId} {args : Array Value} {below : List Frame} {meth : Method} {c : Code} {T : State} {H : Heap} {locs : List Loc} {cells slots : Nat}
theorem vx_callVX (X : Stand p l e R s m args below meth c T locs cells slots) (hexec : p.tables.exec = Jvm.exec) {own C : String} {index : Nat} {y : MethodName} {bytes : ByteArray} {maxL : Nat} {ret : Option FieldType} {hh : List (Nat × Nat × Nat × Nat)}
    (hown : s.vm.findClass own = some m.cls) (hlink : (Cond.methodLink own index y).before args s = true) (hinst : (Cond.instanceMethod y).before args s = true) (hsel : (Cond.selects C y y).before args s = true)
    (hcode : (Cond.codeWith y bytes maxL ret hh).before args s = true) (hy : y.cls ≠ "java/lang/invoke/MethodHandle" ∧ y.cls ≠ "java/lang/invoke/VarHandle")
    {W9 : Nat} {Pre : Pt → Array Value → Prop} {Post : Pt → Array Value → Option Value → Pt → Prop} {PostX : Pt → Array Value → Addr → Pt → Prop} (hK : vx_Back l R p e below s args y 3 W9 Pre Post PostX)
    {b : Addr} {cellB : Cell} (hcell : T.heap[b]? = some cellB) (hobj : cellB.vm.isStatics = false) (hcls : s.vm.findClass C = some cellB.cls)
    {g : JFrame} (hg : g.method = m) (hsize : g.locals.size = c.maxLocals) {argsL rest : List Value} (hlen : ∀ sig, parseMethodDescriptor y.desc = some sig → argsL.length = sig.parameters.length)
    (hstack : g.stack = argsL.reverse ++ .ref b :: rest) (hW : 2 * g.monitorRoom + (rest.map fun v => v.category).sum ≤ W9) (hdg : decode c.code g.pc = .ok (.invokevirtual index, 3))
    (hpre : ∀ vm₁, s.WarmedH vm₁ → Pre ⟨T.setVm vm₁, locs, cells, slots⟩ (Value.ref b :: argsL).toArray) :
    (∃ (v : Option Value) (vm₁ : Vm) (B : Pt), s.WarmedH vm₁ ∧ Stand p l e R s m args below meth c B.U B.locs B.cells B.slots ∧ Post ⟨T.setVm vm₁, locs, cells, slots⟩ (Value.ref b :: argsL).toArray v B ∧
      ∀ target, Steps p.tables e below (B.U.setTop { g with pc := g.pc + 3, stack := v.toList ++ rest }) target → Steps p.tables e below (T.setTop g) target) ∨
    (∃ (q : Addr) (vm₁ : Vm) (B : Pt), s.WarmedH vm₁ ∧ Stand p l e R s m args below meth c B.U B.locs B.cells B.slots ∧ PostX ⟨T.setVm vm₁, locs, cells, slots⟩ (Value.ref b :: argsL).toArray q B ∧
      Steps p.tables e below (T.setTop g) ((B.U.setTop { g with stack := rest }).pushFrame (.throwing q))) := by
  obtain ⟨mk, methM, hnamed, hmethM, hstM, habM⟩ := Cond.instanceMethod_spec hinst
  obtain ⟨m8, methM', cM, hn8, hmethM', -, -, -, -, -, -, hsigM⟩ := Cond.codeWith_spec hcode
  cases Option.some.inj (hn8.symm.trans hnamed)
  cases hmethM.symm.trans hmethM'
  obtain ⟨c2, r2, m2, q1, q2, q3, q4, kP, hkP, hkPi⟩ := Cond.selects_spec hsel
  cases hcls.symm.trans q1
  cases (State.methodFound?_of_named hnamed hy).symm.trans q2
  cases hnamed.symm.trans q3
  have hselP : selectMethod e.platform s.vm cellB.cls mk = .method mk := by rw [Launch.admits_selectMethod X.admits]; exact q4
  obtain ⟨vm₁, X₁, hstep₁⟩ := X.invokevirtual hexec hown hlink hnamed hmethM hstM hkP hkPi hy (a := b) (cell := cellB) hcell
    (fun z h => by rw [h] at hobj; cases hobj) hselP hmethM habM hkP hkPi (g := g) hg (argsL := argsL) (rest := rest) (hlen _ hsigM) hstack hdg
  rcases hK m meth c ⟨T.setVm vm₁, locs, cells, slots⟩ { g with stack := rest } (.invokevirtual index) mk (Value.ref b :: argsL).toArray X₁ hg hsize hdg hW (X₁.named hnamed) (hpre vm₁ X₁.warmed) with ⟨v, B, X', hpost, hsteps⟩ | ⟨q, B, X', hpost, hsteps⟩
  · exact Or.inl ⟨v, vm₁, B, X₁.warmed, X', hpost, fun target h => hstep₁ _ fun acts => by rw [doInvoke_state]; exact hsteps.trans h⟩
  · exact Or.inr ⟨q, vm₁, B, X₁.warmed, X', hpost, hstep₁ _ fun acts => by rw [doInvoke_state]; exact hsteps⟩
theorem vx_callSX (X : Stand p l e R s m args below meth c T locs cells slots) (hexec : p.tables.exec = Jvm.exec) {own : String} {index : Nat} {y : MethodName} {bytes : ByteArray} {maxL : Nat} {ret : Option FieldType} {hh : List (Nat × Nat × Nat × Nat)}
    (hown : s.vm.findClass own = some m.cls) (hlink : (Cond.methodLink own index y).before args s = true) (hstat : (Cond.static y).before args s = true) (hinit : (Cond.initialized y.cls).before args s = true)
    (hcode : (Cond.codeWith y bytes maxL ret hh).before args s = true) (hy : y.cls ≠ "java/lang/invoke/MethodHandle" ∧ y.cls ≠ "java/lang/invoke/VarHandle")
    {W9 : Nat} {Pre : Pt → Array Value → Prop} {Post : Pt → Array Value → Option Value → Pt → Prop} {PostX : Pt → Array Value → Addr → Pt → Prop} (hK : vx_Back l R p e below s args y 3 W9 Pre Post PostX)
    {g : JFrame} (hg : g.method = m) (hsize : g.locals.size = c.maxLocals) {argsL rest : List Value} (hlen : ∀ sig, parseMethodDescriptor y.desc = some sig → argsL.length = sig.parameters.length)
    (hstack : g.stack = argsL.reverse ++ rest) (hW : 2 * g.monitorRoom + (rest.map fun v => v.category).sum ≤ W9) (hdg : decode c.code g.pc = .ok (.invokestatic index, 3))
    (hpre : ∀ vm₁, s.WarmedH vm₁ → Pre ⟨T.setVm vm₁, locs, cells, slots⟩ argsL.toArray) :
    (∃ (v : Option Value) (vm₁ : Vm) (B : Pt), s.WarmedH vm₁ ∧ Stand p l e R s m args below meth c B.U B.locs B.cells B.slots ∧ Post ⟨T.setVm vm₁, locs, cells, slots⟩ argsL.toArray v B ∧
      ∀ target, Steps p.tables e below (B.U.setTop { g with pc := g.pc + 3, stack := v.toList ++ rest }) target → Steps p.tables e below (T.setTop g) target) ∨
    (∃ (q : Addr) (vm₁ : Vm) (B : Pt), s.WarmedH vm₁ ∧ Stand p l e R s m args below meth c B.U B.locs B.cells B.slots ∧ PostX ⟨T.setVm vm₁, locs, cells, slots⟩ argsL.toArray q B ∧
      Steps p.tables e below (T.setTop g) ((B.U.setTop { g with stack := rest }).pushFrame (.throwing q))) := by
  obtain ⟨mk, methM, cM, hnamed, hmethM, -, -, -, -, -, -, hsigM⟩ := Cond.codeWith_spec hcode
  have hstatic : methM.isStatic = true := Cond.static_spec hnamed hmethM hstat
  obtain ⟨kP, hkP, -⟩ := className_of_methodNamed hnamed
  have hinitP : kP.init = .initialized := Cond.initialized_spec (findClass_of_methodNamed hnamed) hkP hinit
  obtain ⟨vm₁, X₁, hstep₁⟩ := X.invokestatic hexec hown hlink hnamed hmethM hstatic hkP hinitP hy (g := g) hg (argsL := argsL) (rest := rest) (hlen _ hsigM) hstack hdg
  rcases hK m meth c ⟨T.setVm vm₁, locs, cells, slots⟩ { g with stack := rest } (.invokestatic index) mk argsL.toArray X₁ hg hsize hdg hW (X₁.named hnamed) (hpre vm₁ X₁.warmed) with ⟨v, B, X', hpost, hsteps⟩ | ⟨q, B, X', hpost, hsteps⟩
  · exact Or.inl ⟨v, vm₁, B, X₁.warmed, X', hpost, fun target h => hstep₁ _ fun acts => by rw [doInvoke_state]; exact hsteps.trans h⟩
  · exact Or.inr ⟨q, vm₁, B, X₁.warmed, X', hpost, hstep₁ _ fun acts => by rw [doInvoke_state]; exact hsteps⟩
theorem vx_callVW (X : Stand p l e R s m args below meth c T locs cells slots) (hexec : p.tables.exec = Jvm.exec) {own C : String} {index : Nat} {y : MethodName} {bytes : ByteArray} {maxL : Nat} {ret : Option FieldType} {hh : List (Nat × Nat × Nat × Nat)}
    (hown : s.vm.findClass own = some m.cls) (hlink : (Cond.methodLink own index y).before args s = true) (hinst : (Cond.instanceMethod y).before args s = true) (hsel : (Cond.selects C y y).before args s = true)
    (hcode : (Cond.codeWith y bytes maxL ret hh).before args s = true) (hy : y.cls ≠ "java/lang/invoke/MethodHandle" ∧ y.cls ≠ "java/lang/invoke/VarHandle")
    {W9 : Nat} {Pre : Pt → Array Value → Prop} {Post : Pt → Array Value → Option Value → Pt → Prop} (hK : Back l R p e below s args y 3 W9 Pre Post)
    {b : Addr} {cellB : Cell} (hcell : T.heap[b]? = some cellB) (hobj : cellB.vm.isStatics = false) (hcls : s.vm.findClass C = some cellB.cls)
    {g : JFrame} (hg : g.method = m) (hsize : g.locals.size = c.maxLocals) {argsL rest : List Value} (hlen : ∀ sig, parseMethodDescriptor y.desc = some sig → argsL.length = sig.parameters.length)
    (hstack : g.stack = argsL.reverse ++ .ref b :: rest) (hW : 2 * g.monitorRoom + (rest.map fun v => v.category).sum ≤ W9) (hdg : decode c.code g.pc = .ok (.invokevirtual index, 3))
    (hpre : ∀ vm₁, s.WarmedH vm₁ → Pre ⟨T.setVm vm₁, locs, cells, slots⟩ (Value.ref b :: argsL).toArray) :
    ∃ (v : Option Value) (vm₁ : Vm) (B : Pt), s.WarmedH vm₁ ∧ Stand p l e R s m args below meth c B.U B.locs B.cells B.slots ∧ Post ⟨T.setVm vm₁, locs, cells, slots⟩ (Value.ref b :: argsL).toArray v B ∧
      ∀ target, Steps p.tables e below (B.U.setTop { g with pc := g.pc + 3, stack := v.toList ++ rest }) target → Steps p.tables e below (T.setTop g) target := by
  obtain ⟨mk, methM, hnamed, hmethM, hstM, habM⟩ := Cond.instanceMethod_spec hinst
  obtain ⟨m8, methM', cM, hn8, hmethM', -, -, -, -, -, -, hsigM⟩ := Cond.codeWith_spec hcode
  cases Option.some.inj (hn8.symm.trans hnamed)
  cases hmethM.symm.trans hmethM'
  obtain ⟨c2, r2, m2, q1, q2, q3, q4, kP, hkP, hkPi⟩ := Cond.selects_spec hsel
  cases hcls.symm.trans q1
  cases (State.methodFound?_of_named hnamed hy).symm.trans q2
  cases hnamed.symm.trans q3
  have hselP : selectMethod e.platform s.vm cellB.cls mk = .method mk := by rw [Launch.admits_selectMethod X.admits]; exact q4
  obtain ⟨vm₁, X₁, hstep₁⟩ := X.invokevirtual hexec hown hlink hnamed hmethM hstM hkP hkPi hy (a := b) (cell := cellB) hcell
    (fun z h => by rw [h] at hobj; cases hobj) hselP hmethM habM hkP hkPi (g := g) hg (argsL := argsL) (rest := rest) (hlen _ hsigM) hstack hdg
  obtain ⟨v, B, X', hpost, hsteps⟩ := hK m meth c ⟨T.setVm vm₁, locs, cells, slots⟩ { g with stack := rest } (.invokevirtual index) mk (Value.ref b :: argsL).toArray X₁ hg hsize hdg hW (X₁.named hnamed) (hpre vm₁ X₁.warmed)
  exact ⟨v, vm₁, B, X₁.warmed, X', hpost, fun target h => hstep₁ _ fun acts => by rw [doInvoke_state]; exact hsteps.trans h⟩
abbrev vx_CVW (R : Room) (s : State) (args : Array Value) (own C : String) (index : Nat) (y : MethodName) (bytes : ByteArray) (maxL : Nat) (ret : Option FieldType) (hh : List (Nat × Nat × Nat × Nat)) (ws : List Cond) (rm : Room) (mc ms n : Nat) : Prop :=
  (rm.cells = mc ∧ rm.slots = ms ∧ rm.frames + 1 ≤ R.frames ∧ 8 + (maxL + 11) + rm.locals ≤ R.locals ∧ (∀ w ∈ ws, ∀ (a' : Array Value) (U : State), s.WarmedH U.vm → w.before a' U = true) ∧ Cond.codeWith y bytes maxL ret hh ∈ ws) ∧
  (Cond.codeWith y bytes maxL ret hh).before args s = true ∧ (Cond.initialized y.cls).before args s = true ∧ (y.cls ≠ "java/lang/invoke/MethodHandle" ∧ y.cls ≠ "java/lang/invoke/VarHandle") ∧
  (∀ sig, parseMethodDescriptor y.desc = some sig → n = sig.parameters.length) ∧ (Cond.methodLink own index y).before args s = true ∧ (Cond.instanceMethod y).before args s = true ∧ (Cond.selects C y y).before args s = true
theorem vx_cwVW {own C : String} {index maxL mc ms : Nat} {y : MethodName} {bytes : ByteArray} {ret : Option FieldType} {hh : List (Nat × Nat × Nat × Nat)} {Ts ws ws' : List Cond} {rm : Room} (n : Nat) (ht : ∀ w ∈ Ts, w.before args s = true) (hT : GoodIn Ts (wsV own index C y ws)) (hw : ws = Cond.codeWith y bytes maxL ret hh :: ws') (hrc : rm.cells = mc) (hrs : rm.slots = ms)
    (hd : y.cls = C ∧ y.cls ≠ "java/lang/invoke/MethodHandle" ∧ y.cls ≠ "java/lang/invoke/VarHandle" ∧ (parseMethodDescriptor y.desc).map (fun d => d.parameters.length) = some n) (hR : rm.frames + 1 ≤ R.frames ∧ 8 + (maxL + 11) + rm.locals ≤ R.locals) :
    vx_CVW R s args own C index y bytes maxL ret hh ws rm mc ms n := by
  obtain ⟨hC, hd⟩ := hd
  subst hC
  have ok : ∀ w ∈ wsV own index y.cls y ws, w.before args s = true := fun w h => ht w (hT w h).1
  have hG : GoodIn Ts ws := fun w h => hT w (by unfold wsV; exact List.mem_append_right _ h)
  have hc : Cond.codeWith y bytes maxL ret hh ∈ ws := by rw [hw]; exact List.mem_cons_self
  refine ⟨⟨hrc, hrs, hR.1, hR.2, pay_in ht hG, hc⟩, ht _ (hG _ hc).1, ok _ (by simp [wsV]), ⟨hd.1, hd.2.1⟩, fun sig h => ?_, ok _ (by simp [wsV]), ok _ (by simp [wsV]), ok _ (by simp [wsV])⟩
  have h2 := hd.2.2
  rw [h] at h2
  exact (Option.some.inj h2).symm
theorem vx_runVW {y : MethodName} {bytes cc : ByteArray} {maxL nL mc ms n index : Nat} {ret : Option FieldType} {hh : List (Nat × Nat × Nat × Nat)} {ws : List Cond} {rm : Room} {Pc : Array Value → State → Prop} {Qc : Array Value → State → Outcome → State → Prop} {free : Addr → Prop} {Ts : List Cond} {own C : String} {b : Addr} {As rest : List Value} {g : JFrame}
    (S : CallFix p m c cc nL s args Ts own) (hM : Met l y ws rm Pc Qc mc ms free) (cw : vx_CVW R s args own C index y bytes maxL ret hh ws rm mc ms n) (hp : PreV s H C b Pc As)
    (hg : g.method = m) (hn : As.length = n) (hsize : g.locals.size = nL) (hstack : g.stack = As.reverse ++ .ref b :: rest) (hW : 2 * g.monitorRoom + (rest.map fun v => v.category).sum ≤ 8) (hdg : decode cc g.pc = .ok (.invokevirtual index, 3)) (hf : cells + mc ≤ R.cells ∧ slots + ms ≤ R.slots) :
    va_Run p l e R s m args below meth c H locs cells slots mc ms g rest (Qc (Value.ref b :: As).toArray) free := by
  obtain ⟨⟨hrc, hrs, hfr, hlo, hws, hcw⟩, hcode, hini, hy, hlen, hl, hin, hse⟩ := cw
  have hK : Back l R p e below s args y 3 8 (PreOf R mc ms Pc) (PostOf Qc mc ms free) := va_backW (hh := hh) (bytes := bytes) (maxL := maxL) (ret := ret) hM hp.1 hrc hrs hfr hlo hws hcw (fun a' U hW => word_at hW (Or.inl (by first | rfl | simp [Cond.onTables, Cond.keeps, Cond.steady])) hini)
  obtain ⟨hx, hb, hml, ho, -⟩ := S
  obtain ⟨-, ⟨cellB, hcB, hoB, hclB⟩, hPc⟩ := hp
  intro T hT X
  obtain ⟨v, vm₁, ⟨U', l2, c2, s2⟩, hW₁, X', ⟨g', mk, t, L, e1, e2, hq, h1, hL, h2, h3⟩, st⟩ := vx_callVW X hx (C := C) (hh := hh) (bytes := bytes) (maxL := maxL) (ret := ret) ho hl hin hse hcode hy hK (by rw [hT]; exact hcB) hoB hclB hg (hsize.trans hml.symm) (argsL := As) (rest := rest) (fun sig h => hn.trans (hlen sig h)) hstack hW (by rw [hb]; exact hdg)
    (fun vm₁ hW₁ => ⟨hf.1, hf.2, hPc (T.setVm vm₁) hT hW₁⟩)
  dsimp only [Pt.U, Pt.locs, Pt.cells, Pt.slots] at X' e1 e2 h1 h2 h3 st
  subst h1; subst h2; subst h3
  exact ⟨v, (T.setVm vm₁).calling g' mk (Value.ref b :: As).toArray, t, U', L, hT, X', hL, e1, e2, hq, st⟩
section
variable {y : MethodName} {bytes cc : ByteArray} {maxL nL mc ms n index : Nat} {ret : Option FieldType} {ws : List Cond} {rm : Room} {Pc : Array Value → State → Prop} {Qc : Array Value → State → Outcome → State → Prop} {XC : String → State → State → Prop} {free : Addr → Prop} {Ts : List Cond} {own C : String} {b : Addr} {As rest : List Value} {g : JFrame}
theorem vx_runVX {hh : List (Nat × Nat × Nat × Nat)} (S : CallFix p m c cc nL s args Ts own) (hM : vx_Met l y ws rm Pc Qc XC mc ms free) (cw : vx_CVW R s args own C index y bytes maxL ret hh ws rm mc ms n) (hp : PreV s H C b Pc As)
    (hg : g.method = m) (hn : As.length = n) (hsize : g.locals.size = nL) (hstack : g.stack = As.reverse ++ .ref b :: rest) (hW : 2 * g.monitorRoom + (rest.map fun v => v.category).sum ≤ 8) (hdg : decode cc g.pc = .ok (.invokevirtual index, 3)) (hf : cells + mc ≤ R.cells ∧ slots + ms ≤ R.slots) :
    vx_Run p l e R s m args below meth c H locs cells slots mc ms g rest (Qc (Value.ref b :: As).toArray) XC free := by
  obtain ⟨⟨hrc, hrs, hfr, hlo, hws, hcw⟩, hcode, hini, hy, hlen, hl, hin, hse⟩ := cw
  have hK : vx_Back l R p e below s args y 3 8 (PreOf R mc ms Pc) (PostOf Qc mc ms free) (vx_Post XC mc ms free) := vx_backW (hh := hh) (bytes := bytes) (maxL := maxL) (ret := ret) hM hp.1 hrc hrs hfr hlo hws hcw (fun a' U hW => word_at hW (Or.inl (by first | rfl | simp [Cond.onTables, Cond.keeps, Cond.steady])) hini)
  obtain ⟨hx, hb, hml, ho, -⟩ := S
  obtain ⟨-, ⟨cellB, hcB, hoB, hclB⟩, hPc⟩ := hp
  intro T hT X
  rcases vx_callVX X hx (C := C) (hh := hh) (bytes := bytes) (maxL := maxL) (ret := ret) ho hl hin hse hcode hy hK (by rw [hT]; exact hcB) hoB hclB hg (hsize.trans hml.symm) (argsL := As) (rest := rest) (fun sig h => hn.trans (hlen sig h)) hstack hW (by rw [hb]; exact hdg)
    (fun vm₁ hW₁ => ⟨hf.1, hf.2, hPc (T.setVm vm₁) hT hW₁⟩) with ⟨v, vm₁, ⟨U', l2, c2, s2⟩, hW₁, X', ⟨g', mk, t, L, e1, e2, hq, h1, hL, h2, h3⟩, st⟩ | ⟨q, vm₁, ⟨U', l2, c2, s2⟩, hW₁, X', ⟨g', mk, t, L, E, ce, e1, e2, hq, hce, hcv, hcl, h1, hL, h2, h3⟩, st⟩
  · dsimp only [Pt.U, Pt.locs, Pt.cells, Pt.slots] at X' e1 e2 h1 h2 h3 st
    subst h1; subst h2; subst h3
    exact Or.inl ⟨v, (T.setVm vm₁).calling g' mk (Value.ref b :: As).toArray, t, U', L, hT, X', hL, e1, e2, hq, st⟩
  · dsimp only [Pt.U, Pt.locs, Pt.cells, Pt.slots] at X' e1 e2 h1 h2 h3 st hcl
    subst h1; subst h2; subst h3
    exact Or.inr ⟨q, (T.setVm vm₁).calling g' mk (Value.ref b :: As).toArray, t, U', L, E, ce, hT, X', hL, e1, e2, hq, hce, hcv, vx_cls hW₁ hcl, st⟩
theorem vx_runSX {hh : List (Nat × Nat × Nat × Nat)} (S : CallFix p m c cc nL s args Ts own) (hM : vx_Met l y ws rm Pc Qc XC mc ms free) (cw : vx_CSW R s args own index y bytes maxL ret hh ws rm mc ms n) (hp : PreS s H Pc As)
    (hg : g.method = m) (hn : As.length = n) (hsize : g.locals.size = nL) (hstack : g.stack = As.reverse ++ rest) (hW : 2 * g.monitorRoom + (rest.map fun v => v.category).sum ≤ 8) (hdg : decode cc g.pc = .ok (.invokestatic index, 3)) (hf : cells + mc ≤ R.cells ∧ slots + ms ≤ R.slots) :
    vx_Run p l e R s m args below meth c H locs cells slots mc ms g rest (Qc As.toArray) XC free := by
  obtain ⟨⟨hrc, hrs, hfr, hlo, hws, hcw⟩, hcode, hini, hy, hlen, hl, hstt⟩ := cw
  have hK : vx_Back l R p e below s args y 3 8 (PreOf R mc ms Pc) (PostOf Qc mc ms free) (vx_Post XC mc ms free) := vx_backW (hh := hh) (bytes := bytes) (maxL := maxL) (ret := ret) hM hp.1 hrc hrs hfr hlo hws hcw (fun a' U hW => word_at hW (Or.inl (by first | rfl | simp [Cond.onTables, Cond.keeps, Cond.steady])) hini)
  obtain ⟨hx, hb, hml, ho, -⟩ := S
  intro T hT X
  rcases vx_callSX X hx (hh := hh) (bytes := bytes) (maxL := maxL) (ret := ret) ho hl hstt hini hcode hy hK hg (hsize.trans hml.symm) (argsL := As) (rest := rest) (fun sig h => hn.trans (hlen sig h)) hstack hW (by rw [hb]; exact hdg)
    (fun vm₁ hW₁ => ⟨hf.1, hf.2, hp.2 (T.setVm vm₁) hT hW₁⟩) with ⟨v, vm₁, ⟨U', l2, c2, s2⟩, hW₁, X', ⟨g', mk, t, L, e1, e2, hq, h1, hL, h2, h3⟩, st⟩ | ⟨q, vm₁, ⟨U', l2, c2, s2⟩, hW₁, X', ⟨g', mk, t, L, E, ce, e1, e2, hq, hce, hcv, hcl, h1, hL, h2, h3⟩, st⟩
  · dsimp only [Pt.U, Pt.locs, Pt.cells, Pt.slots] at X' e1 e2 h1 h2 h3 st
    subst h1; subst h2; subst h3
    exact Or.inl ⟨v, (T.setVm vm₁).calling g' mk As.toArray, t, U', L, hT, X', hL, e1, e2, hq, st⟩
  · dsimp only [Pt.U, Pt.locs, Pt.cells, Pt.slots] at X' e1 e2 h1 h2 h3 st hcl
    subst h1; subst h2; subst h3
    exact Or.inr ⟨q, (T.setVm vm₁).calling g' mk As.toArray, t, U', L, E, ce, hT, X', hL, e1, e2, hq, hce, hcv, vx_cls hW₁ hcl, st⟩
end
end VXH
theorem vx_ofWH {l : Launch} {y : MethodName} {ws ws' : List Cond} {rm : Room} {Pc : Array Value → State → Prop} {Qc : Array Value → State → Outcome → State → Prop} {XC : String → State → State → Prop} {mc ms : Nat} {free : Addr → Prop} {cc : ByteArray} {maxL : Nat} {ret : Option FieldType} {hh : List (Nat × Nat × Nat × Nat)}
    (hy : plainName y.cls = true) (hw : ws = Cond.codeWith y cc maxL ret hh :: ws')
    (body : ∀ p e s m args below meth c s₁, BodyLoose p l y (headSpec ws rm) cc maxL ret e s m args below meth c s₁ → c.maxLocals = maxL → Pc args s →
      W p l e (headSpec ws rm).room s m args below meth c s.heap [] 0 0 (vx_MQ below Qc XC args s mc ms free) (entryFrame m args maxL)) : vx_Met l y ws rm Pc Qc XC mc ms free := by
  refine MetFree.of_bodyS (code := cc) (maxLocals := maxL) (ret := ret) hy ?_ ?_
  · intro args s m h hn
    obtain ⟨m9, meth, c, hn9, h1, h2, h3, h4, -, h5, h6, -⟩ := Cond.codeWith_spec (atoms_spec (ws := ws) h _ (by rw [hw]; exact List.mem_cons_self))
    cases hn.symm.trans hn9
    exact ⟨meth, c, h1, h2, h3, h4, h5, h6⟩
  · intro p e s m args below meth c s₁ B hml hP _
    have hh0 : s₁.heap = s.heap := by rw [B.state]; rfl
    obtain ⟨t, a1, o, b1, b2, b3⟩ := body p e s m args below meth c s₁ B hml hP s₁ hh0 (Stand.of_body B)
    exact ⟨t, o, a1, b1, b2, b3⟩
/-! ===== END ===== -/
end
section
/-! ===== BEGIN printed: names, fields, word lists, decode rows ===== -/
def RX0 : String := "ChicoryRoasters$Bed"
def TX0 : u_T := fun k => match k with
  | 0 => ("ChicoryRoasters$Bed", "grows", "I", false)
  | 1 => ("ChicoryRoasters$Bed", "most", "I", false)
  | _ => ("ChicoryRoasters$Bed", "roots", "I", false)
def tyX0 : Nat → FieldType := fun k => match k with
  | 0 => .int
  | 1 => .int
  | _ => .int
abbrev wsX00 : List Cond := u_ws RX0 TX0 3
theorem nmX0 : ∀ a, a < 3 → ∀ b, b < 3 → a ≠ b → (TX0 a).2.1 ≠ (TX0 b).2.1 := by decide +kernel
theorem tyX0_ok : ∀ k, k < 3 → parseFieldDescriptor (TX0 k).2.2.1 = some (tyX0 k) := by decide +kernel
abbrev cX0_init : ByteArray := prog_2_method_1_code
def yX0_init : MethodName := ⟨RX0, "<init>", "()V"⟩
abbrev cX0_lay : ByteArray := prog_2_method_2_code
def yX0_lay : MethodName := ⟨RX0, "lay", "(II)V"⟩
abbrev cX0_grow : ByteArray := prog_2_method_3_code
def yX0_grow : MethodName := ⟨RX0, "grow", "()V"⟩
abbrev cX0_become : ByteArray := prog_2_method_4_code
def yX0_become : MethodName := ⟨RX0, "become", "(LChicoryRoasters$Bed;)V"⟩
abbrev cX0_size : ByteArray := prog_2_method_5_code
def yX0_size : MethodName := ⟨RX0, "size", "()I"⟩
abbrev cX0_tell : ByteArray := prog_2_method_6_code
def yX0_tell : MethodName := ⟨RX0, "tell", "(I)I"⟩
def RX1 : String := "ChicoryRoasters$Card"
def TX1 : u_T := fun k => match k with
  | 0 => ("ChicoryRoasters$Card", "allotted", "I", false)
  | 1 => ("ChicoryRoasters$Card", "picky", "I", false)
  | 2 => ("ChicoryRoasters$Card", "left", "I", false)
  | 3 => ("ChicoryRoasters$Card", "served", "I", false)
  | _ => ("ChicoryRoasters$Card", "refused", "I", false)
def tyX1 : Nat → FieldType := fun k => match k with
  | 0 => .int
  | 1 => .int
  | 2 => .int
  | 3 => .int
  | _ => .int
abbrev wsX10 : List Cond := u_ws RX1 TX1 5
theorem nmX1 : ∀ a, a < 5 → ∀ b, b < 5 → a ≠ b → (TX1 a).2.1 ≠ (TX1 b).2.1 := by decide +kernel
theorem tyX1_ok : ∀ k, k < 5 → parseFieldDescriptor (TX1 k).2.2.1 = some (tyX1 k) := by decide +kernel
abbrev cX1_init : ByteArray := prog_3_method_1_code
def yX1_init : MethodName := ⟨RX1, "<init>", "()V"⟩
abbrev cX1_issue : ByteArray := prog_3_method_2_code
def yX1_issue : MethodName := ⟨RX1, "issue", "(II)V"⟩
abbrev cX1_renew : ByteArray := prog_3_method_3_code
def yX1_renew : MethodName := ⟨RX1, "renew", "()V"⟩
abbrev cX1_serveDay : ByteArray := prog_3_method_4_code
def yX1_serveDay : MethodName := ⟨RX1, "serveDay", "(LChicoryRoasters$Store;)I"⟩
abbrev cX1_serveOne : ByteArray := prog_3_method_5_code
def yX1_serveOne : MethodName := ⟨RX1, "serveOne", "(LChicoryRoasters$Store;)Z"⟩
abbrev cX1_become : ByteArray := prog_3_method_6_code
def yX1_become : MethodName := ⟨RX1, "become", "(LChicoryRoasters$Card;)V"⟩
abbrev cX1_size : ByteArray := prog_3_method_7_code
def yX1_size : MethodName := ⟨RX1, "size", "()I"⟩
abbrev cX1_tell : ByteArray := prog_3_method_8_code
def yX1_tell : MethodName := ⟨RX1, "tell", "(I)I"⟩
def RX2 : String := "ChicoryRoasters$Drum"
def TX2 : u_T := fun k => match k with
  | 0 => ("ChicoryRoasters$Drum", "holds", "I", false)
  | 1 => ("ChicoryRoasters$Drum", "heat", "I", false)
  | 2 => ("ChicoryRoasters$Drum", "kind", "I", false)
  | 3 => ("ChicoryRoasters$Drum", "much", "I", false)
  | _ => ("ChicoryRoasters$Drum", "level", "I", false)
def tyX2 : Nat → FieldType := fun k => match k with
  | 0 => .int
  | 1 => .int
  | 2 => .int
  | 3 => .int
  | _ => .int
abbrev wsX20 : List Cond := u_ws RX2 TX2 5
theorem nmX2 : ∀ a, a < 5 → ∀ b, b < 5 → a ≠ b → (TX2 a).2.1 ≠ (TX2 b).2.1 := by decide +kernel
theorem tyX2_ok : ∀ k, k < 5 → parseFieldDescriptor (TX2 k).2.2.1 = some (tyX2 k) := by decide +kernel
abbrev cX2_init : ByteArray := prog_4_method_1_code
def yX2_init : MethodName := ⟨RX2, "<init>", "()V"⟩
abbrev cX2_install : ByteArray := prog_4_method_2_code
def yX2_install : MethodName := ⟨RX2, "install", "(II)V"⟩
abbrev cX2_fill : ByteArray := prog_4_method_3_code
def yX2_fill : MethodName := ⟨RX2, "fill", "(II)V"⟩
abbrev cX2_warm : ByteArray := prog_4_method_4_code
def yX2_warm : MethodName := ⟨RX2, "warm", "()V"⟩
abbrev cX2_levelAfter : ByteArray := prog_4_method_5_code
def yX2_levelAfter : MethodName := ⟨RX2, "levelAfter", "(I)I"⟩
abbrev cX2_partsAt : ByteArray := prog_4_method_6_code
def yX2_partsAt : MethodName := ⟨RX2, "partsAt", "(I)I"⟩
abbrev cX2_done : ByteArray := prog_4_method_7_code
def yX2_done : MethodName := ⟨RX2, "done", "()I"⟩
abbrev cX2_burnt : ByteArray := prog_4_method_8_code
def yX2_burnt : MethodName := ⟨RX2, "burnt", "()I"⟩
abbrev cX2_daysToBest : ByteArray := prog_4_method_9_code
def yX2_daysToBest : MethodName := ⟨RX2, "daysToBest", "()I"⟩
abbrev cX2_become : ByteArray := prog_4_method_10_code
def yX2_become : MethodName := ⟨RX2, "become", "(LChicoryRoasters$Drum;)V"⟩
abbrev cX2_size : ByteArray := prog_4_method_11_code
def yX2_size : MethodName := ⟨RX2, "size", "()I"⟩
abbrev cX2_tell : ByteArray := prog_4_method_12_code
def yX2_tell : MethodName := ⟨RX2, "tell", "(I)I"⟩
def RX3 : String := "ChicoryRoasters$Smuggler"
def TX3 : u_T := fun k => match k with
  | 0 => ("ChicoryRoasters$Smuggler", "way", "I", false)
  | 1 => ("ChicoryRoasters$Smuggler", "cargo", "I", false)
  | 2 => ("ChicoryRoasters$Smuggler", "where", "I", false)
  | 3 => ("ChicoryRoasters$Smuggler", "left", "I", false)
  | _ => ("ChicoryRoasters$Smuggler", "arrests", "I", false)
def tyX3 : Nat → FieldType := fun k => match k with
  | 0 => .int
  | 1 => .int
  | 2 => .int
  | 3 => .int
  | _ => .int
abbrev wsX30 : List Cond := u_ws RX3 TX3 5
theorem nmX3 : ∀ a, a < 5 → ∀ b, b < 5 → a ≠ b → (TX3 a).2.1 ≠ (TX3 b).2.1 := by decide +kernel
theorem tyX3_ok : ∀ k, k < 5 → parseFieldDescriptor (TX3 k).2.2.1 = some (tyX3 k) := by decide +kernel
abbrev cX3_init : ByteArray := prog_5_method_1_code
def yX3_init : MethodName := ⟨RX3, "<init>", "()V"⟩
abbrev cX3_hire : ByteArray := prog_5_method_2_code
def yX3_hire : MethodName := ⟨RX3, "hire", "(II)V"⟩
abbrev cX3_setOut : ByteArray := prog_5_method_3_code
def yX3_setOut : MethodName := ⟨RX3, "setOut", "()V"⟩
abbrev cX3_daysToBorder : ByteArray := prog_5_method_4_code
def yX3_daysToBorder : MethodName := ⟨RX3, "daysToBorder", "()I"⟩
abbrev cX3_travel : ByteArray := prog_5_method_5_code
def yX3_travel : MethodName := ⟨RX3, "travel", "(Z)I"⟩
abbrev cX3_comeHome : ByteArray := prog_5_method_6_code
def yX3_comeHome : MethodName := ⟨RX3, "comeHome", "()I"⟩
abbrev cX3_become : ByteArray := prog_5_method_7_code
def yX3_become : MethodName := ⟨RX3, "become", "(LChicoryRoasters$Smuggler;)V"⟩
abbrev cX3_size : ByteArray := prog_5_method_8_code
def yX3_size : MethodName := ⟨RX3, "size", "()I"⟩
abbrev cX3_tell : ByteArray := prog_5_method_9_code
def yX3_tell : MethodName := ⟨RX3, "tell", "(I)I"⟩
def RX4 : String := "ChicoryRoasters$Store"
def TX4 : u_T := fun k => match k with
  | 0 => ("ChicoryRoasters$Store", "roots", "I", false)
  | 1 => ("ChicoryRoasters$Store", "beans", "I", false)
  | 2 => ("ChicoryRoasters$Store", "chicory", "I", false)
  | 3 => ("ChicoryRoasters$Store", "coffee", "I", false)
  | 4 => ("ChicoryRoasters$Store", "share", "I", false)
  | 5 => ("ChicoryRoasters$Store", "served", "I", false)
  | _ => ("ChicoryRoasters$Store", "thinned", "I", false)
def tyX4 : Nat → FieldType := fun k => match k with
  | 0 => .int
  | 1 => .int
  | 2 => .int
  | 3 => .int
  | 4 => .int
  | 5 => .int
  | _ => .int
abbrev wsX40 : List Cond := u_ws RX4 TX4 7
theorem nmX4 : ∀ a, a < 7 → ∀ b, b < 7 → a ≠ b → (TX4 a).2.1 ≠ (TX4 b).2.1 := by decide +kernel
theorem tyX4_ok : ∀ k, k < 7 → parseFieldDescriptor (TX4 k).2.2.1 = some (tyX4 k) := by decide +kernel
abbrev cX4_init : ByteArray := prog_6_method_1_code
def yX4_init : MethodName := ⟨RX4, "<init>", "()V"⟩
abbrev cX4_stock : ByteArray := prog_6_method_2_code
def yX4_stock : MethodName := ⟨RX4, "stock", "(I)I"⟩
abbrev cX4_add : ByteArray := prog_6_method_3_code
def yX4_add : MethodName := ⟨RX4, "add", "(II)V"⟩
abbrev cX4_addRoasted : ByteArray := prog_6_method_4_code
def yX4_addRoasted : MethodName := ⟨RX4, "addRoasted", "(II)V"⟩
abbrev cX4_coffeeOfPortion : ByteArray := prog_6_method_5_code
def yX4_coffeeOfPortion : MethodName := ⟨RX4, "coffeeOfPortion", "()I"⟩
abbrev cX4_canMix : ByteArray := prog_6_method_6_code
def yX4_canMix : MethodName := ⟨RX4, "canMix", "(I)Z"⟩
abbrev cX4_servePortion : ByteArray := prog_6_method_7_code
def yX4_servePortion : MethodName := ⟨RX4, "servePortion", "(I)V"⟩
abbrev cX4_become : ByteArray := prog_6_method_8_code
def yX4_become : MethodName := ⟨RX4, "become", "(LChicoryRoasters$Store;)V"⟩
def RX5 : String := "ChicoryRoasters$Teller"
def TX5 : u_T := fun k => match k with
  | _ => ("", "", "", false)
def tyX5 : Nat → FieldType := fun k => match k with
  | _ => .int
abbrev wsX50 : List Cond := u_ws RX5 TX5 0
theorem nmX5 : ∀ a, a < 0 → ∀ b, b < 0 → a ≠ b → (TX5 a).2.1 ≠ (TX5 b).2.1 := by decide +kernel
theorem tyX5_ok : ∀ k, k < 0 → parseFieldDescriptor (TX5 k).2.2.1 = some (tyX5 k) := by decide +kernel
abbrev cX5_init : ByteArray := prog_7_method_1_code
def yX5_init : MethodName := ⟨RX5, "<init>", "()V"⟩
abbrev cX5_digestOnto : ByteArray := prog_7_method_4_code
def yX5_digestOnto : MethodName := ⟨RX5, "digestOnto", "(J)J"⟩
def RX6 : String := "ChicoryRoasters$Town"
def TX6 : u_T := fun k => match k with
  | 0 => ("ChicoryRoasters$Town", "beds", "[LChicoryRoasters$Bed;", true)
  | 1 => ("ChicoryRoasters$Town", "drums", "[LChicoryRoasters$Drum;", true)
  | 2 => ("ChicoryRoasters$Town", "smugglers", "[LChicoryRoasters$Smuggler;", true)
  | 3 => ("ChicoryRoasters$Town", "cards", "[LChicoryRoasters$Card;", true)
  | 4 => ("ChicoryRoasters$Town", "store", "LChicoryRoasters$Store;", true)
  | 5 => ("ChicoryRoasters$Town", "bedCount", "I", false)
  | 6 => ("ChicoryRoasters$Town", "drumCount", "I", false)
  | 7 => ("ChicoryRoasters$Town", "smugglerCount", "I", false)
  | 8 => ("ChicoryRoasters$Town", "cardCount", "I", false)
  | 9 => ("ChicoryRoasters$Town", "day", "I", false)
  | _ => ("ChicoryRoasters$Town", "patrol", "I", false)
def tyX6 : Nat → FieldType := fun k => match k with
  | 0 => .array (.object "ChicoryRoasters$Bed")
  | 1 => .array (.object "ChicoryRoasters$Drum")
  | 2 => .array (.object "ChicoryRoasters$Smuggler")
  | 3 => .array (.object "ChicoryRoasters$Card")
  | 4 => .object "ChicoryRoasters$Store"
  | 5 => .int
  | 6 => .int
  | 7 => .int
  | 8 => .int
  | 9 => .int
  | _ => .int
abbrev wsX60 : List Cond := u_ws RX6 TX6 11
theorem nmX6 : ∀ a, a < 11 → ∀ b, b < 11 → a ≠ b → (TX6 a).2.1 ≠ (TX6 b).2.1 := by decide +kernel
theorem tyX6_ok : ∀ k, k < 11 → parseFieldDescriptor (TX6 k).2.2.1 = some (tyX6 k) := by decide +kernel
abbrev cX6_init : ByteArray := prog_8_method_1_code
def yX6_init : MethodName := ⟨RX6, "<init>", "()V"⟩
abbrev cX6_patrolled : ByteArray := prog_8_method_2_code
def yX6_patrolled : MethodName := ⟨RX6, "patrolled", "(I)Z"⟩
abbrev cX6_live : ByteArray := prog_8_method_3_code
def yX6_live : MethodName := ⟨RX6, "live", "(I)I"⟩
abbrev cX6_travel : ByteArray := prog_8_method_4_code
def yX6_travel : MethodName := ⟨RX6, "travel", "()V"⟩
abbrev cX6_warm : ByteArray := prog_8_method_5_code
def yX6_warm : MethodName := ⟨RX6, "warm", "()V"⟩
abbrev cX6_grow : ByteArray := prog_8_method_6_code
def yX6_grow : MethodName := ⟨RX6, "grow", "()V"⟩
abbrev cX6_serve : ByteArray := prog_8_method_7_code
def yX6_serve : MethodName := ⟨RX6, "serve", "()I"⟩
abbrev cX6_become : ByteArray := prog_8_method_8_code
def yX6_become : MethodName := ⟨RX6, "become", "(LChicoryRoasters$Town;)V"⟩
abbrev cX6_size : ByteArray := prog_8_method_9_code
def yX6_size : MethodName := ⟨RX6, "size", "()I"⟩
abbrev cX6_tell : ByteArray := prog_8_method_10_code
def yX6_tell : MethodName := ⟨RX6, "tell", "(I)I"⟩
def RX7 : String := "ChicoryRoasters"
def TX7 : u_T := fun k => match k with
  | 0 => ("ChicoryRoasters", "town", "LChicoryRoasters$Town;", true)
  | _ => ("ChicoryRoasters", "trial", "LChicoryRoasters$Town;", true)
def tyX7 : Nat → FieldType := fun k => match k with
  | 0 => .object "ChicoryRoasters$Town"
  | _ => .object "ChicoryRoasters$Town"
abbrev wsX70 : List Cond := u_ws RX7 TX7 2
theorem nmX7 : ∀ a, a < 2 → ∀ b, b < 2 → a ≠ b → (TX7 a).2.1 ≠ (TX7 b).2.1 := by decide +kernel
theorem tyX7_ok : ∀ k, k < 2 → parseFieldDescriptor (TX7 k).2.2.1 = some (tyX7 k) := by decide +kernel
abbrev cX7_init : ByteArray := prog_1_method_1_code
def yX7_init : MethodName := ⟨RX7, "<init>", "()V"⟩
abbrev cX7_bed : ByteArray := prog_1_method_2_code
def yX7_bed : MethodName := ⟨RX7, "bed", "(II)I"⟩
abbrev cX7_drum : ByteArray := prog_1_method_3_code
def yX7_drum : MethodName := ⟨RX7, "drum", "(II)I"⟩
abbrev cX7_smuggler : ByteArray := prog_1_method_4_code
def yX7_smuggler : MethodName := ⟨RX7, "smuggler", "(II)I"⟩
abbrev cX7_card : ByteArray := prog_1_method_5_code
def yX7_card : MethodName := ⟨RX7, "card", "(II)I"⟩
abbrev cX7_setPatrol : ByteArray := prog_1_method_6_code
def yX7_setPatrol : MethodName := ⟨RX7, "setPatrol", "(I)I"⟩
abbrev cX7_setShare : ByteArray := prog_1_method_7_code
def yX7_setShare : MethodName := ⟨RX7, "setShare", "(I)I"⟩
abbrev cX7_setHeat : ByteArray := prog_1_method_8_code
def yX7_setHeat : MethodName := ⟨RX7, "setHeat", "(II)I"⟩
abbrev cX7_dig : ByteArray := prog_1_method_9_code
def yX7_dig : MethodName := ⟨RX7, "dig", "(II)I"⟩
abbrev cX7_give : ByteArray := prog_1_method_10_code
def yX7_give : MethodName := ⟨RX7, "give", "(II)I"⟩
abbrev cX7_load : ByteArray := prog_1_method_11_code
def yX7_load : MethodName := ⟨RX7, "load", "(III)I"⟩
abbrev cX7_take : ByteArray := prog_1_method_12_code
def yX7_take : MethodName := ⟨RX7, "take", "(I)I"⟩
abbrev cX7_send : ByteArray := prog_1_method_13_code
def yX7_send : MethodName := ⟨RX7, "send", "(I)I"⟩
abbrev cX7_about : ByteArray := prog_1_method_14_code
def yX7_about : MethodName := ⟨RX7, "about", "(II)I"⟩
abbrev cX7_roast : ByteArray := prog_1_method_15_code
def yX7_roast : MethodName := ⟨RX7, "roast", "(II)I"⟩
abbrev cX7_told : ByteArray := prog_1_method_16_code
def yX7_told : MethodName := ⟨RX7, "told", "(II)I"⟩
abbrev cX7_ration : ByteArray := prog_1_method_17_code
def yX7_ration : MethodName := ⟨RX7, "ration", "(II)I"⟩
abbrev cX7_count : ByteArray := prog_1_method_18_code
def yX7_count : MethodName := ⟨RX7, "count", "(I)I"⟩
abbrev cX7_pass : ByteArray := prog_1_method_19_code
def yX7_pass : MethodName := ⟨RX7, "pass", "(I)I"⟩
abbrev cX7_foresee : ByteArray := prog_1_method_20_code
def yX7_foresee : MethodName := ⟨RX7, "foresee", "(II)I"⟩
abbrev cX7_ready : ByteArray := prog_1_method_21_code
def yX7_ready : MethodName := ⟨RX7, "ready", "(I)I"⟩
abbrev cX7_caught : ByteArray := prog_1_method_22_code
def yX7_caught : MethodName := ⟨RX7, "caught", "(II)Z"⟩
abbrev cX7_advise : ByteArray := prog_1_method_23_code
def yX7_advise : MethodName := ⟨RX7, "advise", "(I)I"⟩
abbrev cX7_mean : ByteArray := prog_1_method_24_code
def yX7_mean : MethodName := ⟨RX7, "mean", "()D"⟩
abbrev cX7_digest : ByteArray := prog_1_method_25_code
def yX7_digest : MethodName := ⟨RX7, "digest", "()J"⟩
abbrev cX7_checkIndex : ByteArray := prog_1_method_26_code
def yX7_checkIndex : MethodName := ⟨RX7, "checkIndex", "(II)V"⟩
abbrev cX7_checkNumber : ByteArray := prog_1_method_27_code
def yX7_checkNumber : MethodName := ⟨RX7, "checkNumber", "(III)V"⟩
abbrev cX7_checkState : ByteArray := prog_1_method_28_code
def yX7_checkState : MethodName := ⟨RX7, "checkState", "(Z)V"⟩
abbrev cX7_ask : ByteArray := prog_1_method_29_code
def yX7_ask : MethodName := ⟨RX7, "ask", "(LChicoryRoasters$Teller;I)I"⟩
def RX8 : String := "ChicoryRoastersModel"
def TX8 : u_T := fun k => match k with
  | 0 => ("ChicoryRoastersModel", "thrown", "I", false)
  | 1 => ("ChicoryRoastersModel", "beds", "I", false)
  | 2 => ("ChicoryRoastersModel", "drums", "I", false)
  | 3 => ("ChicoryRoastersModel", "smugglers", "I", false)
  | 4 => ("ChicoryRoastersModel", "cards", "I", false)
  | 5 => ("ChicoryRoastersModel", "bedTold", "[I", true)
  | 6 => ("ChicoryRoastersModel", "drumHolds", "[I", true)
  | 7 => ("ChicoryRoastersModel", "smugglerTold", "[I", true)
  | 8 => ("ChicoryRoastersModel", "cardTold", "[I", true)
  | 9 => ("ChicoryRoastersModel", "now", "[I", true)
  | _ => ("ChicoryRoastersModel", "kept", "[I", true)
def tyX8 : Nat → FieldType := fun k => match k with
  | 0 => .int
  | 1 => .int
  | 2 => .int
  | 3 => .int
  | 4 => .int
  | 5 => .array .int
  | 6 => .array .int
  | 7 => .array .int
  | 8 => .array .int
  | 9 => .array .int
  | _ => .array .int
abbrev wsX80 : List Cond := u_ws RX8 TX8 11
theorem nmX8 : ∀ a, a < 11 → ∀ b, b < 11 → a ≠ b → (TX8 a).2.1 ≠ (TX8 b).2.1 := by decide +kernel
theorem tyX8_ok : ∀ k, k < 11 → parseFieldDescriptor (TX8 k).2.2.1 = some (tyX8 k) := by decide +kernel
abbrev cX8_init : ByteArray := prog_10_method_1_code
def yX8_init : MethodName := ⟨RX8, "<init>", "()V"⟩
abbrev cX8_thrown : ByteArray := prog_10_method_2_code
def yX8_thrown : MethodName := ⟨RX8, "thrown", "()I"⟩
abbrev cX8_fail : ByteArray := prog_10_method_3_code
def yX8_fail : MethodName := ⟨RX8, "fail", "(I)I"⟩
abbrev cX8_isIn : ByteArray := prog_10_method_4_code
def yX8_isIn : MethodName := ⟨RX8, "isIn", "(III)Z"⟩
abbrev cX8_isDrum : ByteArray := prog_10_method_5_code
def yX8_isDrum : MethodName := ⟨RX8, "isDrum", "(I)Z"⟩
abbrev cX8_isSmuggler : ByteArray := prog_10_method_6_code
def yX8_isSmuggler : MethodName := ⟨RX8, "isSmuggler", "(I)Z"⟩
abbrev cX8_keep : ByteArray := prog_10_method_7_code
def yX8_keep : MethodName := ⟨RX8, "keep", "()V"⟩
abbrev cX8_bringBack : ByteArray := prog_10_method_8_code
def yX8_bringBack : MethodName := ⟨RX8, "bringBack", "()V"⟩
abbrev cX8_dr : ByteArray := prog_10_method_9_code
def yX8_dr : MethodName := ⟨RX8, "dr", "(II)I"⟩
abbrev cX8_letDrum : ByteArray := prog_10_method_10_code
def yX8_letDrum : MethodName := ⟨RX8, "letDrum", "(III)V"⟩
abbrev cX8_sm : ByteArray := prog_10_method_11_code
def yX8_sm : MethodName := ⟨RX8, "sm", "(II)I"⟩
abbrev cX8_letSmuggler : ByteArray := prog_10_method_12_code
def yX8_letSmuggler : MethodName := ⟨RX8, "letSmuggler", "(III)V"⟩
abbrev cX8_ca : ByteArray := prog_10_method_13_code
def yX8_ca : MethodName := ⟨RX8, "ca", "(II)I"⟩
abbrev cX8_moreCard : ByteArray := prog_10_method_14_code
def yX8_moreCard : MethodName := ⟨RX8, "moreCard", "(III)V"⟩
abbrev cX8_bed : ByteArray := prog_10_method_15_code
def yX8_bed : MethodName := ⟨RX8, "bed", "(II)I"⟩
abbrev cX8_drum : ByteArray := prog_10_method_16_code
def yX8_drum : MethodName := ⟨RX8, "drum", "(II)I"⟩
abbrev cX8_smuggler : ByteArray := prog_10_method_17_code
def yX8_smuggler : MethodName := ⟨RX8, "smuggler", "(II)I"⟩
abbrev cX8_card : ByteArray := prog_10_method_18_code
def yX8_card : MethodName := ⟨RX8, "card", "(II)I"⟩
abbrev cX8_change : ByteArray := prog_10_method_19_code
def yX8_change : MethodName := ⟨RX8, "change", "(III)I"⟩
abbrev cX8_setPatrol : ByteArray := prog_10_method_20_code
def yX8_setPatrol : MethodName := ⟨RX8, "setPatrol", "(I)I"⟩
abbrev cX8_setShare : ByteArray := prog_10_method_21_code
def yX8_setShare : MethodName := ⟨RX8, "setShare", "(I)I"⟩
abbrev cX8_setHeat : ByteArray := prog_10_method_22_code
def yX8_setHeat : MethodName := ⟨RX8, "setHeat", "(II)I"⟩
abbrev cX8_dig : ByteArray := prog_10_method_23_code
def yX8_dig : MethodName := ⟨RX8, "dig", "(II)I"⟩
abbrev cX8_give : ByteArray := prog_10_method_24_code
def yX8_give : MethodName := ⟨RX8, "give", "(II)I"⟩
abbrev cX8_load : ByteArray := prog_10_method_25_code
def yX8_load : MethodName := ⟨RX8, "load", "(III)I"⟩
abbrev cX8_yields : ByteArray := prog_10_method_26_code
def yX8_yields : MethodName := ⟨RX8, "yields", "(III)I"⟩
abbrev cX8_yieldOf : ByteArray := prog_10_method_27_code
def yX8_yieldOf : MethodName := ⟨RX8, "yieldOf", "(I)I"⟩
abbrev cX8_take : ByteArray := prog_10_method_28_code
def yX8_take : MethodName := ⟨RX8, "take", "(I)I"⟩
abbrev cX8_send : ByteArray := prog_10_method_29_code
def yX8_send : MethodName := ⟨RX8, "send", "(I)I"⟩
abbrev cX8_bedIs : ByteArray := prog_10_method_30_code
def yX8_bedIs : MethodName := ⟨RX8, "bedIs", "(II)I"⟩
abbrev cX8_about : ByteArray := prog_10_method_31_code
def yX8_about : MethodName := ⟨RX8, "about", "(II)I"⟩
abbrev cX8_drumIs : ByteArray := prog_10_method_32_code
def yX8_drumIs : MethodName := ⟨RX8, "drumIs", "(II)I"⟩
abbrev cX8_roast : ByteArray := prog_10_method_33_code
def yX8_roast : MethodName := ⟨RX8, "roast", "(II)I"⟩
abbrev cX8_smugglerIs : ByteArray := prog_10_method_34_code
def yX8_smugglerIs : MethodName := ⟨RX8, "smugglerIs", "(II)I"⟩
abbrev cX8_told : ByteArray := prog_10_method_35_code
def yX8_told : MethodName := ⟨RX8, "told", "(II)I"⟩
abbrev cX8_cardIs : ByteArray := prog_10_method_36_code
def yX8_cardIs : MethodName := ⟨RX8, "cardIs", "(II)I"⟩
abbrev cX8_ration : ByteArray := prog_10_method_37_code
def yX8_ration : MethodName := ⟨RX8, "ration", "(II)I"⟩
abbrev cX8_count : ByteArray := prog_10_method_38_code
def yX8_count : MethodName := ⟨RX8, "count", "(I)I"⟩
abbrev cX8_isPatrol : ByteArray := prog_10_method_39_code
def yX8_isPatrol : MethodName := ⟨RX8, "isPatrol", "(I)Z"⟩
abbrev cX8_goOn : ByteArray := prog_10_method_40_code
def yX8_goOn : MethodName := ⟨RX8, "goOn", "(I)V"⟩
abbrev cX8_serve : ByteArray := prog_10_method_41_code
def yX8_serve : MethodName := ⟨RX8, "serve", "(I)Z"⟩
abbrev cX8_dayOn : ByteArray := prog_10_method_42_code
def yX8_dayOn : MethodName := ⟨RX8, "dayOn", "()V"⟩
abbrev cX8_daysOn : ByteArray := prog_10_method_43_code
def yX8_daysOn : MethodName := ⟨RX8, "daysOn", "(I)V"⟩
abbrev cX8_pass : ByteArray := prog_10_method_44_code
def yX8_pass : MethodName := ⟨RX8, "pass", "(I)I"⟩
abbrev cX8_behind : ByteArray := prog_10_method_45_code
def yX8_behind : MethodName := ⟨RX8, "behind", "(II)I"⟩
abbrev cX8_foresee : ByteArray := prog_10_method_46_code
def yX8_foresee : MethodName := ⟨RX8, "foresee", "(II)I"⟩
abbrev cX8_ready : ByteArray := prog_10_method_47_code
def yX8_ready : MethodName := ⟨RX8, "ready", "(I)I"⟩
abbrev cX8_caught : ByteArray := prog_10_method_48_code
def yX8_caught : MethodName := ⟨RX8, "caught", "(II)Z"⟩
abbrev cX8_advise : ByteArray := prog_10_method_49_code
def yX8_advise : MethodName := ⟨RX8, "advise", "(I)I"⟩
abbrev cX8_mean : ByteArray := prog_10_method_50_code
def yX8_mean : MethodName := ⟨RX8, "mean", "()D"⟩
abbrev cX8_digest : ByteArray := prog_10_method_51_code
def yX8_digest : MethodName := ⟨RX8, "digest", "()J"⟩
def RJ9 : String := "java/lang/Math"
def TJ9 : u_T := fun k => match k with
  | _ => ("", "", "", false)
def tyJ9 : Nat → FieldType := fun k => match k with
  | _ => .int
abbrev wsJ90 : List Cond := u_ws RJ9 TJ9 0
theorem nmJ9 : ∀ a, a < 0 → ∀ b, b < 0 → a ≠ b → (TJ9 a).2.1 ≠ (TJ9 b).2.1 := by decide +kernel
theorem tyJ9_ok : ∀ k, k < 0 → parseFieldDescriptor (TJ9 k).2.2.1 = some (tyJ9 k) := by decide +kernel
abbrev cJ9_min_7cf53 : ByteArray := prog_15_method_69_code
def yJ9_min_7cf53 : MethodName := ⟨RJ9, "min", "(II)I"⟩
def RJ0 : String := "java/lang/String"
def TJ0 : u_T := fun k => match k with
  | _ => ("", "", "", false)
def tyJ0 : Nat → FieldType := fun k => match k with
  | _ => .int
abbrev wsJ00 : List Cond := u_ws RJ0 TJ0 0
theorem nmJ0 : ∀ a, a < 0 → ∀ b, b < 0 → a ≠ b → (TJ0 a).2.1 ≠ (TJ0 b).2.1 := by decide +kernel
theorem tyJ0_ok : ∀ k, k < 0 → parseFieldDescriptor (TJ0 k).2.2.1 = some (tyJ0 k) := by decide +kernel
def RJ10 : String := "java/lang/System"
def TJ10 : u_T := fun k => match k with
  | _ => ("", "", "", false)
def tyJ10 : Nat → FieldType := fun k => match k with
  | _ => .int
abbrev wsJ100 : List Cond := u_ws RJ10 TJ10 0
theorem nmJ10 : ∀ a, a < 0 → ∀ b, b < 0 → a ≠ b → (TJ10 a).2.1 ≠ (TJ10 b).2.1 := by decide +kernel
theorem tyJ10_ok : ∀ k, k < 0 → parseFieldDescriptor (TJ10 k).2.2.1 = some (tyJ10 k) := by decide +kernel
def RL : String := "ChicoryRoastersLaw"
abbrev cL_bed : ByteArray := method_3_code
def yL_bed : MethodName := ⟨RL, "bed", "(LChicoryRoasters;II[J)I"⟩
abbrev cL_drum : ByteArray := method_4_code
def yL_drum : MethodName := ⟨RL, "drum", "(LChicoryRoasters;II[J)I"⟩
abbrev cL_smuggler : ByteArray := method_5_code
def yL_smuggler : MethodName := ⟨RL, "smuggler", "(LChicoryRoasters;II[J)I"⟩
abbrev cL_card : ByteArray := method_6_code
def yL_card : MethodName := ⟨RL, "card", "(LChicoryRoasters;II[J)I"⟩
abbrev cL_setPatrol : ByteArray := method_7_code
def yL_setPatrol : MethodName := ⟨RL, "setPatrol", "(LChicoryRoasters;I[J)I"⟩
abbrev cL_setShare : ByteArray := method_8_code
def yL_setShare : MethodName := ⟨RL, "setShare", "(LChicoryRoasters;I[J)I"⟩
abbrev cL_setHeat : ByteArray := method_9_code
def yL_setHeat : MethodName := ⟨RL, "setHeat", "(LChicoryRoasters;II[J)I"⟩
abbrev cL_dig : ByteArray := method_10_code
def yL_dig : MethodName := ⟨RL, "dig", "(LChicoryRoasters;II[J)I"⟩
abbrev cL_give : ByteArray := method_11_code
def yL_give : MethodName := ⟨RL, "give", "(LChicoryRoasters;II[J)I"⟩
abbrev cL_load : ByteArray := method_12_code
def yL_load : MethodName := ⟨RL, "load", "(LChicoryRoasters;III[J)I"⟩
abbrev cL_take : ByteArray := method_13_code
def yL_take : MethodName := ⟨RL, "take", "(LChicoryRoasters;I[J)I"⟩
abbrev cL_send : ByteArray := method_14_code
def yL_send : MethodName := ⟨RL, "send", "(LChicoryRoasters;I[J)I"⟩
abbrev cL_about : ByteArray := method_15_code
def yL_about : MethodName := ⟨RL, "about", "(LChicoryRoasters;II[J)I"⟩
abbrev cL_roast : ByteArray := method_16_code
def yL_roast : MethodName := ⟨RL, "roast", "(LChicoryRoasters;II[J)I"⟩
abbrev cL_told : ByteArray := method_17_code
def yL_told : MethodName := ⟨RL, "told", "(LChicoryRoasters;II[J)I"⟩
abbrev cL_ration : ByteArray := method_18_code
def yL_ration : MethodName := ⟨RL, "ration", "(LChicoryRoasters;II[J)I"⟩
abbrev cL_count : ByteArray := method_19_code
def yL_count : MethodName := ⟨RL, "count", "(LChicoryRoasters;I[J)I"⟩
abbrev cL_pass : ByteArray := method_20_code
def yL_pass : MethodName := ⟨RL, "pass", "(LChicoryRoasters;I[J)I"⟩
abbrev cL_foresee : ByteArray := method_21_code
def yL_foresee : MethodName := ⟨RL, "foresee", "(LChicoryRoasters;II[J)I"⟩
abbrev cL_ready : ByteArray := method_22_code
def yL_ready : MethodName := ⟨RL, "ready", "(LChicoryRoasters;I[J)I"⟩
abbrev cL_caught : ByteArray := method_23_code
def yL_caught : MethodName := ⟨RL, "caught", "(LChicoryRoasters;II[J)I"⟩
abbrev cL_advise : ByteArray := method_24_code
def yL_advise : MethodName := ⟨RL, "advise", "(LChicoryRoasters;I[J)I"⟩
abbrev cL_law : ByteArray := code
def yL_law : MethodName := ⟨RL, "law", "([I)Z"⟩
def wsX5_init : List Cond := .code yX5_init cX5_init 1 none :: ([.methodLink RX5 1 objectInit, .instanceMethod objectInit, .code objectInit ⟨#[0xb1]⟩ 1 none])
def wsX0_init : List Cond := .code yX0_init cX0_init 1 none :: ([.instanceMethod yX5_init, .initialized RX5, .code yX5_init cX5_init 1 none, .methodLink RX5 1 objectInit, .instanceMethod objectInit, .code objectInit ⟨#[0xb1]⟩ 1 none])
def wsX0_lay : List Cond := .code yX0_lay cX0_lay 3 none :: ([.fieldLink RX0 7 "ChicoryRoasters$Bed" "grows" "I", .fieldLink RX0 13 "ChicoryRoasters$Bed" "most" "I"] ++ wsX00)
def wsX0_grow : List Cond := .code yX0_grow cX0_grow 1 none :: ([.fieldLink RX0 16 "ChicoryRoasters$Bed" "roots" "I", .fieldLink RX0 7 "ChicoryRoasters$Bed" "grows" "I", .fieldLink RX0 13 "ChicoryRoasters$Bed" "most" "I", .methodLink RX0 19 Lib.Math.min.name, .static Lib.Math.min.name, .initialized "java/lang/Math", .code Lib.Math.min.name Lib.Math.min.code 2 (some .int)] ++ wsX00)
def wsX0_become : List Cond := .code yX0_become cX0_become 2 none :: ([.fieldLink RX0 7 "ChicoryRoasters$Bed" "grows" "I", .fieldLink RX0 13 "ChicoryRoasters$Bed" "most" "I", .fieldLink RX0 16 "ChicoryRoasters$Bed" "roots" "I"] ++ wsX00)
def wsX0_size : List Cond := .code yX0_size cX0_size 1 (some .int) :: ([])
def wsX0_tell : List Cond := .code yX0_tell cX0_tell 2 (some .int) :: ([.fieldLink RX0 7 "ChicoryRoasters$Bed" "grows" "I", .fieldLink RX0 13 "ChicoryRoasters$Bed" "most" "I", .fieldLink RX0 16 "ChicoryRoasters$Bed" "roots" "I"] ++ wsX00)
def wsX1_init : List Cond := .code yX1_init cX1_init 1 none :: ([.instanceMethod yX5_init, .initialized RX5, .code yX5_init cX5_init 1 none, .methodLink RX5 1 objectInit, .instanceMethod objectInit, .code objectInit ⟨#[0xb1]⟩ 1 none])
def wsX1_issue : List Cond := .code yX1_issue cX1_issue 3 none :: ([.fieldLink RX1 9 "ChicoryRoasters$Card" "allotted" "I", .fieldLink RX1 15 "ChicoryRoasters$Card" "picky" "I", .fieldLink RX1 18 "ChicoryRoasters$Card" "left" "I"] ++ wsX10)
def wsX1_renew : List Cond := .code yX1_renew cX1_renew 1 none :: ([.fieldLink RX1 9 "ChicoryRoasters$Card" "allotted" "I", .fieldLink RX1 18 "ChicoryRoasters$Card" "left" "I"] ++ wsX10)
def wsX4_coffeeOfPortion : List Cond := .code yX4_coffeeOfPortion cX4_coffeeOfPortion 1 (some .int) :: ([.fieldLink RX4 9 "ChicoryRoasters$Store" "share" "I", .fieldLink RX4 24 "ChicoryRoasters$Store" "coffee" "I", .methodLink RX4 27 Lib.Math.min.name, .static Lib.Math.min.name, .initialized "java/lang/Math", .code Lib.Math.min.name Lib.Math.min.code 2 (some .int)] ++ wsX40)
def wsX4_canMix : List Cond := .code yX4_canMix cX4_canMix 2 (some .boolean) :: ([.fieldLink RX4 21 "ChicoryRoasters$Store" "chicory" "I"] ++ wsX40)
def wsX4_servePortion : List Cond := .code yX4_servePortion cX4_servePortion 2 none :: ([.fieldLink RX4 9 "ChicoryRoasters$Store" "share" "I", .fieldLink RX4 33 "ChicoryRoasters$Store" "thinned" "I", .fieldLink RX4 24 "ChicoryRoasters$Store" "coffee" "I", .fieldLink RX4 21 "ChicoryRoasters$Store" "chicory" "I", .fieldLink RX4 36 "ChicoryRoasters$Store" "served" "I"] ++ wsX40)
def wsX1_serveOne_r1 : List Cond := [Cond.fieldLink RX1 18 "ChicoryRoasters$Card" "left" "I", Cond.fieldLink RX1 15 "ChicoryRoasters$Card" "picky" "I", Cond.fieldLink RX1 35 "ChicoryRoasters$Card" "refused" "I", Cond.fieldLink RX1 42 "ChicoryRoasters$Card" "served" "I", Cond.methodLink RX1 25 yX4_coffeeOfPortion, Cond.instanceMethod yX4_coffeeOfPortion, Cond.selects RX4 yX4_coffeeOfPortion yX4_coffeeOfPortion, Cond.initialized RX4, Cond.code yX4_coffeeOfPortion cX4_coffeeOfPortion 1 (some .int), Cond.fieldLink RX4 9 "ChicoryRoasters$Store" "share" "I", Cond.fieldLink RX4 24 "ChicoryRoasters$Store" "coffee" "I", Cond.methodLink RX4 27 Lib.Math.min.name, Cond.static Lib.Math.min.name, Cond.initialized "java/lang/Math", Cond.code Lib.Math.min.name Lib.Math.min.code 2 (some .int), Cond.methodLink RX1 31 yX4_canMix, Cond.instanceMethod yX4_canMix, Cond.selects RX4 yX4_canMix yX4_canMix, Cond.code yX4_canMix cX4_canMix 2 (some .boolean), Cond.fieldLink RX4 21 "ChicoryRoasters$Store" "chicory" "I", Cond.methodLink RX1 38 yX4_servePortion, Cond.instanceMethod yX4_servePortion, Cond.selects RX4 yX4_servePortion yX4_servePortion, Cond.code yX4_servePortion cX4_servePortion 2 none]
def wsX1_serveOne_r2 : List Cond := [Cond.fieldLink RX4 33 "ChicoryRoasters$Store" "thinned" "I", Cond.fieldLink RX4 36 "ChicoryRoasters$Store" "served" "I"]
def wsX1_serveOne : List Cond := .code yX1_serveOne cX1_serveOne 3 (some .boolean) :: ((wsX1_serveOne_r1 ++ wsX1_serveOne_r2) ++ wsX10 ++ wsX40)
def wsX1_serveDay_r1 : List Cond := [Cond.methodLink RX1 21 yX1_serveOne, Cond.instanceMethod yX1_serveOne, Cond.selects RX1 yX1_serveOne yX1_serveOne, Cond.initialized RX1, Cond.code yX1_serveOne cX1_serveOne 3 (some .boolean), Cond.fieldLink RX1 18 "ChicoryRoasters$Card" "left" "I", Cond.fieldLink RX1 15 "ChicoryRoasters$Card" "picky" "I", Cond.fieldLink RX1 35 "ChicoryRoasters$Card" "refused" "I", Cond.fieldLink RX1 42 "ChicoryRoasters$Card" "served" "I", Cond.methodLink RX1 25 yX4_coffeeOfPortion, Cond.instanceMethod yX4_coffeeOfPortion, Cond.selects RX4 yX4_coffeeOfPortion yX4_coffeeOfPortion, Cond.initialized RX4, Cond.code yX4_coffeeOfPortion cX4_coffeeOfPortion 1 (some .int), Cond.fieldLink RX4 9 "ChicoryRoasters$Store" "share" "I", Cond.fieldLink RX4 24 "ChicoryRoasters$Store" "coffee" "I", Cond.methodLink RX4 27 Lib.Math.min.name, Cond.static Lib.Math.min.name, Cond.initialized "java/lang/Math", Cond.code Lib.Math.min.name Lib.Math.min.code 2 (some .int), Cond.methodLink RX1 31 yX4_canMix, Cond.instanceMethod yX4_canMix, Cond.selects RX4 yX4_canMix yX4_canMix, Cond.code yX4_canMix cX4_canMix 2 (some .boolean)]
def wsX1_serveDay_r2 : List Cond := [Cond.fieldLink RX4 21 "ChicoryRoasters$Store" "chicory" "I", Cond.methodLink RX1 38 yX4_servePortion, Cond.instanceMethod yX4_servePortion, Cond.selects RX4 yX4_servePortion yX4_servePortion, Cond.code yX4_servePortion cX4_servePortion 2 none, Cond.fieldLink RX4 33 "ChicoryRoasters$Store" "thinned" "I", Cond.fieldLink RX4 36 "ChicoryRoasters$Store" "served" "I"]
def wsX1_serveDay : List Cond := .code yX1_serveDay cX1_serveDay 3 (some .int) :: ((wsX1_serveDay_r1 ++ wsX1_serveDay_r2) ++ wsX10 ++ wsX40)
def wsX1_become : List Cond := .code yX1_become cX1_become 2 none :: ([.fieldLink RX1 9 "ChicoryRoasters$Card" "allotted" "I", .fieldLink RX1 15 "ChicoryRoasters$Card" "picky" "I", .fieldLink RX1 18 "ChicoryRoasters$Card" "left" "I", .fieldLink RX1 42 "ChicoryRoasters$Card" "served" "I", .fieldLink RX1 35 "ChicoryRoasters$Card" "refused" "I"] ++ wsX10)
def wsX1_size : List Cond := .code yX1_size cX1_size 1 (some .int) :: ([])
def wsX1_tell : List Cond := .code yX1_tell cX1_tell 2 (some .int) :: ([.fieldLink RX1 9 "ChicoryRoasters$Card" "allotted" "I", .fieldLink RX1 15 "ChicoryRoasters$Card" "picky" "I", .fieldLink RX1 18 "ChicoryRoasters$Card" "left" "I", .fieldLink RX1 42 "ChicoryRoasters$Card" "served" "I", .fieldLink RX1 35 "ChicoryRoasters$Card" "refused" "I"] ++ wsX10)
def wsX2_init : List Cond := .code yX2_init cX2_init 1 none :: ([.fieldLink RX2 9 "ChicoryRoasters$Drum" "kind" "I", .instanceMethod yX5_init, .initialized RX5, .code yX5_init cX5_init 1 none, .methodLink RX5 1 objectInit, .instanceMethod objectInit, .code objectInit ⟨#[0xb1]⟩ 1 none] ++ wsX20)
def wsX2_install : List Cond := .code yX2_install cX2_install 3 none :: ([.fieldLink RX2 15 "ChicoryRoasters$Drum" "holds" "I", .fieldLink RX2 18 "ChicoryRoasters$Drum" "heat" "I"] ++ wsX20)
def wsX2_fill : List Cond := .code yX2_fill cX2_fill 3 none :: ([.fieldLink RX2 9 "ChicoryRoasters$Drum" "kind" "I", .fieldLink RX2 21 "ChicoryRoasters$Drum" "much" "I", .fieldLink RX2 24 "ChicoryRoasters$Drum" "level" "I"] ++ wsX20)
def wsX2_burnt : List Cond := .code yX2_burnt cX2_burnt 1 (some .int) :: ([.fieldLink RX2 9 "ChicoryRoasters$Drum" "kind" "I"] ++ wsX20)
def wsX2_levelAfter : List Cond := .code yX2_levelAfter cX2_levelAfter 2 (some .int) :: ([.fieldLink RX2 9 "ChicoryRoasters$Drum" "kind" "I", .fieldLink RX2 18 "ChicoryRoasters$Drum" "heat" "I", .methodLink RX2 35 Lib.Math.min.name, .static Lib.Math.min.name, .initialized "java/lang/Math", .code Lib.Math.min.name Lib.Math.min.code 2 (some .int), .methodLink RX2 31 yX2_burnt, .instanceMethod yX2_burnt, .selects RX2 yX2_burnt yX2_burnt, .initialized RX2, .code yX2_burnt cX2_burnt 1 (some .int)] ++ wsX20)
def wsX2_warm : List Cond := .code yX2_warm cX2_warm 1 none :: ([.fieldLink RX2 24 "ChicoryRoasters$Drum" "level" "I", .methodLink RX2 27 yX2_levelAfter, .instanceMethod yX2_levelAfter, .selects RX2 yX2_levelAfter yX2_levelAfter, .initialized RX2, .code yX2_levelAfter cX2_levelAfter 2 (some .int), .fieldLink RX2 9 "ChicoryRoasters$Drum" "kind" "I", .fieldLink RX2 18 "ChicoryRoasters$Drum" "heat" "I", .methodLink RX2 35 Lib.Math.min.name, .static Lib.Math.min.name, .initialized "java/lang/Math", .code Lib.Math.min.name Lib.Math.min.code 2 (some .int), .methodLink RX2 31 yX2_burnt, .instanceMethod yX2_burnt, .selects RX2 yX2_burnt yX2_burnt, .code yX2_burnt cX2_burnt 1 (some .int)] ++ wsX20)
def wsX2_done : List Cond := .code yX2_done cX2_done 1 (some .int) :: ([.fieldLink RX2 9 "ChicoryRoasters$Drum" "kind" "I"] ++ wsX20)
def wsX2_partsAt : List Cond := .code yX2_partsAt cX2_partsAt 3 (some .int) :: ([.fieldLink RX2 9 "ChicoryRoasters$Drum" "kind" "I", .fieldLink RX2 21 "ChicoryRoasters$Drum" "much" "I", .methodLink RX2 41 yX2_done, .instanceMethod yX2_done, .selects RX2 yX2_done yX2_done, .initialized RX2, .code yX2_done cX2_done 1 (some .int), .methodLink RX2 31 yX2_burnt, .instanceMethod yX2_burnt, .selects RX2 yX2_burnt yX2_burnt, .code yX2_burnt cX2_burnt 1 (some .int)] ++ wsX20)
def wsX2_daysToBest_r1 : List Cond := [Cond.fieldLink RX2 24 "ChicoryRoasters$Drum" "level" "I", Cond.methodLink RX2 44 yX2_partsAt, Cond.instanceMethod yX2_partsAt, Cond.selects RX2 yX2_partsAt yX2_partsAt, Cond.initialized RX2, Cond.code yX2_partsAt cX2_partsAt 3 (some .int), Cond.fieldLink RX2 9 "ChicoryRoasters$Drum" "kind" "I", Cond.fieldLink RX2 21 "ChicoryRoasters$Drum" "much" "I", Cond.methodLink RX2 41 yX2_done, Cond.instanceMethod yX2_done, Cond.selects RX2 yX2_done yX2_done, Cond.code yX2_done cX2_done 1 (some .int), Cond.methodLink RX2 31 yX2_burnt, Cond.instanceMethod yX2_burnt, Cond.selects RX2 yX2_burnt yX2_burnt, Cond.code yX2_burnt cX2_burnt 1 (some .int), Cond.methodLink RX2 27 yX2_levelAfter, Cond.instanceMethod yX2_levelAfter, Cond.selects RX2 yX2_levelAfter yX2_levelAfter, Cond.code yX2_levelAfter cX2_levelAfter 2 (some .int), Cond.fieldLink RX2 18 "ChicoryRoasters$Drum" "heat" "I", Cond.methodLink RX2 35 Lib.Math.min.name, Cond.static Lib.Math.min.name, Cond.initialized "java/lang/Math"]
def wsX2_daysToBest_r2 : List Cond := [Cond.code Lib.Math.min.name Lib.Math.min.code 2 (some .int)]
def wsX2_daysToBest : List Cond := .code yX2_daysToBest cX2_daysToBest 6 (some .int) :: ((wsX2_daysToBest_r1 ++ wsX2_daysToBest_r2) ++ wsX20)
def wsX2_become : List Cond := .code yX2_become cX2_become 2 none :: ([.fieldLink RX2 15 "ChicoryRoasters$Drum" "holds" "I", .fieldLink RX2 18 "ChicoryRoasters$Drum" "heat" "I", .fieldLink RX2 9 "ChicoryRoasters$Drum" "kind" "I", .fieldLink RX2 21 "ChicoryRoasters$Drum" "much" "I", .fieldLink RX2 24 "ChicoryRoasters$Drum" "level" "I"] ++ wsX20)
def wsX2_size : List Cond := .code yX2_size cX2_size 1 (some .int) :: ([])
def wsX2_tell : List Cond := .code yX2_tell cX2_tell 2 (some .int) :: ([.fieldLink RX2 15 "ChicoryRoasters$Drum" "holds" "I", .fieldLink RX2 18 "ChicoryRoasters$Drum" "heat" "I", .fieldLink RX2 9 "ChicoryRoasters$Drum" "kind" "I", .fieldLink RX2 21 "ChicoryRoasters$Drum" "much" "I", .fieldLink RX2 24 "ChicoryRoasters$Drum" "level" "I", .methodLink RX2 44 yX2_partsAt, .instanceMethod yX2_partsAt, .selects RX2 yX2_partsAt yX2_partsAt, .initialized RX2, .code yX2_partsAt cX2_partsAt 3 (some .int), .methodLink RX2 41 yX2_done, .instanceMethod yX2_done, .selects RX2 yX2_done yX2_done, .code yX2_done cX2_done 1 (some .int), .methodLink RX2 31 yX2_burnt, .instanceMethod yX2_burnt, .selects RX2 yX2_burnt yX2_burnt, .code yX2_burnt cX2_burnt 1 (some .int)] ++ wsX20)
def wsX3_init : List Cond := .code yX3_init cX3_init 1 none :: ([.instanceMethod yX5_init, .initialized RX5, .code yX5_init cX5_init 1 none, .methodLink RX5 1 objectInit, .instanceMethod objectInit, .code objectInit ⟨#[0xb1]⟩ 1 none])
def wsX3_hire : List Cond := .code yX3_hire cX3_hire 3 none :: ([.fieldLink RX3 9 "ChicoryRoasters$Smuggler" "way" "I", .fieldLink RX3 15 "ChicoryRoasters$Smuggler" "cargo" "I"] ++ wsX30)
def wsX3_setOut : List Cond := .code yX3_setOut cX3_setOut 1 none :: ([.fieldLink RX3 18 "ChicoryRoasters$Smuggler" "where" "I", .fieldLink RX3 9 "ChicoryRoasters$Smuggler" "way" "I", .fieldLink RX3 21 "ChicoryRoasters$Smuggler" "left" "I"] ++ wsX30)
def wsX3_daysToBorder : List Cond := .code yX3_daysToBorder cX3_daysToBorder 1 (some .int) :: ([.fieldLink RX3 9 "ChicoryRoasters$Smuggler" "way" "I"] ++ wsX30)
def wsX3_comeHome : List Cond := .code yX3_comeHome cX3_comeHome 2 (some .int) :: ([.fieldLink RX3 18 "ChicoryRoasters$Smuggler" "where" "I", .fieldLink RX3 15 "ChicoryRoasters$Smuggler" "cargo" "I"] ++ wsX30)
def wsX3_travel : List Cond := .code yX3_travel cX3_travel 2 (some .int) :: ([.fieldLink RX3 18 "ChicoryRoasters$Smuggler" "where" "I", .fieldLink RX3 21 "ChicoryRoasters$Smuggler" "left" "I", .fieldLink RX3 9 "ChicoryRoasters$Smuggler" "way" "I", .fieldLink RX3 24 "ChicoryRoasters$Smuggler" "arrests" "I", .methodLink RX3 27 yX3_comeHome, .instanceMethod yX3_comeHome, .selects RX3 yX3_comeHome yX3_comeHome, .initialized RX3, .code yX3_comeHome cX3_comeHome 2 (some .int), .fieldLink RX3 15 "ChicoryRoasters$Smuggler" "cargo" "I"] ++ wsX30)
def wsX3_become : List Cond := .code yX3_become cX3_become 2 none :: ([.fieldLink RX3 9 "ChicoryRoasters$Smuggler" "way" "I", .fieldLink RX3 15 "ChicoryRoasters$Smuggler" "cargo" "I", .fieldLink RX3 18 "ChicoryRoasters$Smuggler" "where" "I", .fieldLink RX3 21 "ChicoryRoasters$Smuggler" "left" "I", .fieldLink RX3 24 "ChicoryRoasters$Smuggler" "arrests" "I"] ++ wsX30)
def wsX3_size : List Cond := .code yX3_size cX3_size 1 (some .int) :: ([])
def wsX3_tell : List Cond := .code yX3_tell cX3_tell 2 (some .int) :: ([.fieldLink RX3 9 "ChicoryRoasters$Smuggler" "way" "I", .fieldLink RX3 15 "ChicoryRoasters$Smuggler" "cargo" "I", .fieldLink RX3 18 "ChicoryRoasters$Smuggler" "where" "I", .fieldLink RX3 21 "ChicoryRoasters$Smuggler" "left" "I", .fieldLink RX3 24 "ChicoryRoasters$Smuggler" "arrests" "I"] ++ wsX30)
def wsX4_init : List Cond := .code yX4_init cX4_init 1 none :: ([.methodLink RX4 3 objectInit, .instanceMethod objectInit, .code objectInit ⟨#[0xb1]⟩ 1 none, .fieldLink RX4 9 "ChicoryRoasters$Store" "share" "I"] ++ wsX40)
def wsX4_stock : List Cond := .code yX4_stock cX4_stock 2 (some .int) :: ([.fieldLink RX4 15 "ChicoryRoasters$Store" "roots" "I", .fieldLink RX4 18 "ChicoryRoasters$Store" "beans" "I"] ++ wsX40)
def wsX4_add : List Cond := .code yX4_add cX4_add 3 none :: ([.fieldLink RX4 15 "ChicoryRoasters$Store" "roots" "I", .fieldLink RX4 18 "ChicoryRoasters$Store" "beans" "I"] ++ wsX40)
def wsX4_addRoasted : List Cond := .code yX4_addRoasted cX4_addRoasted 3 none :: ([.fieldLink RX4 21 "ChicoryRoasters$Store" "chicory" "I", .fieldLink RX4 24 "ChicoryRoasters$Store" "coffee" "I"] ++ wsX40)
def wsX4_become : List Cond := .code yX4_become cX4_become 2 none :: ([.fieldLink RX4 15 "ChicoryRoasters$Store" "roots" "I", .fieldLink RX4 18 "ChicoryRoasters$Store" "beans" "I", .fieldLink RX4 21 "ChicoryRoasters$Store" "chicory" "I", .fieldLink RX4 24 "ChicoryRoasters$Store" "coffee" "I", .fieldLink RX4 9 "ChicoryRoasters$Store" "share" "I", .fieldLink RX4 36 "ChicoryRoasters$Store" "served" "I", .fieldLink RX4 33 "ChicoryRoasters$Store" "thinned" "I"] ++ wsX40)
def wsX6_size : List Cond := .code yX6_size cX6_size 1 (some .int) :: ([])
def wsX6_tell : List Cond := .code yX6_tell cX6_tell 2 (some .int) :: ([.fieldLink RX6 63 "ChicoryRoasters$Town" "day" "I", .fieldLink RX6 38 "ChicoryRoasters$Town" "store" "LChicoryRoasters$Store;", .fieldLink RX6 114 "ChicoryRoasters$Store" "roots" "I", .fieldLink RX6 117 "ChicoryRoasters$Store" "beans" "I", .fieldLink RX6 120 "ChicoryRoasters$Store" "chicory" "I", .fieldLink RX6 123 "ChicoryRoasters$Store" "coffee" "I", .fieldLink RX6 126 "ChicoryRoasters$Store" "served" "I", .fieldLink RX6 129 "ChicoryRoasters$Store" "thinned" "I", .fieldLink RX6 132 "ChicoryRoasters$Store" "share" "I", .fieldLink RX6 46 "ChicoryRoasters$Town" "patrol" "I"] ++ wsX60 ++ wsX40)
def wsX5_digestOnto_r1 : List Cond := [Cond.constantLong RX5 13 (31), Cond.methodLink RX5 7 ⟨"ChicoryRoasters$Teller", "size", "()I"⟩, Cond.sameMethod "ChicoryRoasters$Teller" "ChicoryRoasters$Teller" "size" "()I", Cond.selects RX0 ⟨"ChicoryRoasters$Teller", "size", "()I"⟩ yX0_size, Cond.instanceMethod yX0_size, Cond.initialized RX0, Cond.code yX0_size cX0_size 1 (some .int), Cond.selects RX1 ⟨"ChicoryRoasters$Teller", "size", "()I"⟩ yX1_size, Cond.instanceMethod yX1_size, Cond.initialized RX1, Cond.code yX1_size cX1_size 1 (some .int), Cond.selects RX2 ⟨"ChicoryRoasters$Teller", "size", "()I"⟩ yX2_size, Cond.instanceMethod yX2_size, Cond.initialized RX2, Cond.code yX2_size cX2_size 1 (some .int), Cond.selects RX3 ⟨"ChicoryRoasters$Teller", "size", "()I"⟩ yX3_size, Cond.instanceMethod yX3_size, Cond.initialized RX3, Cond.code yX3_size cX3_size 1 (some .int), Cond.selects RX6 ⟨"ChicoryRoasters$Teller", "size", "()I"⟩ yX6_size, Cond.instanceMethod yX6_size, Cond.initialized RX6, Cond.code yX6_size cX6_size 1 (some .int), Cond.methodLink RX5 15 ⟨"ChicoryRoasters$Teller", "tell", "(I)I"⟩]
def wsX5_digestOnto_r2 : List Cond := [Cond.sameMethod "ChicoryRoasters$Teller" "ChicoryRoasters$Teller" "tell" "(I)I", Cond.selects RX0 ⟨"ChicoryRoasters$Teller", "tell", "(I)I"⟩ yX0_tell, Cond.instanceMethod yX0_tell, Cond.code yX0_tell cX0_tell 2 (some .int), Cond.fieldLink RX0 7 "ChicoryRoasters$Bed" "grows" "I", Cond.fieldLink RX0 13 "ChicoryRoasters$Bed" "most" "I", Cond.fieldLink RX0 16 "ChicoryRoasters$Bed" "roots" "I", Cond.selects RX1 ⟨"ChicoryRoasters$Teller", "tell", "(I)I"⟩ yX1_tell, Cond.instanceMethod yX1_tell, Cond.code yX1_tell cX1_tell 2 (some .int), Cond.fieldLink RX1 9 "ChicoryRoasters$Card" "allotted" "I", Cond.fieldLink RX1 15 "ChicoryRoasters$Card" "picky" "I", Cond.fieldLink RX1 18 "ChicoryRoasters$Card" "left" "I", Cond.fieldLink RX1 42 "ChicoryRoasters$Card" "served" "I", Cond.fieldLink RX1 35 "ChicoryRoasters$Card" "refused" "I", Cond.selects RX2 ⟨"ChicoryRoasters$Teller", "tell", "(I)I"⟩ yX2_tell, Cond.instanceMethod yX2_tell, Cond.code yX2_tell cX2_tell 2 (some .int), Cond.fieldLink RX2 15 "ChicoryRoasters$Drum" "holds" "I", Cond.fieldLink RX2 18 "ChicoryRoasters$Drum" "heat" "I", Cond.fieldLink RX2 9 "ChicoryRoasters$Drum" "kind" "I", Cond.fieldLink RX2 21 "ChicoryRoasters$Drum" "much" "I", Cond.fieldLink RX2 24 "ChicoryRoasters$Drum" "level" "I", Cond.methodLink RX2 44 yX2_partsAt]
def wsX5_digestOnto_r3 : List Cond := [Cond.instanceMethod yX2_partsAt, Cond.selects RX2 yX2_partsAt yX2_partsAt, Cond.code yX2_partsAt cX2_partsAt 3 (some .int), Cond.methodLink RX2 41 yX2_done, Cond.instanceMethod yX2_done, Cond.selects RX2 yX2_done yX2_done, Cond.code yX2_done cX2_done 1 (some .int), Cond.methodLink RX2 31 yX2_burnt, Cond.instanceMethod yX2_burnt, Cond.selects RX2 yX2_burnt yX2_burnt, Cond.code yX2_burnt cX2_burnt 1 (some .int), Cond.selects RX3 ⟨"ChicoryRoasters$Teller", "tell", "(I)I"⟩ yX3_tell, Cond.instanceMethod yX3_tell, Cond.code yX3_tell cX3_tell 2 (some .int), Cond.fieldLink RX3 9 "ChicoryRoasters$Smuggler" "way" "I", Cond.fieldLink RX3 15 "ChicoryRoasters$Smuggler" "cargo" "I", Cond.fieldLink RX3 18 "ChicoryRoasters$Smuggler" "where" "I", Cond.fieldLink RX3 21 "ChicoryRoasters$Smuggler" "left" "I", Cond.fieldLink RX3 24 "ChicoryRoasters$Smuggler" "arrests" "I", Cond.selects RX6 ⟨"ChicoryRoasters$Teller", "tell", "(I)I"⟩ yX6_tell, Cond.instanceMethod yX6_tell, Cond.code yX6_tell cX6_tell 2 (some .int), Cond.fieldLink RX6 63 "ChicoryRoasters$Town" "day" "I", Cond.fieldLink RX6 38 "ChicoryRoasters$Town" "store" "LChicoryRoasters$Store;"]
def wsX5_digestOnto_r4 : List Cond := [Cond.fieldLink RX6 114 "ChicoryRoasters$Store" "roots" "I", Cond.fieldLink RX6 117 "ChicoryRoasters$Store" "beans" "I", Cond.fieldLink RX6 120 "ChicoryRoasters$Store" "chicory" "I", Cond.fieldLink RX6 123 "ChicoryRoasters$Store" "coffee" "I", Cond.fieldLink RX6 126 "ChicoryRoasters$Store" "served" "I", Cond.fieldLink RX6 129 "ChicoryRoasters$Store" "thinned" "I", Cond.fieldLink RX6 132 "ChicoryRoasters$Store" "share" "I", Cond.fieldLink RX6 46 "ChicoryRoasters$Town" "patrol" "I"]
def wsX5_digestOnto : List Cond := .code yX5_digestOnto cX5_digestOnto 7 (some .long) :: ((wsX5_digestOnto_r1 ++ (wsX5_digestOnto_r2 ++ (wsX5_digestOnto_r3 ++ wsX5_digestOnto_r4))) ++ wsX00 ++ wsX10 ++ wsX20 ++ wsX30 ++ wsX60 ++ wsX40)
def wsX6_init_r1 : List Cond := [Cond.classLink RX6 9 RX0, Cond.fieldLink RX6 11 "ChicoryRoasters$Town" "beds" "[LChicoryRoasters$Bed;", Cond.classLink RX6 17 RX2, Cond.fieldLink RX6 19 "ChicoryRoasters$Town" "drums" "[LChicoryRoasters$Drum;", Cond.classLink RX6 23 RX3, Cond.fieldLink RX6 25 "ChicoryRoasters$Town" "smugglers" "[LChicoryRoasters$Smuggler;", Cond.classLink RX6 29 RX1, Cond.fieldLink RX6 31 "ChicoryRoasters$Town" "cards" "[LChicoryRoasters$Card;", Cond.classLink RX6 35 RX4, Cond.instantiable RX4 7, Cond.initialized RX4, Cond.fieldLink RX6 38 "ChicoryRoasters$Town" "store" "LChicoryRoasters$Store;", Cond.instantiable RX0 3, Cond.initialized RX0, Cond.instantiable RX2 5, Cond.initialized RX2, Cond.instantiable RX3 5, Cond.initialized RX3, Cond.instantiable RX1 5, Cond.initialized RX1, Cond.instanceMethod yX5_init, Cond.initialized RX5, Cond.code yX5_init cX5_init 1 none, Cond.methodLink RX5 1 objectInit]
def wsX6_init_r2 : List Cond := [Cond.instanceMethod objectInit, Cond.code objectInit ⟨#[0xb1]⟩ 1 none, Cond.instanceMethod yX4_init, Cond.code yX4_init cX4_init 1 none, Cond.methodLink RX4 3 objectInit, Cond.fieldLink RX4 9 "ChicoryRoasters$Store" "share" "I", Cond.instanceMethod yX0_init, Cond.code yX0_init cX0_init 1 none, Cond.instanceMethod yX2_init, Cond.code yX2_init cX2_init 1 none, Cond.fieldLink RX2 9 "ChicoryRoasters$Drum" "kind" "I", Cond.instanceMethod yX3_init, Cond.code yX3_init cX3_init 1 none, Cond.instanceMethod yX1_init, Cond.code yX1_init cX1_init 1 none]
def wsX6_init : List Cond := .code yX6_init cX6_init 2 none :: ((wsX6_init_r1 ++ wsX6_init_r2) ++ wsX60 ++ wsX40 ++ wsX00 ++ wsX20 ++ wsX30 ++ wsX10)
def wsX6_patrolled : List Cond := .code yX6_patrolled cX6_patrolled 2 (some .boolean) :: ([.fieldLink RX6 46 "ChicoryRoasters$Town" "patrol" "I"] ++ wsX60)
def wsX6_travel_r1 : List Cond := [Cond.fieldLink RX6 66 "ChicoryRoasters$Town" "smugglerCount" "I", Cond.fieldLink RX6 38 "ChicoryRoasters$Town" "store" "LChicoryRoasters$Store;", Cond.fieldLink RX6 25 "ChicoryRoasters$Town" "smugglers" "[LChicoryRoasters$Smuggler;", Cond.fieldLink RX6 63 "ChicoryRoasters$Town" "day" "I", Cond.methodLink RX6 69 yX6_patrolled, Cond.instanceMethod yX6_patrolled, Cond.selects RX6 yX6_patrolled yX6_patrolled, Cond.initialized RX6, Cond.code yX6_patrolled cX6_patrolled 2 (some .boolean), Cond.fieldLink RX6 46 "ChicoryRoasters$Town" "patrol" "I", Cond.methodLink RX6 73 yX3_travel, Cond.instanceMethod yX3_travel, Cond.selects RX3 yX3_travel yX3_travel, Cond.initialized RX3, Cond.code yX3_travel cX3_travel 2 (some .int), Cond.fieldLink RX3 18 "ChicoryRoasters$Smuggler" "where" "I", Cond.fieldLink RX3 21 "ChicoryRoasters$Smuggler" "left" "I", Cond.fieldLink RX3 9 "ChicoryRoasters$Smuggler" "way" "I", Cond.fieldLink RX3 24 "ChicoryRoasters$Smuggler" "arrests" "I", Cond.methodLink RX3 27 yX3_comeHome, Cond.instanceMethod yX3_comeHome, Cond.selects RX3 yX3_comeHome yX3_comeHome, Cond.code yX3_comeHome cX3_comeHome 2 (some .int), Cond.fieldLink RX3 15 "ChicoryRoasters$Smuggler" "cargo" "I"]
def wsX6_travel_r2 : List Cond := [Cond.methodLink RX6 76 yX4_add, Cond.instanceMethod yX4_add, Cond.selects RX4 yX4_add yX4_add, Cond.initialized RX4, Cond.code yX4_add cX4_add 3 none, Cond.fieldLink RX4 15 "ChicoryRoasters$Store" "roots" "I", Cond.fieldLink RX4 18 "ChicoryRoasters$Store" "beans" "I"]
def wsX6_travel : List Cond := .code yX6_travel cX6_travel 2 none :: ((wsX6_travel_r1 ++ wsX6_travel_r2) ++ wsX60 ++ wsX30 ++ wsX40)
def wsX6_warm : List Cond := .code yX6_warm cX6_warm 2 none :: ([.fieldLink RX6 80 "ChicoryRoasters$Town" "drumCount" "I", .fieldLink RX6 19 "ChicoryRoasters$Town" "drums" "[LChicoryRoasters$Drum;", .methodLink RX6 83 yX2_warm, .instanceMethod yX2_warm, .selects RX2 yX2_warm yX2_warm, .initialized RX2, .code yX2_warm cX2_warm 1 none, .fieldLink RX2 24 "ChicoryRoasters$Drum" "level" "I", .methodLink RX2 27 yX2_levelAfter, .instanceMethod yX2_levelAfter, .selects RX2 yX2_levelAfter yX2_levelAfter, .code yX2_levelAfter cX2_levelAfter 2 (some .int), .fieldLink RX2 9 "ChicoryRoasters$Drum" "kind" "I", .fieldLink RX2 18 "ChicoryRoasters$Drum" "heat" "I", .methodLink RX2 35 Lib.Math.min.name, .static Lib.Math.min.name, .initialized "java/lang/Math", .code Lib.Math.min.name Lib.Math.min.code 2 (some .int), .methodLink RX2 31 yX2_burnt, .instanceMethod yX2_burnt, .selects RX2 yX2_burnt yX2_burnt, .code yX2_burnt cX2_burnt 1 (some .int)] ++ wsX60 ++ wsX20)
def wsX6_grow : List Cond := .code yX6_grow cX6_grow 2 none :: ([.fieldLink RX6 84 "ChicoryRoasters$Town" "bedCount" "I", .fieldLink RX6 11 "ChicoryRoasters$Town" "beds" "[LChicoryRoasters$Bed;", .methodLink RX6 87 yX0_grow, .instanceMethod yX0_grow, .selects RX0 yX0_grow yX0_grow, .initialized RX0, .code yX0_grow cX0_grow 1 none, .fieldLink RX0 16 "ChicoryRoasters$Bed" "roots" "I", .fieldLink RX0 7 "ChicoryRoasters$Bed" "grows" "I", .fieldLink RX0 13 "ChicoryRoasters$Bed" "most" "I", .methodLink RX0 19 Lib.Math.min.name, .static Lib.Math.min.name, .initialized "java/lang/Math", .code Lib.Math.min.name Lib.Math.min.code 2 (some .int)] ++ wsX60 ++ wsX00)
def wsX6_serve_r1 : List Cond := [Cond.fieldLink RX6 88 "ChicoryRoasters$Town" "cardCount" "I", Cond.fieldLink RX6 63 "ChicoryRoasters$Town" "day" "I", Cond.fieldLink RX6 31 "ChicoryRoasters$Town" "cards" "[LChicoryRoasters$Card;", Cond.fieldLink RX6 38 "ChicoryRoasters$Town" "store" "LChicoryRoasters$Store;", Cond.methodLink RX6 91 yX1_renew, Cond.instanceMethod yX1_renew, Cond.selects RX1 yX1_renew yX1_renew, Cond.initialized RX1, Cond.code yX1_renew cX1_renew 1 none, Cond.fieldLink RX1 9 "ChicoryRoasters$Card" "allotted" "I", Cond.fieldLink RX1 18 "ChicoryRoasters$Card" "left" "I", Cond.methodLink RX6 94 yX1_serveDay, Cond.instanceMethod yX1_serveDay, Cond.selects RX1 yX1_serveDay yX1_serveDay, Cond.code yX1_serveDay cX1_serveDay 3 (some .int), Cond.methodLink RX1 21 yX1_serveOne, Cond.instanceMethod yX1_serveOne, Cond.selects RX1 yX1_serveOne yX1_serveOne, Cond.code yX1_serveOne cX1_serveOne 3 (some .boolean), Cond.fieldLink RX1 15 "ChicoryRoasters$Card" "picky" "I", Cond.fieldLink RX1 35 "ChicoryRoasters$Card" "refused" "I", Cond.fieldLink RX1 42 "ChicoryRoasters$Card" "served" "I", Cond.methodLink RX1 25 yX4_coffeeOfPortion, Cond.instanceMethod yX4_coffeeOfPortion]
def wsX6_serve_r2 : List Cond := [Cond.selects RX4 yX4_coffeeOfPortion yX4_coffeeOfPortion, Cond.initialized RX4, Cond.code yX4_coffeeOfPortion cX4_coffeeOfPortion 1 (some .int), Cond.fieldLink RX4 9 "ChicoryRoasters$Store" "share" "I", Cond.fieldLink RX4 24 "ChicoryRoasters$Store" "coffee" "I", Cond.methodLink RX4 27 Lib.Math.min.name, Cond.static Lib.Math.min.name, Cond.initialized "java/lang/Math", Cond.code Lib.Math.min.name Lib.Math.min.code 2 (some .int), Cond.methodLink RX1 31 yX4_canMix, Cond.instanceMethod yX4_canMix, Cond.selects RX4 yX4_canMix yX4_canMix, Cond.code yX4_canMix cX4_canMix 2 (some .boolean), Cond.fieldLink RX4 21 "ChicoryRoasters$Store" "chicory" "I", Cond.methodLink RX1 38 yX4_servePortion, Cond.instanceMethod yX4_servePortion, Cond.selects RX4 yX4_servePortion yX4_servePortion, Cond.code yX4_servePortion cX4_servePortion 2 none, Cond.fieldLink RX4 33 "ChicoryRoasters$Store" "thinned" "I", Cond.fieldLink RX4 36 "ChicoryRoasters$Store" "served" "I"]
def wsX6_serve : List Cond := .code yX6_serve cX6_serve 3 (some .int) :: ((wsX6_serve_r1 ++ wsX6_serve_r2) ++ wsX60 ++ wsX10 ++ wsX40)
def wsX6_live_r1 : List Cond := [Cond.fieldLink RX6 63 "ChicoryRoasters$Town" "day" "I", Cond.methodLink RX6 50 yX6_travel, Cond.instanceMethod yX6_travel, Cond.selects RX6 yX6_travel yX6_travel, Cond.initialized RX6, Cond.code yX6_travel cX6_travel 2 none, Cond.fieldLink RX6 66 "ChicoryRoasters$Town" "smugglerCount" "I", Cond.fieldLink RX6 38 "ChicoryRoasters$Town" "store" "LChicoryRoasters$Store;", Cond.fieldLink RX6 25 "ChicoryRoasters$Town" "smugglers" "[LChicoryRoasters$Smuggler;", Cond.methodLink RX6 69 yX6_patrolled, Cond.instanceMethod yX6_patrolled, Cond.selects RX6 yX6_patrolled yX6_patrolled, Cond.code yX6_patrolled cX6_patrolled 2 (some .boolean), Cond.fieldLink RX6 46 "ChicoryRoasters$Town" "patrol" "I", Cond.methodLink RX6 73 yX3_travel, Cond.instanceMethod yX3_travel, Cond.selects RX3 yX3_travel yX3_travel, Cond.initialized RX3, Cond.code yX3_travel cX3_travel 2 (some .int), Cond.fieldLink RX3 18 "ChicoryRoasters$Smuggler" "where" "I", Cond.fieldLink RX3 21 "ChicoryRoasters$Smuggler" "left" "I", Cond.fieldLink RX3 9 "ChicoryRoasters$Smuggler" "way" "I", Cond.fieldLink RX3 24 "ChicoryRoasters$Smuggler" "arrests" "I", Cond.methodLink RX3 27 yX3_comeHome]
def wsX6_live_r2 : List Cond := [Cond.instanceMethod yX3_comeHome, Cond.selects RX3 yX3_comeHome yX3_comeHome, Cond.code yX3_comeHome cX3_comeHome 2 (some .int), Cond.fieldLink RX3 15 "ChicoryRoasters$Smuggler" "cargo" "I", Cond.methodLink RX6 76 yX4_add, Cond.instanceMethod yX4_add, Cond.selects RX4 yX4_add yX4_add, Cond.initialized RX4, Cond.code yX4_add cX4_add 3 none, Cond.fieldLink RX4 15 "ChicoryRoasters$Store" "roots" "I", Cond.fieldLink RX4 18 "ChicoryRoasters$Store" "beans" "I", Cond.methodLink RX6 53 yX6_warm, Cond.instanceMethod yX6_warm, Cond.selects RX6 yX6_warm yX6_warm, Cond.code yX6_warm cX6_warm 2 none, Cond.fieldLink RX6 80 "ChicoryRoasters$Town" "drumCount" "I", Cond.fieldLink RX6 19 "ChicoryRoasters$Town" "drums" "[LChicoryRoasters$Drum;", Cond.methodLink RX6 83 yX2_warm, Cond.instanceMethod yX2_warm, Cond.selects RX2 yX2_warm yX2_warm, Cond.initialized RX2, Cond.code yX2_warm cX2_warm 1 none, Cond.fieldLink RX2 24 "ChicoryRoasters$Drum" "level" "I", Cond.methodLink RX2 27 yX2_levelAfter]
def wsX6_live_r3 : List Cond := [Cond.instanceMethod yX2_levelAfter, Cond.selects RX2 yX2_levelAfter yX2_levelAfter, Cond.code yX2_levelAfter cX2_levelAfter 2 (some .int), Cond.fieldLink RX2 9 "ChicoryRoasters$Drum" "kind" "I", Cond.fieldLink RX2 18 "ChicoryRoasters$Drum" "heat" "I", Cond.methodLink RX2 35 Lib.Math.min.name, Cond.static Lib.Math.min.name, Cond.initialized "java/lang/Math", Cond.code Lib.Math.min.name Lib.Math.min.code 2 (some .int), Cond.methodLink RX2 31 yX2_burnt, Cond.instanceMethod yX2_burnt, Cond.selects RX2 yX2_burnt yX2_burnt, Cond.code yX2_burnt cX2_burnt 1 (some .int), Cond.methodLink RX6 56 yX6_grow, Cond.instanceMethod yX6_grow, Cond.selects RX6 yX6_grow yX6_grow, Cond.code yX6_grow cX6_grow 2 none, Cond.fieldLink RX6 84 "ChicoryRoasters$Town" "bedCount" "I", Cond.fieldLink RX6 11 "ChicoryRoasters$Town" "beds" "[LChicoryRoasters$Bed;", Cond.methodLink RX6 87 yX0_grow, Cond.instanceMethod yX0_grow, Cond.selects RX0 yX0_grow yX0_grow, Cond.initialized RX0, Cond.code yX0_grow cX0_grow 1 none]
def wsX6_live_r4 : List Cond := [Cond.fieldLink RX0 16 "ChicoryRoasters$Bed" "roots" "I", Cond.fieldLink RX0 7 "ChicoryRoasters$Bed" "grows" "I", Cond.fieldLink RX0 13 "ChicoryRoasters$Bed" "most" "I", Cond.methodLink RX0 19 Lib.Math.min.name, Cond.methodLink RX6 59 yX6_serve, Cond.instanceMethod yX6_serve, Cond.selects RX6 yX6_serve yX6_serve, Cond.code yX6_serve cX6_serve 3 (some .int), Cond.fieldLink RX6 88 "ChicoryRoasters$Town" "cardCount" "I", Cond.fieldLink RX6 31 "ChicoryRoasters$Town" "cards" "[LChicoryRoasters$Card;", Cond.methodLink RX6 91 yX1_renew, Cond.instanceMethod yX1_renew, Cond.selects RX1 yX1_renew yX1_renew, Cond.initialized RX1, Cond.code yX1_renew cX1_renew 1 none, Cond.fieldLink RX1 9 "ChicoryRoasters$Card" "allotted" "I", Cond.fieldLink RX1 18 "ChicoryRoasters$Card" "left" "I", Cond.methodLink RX6 94 yX1_serveDay, Cond.instanceMethod yX1_serveDay, Cond.selects RX1 yX1_serveDay yX1_serveDay, Cond.code yX1_serveDay cX1_serveDay 3 (some .int), Cond.methodLink RX1 21 yX1_serveOne, Cond.instanceMethod yX1_serveOne, Cond.selects RX1 yX1_serveOne yX1_serveOne]
def wsX6_live_r5 : List Cond := [Cond.code yX1_serveOne cX1_serveOne 3 (some .boolean), Cond.fieldLink RX1 15 "ChicoryRoasters$Card" "picky" "I", Cond.fieldLink RX1 35 "ChicoryRoasters$Card" "refused" "I", Cond.fieldLink RX1 42 "ChicoryRoasters$Card" "served" "I", Cond.methodLink RX1 25 yX4_coffeeOfPortion, Cond.instanceMethod yX4_coffeeOfPortion, Cond.selects RX4 yX4_coffeeOfPortion yX4_coffeeOfPortion, Cond.code yX4_coffeeOfPortion cX4_coffeeOfPortion 1 (some .int), Cond.fieldLink RX4 9 "ChicoryRoasters$Store" "share" "I", Cond.fieldLink RX4 24 "ChicoryRoasters$Store" "coffee" "I", Cond.methodLink RX4 27 Lib.Math.min.name, Cond.methodLink RX1 31 yX4_canMix, Cond.instanceMethod yX4_canMix, Cond.selects RX4 yX4_canMix yX4_canMix, Cond.code yX4_canMix cX4_canMix 2 (some .boolean), Cond.fieldLink RX4 21 "ChicoryRoasters$Store" "chicory" "I", Cond.methodLink RX1 38 yX4_servePortion, Cond.instanceMethod yX4_servePortion, Cond.selects RX4 yX4_servePortion yX4_servePortion, Cond.code yX4_servePortion cX4_servePortion 2 none, Cond.fieldLink RX4 33 "ChicoryRoasters$Store" "thinned" "I", Cond.fieldLink RX4 36 "ChicoryRoasters$Store" "served" "I"]
def wsX6_live : List Cond := .code yX6_live cX6_live 4 (some .int) :: ((wsX6_live_r1 ++ (wsX6_live_r2 ++ (wsX6_live_r3 ++ (wsX6_live_r4 ++ wsX6_live_r5)))) ++ wsX60 ++ wsX30 ++ wsX40 ++ wsX20 ++ wsX00 ++ wsX10)
def wsX6_become_r1 : List Cond := [Cond.fieldLink RX6 63 "ChicoryRoasters$Town" "day" "I", Cond.fieldLink RX6 46 "ChicoryRoasters$Town" "patrol" "I", Cond.fieldLink RX6 38 "ChicoryRoasters$Town" "store" "LChicoryRoasters$Store;", Cond.fieldLink RX6 84 "ChicoryRoasters$Town" "bedCount" "I", Cond.fieldLink RX6 11 "ChicoryRoasters$Town" "beds" "[LChicoryRoasters$Bed;", Cond.fieldLink RX6 80 "ChicoryRoasters$Town" "drumCount" "I", Cond.fieldLink RX6 19 "ChicoryRoasters$Town" "drums" "[LChicoryRoasters$Drum;", Cond.fieldLink RX6 66 "ChicoryRoasters$Town" "smugglerCount" "I", Cond.fieldLink RX6 25 "ChicoryRoasters$Town" "smugglers" "[LChicoryRoasters$Smuggler;", Cond.fieldLink RX6 88 "ChicoryRoasters$Town" "cardCount" "I", Cond.fieldLink RX6 31 "ChicoryRoasters$Town" "cards" "[LChicoryRoasters$Card;", Cond.methodLink RX6 98 yX4_become, Cond.instanceMethod yX4_become, Cond.selects RX4 yX4_become yX4_become, Cond.initialized RX4, Cond.code yX4_become cX4_become 2 none, Cond.fieldLink RX4 15 "ChicoryRoasters$Store" "roots" "I", Cond.fieldLink RX4 18 "ChicoryRoasters$Store" "beans" "I", Cond.fieldLink RX4 21 "ChicoryRoasters$Store" "chicory" "I", Cond.fieldLink RX4 24 "ChicoryRoasters$Store" "coffee" "I", Cond.fieldLink RX4 9 "ChicoryRoasters$Store" "share" "I", Cond.fieldLink RX4 36 "ChicoryRoasters$Store" "served" "I", Cond.fieldLink RX4 33 "ChicoryRoasters$Store" "thinned" "I", Cond.methodLink RX6 102 yX0_become]
def wsX6_become_r2 : List Cond := [Cond.instanceMethod yX0_become, Cond.selects RX0 yX0_become yX0_become, Cond.initialized RX0, Cond.code yX0_become cX0_become 2 none, Cond.fieldLink RX0 7 "ChicoryRoasters$Bed" "grows" "I", Cond.fieldLink RX0 13 "ChicoryRoasters$Bed" "most" "I", Cond.fieldLink RX0 16 "ChicoryRoasters$Bed" "roots" "I", Cond.methodLink RX6 105 yX2_become, Cond.instanceMethod yX2_become, Cond.selects RX2 yX2_become yX2_become, Cond.initialized RX2, Cond.code yX2_become cX2_become 2 none, Cond.fieldLink RX2 15 "ChicoryRoasters$Drum" "holds" "I", Cond.fieldLink RX2 18 "ChicoryRoasters$Drum" "heat" "I", Cond.fieldLink RX2 9 "ChicoryRoasters$Drum" "kind" "I", Cond.fieldLink RX2 21 "ChicoryRoasters$Drum" "much" "I", Cond.fieldLink RX2 24 "ChicoryRoasters$Drum" "level" "I", Cond.methodLink RX6 108 yX3_become, Cond.instanceMethod yX3_become, Cond.selects RX3 yX3_become yX3_become, Cond.initialized RX3, Cond.code yX3_become cX3_become 2 none, Cond.fieldLink RX3 9 "ChicoryRoasters$Smuggler" "way" "I", Cond.fieldLink RX3 15 "ChicoryRoasters$Smuggler" "cargo" "I"]
def wsX6_become_r3 : List Cond := [Cond.fieldLink RX3 18 "ChicoryRoasters$Smuggler" "where" "I", Cond.fieldLink RX3 21 "ChicoryRoasters$Smuggler" "left" "I", Cond.fieldLink RX3 24 "ChicoryRoasters$Smuggler" "arrests" "I", Cond.methodLink RX6 111 yX1_become, Cond.instanceMethod yX1_become, Cond.selects RX1 yX1_become yX1_become, Cond.initialized RX1, Cond.code yX1_become cX1_become 2 none, Cond.fieldLink RX1 9 "ChicoryRoasters$Card" "allotted" "I", Cond.fieldLink RX1 15 "ChicoryRoasters$Card" "picky" "I", Cond.fieldLink RX1 18 "ChicoryRoasters$Card" "left" "I", Cond.fieldLink RX1 42 "ChicoryRoasters$Card" "served" "I", Cond.fieldLink RX1 35 "ChicoryRoasters$Card" "refused" "I"]
def wsX6_become : List Cond := .code yX6_become cX6_become 3 none :: ((wsX6_become_r1 ++ (wsX6_become_r2 ++ wsX6_become_r3)) ++ wsX60 ++ wsX40 ++ wsX00 ++ wsX20 ++ wsX30 ++ wsX10)
def wsX7_init_r1 : List Cond := [Cond.methodLink RX7 1 objectInit, Cond.instanceMethod objectInit, Cond.code objectInit ⟨#[0xb1]⟩ 1 none, Cond.classLink RX7 7 RX6, Cond.instantiable RX6 11, Cond.initialized RX6, Cond.fieldLink RX7 10 "ChicoryRoasters" "town" "LChicoryRoasters$Town;", Cond.fieldLink RX7 16 "ChicoryRoasters" "trial" "LChicoryRoasters$Town;", Cond.methodLink RX7 9 yX6_init, Cond.instanceMethod yX6_init, Cond.code yX6_init cX6_init 2 none, Cond.classLink RX6 9 RX0, Cond.fieldLink RX6 11 "ChicoryRoasters$Town" "beds" "[LChicoryRoasters$Bed;", Cond.classLink RX6 17 RX2, Cond.fieldLink RX6 19 "ChicoryRoasters$Town" "drums" "[LChicoryRoasters$Drum;", Cond.classLink RX6 23 RX3, Cond.fieldLink RX6 25 "ChicoryRoasters$Town" "smugglers" "[LChicoryRoasters$Smuggler;", Cond.classLink RX6 29 RX1, Cond.fieldLink RX6 31 "ChicoryRoasters$Town" "cards" "[LChicoryRoasters$Card;", Cond.classLink RX6 35 RX4, Cond.instantiable RX4 7, Cond.initialized RX4, Cond.fieldLink RX6 38 "ChicoryRoasters$Town" "store" "LChicoryRoasters$Store;", Cond.instantiable RX0 3]
def wsX7_init_r2 : List Cond := [Cond.initialized RX0, Cond.instantiable RX2 5, Cond.initialized RX2, Cond.instantiable RX3 5, Cond.initialized RX3, Cond.instantiable RX1 5, Cond.initialized RX1, Cond.instanceMethod yX5_init, Cond.initialized RX5, Cond.code yX5_init cX5_init 1 none, Cond.methodLink RX5 1 objectInit, Cond.instanceMethod yX4_init, Cond.code yX4_init cX4_init 1 none, Cond.methodLink RX4 3 objectInit, Cond.fieldLink RX4 9 "ChicoryRoasters$Store" "share" "I", Cond.instanceMethod yX0_init, Cond.code yX0_init cX0_init 1 none, Cond.instanceMethod yX2_init, Cond.code yX2_init cX2_init 1 none, Cond.fieldLink RX2 9 "ChicoryRoasters$Drum" "kind" "I", Cond.instanceMethod yX3_init, Cond.code yX3_init cX3_init 1 none, Cond.instanceMethod yX1_init, Cond.code yX1_init cX1_init 1 none]
def wsX7_init : List Cond := .code yX7_init cX7_init 1 none :: ((wsX7_init_r1 ++ wsX7_init_r2) ++ wsX60 ++ wsX70 ++ wsX40 ++ wsX00 ++ wsX20 ++ wsX30 ++ wsX10)
def wsX7_checkNumber : List Cond := .code yX7_checkNumber cX7_checkNumber 3 none :: ([.classLink RX7 182 "java/lang/IllegalArgumentException", .initialized "java/lang/IllegalArgumentException"] ++ (vx_atS RX7 186 "java/lang/IllegalArgumentException" ["java/lang/RuntimeException", "java/lang/Exception"]).filter goodWord)
def wsX7_checkState : List Cond := .code yX7_checkState cX7_checkState 1 none :: ([.classLink RX7 187 "java/lang/IllegalStateException", .initialized "java/lang/IllegalStateException"] ++ (vx_atS RX7 191 "java/lang/IllegalStateException" ["java/lang/RuntimeException", "java/lang/Exception"]).filter goodWord)
def wsX7_bed : List Cond := .code yX7_bed cX7_bed 3 (some .int) :: ([.fieldLink RX7 10 "ChicoryRoasters" "town" "LChicoryRoasters$Town;", .fieldLink RX7 23 "ChicoryRoasters$Town" "bedCount" "I", .fieldLink RX7 31 "ChicoryRoasters$Town" "beds" "[LChicoryRoasters$Bed;", .methodLink RX7 19 yX7_checkNumber, .static yX7_checkNumber, .initialized RX7, .code yX7_checkNumber cX7_checkNumber 3 none, .classLink RX7 182 "java/lang/IllegalArgumentException", .initialized "java/lang/IllegalArgumentException", .methodLink RX7 27 yX7_checkState, .static yX7_checkState, .code yX7_checkState cX7_checkState 1 none, .classLink RX7 187 "java/lang/IllegalStateException", .initialized "java/lang/IllegalStateException", .methodLink RX7 35 yX0_lay, .instanceMethod yX0_lay, .selects RX0 yX0_lay yX0_lay, .initialized RX0, .code yX0_lay cX0_lay 3 none, .fieldLink RX0 7 "ChicoryRoasters$Bed" "grows" "I", .fieldLink RX0 13 "ChicoryRoasters$Bed" "most" "I"] ++ wsX70 ++ wsX60 ++ wsX00 ++ (vx_atS RX7 186 "java/lang/IllegalArgumentException" ["java/lang/RuntimeException", "java/lang/Exception"]).filter goodWord ++ (vx_atS RX7 191 "java/lang/IllegalStateException" ["java/lang/RuntimeException", "java/lang/Exception"]).filter goodWord)
def wsX7_drum : List Cond := .code yX7_drum cX7_drum 3 (some .int) :: ([.fieldLink RX7 10 "ChicoryRoasters" "town" "LChicoryRoasters$Town;", .fieldLink RX7 41 "ChicoryRoasters$Town" "drumCount" "I", .fieldLink RX7 44 "ChicoryRoasters$Town" "drums" "[LChicoryRoasters$Drum;", .methodLink RX7 19 yX7_checkNumber, .static yX7_checkNumber, .initialized RX7, .code yX7_checkNumber cX7_checkNumber 3 none, .classLink RX7 182 "java/lang/IllegalArgumentException", .initialized "java/lang/IllegalArgumentException", .methodLink RX7 27 yX7_checkState, .static yX7_checkState, .code yX7_checkState cX7_checkState 1 none, .classLink RX7 187 "java/lang/IllegalStateException", .initialized "java/lang/IllegalStateException", .methodLink RX7 48 yX2_install, .instanceMethod yX2_install, .selects RX2 yX2_install yX2_install, .initialized RX2, .code yX2_install cX2_install 3 none, .fieldLink RX2 15 "ChicoryRoasters$Drum" "holds" "I", .fieldLink RX2 18 "ChicoryRoasters$Drum" "heat" "I"] ++ wsX70 ++ wsX60 ++ wsX20 ++ (vx_atS RX7 186 "java/lang/IllegalArgumentException" ["java/lang/RuntimeException", "java/lang/Exception"]).filter goodWord ++ (vx_atS RX7 191 "java/lang/IllegalStateException" ["java/lang/RuntimeException", "java/lang/Exception"]).filter goodWord)
def wsX7_smuggler : List Cond := .code yX7_smuggler cX7_smuggler 3 (some .int) :: ([.fieldLink RX7 10 "ChicoryRoasters" "town" "LChicoryRoasters$Town;", .fieldLink RX7 53 "ChicoryRoasters$Town" "smugglerCount" "I", .fieldLink RX7 56 "ChicoryRoasters$Town" "smugglers" "[LChicoryRoasters$Smuggler;", .methodLink RX7 19 yX7_checkNumber, .static yX7_checkNumber, .initialized RX7, .code yX7_checkNumber cX7_checkNumber 3 none, .classLink RX7 182 "java/lang/IllegalArgumentException", .initialized "java/lang/IllegalArgumentException", .methodLink RX7 27 yX7_checkState, .static yX7_checkState, .code yX7_checkState cX7_checkState 1 none, .classLink RX7 187 "java/lang/IllegalStateException", .initialized "java/lang/IllegalStateException", .methodLink RX7 60 yX3_hire, .instanceMethod yX3_hire, .selects RX3 yX3_hire yX3_hire, .initialized RX3, .code yX3_hire cX3_hire 3 none, .fieldLink RX3 9 "ChicoryRoasters$Smuggler" "way" "I", .fieldLink RX3 15 "ChicoryRoasters$Smuggler" "cargo" "I"] ++ wsX70 ++ wsX60 ++ wsX30 ++ (vx_atS RX7 186 "java/lang/IllegalArgumentException" ["java/lang/RuntimeException", "java/lang/Exception"]).filter goodWord ++ (vx_atS RX7 191 "java/lang/IllegalStateException" ["java/lang/RuntimeException", "java/lang/Exception"]).filter goodWord)
def wsX7_card : List Cond := .code yX7_card cX7_card 3 (some .int) :: ([.fieldLink RX7 10 "ChicoryRoasters" "town" "LChicoryRoasters$Town;", .fieldLink RX7 65 "ChicoryRoasters$Town" "cardCount" "I", .fieldLink RX7 68 "ChicoryRoasters$Town" "cards" "[LChicoryRoasters$Card;", .methodLink RX7 19 yX7_checkNumber, .static yX7_checkNumber, .initialized RX7, .code yX7_checkNumber cX7_checkNumber 3 none, .classLink RX7 182 "java/lang/IllegalArgumentException", .initialized "java/lang/IllegalArgumentException", .methodLink RX7 27 yX7_checkState, .static yX7_checkState, .code yX7_checkState cX7_checkState 1 none, .classLink RX7 187 "java/lang/IllegalStateException", .initialized "java/lang/IllegalStateException", .methodLink RX7 72 yX1_issue, .instanceMethod yX1_issue, .selects RX1 yX1_issue yX1_issue, .initialized RX1, .code yX1_issue cX1_issue 3 none, .fieldLink RX1 9 "ChicoryRoasters$Card" "allotted" "I", .fieldLink RX1 15 "ChicoryRoasters$Card" "picky" "I", .fieldLink RX1 18 "ChicoryRoasters$Card" "left" "I"] ++ wsX70 ++ wsX60 ++ wsX10 ++ (vx_atS RX7 186 "java/lang/IllegalArgumentException" ["java/lang/RuntimeException", "java/lang/Exception"]).filter goodWord ++ (vx_atS RX7 191 "java/lang/IllegalStateException" ["java/lang/RuntimeException", "java/lang/Exception"]).filter goodWord)
def wsX7_setPatrol : List Cond := .code yX7_setPatrol cX7_setPatrol 3 (some .int) :: ([.fieldLink RX7 10 "ChicoryRoasters" "town" "LChicoryRoasters$Town;", .fieldLink RX7 77 "ChicoryRoasters$Town" "patrol" "I", .methodLink RX7 19 yX7_checkNumber, .static yX7_checkNumber, .initialized RX7, .code yX7_checkNumber cX7_checkNumber 3 none, .classLink RX7 182 "java/lang/IllegalArgumentException", .initialized "java/lang/IllegalArgumentException"] ++ wsX70 ++ wsX60 ++ (vx_atS RX7 186 "java/lang/IllegalArgumentException" ["java/lang/RuntimeException", "java/lang/Exception"]).filter goodWord)
def wsX7_setShare : List Cond := .code yX7_setShare cX7_setShare 3 (some .int) :: ([.fieldLink RX7 10 "ChicoryRoasters" "town" "LChicoryRoasters$Town;", .fieldLink RX7 80 "ChicoryRoasters$Town" "store" "LChicoryRoasters$Store;", .fieldLink RX7 84 "ChicoryRoasters$Store" "share" "I", .methodLink RX7 19 yX7_checkNumber, .static yX7_checkNumber, .initialized RX7, .code yX7_checkNumber cX7_checkNumber 3 none, .classLink RX7 182 "java/lang/IllegalArgumentException", .initialized "java/lang/IllegalArgumentException"] ++ wsX70 ++ wsX60 ++ wsX40 ++ (vx_atS RX7 186 "java/lang/IllegalArgumentException" ["java/lang/RuntimeException", "java/lang/Exception"]).filter goodWord)
def wsX7_checkIndex : List Cond := .code yX7_checkIndex cX7_checkIndex 2 none :: ([.classLink RX7 139 "java/lang/IndexOutOfBoundsException", .initialized "java/lang/IndexOutOfBoundsException"] ++ (vx_atS RX7 143 "java/lang/IndexOutOfBoundsException" ["java/lang/RuntimeException", "java/lang/Exception"]).filter goodWord)
def wsX7_setHeat : List Cond := .code yX7_setHeat cX7_setHeat 4 (some .int) :: ([.fieldLink RX7 10 "ChicoryRoasters" "town" "LChicoryRoasters$Town;", .fieldLink RX7 41 "ChicoryRoasters$Town" "drumCount" "I", .fieldLink RX7 44 "ChicoryRoasters$Town" "drums" "[LChicoryRoasters$Drum;", .fieldLink RX7 92 "ChicoryRoasters$Drum" "heat" "I", .methodLink RX7 89 yX7_checkIndex, .static yX7_checkIndex, .initialized RX7, .code yX7_checkIndex cX7_checkIndex 2 none, .classLink RX7 139 "java/lang/IndexOutOfBoundsException", .initialized "java/lang/IndexOutOfBoundsException", .methodLink RX7 19 yX7_checkNumber, .static yX7_checkNumber, .code yX7_checkNumber cX7_checkNumber 3 none, .classLink RX7 182 "java/lang/IllegalArgumentException", .initialized "java/lang/IllegalArgumentException"] ++ wsX70 ++ wsX60 ++ wsX20 ++ (vx_atS RX7 143 "java/lang/IndexOutOfBoundsException" ["java/lang/RuntimeException", "java/lang/Exception"]).filter goodWord ++ (vx_atS RX7 186 "java/lang/IllegalArgumentException" ["java/lang/RuntimeException", "java/lang/Exception"]).filter goodWord)
def wsX7_dig_r1 : List Cond := [Cond.fieldLink RX7 10 "ChicoryRoasters" "town" "LChicoryRoasters$Town;", Cond.fieldLink RX7 23 "ChicoryRoasters$Town" "bedCount" "I", Cond.fieldLink RX7 31 "ChicoryRoasters$Town" "beds" "[LChicoryRoasters$Bed;", Cond.fieldLink RX7 95 "ChicoryRoasters$Bed" "roots" "I", Cond.fieldLink RX7 80 "ChicoryRoasters$Town" "store" "LChicoryRoasters$Store;", Cond.methodLink RX7 89 yX7_checkIndex, Cond.static yX7_checkIndex, Cond.initialized RX7, Cond.code yX7_checkIndex cX7_checkIndex 2 none, Cond.classLink RX7 139 "java/lang/IndexOutOfBoundsException", Cond.initialized "java/lang/IndexOutOfBoundsException", Cond.methodLink RX7 19 yX7_checkNumber, Cond.static yX7_checkNumber, Cond.code yX7_checkNumber cX7_checkNumber 3 none, Cond.classLink RX7 182 "java/lang/IllegalArgumentException", Cond.initialized "java/lang/IllegalArgumentException", Cond.methodLink RX7 27 yX7_checkState, Cond.static yX7_checkState, Cond.code yX7_checkState cX7_checkState 1 none, Cond.classLink RX7 187 "java/lang/IllegalStateException", Cond.initialized "java/lang/IllegalStateException", Cond.methodLink RX7 98 yX4_add, Cond.instanceMethod yX4_add, Cond.selects RX4 yX4_add yX4_add]
def wsX7_dig_r2 : List Cond := [Cond.initialized RX4, Cond.code yX4_add cX4_add 3 none, Cond.fieldLink RX4 15 "ChicoryRoasters$Store" "roots" "I", Cond.fieldLink RX4 18 "ChicoryRoasters$Store" "beans" "I"]
def wsX7_dig : List Cond := .code yX7_dig cX7_dig 3 (some .int) :: ((wsX7_dig_r1 ++ wsX7_dig_r2) ++ wsX70 ++ wsX60 ++ wsX00 ++ wsX40 ++ (vx_atS RX7 143 "java/lang/IndexOutOfBoundsException" ["java/lang/RuntimeException", "java/lang/Exception"]).filter goodWord ++ (vx_atS RX7 186 "java/lang/IllegalArgumentException" ["java/lang/RuntimeException", "java/lang/Exception"]).filter goodWord ++ (vx_atS RX7 191 "java/lang/IllegalStateException" ["java/lang/RuntimeException", "java/lang/Exception"]).filter goodWord)
def wsX7_give : List Cond := .code yX7_give cX7_give 3 (some .int) :: ([.fieldLink RX7 10 "ChicoryRoasters" "town" "LChicoryRoasters$Town;", .fieldLink RX7 80 "ChicoryRoasters$Town" "store" "LChicoryRoasters$Store;", .methodLink RX7 89 yX7_checkIndex, .static yX7_checkIndex, .initialized RX7, .code yX7_checkIndex cX7_checkIndex 2 none, .classLink RX7 139 "java/lang/IndexOutOfBoundsException", .initialized "java/lang/IndexOutOfBoundsException", .methodLink RX7 19 yX7_checkNumber, .static yX7_checkNumber, .code yX7_checkNumber cX7_checkNumber 3 none, .classLink RX7 182 "java/lang/IllegalArgumentException", .initialized "java/lang/IllegalArgumentException", .methodLink RX7 98 yX4_add, .instanceMethod yX4_add, .selects RX4 yX4_add yX4_add, .initialized RX4, .code yX4_add cX4_add 3 none, .fieldLink RX4 15 "ChicoryRoasters$Store" "roots" "I", .fieldLink RX4 18 "ChicoryRoasters$Store" "beans" "I", .methodLink RX7 101 yX4_stock, .instanceMethod yX4_stock, .selects RX4 yX4_stock yX4_stock, .code yX4_stock cX4_stock 2 (some .int)] ++ wsX70 ++ wsX60 ++ wsX40 ++ (vx_atS RX7 143 "java/lang/IndexOutOfBoundsException" ["java/lang/RuntimeException", "java/lang/Exception"]).filter goodWord ++ (vx_atS RX7 186 "java/lang/IllegalArgumentException" ["java/lang/RuntimeException", "java/lang/Exception"]).filter goodWord)
def wsX7_load_r1 : List Cond := [Cond.fieldLink RX7 10 "ChicoryRoasters" "town" "LChicoryRoasters$Town;", Cond.fieldLink RX7 41 "ChicoryRoasters$Town" "drumCount" "I", Cond.fieldLink RX7 44 "ChicoryRoasters$Town" "drums" "[LChicoryRoasters$Drum;", Cond.fieldLink RX7 105 "ChicoryRoasters$Drum" "holds" "I", Cond.fieldLink RX7 108 "ChicoryRoasters$Drum" "kind" "I", Cond.fieldLink RX7 80 "ChicoryRoasters$Town" "store" "LChicoryRoasters$Store;", Cond.methodLink RX7 89 yX7_checkIndex, Cond.static yX7_checkIndex, Cond.initialized RX7, Cond.code yX7_checkIndex cX7_checkIndex 2 none, Cond.classLink RX7 139 "java/lang/IndexOutOfBoundsException", Cond.initialized "java/lang/IndexOutOfBoundsException", Cond.methodLink RX7 19 yX7_checkNumber, Cond.static yX7_checkNumber, Cond.code yX7_checkNumber cX7_checkNumber 3 none, Cond.classLink RX7 182 "java/lang/IllegalArgumentException", Cond.initialized "java/lang/IllegalArgumentException", Cond.methodLink RX7 27 yX7_checkState, Cond.static yX7_checkState, Cond.code yX7_checkState cX7_checkState 1 none, Cond.classLink RX7 187 "java/lang/IllegalStateException", Cond.initialized "java/lang/IllegalStateException", Cond.methodLink RX7 101 yX4_stock, Cond.instanceMethod yX4_stock]
def wsX7_load_r2 : List Cond := [Cond.selects RX4 yX4_stock yX4_stock, Cond.initialized RX4, Cond.code yX4_stock cX4_stock 2 (some .int), Cond.fieldLink RX4 15 "ChicoryRoasters$Store" "roots" "I", Cond.fieldLink RX4 18 "ChicoryRoasters$Store" "beans" "I", Cond.methodLink RX7 98 yX4_add, Cond.instanceMethod yX4_add, Cond.selects RX4 yX4_add yX4_add, Cond.code yX4_add cX4_add 3 none, Cond.methodLink RX7 111 yX2_fill, Cond.instanceMethod yX2_fill, Cond.selects RX2 yX2_fill yX2_fill, Cond.initialized RX2, Cond.code yX2_fill cX2_fill 3 none, Cond.fieldLink RX2 9 "ChicoryRoasters$Drum" "kind" "I", Cond.fieldLink RX2 21 "ChicoryRoasters$Drum" "much" "I", Cond.fieldLink RX2 24 "ChicoryRoasters$Drum" "level" "I"]
def wsX7_load : List Cond := .code yX7_load cX7_load 4 (some .int) :: ((wsX7_load_r1 ++ wsX7_load_r2) ++ wsX70 ++ wsX60 ++ wsX20 ++ wsX40 ++ (vx_atS RX7 143 "java/lang/IndexOutOfBoundsException" ["java/lang/RuntimeException", "java/lang/Exception"]).filter goodWord ++ (vx_atS RX7 186 "java/lang/IllegalArgumentException" ["java/lang/RuntimeException", "java/lang/Exception"]).filter goodWord ++ (vx_atS RX7 191 "java/lang/IllegalStateException" ["java/lang/RuntimeException", "java/lang/Exception"]).filter goodWord)
def wsX7_take_r1 : List Cond := [Cond.fieldLink RX7 10 "ChicoryRoasters" "town" "LChicoryRoasters$Town;", Cond.fieldLink RX7 41 "ChicoryRoasters$Town" "drumCount" "I", Cond.fieldLink RX7 44 "ChicoryRoasters$Town" "drums" "[LChicoryRoasters$Drum;", Cond.fieldLink RX7 108 "ChicoryRoasters$Drum" "kind" "I", Cond.fieldLink RX7 114 "ChicoryRoasters$Drum" "level" "I", Cond.fieldLink RX7 80 "ChicoryRoasters$Town" "store" "LChicoryRoasters$Store;", Cond.methodLink RX7 89 yX7_checkIndex, Cond.static yX7_checkIndex, Cond.initialized RX7, Cond.code yX7_checkIndex cX7_checkIndex 2 none, Cond.classLink RX7 139 "java/lang/IndexOutOfBoundsException", Cond.initialized "java/lang/IndexOutOfBoundsException", Cond.methodLink RX7 27 yX7_checkState, Cond.static yX7_checkState, Cond.code yX7_checkState cX7_checkState 1 none, Cond.classLink RX7 187 "java/lang/IllegalStateException", Cond.initialized "java/lang/IllegalStateException", Cond.methodLink RX7 117 yX2_partsAt, Cond.instanceMethod yX2_partsAt, Cond.selects RX2 yX2_partsAt yX2_partsAt, Cond.initialized RX2, Cond.code yX2_partsAt cX2_partsAt 3 (some .int), Cond.fieldLink RX2 9 "ChicoryRoasters$Drum" "kind" "I", Cond.fieldLink RX2 21 "ChicoryRoasters$Drum" "much" "I"]
def wsX7_take_r2 : List Cond := [Cond.methodLink RX2 41 yX2_done, Cond.instanceMethod yX2_done, Cond.selects RX2 yX2_done yX2_done, Cond.code yX2_done cX2_done 1 (some .int), Cond.methodLink RX2 31 yX2_burnt, Cond.instanceMethod yX2_burnt, Cond.selects RX2 yX2_burnt yX2_burnt, Cond.code yX2_burnt cX2_burnt 1 (some .int), Cond.methodLink RX7 120 yX4_addRoasted, Cond.instanceMethod yX4_addRoasted, Cond.selects RX4 yX4_addRoasted yX4_addRoasted, Cond.initialized RX4, Cond.code yX4_addRoasted cX4_addRoasted 3 none, Cond.fieldLink RX4 21 "ChicoryRoasters$Store" "chicory" "I", Cond.fieldLink RX4 24 "ChicoryRoasters$Store" "coffee" "I", Cond.methodLink RX7 111 yX2_fill, Cond.instanceMethod yX2_fill, Cond.selects RX2 yX2_fill yX2_fill, Cond.code yX2_fill cX2_fill 3 none, Cond.fieldLink RX2 24 "ChicoryRoasters$Drum" "level" "I"]
def wsX7_take : List Cond := .code yX7_take cX7_take 4 (some .int) :: ((wsX7_take_r1 ++ wsX7_take_r2) ++ wsX70 ++ wsX60 ++ wsX20 ++ wsX40 ++ (vx_atS RX7 143 "java/lang/IndexOutOfBoundsException" ["java/lang/RuntimeException", "java/lang/Exception"]).filter goodWord ++ (vx_atS RX7 191 "java/lang/IllegalStateException" ["java/lang/RuntimeException", "java/lang/Exception"]).filter goodWord)
def wsX7_send : List Cond := .code yX7_send cX7_send 2 (some .int) :: ([.fieldLink RX7 10 "ChicoryRoasters" "town" "LChicoryRoasters$Town;", .fieldLink RX7 53 "ChicoryRoasters$Town" "smugglerCount" "I", .fieldLink RX7 56 "ChicoryRoasters$Town" "smugglers" "[LChicoryRoasters$Smuggler;", .fieldLink RX7 123 "ChicoryRoasters$Smuggler" "where" "I", .fieldLink RX7 129 "ChicoryRoasters$Smuggler" "left" "I", .methodLink RX7 89 yX7_checkIndex, .static yX7_checkIndex, .initialized RX7, .code yX7_checkIndex cX7_checkIndex 2 none, .classLink RX7 139 "java/lang/IndexOutOfBoundsException", .initialized "java/lang/IndexOutOfBoundsException", .methodLink RX7 27 yX7_checkState, .static yX7_checkState, .code yX7_checkState cX7_checkState 1 none, .classLink RX7 187 "java/lang/IllegalStateException", .initialized "java/lang/IllegalStateException", .methodLink RX7 126 yX3_setOut, .instanceMethod yX3_setOut, .selects RX3 yX3_setOut yX3_setOut, .initialized RX3, .code yX3_setOut cX3_setOut 1 none, .fieldLink RX3 18 "ChicoryRoasters$Smuggler" "where" "I", .fieldLink RX3 9 "ChicoryRoasters$Smuggler" "way" "I", .fieldLink RX3 21 "ChicoryRoasters$Smuggler" "left" "I"] ++ wsX70 ++ wsX60 ++ wsX30 ++ (vx_atS RX7 143 "java/lang/IndexOutOfBoundsException" ["java/lang/RuntimeException", "java/lang/Exception"]).filter goodWord ++ (vx_atS RX7 191 "java/lang/IllegalStateException" ["java/lang/RuntimeException", "java/lang/Exception"]).filter goodWord)
def wsX7_ask_r1 : List Cond := [Cond.methodLink RX7 192 ⟨"ChicoryRoasters$Teller", "size", "()I"⟩, Cond.sameMethod "ChicoryRoasters$Teller" "ChicoryRoasters$Teller" "size" "()I", Cond.selects RX0 ⟨"ChicoryRoasters$Teller", "size", "()I"⟩ yX0_size, Cond.instanceMethod yX0_size, Cond.initialized RX0, Cond.code yX0_size cX0_size 1 (some .int), Cond.selects RX1 ⟨"ChicoryRoasters$Teller", "size", "()I"⟩ yX1_size, Cond.instanceMethod yX1_size, Cond.initialized RX1, Cond.code yX1_size cX1_size 1 (some .int), Cond.selects RX2 ⟨"ChicoryRoasters$Teller", "size", "()I"⟩ yX2_size, Cond.instanceMethod yX2_size, Cond.initialized RX2, Cond.code yX2_size cX2_size 1 (some .int), Cond.selects RX3 ⟨"ChicoryRoasters$Teller", "size", "()I"⟩ yX3_size, Cond.instanceMethod yX3_size, Cond.initialized RX3, Cond.code yX3_size cX3_size 1 (some .int), Cond.selects RX6 ⟨"ChicoryRoasters$Teller", "size", "()I"⟩ yX6_size, Cond.instanceMethod yX6_size, Cond.initialized RX6, Cond.code yX6_size cX6_size 1 (some .int), Cond.methodLink RX7 89 yX7_checkIndex, Cond.static yX7_checkIndex]
def wsX7_ask_r2 : List Cond := [Cond.initialized RX7, Cond.code yX7_checkIndex cX7_checkIndex 2 none, Cond.classLink RX7 139 "java/lang/IndexOutOfBoundsException", Cond.initialized "java/lang/IndexOutOfBoundsException", Cond.methodLink RX7 197 ⟨"ChicoryRoasters$Teller", "tell", "(I)I"⟩, Cond.sameMethod "ChicoryRoasters$Teller" "ChicoryRoasters$Teller" "tell" "(I)I", Cond.selects RX0 ⟨"ChicoryRoasters$Teller", "tell", "(I)I"⟩ yX0_tell, Cond.instanceMethod yX0_tell, Cond.code yX0_tell cX0_tell 2 (some .int), Cond.fieldLink RX0 7 "ChicoryRoasters$Bed" "grows" "I", Cond.fieldLink RX0 13 "ChicoryRoasters$Bed" "most" "I", Cond.fieldLink RX0 16 "ChicoryRoasters$Bed" "roots" "I", Cond.selects RX1 ⟨"ChicoryRoasters$Teller", "tell", "(I)I"⟩ yX1_tell, Cond.instanceMethod yX1_tell, Cond.code yX1_tell cX1_tell 2 (some .int), Cond.fieldLink RX1 9 "ChicoryRoasters$Card" "allotted" "I", Cond.fieldLink RX1 15 "ChicoryRoasters$Card" "picky" "I", Cond.fieldLink RX1 18 "ChicoryRoasters$Card" "left" "I", Cond.fieldLink RX1 42 "ChicoryRoasters$Card" "served" "I", Cond.fieldLink RX1 35 "ChicoryRoasters$Card" "refused" "I", Cond.selects RX2 ⟨"ChicoryRoasters$Teller", "tell", "(I)I"⟩ yX2_tell, Cond.instanceMethod yX2_tell, Cond.code yX2_tell cX2_tell 2 (some .int), Cond.fieldLink RX2 15 "ChicoryRoasters$Drum" "holds" "I"]
def wsX7_ask_r3 : List Cond := [Cond.fieldLink RX2 18 "ChicoryRoasters$Drum" "heat" "I", Cond.fieldLink RX2 9 "ChicoryRoasters$Drum" "kind" "I", Cond.fieldLink RX2 21 "ChicoryRoasters$Drum" "much" "I", Cond.fieldLink RX2 24 "ChicoryRoasters$Drum" "level" "I", Cond.methodLink RX2 44 yX2_partsAt, Cond.instanceMethod yX2_partsAt, Cond.selects RX2 yX2_partsAt yX2_partsAt, Cond.code yX2_partsAt cX2_partsAt 3 (some .int), Cond.methodLink RX2 41 yX2_done, Cond.instanceMethod yX2_done, Cond.selects RX2 yX2_done yX2_done, Cond.code yX2_done cX2_done 1 (some .int), Cond.methodLink RX2 31 yX2_burnt, Cond.instanceMethod yX2_burnt, Cond.selects RX2 yX2_burnt yX2_burnt, Cond.code yX2_burnt cX2_burnt 1 (some .int), Cond.selects RX3 ⟨"ChicoryRoasters$Teller", "tell", "(I)I"⟩ yX3_tell, Cond.instanceMethod yX3_tell, Cond.code yX3_tell cX3_tell 2 (some .int), Cond.fieldLink RX3 9 "ChicoryRoasters$Smuggler" "way" "I", Cond.fieldLink RX3 15 "ChicoryRoasters$Smuggler" "cargo" "I", Cond.fieldLink RX3 18 "ChicoryRoasters$Smuggler" "where" "I", Cond.fieldLink RX3 21 "ChicoryRoasters$Smuggler" "left" "I", Cond.fieldLink RX3 24 "ChicoryRoasters$Smuggler" "arrests" "I"]
def wsX7_ask_r4 : List Cond := [Cond.selects RX6 ⟨"ChicoryRoasters$Teller", "tell", "(I)I"⟩ yX6_tell, Cond.instanceMethod yX6_tell, Cond.code yX6_tell cX6_tell 2 (some .int), Cond.fieldLink RX6 63 "ChicoryRoasters$Town" "day" "I", Cond.fieldLink RX6 38 "ChicoryRoasters$Town" "store" "LChicoryRoasters$Store;", Cond.fieldLink RX6 114 "ChicoryRoasters$Store" "roots" "I", Cond.fieldLink RX6 117 "ChicoryRoasters$Store" "beans" "I", Cond.fieldLink RX6 120 "ChicoryRoasters$Store" "chicory" "I", Cond.fieldLink RX6 123 "ChicoryRoasters$Store" "coffee" "I", Cond.fieldLink RX6 126 "ChicoryRoasters$Store" "served" "I", Cond.fieldLink RX6 129 "ChicoryRoasters$Store" "thinned" "I", Cond.fieldLink RX6 132 "ChicoryRoasters$Store" "share" "I", Cond.fieldLink RX6 46 "ChicoryRoasters$Town" "patrol" "I"]
def wsX7_ask : List Cond := .code yX7_ask cX7_ask 2 (some .int) :: ((wsX7_ask_r1 ++ (wsX7_ask_r2 ++ (wsX7_ask_r3 ++ wsX7_ask_r4))) ++ wsX00 ++ wsX10 ++ wsX20 ++ wsX30 ++ wsX60 ++ wsX40 ++ (vx_atS RX7 143 "java/lang/IndexOutOfBoundsException" ["java/lang/RuntimeException", "java/lang/Exception"]).filter goodWord)
def wsX7_about_r1 : List Cond := [Cond.fieldLink RX7 10 "ChicoryRoasters" "town" "LChicoryRoasters$Town;", Cond.fieldLink RX7 23 "ChicoryRoasters$Town" "bedCount" "I", Cond.fieldLink RX7 31 "ChicoryRoasters$Town" "beds" "[LChicoryRoasters$Bed;", Cond.methodLink RX7 89 yX7_checkIndex, Cond.static yX7_checkIndex, Cond.initialized RX7, Cond.code yX7_checkIndex cX7_checkIndex 2 none, Cond.classLink RX7 139 "java/lang/IndexOutOfBoundsException", Cond.initialized "java/lang/IndexOutOfBoundsException", Cond.methodLink RX7 132 yX7_ask, Cond.static yX7_ask, Cond.code yX7_ask cX7_ask 2 (some .int), Cond.methodLink RX7 192 ⟨"ChicoryRoasters$Teller", "size", "()I"⟩, Cond.sameMethod "ChicoryRoasters$Teller" "ChicoryRoasters$Teller" "size" "()I", Cond.selects RX0 ⟨"ChicoryRoasters$Teller", "size", "()I"⟩ yX0_size, Cond.instanceMethod yX0_size, Cond.initialized RX0, Cond.code yX0_size cX0_size 1 (some .int), Cond.selects RX1 ⟨"ChicoryRoasters$Teller", "size", "()I"⟩ yX1_size, Cond.instanceMethod yX1_size, Cond.initialized RX1, Cond.code yX1_size cX1_size 1 (some .int), Cond.selects RX2 ⟨"ChicoryRoasters$Teller", "size", "()I"⟩ yX2_size, Cond.instanceMethod yX2_size]
def wsX7_about_r2 : List Cond := [Cond.initialized RX2, Cond.code yX2_size cX2_size 1 (some .int), Cond.selects RX3 ⟨"ChicoryRoasters$Teller", "size", "()I"⟩ yX3_size, Cond.instanceMethod yX3_size, Cond.initialized RX3, Cond.code yX3_size cX3_size 1 (some .int), Cond.selects RX6 ⟨"ChicoryRoasters$Teller", "size", "()I"⟩ yX6_size, Cond.instanceMethod yX6_size, Cond.initialized RX6, Cond.code yX6_size cX6_size 1 (some .int), Cond.methodLink RX7 197 ⟨"ChicoryRoasters$Teller", "tell", "(I)I"⟩, Cond.sameMethod "ChicoryRoasters$Teller" "ChicoryRoasters$Teller" "tell" "(I)I", Cond.selects RX0 ⟨"ChicoryRoasters$Teller", "tell", "(I)I"⟩ yX0_tell, Cond.instanceMethod yX0_tell, Cond.code yX0_tell cX0_tell 2 (some .int), Cond.fieldLink RX0 7 "ChicoryRoasters$Bed" "grows" "I", Cond.fieldLink RX0 13 "ChicoryRoasters$Bed" "most" "I", Cond.fieldLink RX0 16 "ChicoryRoasters$Bed" "roots" "I", Cond.selects RX1 ⟨"ChicoryRoasters$Teller", "tell", "(I)I"⟩ yX1_tell, Cond.instanceMethod yX1_tell, Cond.code yX1_tell cX1_tell 2 (some .int), Cond.fieldLink RX1 9 "ChicoryRoasters$Card" "allotted" "I", Cond.fieldLink RX1 15 "ChicoryRoasters$Card" "picky" "I", Cond.fieldLink RX1 18 "ChicoryRoasters$Card" "left" "I"]
def wsX7_about_r3 : List Cond := [Cond.fieldLink RX1 42 "ChicoryRoasters$Card" "served" "I", Cond.fieldLink RX1 35 "ChicoryRoasters$Card" "refused" "I", Cond.selects RX2 ⟨"ChicoryRoasters$Teller", "tell", "(I)I"⟩ yX2_tell, Cond.instanceMethod yX2_tell, Cond.code yX2_tell cX2_tell 2 (some .int), Cond.fieldLink RX2 15 "ChicoryRoasters$Drum" "holds" "I", Cond.fieldLink RX2 18 "ChicoryRoasters$Drum" "heat" "I", Cond.fieldLink RX2 9 "ChicoryRoasters$Drum" "kind" "I", Cond.fieldLink RX2 21 "ChicoryRoasters$Drum" "much" "I", Cond.fieldLink RX2 24 "ChicoryRoasters$Drum" "level" "I", Cond.methodLink RX2 44 yX2_partsAt, Cond.instanceMethod yX2_partsAt, Cond.selects RX2 yX2_partsAt yX2_partsAt, Cond.code yX2_partsAt cX2_partsAt 3 (some .int), Cond.methodLink RX2 41 yX2_done, Cond.instanceMethod yX2_done, Cond.selects RX2 yX2_done yX2_done, Cond.code yX2_done cX2_done 1 (some .int), Cond.methodLink RX2 31 yX2_burnt, Cond.instanceMethod yX2_burnt, Cond.selects RX2 yX2_burnt yX2_burnt, Cond.code yX2_burnt cX2_burnt 1 (some .int), Cond.selects RX3 ⟨"ChicoryRoasters$Teller", "tell", "(I)I"⟩ yX3_tell, Cond.instanceMethod yX3_tell]
def wsX7_about_r4 : List Cond := [Cond.code yX3_tell cX3_tell 2 (some .int), Cond.fieldLink RX3 9 "ChicoryRoasters$Smuggler" "way" "I", Cond.fieldLink RX3 15 "ChicoryRoasters$Smuggler" "cargo" "I", Cond.fieldLink RX3 18 "ChicoryRoasters$Smuggler" "where" "I", Cond.fieldLink RX3 21 "ChicoryRoasters$Smuggler" "left" "I", Cond.fieldLink RX3 24 "ChicoryRoasters$Smuggler" "arrests" "I", Cond.selects RX6 ⟨"ChicoryRoasters$Teller", "tell", "(I)I"⟩ yX6_tell, Cond.instanceMethod yX6_tell, Cond.code yX6_tell cX6_tell 2 (some .int), Cond.fieldLink RX6 63 "ChicoryRoasters$Town" "day" "I", Cond.fieldLink RX6 38 "ChicoryRoasters$Town" "store" "LChicoryRoasters$Store;", Cond.fieldLink RX6 114 "ChicoryRoasters$Store" "roots" "I", Cond.fieldLink RX6 117 "ChicoryRoasters$Store" "beans" "I", Cond.fieldLink RX6 120 "ChicoryRoasters$Store" "chicory" "I", Cond.fieldLink RX6 123 "ChicoryRoasters$Store" "coffee" "I", Cond.fieldLink RX6 126 "ChicoryRoasters$Store" "served" "I", Cond.fieldLink RX6 129 "ChicoryRoasters$Store" "thinned" "I", Cond.fieldLink RX6 132 "ChicoryRoasters$Store" "share" "I", Cond.fieldLink RX6 46 "ChicoryRoasters$Town" "patrol" "I"]
def wsX7_about : List Cond := .code yX7_about cX7_about 3 (some .int) :: ((wsX7_about_r1 ++ (wsX7_about_r2 ++ (wsX7_about_r3 ++ wsX7_about_r4))) ++ wsX70 ++ wsX60 ++ wsX00 ++ wsX10 ++ wsX20 ++ wsX30 ++ wsX40 ++ (vx_atS RX7 143 "java/lang/IndexOutOfBoundsException" ["java/lang/RuntimeException", "java/lang/Exception"]).filter goodWord)
def wsX7_roast_r1 : List Cond := [Cond.fieldLink RX7 10 "ChicoryRoasters" "town" "LChicoryRoasters$Town;", Cond.fieldLink RX7 41 "ChicoryRoasters$Town" "drumCount" "I", Cond.fieldLink RX7 44 "ChicoryRoasters$Town" "drums" "[LChicoryRoasters$Drum;", Cond.methodLink RX7 89 yX7_checkIndex, Cond.static yX7_checkIndex, Cond.initialized RX7, Cond.code yX7_checkIndex cX7_checkIndex 2 none, Cond.classLink RX7 139 "java/lang/IndexOutOfBoundsException", Cond.initialized "java/lang/IndexOutOfBoundsException", Cond.methodLink RX7 132 yX7_ask, Cond.static yX7_ask, Cond.code yX7_ask cX7_ask 2 (some .int), Cond.methodLink RX7 192 ⟨"ChicoryRoasters$Teller", "size", "()I"⟩, Cond.sameMethod "ChicoryRoasters$Teller" "ChicoryRoasters$Teller" "size" "()I", Cond.selects RX0 ⟨"ChicoryRoasters$Teller", "size", "()I"⟩ yX0_size, Cond.instanceMethod yX0_size, Cond.initialized RX0, Cond.code yX0_size cX0_size 1 (some .int), Cond.selects RX1 ⟨"ChicoryRoasters$Teller", "size", "()I"⟩ yX1_size, Cond.instanceMethod yX1_size, Cond.initialized RX1, Cond.code yX1_size cX1_size 1 (some .int), Cond.selects RX2 ⟨"ChicoryRoasters$Teller", "size", "()I"⟩ yX2_size, Cond.instanceMethod yX2_size]
def wsX7_roast_r2 : List Cond := [Cond.initialized RX2, Cond.code yX2_size cX2_size 1 (some .int), Cond.selects RX3 ⟨"ChicoryRoasters$Teller", "size", "()I"⟩ yX3_size, Cond.instanceMethod yX3_size, Cond.initialized RX3, Cond.code yX3_size cX3_size 1 (some .int), Cond.selects RX6 ⟨"ChicoryRoasters$Teller", "size", "()I"⟩ yX6_size, Cond.instanceMethod yX6_size, Cond.initialized RX6, Cond.code yX6_size cX6_size 1 (some .int), Cond.methodLink RX7 197 ⟨"ChicoryRoasters$Teller", "tell", "(I)I"⟩, Cond.sameMethod "ChicoryRoasters$Teller" "ChicoryRoasters$Teller" "tell" "(I)I", Cond.selects RX0 ⟨"ChicoryRoasters$Teller", "tell", "(I)I"⟩ yX0_tell, Cond.instanceMethod yX0_tell, Cond.code yX0_tell cX0_tell 2 (some .int), Cond.fieldLink RX0 7 "ChicoryRoasters$Bed" "grows" "I", Cond.fieldLink RX0 13 "ChicoryRoasters$Bed" "most" "I", Cond.fieldLink RX0 16 "ChicoryRoasters$Bed" "roots" "I", Cond.selects RX1 ⟨"ChicoryRoasters$Teller", "tell", "(I)I"⟩ yX1_tell, Cond.instanceMethod yX1_tell, Cond.code yX1_tell cX1_tell 2 (some .int), Cond.fieldLink RX1 9 "ChicoryRoasters$Card" "allotted" "I", Cond.fieldLink RX1 15 "ChicoryRoasters$Card" "picky" "I", Cond.fieldLink RX1 18 "ChicoryRoasters$Card" "left" "I"]
def wsX7_roast_r3 : List Cond := [Cond.fieldLink RX1 42 "ChicoryRoasters$Card" "served" "I", Cond.fieldLink RX1 35 "ChicoryRoasters$Card" "refused" "I", Cond.selects RX2 ⟨"ChicoryRoasters$Teller", "tell", "(I)I"⟩ yX2_tell, Cond.instanceMethod yX2_tell, Cond.code yX2_tell cX2_tell 2 (some .int), Cond.fieldLink RX2 15 "ChicoryRoasters$Drum" "holds" "I", Cond.fieldLink RX2 18 "ChicoryRoasters$Drum" "heat" "I", Cond.fieldLink RX2 9 "ChicoryRoasters$Drum" "kind" "I", Cond.fieldLink RX2 21 "ChicoryRoasters$Drum" "much" "I", Cond.fieldLink RX2 24 "ChicoryRoasters$Drum" "level" "I", Cond.methodLink RX2 44 yX2_partsAt, Cond.instanceMethod yX2_partsAt, Cond.selects RX2 yX2_partsAt yX2_partsAt, Cond.code yX2_partsAt cX2_partsAt 3 (some .int), Cond.methodLink RX2 41 yX2_done, Cond.instanceMethod yX2_done, Cond.selects RX2 yX2_done yX2_done, Cond.code yX2_done cX2_done 1 (some .int), Cond.methodLink RX2 31 yX2_burnt, Cond.instanceMethod yX2_burnt, Cond.selects RX2 yX2_burnt yX2_burnt, Cond.code yX2_burnt cX2_burnt 1 (some .int), Cond.selects RX3 ⟨"ChicoryRoasters$Teller", "tell", "(I)I"⟩ yX3_tell, Cond.instanceMethod yX3_tell]
def wsX7_roast_r4 : List Cond := [Cond.code yX3_tell cX3_tell 2 (some .int), Cond.fieldLink RX3 9 "ChicoryRoasters$Smuggler" "way" "I", Cond.fieldLink RX3 15 "ChicoryRoasters$Smuggler" "cargo" "I", Cond.fieldLink RX3 18 "ChicoryRoasters$Smuggler" "where" "I", Cond.fieldLink RX3 21 "ChicoryRoasters$Smuggler" "left" "I", Cond.fieldLink RX3 24 "ChicoryRoasters$Smuggler" "arrests" "I", Cond.selects RX6 ⟨"ChicoryRoasters$Teller", "tell", "(I)I"⟩ yX6_tell, Cond.instanceMethod yX6_tell, Cond.code yX6_tell cX6_tell 2 (some .int), Cond.fieldLink RX6 63 "ChicoryRoasters$Town" "day" "I", Cond.fieldLink RX6 38 "ChicoryRoasters$Town" "store" "LChicoryRoasters$Store;", Cond.fieldLink RX6 114 "ChicoryRoasters$Store" "roots" "I", Cond.fieldLink RX6 117 "ChicoryRoasters$Store" "beans" "I", Cond.fieldLink RX6 120 "ChicoryRoasters$Store" "chicory" "I", Cond.fieldLink RX6 123 "ChicoryRoasters$Store" "coffee" "I", Cond.fieldLink RX6 126 "ChicoryRoasters$Store" "served" "I", Cond.fieldLink RX6 129 "ChicoryRoasters$Store" "thinned" "I", Cond.fieldLink RX6 132 "ChicoryRoasters$Store" "share" "I", Cond.fieldLink RX6 46 "ChicoryRoasters$Town" "patrol" "I"]
def wsX7_roast : List Cond := .code yX7_roast cX7_roast 3 (some .int) :: ((wsX7_roast_r1 ++ (wsX7_roast_r2 ++ (wsX7_roast_r3 ++ wsX7_roast_r4))) ++ wsX70 ++ wsX60 ++ wsX00 ++ wsX10 ++ wsX20 ++ wsX30 ++ wsX40 ++ (vx_atS RX7 143 "java/lang/IndexOutOfBoundsException" ["java/lang/RuntimeException", "java/lang/Exception"]).filter goodWord)
def wsX7_told_r1 : List Cond := [Cond.fieldLink RX7 10 "ChicoryRoasters" "town" "LChicoryRoasters$Town;", Cond.fieldLink RX7 53 "ChicoryRoasters$Town" "smugglerCount" "I", Cond.fieldLink RX7 56 "ChicoryRoasters$Town" "smugglers" "[LChicoryRoasters$Smuggler;", Cond.methodLink RX7 89 yX7_checkIndex, Cond.static yX7_checkIndex, Cond.initialized RX7, Cond.code yX7_checkIndex cX7_checkIndex 2 none, Cond.classLink RX7 139 "java/lang/IndexOutOfBoundsException", Cond.initialized "java/lang/IndexOutOfBoundsException", Cond.methodLink RX7 132 yX7_ask, Cond.static yX7_ask, Cond.code yX7_ask cX7_ask 2 (some .int), Cond.methodLink RX7 192 ⟨"ChicoryRoasters$Teller", "size", "()I"⟩, Cond.sameMethod "ChicoryRoasters$Teller" "ChicoryRoasters$Teller" "size" "()I", Cond.selects RX0 ⟨"ChicoryRoasters$Teller", "size", "()I"⟩ yX0_size, Cond.instanceMethod yX0_size, Cond.initialized RX0, Cond.code yX0_size cX0_size 1 (some .int), Cond.selects RX1 ⟨"ChicoryRoasters$Teller", "size", "()I"⟩ yX1_size, Cond.instanceMethod yX1_size, Cond.initialized RX1, Cond.code yX1_size cX1_size 1 (some .int), Cond.selects RX2 ⟨"ChicoryRoasters$Teller", "size", "()I"⟩ yX2_size, Cond.instanceMethod yX2_size]
def wsX7_told_r2 : List Cond := [Cond.initialized RX2, Cond.code yX2_size cX2_size 1 (some .int), Cond.selects RX3 ⟨"ChicoryRoasters$Teller", "size", "()I"⟩ yX3_size, Cond.instanceMethod yX3_size, Cond.initialized RX3, Cond.code yX3_size cX3_size 1 (some .int), Cond.selects RX6 ⟨"ChicoryRoasters$Teller", "size", "()I"⟩ yX6_size, Cond.instanceMethod yX6_size, Cond.initialized RX6, Cond.code yX6_size cX6_size 1 (some .int), Cond.methodLink RX7 197 ⟨"ChicoryRoasters$Teller", "tell", "(I)I"⟩, Cond.sameMethod "ChicoryRoasters$Teller" "ChicoryRoasters$Teller" "tell" "(I)I", Cond.selects RX0 ⟨"ChicoryRoasters$Teller", "tell", "(I)I"⟩ yX0_tell, Cond.instanceMethod yX0_tell, Cond.code yX0_tell cX0_tell 2 (some .int), Cond.fieldLink RX0 7 "ChicoryRoasters$Bed" "grows" "I", Cond.fieldLink RX0 13 "ChicoryRoasters$Bed" "most" "I", Cond.fieldLink RX0 16 "ChicoryRoasters$Bed" "roots" "I", Cond.selects RX1 ⟨"ChicoryRoasters$Teller", "tell", "(I)I"⟩ yX1_tell, Cond.instanceMethod yX1_tell, Cond.code yX1_tell cX1_tell 2 (some .int), Cond.fieldLink RX1 9 "ChicoryRoasters$Card" "allotted" "I", Cond.fieldLink RX1 15 "ChicoryRoasters$Card" "picky" "I", Cond.fieldLink RX1 18 "ChicoryRoasters$Card" "left" "I"]
def wsX7_told_r3 : List Cond := [Cond.fieldLink RX1 42 "ChicoryRoasters$Card" "served" "I", Cond.fieldLink RX1 35 "ChicoryRoasters$Card" "refused" "I", Cond.selects RX2 ⟨"ChicoryRoasters$Teller", "tell", "(I)I"⟩ yX2_tell, Cond.instanceMethod yX2_tell, Cond.code yX2_tell cX2_tell 2 (some .int), Cond.fieldLink RX2 15 "ChicoryRoasters$Drum" "holds" "I", Cond.fieldLink RX2 18 "ChicoryRoasters$Drum" "heat" "I", Cond.fieldLink RX2 9 "ChicoryRoasters$Drum" "kind" "I", Cond.fieldLink RX2 21 "ChicoryRoasters$Drum" "much" "I", Cond.fieldLink RX2 24 "ChicoryRoasters$Drum" "level" "I", Cond.methodLink RX2 44 yX2_partsAt, Cond.instanceMethod yX2_partsAt, Cond.selects RX2 yX2_partsAt yX2_partsAt, Cond.code yX2_partsAt cX2_partsAt 3 (some .int), Cond.methodLink RX2 41 yX2_done, Cond.instanceMethod yX2_done, Cond.selects RX2 yX2_done yX2_done, Cond.code yX2_done cX2_done 1 (some .int), Cond.methodLink RX2 31 yX2_burnt, Cond.instanceMethod yX2_burnt, Cond.selects RX2 yX2_burnt yX2_burnt, Cond.code yX2_burnt cX2_burnt 1 (some .int), Cond.selects RX3 ⟨"ChicoryRoasters$Teller", "tell", "(I)I"⟩ yX3_tell, Cond.instanceMethod yX3_tell]
def wsX7_told_r4 : List Cond := [Cond.code yX3_tell cX3_tell 2 (some .int), Cond.fieldLink RX3 9 "ChicoryRoasters$Smuggler" "way" "I", Cond.fieldLink RX3 15 "ChicoryRoasters$Smuggler" "cargo" "I", Cond.fieldLink RX3 18 "ChicoryRoasters$Smuggler" "where" "I", Cond.fieldLink RX3 21 "ChicoryRoasters$Smuggler" "left" "I", Cond.fieldLink RX3 24 "ChicoryRoasters$Smuggler" "arrests" "I", Cond.selects RX6 ⟨"ChicoryRoasters$Teller", "tell", "(I)I"⟩ yX6_tell, Cond.instanceMethod yX6_tell, Cond.code yX6_tell cX6_tell 2 (some .int), Cond.fieldLink RX6 63 "ChicoryRoasters$Town" "day" "I", Cond.fieldLink RX6 38 "ChicoryRoasters$Town" "store" "LChicoryRoasters$Store;", Cond.fieldLink RX6 114 "ChicoryRoasters$Store" "roots" "I", Cond.fieldLink RX6 117 "ChicoryRoasters$Store" "beans" "I", Cond.fieldLink RX6 120 "ChicoryRoasters$Store" "chicory" "I", Cond.fieldLink RX6 123 "ChicoryRoasters$Store" "coffee" "I", Cond.fieldLink RX6 126 "ChicoryRoasters$Store" "served" "I", Cond.fieldLink RX6 129 "ChicoryRoasters$Store" "thinned" "I", Cond.fieldLink RX6 132 "ChicoryRoasters$Store" "share" "I", Cond.fieldLink RX6 46 "ChicoryRoasters$Town" "patrol" "I"]
def wsX7_told : List Cond := .code yX7_told cX7_told 3 (some .int) :: ((wsX7_told_r1 ++ (wsX7_told_r2 ++ (wsX7_told_r3 ++ wsX7_told_r4))) ++ wsX70 ++ wsX60 ++ wsX00 ++ wsX10 ++ wsX20 ++ wsX30 ++ wsX40 ++ (vx_atS RX7 143 "java/lang/IndexOutOfBoundsException" ["java/lang/RuntimeException", "java/lang/Exception"]).filter goodWord)
def wsX7_ration_r1 : List Cond := [Cond.fieldLink RX7 10 "ChicoryRoasters" "town" "LChicoryRoasters$Town;", Cond.fieldLink RX7 65 "ChicoryRoasters$Town" "cardCount" "I", Cond.fieldLink RX7 68 "ChicoryRoasters$Town" "cards" "[LChicoryRoasters$Card;", Cond.methodLink RX7 89 yX7_checkIndex, Cond.static yX7_checkIndex, Cond.initialized RX7, Cond.code yX7_checkIndex cX7_checkIndex 2 none, Cond.classLink RX7 139 "java/lang/IndexOutOfBoundsException", Cond.initialized "java/lang/IndexOutOfBoundsException", Cond.methodLink RX7 132 yX7_ask, Cond.static yX7_ask, Cond.code yX7_ask cX7_ask 2 (some .int), Cond.methodLink RX7 192 ⟨"ChicoryRoasters$Teller", "size", "()I"⟩, Cond.sameMethod "ChicoryRoasters$Teller" "ChicoryRoasters$Teller" "size" "()I", Cond.selects RX0 ⟨"ChicoryRoasters$Teller", "size", "()I"⟩ yX0_size, Cond.instanceMethod yX0_size, Cond.initialized RX0, Cond.code yX0_size cX0_size 1 (some .int), Cond.selects RX1 ⟨"ChicoryRoasters$Teller", "size", "()I"⟩ yX1_size, Cond.instanceMethod yX1_size, Cond.initialized RX1, Cond.code yX1_size cX1_size 1 (some .int), Cond.selects RX2 ⟨"ChicoryRoasters$Teller", "size", "()I"⟩ yX2_size, Cond.instanceMethod yX2_size]
def wsX7_ration_r2 : List Cond := [Cond.initialized RX2, Cond.code yX2_size cX2_size 1 (some .int), Cond.selects RX3 ⟨"ChicoryRoasters$Teller", "size", "()I"⟩ yX3_size, Cond.instanceMethod yX3_size, Cond.initialized RX3, Cond.code yX3_size cX3_size 1 (some .int), Cond.selects RX6 ⟨"ChicoryRoasters$Teller", "size", "()I"⟩ yX6_size, Cond.instanceMethod yX6_size, Cond.initialized RX6, Cond.code yX6_size cX6_size 1 (some .int), Cond.methodLink RX7 197 ⟨"ChicoryRoasters$Teller", "tell", "(I)I"⟩, Cond.sameMethod "ChicoryRoasters$Teller" "ChicoryRoasters$Teller" "tell" "(I)I", Cond.selects RX0 ⟨"ChicoryRoasters$Teller", "tell", "(I)I"⟩ yX0_tell, Cond.instanceMethod yX0_tell, Cond.code yX0_tell cX0_tell 2 (some .int), Cond.fieldLink RX0 7 "ChicoryRoasters$Bed" "grows" "I", Cond.fieldLink RX0 13 "ChicoryRoasters$Bed" "most" "I", Cond.fieldLink RX0 16 "ChicoryRoasters$Bed" "roots" "I", Cond.selects RX1 ⟨"ChicoryRoasters$Teller", "tell", "(I)I"⟩ yX1_tell, Cond.instanceMethod yX1_tell, Cond.code yX1_tell cX1_tell 2 (some .int), Cond.fieldLink RX1 9 "ChicoryRoasters$Card" "allotted" "I", Cond.fieldLink RX1 15 "ChicoryRoasters$Card" "picky" "I", Cond.fieldLink RX1 18 "ChicoryRoasters$Card" "left" "I"]
def wsX7_ration_r3 : List Cond := [Cond.fieldLink RX1 42 "ChicoryRoasters$Card" "served" "I", Cond.fieldLink RX1 35 "ChicoryRoasters$Card" "refused" "I", Cond.selects RX2 ⟨"ChicoryRoasters$Teller", "tell", "(I)I"⟩ yX2_tell, Cond.instanceMethod yX2_tell, Cond.code yX2_tell cX2_tell 2 (some .int), Cond.fieldLink RX2 15 "ChicoryRoasters$Drum" "holds" "I", Cond.fieldLink RX2 18 "ChicoryRoasters$Drum" "heat" "I", Cond.fieldLink RX2 9 "ChicoryRoasters$Drum" "kind" "I", Cond.fieldLink RX2 21 "ChicoryRoasters$Drum" "much" "I", Cond.fieldLink RX2 24 "ChicoryRoasters$Drum" "level" "I", Cond.methodLink RX2 44 yX2_partsAt, Cond.instanceMethod yX2_partsAt, Cond.selects RX2 yX2_partsAt yX2_partsAt, Cond.code yX2_partsAt cX2_partsAt 3 (some .int), Cond.methodLink RX2 41 yX2_done, Cond.instanceMethod yX2_done, Cond.selects RX2 yX2_done yX2_done, Cond.code yX2_done cX2_done 1 (some .int), Cond.methodLink RX2 31 yX2_burnt, Cond.instanceMethod yX2_burnt, Cond.selects RX2 yX2_burnt yX2_burnt, Cond.code yX2_burnt cX2_burnt 1 (some .int), Cond.selects RX3 ⟨"ChicoryRoasters$Teller", "tell", "(I)I"⟩ yX3_tell, Cond.instanceMethod yX3_tell]
def wsX7_ration_r4 : List Cond := [Cond.code yX3_tell cX3_tell 2 (some .int), Cond.fieldLink RX3 9 "ChicoryRoasters$Smuggler" "way" "I", Cond.fieldLink RX3 15 "ChicoryRoasters$Smuggler" "cargo" "I", Cond.fieldLink RX3 18 "ChicoryRoasters$Smuggler" "where" "I", Cond.fieldLink RX3 21 "ChicoryRoasters$Smuggler" "left" "I", Cond.fieldLink RX3 24 "ChicoryRoasters$Smuggler" "arrests" "I", Cond.selects RX6 ⟨"ChicoryRoasters$Teller", "tell", "(I)I"⟩ yX6_tell, Cond.instanceMethod yX6_tell, Cond.code yX6_tell cX6_tell 2 (some .int), Cond.fieldLink RX6 63 "ChicoryRoasters$Town" "day" "I", Cond.fieldLink RX6 38 "ChicoryRoasters$Town" "store" "LChicoryRoasters$Store;", Cond.fieldLink RX6 114 "ChicoryRoasters$Store" "roots" "I", Cond.fieldLink RX6 117 "ChicoryRoasters$Store" "beans" "I", Cond.fieldLink RX6 120 "ChicoryRoasters$Store" "chicory" "I", Cond.fieldLink RX6 123 "ChicoryRoasters$Store" "coffee" "I", Cond.fieldLink RX6 126 "ChicoryRoasters$Store" "served" "I", Cond.fieldLink RX6 129 "ChicoryRoasters$Store" "thinned" "I", Cond.fieldLink RX6 132 "ChicoryRoasters$Store" "share" "I", Cond.fieldLink RX6 46 "ChicoryRoasters$Town" "patrol" "I"]
def wsX7_ration : List Cond := .code yX7_ration cX7_ration 3 (some .int) :: ((wsX7_ration_r1 ++ (wsX7_ration_r2 ++ (wsX7_ration_r3 ++ wsX7_ration_r4))) ++ wsX70 ++ wsX60 ++ wsX00 ++ wsX10 ++ wsX20 ++ wsX30 ++ wsX40 ++ (vx_atS RX7 143 "java/lang/IndexOutOfBoundsException" ["java/lang/RuntimeException", "java/lang/Exception"]).filter goodWord)
def wsX7_count_r1 : List Cond := [Cond.fieldLink RX7 10 "ChicoryRoasters" "town" "LChicoryRoasters$Town;", Cond.methodLink RX7 132 yX7_ask, Cond.static yX7_ask, Cond.initialized RX7, Cond.code yX7_ask cX7_ask 2 (some .int), Cond.methodLink RX7 192 ⟨"ChicoryRoasters$Teller", "size", "()I"⟩, Cond.sameMethod "ChicoryRoasters$Teller" "ChicoryRoasters$Teller" "size" "()I", Cond.selects RX0 ⟨"ChicoryRoasters$Teller", "size", "()I"⟩ yX0_size, Cond.instanceMethod yX0_size, Cond.initialized RX0, Cond.code yX0_size cX0_size 1 (some .int), Cond.selects RX1 ⟨"ChicoryRoasters$Teller", "size", "()I"⟩ yX1_size, Cond.instanceMethod yX1_size, Cond.initialized RX1, Cond.code yX1_size cX1_size 1 (some .int), Cond.selects RX2 ⟨"ChicoryRoasters$Teller", "size", "()I"⟩ yX2_size, Cond.instanceMethod yX2_size, Cond.initialized RX2, Cond.code yX2_size cX2_size 1 (some .int), Cond.selects RX3 ⟨"ChicoryRoasters$Teller", "size", "()I"⟩ yX3_size, Cond.instanceMethod yX3_size, Cond.initialized RX3, Cond.code yX3_size cX3_size 1 (some .int), Cond.selects RX6 ⟨"ChicoryRoasters$Teller", "size", "()I"⟩ yX6_size]
def wsX7_count_r2 : List Cond := [Cond.instanceMethod yX6_size, Cond.initialized RX6, Cond.code yX6_size cX6_size 1 (some .int), Cond.methodLink RX7 89 yX7_checkIndex, Cond.static yX7_checkIndex, Cond.code yX7_checkIndex cX7_checkIndex 2 none, Cond.classLink RX7 139 "java/lang/IndexOutOfBoundsException", Cond.initialized "java/lang/IndexOutOfBoundsException", Cond.methodLink RX7 197 ⟨"ChicoryRoasters$Teller", "tell", "(I)I"⟩, Cond.sameMethod "ChicoryRoasters$Teller" "ChicoryRoasters$Teller" "tell" "(I)I", Cond.selects RX0 ⟨"ChicoryRoasters$Teller", "tell", "(I)I"⟩ yX0_tell, Cond.instanceMethod yX0_tell, Cond.code yX0_tell cX0_tell 2 (some .int), Cond.fieldLink RX0 7 "ChicoryRoasters$Bed" "grows" "I", Cond.fieldLink RX0 13 "ChicoryRoasters$Bed" "most" "I", Cond.fieldLink RX0 16 "ChicoryRoasters$Bed" "roots" "I", Cond.selects RX1 ⟨"ChicoryRoasters$Teller", "tell", "(I)I"⟩ yX1_tell, Cond.instanceMethod yX1_tell, Cond.code yX1_tell cX1_tell 2 (some .int), Cond.fieldLink RX1 9 "ChicoryRoasters$Card" "allotted" "I", Cond.fieldLink RX1 15 "ChicoryRoasters$Card" "picky" "I", Cond.fieldLink RX1 18 "ChicoryRoasters$Card" "left" "I", Cond.fieldLink RX1 42 "ChicoryRoasters$Card" "served" "I", Cond.fieldLink RX1 35 "ChicoryRoasters$Card" "refused" "I"]
def wsX7_count_r3 : List Cond := [Cond.selects RX2 ⟨"ChicoryRoasters$Teller", "tell", "(I)I"⟩ yX2_tell, Cond.instanceMethod yX2_tell, Cond.code yX2_tell cX2_tell 2 (some .int), Cond.fieldLink RX2 15 "ChicoryRoasters$Drum" "holds" "I", Cond.fieldLink RX2 18 "ChicoryRoasters$Drum" "heat" "I", Cond.fieldLink RX2 9 "ChicoryRoasters$Drum" "kind" "I", Cond.fieldLink RX2 21 "ChicoryRoasters$Drum" "much" "I", Cond.fieldLink RX2 24 "ChicoryRoasters$Drum" "level" "I", Cond.methodLink RX2 44 yX2_partsAt, Cond.instanceMethod yX2_partsAt, Cond.selects RX2 yX2_partsAt yX2_partsAt, Cond.code yX2_partsAt cX2_partsAt 3 (some .int), Cond.methodLink RX2 41 yX2_done, Cond.instanceMethod yX2_done, Cond.selects RX2 yX2_done yX2_done, Cond.code yX2_done cX2_done 1 (some .int), Cond.methodLink RX2 31 yX2_burnt, Cond.instanceMethod yX2_burnt, Cond.selects RX2 yX2_burnt yX2_burnt, Cond.code yX2_burnt cX2_burnt 1 (some .int), Cond.selects RX3 ⟨"ChicoryRoasters$Teller", "tell", "(I)I"⟩ yX3_tell, Cond.instanceMethod yX3_tell, Cond.code yX3_tell cX3_tell 2 (some .int), Cond.fieldLink RX3 9 "ChicoryRoasters$Smuggler" "way" "I"]
def wsX7_count_r4 : List Cond := [Cond.fieldLink RX3 15 "ChicoryRoasters$Smuggler" "cargo" "I", Cond.fieldLink RX3 18 "ChicoryRoasters$Smuggler" "where" "I", Cond.fieldLink RX3 21 "ChicoryRoasters$Smuggler" "left" "I", Cond.fieldLink RX3 24 "ChicoryRoasters$Smuggler" "arrests" "I", Cond.selects RX6 ⟨"ChicoryRoasters$Teller", "tell", "(I)I"⟩ yX6_tell, Cond.instanceMethod yX6_tell, Cond.code yX6_tell cX6_tell 2 (some .int), Cond.fieldLink RX6 63 "ChicoryRoasters$Town" "day" "I", Cond.fieldLink RX6 38 "ChicoryRoasters$Town" "store" "LChicoryRoasters$Store;", Cond.fieldLink RX6 114 "ChicoryRoasters$Store" "roots" "I", Cond.fieldLink RX6 117 "ChicoryRoasters$Store" "beans" "I", Cond.fieldLink RX6 120 "ChicoryRoasters$Store" "chicory" "I", Cond.fieldLink RX6 123 "ChicoryRoasters$Store" "coffee" "I", Cond.fieldLink RX6 126 "ChicoryRoasters$Store" "served" "I", Cond.fieldLink RX6 129 "ChicoryRoasters$Store" "thinned" "I", Cond.fieldLink RX6 132 "ChicoryRoasters$Store" "share" "I", Cond.fieldLink RX6 46 "ChicoryRoasters$Town" "patrol" "I"]
def wsX7_count : List Cond := .code yX7_count cX7_count 2 (some .int) :: ((wsX7_count_r1 ++ (wsX7_count_r2 ++ (wsX7_count_r3 ++ wsX7_count_r4))) ++ wsX70 ++ wsX00 ++ wsX10 ++ wsX20 ++ wsX30 ++ wsX60 ++ wsX40 ++ (vx_atS RX7 143 "java/lang/IndexOutOfBoundsException" ["java/lang/RuntimeException", "java/lang/Exception"]).filter goodWord)
def wsX7_pass_r1 : List Cond := [Cond.fieldLink RX7 10 "ChicoryRoasters" "town" "LChicoryRoasters$Town;", Cond.methodLink RX7 19 yX7_checkNumber, Cond.static yX7_checkNumber, Cond.initialized RX7, Cond.code yX7_checkNumber cX7_checkNumber 3 none, Cond.classLink RX7 182 "java/lang/IllegalArgumentException", Cond.initialized "java/lang/IllegalArgumentException", Cond.methodLink RX7 136 yX6_live, Cond.instanceMethod yX6_live, Cond.selects RX6 yX6_live yX6_live, Cond.initialized RX6, Cond.code yX6_live cX6_live 4 (some .int), Cond.fieldLink RX6 63 "ChicoryRoasters$Town" "day" "I", Cond.methodLink RX6 50 yX6_travel, Cond.instanceMethod yX6_travel, Cond.selects RX6 yX6_travel yX6_travel, Cond.code yX6_travel cX6_travel 2 none, Cond.fieldLink RX6 66 "ChicoryRoasters$Town" "smugglerCount" "I", Cond.fieldLink RX6 38 "ChicoryRoasters$Town" "store" "LChicoryRoasters$Store;", Cond.fieldLink RX6 25 "ChicoryRoasters$Town" "smugglers" "[LChicoryRoasters$Smuggler;", Cond.methodLink RX6 69 yX6_patrolled, Cond.instanceMethod yX6_patrolled, Cond.selects RX6 yX6_patrolled yX6_patrolled, Cond.code yX6_patrolled cX6_patrolled 2 (some .boolean)]
def wsX7_pass_r2 : List Cond := [Cond.fieldLink RX6 46 "ChicoryRoasters$Town" "patrol" "I", Cond.methodLink RX6 73 yX3_travel, Cond.instanceMethod yX3_travel, Cond.selects RX3 yX3_travel yX3_travel, Cond.initialized RX3, Cond.code yX3_travel cX3_travel 2 (some .int), Cond.fieldLink RX3 18 "ChicoryRoasters$Smuggler" "where" "I", Cond.fieldLink RX3 21 "ChicoryRoasters$Smuggler" "left" "I", Cond.fieldLink RX3 9 "ChicoryRoasters$Smuggler" "way" "I", Cond.fieldLink RX3 24 "ChicoryRoasters$Smuggler" "arrests" "I", Cond.methodLink RX3 27 yX3_comeHome, Cond.instanceMethod yX3_comeHome, Cond.selects RX3 yX3_comeHome yX3_comeHome, Cond.code yX3_comeHome cX3_comeHome 2 (some .int), Cond.fieldLink RX3 15 "ChicoryRoasters$Smuggler" "cargo" "I", Cond.methodLink RX6 76 yX4_add, Cond.instanceMethod yX4_add, Cond.selects RX4 yX4_add yX4_add, Cond.initialized RX4, Cond.code yX4_add cX4_add 3 none, Cond.fieldLink RX4 15 "ChicoryRoasters$Store" "roots" "I", Cond.fieldLink RX4 18 "ChicoryRoasters$Store" "beans" "I", Cond.methodLink RX6 53 yX6_warm, Cond.instanceMethod yX6_warm]
def wsX7_pass_r3 : List Cond := [Cond.selects RX6 yX6_warm yX6_warm, Cond.code yX6_warm cX6_warm 2 none, Cond.fieldLink RX6 80 "ChicoryRoasters$Town" "drumCount" "I", Cond.fieldLink RX6 19 "ChicoryRoasters$Town" "drums" "[LChicoryRoasters$Drum;", Cond.methodLink RX6 83 yX2_warm, Cond.instanceMethod yX2_warm, Cond.selects RX2 yX2_warm yX2_warm, Cond.initialized RX2, Cond.code yX2_warm cX2_warm 1 none, Cond.fieldLink RX2 24 "ChicoryRoasters$Drum" "level" "I", Cond.methodLink RX2 27 yX2_levelAfter, Cond.instanceMethod yX2_levelAfter, Cond.selects RX2 yX2_levelAfter yX2_levelAfter, Cond.code yX2_levelAfter cX2_levelAfter 2 (some .int), Cond.fieldLink RX2 9 "ChicoryRoasters$Drum" "kind" "I", Cond.fieldLink RX2 18 "ChicoryRoasters$Drum" "heat" "I", Cond.methodLink RX2 35 Lib.Math.min.name, Cond.static Lib.Math.min.name, Cond.initialized "java/lang/Math", Cond.code Lib.Math.min.name Lib.Math.min.code 2 (some .int), Cond.methodLink RX2 31 yX2_burnt, Cond.instanceMethod yX2_burnt, Cond.selects RX2 yX2_burnt yX2_burnt, Cond.code yX2_burnt cX2_burnt 1 (some .int)]
def wsX7_pass_r4 : List Cond := [Cond.methodLink RX6 56 yX6_grow, Cond.instanceMethod yX6_grow, Cond.selects RX6 yX6_grow yX6_grow, Cond.code yX6_grow cX6_grow 2 none, Cond.fieldLink RX6 84 "ChicoryRoasters$Town" "bedCount" "I", Cond.fieldLink RX6 11 "ChicoryRoasters$Town" "beds" "[LChicoryRoasters$Bed;", Cond.methodLink RX6 87 yX0_grow, Cond.instanceMethod yX0_grow, Cond.selects RX0 yX0_grow yX0_grow, Cond.initialized RX0, Cond.code yX0_grow cX0_grow 1 none, Cond.fieldLink RX0 16 "ChicoryRoasters$Bed" "roots" "I", Cond.fieldLink RX0 7 "ChicoryRoasters$Bed" "grows" "I", Cond.fieldLink RX0 13 "ChicoryRoasters$Bed" "most" "I", Cond.methodLink RX0 19 Lib.Math.min.name, Cond.methodLink RX6 59 yX6_serve, Cond.instanceMethod yX6_serve, Cond.selects RX6 yX6_serve yX6_serve, Cond.code yX6_serve cX6_serve 3 (some .int), Cond.fieldLink RX6 88 "ChicoryRoasters$Town" "cardCount" "I", Cond.fieldLink RX6 31 "ChicoryRoasters$Town" "cards" "[LChicoryRoasters$Card;", Cond.methodLink RX6 91 yX1_renew, Cond.instanceMethod yX1_renew, Cond.selects RX1 yX1_renew yX1_renew]
def wsX7_pass_r5 : List Cond := [Cond.initialized RX1, Cond.code yX1_renew cX1_renew 1 none, Cond.fieldLink RX1 9 "ChicoryRoasters$Card" "allotted" "I", Cond.fieldLink RX1 18 "ChicoryRoasters$Card" "left" "I", Cond.methodLink RX6 94 yX1_serveDay, Cond.instanceMethod yX1_serveDay, Cond.selects RX1 yX1_serveDay yX1_serveDay, Cond.code yX1_serveDay cX1_serveDay 3 (some .int), Cond.methodLink RX1 21 yX1_serveOne, Cond.instanceMethod yX1_serveOne, Cond.selects RX1 yX1_serveOne yX1_serveOne, Cond.code yX1_serveOne cX1_serveOne 3 (some .boolean), Cond.fieldLink RX1 15 "ChicoryRoasters$Card" "picky" "I", Cond.fieldLink RX1 35 "ChicoryRoasters$Card" "refused" "I", Cond.fieldLink RX1 42 "ChicoryRoasters$Card" "served" "I", Cond.methodLink RX1 25 yX4_coffeeOfPortion, Cond.instanceMethod yX4_coffeeOfPortion, Cond.selects RX4 yX4_coffeeOfPortion yX4_coffeeOfPortion, Cond.code yX4_coffeeOfPortion cX4_coffeeOfPortion 1 (some .int), Cond.fieldLink RX4 9 "ChicoryRoasters$Store" "share" "I", Cond.fieldLink RX4 24 "ChicoryRoasters$Store" "coffee" "I", Cond.methodLink RX4 27 Lib.Math.min.name, Cond.methodLink RX1 31 yX4_canMix, Cond.instanceMethod yX4_canMix]
def wsX7_pass_r6 : List Cond := [Cond.selects RX4 yX4_canMix yX4_canMix, Cond.code yX4_canMix cX4_canMix 2 (some .boolean), Cond.fieldLink RX4 21 "ChicoryRoasters$Store" "chicory" "I", Cond.methodLink RX1 38 yX4_servePortion, Cond.instanceMethod yX4_servePortion, Cond.selects RX4 yX4_servePortion yX4_servePortion, Cond.code yX4_servePortion cX4_servePortion 2 none, Cond.fieldLink RX4 33 "ChicoryRoasters$Store" "thinned" "I", Cond.fieldLink RX4 36 "ChicoryRoasters$Store" "served" "I"]
def wsX7_pass : List Cond := .code yX7_pass cX7_pass 2 (some .int) :: ((wsX7_pass_r1 ++ (wsX7_pass_r2 ++ (wsX7_pass_r3 ++ (wsX7_pass_r4 ++ (wsX7_pass_r5 ++ wsX7_pass_r6))))) ++ wsX70 ++ wsX60 ++ wsX30 ++ wsX40 ++ wsX20 ++ wsX00 ++ wsX10 ++ (vx_atS RX7 186 "java/lang/IllegalArgumentException" ["java/lang/RuntimeException", "java/lang/Exception"]).filter goodWord)
def wsX7_foresee_r1 : List Cond := [Cond.classLink RX7 139 "java/lang/IndexOutOfBoundsException", Cond.initialized "java/lang/IndexOutOfBoundsException", Cond.fieldLink RX7 16 "ChicoryRoasters" "trial" "LChicoryRoasters$Town;", Cond.fieldLink RX7 10 "ChicoryRoasters" "town" "LChicoryRoasters$Town;", Cond.methodLink RX7 19 yX7_checkNumber, Cond.static yX7_checkNumber, Cond.initialized RX7, Cond.code yX7_checkNumber cX7_checkNumber 3 none, Cond.classLink RX7 182 "java/lang/IllegalArgumentException", Cond.initialized "java/lang/IllegalArgumentException", Cond.methodLink RX7 146 yX6_become, Cond.instanceMethod yX6_become, Cond.selects RX6 yX6_become yX6_become, Cond.initialized RX6, Cond.code yX6_become cX6_become 3 none, Cond.fieldLink RX6 63 "ChicoryRoasters$Town" "day" "I", Cond.fieldLink RX6 46 "ChicoryRoasters$Town" "patrol" "I", Cond.fieldLink RX6 38 "ChicoryRoasters$Town" "store" "LChicoryRoasters$Store;", Cond.fieldLink RX6 84 "ChicoryRoasters$Town" "bedCount" "I", Cond.fieldLink RX6 11 "ChicoryRoasters$Town" "beds" "[LChicoryRoasters$Bed;", Cond.fieldLink RX6 80 "ChicoryRoasters$Town" "drumCount" "I", Cond.fieldLink RX6 19 "ChicoryRoasters$Town" "drums" "[LChicoryRoasters$Drum;", Cond.fieldLink RX6 66 "ChicoryRoasters$Town" "smugglerCount" "I", Cond.fieldLink RX6 25 "ChicoryRoasters$Town" "smugglers" "[LChicoryRoasters$Smuggler;"]
def wsX7_foresee_r2 : List Cond := [Cond.fieldLink RX6 88 "ChicoryRoasters$Town" "cardCount" "I", Cond.fieldLink RX6 31 "ChicoryRoasters$Town" "cards" "[LChicoryRoasters$Card;", Cond.methodLink RX6 98 yX4_become, Cond.instanceMethod yX4_become, Cond.selects RX4 yX4_become yX4_become, Cond.initialized RX4, Cond.code yX4_become cX4_become 2 none, Cond.fieldLink RX4 15 "ChicoryRoasters$Store" "roots" "I", Cond.fieldLink RX4 18 "ChicoryRoasters$Store" "beans" "I", Cond.fieldLink RX4 21 "ChicoryRoasters$Store" "chicory" "I", Cond.fieldLink RX4 24 "ChicoryRoasters$Store" "coffee" "I", Cond.fieldLink RX4 9 "ChicoryRoasters$Store" "share" "I", Cond.fieldLink RX4 36 "ChicoryRoasters$Store" "served" "I", Cond.fieldLink RX4 33 "ChicoryRoasters$Store" "thinned" "I", Cond.methodLink RX6 102 yX0_become, Cond.instanceMethod yX0_become, Cond.selects RX0 yX0_become yX0_become, Cond.initialized RX0, Cond.code yX0_become cX0_become 2 none, Cond.fieldLink RX0 7 "ChicoryRoasters$Bed" "grows" "I", Cond.fieldLink RX0 13 "ChicoryRoasters$Bed" "most" "I", Cond.fieldLink RX0 16 "ChicoryRoasters$Bed" "roots" "I", Cond.methodLink RX6 105 yX2_become, Cond.instanceMethod yX2_become]
def wsX7_foresee_r3 : List Cond := [Cond.selects RX2 yX2_become yX2_become, Cond.initialized RX2, Cond.code yX2_become cX2_become 2 none, Cond.fieldLink RX2 15 "ChicoryRoasters$Drum" "holds" "I", Cond.fieldLink RX2 18 "ChicoryRoasters$Drum" "heat" "I", Cond.fieldLink RX2 9 "ChicoryRoasters$Drum" "kind" "I", Cond.fieldLink RX2 21 "ChicoryRoasters$Drum" "much" "I", Cond.fieldLink RX2 24 "ChicoryRoasters$Drum" "level" "I", Cond.methodLink RX6 108 yX3_become, Cond.instanceMethod yX3_become, Cond.selects RX3 yX3_become yX3_become, Cond.initialized RX3, Cond.code yX3_become cX3_become 2 none, Cond.fieldLink RX3 9 "ChicoryRoasters$Smuggler" "way" "I", Cond.fieldLink RX3 15 "ChicoryRoasters$Smuggler" "cargo" "I", Cond.fieldLink RX3 18 "ChicoryRoasters$Smuggler" "where" "I", Cond.fieldLink RX3 21 "ChicoryRoasters$Smuggler" "left" "I", Cond.fieldLink RX3 24 "ChicoryRoasters$Smuggler" "arrests" "I", Cond.methodLink RX6 111 yX1_become, Cond.instanceMethod yX1_become, Cond.selects RX1 yX1_become yX1_become, Cond.initialized RX1, Cond.code yX1_become cX1_become 2 none, Cond.fieldLink RX1 9 "ChicoryRoasters$Card" "allotted" "I"]
def wsX7_foresee_r4 : List Cond := [Cond.fieldLink RX1 15 "ChicoryRoasters$Card" "picky" "I", Cond.fieldLink RX1 18 "ChicoryRoasters$Card" "left" "I", Cond.fieldLink RX1 42 "ChicoryRoasters$Card" "served" "I", Cond.fieldLink RX1 35 "ChicoryRoasters$Card" "refused" "I", Cond.methodLink RX7 136 yX6_live, Cond.instanceMethod yX6_live, Cond.selects RX6 yX6_live yX6_live, Cond.code yX6_live cX6_live 4 (some .int), Cond.methodLink RX6 50 yX6_travel, Cond.instanceMethod yX6_travel, Cond.selects RX6 yX6_travel yX6_travel, Cond.code yX6_travel cX6_travel 2 none, Cond.methodLink RX6 69 yX6_patrolled, Cond.instanceMethod yX6_patrolled, Cond.selects RX6 yX6_patrolled yX6_patrolled, Cond.code yX6_patrolled cX6_patrolled 2 (some .boolean), Cond.methodLink RX6 73 yX3_travel, Cond.instanceMethod yX3_travel, Cond.selects RX3 yX3_travel yX3_travel, Cond.code yX3_travel cX3_travel 2 (some .int), Cond.methodLink RX3 27 yX3_comeHome, Cond.instanceMethod yX3_comeHome, Cond.selects RX3 yX3_comeHome yX3_comeHome, Cond.code yX3_comeHome cX3_comeHome 2 (some .int)]
def wsX7_foresee_r5 : List Cond := [Cond.methodLink RX6 76 yX4_add, Cond.instanceMethod yX4_add, Cond.selects RX4 yX4_add yX4_add, Cond.code yX4_add cX4_add 3 none, Cond.methodLink RX6 53 yX6_warm, Cond.instanceMethod yX6_warm, Cond.selects RX6 yX6_warm yX6_warm, Cond.code yX6_warm cX6_warm 2 none, Cond.methodLink RX6 83 yX2_warm, Cond.instanceMethod yX2_warm, Cond.selects RX2 yX2_warm yX2_warm, Cond.code yX2_warm cX2_warm 1 none, Cond.methodLink RX2 27 yX2_levelAfter, Cond.instanceMethod yX2_levelAfter, Cond.selects RX2 yX2_levelAfter yX2_levelAfter, Cond.code yX2_levelAfter cX2_levelAfter 2 (some .int), Cond.methodLink RX2 35 Lib.Math.min.name, Cond.static Lib.Math.min.name, Cond.initialized "java/lang/Math", Cond.code Lib.Math.min.name Lib.Math.min.code 2 (some .int), Cond.methodLink RX2 31 yX2_burnt, Cond.instanceMethod yX2_burnt, Cond.selects RX2 yX2_burnt yX2_burnt, Cond.code yX2_burnt cX2_burnt 1 (some .int)]
def wsX7_foresee_r6 : List Cond := [Cond.methodLink RX6 56 yX6_grow, Cond.instanceMethod yX6_grow, Cond.selects RX6 yX6_grow yX6_grow, Cond.code yX6_grow cX6_grow 2 none, Cond.methodLink RX6 87 yX0_grow, Cond.instanceMethod yX0_grow, Cond.selects RX0 yX0_grow yX0_grow, Cond.code yX0_grow cX0_grow 1 none, Cond.methodLink RX0 19 Lib.Math.min.name, Cond.methodLink RX6 59 yX6_serve, Cond.instanceMethod yX6_serve, Cond.selects RX6 yX6_serve yX6_serve, Cond.code yX6_serve cX6_serve 3 (some .int), Cond.methodLink RX6 91 yX1_renew, Cond.instanceMethod yX1_renew, Cond.selects RX1 yX1_renew yX1_renew, Cond.code yX1_renew cX1_renew 1 none, Cond.methodLink RX6 94 yX1_serveDay, Cond.instanceMethod yX1_serveDay, Cond.selects RX1 yX1_serveDay yX1_serveDay, Cond.code yX1_serveDay cX1_serveDay 3 (some .int), Cond.methodLink RX1 21 yX1_serveOne, Cond.instanceMethod yX1_serveOne, Cond.selects RX1 yX1_serveOne yX1_serveOne]
def wsX7_foresee_r7 : List Cond := [Cond.code yX1_serveOne cX1_serveOne 3 (some .boolean), Cond.methodLink RX1 25 yX4_coffeeOfPortion, Cond.instanceMethod yX4_coffeeOfPortion, Cond.selects RX4 yX4_coffeeOfPortion yX4_coffeeOfPortion, Cond.code yX4_coffeeOfPortion cX4_coffeeOfPortion 1 (some .int), Cond.methodLink RX4 27 Lib.Math.min.name, Cond.methodLink RX1 31 yX4_canMix, Cond.instanceMethod yX4_canMix, Cond.selects RX4 yX4_canMix yX4_canMix, Cond.code yX4_canMix cX4_canMix 2 (some .boolean), Cond.methodLink RX1 38 yX4_servePortion, Cond.instanceMethod yX4_servePortion, Cond.selects RX4 yX4_servePortion yX4_servePortion, Cond.code yX4_servePortion cX4_servePortion 2 none, Cond.methodLink RX7 150 yX6_tell, Cond.instanceMethod yX6_tell, Cond.selects RX6 yX6_tell yX6_tell, Cond.code yX6_tell cX6_tell 2 (some .int), Cond.fieldLink RX6 114 "ChicoryRoasters$Store" "roots" "I", Cond.fieldLink RX6 117 "ChicoryRoasters$Store" "beans" "I", Cond.fieldLink RX6 120 "ChicoryRoasters$Store" "chicory" "I", Cond.fieldLink RX6 123 "ChicoryRoasters$Store" "coffee" "I", Cond.fieldLink RX6 126 "ChicoryRoasters$Store" "served" "I", Cond.fieldLink RX6 129 "ChicoryRoasters$Store" "thinned" "I"]
def wsX7_foresee_r8 : List Cond := [Cond.fieldLink RX6 132 "ChicoryRoasters$Store" "share" "I"]
def wsX7_foresee : List Cond := .code yX7_foresee cX7_foresee 3 (some .int) :: ((wsX7_foresee_r1 ++ (wsX7_foresee_r2 ++ (wsX7_foresee_r3 ++ (wsX7_foresee_r4 ++ (wsX7_foresee_r5 ++ (wsX7_foresee_r6 ++ (wsX7_foresee_r7 ++ wsX7_foresee_r8))))))) ++ wsX70 ++ wsX60 ++ wsX40 ++ wsX00 ++ wsX20 ++ wsX30 ++ wsX10 ++ (vx_atS RX7 143 "java/lang/IndexOutOfBoundsException" ["java/lang/RuntimeException", "java/lang/Exception"]).filter goodWord ++ (vx_atS RX7 186 "java/lang/IllegalArgumentException" ["java/lang/RuntimeException", "java/lang/Exception"]).filter goodWord)
def wsX7_ready_r1 : List Cond := [Cond.fieldLink RX7 10 "ChicoryRoasters" "town" "LChicoryRoasters$Town;", Cond.fieldLink RX7 41 "ChicoryRoasters$Town" "drumCount" "I", Cond.fieldLink RX7 44 "ChicoryRoasters$Town" "drums" "[LChicoryRoasters$Drum;", Cond.methodLink RX7 89 yX7_checkIndex, Cond.static yX7_checkIndex, Cond.initialized RX7, Cond.code yX7_checkIndex cX7_checkIndex 2 none, Cond.classLink RX7 139 "java/lang/IndexOutOfBoundsException", Cond.initialized "java/lang/IndexOutOfBoundsException", Cond.methodLink RX7 153 yX2_daysToBest, Cond.instanceMethod yX2_daysToBest, Cond.selects RX2 yX2_daysToBest yX2_daysToBest, Cond.initialized RX2, Cond.code yX2_daysToBest cX2_daysToBest 6 (some .int), Cond.fieldLink RX2 24 "ChicoryRoasters$Drum" "level" "I", Cond.methodLink RX2 44 yX2_partsAt, Cond.instanceMethod yX2_partsAt, Cond.selects RX2 yX2_partsAt yX2_partsAt, Cond.code yX2_partsAt cX2_partsAt 3 (some .int), Cond.fieldLink RX2 9 "ChicoryRoasters$Drum" "kind" "I", Cond.fieldLink RX2 21 "ChicoryRoasters$Drum" "much" "I", Cond.methodLink RX2 41 yX2_done, Cond.instanceMethod yX2_done, Cond.selects RX2 yX2_done yX2_done]
def wsX7_ready_r2 : List Cond := [Cond.code yX2_done cX2_done 1 (some .int), Cond.methodLink RX2 31 yX2_burnt, Cond.instanceMethod yX2_burnt, Cond.selects RX2 yX2_burnt yX2_burnt, Cond.code yX2_burnt cX2_burnt 1 (some .int), Cond.methodLink RX2 27 yX2_levelAfter, Cond.instanceMethod yX2_levelAfter, Cond.selects RX2 yX2_levelAfter yX2_levelAfter, Cond.code yX2_levelAfter cX2_levelAfter 2 (some .int), Cond.fieldLink RX2 18 "ChicoryRoasters$Drum" "heat" "I", Cond.methodLink RX2 35 Lib.Math.min.name, Cond.static Lib.Math.min.name, Cond.initialized "java/lang/Math", Cond.code Lib.Math.min.name Lib.Math.min.code 2 (some .int)]
def wsX7_ready : List Cond := .code yX7_ready cX7_ready 2 (some .int) :: ((wsX7_ready_r1 ++ wsX7_ready_r2) ++ wsX70 ++ wsX60 ++ wsX20 ++ (vx_atS RX7 143 "java/lang/IndexOutOfBoundsException" ["java/lang/RuntimeException", "java/lang/Exception"]).filter goodWord)
def wsX7_caught_r1 : List Cond := [Cond.fieldLink RX7 10 "ChicoryRoasters" "town" "LChicoryRoasters$Town;", Cond.fieldLink RX7 53 "ChicoryRoasters$Town" "smugglerCount" "I", Cond.fieldLink RX7 56 "ChicoryRoasters$Town" "smugglers" "[LChicoryRoasters$Smuggler;", Cond.fieldLink RX7 123 "ChicoryRoasters$Smuggler" "where" "I", Cond.fieldLink RX7 157 "ChicoryRoasters$Town" "day" "I", Cond.methodLink RX7 89 yX7_checkIndex, Cond.static yX7_checkIndex, Cond.initialized RX7, Cond.code yX7_checkIndex cX7_checkIndex 2 none, Cond.classLink RX7 139 "java/lang/IndexOutOfBoundsException", Cond.initialized "java/lang/IndexOutOfBoundsException", Cond.methodLink RX7 19 yX7_checkNumber, Cond.static yX7_checkNumber, Cond.code yX7_checkNumber cX7_checkNumber 3 none, Cond.classLink RX7 182 "java/lang/IllegalArgumentException", Cond.initialized "java/lang/IllegalArgumentException", Cond.methodLink RX7 27 yX7_checkState, Cond.static yX7_checkState, Cond.code yX7_checkState cX7_checkState 1 none, Cond.classLink RX7 187 "java/lang/IllegalStateException", Cond.initialized "java/lang/IllegalStateException", Cond.methodLink RX7 160 yX3_daysToBorder, Cond.instanceMethod yX3_daysToBorder, Cond.selects RX3 yX3_daysToBorder yX3_daysToBorder]
def wsX7_caught_r2 : List Cond := [Cond.initialized RX3, Cond.code yX3_daysToBorder cX3_daysToBorder 1 (some .int), Cond.fieldLink RX3 9 "ChicoryRoasters$Smuggler" "way" "I", Cond.methodLink RX7 163 yX6_patrolled, Cond.instanceMethod yX6_patrolled, Cond.selects RX6 yX6_patrolled yX6_patrolled, Cond.initialized RX6, Cond.code yX6_patrolled cX6_patrolled 2 (some .boolean), Cond.fieldLink RX6 46 "ChicoryRoasters$Town" "patrol" "I"]
def wsX7_caught : List Cond := .code yX7_caught cX7_caught 3 (some .boolean) :: ((wsX7_caught_r1 ++ wsX7_caught_r2) ++ wsX70 ++ wsX60 ++ wsX30 ++ (vx_atS RX7 143 "java/lang/IndexOutOfBoundsException" ["java/lang/RuntimeException", "java/lang/Exception"]).filter goodWord ++ (vx_atS RX7 186 "java/lang/IllegalArgumentException" ["java/lang/RuntimeException", "java/lang/Exception"]).filter goodWord ++ (vx_atS RX7 191 "java/lang/IllegalStateException" ["java/lang/RuntimeException", "java/lang/Exception"]).filter goodWord)
def wsX7_advise_r1 : List Cond := [Cond.fieldLink RX7 16 "ChicoryRoasters" "trial" "LChicoryRoasters$Town;", Cond.fieldLink RX7 10 "ChicoryRoasters" "town" "LChicoryRoasters$Town;", Cond.fieldLink RX7 80 "ChicoryRoasters$Town" "store" "LChicoryRoasters$Store;", Cond.fieldLink RX7 84 "ChicoryRoasters$Store" "share" "I", Cond.methodLink RX7 19 yX7_checkNumber, Cond.static yX7_checkNumber, Cond.initialized RX7, Cond.code yX7_checkNumber cX7_checkNumber 3 none, Cond.classLink RX7 182 "java/lang/IllegalArgumentException", Cond.initialized "java/lang/IllegalArgumentException", Cond.methodLink RX7 146 yX6_become, Cond.instanceMethod yX6_become, Cond.selects RX6 yX6_become yX6_become, Cond.initialized RX6, Cond.code yX6_become cX6_become 3 none, Cond.fieldLink RX6 63 "ChicoryRoasters$Town" "day" "I", Cond.fieldLink RX6 46 "ChicoryRoasters$Town" "patrol" "I", Cond.fieldLink RX6 38 "ChicoryRoasters$Town" "store" "LChicoryRoasters$Store;", Cond.fieldLink RX6 84 "ChicoryRoasters$Town" "bedCount" "I", Cond.fieldLink RX6 11 "ChicoryRoasters$Town" "beds" "[LChicoryRoasters$Bed;", Cond.fieldLink RX6 80 "ChicoryRoasters$Town" "drumCount" "I", Cond.fieldLink RX6 19 "ChicoryRoasters$Town" "drums" "[LChicoryRoasters$Drum;", Cond.fieldLink RX6 66 "ChicoryRoasters$Town" "smugglerCount" "I", Cond.fieldLink RX6 25 "ChicoryRoasters$Town" "smugglers" "[LChicoryRoasters$Smuggler;"]
def wsX7_advise_r2 : List Cond := [Cond.fieldLink RX6 88 "ChicoryRoasters$Town" "cardCount" "I", Cond.fieldLink RX6 31 "ChicoryRoasters$Town" "cards" "[LChicoryRoasters$Card;", Cond.methodLink RX6 98 yX4_become, Cond.instanceMethod yX4_become, Cond.selects RX4 yX4_become yX4_become, Cond.initialized RX4, Cond.code yX4_become cX4_become 2 none, Cond.fieldLink RX4 15 "ChicoryRoasters$Store" "roots" "I", Cond.fieldLink RX4 18 "ChicoryRoasters$Store" "beans" "I", Cond.fieldLink RX4 21 "ChicoryRoasters$Store" "chicory" "I", Cond.fieldLink RX4 24 "ChicoryRoasters$Store" "coffee" "I", Cond.fieldLink RX4 9 "ChicoryRoasters$Store" "share" "I", Cond.fieldLink RX4 36 "ChicoryRoasters$Store" "served" "I", Cond.fieldLink RX4 33 "ChicoryRoasters$Store" "thinned" "I", Cond.methodLink RX6 102 yX0_become, Cond.instanceMethod yX0_become, Cond.selects RX0 yX0_become yX0_become, Cond.initialized RX0, Cond.code yX0_become cX0_become 2 none, Cond.fieldLink RX0 7 "ChicoryRoasters$Bed" "grows" "I", Cond.fieldLink RX0 13 "ChicoryRoasters$Bed" "most" "I", Cond.fieldLink RX0 16 "ChicoryRoasters$Bed" "roots" "I", Cond.methodLink RX6 105 yX2_become, Cond.instanceMethod yX2_become]
def wsX7_advise_r3 : List Cond := [Cond.selects RX2 yX2_become yX2_become, Cond.initialized RX2, Cond.code yX2_become cX2_become 2 none, Cond.fieldLink RX2 15 "ChicoryRoasters$Drum" "holds" "I", Cond.fieldLink RX2 18 "ChicoryRoasters$Drum" "heat" "I", Cond.fieldLink RX2 9 "ChicoryRoasters$Drum" "kind" "I", Cond.fieldLink RX2 21 "ChicoryRoasters$Drum" "much" "I", Cond.fieldLink RX2 24 "ChicoryRoasters$Drum" "level" "I", Cond.methodLink RX6 108 yX3_become, Cond.instanceMethod yX3_become, Cond.selects RX3 yX3_become yX3_become, Cond.initialized RX3, Cond.code yX3_become cX3_become 2 none, Cond.fieldLink RX3 9 "ChicoryRoasters$Smuggler" "way" "I", Cond.fieldLink RX3 15 "ChicoryRoasters$Smuggler" "cargo" "I", Cond.fieldLink RX3 18 "ChicoryRoasters$Smuggler" "where" "I", Cond.fieldLink RX3 21 "ChicoryRoasters$Smuggler" "left" "I", Cond.fieldLink RX3 24 "ChicoryRoasters$Smuggler" "arrests" "I", Cond.methodLink RX6 111 yX1_become, Cond.instanceMethod yX1_become, Cond.selects RX1 yX1_become yX1_become, Cond.initialized RX1, Cond.code yX1_become cX1_become 2 none, Cond.fieldLink RX1 9 "ChicoryRoasters$Card" "allotted" "I"]
def wsX7_advise_r4 : List Cond := [Cond.fieldLink RX1 15 "ChicoryRoasters$Card" "picky" "I", Cond.fieldLink RX1 18 "ChicoryRoasters$Card" "left" "I", Cond.fieldLink RX1 42 "ChicoryRoasters$Card" "served" "I", Cond.fieldLink RX1 35 "ChicoryRoasters$Card" "refused" "I", Cond.methodLink RX7 136 yX6_live, Cond.instanceMethod yX6_live, Cond.selects RX6 yX6_live yX6_live, Cond.code yX6_live cX6_live 4 (some .int), Cond.methodLink RX6 50 yX6_travel, Cond.instanceMethod yX6_travel, Cond.selects RX6 yX6_travel yX6_travel, Cond.code yX6_travel cX6_travel 2 none, Cond.methodLink RX6 69 yX6_patrolled, Cond.instanceMethod yX6_patrolled, Cond.selects RX6 yX6_patrolled yX6_patrolled, Cond.code yX6_patrolled cX6_patrolled 2 (some .boolean), Cond.methodLink RX6 73 yX3_travel, Cond.instanceMethod yX3_travel, Cond.selects RX3 yX3_travel yX3_travel, Cond.code yX3_travel cX3_travel 2 (some .int), Cond.methodLink RX3 27 yX3_comeHome, Cond.instanceMethod yX3_comeHome, Cond.selects RX3 yX3_comeHome yX3_comeHome, Cond.code yX3_comeHome cX3_comeHome 2 (some .int)]
def wsX7_advise_r5 : List Cond := [Cond.methodLink RX6 76 yX4_add, Cond.instanceMethod yX4_add, Cond.selects RX4 yX4_add yX4_add, Cond.code yX4_add cX4_add 3 none, Cond.methodLink RX6 53 yX6_warm, Cond.instanceMethod yX6_warm, Cond.selects RX6 yX6_warm yX6_warm, Cond.code yX6_warm cX6_warm 2 none, Cond.methodLink RX6 83 yX2_warm, Cond.instanceMethod yX2_warm, Cond.selects RX2 yX2_warm yX2_warm, Cond.code yX2_warm cX2_warm 1 none, Cond.methodLink RX2 27 yX2_levelAfter, Cond.instanceMethod yX2_levelAfter, Cond.selects RX2 yX2_levelAfter yX2_levelAfter, Cond.code yX2_levelAfter cX2_levelAfter 2 (some .int), Cond.methodLink RX2 35 Lib.Math.min.name, Cond.static Lib.Math.min.name, Cond.initialized "java/lang/Math", Cond.code Lib.Math.min.name Lib.Math.min.code 2 (some .int), Cond.methodLink RX2 31 yX2_burnt, Cond.instanceMethod yX2_burnt, Cond.selects RX2 yX2_burnt yX2_burnt, Cond.code yX2_burnt cX2_burnt 1 (some .int)]
def wsX7_advise_r6 : List Cond := [Cond.methodLink RX6 56 yX6_grow, Cond.instanceMethod yX6_grow, Cond.selects RX6 yX6_grow yX6_grow, Cond.code yX6_grow cX6_grow 2 none, Cond.methodLink RX6 87 yX0_grow, Cond.instanceMethod yX0_grow, Cond.selects RX0 yX0_grow yX0_grow, Cond.code yX0_grow cX0_grow 1 none, Cond.methodLink RX0 19 Lib.Math.min.name, Cond.methodLink RX6 59 yX6_serve, Cond.instanceMethod yX6_serve, Cond.selects RX6 yX6_serve yX6_serve, Cond.code yX6_serve cX6_serve 3 (some .int), Cond.methodLink RX6 91 yX1_renew, Cond.instanceMethod yX1_renew, Cond.selects RX1 yX1_renew yX1_renew, Cond.code yX1_renew cX1_renew 1 none, Cond.methodLink RX6 94 yX1_serveDay, Cond.instanceMethod yX1_serveDay, Cond.selects RX1 yX1_serveDay yX1_serveDay, Cond.code yX1_serveDay cX1_serveDay 3 (some .int), Cond.methodLink RX1 21 yX1_serveOne, Cond.instanceMethod yX1_serveOne, Cond.selects RX1 yX1_serveOne yX1_serveOne]
def wsX7_advise_r7 : List Cond := [Cond.code yX1_serveOne cX1_serveOne 3 (some .boolean), Cond.methodLink RX1 25 yX4_coffeeOfPortion, Cond.instanceMethod yX4_coffeeOfPortion, Cond.selects RX4 yX4_coffeeOfPortion yX4_coffeeOfPortion, Cond.code yX4_coffeeOfPortion cX4_coffeeOfPortion 1 (some .int), Cond.methodLink RX4 27 Lib.Math.min.name, Cond.methodLink RX1 31 yX4_canMix, Cond.instanceMethod yX4_canMix, Cond.selects RX4 yX4_canMix yX4_canMix, Cond.code yX4_canMix cX4_canMix 2 (some .boolean), Cond.methodLink RX1 38 yX4_servePortion, Cond.instanceMethod yX4_servePortion, Cond.selects RX4 yX4_servePortion yX4_servePortion, Cond.code yX4_servePortion cX4_servePortion 2 none]
def wsX7_advise : List Cond := .code yX7_advise cX7_advise 6 (some .int) :: ((wsX7_advise_r1 ++ (wsX7_advise_r2 ++ (wsX7_advise_r3 ++ (wsX7_advise_r4 ++ (wsX7_advise_r5 ++ (wsX7_advise_r6 ++ wsX7_advise_r7)))))) ++ wsX70 ++ wsX60 ++ wsX40 ++ wsX00 ++ wsX20 ++ wsX30 ++ wsX10 ++ (vx_atS RX7 186 "java/lang/IllegalArgumentException" ["java/lang/RuntimeException", "java/lang/Exception"]).filter goodWord)
def wsX7_mean : List Cond := .code yX7_mean cX7_mean 1 (some .double) :: ([.fieldLink RX7 10 "ChicoryRoasters" "town" "LChicoryRoasters$Town;", .fieldLink RX7 65 "ChicoryRoasters$Town" "cardCount" "I", .fieldLink RX7 80 "ChicoryRoasters$Town" "store" "LChicoryRoasters$Store;", .fieldLink RX7 167 "ChicoryRoasters$Store" "served" "I"] ++ wsX70 ++ wsX60 ++ wsX40)
def wsX7_digest_r1 : List Cond := [Cond.fieldLink RX7 10 "ChicoryRoasters" "town" "LChicoryRoasters$Town;", Cond.constantLong RX7 170 (1723), Cond.fieldLink RX7 23 "ChicoryRoasters$Town" "bedCount" "I", Cond.fieldLink RX7 31 "ChicoryRoasters$Town" "beds" "[LChicoryRoasters$Bed;", Cond.fieldLink RX7 41 "ChicoryRoasters$Town" "drumCount" "I", Cond.fieldLink RX7 44 "ChicoryRoasters$Town" "drums" "[LChicoryRoasters$Drum;", Cond.fieldLink RX7 53 "ChicoryRoasters$Town" "smugglerCount" "I", Cond.fieldLink RX7 56 "ChicoryRoasters$Town" "smugglers" "[LChicoryRoasters$Smuggler;", Cond.fieldLink RX7 65 "ChicoryRoasters$Town" "cardCount" "I", Cond.fieldLink RX7 68 "ChicoryRoasters$Town" "cards" "[LChicoryRoasters$Card;", Cond.methodLink RX7 172 ⟨"ChicoryRoasters$Town", "digestOnto", "(J)J"⟩, Cond.sameMethod "ChicoryRoasters$Town" "ChicoryRoasters$Teller" "digestOnto" "(J)J", Cond.selects RX6 ⟨"ChicoryRoasters$Town", "digestOnto", "(J)J"⟩ yX5_digestOnto, Cond.instanceMethod yX5_digestOnto, Cond.initialized RX5, Cond.code yX5_digestOnto cX5_digestOnto 7 (some .long), Cond.constantLong RX5 13 (31), Cond.methodLink RX5 7 ⟨"ChicoryRoasters$Teller", "size", "()I"⟩, Cond.sameMethod "ChicoryRoasters$Teller" "ChicoryRoasters$Teller" "size" "()I", Cond.selects RX0 ⟨"ChicoryRoasters$Teller", "size", "()I"⟩ yX0_size, Cond.instanceMethod yX0_size, Cond.initialized RX0, Cond.code yX0_size cX0_size 1 (some .int), Cond.selects RX1 ⟨"ChicoryRoasters$Teller", "size", "()I"⟩ yX1_size]
def wsX7_digest_r2 : List Cond := [Cond.instanceMethod yX1_size, Cond.initialized RX1, Cond.code yX1_size cX1_size 1 (some .int), Cond.selects RX2 ⟨"ChicoryRoasters$Teller", "size", "()I"⟩ yX2_size, Cond.instanceMethod yX2_size, Cond.initialized RX2, Cond.code yX2_size cX2_size 1 (some .int), Cond.selects RX3 ⟨"ChicoryRoasters$Teller", "size", "()I"⟩ yX3_size, Cond.instanceMethod yX3_size, Cond.initialized RX3, Cond.code yX3_size cX3_size 1 (some .int), Cond.selects RX6 ⟨"ChicoryRoasters$Teller", "size", "()I"⟩ yX6_size, Cond.instanceMethod yX6_size, Cond.initialized RX6, Cond.code yX6_size cX6_size 1 (some .int), Cond.methodLink RX5 15 ⟨"ChicoryRoasters$Teller", "tell", "(I)I"⟩, Cond.sameMethod "ChicoryRoasters$Teller" "ChicoryRoasters$Teller" "tell" "(I)I", Cond.selects RX0 ⟨"ChicoryRoasters$Teller", "tell", "(I)I"⟩ yX0_tell, Cond.instanceMethod yX0_tell, Cond.code yX0_tell cX0_tell 2 (some .int), Cond.fieldLink RX0 7 "ChicoryRoasters$Bed" "grows" "I", Cond.fieldLink RX0 13 "ChicoryRoasters$Bed" "most" "I", Cond.fieldLink RX0 16 "ChicoryRoasters$Bed" "roots" "I", Cond.selects RX1 ⟨"ChicoryRoasters$Teller", "tell", "(I)I"⟩ yX1_tell]
def wsX7_digest_r3 : List Cond := [Cond.instanceMethod yX1_tell, Cond.code yX1_tell cX1_tell 2 (some .int), Cond.fieldLink RX1 9 "ChicoryRoasters$Card" "allotted" "I", Cond.fieldLink RX1 15 "ChicoryRoasters$Card" "picky" "I", Cond.fieldLink RX1 18 "ChicoryRoasters$Card" "left" "I", Cond.fieldLink RX1 42 "ChicoryRoasters$Card" "served" "I", Cond.fieldLink RX1 35 "ChicoryRoasters$Card" "refused" "I", Cond.selects RX2 ⟨"ChicoryRoasters$Teller", "tell", "(I)I"⟩ yX2_tell, Cond.instanceMethod yX2_tell, Cond.code yX2_tell cX2_tell 2 (some .int), Cond.fieldLink RX2 15 "ChicoryRoasters$Drum" "holds" "I", Cond.fieldLink RX2 18 "ChicoryRoasters$Drum" "heat" "I", Cond.fieldLink RX2 9 "ChicoryRoasters$Drum" "kind" "I", Cond.fieldLink RX2 21 "ChicoryRoasters$Drum" "much" "I", Cond.fieldLink RX2 24 "ChicoryRoasters$Drum" "level" "I", Cond.methodLink RX2 44 yX2_partsAt, Cond.instanceMethod yX2_partsAt, Cond.selects RX2 yX2_partsAt yX2_partsAt, Cond.code yX2_partsAt cX2_partsAt 3 (some .int), Cond.methodLink RX2 41 yX2_done, Cond.instanceMethod yX2_done, Cond.selects RX2 yX2_done yX2_done, Cond.code yX2_done cX2_done 1 (some .int), Cond.methodLink RX2 31 yX2_burnt]
def wsX7_digest_r4 : List Cond := [Cond.instanceMethod yX2_burnt, Cond.selects RX2 yX2_burnt yX2_burnt, Cond.code yX2_burnt cX2_burnt 1 (some .int), Cond.selects RX3 ⟨"ChicoryRoasters$Teller", "tell", "(I)I"⟩ yX3_tell, Cond.instanceMethod yX3_tell, Cond.code yX3_tell cX3_tell 2 (some .int), Cond.fieldLink RX3 9 "ChicoryRoasters$Smuggler" "way" "I", Cond.fieldLink RX3 15 "ChicoryRoasters$Smuggler" "cargo" "I", Cond.fieldLink RX3 18 "ChicoryRoasters$Smuggler" "where" "I", Cond.fieldLink RX3 21 "ChicoryRoasters$Smuggler" "left" "I", Cond.fieldLink RX3 24 "ChicoryRoasters$Smuggler" "arrests" "I", Cond.selects RX6 ⟨"ChicoryRoasters$Teller", "tell", "(I)I"⟩ yX6_tell, Cond.instanceMethod yX6_tell, Cond.code yX6_tell cX6_tell 2 (some .int), Cond.fieldLink RX6 63 "ChicoryRoasters$Town" "day" "I", Cond.fieldLink RX6 38 "ChicoryRoasters$Town" "store" "LChicoryRoasters$Store;", Cond.fieldLink RX6 114 "ChicoryRoasters$Store" "roots" "I", Cond.fieldLink RX6 117 "ChicoryRoasters$Store" "beans" "I", Cond.fieldLink RX6 120 "ChicoryRoasters$Store" "chicory" "I", Cond.fieldLink RX6 123 "ChicoryRoasters$Store" "coffee" "I", Cond.fieldLink RX6 126 "ChicoryRoasters$Store" "served" "I", Cond.fieldLink RX6 129 "ChicoryRoasters$Store" "thinned" "I", Cond.fieldLink RX6 132 "ChicoryRoasters$Store" "share" "I", Cond.fieldLink RX6 46 "ChicoryRoasters$Town" "patrol" "I"]
def wsX7_digest_r5 : List Cond := [Cond.methodLink RX7 176 ⟨"ChicoryRoasters$Bed", "digestOnto", "(J)J"⟩, Cond.sameMethod "ChicoryRoasters$Bed" "ChicoryRoasters$Teller" "digestOnto" "(J)J", Cond.selects RX0 ⟨"ChicoryRoasters$Bed", "digestOnto", "(J)J"⟩ yX5_digestOnto, Cond.methodLink RX7 177 ⟨"ChicoryRoasters$Drum", "digestOnto", "(J)J"⟩, Cond.sameMethod "ChicoryRoasters$Drum" "ChicoryRoasters$Teller" "digestOnto" "(J)J", Cond.selects RX2 ⟨"ChicoryRoasters$Drum", "digestOnto", "(J)J"⟩ yX5_digestOnto, Cond.methodLink RX7 178 ⟨"ChicoryRoasters$Smuggler", "digestOnto", "(J)J"⟩, Cond.sameMethod "ChicoryRoasters$Smuggler" "ChicoryRoasters$Teller" "digestOnto" "(J)J", Cond.selects RX3 ⟨"ChicoryRoasters$Smuggler", "digestOnto", "(J)J"⟩ yX5_digestOnto, Cond.methodLink RX7 179 ⟨"ChicoryRoasters$Card", "digestOnto", "(J)J"⟩, Cond.sameMethod "ChicoryRoasters$Card" "ChicoryRoasters$Teller" "digestOnto" "(J)J", Cond.selects RX1 ⟨"ChicoryRoasters$Card", "digestOnto", "(J)J"⟩ yX5_digestOnto]
def wsX7_digest : List Cond := .code yX7_digest cX7_digest 4 (some .long) :: ((wsX7_digest_r1 ++ (wsX7_digest_r2 ++ (wsX7_digest_r3 ++ (wsX7_digest_r4 ++ wsX7_digest_r5)))) ++ wsX70 ++ wsX60 ++ wsX00 ++ wsX10 ++ wsX20 ++ wsX30 ++ wsX40)
def wsX8_init : List Cond := .code yX8_init cX8_init 1 none :: ([.methodLink RX8 1 objectInit, .instanceMethod objectInit, .code objectInit ⟨#[0xb1]⟩ 1 none, .arrayClass .int, .fieldLink RX8 9 "ChicoryRoastersModel" "bedTold" "[I", .fieldLink RX8 13 "ChicoryRoastersModel" "drumHolds" "[I", .fieldLink RX8 16 "ChicoryRoastersModel" "smugglerTold" "[I", .fieldLink RX8 19 "ChicoryRoastersModel" "cardTold" "[I", .fieldLink RX8 22 "ChicoryRoastersModel" "now" "[I", .fieldLink RX8 25 "ChicoryRoastersModel" "kept" "[I"] ++ wsX80)
def wsX8_thrown : List Cond := .code yX8_thrown cX8_thrown 1 (some .int) :: ([.fieldLink RX8 28 "ChicoryRoastersModel" "thrown" "I"] ++ wsX80)
def wsX8_fail : List Cond := .code yX8_fail cX8_fail 2 (some .int) :: ([.fieldLink RX8 28 "ChicoryRoastersModel" "thrown" "I"] ++ wsX80)
def wsX8_isIn : List Cond := .code yX8_isIn cX8_isIn 3 (some .boolean) :: ([])
def wsX8_isDrum : List Cond := .code yX8_isDrum cX8_isDrum 2 (some .boolean) :: ([.fieldLink RX8 32 "ChicoryRoastersModel" "drums" "I", .methodLink RX8 35 yX8_isIn, .static yX8_isIn, .initialized RX8, .code yX8_isIn cX8_isIn 3 (some .boolean)] ++ wsX80)
def wsX8_isSmuggler : List Cond := .code yX8_isSmuggler cX8_isSmuggler 2 (some .boolean) :: ([.fieldLink RX8 39 "ChicoryRoastersModel" "smugglers" "I", .methodLink RX8 35 yX8_isIn, .static yX8_isIn, .initialized RX8, .code yX8_isIn cX8_isIn 3 (some .boolean)] ++ wsX80)
def wsX8_keep : List Cond := .code yX8_keep cX8_keep 1 none :: ([.fieldLink RX8 22 "ChicoryRoastersModel" "now" "[I", .fieldLink RX8 25 "ChicoryRoastersModel" "kept" "[I", .methodLink RX8 42 arraycopyName, .native arraycopyName, .static arraycopyName, .initialized "java/lang/System"] ++ wsX80)
def wsX8_bringBack : List Cond := .code yX8_bringBack cX8_bringBack 1 none :: ([.fieldLink RX8 25 "ChicoryRoastersModel" "kept" "[I", .fieldLink RX8 22 "ChicoryRoastersModel" "now" "[I", .methodLink RX8 42 arraycopyName, .native arraycopyName, .static arraycopyName, .initialized "java/lang/System"] ++ wsX80)
def wsX8_dr : List Cond := .code yX8_dr cX8_dr 3 (some .int) :: ([.fieldLink RX8 22 "ChicoryRoastersModel" "now" "[I"] ++ wsX80)
def wsX8_letDrum : List Cond := .code yX8_letDrum cX8_letDrum 4 none :: ([.fieldLink RX8 22 "ChicoryRoastersModel" "now" "[I"] ++ wsX80)
def wsX8_sm : List Cond := .code yX8_sm cX8_sm 3 (some .int) :: ([.fieldLink RX8 22 "ChicoryRoastersModel" "now" "[I"] ++ wsX80)
def wsX8_letSmuggler : List Cond := .code yX8_letSmuggler cX8_letSmuggler 4 none :: ([.fieldLink RX8 22 "ChicoryRoastersModel" "now" "[I"] ++ wsX80)
def wsX8_ca : List Cond := .code yX8_ca cX8_ca 3 (some .int) :: ([.fieldLink RX8 22 "ChicoryRoastersModel" "now" "[I"] ++ wsX80)
def wsX8_moreCard : List Cond := .code yX8_moreCard cX8_moreCard 4 none :: ([.fieldLink RX8 22 "ChicoryRoastersModel" "now" "[I"] ++ wsX80)
def wsX8_bed : List Cond := .code yX8_bed cX8_bed 3 (some .int) :: ([.fieldLink RX8 28 "ChicoryRoastersModel" "thrown" "I", .fieldLink RX8 52 "ChicoryRoastersModel" "beds" "I", .fieldLink RX8 9 "ChicoryRoastersModel" "bedTold" "[I", .methodLink RX8 35 yX8_isIn, .static yX8_isIn, .initialized RX8, .code yX8_isIn cX8_isIn 3 (some .boolean), .methodLink RX8 48 yX8_fail, .instanceMethod yX8_fail, .selects RX8 yX8_fail yX8_fail, .code yX8_fail cX8_fail 2 (some .int)] ++ wsX80)
def wsX8_drum : List Cond := .code yX8_drum cX8_drum 3 (some .int) :: ([.fieldLink RX8 28 "ChicoryRoastersModel" "thrown" "I", .fieldLink RX8 32 "ChicoryRoastersModel" "drums" "I", .fieldLink RX8 13 "ChicoryRoastersModel" "drumHolds" "[I", .methodLink RX8 35 yX8_isIn, .static yX8_isIn, .initialized RX8, .code yX8_isIn cX8_isIn 3 (some .boolean), .methodLink RX8 48 yX8_fail, .instanceMethod yX8_fail, .selects RX8 yX8_fail yX8_fail, .code yX8_fail cX8_fail 2 (some .int), .methodLink RX8 55 yX8_letDrum, .instanceMethod yX8_letDrum, .selects RX8 yX8_letDrum yX8_letDrum, .code yX8_letDrum cX8_letDrum 4 none, .fieldLink RX8 22 "ChicoryRoastersModel" "now" "[I"] ++ wsX80)
def wsX8_smuggler : List Cond := .code yX8_smuggler cX8_smuggler 3 (some .int) :: ([.fieldLink RX8 28 "ChicoryRoastersModel" "thrown" "I", .fieldLink RX8 39 "ChicoryRoastersModel" "smugglers" "I", .fieldLink RX8 16 "ChicoryRoastersModel" "smugglerTold" "[I", .methodLink RX8 35 yX8_isIn, .static yX8_isIn, .initialized RX8, .code yX8_isIn cX8_isIn 3 (some .boolean), .methodLink RX8 48 yX8_fail, .instanceMethod yX8_fail, .selects RX8 yX8_fail yX8_fail, .code yX8_fail cX8_fail 2 (some .int)] ++ wsX80)
def wsX8_card : List Cond := .code yX8_card cX8_card 3 (some .int) :: ([.fieldLink RX8 28 "ChicoryRoastersModel" "thrown" "I", .fieldLink RX8 59 "ChicoryRoastersModel" "cards" "I", .fieldLink RX8 19 "ChicoryRoastersModel" "cardTold" "[I", .methodLink RX8 35 yX8_isIn, .static yX8_isIn, .initialized RX8, .code yX8_isIn cX8_isIn 3 (some .boolean), .methodLink RX8 48 yX8_fail, .instanceMethod yX8_fail, .selects RX8 yX8_fail yX8_fail, .code yX8_fail cX8_fail 2 (some .int), .methodLink RX8 62 yX8_moreCard, .instanceMethod yX8_moreCard, .selects RX8 yX8_moreCard yX8_moreCard, .code yX8_moreCard cX8_moreCard 4 none, .fieldLink RX8 22 "ChicoryRoastersModel" "now" "[I"] ++ wsX80)
def wsX8_change : List Cond := .code yX8_change cX8_change 5 (some .int) :: ([.fieldLink RX8 22 "ChicoryRoastersModel" "now" "[I", .methodLink RX8 35 yX8_isIn, .static yX8_isIn, .initialized RX8, .code yX8_isIn cX8_isIn 3 (some .boolean), .methodLink RX8 48 yX8_fail, .instanceMethod yX8_fail, .selects RX8 yX8_fail yX8_fail, .code yX8_fail cX8_fail 2 (some .int), .fieldLink RX8 28 "ChicoryRoastersModel" "thrown" "I"] ++ wsX80)
def wsX8_setPatrol : List Cond := .code yX8_setPatrol cX8_setPatrol 2 (some .int) :: ([.fieldLink RX8 28 "ChicoryRoastersModel" "thrown" "I", .methodLink RX8 65 yX8_change, .instanceMethod yX8_change, .selects RX8 yX8_change yX8_change, .initialized RX8, .code yX8_change cX8_change 5 (some .int), .fieldLink RX8 22 "ChicoryRoastersModel" "now" "[I", .methodLink RX8 35 yX8_isIn, .static yX8_isIn, .code yX8_isIn cX8_isIn 3 (some .boolean), .methodLink RX8 48 yX8_fail, .instanceMethod yX8_fail, .selects RX8 yX8_fail yX8_fail, .code yX8_fail cX8_fail 2 (some .int)] ++ wsX80)
def wsX8_setShare : List Cond := .code yX8_setShare cX8_setShare 2 (some .int) :: ([.fieldLink RX8 28 "ChicoryRoastersModel" "thrown" "I", .methodLink RX8 65 yX8_change, .instanceMethod yX8_change, .selects RX8 yX8_change yX8_change, .initialized RX8, .code yX8_change cX8_change 5 (some .int), .fieldLink RX8 22 "ChicoryRoastersModel" "now" "[I", .methodLink RX8 35 yX8_isIn, .static yX8_isIn, .code yX8_isIn cX8_isIn 3 (some .boolean), .methodLink RX8 48 yX8_fail, .instanceMethod yX8_fail, .selects RX8 yX8_fail yX8_fail, .code yX8_fail cX8_fail 2 (some .int)] ++ wsX80)
def wsX8_setHeat : List Cond := .code yX8_setHeat cX8_setHeat 4 (some .int) :: ([.fieldLink RX8 28 "ChicoryRoastersModel" "thrown" "I", .methodLink RX8 69 yX8_isDrum, .instanceMethod yX8_isDrum, .selects RX8 yX8_isDrum yX8_isDrum, .initialized RX8, .code yX8_isDrum cX8_isDrum 2 (some .boolean), .fieldLink RX8 32 "ChicoryRoastersModel" "drums" "I", .methodLink RX8 35 yX8_isIn, .static yX8_isIn, .code yX8_isIn cX8_isIn 3 (some .boolean), .methodLink RX8 48 yX8_fail, .instanceMethod yX8_fail, .selects RX8 yX8_fail yX8_fail, .code yX8_fail cX8_fail 2 (some .int), .methodLink RX8 73 yX8_dr, .instanceMethod yX8_dr, .selects RX8 yX8_dr yX8_dr, .code yX8_dr cX8_dr 3 (some .int), .fieldLink RX8 22 "ChicoryRoastersModel" "now" "[I", .methodLink RX8 55 yX8_letDrum, .instanceMethod yX8_letDrum, .selects RX8 yX8_letDrum yX8_letDrum, .code yX8_letDrum cX8_letDrum 4 none] ++ wsX80)
def wsX8_dig : List Cond := .code yX8_dig cX8_dig 3 (some .int) :: ([.fieldLink RX8 28 "ChicoryRoastersModel" "thrown" "I", .fieldLink RX8 52 "ChicoryRoastersModel" "beds" "I", .fieldLink RX8 22 "ChicoryRoastersModel" "now" "[I", .methodLink RX8 35 yX8_isIn, .static yX8_isIn, .initialized RX8, .code yX8_isIn cX8_isIn 3 (some .boolean), .methodLink RX8 48 yX8_fail, .instanceMethod yX8_fail, .selects RX8 yX8_fail yX8_fail, .code yX8_fail cX8_fail 2 (some .int)] ++ wsX80)
def wsX8_give : List Cond := .code yX8_give cX8_give 3 (some .int) :: ([.fieldLink RX8 28 "ChicoryRoastersModel" "thrown" "I", .fieldLink RX8 22 "ChicoryRoastersModel" "now" "[I", .methodLink RX8 35 yX8_isIn, .static yX8_isIn, .initialized RX8, .code yX8_isIn cX8_isIn 3 (some .boolean), .methodLink RX8 48 yX8_fail, .instanceMethod yX8_fail, .selects RX8 yX8_fail yX8_fail, .code yX8_fail cX8_fail 2 (some .int)] ++ wsX80)
def wsX8_load : List Cond := .code yX8_load cX8_load 4 (some .int) :: ([.fieldLink RX8 28 "ChicoryRoastersModel" "thrown" "I", .fieldLink RX8 13 "ChicoryRoastersModel" "drumHolds" "[I", .fieldLink RX8 22 "ChicoryRoastersModel" "now" "[I", .methodLink RX8 69 yX8_isDrum, .instanceMethod yX8_isDrum, .selects RX8 yX8_isDrum yX8_isDrum, .initialized RX8, .code yX8_isDrum cX8_isDrum 2 (some .boolean), .fieldLink RX8 32 "ChicoryRoastersModel" "drums" "I", .methodLink RX8 35 yX8_isIn, .static yX8_isIn, .code yX8_isIn cX8_isIn 3 (some .boolean), .methodLink RX8 48 yX8_fail, .instanceMethod yX8_fail, .selects RX8 yX8_fail yX8_fail, .code yX8_fail cX8_fail 2 (some .int), .methodLink RX8 73 yX8_dr, .instanceMethod yX8_dr, .selects RX8 yX8_dr yX8_dr, .code yX8_dr cX8_dr 3 (some .int), .methodLink RX8 55 yX8_letDrum, .instanceMethod yX8_letDrum, .selects RX8 yX8_letDrum yX8_letDrum, .code yX8_letDrum cX8_letDrum 4 none] ++ wsX80)
def wsX8_yields : List Cond := .code yX8_yields cX8_yields 3 (some .int) :: ([.fieldLink RX8 77 "ChicoryRoastersModel" "DONE" "[I", .fieldLink RX8 80 "ChicoryRoastersModel" "BURNT" "[I", .fieldLink RX8 83 "ChicoryRoastersModel" "TIMES" "[I"])
def wsX8_yieldOf : List Cond := .code yX8_yieldOf cX8_yieldOf 2 (some .int) :: ([.methodLink RX8 73 yX8_dr, .instanceMethod yX8_dr, .selects RX8 yX8_dr yX8_dr, .initialized RX8, .code yX8_dr cX8_dr 3 (some .int), .fieldLink RX8 22 "ChicoryRoastersModel" "now" "[I", .methodLink RX8 86 yX8_yields, .static yX8_yields, .code yX8_yields cX8_yields 3 (some .int), .fieldLink RX8 77 "ChicoryRoastersModel" "DONE" "[I", .fieldLink RX8 80 "ChicoryRoastersModel" "BURNT" "[I", .fieldLink RX8 83 "ChicoryRoastersModel" "TIMES" "[I"] ++ wsX80)
def wsX8_take_r1 : List Cond := [Cond.fieldLink RX8 28 "ChicoryRoastersModel" "thrown" "I", Cond.fieldLink RX8 22 "ChicoryRoastersModel" "now" "[I", Cond.methodLink RX8 69 yX8_isDrum, Cond.instanceMethod yX8_isDrum, Cond.selects RX8 yX8_isDrum yX8_isDrum, Cond.initialized RX8, Cond.code yX8_isDrum cX8_isDrum 2 (some .boolean), Cond.fieldLink RX8 32 "ChicoryRoastersModel" "drums" "I", Cond.methodLink RX8 35 yX8_isIn, Cond.static yX8_isIn, Cond.code yX8_isIn cX8_isIn 3 (some .boolean), Cond.methodLink RX8 48 yX8_fail, Cond.instanceMethod yX8_fail, Cond.selects RX8 yX8_fail yX8_fail, Cond.code yX8_fail cX8_fail 2 (some .int), Cond.methodLink RX8 73 yX8_dr, Cond.instanceMethod yX8_dr, Cond.selects RX8 yX8_dr yX8_dr, Cond.code yX8_dr cX8_dr 3 (some .int), Cond.methodLink RX8 89 yX8_yieldOf, Cond.instanceMethod yX8_yieldOf, Cond.selects RX8 yX8_yieldOf yX8_yieldOf, Cond.code yX8_yieldOf cX8_yieldOf 2 (some .int), Cond.methodLink RX8 86 yX8_yields]
def wsX8_take_r2 : List Cond := [Cond.static yX8_yields, Cond.code yX8_yields cX8_yields 3 (some .int), Cond.fieldLink RX8 77 "ChicoryRoastersModel" "DONE" "[I", Cond.fieldLink RX8 80 "ChicoryRoastersModel" "BURNT" "[I", Cond.fieldLink RX8 83 "ChicoryRoastersModel" "TIMES" "[I", Cond.methodLink RX8 55 yX8_letDrum, Cond.instanceMethod yX8_letDrum, Cond.selects RX8 yX8_letDrum yX8_letDrum, Cond.code yX8_letDrum cX8_letDrum 4 none]
def wsX8_take : List Cond := .code yX8_take cX8_take 3 (some .int) :: ((wsX8_take_r1 ++ wsX8_take_r2) ++ wsX80)
def wsX8_send : List Cond := .code yX8_send cX8_send 2 (some .int) :: ([.fieldLink RX8 28 "ChicoryRoastersModel" "thrown" "I", .fieldLink RX8 16 "ChicoryRoastersModel" "smugglerTold" "[I", .methodLink RX8 92 yX8_isSmuggler, .instanceMethod yX8_isSmuggler, .selects RX8 yX8_isSmuggler yX8_isSmuggler, .initialized RX8, .code yX8_isSmuggler cX8_isSmuggler 2 (some .boolean), .fieldLink RX8 39 "ChicoryRoastersModel" "smugglers" "I", .methodLink RX8 35 yX8_isIn, .static yX8_isIn, .code yX8_isIn cX8_isIn 3 (some .boolean), .methodLink RX8 48 yX8_fail, .instanceMethod yX8_fail, .selects RX8 yX8_fail yX8_fail, .code yX8_fail cX8_fail 2 (some .int), .methodLink RX8 95 yX8_sm, .instanceMethod yX8_sm, .selects RX8 yX8_sm yX8_sm, .code yX8_sm cX8_sm 3 (some .int), .fieldLink RX8 22 "ChicoryRoastersModel" "now" "[I", .methodLink RX8 98 yX8_letSmuggler, .instanceMethod yX8_letSmuggler, .selects RX8 yX8_letSmuggler yX8_letSmuggler, .code yX8_letSmuggler cX8_letSmuggler 4 none] ++ wsX80)
def wsX8_bedIs : List Cond := .code yX8_bedIs cX8_bedIs 3 (some .int) :: ([.fieldLink RX8 9 "ChicoryRoastersModel" "bedTold" "[I", .fieldLink RX8 22 "ChicoryRoastersModel" "now" "[I"] ++ wsX80)
def wsX8_about : List Cond := .code yX8_about cX8_about 3 (some .int) :: ([.fieldLink RX8 28 "ChicoryRoastersModel" "thrown" "I", .fieldLink RX8 52 "ChicoryRoastersModel" "beds" "I", .methodLink RX8 35 yX8_isIn, .static yX8_isIn, .initialized RX8, .code yX8_isIn cX8_isIn 3 (some .boolean), .methodLink RX8 101 yX8_bedIs, .instanceMethod yX8_bedIs, .selects RX8 yX8_bedIs yX8_bedIs, .code yX8_bedIs cX8_bedIs 3 (some .int), .fieldLink RX8 9 "ChicoryRoastersModel" "bedTold" "[I", .fieldLink RX8 22 "ChicoryRoastersModel" "now" "[I", .methodLink RX8 48 yX8_fail, .instanceMethod yX8_fail, .selects RX8 yX8_fail yX8_fail, .code yX8_fail cX8_fail 2 (some .int)] ++ wsX80)
def wsX8_drumIs : List Cond := .code yX8_drumIs cX8_drumIs 3 (some .int) :: ([.fieldLink RX8 13 "ChicoryRoastersModel" "drumHolds" "[I", .methodLink RX8 89 yX8_yieldOf, .instanceMethod yX8_yieldOf, .selects RX8 yX8_yieldOf yX8_yieldOf, .initialized RX8, .code yX8_yieldOf cX8_yieldOf 2 (some .int), .methodLink RX8 73 yX8_dr, .instanceMethod yX8_dr, .selects RX8 yX8_dr yX8_dr, .code yX8_dr cX8_dr 3 (some .int), .fieldLink RX8 22 "ChicoryRoastersModel" "now" "[I", .methodLink RX8 86 yX8_yields, .static yX8_yields, .code yX8_yields cX8_yields 3 (some .int), .fieldLink RX8 77 "ChicoryRoastersModel" "DONE" "[I", .fieldLink RX8 80 "ChicoryRoastersModel" "BURNT" "[I", .fieldLink RX8 83 "ChicoryRoastersModel" "TIMES" "[I"] ++ wsX80)
def wsX8_roast_r1 : List Cond := [Cond.fieldLink RX8 28 "ChicoryRoastersModel" "thrown" "I", Cond.methodLink RX8 69 yX8_isDrum, Cond.instanceMethod yX8_isDrum, Cond.selects RX8 yX8_isDrum yX8_isDrum, Cond.initialized RX8, Cond.code yX8_isDrum cX8_isDrum 2 (some .boolean), Cond.fieldLink RX8 32 "ChicoryRoastersModel" "drums" "I", Cond.methodLink RX8 35 yX8_isIn, Cond.static yX8_isIn, Cond.code yX8_isIn cX8_isIn 3 (some .boolean), Cond.methodLink RX8 104 yX8_drumIs, Cond.instanceMethod yX8_drumIs, Cond.selects RX8 yX8_drumIs yX8_drumIs, Cond.code yX8_drumIs cX8_drumIs 3 (some .int), Cond.fieldLink RX8 13 "ChicoryRoastersModel" "drumHolds" "[I", Cond.methodLink RX8 89 yX8_yieldOf, Cond.instanceMethod yX8_yieldOf, Cond.selects RX8 yX8_yieldOf yX8_yieldOf, Cond.code yX8_yieldOf cX8_yieldOf 2 (some .int), Cond.methodLink RX8 73 yX8_dr, Cond.instanceMethod yX8_dr, Cond.selects RX8 yX8_dr yX8_dr, Cond.code yX8_dr cX8_dr 3 (some .int), Cond.fieldLink RX8 22 "ChicoryRoastersModel" "now" "[I"]
def wsX8_roast_r2 : List Cond := [Cond.methodLink RX8 86 yX8_yields, Cond.static yX8_yields, Cond.code yX8_yields cX8_yields 3 (some .int), Cond.fieldLink RX8 77 "ChicoryRoastersModel" "DONE" "[I", Cond.fieldLink RX8 80 "ChicoryRoastersModel" "BURNT" "[I", Cond.fieldLink RX8 83 "ChicoryRoastersModel" "TIMES" "[I", Cond.methodLink RX8 48 yX8_fail, Cond.instanceMethod yX8_fail, Cond.selects RX8 yX8_fail yX8_fail, Cond.code yX8_fail cX8_fail 2 (some .int)]
def wsX8_roast : List Cond := .code yX8_roast cX8_roast 3 (some .int) :: ((wsX8_roast_r1 ++ wsX8_roast_r2) ++ wsX80)
def wsX8_smugglerIs : List Cond := .code yX8_smugglerIs cX8_smugglerIs 3 (some .int) :: ([.fieldLink RX8 16 "ChicoryRoastersModel" "smugglerTold" "[I", .methodLink RX8 95 yX8_sm, .instanceMethod yX8_sm, .selects RX8 yX8_sm yX8_sm, .initialized RX8, .code yX8_sm cX8_sm 3 (some .int), .fieldLink RX8 22 "ChicoryRoastersModel" "now" "[I"] ++ wsX80)
def wsX8_told : List Cond := .code yX8_told cX8_told 3 (some .int) :: ([.fieldLink RX8 28 "ChicoryRoastersModel" "thrown" "I", .methodLink RX8 92 yX8_isSmuggler, .instanceMethod yX8_isSmuggler, .selects RX8 yX8_isSmuggler yX8_isSmuggler, .initialized RX8, .code yX8_isSmuggler cX8_isSmuggler 2 (some .boolean), .fieldLink RX8 39 "ChicoryRoastersModel" "smugglers" "I", .methodLink RX8 35 yX8_isIn, .static yX8_isIn, .code yX8_isIn cX8_isIn 3 (some .boolean), .methodLink RX8 107 yX8_smugglerIs, .instanceMethod yX8_smugglerIs, .selects RX8 yX8_smugglerIs yX8_smugglerIs, .code yX8_smugglerIs cX8_smugglerIs 3 (some .int), .fieldLink RX8 16 "ChicoryRoastersModel" "smugglerTold" "[I", .methodLink RX8 95 yX8_sm, .instanceMethod yX8_sm, .selects RX8 yX8_sm yX8_sm, .code yX8_sm cX8_sm 3 (some .int), .fieldLink RX8 22 "ChicoryRoastersModel" "now" "[I", .methodLink RX8 48 yX8_fail, .instanceMethod yX8_fail, .selects RX8 yX8_fail yX8_fail, .code yX8_fail cX8_fail 2 (some .int)] ++ wsX80)
def wsX8_cardIs : List Cond := .code yX8_cardIs cX8_cardIs 3 (some .int) :: ([.fieldLink RX8 19 "ChicoryRoastersModel" "cardTold" "[I", .methodLink RX8 110 yX8_ca, .instanceMethod yX8_ca, .selects RX8 yX8_ca yX8_ca, .initialized RX8, .code yX8_ca cX8_ca 3 (some .int), .fieldLink RX8 22 "ChicoryRoastersModel" "now" "[I"] ++ wsX80)
def wsX8_ration : List Cond := .code yX8_ration cX8_ration 3 (some .int) :: ([.fieldLink RX8 28 "ChicoryRoastersModel" "thrown" "I", .fieldLink RX8 59 "ChicoryRoastersModel" "cards" "I", .methodLink RX8 35 yX8_isIn, .static yX8_isIn, .initialized RX8, .code yX8_isIn cX8_isIn 3 (some .boolean), .methodLink RX8 113 yX8_cardIs, .instanceMethod yX8_cardIs, .selects RX8 yX8_cardIs yX8_cardIs, .code yX8_cardIs cX8_cardIs 3 (some .int), .fieldLink RX8 19 "ChicoryRoastersModel" "cardTold" "[I", .methodLink RX8 110 yX8_ca, .instanceMethod yX8_ca, .selects RX8 yX8_ca yX8_ca, .code yX8_ca cX8_ca 3 (some .int), .fieldLink RX8 22 "ChicoryRoastersModel" "now" "[I", .methodLink RX8 48 yX8_fail, .instanceMethod yX8_fail, .selects RX8 yX8_fail yX8_fail, .code yX8_fail cX8_fail 2 (some .int)] ++ wsX80)
def wsX8_count : List Cond := .code yX8_count cX8_count 2 (some .int) :: ([.fieldLink RX8 28 "ChicoryRoastersModel" "thrown" "I", .fieldLink RX8 22 "ChicoryRoastersModel" "now" "[I", .methodLink RX8 35 yX8_isIn, .static yX8_isIn, .initialized RX8, .code yX8_isIn cX8_isIn 3 (some .boolean), .methodLink RX8 48 yX8_fail, .instanceMethod yX8_fail, .selects RX8 yX8_fail yX8_fail, .code yX8_fail cX8_fail 2 (some .int)] ++ wsX80)
def wsX8_isPatrol : List Cond := .code yX8_isPatrol cX8_isPatrol 2 (some .boolean) :: ([.fieldLink RX8 22 "ChicoryRoastersModel" "now" "[I"] ++ wsX80)
def wsX8_goOn : List Cond := .code yX8_goOn cX8_goOn 4 none :: ([.fieldLink RX8 16 "ChicoryRoastersModel" "smugglerTold" "[I", .fieldLink RX8 22 "ChicoryRoastersModel" "now" "[I", .methodLink RX8 95 yX8_sm, .instanceMethod yX8_sm, .selects RX8 yX8_sm yX8_sm, .initialized RX8, .code yX8_sm cX8_sm 3 (some .int), .methodLink RX8 116 yX8_isPatrol, .instanceMethod yX8_isPatrol, .selects RX8 yX8_isPatrol yX8_isPatrol, .code yX8_isPatrol cX8_isPatrol 2 (some .boolean), .methodLink RX8 98 yX8_letSmuggler, .instanceMethod yX8_letSmuggler, .selects RX8 yX8_letSmuggler yX8_letSmuggler, .code yX8_letSmuggler cX8_letSmuggler 4 none] ++ wsX80)
def wsX8_serve : List Cond := .code yX8_serve cX8_serve 3 (some .boolean) :: ([.fieldLink RX8 22 "ChicoryRoastersModel" "now" "[I", .methodLink RX8 119 Lib.Math.min.name, .static Lib.Math.min.name, .initialized "java/lang/Math", .code Lib.Math.min.name Lib.Math.min.code 2 (some .int), .fieldLink RX8 19 "ChicoryRoastersModel" "cardTold" "[I", .methodLink RX8 110 yX8_ca, .instanceMethod yX8_ca, .selects RX8 yX8_ca yX8_ca, .initialized RX8, .code yX8_ca cX8_ca 3 (some .int), .methodLink RX8 62 yX8_moreCard, .instanceMethod yX8_moreCard, .selects RX8 yX8_moreCard yX8_moreCard, .code yX8_moreCard cX8_moreCard 4 none] ++ wsX80)
def wsX8_dayOn_r1 : List Cond := [Cond.fieldLink RX8 39 "ChicoryRoastersModel" "smugglers" "I", Cond.fieldLink RX8 32 "ChicoryRoastersModel" "drums" "I", Cond.fieldLink RX8 80 "ChicoryRoastersModel" "BURNT" "[I", Cond.methodLink RX8 119 Lib.Math.min.name, Cond.static Lib.Math.min.name, Cond.initialized "java/lang/Math", Cond.code Lib.Math.min.name Lib.Math.min.code 2 (some .int), Cond.fieldLink RX8 52 "ChicoryRoastersModel" "beds" "I", Cond.fieldLink RX8 22 "ChicoryRoastersModel" "now" "[I", Cond.fieldLink RX8 9 "ChicoryRoastersModel" "bedTold" "[I", Cond.fieldLink RX8 59 "ChicoryRoastersModel" "cards" "I", Cond.fieldLink RX8 19 "ChicoryRoastersModel" "cardTold" "[I", Cond.methodLink RX8 95 yX8_sm, Cond.instanceMethod yX8_sm, Cond.selects RX8 yX8_sm yX8_sm, Cond.initialized RX8, Cond.code yX8_sm cX8_sm 3 (some .int), Cond.methodLink RX8 124 yX8_goOn, Cond.instanceMethod yX8_goOn, Cond.selects RX8 yX8_goOn yX8_goOn, Cond.code yX8_goOn cX8_goOn 4 none, Cond.fieldLink RX8 16 "ChicoryRoastersModel" "smugglerTold" "[I", Cond.methodLink RX8 116 yX8_isPatrol, Cond.instanceMethod yX8_isPatrol]
def wsX8_dayOn_r2 : List Cond := [Cond.selects RX8 yX8_isPatrol yX8_isPatrol, Cond.code yX8_isPatrol cX8_isPatrol 2 (some .boolean), Cond.methodLink RX8 98 yX8_letSmuggler, Cond.instanceMethod yX8_letSmuggler, Cond.selects RX8 yX8_letSmuggler yX8_letSmuggler, Cond.code yX8_letSmuggler cX8_letSmuggler 4 none, Cond.methodLink RX8 73 yX8_dr, Cond.instanceMethod yX8_dr, Cond.selects RX8 yX8_dr yX8_dr, Cond.code yX8_dr cX8_dr 3 (some .int), Cond.methodLink RX8 55 yX8_letDrum, Cond.instanceMethod yX8_letDrum, Cond.selects RX8 yX8_letDrum yX8_letDrum, Cond.code yX8_letDrum cX8_letDrum 4 none, Cond.methodLink RX8 128 yX8_serve, Cond.instanceMethod yX8_serve, Cond.selects RX8 yX8_serve yX8_serve, Cond.code yX8_serve cX8_serve 3 (some .boolean), Cond.methodLink RX8 110 yX8_ca, Cond.instanceMethod yX8_ca, Cond.selects RX8 yX8_ca yX8_ca, Cond.code yX8_ca cX8_ca 3 (some .int), Cond.methodLink RX8 62 yX8_moreCard, Cond.instanceMethod yX8_moreCard]
def wsX8_dayOn_r3 : List Cond := [Cond.selects RX8 yX8_moreCard yX8_moreCard, Cond.code yX8_moreCard cX8_moreCard 4 none]
def wsX8_dayOn : List Cond := .code yX8_dayOn cX8_dayOn 3 none :: ((wsX8_dayOn_r1 ++ (wsX8_dayOn_r2 ++ wsX8_dayOn_r3)) ++ wsX80)
def wsX8_daysOn_r1 : List Cond := [Cond.methodLink RX8 131 yX8_dayOn, Cond.instanceMethod yX8_dayOn, Cond.selects RX8 yX8_dayOn yX8_dayOn, Cond.initialized RX8, Cond.code yX8_dayOn cX8_dayOn 3 none, Cond.fieldLink RX8 39 "ChicoryRoastersModel" "smugglers" "I", Cond.fieldLink RX8 32 "ChicoryRoastersModel" "drums" "I", Cond.fieldLink RX8 80 "ChicoryRoastersModel" "BURNT" "[I", Cond.methodLink RX8 119 Lib.Math.min.name, Cond.static Lib.Math.min.name, Cond.initialized "java/lang/Math", Cond.code Lib.Math.min.name Lib.Math.min.code 2 (some .int), Cond.fieldLink RX8 52 "ChicoryRoastersModel" "beds" "I", Cond.fieldLink RX8 22 "ChicoryRoastersModel" "now" "[I", Cond.fieldLink RX8 9 "ChicoryRoastersModel" "bedTold" "[I", Cond.fieldLink RX8 59 "ChicoryRoastersModel" "cards" "I", Cond.fieldLink RX8 19 "ChicoryRoastersModel" "cardTold" "[I", Cond.methodLink RX8 95 yX8_sm, Cond.instanceMethod yX8_sm, Cond.selects RX8 yX8_sm yX8_sm, Cond.code yX8_sm cX8_sm 3 (some .int), Cond.methodLink RX8 124 yX8_goOn, Cond.instanceMethod yX8_goOn, Cond.selects RX8 yX8_goOn yX8_goOn]
def wsX8_daysOn_r2 : List Cond := [Cond.code yX8_goOn cX8_goOn 4 none, Cond.fieldLink RX8 16 "ChicoryRoastersModel" "smugglerTold" "[I", Cond.methodLink RX8 116 yX8_isPatrol, Cond.instanceMethod yX8_isPatrol, Cond.selects RX8 yX8_isPatrol yX8_isPatrol, Cond.code yX8_isPatrol cX8_isPatrol 2 (some .boolean), Cond.methodLink RX8 98 yX8_letSmuggler, Cond.instanceMethod yX8_letSmuggler, Cond.selects RX8 yX8_letSmuggler yX8_letSmuggler, Cond.code yX8_letSmuggler cX8_letSmuggler 4 none, Cond.methodLink RX8 73 yX8_dr, Cond.instanceMethod yX8_dr, Cond.selects RX8 yX8_dr yX8_dr, Cond.code yX8_dr cX8_dr 3 (some .int), Cond.methodLink RX8 55 yX8_letDrum, Cond.instanceMethod yX8_letDrum, Cond.selects RX8 yX8_letDrum yX8_letDrum, Cond.code yX8_letDrum cX8_letDrum 4 none, Cond.methodLink RX8 128 yX8_serve, Cond.instanceMethod yX8_serve, Cond.selects RX8 yX8_serve yX8_serve, Cond.code yX8_serve cX8_serve 3 (some .boolean), Cond.methodLink RX8 110 yX8_ca, Cond.instanceMethod yX8_ca]
def wsX8_daysOn_r3 : List Cond := [Cond.selects RX8 yX8_ca yX8_ca, Cond.code yX8_ca cX8_ca 3 (some .int), Cond.methodLink RX8 62 yX8_moreCard, Cond.instanceMethod yX8_moreCard, Cond.selects RX8 yX8_moreCard yX8_moreCard, Cond.code yX8_moreCard cX8_moreCard 4 none]
def wsX8_daysOn : List Cond := .code yX8_daysOn cX8_daysOn 3 none :: ((wsX8_daysOn_r1 ++ (wsX8_daysOn_r2 ++ wsX8_daysOn_r3)) ++ wsX80)
def wsX8_pass_r1 : List Cond := [Cond.fieldLink RX8 28 "ChicoryRoastersModel" "thrown" "I", Cond.fieldLink RX8 22 "ChicoryRoastersModel" "now" "[I", Cond.methodLink RX8 35 yX8_isIn, Cond.static yX8_isIn, Cond.initialized RX8, Cond.code yX8_isIn cX8_isIn 3 (some .boolean), Cond.methodLink RX8 48 yX8_fail, Cond.instanceMethod yX8_fail, Cond.selects RX8 yX8_fail yX8_fail, Cond.code yX8_fail cX8_fail 2 (some .int), Cond.methodLink RX8 134 yX8_daysOn, Cond.instanceMethod yX8_daysOn, Cond.selects RX8 yX8_daysOn yX8_daysOn, Cond.code yX8_daysOn cX8_daysOn 3 none, Cond.methodLink RX8 131 yX8_dayOn, Cond.instanceMethod yX8_dayOn, Cond.selects RX8 yX8_dayOn yX8_dayOn, Cond.code yX8_dayOn cX8_dayOn 3 none, Cond.fieldLink RX8 39 "ChicoryRoastersModel" "smugglers" "I", Cond.fieldLink RX8 32 "ChicoryRoastersModel" "drums" "I", Cond.fieldLink RX8 80 "ChicoryRoastersModel" "BURNT" "[I", Cond.methodLink RX8 119 Lib.Math.min.name, Cond.static Lib.Math.min.name, Cond.initialized "java/lang/Math"]
def wsX8_pass_r2 : List Cond := [Cond.code Lib.Math.min.name Lib.Math.min.code 2 (some .int), Cond.fieldLink RX8 52 "ChicoryRoastersModel" "beds" "I", Cond.fieldLink RX8 9 "ChicoryRoastersModel" "bedTold" "[I", Cond.fieldLink RX8 59 "ChicoryRoastersModel" "cards" "I", Cond.fieldLink RX8 19 "ChicoryRoastersModel" "cardTold" "[I", Cond.methodLink RX8 95 yX8_sm, Cond.instanceMethod yX8_sm, Cond.selects RX8 yX8_sm yX8_sm, Cond.code yX8_sm cX8_sm 3 (some .int), Cond.methodLink RX8 124 yX8_goOn, Cond.instanceMethod yX8_goOn, Cond.selects RX8 yX8_goOn yX8_goOn, Cond.code yX8_goOn cX8_goOn 4 none, Cond.fieldLink RX8 16 "ChicoryRoastersModel" "smugglerTold" "[I", Cond.methodLink RX8 116 yX8_isPatrol, Cond.instanceMethod yX8_isPatrol, Cond.selects RX8 yX8_isPatrol yX8_isPatrol, Cond.code yX8_isPatrol cX8_isPatrol 2 (some .boolean), Cond.methodLink RX8 98 yX8_letSmuggler, Cond.instanceMethod yX8_letSmuggler, Cond.selects RX8 yX8_letSmuggler yX8_letSmuggler, Cond.code yX8_letSmuggler cX8_letSmuggler 4 none, Cond.methodLink RX8 73 yX8_dr, Cond.instanceMethod yX8_dr]
def wsX8_pass_r3 : List Cond := [Cond.selects RX8 yX8_dr yX8_dr, Cond.code yX8_dr cX8_dr 3 (some .int), Cond.methodLink RX8 55 yX8_letDrum, Cond.instanceMethod yX8_letDrum, Cond.selects RX8 yX8_letDrum yX8_letDrum, Cond.code yX8_letDrum cX8_letDrum 4 none, Cond.methodLink RX8 128 yX8_serve, Cond.instanceMethod yX8_serve, Cond.selects RX8 yX8_serve yX8_serve, Cond.code yX8_serve cX8_serve 3 (some .boolean), Cond.methodLink RX8 110 yX8_ca, Cond.instanceMethod yX8_ca, Cond.selects RX8 yX8_ca yX8_ca, Cond.code yX8_ca cX8_ca 3 (some .int), Cond.methodLink RX8 62 yX8_moreCard, Cond.instanceMethod yX8_moreCard, Cond.selects RX8 yX8_moreCard yX8_moreCard, Cond.code yX8_moreCard cX8_moreCard 4 none]
def wsX8_pass : List Cond := .code yX8_pass cX8_pass 3 (some .int) :: ((wsX8_pass_r1 ++ (wsX8_pass_r2 ++ wsX8_pass_r3)) ++ wsX80)
def wsX8_behind_r1 : List Cond := [Cond.fieldLink RX8 22 "ChicoryRoastersModel" "now" "[I", Cond.methodLink RX8 134 yX8_daysOn, Cond.instanceMethod yX8_daysOn, Cond.selects RX8 yX8_daysOn yX8_daysOn, Cond.initialized RX8, Cond.code yX8_daysOn cX8_daysOn 3 none, Cond.methodLink RX8 131 yX8_dayOn, Cond.instanceMethod yX8_dayOn, Cond.selects RX8 yX8_dayOn yX8_dayOn, Cond.code yX8_dayOn cX8_dayOn 3 none, Cond.fieldLink RX8 39 "ChicoryRoastersModel" "smugglers" "I", Cond.fieldLink RX8 32 "ChicoryRoastersModel" "drums" "I", Cond.fieldLink RX8 80 "ChicoryRoastersModel" "BURNT" "[I", Cond.methodLink RX8 119 Lib.Math.min.name, Cond.static Lib.Math.min.name, Cond.initialized "java/lang/Math", Cond.code Lib.Math.min.name Lib.Math.min.code 2 (some .int), Cond.fieldLink RX8 52 "ChicoryRoastersModel" "beds" "I", Cond.fieldLink RX8 9 "ChicoryRoastersModel" "bedTold" "[I", Cond.fieldLink RX8 59 "ChicoryRoastersModel" "cards" "I", Cond.fieldLink RX8 19 "ChicoryRoastersModel" "cardTold" "[I", Cond.methodLink RX8 95 yX8_sm, Cond.instanceMethod yX8_sm, Cond.selects RX8 yX8_sm yX8_sm]
def wsX8_behind_r2 : List Cond := [Cond.code yX8_sm cX8_sm 3 (some .int), Cond.methodLink RX8 124 yX8_goOn, Cond.instanceMethod yX8_goOn, Cond.selects RX8 yX8_goOn yX8_goOn, Cond.code yX8_goOn cX8_goOn 4 none, Cond.fieldLink RX8 16 "ChicoryRoastersModel" "smugglerTold" "[I", Cond.methodLink RX8 116 yX8_isPatrol, Cond.instanceMethod yX8_isPatrol, Cond.selects RX8 yX8_isPatrol yX8_isPatrol, Cond.code yX8_isPatrol cX8_isPatrol 2 (some .boolean), Cond.methodLink RX8 98 yX8_letSmuggler, Cond.instanceMethod yX8_letSmuggler, Cond.selects RX8 yX8_letSmuggler yX8_letSmuggler, Cond.code yX8_letSmuggler cX8_letSmuggler 4 none, Cond.methodLink RX8 73 yX8_dr, Cond.instanceMethod yX8_dr, Cond.selects RX8 yX8_dr yX8_dr, Cond.code yX8_dr cX8_dr 3 (some .int), Cond.methodLink RX8 55 yX8_letDrum, Cond.instanceMethod yX8_letDrum, Cond.selects RX8 yX8_letDrum yX8_letDrum, Cond.code yX8_letDrum cX8_letDrum 4 none, Cond.methodLink RX8 128 yX8_serve, Cond.instanceMethod yX8_serve]
def wsX8_behind_r3 : List Cond := [Cond.selects RX8 yX8_serve yX8_serve, Cond.code yX8_serve cX8_serve 3 (some .boolean), Cond.methodLink RX8 110 yX8_ca, Cond.instanceMethod yX8_ca, Cond.selects RX8 yX8_ca yX8_ca, Cond.code yX8_ca cX8_ca 3 (some .int), Cond.methodLink RX8 62 yX8_moreCard, Cond.instanceMethod yX8_moreCard, Cond.selects RX8 yX8_moreCard yX8_moreCard, Cond.code yX8_moreCard cX8_moreCard 4 none, Cond.methodLink RX8 137 yX8_bringBack, Cond.instanceMethod yX8_bringBack, Cond.selects RX8 yX8_bringBack yX8_bringBack, Cond.code yX8_bringBack cX8_bringBack 1 none, Cond.fieldLink RX8 25 "ChicoryRoastersModel" "kept" "[I", Cond.methodLink RX8 42 arraycopyName, Cond.native arraycopyName, Cond.static arraycopyName, Cond.initialized "java/lang/System"]
def wsX8_behind : List Cond := .code yX8_behind cX8_behind 4 (some .int) :: ((wsX8_behind_r1 ++ (wsX8_behind_r2 ++ wsX8_behind_r3)) ++ wsX80)
def wsX8_foresee_r1 : List Cond := [Cond.fieldLink RX8 28 "ChicoryRoastersModel" "thrown" "I", Cond.methodLink RX8 35 yX8_isIn, Cond.static yX8_isIn, Cond.initialized RX8, Cond.code yX8_isIn cX8_isIn 3 (some .boolean), Cond.methodLink RX8 48 yX8_fail, Cond.instanceMethod yX8_fail, Cond.selects RX8 yX8_fail yX8_fail, Cond.code yX8_fail cX8_fail 2 (some .int), Cond.methodLink RX8 140 yX8_keep, Cond.instanceMethod yX8_keep, Cond.selects RX8 yX8_keep yX8_keep, Cond.code yX8_keep cX8_keep 1 none, Cond.fieldLink RX8 22 "ChicoryRoastersModel" "now" "[I", Cond.fieldLink RX8 25 "ChicoryRoastersModel" "kept" "[I", Cond.methodLink RX8 42 arraycopyName, Cond.native arraycopyName, Cond.static arraycopyName, Cond.initialized "java/lang/System", Cond.methodLink RX8 143 yX8_behind, Cond.instanceMethod yX8_behind, Cond.selects RX8 yX8_behind yX8_behind, Cond.code yX8_behind cX8_behind 4 (some .int), Cond.methodLink RX8 134 yX8_daysOn]
def wsX8_foresee_r2 : List Cond := [Cond.instanceMethod yX8_daysOn, Cond.selects RX8 yX8_daysOn yX8_daysOn, Cond.code yX8_daysOn cX8_daysOn 3 none, Cond.methodLink RX8 131 yX8_dayOn, Cond.instanceMethod yX8_dayOn, Cond.selects RX8 yX8_dayOn yX8_dayOn, Cond.code yX8_dayOn cX8_dayOn 3 none, Cond.fieldLink RX8 39 "ChicoryRoastersModel" "smugglers" "I", Cond.fieldLink RX8 32 "ChicoryRoastersModel" "drums" "I", Cond.fieldLink RX8 80 "ChicoryRoastersModel" "BURNT" "[I", Cond.methodLink RX8 119 Lib.Math.min.name, Cond.static Lib.Math.min.name, Cond.initialized "java/lang/Math", Cond.code Lib.Math.min.name Lib.Math.min.code 2 (some .int), Cond.fieldLink RX8 52 "ChicoryRoastersModel" "beds" "I", Cond.fieldLink RX8 9 "ChicoryRoastersModel" "bedTold" "[I", Cond.fieldLink RX8 59 "ChicoryRoastersModel" "cards" "I", Cond.fieldLink RX8 19 "ChicoryRoastersModel" "cardTold" "[I", Cond.methodLink RX8 95 yX8_sm, Cond.instanceMethod yX8_sm, Cond.selects RX8 yX8_sm yX8_sm, Cond.code yX8_sm cX8_sm 3 (some .int), Cond.methodLink RX8 124 yX8_goOn, Cond.instanceMethod yX8_goOn]
def wsX8_foresee_r3 : List Cond := [Cond.selects RX8 yX8_goOn yX8_goOn, Cond.code yX8_goOn cX8_goOn 4 none, Cond.fieldLink RX8 16 "ChicoryRoastersModel" "smugglerTold" "[I", Cond.methodLink RX8 116 yX8_isPatrol, Cond.instanceMethod yX8_isPatrol, Cond.selects RX8 yX8_isPatrol yX8_isPatrol, Cond.code yX8_isPatrol cX8_isPatrol 2 (some .boolean), Cond.methodLink RX8 98 yX8_letSmuggler, Cond.instanceMethod yX8_letSmuggler, Cond.selects RX8 yX8_letSmuggler yX8_letSmuggler, Cond.code yX8_letSmuggler cX8_letSmuggler 4 none, Cond.methodLink RX8 73 yX8_dr, Cond.instanceMethod yX8_dr, Cond.selects RX8 yX8_dr yX8_dr, Cond.code yX8_dr cX8_dr 3 (some .int), Cond.methodLink RX8 55 yX8_letDrum, Cond.instanceMethod yX8_letDrum, Cond.selects RX8 yX8_letDrum yX8_letDrum, Cond.code yX8_letDrum cX8_letDrum 4 none, Cond.methodLink RX8 128 yX8_serve, Cond.instanceMethod yX8_serve, Cond.selects RX8 yX8_serve yX8_serve, Cond.code yX8_serve cX8_serve 3 (some .boolean), Cond.methodLink RX8 110 yX8_ca]
def wsX8_foresee_r4 : List Cond := [Cond.instanceMethod yX8_ca, Cond.selects RX8 yX8_ca yX8_ca, Cond.code yX8_ca cX8_ca 3 (some .int), Cond.methodLink RX8 62 yX8_moreCard, Cond.instanceMethod yX8_moreCard, Cond.selects RX8 yX8_moreCard yX8_moreCard, Cond.code yX8_moreCard cX8_moreCard 4 none, Cond.methodLink RX8 137 yX8_bringBack, Cond.instanceMethod yX8_bringBack, Cond.selects RX8 yX8_bringBack yX8_bringBack, Cond.code yX8_bringBack cX8_bringBack 1 none]
def wsX8_foresee : List Cond := .code yX8_foresee cX8_foresee 3 (some .int) :: ((wsX8_foresee_r1 ++ (wsX8_foresee_r2 ++ (wsX8_foresee_r3 ++ wsX8_foresee_r4))) ++ wsX80)
def wsX8_ready_r1 : List Cond := [Cond.fieldLink RX8 28 "ChicoryRoastersModel" "thrown" "I", Cond.methodLink RX8 69 yX8_isDrum, Cond.instanceMethod yX8_isDrum, Cond.selects RX8 yX8_isDrum yX8_isDrum, Cond.initialized RX8, Cond.code yX8_isDrum cX8_isDrum 2 (some .boolean), Cond.fieldLink RX8 32 "ChicoryRoastersModel" "drums" "I", Cond.methodLink RX8 35 yX8_isIn, Cond.static yX8_isIn, Cond.code yX8_isIn cX8_isIn 3 (some .boolean), Cond.methodLink RX8 48 yX8_fail, Cond.instanceMethod yX8_fail, Cond.selects RX8 yX8_fail yX8_fail, Cond.code yX8_fail cX8_fail 2 (some .int), Cond.methodLink RX8 73 yX8_dr, Cond.instanceMethod yX8_dr, Cond.selects RX8 yX8_dr yX8_dr, Cond.code yX8_dr cX8_dr 3 (some .int), Cond.fieldLink RX8 22 "ChicoryRoastersModel" "now" "[I", Cond.methodLink RX8 86 yX8_yields, Cond.static yX8_yields, Cond.code yX8_yields cX8_yields 3 (some .int), Cond.fieldLink RX8 77 "ChicoryRoastersModel" "DONE" "[I", Cond.fieldLink RX8 80 "ChicoryRoastersModel" "BURNT" "[I"]
def wsX8_ready_r2 : List Cond := [Cond.fieldLink RX8 83 "ChicoryRoastersModel" "TIMES" "[I"]
def wsX8_ready : List Cond := .code yX8_ready cX8_ready 6 (some .int) :: ((wsX8_ready_r1 ++ wsX8_ready_r2) ++ wsX80)
def wsX8_caught : List Cond := .code yX8_caught cX8_caught 4 (some .boolean) :: ([.fieldLink RX8 28 "ChicoryRoastersModel" "thrown" "I", .fieldLink RX8 16 "ChicoryRoastersModel" "smugglerTold" "[I", .fieldLink RX8 22 "ChicoryRoastersModel" "now" "[I", .methodLink RX8 92 yX8_isSmuggler, .instanceMethod yX8_isSmuggler, .selects RX8 yX8_isSmuggler yX8_isSmuggler, .initialized RX8, .code yX8_isSmuggler cX8_isSmuggler 2 (some .boolean), .fieldLink RX8 39 "ChicoryRoastersModel" "smugglers" "I", .methodLink RX8 35 yX8_isIn, .static yX8_isIn, .code yX8_isIn cX8_isIn 3 (some .boolean), .methodLink RX8 95 yX8_sm, .instanceMethod yX8_sm, .selects RX8 yX8_sm yX8_sm, .code yX8_sm cX8_sm 3 (some .int), .methodLink RX8 116 yX8_isPatrol, .instanceMethod yX8_isPatrol, .selects RX8 yX8_isPatrol yX8_isPatrol, .code yX8_isPatrol cX8_isPatrol 2 (some .boolean)] ++ wsX80)
def wsX8_advise_r1 : List Cond := [Cond.fieldLink RX8 28 "ChicoryRoastersModel" "thrown" "I", Cond.fieldLink RX8 22 "ChicoryRoastersModel" "now" "[I", Cond.methodLink RX8 35 yX8_isIn, Cond.static yX8_isIn, Cond.initialized RX8, Cond.code yX8_isIn cX8_isIn 3 (some .boolean), Cond.methodLink RX8 48 yX8_fail, Cond.instanceMethod yX8_fail, Cond.selects RX8 yX8_fail yX8_fail, Cond.code yX8_fail cX8_fail 2 (some .int), Cond.methodLink RX8 140 yX8_keep, Cond.instanceMethod yX8_keep, Cond.selects RX8 yX8_keep yX8_keep, Cond.code yX8_keep cX8_keep 1 none, Cond.fieldLink RX8 25 "ChicoryRoastersModel" "kept" "[I", Cond.methodLink RX8 42 arraycopyName, Cond.native arraycopyName, Cond.static arraycopyName, Cond.initialized "java/lang/System", Cond.methodLink RX8 143 yX8_behind, Cond.instanceMethod yX8_behind, Cond.selects RX8 yX8_behind yX8_behind, Cond.code yX8_behind cX8_behind 4 (some .int), Cond.methodLink RX8 134 yX8_daysOn]
def wsX8_advise_r2 : List Cond := [Cond.instanceMethod yX8_daysOn, Cond.selects RX8 yX8_daysOn yX8_daysOn, Cond.code yX8_daysOn cX8_daysOn 3 none, Cond.methodLink RX8 131 yX8_dayOn, Cond.instanceMethod yX8_dayOn, Cond.selects RX8 yX8_dayOn yX8_dayOn, Cond.code yX8_dayOn cX8_dayOn 3 none, Cond.fieldLink RX8 39 "ChicoryRoastersModel" "smugglers" "I", Cond.fieldLink RX8 32 "ChicoryRoastersModel" "drums" "I", Cond.fieldLink RX8 80 "ChicoryRoastersModel" "BURNT" "[I", Cond.methodLink RX8 119 Lib.Math.min.name, Cond.static Lib.Math.min.name, Cond.initialized "java/lang/Math", Cond.code Lib.Math.min.name Lib.Math.min.code 2 (some .int), Cond.fieldLink RX8 52 "ChicoryRoastersModel" "beds" "I", Cond.fieldLink RX8 9 "ChicoryRoastersModel" "bedTold" "[I", Cond.fieldLink RX8 59 "ChicoryRoastersModel" "cards" "I", Cond.fieldLink RX8 19 "ChicoryRoastersModel" "cardTold" "[I", Cond.methodLink RX8 95 yX8_sm, Cond.instanceMethod yX8_sm, Cond.selects RX8 yX8_sm yX8_sm, Cond.code yX8_sm cX8_sm 3 (some .int), Cond.methodLink RX8 124 yX8_goOn, Cond.instanceMethod yX8_goOn]
def wsX8_advise_r3 : List Cond := [Cond.selects RX8 yX8_goOn yX8_goOn, Cond.code yX8_goOn cX8_goOn 4 none, Cond.fieldLink RX8 16 "ChicoryRoastersModel" "smugglerTold" "[I", Cond.methodLink RX8 116 yX8_isPatrol, Cond.instanceMethod yX8_isPatrol, Cond.selects RX8 yX8_isPatrol yX8_isPatrol, Cond.code yX8_isPatrol cX8_isPatrol 2 (some .boolean), Cond.methodLink RX8 98 yX8_letSmuggler, Cond.instanceMethod yX8_letSmuggler, Cond.selects RX8 yX8_letSmuggler yX8_letSmuggler, Cond.code yX8_letSmuggler cX8_letSmuggler 4 none, Cond.methodLink RX8 73 yX8_dr, Cond.instanceMethod yX8_dr, Cond.selects RX8 yX8_dr yX8_dr, Cond.code yX8_dr cX8_dr 3 (some .int), Cond.methodLink RX8 55 yX8_letDrum, Cond.instanceMethod yX8_letDrum, Cond.selects RX8 yX8_letDrum yX8_letDrum, Cond.code yX8_letDrum cX8_letDrum 4 none, Cond.methodLink RX8 128 yX8_serve, Cond.instanceMethod yX8_serve, Cond.selects RX8 yX8_serve yX8_serve, Cond.code yX8_serve cX8_serve 3 (some .boolean), Cond.methodLink RX8 110 yX8_ca]
def wsX8_advise_r4 : List Cond := [Cond.instanceMethod yX8_ca, Cond.selects RX8 yX8_ca yX8_ca, Cond.code yX8_ca cX8_ca 3 (some .int), Cond.methodLink RX8 62 yX8_moreCard, Cond.instanceMethod yX8_moreCard, Cond.selects RX8 yX8_moreCard yX8_moreCard, Cond.code yX8_moreCard cX8_moreCard 4 none, Cond.methodLink RX8 137 yX8_bringBack, Cond.instanceMethod yX8_bringBack, Cond.selects RX8 yX8_bringBack yX8_bringBack, Cond.code yX8_bringBack cX8_bringBack 1 none]
def wsX8_advise : List Cond := .code yX8_advise cX8_advise 6 (some .int) :: ((wsX8_advise_r1 ++ (wsX8_advise_r2 ++ (wsX8_advise_r3 ++ wsX8_advise_r4))) ++ wsX80)
def wsX8_mean : List Cond := .code yX8_mean cX8_mean 3 (some .double) :: ([.fieldLink RX8 28 "ChicoryRoastersModel" "thrown" "I", .fieldLink RX8 59 "ChicoryRoastersModel" "cards" "I", .methodLink RX8 110 yX8_ca, .instanceMethod yX8_ca, .selects RX8 yX8_ca yX8_ca, .initialized RX8, .code yX8_ca cX8_ca 3 (some .int), .fieldLink RX8 22 "ChicoryRoastersModel" "now" "[I"] ++ wsX80)
def wsX8_digest_r1 : List Cond := [Cond.fieldLink RX8 28 "ChicoryRoastersModel" "thrown" "I", Cond.constantLong RX8 146 (1723), Cond.constantLong RX8 148 (31), Cond.fieldLink RX8 22 "ChicoryRoastersModel" "now" "[I", Cond.fieldLink RX8 52 "ChicoryRoastersModel" "beds" "I", Cond.fieldLink RX8 32 "ChicoryRoastersModel" "drums" "I", Cond.fieldLink RX8 39 "ChicoryRoastersModel" "smugglers" "I", Cond.fieldLink RX8 59 "ChicoryRoastersModel" "cards" "I", Cond.methodLink RX8 101 yX8_bedIs, Cond.instanceMethod yX8_bedIs, Cond.selects RX8 yX8_bedIs yX8_bedIs, Cond.initialized RX8, Cond.code yX8_bedIs cX8_bedIs 3 (some .int), Cond.fieldLink RX8 9 "ChicoryRoastersModel" "bedTold" "[I", Cond.methodLink RX8 104 yX8_drumIs, Cond.instanceMethod yX8_drumIs, Cond.selects RX8 yX8_drumIs yX8_drumIs, Cond.code yX8_drumIs cX8_drumIs 3 (some .int), Cond.fieldLink RX8 13 "ChicoryRoastersModel" "drumHolds" "[I", Cond.methodLink RX8 89 yX8_yieldOf, Cond.instanceMethod yX8_yieldOf, Cond.selects RX8 yX8_yieldOf yX8_yieldOf, Cond.code yX8_yieldOf cX8_yieldOf 2 (some .int), Cond.methodLink RX8 73 yX8_dr]
def wsX8_digest_r2 : List Cond := [Cond.instanceMethod yX8_dr, Cond.selects RX8 yX8_dr yX8_dr, Cond.code yX8_dr cX8_dr 3 (some .int), Cond.methodLink RX8 86 yX8_yields, Cond.static yX8_yields, Cond.code yX8_yields cX8_yields 3 (some .int), Cond.fieldLink RX8 77 "ChicoryRoastersModel" "DONE" "[I", Cond.fieldLink RX8 80 "ChicoryRoastersModel" "BURNT" "[I", Cond.fieldLink RX8 83 "ChicoryRoastersModel" "TIMES" "[I", Cond.methodLink RX8 107 yX8_smugglerIs, Cond.instanceMethod yX8_smugglerIs, Cond.selects RX8 yX8_smugglerIs yX8_smugglerIs, Cond.code yX8_smugglerIs cX8_smugglerIs 3 (some .int), Cond.fieldLink RX8 16 "ChicoryRoastersModel" "smugglerTold" "[I", Cond.methodLink RX8 95 yX8_sm, Cond.instanceMethod yX8_sm, Cond.selects RX8 yX8_sm yX8_sm, Cond.code yX8_sm cX8_sm 3 (some .int), Cond.methodLink RX8 113 yX8_cardIs, Cond.instanceMethod yX8_cardIs, Cond.selects RX8 yX8_cardIs yX8_cardIs, Cond.code yX8_cardIs cX8_cardIs 3 (some .int), Cond.fieldLink RX8 19 "ChicoryRoastersModel" "cardTold" "[I", Cond.methodLink RX8 110 yX8_ca]
def wsX8_digest_r3 : List Cond := [Cond.instanceMethod yX8_ca, Cond.selects RX8 yX8_ca yX8_ca, Cond.code yX8_ca cX8_ca 3 (some .int)]
def wsX8_digest : List Cond := .code yX8_digest cX8_digest 5 (some .long) :: ((wsX8_digest_r1 ++ (wsX8_digest_r2 ++ wsX8_digest_r3)) ++ wsX80)
def wsJ9_min_7cf53 : List Cond := .code yJ9_min_7cf53 cJ9_min_7cf53 2 (some .int) :: ([])
def wsL_bed_r1 : List Cond := [Cond.classLink RL 13 "java/lang/IllegalArgumentException", Cond.classLink RL 15 "java/lang/IllegalStateException", Cond.methodLink RL 7 yX7_bed, Cond.instanceMethod yX7_bed, Cond.selects RX7 yX7_bed yX7_bed, Cond.initialized RX7, Cond.code yX7_bed cX7_bed 3 (some .int), Cond.fieldLink RX7 10 "ChicoryRoasters" "town" "LChicoryRoasters$Town;", Cond.fieldLink RX7 23 "ChicoryRoasters$Town" "bedCount" "I", Cond.fieldLink RX7 31 "ChicoryRoasters$Town" "beds" "[LChicoryRoasters$Bed;", Cond.methodLink RX7 19 yX7_checkNumber, Cond.static yX7_checkNumber, Cond.code yX7_checkNumber cX7_checkNumber 3 none, Cond.classLink RX7 182 "java/lang/IllegalArgumentException", Cond.initialized "java/lang/IllegalArgumentException", Cond.methodLink RX7 27 yX7_checkState, Cond.static yX7_checkState, Cond.code yX7_checkState cX7_checkState 1 none, Cond.classLink RX7 187 "java/lang/IllegalStateException", Cond.initialized "java/lang/IllegalStateException", Cond.methodLink RX7 35 yX0_lay, Cond.instanceMethod yX0_lay, Cond.selects RX0 yX0_lay yX0_lay, Cond.initialized RX0]
def wsL_bed_r2 : List Cond := [Cond.code yX0_lay cX0_lay 3 none, Cond.fieldLink RX0 7 "ChicoryRoasters$Bed" "grows" "I", Cond.fieldLink RX0 13 "ChicoryRoasters$Bed" "most" "I"]
def wsL_bed : List Cond := .codeWith yL_bed cL_bed 5 (some .int) [(0, 10, 13, 13), (0, 10, 17, 15)] :: ((wsL_bed_r1 ++ wsL_bed_r2) ++ wsX70 ++ wsX60 ++ wsX00 ++ (vx_atS RX7 186 "java/lang/IllegalArgumentException" ["java/lang/RuntimeException", "java/lang/Exception"]).filter goodWord ++ (vx_atS RX7 191 "java/lang/IllegalStateException" ["java/lang/RuntimeException", "java/lang/Exception"]).filter goodWord)
def wsL_drum_r1 : List Cond := [Cond.classLink RL 13 "java/lang/IllegalArgumentException", Cond.classLink RL 15 "java/lang/IllegalStateException", Cond.methodLink RL 17 yX7_drum, Cond.instanceMethod yX7_drum, Cond.selects RX7 yX7_drum yX7_drum, Cond.initialized RX7, Cond.code yX7_drum cX7_drum 3 (some .int), Cond.fieldLink RX7 10 "ChicoryRoasters" "town" "LChicoryRoasters$Town;", Cond.fieldLink RX7 41 "ChicoryRoasters$Town" "drumCount" "I", Cond.fieldLink RX7 44 "ChicoryRoasters$Town" "drums" "[LChicoryRoasters$Drum;", Cond.methodLink RX7 19 yX7_checkNumber, Cond.static yX7_checkNumber, Cond.code yX7_checkNumber cX7_checkNumber 3 none, Cond.classLink RX7 182 "java/lang/IllegalArgumentException", Cond.initialized "java/lang/IllegalArgumentException", Cond.methodLink RX7 27 yX7_checkState, Cond.static yX7_checkState, Cond.code yX7_checkState cX7_checkState 1 none, Cond.classLink RX7 187 "java/lang/IllegalStateException", Cond.initialized "java/lang/IllegalStateException", Cond.methodLink RX7 48 yX2_install, Cond.instanceMethod yX2_install, Cond.selects RX2 yX2_install yX2_install, Cond.initialized RX2]
def wsL_drum_r2 : List Cond := [Cond.code yX2_install cX2_install 3 none, Cond.fieldLink RX2 15 "ChicoryRoasters$Drum" "holds" "I", Cond.fieldLink RX2 18 "ChicoryRoasters$Drum" "heat" "I"]
def wsL_drum : List Cond := .codeWith yL_drum cL_drum 5 (some .int) [(0, 10, 13, 13), (0, 10, 17, 15)] :: ((wsL_drum_r1 ++ wsL_drum_r2) ++ wsX70 ++ wsX60 ++ wsX20 ++ (vx_atS RX7 186 "java/lang/IllegalArgumentException" ["java/lang/RuntimeException", "java/lang/Exception"]).filter goodWord ++ (vx_atS RX7 191 "java/lang/IllegalStateException" ["java/lang/RuntimeException", "java/lang/Exception"]).filter goodWord)
def wsL_smuggler_r1 : List Cond := [Cond.classLink RL 13 "java/lang/IllegalArgumentException", Cond.classLink RL 15 "java/lang/IllegalStateException", Cond.methodLink RL 20 yX7_smuggler, Cond.instanceMethod yX7_smuggler, Cond.selects RX7 yX7_smuggler yX7_smuggler, Cond.initialized RX7, Cond.code yX7_smuggler cX7_smuggler 3 (some .int), Cond.fieldLink RX7 10 "ChicoryRoasters" "town" "LChicoryRoasters$Town;", Cond.fieldLink RX7 53 "ChicoryRoasters$Town" "smugglerCount" "I", Cond.fieldLink RX7 56 "ChicoryRoasters$Town" "smugglers" "[LChicoryRoasters$Smuggler;", Cond.methodLink RX7 19 yX7_checkNumber, Cond.static yX7_checkNumber, Cond.code yX7_checkNumber cX7_checkNumber 3 none, Cond.classLink RX7 182 "java/lang/IllegalArgumentException", Cond.initialized "java/lang/IllegalArgumentException", Cond.methodLink RX7 27 yX7_checkState, Cond.static yX7_checkState, Cond.code yX7_checkState cX7_checkState 1 none, Cond.classLink RX7 187 "java/lang/IllegalStateException", Cond.initialized "java/lang/IllegalStateException", Cond.methodLink RX7 60 yX3_hire, Cond.instanceMethod yX3_hire, Cond.selects RX3 yX3_hire yX3_hire, Cond.initialized RX3]
def wsL_smuggler_r2 : List Cond := [Cond.code yX3_hire cX3_hire 3 none, Cond.fieldLink RX3 9 "ChicoryRoasters$Smuggler" "way" "I", Cond.fieldLink RX3 15 "ChicoryRoasters$Smuggler" "cargo" "I"]
def wsL_smuggler : List Cond := .codeWith yL_smuggler cL_smuggler 5 (some .int) [(0, 10, 13, 13), (0, 10, 17, 15)] :: ((wsL_smuggler_r1 ++ wsL_smuggler_r2) ++ wsX70 ++ wsX60 ++ wsX30 ++ (vx_atS RX7 186 "java/lang/IllegalArgumentException" ["java/lang/RuntimeException", "java/lang/Exception"]).filter goodWord ++ (vx_atS RX7 191 "java/lang/IllegalStateException" ["java/lang/RuntimeException", "java/lang/Exception"]).filter goodWord)
def wsL_card_r1 : List Cond := [Cond.classLink RL 13 "java/lang/IllegalArgumentException", Cond.classLink RL 15 "java/lang/IllegalStateException", Cond.methodLink RL 23 yX7_card, Cond.instanceMethod yX7_card, Cond.selects RX7 yX7_card yX7_card, Cond.initialized RX7, Cond.code yX7_card cX7_card 3 (some .int), Cond.fieldLink RX7 10 "ChicoryRoasters" "town" "LChicoryRoasters$Town;", Cond.fieldLink RX7 65 "ChicoryRoasters$Town" "cardCount" "I", Cond.fieldLink RX7 68 "ChicoryRoasters$Town" "cards" "[LChicoryRoasters$Card;", Cond.methodLink RX7 19 yX7_checkNumber, Cond.static yX7_checkNumber, Cond.code yX7_checkNumber cX7_checkNumber 3 none, Cond.classLink RX7 182 "java/lang/IllegalArgumentException", Cond.initialized "java/lang/IllegalArgumentException", Cond.methodLink RX7 27 yX7_checkState, Cond.static yX7_checkState, Cond.code yX7_checkState cX7_checkState 1 none, Cond.classLink RX7 187 "java/lang/IllegalStateException", Cond.initialized "java/lang/IllegalStateException", Cond.methodLink RX7 72 yX1_issue, Cond.instanceMethod yX1_issue, Cond.selects RX1 yX1_issue yX1_issue, Cond.initialized RX1]
def wsL_card_r2 : List Cond := [Cond.code yX1_issue cX1_issue 3 none, Cond.fieldLink RX1 9 "ChicoryRoasters$Card" "allotted" "I", Cond.fieldLink RX1 15 "ChicoryRoasters$Card" "picky" "I", Cond.fieldLink RX1 18 "ChicoryRoasters$Card" "left" "I"]
def wsL_card : List Cond := .codeWith yL_card cL_card 5 (some .int) [(0, 10, 13, 13), (0, 10, 17, 15)] :: ((wsL_card_r1 ++ wsL_card_r2) ++ wsX70 ++ wsX60 ++ wsX10 ++ (vx_atS RX7 186 "java/lang/IllegalArgumentException" ["java/lang/RuntimeException", "java/lang/Exception"]).filter goodWord ++ (vx_atS RX7 191 "java/lang/IllegalStateException" ["java/lang/RuntimeException", "java/lang/Exception"]).filter goodWord)
def wsL_setPatrol : List Cond := .codeWith yL_setPatrol cL_setPatrol 4 (some .int) [(0, 9, 12, 13)] :: ([.classLink RL 13 "java/lang/IllegalArgumentException", .methodLink RL 26 yX7_setPatrol, .instanceMethod yX7_setPatrol, .selects RX7 yX7_setPatrol yX7_setPatrol, .initialized RX7, .code yX7_setPatrol cX7_setPatrol 3 (some .int), .fieldLink RX7 10 "ChicoryRoasters" "town" "LChicoryRoasters$Town;", .fieldLink RX7 77 "ChicoryRoasters$Town" "patrol" "I", .methodLink RX7 19 yX7_checkNumber, .static yX7_checkNumber, .code yX7_checkNumber cX7_checkNumber 3 none, .classLink RX7 182 "java/lang/IllegalArgumentException", .initialized "java/lang/IllegalArgumentException"] ++ wsX70 ++ wsX60 ++ (vx_atS RX7 186 "java/lang/IllegalArgumentException" ["java/lang/RuntimeException", "java/lang/Exception"]).filter goodWord)
def wsL_setShare : List Cond := .codeWith yL_setShare cL_setShare 4 (some .int) [(0, 9, 12, 13)] :: ([.classLink RL 13 "java/lang/IllegalArgumentException", .methodLink RL 30 yX7_setShare, .instanceMethod yX7_setShare, .selects RX7 yX7_setShare yX7_setShare, .initialized RX7, .code yX7_setShare cX7_setShare 3 (some .int), .fieldLink RX7 10 "ChicoryRoasters" "town" "LChicoryRoasters$Town;", .fieldLink RX7 80 "ChicoryRoasters$Town" "store" "LChicoryRoasters$Store;", .fieldLink RX7 84 "ChicoryRoasters$Store" "share" "I", .methodLink RX7 19 yX7_checkNumber, .static yX7_checkNumber, .code yX7_checkNumber cX7_checkNumber 3 none, .classLink RX7 182 "java/lang/IllegalArgumentException", .initialized "java/lang/IllegalArgumentException"] ++ wsX70 ++ wsX60 ++ wsX40 ++ (vx_atS RX7 186 "java/lang/IllegalArgumentException" ["java/lang/RuntimeException", "java/lang/Exception"]).filter goodWord)
def wsL_setHeat : List Cond := .codeWith yL_setHeat cL_setHeat 5 (some .int) [(0, 10, 13, 36), (0, 10, 17, 13)] :: ([.classLink RL 36 "java/lang/IndexOutOfBoundsException", .classLink RL 13 "java/lang/IllegalArgumentException", .methodLink RL 33 yX7_setHeat, .instanceMethod yX7_setHeat, .selects RX7 yX7_setHeat yX7_setHeat, .initialized RX7, .code yX7_setHeat cX7_setHeat 4 (some .int), .fieldLink RX7 10 "ChicoryRoasters" "town" "LChicoryRoasters$Town;", .fieldLink RX7 41 "ChicoryRoasters$Town" "drumCount" "I", .fieldLink RX7 44 "ChicoryRoasters$Town" "drums" "[LChicoryRoasters$Drum;", .fieldLink RX7 92 "ChicoryRoasters$Drum" "heat" "I", .methodLink RX7 89 yX7_checkIndex, .static yX7_checkIndex, .code yX7_checkIndex cX7_checkIndex 2 none, .classLink RX7 139 "java/lang/IndexOutOfBoundsException", .initialized "java/lang/IndexOutOfBoundsException", .methodLink RX7 19 yX7_checkNumber, .static yX7_checkNumber, .code yX7_checkNumber cX7_checkNumber 3 none, .classLink RX7 182 "java/lang/IllegalArgumentException", .initialized "java/lang/IllegalArgumentException"] ++ wsX70 ++ wsX60 ++ wsX20 ++ (vx_atS RX7 143 "java/lang/IndexOutOfBoundsException" ["java/lang/RuntimeException", "java/lang/Exception"]).filter goodWord ++ (vx_atS RX7 186 "java/lang/IllegalArgumentException" ["java/lang/RuntimeException", "java/lang/Exception"]).filter goodWord)
def wsL_dig_r1 : List Cond := [Cond.classLink RL 36 "java/lang/IndexOutOfBoundsException", Cond.classLink RL 13 "java/lang/IllegalArgumentException", Cond.classLink RL 15 "java/lang/IllegalStateException", Cond.methodLink RL 38 yX7_dig, Cond.instanceMethod yX7_dig, Cond.selects RX7 yX7_dig yX7_dig, Cond.initialized RX7, Cond.code yX7_dig cX7_dig 3 (some .int), Cond.fieldLink RX7 10 "ChicoryRoasters" "town" "LChicoryRoasters$Town;", Cond.fieldLink RX7 23 "ChicoryRoasters$Town" "bedCount" "I", Cond.fieldLink RX7 31 "ChicoryRoasters$Town" "beds" "[LChicoryRoasters$Bed;", Cond.fieldLink RX7 95 "ChicoryRoasters$Bed" "roots" "I", Cond.fieldLink RX7 80 "ChicoryRoasters$Town" "store" "LChicoryRoasters$Store;", Cond.methodLink RX7 89 yX7_checkIndex, Cond.static yX7_checkIndex, Cond.code yX7_checkIndex cX7_checkIndex 2 none, Cond.classLink RX7 139 "java/lang/IndexOutOfBoundsException", Cond.initialized "java/lang/IndexOutOfBoundsException", Cond.methodLink RX7 19 yX7_checkNumber, Cond.static yX7_checkNumber, Cond.code yX7_checkNumber cX7_checkNumber 3 none, Cond.classLink RX7 182 "java/lang/IllegalArgumentException", Cond.initialized "java/lang/IllegalArgumentException", Cond.methodLink RX7 27 yX7_checkState]
def wsL_dig_r2 : List Cond := [Cond.static yX7_checkState, Cond.code yX7_checkState cX7_checkState 1 none, Cond.classLink RX7 187 "java/lang/IllegalStateException", Cond.initialized "java/lang/IllegalStateException", Cond.methodLink RX7 98 yX4_add, Cond.instanceMethod yX4_add, Cond.selects RX4 yX4_add yX4_add, Cond.initialized RX4, Cond.code yX4_add cX4_add 3 none, Cond.fieldLink RX4 15 "ChicoryRoasters$Store" "roots" "I", Cond.fieldLink RX4 18 "ChicoryRoasters$Store" "beans" "I"]
def wsL_dig : List Cond := .codeWith yL_dig cL_dig 5 (some .int) [(0, 10, 13, 36), (0, 10, 17, 13), (0, 10, 21, 15)] :: ((wsL_dig_r1 ++ wsL_dig_r2) ++ wsX70 ++ wsX60 ++ wsX00 ++ wsX40 ++ (vx_atS RX7 143 "java/lang/IndexOutOfBoundsException" ["java/lang/RuntimeException", "java/lang/Exception"]).filter goodWord ++ (vx_atS RX7 186 "java/lang/IllegalArgumentException" ["java/lang/RuntimeException", "java/lang/Exception"]).filter goodWord ++ (vx_atS RX7 191 "java/lang/IllegalStateException" ["java/lang/RuntimeException", "java/lang/Exception"]).filter goodWord)
def wsL_give_r1 : List Cond := [Cond.classLink RL 36 "java/lang/IndexOutOfBoundsException", Cond.classLink RL 13 "java/lang/IllegalArgumentException", Cond.methodLink RL 41 yX7_give, Cond.instanceMethod yX7_give, Cond.selects RX7 yX7_give yX7_give, Cond.initialized RX7, Cond.code yX7_give cX7_give 3 (some .int), Cond.fieldLink RX7 10 "ChicoryRoasters" "town" "LChicoryRoasters$Town;", Cond.fieldLink RX7 80 "ChicoryRoasters$Town" "store" "LChicoryRoasters$Store;", Cond.methodLink RX7 89 yX7_checkIndex, Cond.static yX7_checkIndex, Cond.code yX7_checkIndex cX7_checkIndex 2 none, Cond.classLink RX7 139 "java/lang/IndexOutOfBoundsException", Cond.initialized "java/lang/IndexOutOfBoundsException", Cond.methodLink RX7 19 yX7_checkNumber, Cond.static yX7_checkNumber, Cond.code yX7_checkNumber cX7_checkNumber 3 none, Cond.classLink RX7 182 "java/lang/IllegalArgumentException", Cond.initialized "java/lang/IllegalArgumentException", Cond.methodLink RX7 98 yX4_add, Cond.instanceMethod yX4_add, Cond.selects RX4 yX4_add yX4_add, Cond.initialized RX4, Cond.code yX4_add cX4_add 3 none]
def wsL_give_r2 : List Cond := [Cond.fieldLink RX4 15 "ChicoryRoasters$Store" "roots" "I", Cond.fieldLink RX4 18 "ChicoryRoasters$Store" "beans" "I", Cond.methodLink RX7 101 yX4_stock, Cond.instanceMethod yX4_stock, Cond.selects RX4 yX4_stock yX4_stock, Cond.code yX4_stock cX4_stock 2 (some .int)]
def wsL_give : List Cond := .codeWith yL_give cL_give 5 (some .int) [(0, 10, 13, 36), (0, 10, 17, 13)] :: ((wsL_give_r1 ++ wsL_give_r2) ++ wsX70 ++ wsX60 ++ wsX40 ++ (vx_atS RX7 143 "java/lang/IndexOutOfBoundsException" ["java/lang/RuntimeException", "java/lang/Exception"]).filter goodWord ++ (vx_atS RX7 186 "java/lang/IllegalArgumentException" ["java/lang/RuntimeException", "java/lang/Exception"]).filter goodWord)
def wsL_load_r1 : List Cond := [Cond.classLink RL 36 "java/lang/IndexOutOfBoundsException", Cond.classLink RL 13 "java/lang/IllegalArgumentException", Cond.classLink RL 15 "java/lang/IllegalStateException", Cond.methodLink RL 44 yX7_load, Cond.instanceMethod yX7_load, Cond.selects RX7 yX7_load yX7_load, Cond.initialized RX7, Cond.code yX7_load cX7_load 4 (some .int), Cond.fieldLink RX7 10 "ChicoryRoasters" "town" "LChicoryRoasters$Town;", Cond.fieldLink RX7 41 "ChicoryRoasters$Town" "drumCount" "I", Cond.fieldLink RX7 44 "ChicoryRoasters$Town" "drums" "[LChicoryRoasters$Drum;", Cond.fieldLink RX7 105 "ChicoryRoasters$Drum" "holds" "I", Cond.fieldLink RX7 108 "ChicoryRoasters$Drum" "kind" "I", Cond.fieldLink RX7 80 "ChicoryRoasters$Town" "store" "LChicoryRoasters$Store;", Cond.methodLink RX7 89 yX7_checkIndex, Cond.static yX7_checkIndex, Cond.code yX7_checkIndex cX7_checkIndex 2 none, Cond.classLink RX7 139 "java/lang/IndexOutOfBoundsException", Cond.initialized "java/lang/IndexOutOfBoundsException", Cond.methodLink RX7 19 yX7_checkNumber, Cond.static yX7_checkNumber, Cond.code yX7_checkNumber cX7_checkNumber 3 none, Cond.classLink RX7 182 "java/lang/IllegalArgumentException", Cond.initialized "java/lang/IllegalArgumentException"]
def wsL_load_r2 : List Cond := [Cond.methodLink RX7 27 yX7_checkState, Cond.static yX7_checkState, Cond.code yX7_checkState cX7_checkState 1 none, Cond.classLink RX7 187 "java/lang/IllegalStateException", Cond.initialized "java/lang/IllegalStateException", Cond.methodLink RX7 101 yX4_stock, Cond.instanceMethod yX4_stock, Cond.selects RX4 yX4_stock yX4_stock, Cond.initialized RX4, Cond.code yX4_stock cX4_stock 2 (some .int), Cond.fieldLink RX4 15 "ChicoryRoasters$Store" "roots" "I", Cond.fieldLink RX4 18 "ChicoryRoasters$Store" "beans" "I", Cond.methodLink RX7 98 yX4_add, Cond.instanceMethod yX4_add, Cond.selects RX4 yX4_add yX4_add, Cond.code yX4_add cX4_add 3 none, Cond.methodLink RX7 111 yX2_fill, Cond.instanceMethod yX2_fill, Cond.selects RX2 yX2_fill yX2_fill, Cond.initialized RX2, Cond.code yX2_fill cX2_fill 3 none, Cond.fieldLink RX2 9 "ChicoryRoasters$Drum" "kind" "I", Cond.fieldLink RX2 21 "ChicoryRoasters$Drum" "much" "I", Cond.fieldLink RX2 24 "ChicoryRoasters$Drum" "level" "I"]
def wsL_load : List Cond := .codeWith yL_load cL_load 6 (some .int) [(0, 12, 15, 36), (0, 12, 19, 13), (0, 12, 23, 15)] :: ((wsL_load_r1 ++ wsL_load_r2) ++ wsX70 ++ wsX60 ++ wsX20 ++ wsX40 ++ (vx_atS RX7 143 "java/lang/IndexOutOfBoundsException" ["java/lang/RuntimeException", "java/lang/Exception"]).filter goodWord ++ (vx_atS RX7 186 "java/lang/IllegalArgumentException" ["java/lang/RuntimeException", "java/lang/Exception"]).filter goodWord ++ (vx_atS RX7 191 "java/lang/IllegalStateException" ["java/lang/RuntimeException", "java/lang/Exception"]).filter goodWord)
def wsL_take_r1 : List Cond := [Cond.classLink RL 36 "java/lang/IndexOutOfBoundsException", Cond.classLink RL 15 "java/lang/IllegalStateException", Cond.methodLink RL 48 yX7_take, Cond.instanceMethod yX7_take, Cond.selects RX7 yX7_take yX7_take, Cond.initialized RX7, Cond.code yX7_take cX7_take 4 (some .int), Cond.fieldLink RX7 10 "ChicoryRoasters" "town" "LChicoryRoasters$Town;", Cond.fieldLink RX7 41 "ChicoryRoasters$Town" "drumCount" "I", Cond.fieldLink RX7 44 "ChicoryRoasters$Town" "drums" "[LChicoryRoasters$Drum;", Cond.fieldLink RX7 108 "ChicoryRoasters$Drum" "kind" "I", Cond.fieldLink RX7 114 "ChicoryRoasters$Drum" "level" "I", Cond.fieldLink RX7 80 "ChicoryRoasters$Town" "store" "LChicoryRoasters$Store;", Cond.methodLink RX7 89 yX7_checkIndex, Cond.static yX7_checkIndex, Cond.code yX7_checkIndex cX7_checkIndex 2 none, Cond.classLink RX7 139 "java/lang/IndexOutOfBoundsException", Cond.initialized "java/lang/IndexOutOfBoundsException", Cond.methodLink RX7 27 yX7_checkState, Cond.static yX7_checkState, Cond.code yX7_checkState cX7_checkState 1 none, Cond.classLink RX7 187 "java/lang/IllegalStateException", Cond.initialized "java/lang/IllegalStateException", Cond.methodLink RX7 117 yX2_partsAt]
def wsL_take_r2 : List Cond := [Cond.instanceMethod yX2_partsAt, Cond.selects RX2 yX2_partsAt yX2_partsAt, Cond.initialized RX2, Cond.code yX2_partsAt cX2_partsAt 3 (some .int), Cond.fieldLink RX2 9 "ChicoryRoasters$Drum" "kind" "I", Cond.fieldLink RX2 21 "ChicoryRoasters$Drum" "much" "I", Cond.methodLink RX2 41 yX2_done, Cond.instanceMethod yX2_done, Cond.selects RX2 yX2_done yX2_done, Cond.code yX2_done cX2_done 1 (some .int), Cond.methodLink RX2 31 yX2_burnt, Cond.instanceMethod yX2_burnt, Cond.selects RX2 yX2_burnt yX2_burnt, Cond.code yX2_burnt cX2_burnt 1 (some .int), Cond.methodLink RX7 120 yX4_addRoasted, Cond.instanceMethod yX4_addRoasted, Cond.selects RX4 yX4_addRoasted yX4_addRoasted, Cond.initialized RX4, Cond.code yX4_addRoasted cX4_addRoasted 3 none, Cond.fieldLink RX4 21 "ChicoryRoasters$Store" "chicory" "I", Cond.fieldLink RX4 24 "ChicoryRoasters$Store" "coffee" "I", Cond.methodLink RX7 111 yX2_fill, Cond.instanceMethod yX2_fill, Cond.selects RX2 yX2_fill yX2_fill]
def wsL_take_r3 : List Cond := [Cond.code yX2_fill cX2_fill 3 none, Cond.fieldLink RX2 24 "ChicoryRoasters$Drum" "level" "I"]
def wsL_take : List Cond := .codeWith yL_take cL_take 4 (some .int) [(0, 9, 12, 36), (0, 9, 15, 15)] :: ((wsL_take_r1 ++ (wsL_take_r2 ++ wsL_take_r3)) ++ wsX70 ++ wsX60 ++ wsX20 ++ wsX40 ++ (vx_atS RX7 143 "java/lang/IndexOutOfBoundsException" ["java/lang/RuntimeException", "java/lang/Exception"]).filter goodWord ++ (vx_atS RX7 191 "java/lang/IllegalStateException" ["java/lang/RuntimeException", "java/lang/Exception"]).filter goodWord)
def wsL_send_r1 : List Cond := [Cond.classLink RL 36 "java/lang/IndexOutOfBoundsException", Cond.classLink RL 15 "java/lang/IllegalStateException", Cond.methodLink RL 51 yX7_send, Cond.instanceMethod yX7_send, Cond.selects RX7 yX7_send yX7_send, Cond.initialized RX7, Cond.code yX7_send cX7_send 2 (some .int), Cond.fieldLink RX7 10 "ChicoryRoasters" "town" "LChicoryRoasters$Town;", Cond.fieldLink RX7 53 "ChicoryRoasters$Town" "smugglerCount" "I", Cond.fieldLink RX7 56 "ChicoryRoasters$Town" "smugglers" "[LChicoryRoasters$Smuggler;", Cond.fieldLink RX7 123 "ChicoryRoasters$Smuggler" "where" "I", Cond.fieldLink RX7 129 "ChicoryRoasters$Smuggler" "left" "I", Cond.methodLink RX7 89 yX7_checkIndex, Cond.static yX7_checkIndex, Cond.code yX7_checkIndex cX7_checkIndex 2 none, Cond.classLink RX7 139 "java/lang/IndexOutOfBoundsException", Cond.initialized "java/lang/IndexOutOfBoundsException", Cond.methodLink RX7 27 yX7_checkState, Cond.static yX7_checkState, Cond.code yX7_checkState cX7_checkState 1 none, Cond.classLink RX7 187 "java/lang/IllegalStateException", Cond.initialized "java/lang/IllegalStateException", Cond.methodLink RX7 126 yX3_setOut, Cond.instanceMethod yX3_setOut]
def wsL_send_r2 : List Cond := [Cond.selects RX3 yX3_setOut yX3_setOut, Cond.initialized RX3, Cond.code yX3_setOut cX3_setOut 1 none, Cond.fieldLink RX3 18 "ChicoryRoasters$Smuggler" "where" "I", Cond.fieldLink RX3 9 "ChicoryRoasters$Smuggler" "way" "I", Cond.fieldLink RX3 21 "ChicoryRoasters$Smuggler" "left" "I"]
def wsL_send : List Cond := .codeWith yL_send cL_send 4 (some .int) [(0, 9, 12, 36), (0, 9, 15, 15)] :: ((wsL_send_r1 ++ wsL_send_r2) ++ wsX70 ++ wsX60 ++ wsX30 ++ (vx_atS RX7 143 "java/lang/IndexOutOfBoundsException" ["java/lang/RuntimeException", "java/lang/Exception"]).filter goodWord ++ (vx_atS RX7 191 "java/lang/IllegalStateException" ["java/lang/RuntimeException", "java/lang/Exception"]).filter goodWord)
def wsL_about_r1 : List Cond := [Cond.classLink RL 36 "java/lang/IndexOutOfBoundsException", Cond.methodLink RL 54 yX7_about, Cond.instanceMethod yX7_about, Cond.selects RX7 yX7_about yX7_about, Cond.initialized RX7, Cond.code yX7_about cX7_about 3 (some .int), Cond.fieldLink RX7 10 "ChicoryRoasters" "town" "LChicoryRoasters$Town;", Cond.fieldLink RX7 23 "ChicoryRoasters$Town" "bedCount" "I", Cond.fieldLink RX7 31 "ChicoryRoasters$Town" "beds" "[LChicoryRoasters$Bed;", Cond.methodLink RX7 89 yX7_checkIndex, Cond.static yX7_checkIndex, Cond.code yX7_checkIndex cX7_checkIndex 2 none, Cond.classLink RX7 139 "java/lang/IndexOutOfBoundsException", Cond.initialized "java/lang/IndexOutOfBoundsException", Cond.methodLink RX7 132 yX7_ask, Cond.static yX7_ask, Cond.code yX7_ask cX7_ask 2 (some .int), Cond.methodLink RX7 192 ⟨"ChicoryRoasters$Teller", "size", "()I"⟩, Cond.sameMethod "ChicoryRoasters$Teller" "ChicoryRoasters$Teller" "size" "()I", Cond.selects RX0 ⟨"ChicoryRoasters$Teller", "size", "()I"⟩ yX0_size, Cond.instanceMethod yX0_size, Cond.initialized RX0, Cond.code yX0_size cX0_size 1 (some .int), Cond.selects RX1 ⟨"ChicoryRoasters$Teller", "size", "()I"⟩ yX1_size]
def wsL_about_r2 : List Cond := [Cond.instanceMethod yX1_size, Cond.initialized RX1, Cond.code yX1_size cX1_size 1 (some .int), Cond.selects RX2 ⟨"ChicoryRoasters$Teller", "size", "()I"⟩ yX2_size, Cond.instanceMethod yX2_size, Cond.initialized RX2, Cond.code yX2_size cX2_size 1 (some .int), Cond.selects RX3 ⟨"ChicoryRoasters$Teller", "size", "()I"⟩ yX3_size, Cond.instanceMethod yX3_size, Cond.initialized RX3, Cond.code yX3_size cX3_size 1 (some .int), Cond.selects RX6 ⟨"ChicoryRoasters$Teller", "size", "()I"⟩ yX6_size, Cond.instanceMethod yX6_size, Cond.initialized RX6, Cond.code yX6_size cX6_size 1 (some .int), Cond.methodLink RX7 197 ⟨"ChicoryRoasters$Teller", "tell", "(I)I"⟩, Cond.sameMethod "ChicoryRoasters$Teller" "ChicoryRoasters$Teller" "tell" "(I)I", Cond.selects RX0 ⟨"ChicoryRoasters$Teller", "tell", "(I)I"⟩ yX0_tell, Cond.instanceMethod yX0_tell, Cond.code yX0_tell cX0_tell 2 (some .int), Cond.fieldLink RX0 7 "ChicoryRoasters$Bed" "grows" "I", Cond.fieldLink RX0 13 "ChicoryRoasters$Bed" "most" "I", Cond.fieldLink RX0 16 "ChicoryRoasters$Bed" "roots" "I", Cond.selects RX1 ⟨"ChicoryRoasters$Teller", "tell", "(I)I"⟩ yX1_tell]
def wsL_about_r3 : List Cond := [Cond.instanceMethod yX1_tell, Cond.code yX1_tell cX1_tell 2 (some .int), Cond.fieldLink RX1 9 "ChicoryRoasters$Card" "allotted" "I", Cond.fieldLink RX1 15 "ChicoryRoasters$Card" "picky" "I", Cond.fieldLink RX1 18 "ChicoryRoasters$Card" "left" "I", Cond.fieldLink RX1 42 "ChicoryRoasters$Card" "served" "I", Cond.fieldLink RX1 35 "ChicoryRoasters$Card" "refused" "I", Cond.selects RX2 ⟨"ChicoryRoasters$Teller", "tell", "(I)I"⟩ yX2_tell, Cond.instanceMethod yX2_tell, Cond.code yX2_tell cX2_tell 2 (some .int), Cond.fieldLink RX2 15 "ChicoryRoasters$Drum" "holds" "I", Cond.fieldLink RX2 18 "ChicoryRoasters$Drum" "heat" "I", Cond.fieldLink RX2 9 "ChicoryRoasters$Drum" "kind" "I", Cond.fieldLink RX2 21 "ChicoryRoasters$Drum" "much" "I", Cond.fieldLink RX2 24 "ChicoryRoasters$Drum" "level" "I", Cond.methodLink RX2 44 yX2_partsAt, Cond.instanceMethod yX2_partsAt, Cond.selects RX2 yX2_partsAt yX2_partsAt, Cond.code yX2_partsAt cX2_partsAt 3 (some .int), Cond.methodLink RX2 41 yX2_done, Cond.instanceMethod yX2_done, Cond.selects RX2 yX2_done yX2_done, Cond.code yX2_done cX2_done 1 (some .int), Cond.methodLink RX2 31 yX2_burnt]
def wsL_about_r4 : List Cond := [Cond.instanceMethod yX2_burnt, Cond.selects RX2 yX2_burnt yX2_burnt, Cond.code yX2_burnt cX2_burnt 1 (some .int), Cond.selects RX3 ⟨"ChicoryRoasters$Teller", "tell", "(I)I"⟩ yX3_tell, Cond.instanceMethod yX3_tell, Cond.code yX3_tell cX3_tell 2 (some .int), Cond.fieldLink RX3 9 "ChicoryRoasters$Smuggler" "way" "I", Cond.fieldLink RX3 15 "ChicoryRoasters$Smuggler" "cargo" "I", Cond.fieldLink RX3 18 "ChicoryRoasters$Smuggler" "where" "I", Cond.fieldLink RX3 21 "ChicoryRoasters$Smuggler" "left" "I", Cond.fieldLink RX3 24 "ChicoryRoasters$Smuggler" "arrests" "I", Cond.selects RX6 ⟨"ChicoryRoasters$Teller", "tell", "(I)I"⟩ yX6_tell, Cond.instanceMethod yX6_tell, Cond.code yX6_tell cX6_tell 2 (some .int), Cond.fieldLink RX6 63 "ChicoryRoasters$Town" "day" "I", Cond.fieldLink RX6 38 "ChicoryRoasters$Town" "store" "LChicoryRoasters$Store;", Cond.fieldLink RX6 114 "ChicoryRoasters$Store" "roots" "I", Cond.fieldLink RX6 117 "ChicoryRoasters$Store" "beans" "I", Cond.fieldLink RX6 120 "ChicoryRoasters$Store" "chicory" "I", Cond.fieldLink RX6 123 "ChicoryRoasters$Store" "coffee" "I", Cond.fieldLink RX6 126 "ChicoryRoasters$Store" "served" "I", Cond.fieldLink RX6 129 "ChicoryRoasters$Store" "thinned" "I", Cond.fieldLink RX6 132 "ChicoryRoasters$Store" "share" "I", Cond.fieldLink RX6 46 "ChicoryRoasters$Town" "patrol" "I"]
def wsL_about : List Cond := .codeWith yL_about cL_about 5 (some .int) [(0, 10, 13, 36)] :: ((wsL_about_r1 ++ (wsL_about_r2 ++ (wsL_about_r3 ++ wsL_about_r4))) ++ wsX70 ++ wsX60 ++ wsX00 ++ wsX10 ++ wsX20 ++ wsX30 ++ wsX40 ++ (vx_atS RX7 143 "java/lang/IndexOutOfBoundsException" ["java/lang/RuntimeException", "java/lang/Exception"]).filter goodWord)
def wsL_roast_r1 : List Cond := [Cond.classLink RL 36 "java/lang/IndexOutOfBoundsException", Cond.methodLink RL 57 yX7_roast, Cond.instanceMethod yX7_roast, Cond.selects RX7 yX7_roast yX7_roast, Cond.initialized RX7, Cond.code yX7_roast cX7_roast 3 (some .int), Cond.fieldLink RX7 10 "ChicoryRoasters" "town" "LChicoryRoasters$Town;", Cond.fieldLink RX7 41 "ChicoryRoasters$Town" "drumCount" "I", Cond.fieldLink RX7 44 "ChicoryRoasters$Town" "drums" "[LChicoryRoasters$Drum;", Cond.methodLink RX7 89 yX7_checkIndex, Cond.static yX7_checkIndex, Cond.code yX7_checkIndex cX7_checkIndex 2 none, Cond.classLink RX7 139 "java/lang/IndexOutOfBoundsException", Cond.initialized "java/lang/IndexOutOfBoundsException", Cond.methodLink RX7 132 yX7_ask, Cond.static yX7_ask, Cond.code yX7_ask cX7_ask 2 (some .int), Cond.methodLink RX7 192 ⟨"ChicoryRoasters$Teller", "size", "()I"⟩, Cond.sameMethod "ChicoryRoasters$Teller" "ChicoryRoasters$Teller" "size" "()I", Cond.selects RX0 ⟨"ChicoryRoasters$Teller", "size", "()I"⟩ yX0_size, Cond.instanceMethod yX0_size, Cond.initialized RX0, Cond.code yX0_size cX0_size 1 (some .int), Cond.selects RX1 ⟨"ChicoryRoasters$Teller", "size", "()I"⟩ yX1_size]
def wsL_roast_r2 : List Cond := [Cond.instanceMethod yX1_size, Cond.initialized RX1, Cond.code yX1_size cX1_size 1 (some .int), Cond.selects RX2 ⟨"ChicoryRoasters$Teller", "size", "()I"⟩ yX2_size, Cond.instanceMethod yX2_size, Cond.initialized RX2, Cond.code yX2_size cX2_size 1 (some .int), Cond.selects RX3 ⟨"ChicoryRoasters$Teller", "size", "()I"⟩ yX3_size, Cond.instanceMethod yX3_size, Cond.initialized RX3, Cond.code yX3_size cX3_size 1 (some .int), Cond.selects RX6 ⟨"ChicoryRoasters$Teller", "size", "()I"⟩ yX6_size, Cond.instanceMethod yX6_size, Cond.initialized RX6, Cond.code yX6_size cX6_size 1 (some .int), Cond.methodLink RX7 197 ⟨"ChicoryRoasters$Teller", "tell", "(I)I"⟩, Cond.sameMethod "ChicoryRoasters$Teller" "ChicoryRoasters$Teller" "tell" "(I)I", Cond.selects RX0 ⟨"ChicoryRoasters$Teller", "tell", "(I)I"⟩ yX0_tell, Cond.instanceMethod yX0_tell, Cond.code yX0_tell cX0_tell 2 (some .int), Cond.fieldLink RX0 7 "ChicoryRoasters$Bed" "grows" "I", Cond.fieldLink RX0 13 "ChicoryRoasters$Bed" "most" "I", Cond.fieldLink RX0 16 "ChicoryRoasters$Bed" "roots" "I", Cond.selects RX1 ⟨"ChicoryRoasters$Teller", "tell", "(I)I"⟩ yX1_tell]
def wsL_roast_r3 : List Cond := [Cond.instanceMethod yX1_tell, Cond.code yX1_tell cX1_tell 2 (some .int), Cond.fieldLink RX1 9 "ChicoryRoasters$Card" "allotted" "I", Cond.fieldLink RX1 15 "ChicoryRoasters$Card" "picky" "I", Cond.fieldLink RX1 18 "ChicoryRoasters$Card" "left" "I", Cond.fieldLink RX1 42 "ChicoryRoasters$Card" "served" "I", Cond.fieldLink RX1 35 "ChicoryRoasters$Card" "refused" "I", Cond.selects RX2 ⟨"ChicoryRoasters$Teller", "tell", "(I)I"⟩ yX2_tell, Cond.instanceMethod yX2_tell, Cond.code yX2_tell cX2_tell 2 (some .int), Cond.fieldLink RX2 15 "ChicoryRoasters$Drum" "holds" "I", Cond.fieldLink RX2 18 "ChicoryRoasters$Drum" "heat" "I", Cond.fieldLink RX2 9 "ChicoryRoasters$Drum" "kind" "I", Cond.fieldLink RX2 21 "ChicoryRoasters$Drum" "much" "I", Cond.fieldLink RX2 24 "ChicoryRoasters$Drum" "level" "I", Cond.methodLink RX2 44 yX2_partsAt, Cond.instanceMethod yX2_partsAt, Cond.selects RX2 yX2_partsAt yX2_partsAt, Cond.code yX2_partsAt cX2_partsAt 3 (some .int), Cond.methodLink RX2 41 yX2_done, Cond.instanceMethod yX2_done, Cond.selects RX2 yX2_done yX2_done, Cond.code yX2_done cX2_done 1 (some .int), Cond.methodLink RX2 31 yX2_burnt]
def wsL_roast_r4 : List Cond := [Cond.instanceMethod yX2_burnt, Cond.selects RX2 yX2_burnt yX2_burnt, Cond.code yX2_burnt cX2_burnt 1 (some .int), Cond.selects RX3 ⟨"ChicoryRoasters$Teller", "tell", "(I)I"⟩ yX3_tell, Cond.instanceMethod yX3_tell, Cond.code yX3_tell cX3_tell 2 (some .int), Cond.fieldLink RX3 9 "ChicoryRoasters$Smuggler" "way" "I", Cond.fieldLink RX3 15 "ChicoryRoasters$Smuggler" "cargo" "I", Cond.fieldLink RX3 18 "ChicoryRoasters$Smuggler" "where" "I", Cond.fieldLink RX3 21 "ChicoryRoasters$Smuggler" "left" "I", Cond.fieldLink RX3 24 "ChicoryRoasters$Smuggler" "arrests" "I", Cond.selects RX6 ⟨"ChicoryRoasters$Teller", "tell", "(I)I"⟩ yX6_tell, Cond.instanceMethod yX6_tell, Cond.code yX6_tell cX6_tell 2 (some .int), Cond.fieldLink RX6 63 "ChicoryRoasters$Town" "day" "I", Cond.fieldLink RX6 38 "ChicoryRoasters$Town" "store" "LChicoryRoasters$Store;", Cond.fieldLink RX6 114 "ChicoryRoasters$Store" "roots" "I", Cond.fieldLink RX6 117 "ChicoryRoasters$Store" "beans" "I", Cond.fieldLink RX6 120 "ChicoryRoasters$Store" "chicory" "I", Cond.fieldLink RX6 123 "ChicoryRoasters$Store" "coffee" "I", Cond.fieldLink RX6 126 "ChicoryRoasters$Store" "served" "I", Cond.fieldLink RX6 129 "ChicoryRoasters$Store" "thinned" "I", Cond.fieldLink RX6 132 "ChicoryRoasters$Store" "share" "I", Cond.fieldLink RX6 46 "ChicoryRoasters$Town" "patrol" "I"]
def wsL_roast : List Cond := .codeWith yL_roast cL_roast 5 (some .int) [(0, 10, 13, 36)] :: ((wsL_roast_r1 ++ (wsL_roast_r2 ++ (wsL_roast_r3 ++ wsL_roast_r4))) ++ wsX70 ++ wsX60 ++ wsX00 ++ wsX10 ++ wsX20 ++ wsX30 ++ wsX40 ++ (vx_atS RX7 143 "java/lang/IndexOutOfBoundsException" ["java/lang/RuntimeException", "java/lang/Exception"]).filter goodWord)
def wsL_told_r1 : List Cond := [Cond.classLink RL 36 "java/lang/IndexOutOfBoundsException", Cond.methodLink RL 60 yX7_told, Cond.instanceMethod yX7_told, Cond.selects RX7 yX7_told yX7_told, Cond.initialized RX7, Cond.code yX7_told cX7_told 3 (some .int), Cond.fieldLink RX7 10 "ChicoryRoasters" "town" "LChicoryRoasters$Town;", Cond.fieldLink RX7 53 "ChicoryRoasters$Town" "smugglerCount" "I", Cond.fieldLink RX7 56 "ChicoryRoasters$Town" "smugglers" "[LChicoryRoasters$Smuggler;", Cond.methodLink RX7 89 yX7_checkIndex, Cond.static yX7_checkIndex, Cond.code yX7_checkIndex cX7_checkIndex 2 none, Cond.classLink RX7 139 "java/lang/IndexOutOfBoundsException", Cond.initialized "java/lang/IndexOutOfBoundsException", Cond.methodLink RX7 132 yX7_ask, Cond.static yX7_ask, Cond.code yX7_ask cX7_ask 2 (some .int), Cond.methodLink RX7 192 ⟨"ChicoryRoasters$Teller", "size", "()I"⟩, Cond.sameMethod "ChicoryRoasters$Teller" "ChicoryRoasters$Teller" "size" "()I", Cond.selects RX0 ⟨"ChicoryRoasters$Teller", "size", "()I"⟩ yX0_size, Cond.instanceMethod yX0_size, Cond.initialized RX0, Cond.code yX0_size cX0_size 1 (some .int), Cond.selects RX1 ⟨"ChicoryRoasters$Teller", "size", "()I"⟩ yX1_size]
def wsL_told_r2 : List Cond := [Cond.instanceMethod yX1_size, Cond.initialized RX1, Cond.code yX1_size cX1_size 1 (some .int), Cond.selects RX2 ⟨"ChicoryRoasters$Teller", "size", "()I"⟩ yX2_size, Cond.instanceMethod yX2_size, Cond.initialized RX2, Cond.code yX2_size cX2_size 1 (some .int), Cond.selects RX3 ⟨"ChicoryRoasters$Teller", "size", "()I"⟩ yX3_size, Cond.instanceMethod yX3_size, Cond.initialized RX3, Cond.code yX3_size cX3_size 1 (some .int), Cond.selects RX6 ⟨"ChicoryRoasters$Teller", "size", "()I"⟩ yX6_size, Cond.instanceMethod yX6_size, Cond.initialized RX6, Cond.code yX6_size cX6_size 1 (some .int), Cond.methodLink RX7 197 ⟨"ChicoryRoasters$Teller", "tell", "(I)I"⟩, Cond.sameMethod "ChicoryRoasters$Teller" "ChicoryRoasters$Teller" "tell" "(I)I", Cond.selects RX0 ⟨"ChicoryRoasters$Teller", "tell", "(I)I"⟩ yX0_tell, Cond.instanceMethod yX0_tell, Cond.code yX0_tell cX0_tell 2 (some .int), Cond.fieldLink RX0 7 "ChicoryRoasters$Bed" "grows" "I", Cond.fieldLink RX0 13 "ChicoryRoasters$Bed" "most" "I", Cond.fieldLink RX0 16 "ChicoryRoasters$Bed" "roots" "I", Cond.selects RX1 ⟨"ChicoryRoasters$Teller", "tell", "(I)I"⟩ yX1_tell]
def wsL_told_r3 : List Cond := [Cond.instanceMethod yX1_tell, Cond.code yX1_tell cX1_tell 2 (some .int), Cond.fieldLink RX1 9 "ChicoryRoasters$Card" "allotted" "I", Cond.fieldLink RX1 15 "ChicoryRoasters$Card" "picky" "I", Cond.fieldLink RX1 18 "ChicoryRoasters$Card" "left" "I", Cond.fieldLink RX1 42 "ChicoryRoasters$Card" "served" "I", Cond.fieldLink RX1 35 "ChicoryRoasters$Card" "refused" "I", Cond.selects RX2 ⟨"ChicoryRoasters$Teller", "tell", "(I)I"⟩ yX2_tell, Cond.instanceMethod yX2_tell, Cond.code yX2_tell cX2_tell 2 (some .int), Cond.fieldLink RX2 15 "ChicoryRoasters$Drum" "holds" "I", Cond.fieldLink RX2 18 "ChicoryRoasters$Drum" "heat" "I", Cond.fieldLink RX2 9 "ChicoryRoasters$Drum" "kind" "I", Cond.fieldLink RX2 21 "ChicoryRoasters$Drum" "much" "I", Cond.fieldLink RX2 24 "ChicoryRoasters$Drum" "level" "I", Cond.methodLink RX2 44 yX2_partsAt, Cond.instanceMethod yX2_partsAt, Cond.selects RX2 yX2_partsAt yX2_partsAt, Cond.code yX2_partsAt cX2_partsAt 3 (some .int), Cond.methodLink RX2 41 yX2_done, Cond.instanceMethod yX2_done, Cond.selects RX2 yX2_done yX2_done, Cond.code yX2_done cX2_done 1 (some .int), Cond.methodLink RX2 31 yX2_burnt]
def wsL_told_r4 : List Cond := [Cond.instanceMethod yX2_burnt, Cond.selects RX2 yX2_burnt yX2_burnt, Cond.code yX2_burnt cX2_burnt 1 (some .int), Cond.selects RX3 ⟨"ChicoryRoasters$Teller", "tell", "(I)I"⟩ yX3_tell, Cond.instanceMethod yX3_tell, Cond.code yX3_tell cX3_tell 2 (some .int), Cond.fieldLink RX3 9 "ChicoryRoasters$Smuggler" "way" "I", Cond.fieldLink RX3 15 "ChicoryRoasters$Smuggler" "cargo" "I", Cond.fieldLink RX3 18 "ChicoryRoasters$Smuggler" "where" "I", Cond.fieldLink RX3 21 "ChicoryRoasters$Smuggler" "left" "I", Cond.fieldLink RX3 24 "ChicoryRoasters$Smuggler" "arrests" "I", Cond.selects RX6 ⟨"ChicoryRoasters$Teller", "tell", "(I)I"⟩ yX6_tell, Cond.instanceMethod yX6_tell, Cond.code yX6_tell cX6_tell 2 (some .int), Cond.fieldLink RX6 63 "ChicoryRoasters$Town" "day" "I", Cond.fieldLink RX6 38 "ChicoryRoasters$Town" "store" "LChicoryRoasters$Store;", Cond.fieldLink RX6 114 "ChicoryRoasters$Store" "roots" "I", Cond.fieldLink RX6 117 "ChicoryRoasters$Store" "beans" "I", Cond.fieldLink RX6 120 "ChicoryRoasters$Store" "chicory" "I", Cond.fieldLink RX6 123 "ChicoryRoasters$Store" "coffee" "I", Cond.fieldLink RX6 126 "ChicoryRoasters$Store" "served" "I", Cond.fieldLink RX6 129 "ChicoryRoasters$Store" "thinned" "I", Cond.fieldLink RX6 132 "ChicoryRoasters$Store" "share" "I", Cond.fieldLink RX6 46 "ChicoryRoasters$Town" "patrol" "I"]
def wsL_told : List Cond := .codeWith yL_told cL_told 5 (some .int) [(0, 10, 13, 36)] :: ((wsL_told_r1 ++ (wsL_told_r2 ++ (wsL_told_r3 ++ wsL_told_r4))) ++ wsX70 ++ wsX60 ++ wsX00 ++ wsX10 ++ wsX20 ++ wsX30 ++ wsX40 ++ (vx_atS RX7 143 "java/lang/IndexOutOfBoundsException" ["java/lang/RuntimeException", "java/lang/Exception"]).filter goodWord)
def wsL_ration_r1 : List Cond := [Cond.classLink RL 36 "java/lang/IndexOutOfBoundsException", Cond.methodLink RL 63 yX7_ration, Cond.instanceMethod yX7_ration, Cond.selects RX7 yX7_ration yX7_ration, Cond.initialized RX7, Cond.code yX7_ration cX7_ration 3 (some .int), Cond.fieldLink RX7 10 "ChicoryRoasters" "town" "LChicoryRoasters$Town;", Cond.fieldLink RX7 65 "ChicoryRoasters$Town" "cardCount" "I", Cond.fieldLink RX7 68 "ChicoryRoasters$Town" "cards" "[LChicoryRoasters$Card;", Cond.methodLink RX7 89 yX7_checkIndex, Cond.static yX7_checkIndex, Cond.code yX7_checkIndex cX7_checkIndex 2 none, Cond.classLink RX7 139 "java/lang/IndexOutOfBoundsException", Cond.initialized "java/lang/IndexOutOfBoundsException", Cond.methodLink RX7 132 yX7_ask, Cond.static yX7_ask, Cond.code yX7_ask cX7_ask 2 (some .int), Cond.methodLink RX7 192 ⟨"ChicoryRoasters$Teller", "size", "()I"⟩, Cond.sameMethod "ChicoryRoasters$Teller" "ChicoryRoasters$Teller" "size" "()I", Cond.selects RX0 ⟨"ChicoryRoasters$Teller", "size", "()I"⟩ yX0_size, Cond.instanceMethod yX0_size, Cond.initialized RX0, Cond.code yX0_size cX0_size 1 (some .int), Cond.selects RX1 ⟨"ChicoryRoasters$Teller", "size", "()I"⟩ yX1_size]
def wsL_ration_r2 : List Cond := [Cond.instanceMethod yX1_size, Cond.initialized RX1, Cond.code yX1_size cX1_size 1 (some .int), Cond.selects RX2 ⟨"ChicoryRoasters$Teller", "size", "()I"⟩ yX2_size, Cond.instanceMethod yX2_size, Cond.initialized RX2, Cond.code yX2_size cX2_size 1 (some .int), Cond.selects RX3 ⟨"ChicoryRoasters$Teller", "size", "()I"⟩ yX3_size, Cond.instanceMethod yX3_size, Cond.initialized RX3, Cond.code yX3_size cX3_size 1 (some .int), Cond.selects RX6 ⟨"ChicoryRoasters$Teller", "size", "()I"⟩ yX6_size, Cond.instanceMethod yX6_size, Cond.initialized RX6, Cond.code yX6_size cX6_size 1 (some .int), Cond.methodLink RX7 197 ⟨"ChicoryRoasters$Teller", "tell", "(I)I"⟩, Cond.sameMethod "ChicoryRoasters$Teller" "ChicoryRoasters$Teller" "tell" "(I)I", Cond.selects RX0 ⟨"ChicoryRoasters$Teller", "tell", "(I)I"⟩ yX0_tell, Cond.instanceMethod yX0_tell, Cond.code yX0_tell cX0_tell 2 (some .int), Cond.fieldLink RX0 7 "ChicoryRoasters$Bed" "grows" "I", Cond.fieldLink RX0 13 "ChicoryRoasters$Bed" "most" "I", Cond.fieldLink RX0 16 "ChicoryRoasters$Bed" "roots" "I", Cond.selects RX1 ⟨"ChicoryRoasters$Teller", "tell", "(I)I"⟩ yX1_tell]
def wsL_ration_r3 : List Cond := [Cond.instanceMethod yX1_tell, Cond.code yX1_tell cX1_tell 2 (some .int), Cond.fieldLink RX1 9 "ChicoryRoasters$Card" "allotted" "I", Cond.fieldLink RX1 15 "ChicoryRoasters$Card" "picky" "I", Cond.fieldLink RX1 18 "ChicoryRoasters$Card" "left" "I", Cond.fieldLink RX1 42 "ChicoryRoasters$Card" "served" "I", Cond.fieldLink RX1 35 "ChicoryRoasters$Card" "refused" "I", Cond.selects RX2 ⟨"ChicoryRoasters$Teller", "tell", "(I)I"⟩ yX2_tell, Cond.instanceMethod yX2_tell, Cond.code yX2_tell cX2_tell 2 (some .int), Cond.fieldLink RX2 15 "ChicoryRoasters$Drum" "holds" "I", Cond.fieldLink RX2 18 "ChicoryRoasters$Drum" "heat" "I", Cond.fieldLink RX2 9 "ChicoryRoasters$Drum" "kind" "I", Cond.fieldLink RX2 21 "ChicoryRoasters$Drum" "much" "I", Cond.fieldLink RX2 24 "ChicoryRoasters$Drum" "level" "I", Cond.methodLink RX2 44 yX2_partsAt, Cond.instanceMethod yX2_partsAt, Cond.selects RX2 yX2_partsAt yX2_partsAt, Cond.code yX2_partsAt cX2_partsAt 3 (some .int), Cond.methodLink RX2 41 yX2_done, Cond.instanceMethod yX2_done, Cond.selects RX2 yX2_done yX2_done, Cond.code yX2_done cX2_done 1 (some .int), Cond.methodLink RX2 31 yX2_burnt]
def wsL_ration_r4 : List Cond := [Cond.instanceMethod yX2_burnt, Cond.selects RX2 yX2_burnt yX2_burnt, Cond.code yX2_burnt cX2_burnt 1 (some .int), Cond.selects RX3 ⟨"ChicoryRoasters$Teller", "tell", "(I)I"⟩ yX3_tell, Cond.instanceMethod yX3_tell, Cond.code yX3_tell cX3_tell 2 (some .int), Cond.fieldLink RX3 9 "ChicoryRoasters$Smuggler" "way" "I", Cond.fieldLink RX3 15 "ChicoryRoasters$Smuggler" "cargo" "I", Cond.fieldLink RX3 18 "ChicoryRoasters$Smuggler" "where" "I", Cond.fieldLink RX3 21 "ChicoryRoasters$Smuggler" "left" "I", Cond.fieldLink RX3 24 "ChicoryRoasters$Smuggler" "arrests" "I", Cond.selects RX6 ⟨"ChicoryRoasters$Teller", "tell", "(I)I"⟩ yX6_tell, Cond.instanceMethod yX6_tell, Cond.code yX6_tell cX6_tell 2 (some .int), Cond.fieldLink RX6 63 "ChicoryRoasters$Town" "day" "I", Cond.fieldLink RX6 38 "ChicoryRoasters$Town" "store" "LChicoryRoasters$Store;", Cond.fieldLink RX6 114 "ChicoryRoasters$Store" "roots" "I", Cond.fieldLink RX6 117 "ChicoryRoasters$Store" "beans" "I", Cond.fieldLink RX6 120 "ChicoryRoasters$Store" "chicory" "I", Cond.fieldLink RX6 123 "ChicoryRoasters$Store" "coffee" "I", Cond.fieldLink RX6 126 "ChicoryRoasters$Store" "served" "I", Cond.fieldLink RX6 129 "ChicoryRoasters$Store" "thinned" "I", Cond.fieldLink RX6 132 "ChicoryRoasters$Store" "share" "I", Cond.fieldLink RX6 46 "ChicoryRoasters$Town" "patrol" "I"]
def wsL_ration : List Cond := .codeWith yL_ration cL_ration 5 (some .int) [(0, 10, 13, 36)] :: ((wsL_ration_r1 ++ (wsL_ration_r2 ++ (wsL_ration_r3 ++ wsL_ration_r4))) ++ wsX70 ++ wsX60 ++ wsX00 ++ wsX10 ++ wsX20 ++ wsX30 ++ wsX40 ++ (vx_atS RX7 143 "java/lang/IndexOutOfBoundsException" ["java/lang/RuntimeException", "java/lang/Exception"]).filter goodWord)
def wsL_count_r1 : List Cond := [Cond.classLink RL 36 "java/lang/IndexOutOfBoundsException", Cond.methodLink RL 66 yX7_count, Cond.instanceMethod yX7_count, Cond.selects RX7 yX7_count yX7_count, Cond.initialized RX7, Cond.code yX7_count cX7_count 2 (some .int), Cond.fieldLink RX7 10 "ChicoryRoasters" "town" "LChicoryRoasters$Town;", Cond.methodLink RX7 132 yX7_ask, Cond.static yX7_ask, Cond.code yX7_ask cX7_ask 2 (some .int), Cond.methodLink RX7 192 ⟨"ChicoryRoasters$Teller", "size", "()I"⟩, Cond.sameMethod "ChicoryRoasters$Teller" "ChicoryRoasters$Teller" "size" "()I", Cond.selects RX0 ⟨"ChicoryRoasters$Teller", "size", "()I"⟩ yX0_size, Cond.instanceMethod yX0_size, Cond.initialized RX0, Cond.code yX0_size cX0_size 1 (some .int), Cond.selects RX1 ⟨"ChicoryRoasters$Teller", "size", "()I"⟩ yX1_size, Cond.instanceMethod yX1_size, Cond.initialized RX1, Cond.code yX1_size cX1_size 1 (some .int), Cond.selects RX2 ⟨"ChicoryRoasters$Teller", "size", "()I"⟩ yX2_size, Cond.instanceMethod yX2_size, Cond.initialized RX2, Cond.code yX2_size cX2_size 1 (some .int)]
def wsL_count_r2 : List Cond := [Cond.selects RX3 ⟨"ChicoryRoasters$Teller", "size", "()I"⟩ yX3_size, Cond.instanceMethod yX3_size, Cond.initialized RX3, Cond.code yX3_size cX3_size 1 (some .int), Cond.selects RX6 ⟨"ChicoryRoasters$Teller", "size", "()I"⟩ yX6_size, Cond.instanceMethod yX6_size, Cond.initialized RX6, Cond.code yX6_size cX6_size 1 (some .int), Cond.methodLink RX7 89 yX7_checkIndex, Cond.static yX7_checkIndex, Cond.code yX7_checkIndex cX7_checkIndex 2 none, Cond.classLink RX7 139 "java/lang/IndexOutOfBoundsException", Cond.initialized "java/lang/IndexOutOfBoundsException", Cond.methodLink RX7 197 ⟨"ChicoryRoasters$Teller", "tell", "(I)I"⟩, Cond.sameMethod "ChicoryRoasters$Teller" "ChicoryRoasters$Teller" "tell" "(I)I", Cond.selects RX0 ⟨"ChicoryRoasters$Teller", "tell", "(I)I"⟩ yX0_tell, Cond.instanceMethod yX0_tell, Cond.code yX0_tell cX0_tell 2 (some .int), Cond.fieldLink RX0 7 "ChicoryRoasters$Bed" "grows" "I", Cond.fieldLink RX0 13 "ChicoryRoasters$Bed" "most" "I", Cond.fieldLink RX0 16 "ChicoryRoasters$Bed" "roots" "I", Cond.selects RX1 ⟨"ChicoryRoasters$Teller", "tell", "(I)I"⟩ yX1_tell, Cond.instanceMethod yX1_tell, Cond.code yX1_tell cX1_tell 2 (some .int)]
def wsL_count_r3 : List Cond := [Cond.fieldLink RX1 9 "ChicoryRoasters$Card" "allotted" "I", Cond.fieldLink RX1 15 "ChicoryRoasters$Card" "picky" "I", Cond.fieldLink RX1 18 "ChicoryRoasters$Card" "left" "I", Cond.fieldLink RX1 42 "ChicoryRoasters$Card" "served" "I", Cond.fieldLink RX1 35 "ChicoryRoasters$Card" "refused" "I", Cond.selects RX2 ⟨"ChicoryRoasters$Teller", "tell", "(I)I"⟩ yX2_tell, Cond.instanceMethod yX2_tell, Cond.code yX2_tell cX2_tell 2 (some .int), Cond.fieldLink RX2 15 "ChicoryRoasters$Drum" "holds" "I", Cond.fieldLink RX2 18 "ChicoryRoasters$Drum" "heat" "I", Cond.fieldLink RX2 9 "ChicoryRoasters$Drum" "kind" "I", Cond.fieldLink RX2 21 "ChicoryRoasters$Drum" "much" "I", Cond.fieldLink RX2 24 "ChicoryRoasters$Drum" "level" "I", Cond.methodLink RX2 44 yX2_partsAt, Cond.instanceMethod yX2_partsAt, Cond.selects RX2 yX2_partsAt yX2_partsAt, Cond.code yX2_partsAt cX2_partsAt 3 (some .int), Cond.methodLink RX2 41 yX2_done, Cond.instanceMethod yX2_done, Cond.selects RX2 yX2_done yX2_done, Cond.code yX2_done cX2_done 1 (some .int), Cond.methodLink RX2 31 yX2_burnt, Cond.instanceMethod yX2_burnt, Cond.selects RX2 yX2_burnt yX2_burnt]
def wsL_count_r4 : List Cond := [Cond.code yX2_burnt cX2_burnt 1 (some .int), Cond.selects RX3 ⟨"ChicoryRoasters$Teller", "tell", "(I)I"⟩ yX3_tell, Cond.instanceMethod yX3_tell, Cond.code yX3_tell cX3_tell 2 (some .int), Cond.fieldLink RX3 9 "ChicoryRoasters$Smuggler" "way" "I", Cond.fieldLink RX3 15 "ChicoryRoasters$Smuggler" "cargo" "I", Cond.fieldLink RX3 18 "ChicoryRoasters$Smuggler" "where" "I", Cond.fieldLink RX3 21 "ChicoryRoasters$Smuggler" "left" "I", Cond.fieldLink RX3 24 "ChicoryRoasters$Smuggler" "arrests" "I", Cond.selects RX6 ⟨"ChicoryRoasters$Teller", "tell", "(I)I"⟩ yX6_tell, Cond.instanceMethod yX6_tell, Cond.code yX6_tell cX6_tell 2 (some .int), Cond.fieldLink RX6 63 "ChicoryRoasters$Town" "day" "I", Cond.fieldLink RX6 38 "ChicoryRoasters$Town" "store" "LChicoryRoasters$Store;", Cond.fieldLink RX6 114 "ChicoryRoasters$Store" "roots" "I", Cond.fieldLink RX6 117 "ChicoryRoasters$Store" "beans" "I", Cond.fieldLink RX6 120 "ChicoryRoasters$Store" "chicory" "I", Cond.fieldLink RX6 123 "ChicoryRoasters$Store" "coffee" "I", Cond.fieldLink RX6 126 "ChicoryRoasters$Store" "served" "I", Cond.fieldLink RX6 129 "ChicoryRoasters$Store" "thinned" "I", Cond.fieldLink RX6 132 "ChicoryRoasters$Store" "share" "I", Cond.fieldLink RX6 46 "ChicoryRoasters$Town" "patrol" "I"]
def wsL_count : List Cond := .codeWith yL_count cL_count 4 (some .int) [(0, 9, 12, 36)] :: ((wsL_count_r1 ++ (wsL_count_r2 ++ (wsL_count_r3 ++ wsL_count_r4))) ++ wsX70 ++ wsX00 ++ wsX10 ++ wsX20 ++ wsX30 ++ wsX60 ++ wsX40 ++ (vx_atS RX7 143 "java/lang/IndexOutOfBoundsException" ["java/lang/RuntimeException", "java/lang/Exception"]).filter goodWord)
def wsL_pass_r1 : List Cond := [Cond.classLink RL 13 "java/lang/IllegalArgumentException", Cond.methodLink RL 69 yX7_pass, Cond.instanceMethod yX7_pass, Cond.selects RX7 yX7_pass yX7_pass, Cond.initialized RX7, Cond.code yX7_pass cX7_pass 2 (some .int), Cond.fieldLink RX7 10 "ChicoryRoasters" "town" "LChicoryRoasters$Town;", Cond.methodLink RX7 19 yX7_checkNumber, Cond.static yX7_checkNumber, Cond.code yX7_checkNumber cX7_checkNumber 3 none, Cond.classLink RX7 182 "java/lang/IllegalArgumentException", Cond.initialized "java/lang/IllegalArgumentException", Cond.methodLink RX7 136 yX6_live, Cond.instanceMethod yX6_live, Cond.selects RX6 yX6_live yX6_live, Cond.initialized RX6, Cond.code yX6_live cX6_live 4 (some .int), Cond.fieldLink RX6 63 "ChicoryRoasters$Town" "day" "I", Cond.methodLink RX6 50 yX6_travel, Cond.instanceMethod yX6_travel, Cond.selects RX6 yX6_travel yX6_travel, Cond.code yX6_travel cX6_travel 2 none, Cond.fieldLink RX6 66 "ChicoryRoasters$Town" "smugglerCount" "I", Cond.fieldLink RX6 38 "ChicoryRoasters$Town" "store" "LChicoryRoasters$Store;"]
def wsL_pass_r2 : List Cond := [Cond.fieldLink RX6 25 "ChicoryRoasters$Town" "smugglers" "[LChicoryRoasters$Smuggler;", Cond.methodLink RX6 69 yX6_patrolled, Cond.instanceMethod yX6_patrolled, Cond.selects RX6 yX6_patrolled yX6_patrolled, Cond.code yX6_patrolled cX6_patrolled 2 (some .boolean), Cond.fieldLink RX6 46 "ChicoryRoasters$Town" "patrol" "I", Cond.methodLink RX6 73 yX3_travel, Cond.instanceMethod yX3_travel, Cond.selects RX3 yX3_travel yX3_travel, Cond.initialized RX3, Cond.code yX3_travel cX3_travel 2 (some .int), Cond.fieldLink RX3 18 "ChicoryRoasters$Smuggler" "where" "I", Cond.fieldLink RX3 21 "ChicoryRoasters$Smuggler" "left" "I", Cond.fieldLink RX3 9 "ChicoryRoasters$Smuggler" "way" "I", Cond.fieldLink RX3 24 "ChicoryRoasters$Smuggler" "arrests" "I", Cond.methodLink RX3 27 yX3_comeHome, Cond.instanceMethod yX3_comeHome, Cond.selects RX3 yX3_comeHome yX3_comeHome, Cond.code yX3_comeHome cX3_comeHome 2 (some .int), Cond.fieldLink RX3 15 "ChicoryRoasters$Smuggler" "cargo" "I", Cond.methodLink RX6 76 yX4_add, Cond.instanceMethod yX4_add, Cond.selects RX4 yX4_add yX4_add, Cond.initialized RX4]
def wsL_pass_r3 : List Cond := [Cond.code yX4_add cX4_add 3 none, Cond.fieldLink RX4 15 "ChicoryRoasters$Store" "roots" "I", Cond.fieldLink RX4 18 "ChicoryRoasters$Store" "beans" "I", Cond.methodLink RX6 53 yX6_warm, Cond.instanceMethod yX6_warm, Cond.selects RX6 yX6_warm yX6_warm, Cond.code yX6_warm cX6_warm 2 none, Cond.fieldLink RX6 80 "ChicoryRoasters$Town" "drumCount" "I", Cond.fieldLink RX6 19 "ChicoryRoasters$Town" "drums" "[LChicoryRoasters$Drum;", Cond.methodLink RX6 83 yX2_warm, Cond.instanceMethod yX2_warm, Cond.selects RX2 yX2_warm yX2_warm, Cond.initialized RX2, Cond.code yX2_warm cX2_warm 1 none, Cond.fieldLink RX2 24 "ChicoryRoasters$Drum" "level" "I", Cond.methodLink RX2 27 yX2_levelAfter, Cond.instanceMethod yX2_levelAfter, Cond.selects RX2 yX2_levelAfter yX2_levelAfter, Cond.code yX2_levelAfter cX2_levelAfter 2 (some .int), Cond.fieldLink RX2 9 "ChicoryRoasters$Drum" "kind" "I", Cond.fieldLink RX2 18 "ChicoryRoasters$Drum" "heat" "I", Cond.methodLink RX2 35 Lib.Math.min.name, Cond.static Lib.Math.min.name, Cond.initialized "java/lang/Math"]
def wsL_pass_r4 : List Cond := [Cond.code Lib.Math.min.name Lib.Math.min.code 2 (some .int), Cond.methodLink RX2 31 yX2_burnt, Cond.instanceMethod yX2_burnt, Cond.selects RX2 yX2_burnt yX2_burnt, Cond.code yX2_burnt cX2_burnt 1 (some .int), Cond.methodLink RX6 56 yX6_grow, Cond.instanceMethod yX6_grow, Cond.selects RX6 yX6_grow yX6_grow, Cond.code yX6_grow cX6_grow 2 none, Cond.fieldLink RX6 84 "ChicoryRoasters$Town" "bedCount" "I", Cond.fieldLink RX6 11 "ChicoryRoasters$Town" "beds" "[LChicoryRoasters$Bed;", Cond.methodLink RX6 87 yX0_grow, Cond.instanceMethod yX0_grow, Cond.selects RX0 yX0_grow yX0_grow, Cond.initialized RX0, Cond.code yX0_grow cX0_grow 1 none, Cond.fieldLink RX0 16 "ChicoryRoasters$Bed" "roots" "I", Cond.fieldLink RX0 7 "ChicoryRoasters$Bed" "grows" "I", Cond.fieldLink RX0 13 "ChicoryRoasters$Bed" "most" "I", Cond.methodLink RX0 19 Lib.Math.min.name, Cond.methodLink RX6 59 yX6_serve, Cond.instanceMethod yX6_serve, Cond.selects RX6 yX6_serve yX6_serve, Cond.code yX6_serve cX6_serve 3 (some .int)]
def wsL_pass_r5 : List Cond := [Cond.fieldLink RX6 88 "ChicoryRoasters$Town" "cardCount" "I", Cond.fieldLink RX6 31 "ChicoryRoasters$Town" "cards" "[LChicoryRoasters$Card;", Cond.methodLink RX6 91 yX1_renew, Cond.instanceMethod yX1_renew, Cond.selects RX1 yX1_renew yX1_renew, Cond.initialized RX1, Cond.code yX1_renew cX1_renew 1 none, Cond.fieldLink RX1 9 "ChicoryRoasters$Card" "allotted" "I", Cond.fieldLink RX1 18 "ChicoryRoasters$Card" "left" "I", Cond.methodLink RX6 94 yX1_serveDay, Cond.instanceMethod yX1_serveDay, Cond.selects RX1 yX1_serveDay yX1_serveDay, Cond.code yX1_serveDay cX1_serveDay 3 (some .int), Cond.methodLink RX1 21 yX1_serveOne, Cond.instanceMethod yX1_serveOne, Cond.selects RX1 yX1_serveOne yX1_serveOne, Cond.code yX1_serveOne cX1_serveOne 3 (some .boolean), Cond.fieldLink RX1 15 "ChicoryRoasters$Card" "picky" "I", Cond.fieldLink RX1 35 "ChicoryRoasters$Card" "refused" "I", Cond.fieldLink RX1 42 "ChicoryRoasters$Card" "served" "I", Cond.methodLink RX1 25 yX4_coffeeOfPortion, Cond.instanceMethod yX4_coffeeOfPortion, Cond.selects RX4 yX4_coffeeOfPortion yX4_coffeeOfPortion, Cond.code yX4_coffeeOfPortion cX4_coffeeOfPortion 1 (some .int)]
def wsL_pass_r6 : List Cond := [Cond.fieldLink RX4 9 "ChicoryRoasters$Store" "share" "I", Cond.fieldLink RX4 24 "ChicoryRoasters$Store" "coffee" "I", Cond.methodLink RX4 27 Lib.Math.min.name, Cond.methodLink RX1 31 yX4_canMix, Cond.instanceMethod yX4_canMix, Cond.selects RX4 yX4_canMix yX4_canMix, Cond.code yX4_canMix cX4_canMix 2 (some .boolean), Cond.fieldLink RX4 21 "ChicoryRoasters$Store" "chicory" "I", Cond.methodLink RX1 38 yX4_servePortion, Cond.instanceMethod yX4_servePortion, Cond.selects RX4 yX4_servePortion yX4_servePortion, Cond.code yX4_servePortion cX4_servePortion 2 none, Cond.fieldLink RX4 33 "ChicoryRoasters$Store" "thinned" "I", Cond.fieldLink RX4 36 "ChicoryRoasters$Store" "served" "I"]
def wsL_pass : List Cond := .codeWith yL_pass cL_pass 4 (some .int) [(0, 9, 12, 13)] :: ((wsL_pass_r1 ++ (wsL_pass_r2 ++ (wsL_pass_r3 ++ (wsL_pass_r4 ++ (wsL_pass_r5 ++ wsL_pass_r6))))) ++ wsX70 ++ wsX60 ++ wsX30 ++ wsX40 ++ wsX20 ++ wsX00 ++ wsX10 ++ (vx_atS RX7 186 "java/lang/IllegalArgumentException" ["java/lang/RuntimeException", "java/lang/Exception"]).filter goodWord)
def wsL_foresee_r1 : List Cond := [Cond.classLink RL 13 "java/lang/IllegalArgumentException", Cond.classLink RL 36 "java/lang/IndexOutOfBoundsException", Cond.methodLink RL 72 yX7_foresee, Cond.instanceMethod yX7_foresee, Cond.selects RX7 yX7_foresee yX7_foresee, Cond.initialized RX7, Cond.code yX7_foresee cX7_foresee 3 (some .int), Cond.classLink RX7 139 "java/lang/IndexOutOfBoundsException", Cond.initialized "java/lang/IndexOutOfBoundsException", Cond.fieldLink RX7 16 "ChicoryRoasters" "trial" "LChicoryRoasters$Town;", Cond.fieldLink RX7 10 "ChicoryRoasters" "town" "LChicoryRoasters$Town;", Cond.methodLink RX7 19 yX7_checkNumber, Cond.static yX7_checkNumber, Cond.code yX7_checkNumber cX7_checkNumber 3 none, Cond.classLink RX7 182 "java/lang/IllegalArgumentException", Cond.initialized "java/lang/IllegalArgumentException", Cond.methodLink RX7 146 yX6_become, Cond.instanceMethod yX6_become, Cond.selects RX6 yX6_become yX6_become, Cond.initialized RX6, Cond.code yX6_become cX6_become 3 none, Cond.fieldLink RX6 63 "ChicoryRoasters$Town" "day" "I", Cond.fieldLink RX6 46 "ChicoryRoasters$Town" "patrol" "I", Cond.fieldLink RX6 38 "ChicoryRoasters$Town" "store" "LChicoryRoasters$Store;"]
def wsL_foresee_r2 : List Cond := [Cond.fieldLink RX6 84 "ChicoryRoasters$Town" "bedCount" "I", Cond.fieldLink RX6 11 "ChicoryRoasters$Town" "beds" "[LChicoryRoasters$Bed;", Cond.fieldLink RX6 80 "ChicoryRoasters$Town" "drumCount" "I", Cond.fieldLink RX6 19 "ChicoryRoasters$Town" "drums" "[LChicoryRoasters$Drum;", Cond.fieldLink RX6 66 "ChicoryRoasters$Town" "smugglerCount" "I", Cond.fieldLink RX6 25 "ChicoryRoasters$Town" "smugglers" "[LChicoryRoasters$Smuggler;", Cond.fieldLink RX6 88 "ChicoryRoasters$Town" "cardCount" "I", Cond.fieldLink RX6 31 "ChicoryRoasters$Town" "cards" "[LChicoryRoasters$Card;", Cond.methodLink RX6 98 yX4_become, Cond.instanceMethod yX4_become, Cond.selects RX4 yX4_become yX4_become, Cond.initialized RX4, Cond.code yX4_become cX4_become 2 none, Cond.fieldLink RX4 15 "ChicoryRoasters$Store" "roots" "I", Cond.fieldLink RX4 18 "ChicoryRoasters$Store" "beans" "I", Cond.fieldLink RX4 21 "ChicoryRoasters$Store" "chicory" "I", Cond.fieldLink RX4 24 "ChicoryRoasters$Store" "coffee" "I", Cond.fieldLink RX4 9 "ChicoryRoasters$Store" "share" "I", Cond.fieldLink RX4 36 "ChicoryRoasters$Store" "served" "I", Cond.fieldLink RX4 33 "ChicoryRoasters$Store" "thinned" "I", Cond.methodLink RX6 102 yX0_become, Cond.instanceMethod yX0_become, Cond.selects RX0 yX0_become yX0_become, Cond.initialized RX0]
def wsL_foresee_r3 : List Cond := [Cond.code yX0_become cX0_become 2 none, Cond.fieldLink RX0 7 "ChicoryRoasters$Bed" "grows" "I", Cond.fieldLink RX0 13 "ChicoryRoasters$Bed" "most" "I", Cond.fieldLink RX0 16 "ChicoryRoasters$Bed" "roots" "I", Cond.methodLink RX6 105 yX2_become, Cond.instanceMethod yX2_become, Cond.selects RX2 yX2_become yX2_become, Cond.initialized RX2, Cond.code yX2_become cX2_become 2 none, Cond.fieldLink RX2 15 "ChicoryRoasters$Drum" "holds" "I", Cond.fieldLink RX2 18 "ChicoryRoasters$Drum" "heat" "I", Cond.fieldLink RX2 9 "ChicoryRoasters$Drum" "kind" "I", Cond.fieldLink RX2 21 "ChicoryRoasters$Drum" "much" "I", Cond.fieldLink RX2 24 "ChicoryRoasters$Drum" "level" "I", Cond.methodLink RX6 108 yX3_become, Cond.instanceMethod yX3_become, Cond.selects RX3 yX3_become yX3_become, Cond.initialized RX3, Cond.code yX3_become cX3_become 2 none, Cond.fieldLink RX3 9 "ChicoryRoasters$Smuggler" "way" "I", Cond.fieldLink RX3 15 "ChicoryRoasters$Smuggler" "cargo" "I", Cond.fieldLink RX3 18 "ChicoryRoasters$Smuggler" "where" "I", Cond.fieldLink RX3 21 "ChicoryRoasters$Smuggler" "left" "I", Cond.fieldLink RX3 24 "ChicoryRoasters$Smuggler" "arrests" "I"]
def wsL_foresee_r4 : List Cond := [Cond.methodLink RX6 111 yX1_become, Cond.instanceMethod yX1_become, Cond.selects RX1 yX1_become yX1_become, Cond.initialized RX1, Cond.code yX1_become cX1_become 2 none, Cond.fieldLink RX1 9 "ChicoryRoasters$Card" "allotted" "I", Cond.fieldLink RX1 15 "ChicoryRoasters$Card" "picky" "I", Cond.fieldLink RX1 18 "ChicoryRoasters$Card" "left" "I", Cond.fieldLink RX1 42 "ChicoryRoasters$Card" "served" "I", Cond.fieldLink RX1 35 "ChicoryRoasters$Card" "refused" "I", Cond.methodLink RX7 136 yX6_live, Cond.instanceMethod yX6_live, Cond.selects RX6 yX6_live yX6_live, Cond.code yX6_live cX6_live 4 (some .int), Cond.methodLink RX6 50 yX6_travel, Cond.instanceMethod yX6_travel, Cond.selects RX6 yX6_travel yX6_travel, Cond.code yX6_travel cX6_travel 2 none, Cond.methodLink RX6 69 yX6_patrolled, Cond.instanceMethod yX6_patrolled, Cond.selects RX6 yX6_patrolled yX6_patrolled, Cond.code yX6_patrolled cX6_patrolled 2 (some .boolean), Cond.methodLink RX6 73 yX3_travel, Cond.instanceMethod yX3_travel]
def wsL_foresee_r5 : List Cond := [Cond.selects RX3 yX3_travel yX3_travel, Cond.code yX3_travel cX3_travel 2 (some .int), Cond.methodLink RX3 27 yX3_comeHome, Cond.instanceMethod yX3_comeHome, Cond.selects RX3 yX3_comeHome yX3_comeHome, Cond.code yX3_comeHome cX3_comeHome 2 (some .int), Cond.methodLink RX6 76 yX4_add, Cond.instanceMethod yX4_add, Cond.selects RX4 yX4_add yX4_add, Cond.code yX4_add cX4_add 3 none, Cond.methodLink RX6 53 yX6_warm, Cond.instanceMethod yX6_warm, Cond.selects RX6 yX6_warm yX6_warm, Cond.code yX6_warm cX6_warm 2 none, Cond.methodLink RX6 83 yX2_warm, Cond.instanceMethod yX2_warm, Cond.selects RX2 yX2_warm yX2_warm, Cond.code yX2_warm cX2_warm 1 none, Cond.methodLink RX2 27 yX2_levelAfter, Cond.instanceMethod yX2_levelAfter, Cond.selects RX2 yX2_levelAfter yX2_levelAfter, Cond.code yX2_levelAfter cX2_levelAfter 2 (some .int), Cond.methodLink RX2 35 Lib.Math.min.name, Cond.static Lib.Math.min.name]
def wsL_foresee_r6 : List Cond := [Cond.initialized "java/lang/Math", Cond.code Lib.Math.min.name Lib.Math.min.code 2 (some .int), Cond.methodLink RX2 31 yX2_burnt, Cond.instanceMethod yX2_burnt, Cond.selects RX2 yX2_burnt yX2_burnt, Cond.code yX2_burnt cX2_burnt 1 (some .int), Cond.methodLink RX6 56 yX6_grow, Cond.instanceMethod yX6_grow, Cond.selects RX6 yX6_grow yX6_grow, Cond.code yX6_grow cX6_grow 2 none, Cond.methodLink RX6 87 yX0_grow, Cond.instanceMethod yX0_grow, Cond.selects RX0 yX0_grow yX0_grow, Cond.code yX0_grow cX0_grow 1 none, Cond.methodLink RX0 19 Lib.Math.min.name, Cond.methodLink RX6 59 yX6_serve, Cond.instanceMethod yX6_serve, Cond.selects RX6 yX6_serve yX6_serve, Cond.code yX6_serve cX6_serve 3 (some .int), Cond.methodLink RX6 91 yX1_renew, Cond.instanceMethod yX1_renew, Cond.selects RX1 yX1_renew yX1_renew, Cond.code yX1_renew cX1_renew 1 none, Cond.methodLink RX6 94 yX1_serveDay]
def wsL_foresee_r7 : List Cond := [Cond.instanceMethod yX1_serveDay, Cond.selects RX1 yX1_serveDay yX1_serveDay, Cond.code yX1_serveDay cX1_serveDay 3 (some .int), Cond.methodLink RX1 21 yX1_serveOne, Cond.instanceMethod yX1_serveOne, Cond.selects RX1 yX1_serveOne yX1_serveOne, Cond.code yX1_serveOne cX1_serveOne 3 (some .boolean), Cond.methodLink RX1 25 yX4_coffeeOfPortion, Cond.instanceMethod yX4_coffeeOfPortion, Cond.selects RX4 yX4_coffeeOfPortion yX4_coffeeOfPortion, Cond.code yX4_coffeeOfPortion cX4_coffeeOfPortion 1 (some .int), Cond.methodLink RX4 27 Lib.Math.min.name, Cond.methodLink RX1 31 yX4_canMix, Cond.instanceMethod yX4_canMix, Cond.selects RX4 yX4_canMix yX4_canMix, Cond.code yX4_canMix cX4_canMix 2 (some .boolean), Cond.methodLink RX1 38 yX4_servePortion, Cond.instanceMethod yX4_servePortion, Cond.selects RX4 yX4_servePortion yX4_servePortion, Cond.code yX4_servePortion cX4_servePortion 2 none, Cond.methodLink RX7 150 yX6_tell, Cond.instanceMethod yX6_tell, Cond.selects RX6 yX6_tell yX6_tell, Cond.code yX6_tell cX6_tell 2 (some .int)]
def wsL_foresee_r8 : List Cond := [Cond.fieldLink RX6 114 "ChicoryRoasters$Store" "roots" "I", Cond.fieldLink RX6 117 "ChicoryRoasters$Store" "beans" "I", Cond.fieldLink RX6 120 "ChicoryRoasters$Store" "chicory" "I", Cond.fieldLink RX6 123 "ChicoryRoasters$Store" "coffee" "I", Cond.fieldLink RX6 126 "ChicoryRoasters$Store" "served" "I", Cond.fieldLink RX6 129 "ChicoryRoasters$Store" "thinned" "I", Cond.fieldLink RX6 132 "ChicoryRoasters$Store" "share" "I"]
def wsL_foresee : List Cond := .codeWith yL_foresee cL_foresee 5 (some .int) [(0, 10, 13, 13), (0, 10, 17, 36)] :: ((wsL_foresee_r1 ++ (wsL_foresee_r2 ++ (wsL_foresee_r3 ++ (wsL_foresee_r4 ++ (wsL_foresee_r5 ++ (wsL_foresee_r6 ++ (wsL_foresee_r7 ++ wsL_foresee_r8))))))) ++ wsX70 ++ wsX60 ++ wsX40 ++ wsX00 ++ wsX20 ++ wsX30 ++ wsX10 ++ (vx_atS RX7 143 "java/lang/IndexOutOfBoundsException" ["java/lang/RuntimeException", "java/lang/Exception"]).filter goodWord ++ (vx_atS RX7 186 "java/lang/IllegalArgumentException" ["java/lang/RuntimeException", "java/lang/Exception"]).filter goodWord)
def wsL_ready_r1 : List Cond := [Cond.classLink RL 36 "java/lang/IndexOutOfBoundsException", Cond.methodLink RL 75 yX7_ready, Cond.instanceMethod yX7_ready, Cond.selects RX7 yX7_ready yX7_ready, Cond.initialized RX7, Cond.code yX7_ready cX7_ready 2 (some .int), Cond.fieldLink RX7 10 "ChicoryRoasters" "town" "LChicoryRoasters$Town;", Cond.fieldLink RX7 41 "ChicoryRoasters$Town" "drumCount" "I", Cond.fieldLink RX7 44 "ChicoryRoasters$Town" "drums" "[LChicoryRoasters$Drum;", Cond.methodLink RX7 89 yX7_checkIndex, Cond.static yX7_checkIndex, Cond.code yX7_checkIndex cX7_checkIndex 2 none, Cond.classLink RX7 139 "java/lang/IndexOutOfBoundsException", Cond.initialized "java/lang/IndexOutOfBoundsException", Cond.methodLink RX7 153 yX2_daysToBest, Cond.instanceMethod yX2_daysToBest, Cond.selects RX2 yX2_daysToBest yX2_daysToBest, Cond.initialized RX2, Cond.code yX2_daysToBest cX2_daysToBest 6 (some .int), Cond.fieldLink RX2 24 "ChicoryRoasters$Drum" "level" "I", Cond.methodLink RX2 44 yX2_partsAt, Cond.instanceMethod yX2_partsAt, Cond.selects RX2 yX2_partsAt yX2_partsAt, Cond.code yX2_partsAt cX2_partsAt 3 (some .int)]
def wsL_ready_r2 : List Cond := [Cond.fieldLink RX2 9 "ChicoryRoasters$Drum" "kind" "I", Cond.fieldLink RX2 21 "ChicoryRoasters$Drum" "much" "I", Cond.methodLink RX2 41 yX2_done, Cond.instanceMethod yX2_done, Cond.selects RX2 yX2_done yX2_done, Cond.code yX2_done cX2_done 1 (some .int), Cond.methodLink RX2 31 yX2_burnt, Cond.instanceMethod yX2_burnt, Cond.selects RX2 yX2_burnt yX2_burnt, Cond.code yX2_burnt cX2_burnt 1 (some .int), Cond.methodLink RX2 27 yX2_levelAfter, Cond.instanceMethod yX2_levelAfter, Cond.selects RX2 yX2_levelAfter yX2_levelAfter, Cond.code yX2_levelAfter cX2_levelAfter 2 (some .int), Cond.fieldLink RX2 18 "ChicoryRoasters$Drum" "heat" "I", Cond.methodLink RX2 35 Lib.Math.min.name, Cond.static Lib.Math.min.name, Cond.initialized "java/lang/Math", Cond.code Lib.Math.min.name Lib.Math.min.code 2 (some .int)]
def wsL_ready : List Cond := .codeWith yL_ready cL_ready 4 (some .int) [(0, 9, 12, 36)] :: ((wsL_ready_r1 ++ wsL_ready_r2) ++ wsX70 ++ wsX60 ++ wsX20 ++ (vx_atS RX7 143 "java/lang/IndexOutOfBoundsException" ["java/lang/RuntimeException", "java/lang/Exception"]).filter goodWord)
def wsL_caught_r1 : List Cond := [Cond.classLink RL 36 "java/lang/IndexOutOfBoundsException", Cond.classLink RL 13 "java/lang/IllegalArgumentException", Cond.classLink RL 15 "java/lang/IllegalStateException", Cond.methodLink RL 78 yX7_caught, Cond.instanceMethod yX7_caught, Cond.selects RX7 yX7_caught yX7_caught, Cond.initialized RX7, Cond.code yX7_caught cX7_caught 3 (some .boolean), Cond.fieldLink RX7 10 "ChicoryRoasters" "town" "LChicoryRoasters$Town;", Cond.fieldLink RX7 53 "ChicoryRoasters$Town" "smugglerCount" "I", Cond.fieldLink RX7 56 "ChicoryRoasters$Town" "smugglers" "[LChicoryRoasters$Smuggler;", Cond.fieldLink RX7 123 "ChicoryRoasters$Smuggler" "where" "I", Cond.fieldLink RX7 157 "ChicoryRoasters$Town" "day" "I", Cond.methodLink RX7 89 yX7_checkIndex, Cond.static yX7_checkIndex, Cond.code yX7_checkIndex cX7_checkIndex 2 none, Cond.classLink RX7 139 "java/lang/IndexOutOfBoundsException", Cond.initialized "java/lang/IndexOutOfBoundsException", Cond.methodLink RX7 19 yX7_checkNumber, Cond.static yX7_checkNumber, Cond.code yX7_checkNumber cX7_checkNumber 3 none, Cond.classLink RX7 182 "java/lang/IllegalArgumentException", Cond.initialized "java/lang/IllegalArgumentException", Cond.methodLink RX7 27 yX7_checkState]
def wsL_caught_r2 : List Cond := [Cond.static yX7_checkState, Cond.code yX7_checkState cX7_checkState 1 none, Cond.classLink RX7 187 "java/lang/IllegalStateException", Cond.initialized "java/lang/IllegalStateException", Cond.methodLink RX7 160 yX3_daysToBorder, Cond.instanceMethod yX3_daysToBorder, Cond.selects RX3 yX3_daysToBorder yX3_daysToBorder, Cond.initialized RX3, Cond.code yX3_daysToBorder cX3_daysToBorder 1 (some .int), Cond.fieldLink RX3 9 "ChicoryRoasters$Smuggler" "way" "I", Cond.methodLink RX7 163 yX6_patrolled, Cond.instanceMethod yX6_patrolled, Cond.selects RX6 yX6_patrolled yX6_patrolled, Cond.initialized RX6, Cond.code yX6_patrolled cX6_patrolled 2 (some .boolean), Cond.fieldLink RX6 46 "ChicoryRoasters$Town" "patrol" "I"]
def wsL_caught : List Cond := .codeWith yL_caught cL_caught 5 (some .int) [(0, 17, 20, 36), (0, 17, 24, 13), (0, 17, 28, 15)] :: ((wsL_caught_r1 ++ wsL_caught_r2) ++ wsX70 ++ wsX60 ++ wsX30 ++ (vx_atS RX7 143 "java/lang/IndexOutOfBoundsException" ["java/lang/RuntimeException", "java/lang/Exception"]).filter goodWord ++ (vx_atS RX7 186 "java/lang/IllegalArgumentException" ["java/lang/RuntimeException", "java/lang/Exception"]).filter goodWord ++ (vx_atS RX7 191 "java/lang/IllegalStateException" ["java/lang/RuntimeException", "java/lang/Exception"]).filter goodWord)
def wsL_advise_r1 : List Cond := [Cond.classLink RL 13 "java/lang/IllegalArgumentException", Cond.methodLink RL 82 yX7_advise, Cond.instanceMethod yX7_advise, Cond.selects RX7 yX7_advise yX7_advise, Cond.initialized RX7, Cond.code yX7_advise cX7_advise 6 (some .int), Cond.fieldLink RX7 16 "ChicoryRoasters" "trial" "LChicoryRoasters$Town;", Cond.fieldLink RX7 10 "ChicoryRoasters" "town" "LChicoryRoasters$Town;", Cond.fieldLink RX7 80 "ChicoryRoasters$Town" "store" "LChicoryRoasters$Store;", Cond.fieldLink RX7 84 "ChicoryRoasters$Store" "share" "I", Cond.methodLink RX7 19 yX7_checkNumber, Cond.static yX7_checkNumber, Cond.code yX7_checkNumber cX7_checkNumber 3 none, Cond.classLink RX7 182 "java/lang/IllegalArgumentException", Cond.initialized "java/lang/IllegalArgumentException", Cond.methodLink RX7 146 yX6_become, Cond.instanceMethod yX6_become, Cond.selects RX6 yX6_become yX6_become, Cond.initialized RX6, Cond.code yX6_become cX6_become 3 none, Cond.fieldLink RX6 63 "ChicoryRoasters$Town" "day" "I", Cond.fieldLink RX6 46 "ChicoryRoasters$Town" "patrol" "I", Cond.fieldLink RX6 38 "ChicoryRoasters$Town" "store" "LChicoryRoasters$Store;", Cond.fieldLink RX6 84 "ChicoryRoasters$Town" "bedCount" "I"]
def wsL_advise_r2 : List Cond := [Cond.fieldLink RX6 11 "ChicoryRoasters$Town" "beds" "[LChicoryRoasters$Bed;", Cond.fieldLink RX6 80 "ChicoryRoasters$Town" "drumCount" "I", Cond.fieldLink RX6 19 "ChicoryRoasters$Town" "drums" "[LChicoryRoasters$Drum;", Cond.fieldLink RX6 66 "ChicoryRoasters$Town" "smugglerCount" "I", Cond.fieldLink RX6 25 "ChicoryRoasters$Town" "smugglers" "[LChicoryRoasters$Smuggler;", Cond.fieldLink RX6 88 "ChicoryRoasters$Town" "cardCount" "I", Cond.fieldLink RX6 31 "ChicoryRoasters$Town" "cards" "[LChicoryRoasters$Card;", Cond.methodLink RX6 98 yX4_become, Cond.instanceMethod yX4_become, Cond.selects RX4 yX4_become yX4_become, Cond.initialized RX4, Cond.code yX4_become cX4_become 2 none, Cond.fieldLink RX4 15 "ChicoryRoasters$Store" "roots" "I", Cond.fieldLink RX4 18 "ChicoryRoasters$Store" "beans" "I", Cond.fieldLink RX4 21 "ChicoryRoasters$Store" "chicory" "I", Cond.fieldLink RX4 24 "ChicoryRoasters$Store" "coffee" "I", Cond.fieldLink RX4 9 "ChicoryRoasters$Store" "share" "I", Cond.fieldLink RX4 36 "ChicoryRoasters$Store" "served" "I", Cond.fieldLink RX4 33 "ChicoryRoasters$Store" "thinned" "I", Cond.methodLink RX6 102 yX0_become, Cond.instanceMethod yX0_become, Cond.selects RX0 yX0_become yX0_become, Cond.initialized RX0, Cond.code yX0_become cX0_become 2 none]
def wsL_advise_r3 : List Cond := [Cond.fieldLink RX0 7 "ChicoryRoasters$Bed" "grows" "I", Cond.fieldLink RX0 13 "ChicoryRoasters$Bed" "most" "I", Cond.fieldLink RX0 16 "ChicoryRoasters$Bed" "roots" "I", Cond.methodLink RX6 105 yX2_become, Cond.instanceMethod yX2_become, Cond.selects RX2 yX2_become yX2_become, Cond.initialized RX2, Cond.code yX2_become cX2_become 2 none, Cond.fieldLink RX2 15 "ChicoryRoasters$Drum" "holds" "I", Cond.fieldLink RX2 18 "ChicoryRoasters$Drum" "heat" "I", Cond.fieldLink RX2 9 "ChicoryRoasters$Drum" "kind" "I", Cond.fieldLink RX2 21 "ChicoryRoasters$Drum" "much" "I", Cond.fieldLink RX2 24 "ChicoryRoasters$Drum" "level" "I", Cond.methodLink RX6 108 yX3_become, Cond.instanceMethod yX3_become, Cond.selects RX3 yX3_become yX3_become, Cond.initialized RX3, Cond.code yX3_become cX3_become 2 none, Cond.fieldLink RX3 9 "ChicoryRoasters$Smuggler" "way" "I", Cond.fieldLink RX3 15 "ChicoryRoasters$Smuggler" "cargo" "I", Cond.fieldLink RX3 18 "ChicoryRoasters$Smuggler" "where" "I", Cond.fieldLink RX3 21 "ChicoryRoasters$Smuggler" "left" "I", Cond.fieldLink RX3 24 "ChicoryRoasters$Smuggler" "arrests" "I", Cond.methodLink RX6 111 yX1_become]
def wsL_advise_r4 : List Cond := [Cond.instanceMethod yX1_become, Cond.selects RX1 yX1_become yX1_become, Cond.initialized RX1, Cond.code yX1_become cX1_become 2 none, Cond.fieldLink RX1 9 "ChicoryRoasters$Card" "allotted" "I", Cond.fieldLink RX1 15 "ChicoryRoasters$Card" "picky" "I", Cond.fieldLink RX1 18 "ChicoryRoasters$Card" "left" "I", Cond.fieldLink RX1 42 "ChicoryRoasters$Card" "served" "I", Cond.fieldLink RX1 35 "ChicoryRoasters$Card" "refused" "I", Cond.methodLink RX7 136 yX6_live, Cond.instanceMethod yX6_live, Cond.selects RX6 yX6_live yX6_live, Cond.code yX6_live cX6_live 4 (some .int), Cond.methodLink RX6 50 yX6_travel, Cond.instanceMethod yX6_travel, Cond.selects RX6 yX6_travel yX6_travel, Cond.code yX6_travel cX6_travel 2 none, Cond.methodLink RX6 69 yX6_patrolled, Cond.instanceMethod yX6_patrolled, Cond.selects RX6 yX6_patrolled yX6_patrolled, Cond.code yX6_patrolled cX6_patrolled 2 (some .boolean), Cond.methodLink RX6 73 yX3_travel, Cond.instanceMethod yX3_travel, Cond.selects RX3 yX3_travel yX3_travel]
def wsL_advise_r5 : List Cond := [Cond.code yX3_travel cX3_travel 2 (some .int), Cond.methodLink RX3 27 yX3_comeHome, Cond.instanceMethod yX3_comeHome, Cond.selects RX3 yX3_comeHome yX3_comeHome, Cond.code yX3_comeHome cX3_comeHome 2 (some .int), Cond.methodLink RX6 76 yX4_add, Cond.instanceMethod yX4_add, Cond.selects RX4 yX4_add yX4_add, Cond.code yX4_add cX4_add 3 none, Cond.methodLink RX6 53 yX6_warm, Cond.instanceMethod yX6_warm, Cond.selects RX6 yX6_warm yX6_warm, Cond.code yX6_warm cX6_warm 2 none, Cond.methodLink RX6 83 yX2_warm, Cond.instanceMethod yX2_warm, Cond.selects RX2 yX2_warm yX2_warm, Cond.code yX2_warm cX2_warm 1 none, Cond.methodLink RX2 27 yX2_levelAfter, Cond.instanceMethod yX2_levelAfter, Cond.selects RX2 yX2_levelAfter yX2_levelAfter, Cond.code yX2_levelAfter cX2_levelAfter 2 (some .int), Cond.methodLink RX2 35 Lib.Math.min.name, Cond.static Lib.Math.min.name, Cond.initialized "java/lang/Math"]
def wsL_advise_r6 : List Cond := [Cond.code Lib.Math.min.name Lib.Math.min.code 2 (some .int), Cond.methodLink RX2 31 yX2_burnt, Cond.instanceMethod yX2_burnt, Cond.selects RX2 yX2_burnt yX2_burnt, Cond.code yX2_burnt cX2_burnt 1 (some .int), Cond.methodLink RX6 56 yX6_grow, Cond.instanceMethod yX6_grow, Cond.selects RX6 yX6_grow yX6_grow, Cond.code yX6_grow cX6_grow 2 none, Cond.methodLink RX6 87 yX0_grow, Cond.instanceMethod yX0_grow, Cond.selects RX0 yX0_grow yX0_grow, Cond.code yX0_grow cX0_grow 1 none, Cond.methodLink RX0 19 Lib.Math.min.name, Cond.methodLink RX6 59 yX6_serve, Cond.instanceMethod yX6_serve, Cond.selects RX6 yX6_serve yX6_serve, Cond.code yX6_serve cX6_serve 3 (some .int), Cond.methodLink RX6 91 yX1_renew, Cond.instanceMethod yX1_renew, Cond.selects RX1 yX1_renew yX1_renew, Cond.code yX1_renew cX1_renew 1 none, Cond.methodLink RX6 94 yX1_serveDay, Cond.instanceMethod yX1_serveDay]
def wsL_advise_r7 : List Cond := [Cond.selects RX1 yX1_serveDay yX1_serveDay, Cond.code yX1_serveDay cX1_serveDay 3 (some .int), Cond.methodLink RX1 21 yX1_serveOne, Cond.instanceMethod yX1_serveOne, Cond.selects RX1 yX1_serveOne yX1_serveOne, Cond.code yX1_serveOne cX1_serveOne 3 (some .boolean), Cond.methodLink RX1 25 yX4_coffeeOfPortion, Cond.instanceMethod yX4_coffeeOfPortion, Cond.selects RX4 yX4_coffeeOfPortion yX4_coffeeOfPortion, Cond.code yX4_coffeeOfPortion cX4_coffeeOfPortion 1 (some .int), Cond.methodLink RX4 27 Lib.Math.min.name, Cond.methodLink RX1 31 yX4_canMix, Cond.instanceMethod yX4_canMix, Cond.selects RX4 yX4_canMix yX4_canMix, Cond.code yX4_canMix cX4_canMix 2 (some .boolean), Cond.methodLink RX1 38 yX4_servePortion, Cond.instanceMethod yX4_servePortion, Cond.selects RX4 yX4_servePortion yX4_servePortion, Cond.code yX4_servePortion cX4_servePortion 2 none]
def wsL_advise : List Cond := .codeWith yL_advise cL_advise 4 (some .int) [(0, 9, 12, 13)] :: ((wsL_advise_r1 ++ (wsL_advise_r2 ++ (wsL_advise_r3 ++ (wsL_advise_r4 ++ (wsL_advise_r5 ++ (wsL_advise_r6 ++ wsL_advise_r7)))))) ++ wsX70 ++ wsX60 ++ wsX40 ++ wsX00 ++ wsX20 ++ wsX30 ++ wsX10 ++ (vx_atS RX7 186 "java/lang/IllegalArgumentException" ["java/lang/RuntimeException", "java/lang/Exception"]).filter goodWord)
def wsL_law0_r1 : List Cond := [Cond.classLink RL 8 RX7, Cond.instantiable RX7 2, Cond.initialized RX7, Cond.classLink RL 86 RX8, Cond.instantiable RX8 11, Cond.initialized RX8, Cond.arrayClass .long, Cond.methodLink RL 85 yX7_init, Cond.instanceMethod yX7_init, Cond.code yX7_init cX7_init 1 none, Cond.methodLink RX7 1 objectInit, Cond.instanceMethod objectInit, Cond.code objectInit ⟨#[0xb1]⟩ 1 none, Cond.classLink RX7 7 RX6, Cond.instantiable RX6 11, Cond.initialized RX6, Cond.fieldLink RX7 10 "ChicoryRoasters" "town" "LChicoryRoasters$Town;", Cond.fieldLink RX7 16 "ChicoryRoasters" "trial" "LChicoryRoasters$Town;", Cond.methodLink RX7 9 yX6_init, Cond.instanceMethod yX6_init, Cond.code yX6_init cX6_init 2 none, Cond.classLink RX6 9 RX0, Cond.fieldLink RX6 11 "ChicoryRoasters$Town" "beds" "[LChicoryRoasters$Bed;", Cond.classLink RX6 17 RX2]
def wsL_law0_r2 : List Cond := [Cond.fieldLink RX6 19 "ChicoryRoasters$Town" "drums" "[LChicoryRoasters$Drum;", Cond.classLink RX6 23 RX3, Cond.fieldLink RX6 25 "ChicoryRoasters$Town" "smugglers" "[LChicoryRoasters$Smuggler;", Cond.classLink RX6 29 RX1, Cond.fieldLink RX6 31 "ChicoryRoasters$Town" "cards" "[LChicoryRoasters$Card;", Cond.classLink RX6 35 RX4, Cond.instantiable RX4 7, Cond.initialized RX4, Cond.fieldLink RX6 38 "ChicoryRoasters$Town" "store" "LChicoryRoasters$Store;", Cond.instantiable RX0 3, Cond.initialized RX0, Cond.instantiable RX2 5, Cond.initialized RX2, Cond.instantiable RX3 5, Cond.initialized RX3, Cond.instantiable RX1 5, Cond.initialized RX1, Cond.instanceMethod yX5_init, Cond.initialized RX5, Cond.code yX5_init cX5_init 1 none, Cond.methodLink RX5 1 objectInit, Cond.instanceMethod yX4_init, Cond.code yX4_init cX4_init 1 none, Cond.methodLink RX4 3 objectInit]
def wsL_law0_r3 : List Cond := [Cond.fieldLink RX4 9 "ChicoryRoasters$Store" "share" "I", Cond.instanceMethod yX0_init, Cond.code yX0_init cX0_init 1 none, Cond.instanceMethod yX2_init, Cond.code yX2_init cX2_init 1 none, Cond.fieldLink RX2 9 "ChicoryRoasters$Drum" "kind" "I", Cond.instanceMethod yX3_init, Cond.code yX3_init cX3_init 1 none, Cond.instanceMethod yX1_init, Cond.code yX1_init cX1_init 1 none, Cond.methodLink RL 88 yX8_init, Cond.instanceMethod yX8_init, Cond.code yX8_init cX8_init 1 none, Cond.methodLink RX8 1 objectInit, Cond.arrayClass .int, Cond.fieldLink RX8 9 "ChicoryRoastersModel" "bedTold" "[I", Cond.fieldLink RX8 13 "ChicoryRoastersModel" "drumHolds" "[I", Cond.fieldLink RX8 16 "ChicoryRoastersModel" "smugglerTold" "[I", Cond.fieldLink RX8 19 "ChicoryRoastersModel" "cardTold" "[I", Cond.fieldLink RX8 22 "ChicoryRoastersModel" "now" "[I", Cond.fieldLink RX8 25 "ChicoryRoastersModel" "kept" "[I", Cond.methodLink RL 89 yL_bed, Cond.static yL_bed, Cond.initialized RL]
def wsL_law0_r4 : List Cond := [Cond.codeWith yL_bed cL_bed 5 (some .int) [(0, 10, 13, 13), (0, 10, 17, 15)], Cond.classLink RL 13 "java/lang/IllegalArgumentException", Cond.classLink RL 15 "java/lang/IllegalStateException", Cond.methodLink RL 7 yX7_bed, Cond.instanceMethod yX7_bed, Cond.selects RX7 yX7_bed yX7_bed, Cond.code yX7_bed cX7_bed 3 (some .int), Cond.fieldLink RX7 23 "ChicoryRoasters$Town" "bedCount" "I", Cond.fieldLink RX7 31 "ChicoryRoasters$Town" "beds" "[LChicoryRoasters$Bed;", Cond.methodLink RX7 19 yX7_checkNumber, Cond.static yX7_checkNumber, Cond.code yX7_checkNumber cX7_checkNumber 3 none, Cond.classLink RX7 182 "java/lang/IllegalArgumentException", Cond.initialized "java/lang/IllegalArgumentException", Cond.methodLink RX7 27 yX7_checkState, Cond.static yX7_checkState, Cond.code yX7_checkState cX7_checkState 1 none, Cond.classLink RX7 187 "java/lang/IllegalStateException", Cond.initialized "java/lang/IllegalStateException", Cond.methodLink RX7 35 yX0_lay, Cond.instanceMethod yX0_lay, Cond.selects RX0 yX0_lay yX0_lay, Cond.code yX0_lay cX0_lay 3 none, Cond.fieldLink RX0 7 "ChicoryRoasters$Bed" "grows" "I"]
def wsL_law0_r5 : List Cond := [Cond.fieldLink RX0 13 "ChicoryRoasters$Bed" "most" "I", Cond.methodLink RL 94 yX8_bed, Cond.instanceMethod yX8_bed, Cond.selects RX8 yX8_bed yX8_bed, Cond.code yX8_bed cX8_bed 3 (some .int), Cond.fieldLink RX8 28 "ChicoryRoastersModel" "thrown" "I", Cond.fieldLink RX8 52 "ChicoryRoastersModel" "beds" "I", Cond.methodLink RX8 35 yX8_isIn, Cond.static yX8_isIn, Cond.code yX8_isIn cX8_isIn 3 (some .boolean), Cond.methodLink RX8 48 yX8_fail, Cond.instanceMethod yX8_fail, Cond.selects RX8 yX8_fail yX8_fail, Cond.code yX8_fail cX8_fail 2 (some .int), Cond.methodLink RL 95 yX8_thrown, Cond.instanceMethod yX8_thrown, Cond.selects RX8 yX8_thrown yX8_thrown, Cond.code yX8_thrown cX8_thrown 1 (some .int), Cond.methodLink RL 99 yL_drum, Cond.static yL_drum, Cond.codeWith yL_drum cL_drum 5 (some .int) [(0, 10, 13, 13), (0, 10, 17, 15)], Cond.methodLink RL 17 yX7_drum, Cond.instanceMethod yX7_drum, Cond.selects RX7 yX7_drum yX7_drum]
def wsL_law0_r6 : List Cond := [Cond.code yX7_drum cX7_drum 3 (some .int), Cond.fieldLink RX7 41 "ChicoryRoasters$Town" "drumCount" "I", Cond.fieldLink RX7 44 "ChicoryRoasters$Town" "drums" "[LChicoryRoasters$Drum;", Cond.methodLink RX7 48 yX2_install, Cond.instanceMethod yX2_install, Cond.selects RX2 yX2_install yX2_install, Cond.code yX2_install cX2_install 3 none, Cond.fieldLink RX2 15 "ChicoryRoasters$Drum" "holds" "I", Cond.fieldLink RX2 18 "ChicoryRoasters$Drum" "heat" "I", Cond.methodLink RL 101 yX8_drum, Cond.instanceMethod yX8_drum, Cond.selects RX8 yX8_drum yX8_drum, Cond.code yX8_drum cX8_drum 3 (some .int), Cond.fieldLink RX8 32 "ChicoryRoastersModel" "drums" "I", Cond.methodLink RX8 55 yX8_letDrum, Cond.instanceMethod yX8_letDrum, Cond.selects RX8 yX8_letDrum yX8_letDrum, Cond.code yX8_letDrum cX8_letDrum 4 none, Cond.methodLink RL 102 yL_smuggler, Cond.static yL_smuggler, Cond.codeWith yL_smuggler cL_smuggler 5 (some .int) [(0, 10, 13, 13), (0, 10, 17, 15)], Cond.methodLink RL 20 yX7_smuggler, Cond.instanceMethod yX7_smuggler, Cond.selects RX7 yX7_smuggler yX7_smuggler]
def wsL_law0_r7 : List Cond := [Cond.code yX7_smuggler cX7_smuggler 3 (some .int), Cond.fieldLink RX7 53 "ChicoryRoasters$Town" "smugglerCount" "I", Cond.fieldLink RX7 56 "ChicoryRoasters$Town" "smugglers" "[LChicoryRoasters$Smuggler;", Cond.methodLink RX7 60 yX3_hire, Cond.instanceMethod yX3_hire, Cond.selects RX3 yX3_hire yX3_hire, Cond.code yX3_hire cX3_hire 3 none, Cond.fieldLink RX3 9 "ChicoryRoasters$Smuggler" "way" "I", Cond.fieldLink RX3 15 "ChicoryRoasters$Smuggler" "cargo" "I", Cond.methodLink RL 104 yX8_smuggler, Cond.instanceMethod yX8_smuggler, Cond.selects RX8 yX8_smuggler yX8_smuggler, Cond.code yX8_smuggler cX8_smuggler 3 (some .int), Cond.fieldLink RX8 39 "ChicoryRoastersModel" "smugglers" "I", Cond.methodLink RL 105 yL_card, Cond.static yL_card, Cond.codeWith yL_card cL_card 5 (some .int) [(0, 10, 13, 13), (0, 10, 17, 15)], Cond.methodLink RL 23 yX7_card, Cond.instanceMethod yX7_card, Cond.selects RX7 yX7_card yX7_card, Cond.code yX7_card cX7_card 3 (some .int), Cond.fieldLink RX7 65 "ChicoryRoasters$Town" "cardCount" "I", Cond.fieldLink RX7 68 "ChicoryRoasters$Town" "cards" "[LChicoryRoasters$Card;", Cond.methodLink RX7 72 yX1_issue]
def wsL_law0_r8 : List Cond := [Cond.instanceMethod yX1_issue, Cond.selects RX1 yX1_issue yX1_issue, Cond.code yX1_issue cX1_issue 3 none, Cond.fieldLink RX1 9 "ChicoryRoasters$Card" "allotted" "I", Cond.fieldLink RX1 15 "ChicoryRoasters$Card" "picky" "I", Cond.fieldLink RX1 18 "ChicoryRoasters$Card" "left" "I", Cond.methodLink RL 107 yX8_card, Cond.instanceMethod yX8_card, Cond.selects RX8 yX8_card yX8_card, Cond.code yX8_card cX8_card 3 (some .int), Cond.fieldLink RX8 59 "ChicoryRoastersModel" "cards" "I", Cond.methodLink RX8 62 yX8_moreCard, Cond.instanceMethod yX8_moreCard, Cond.selects RX8 yX8_moreCard yX8_moreCard, Cond.code yX8_moreCard cX8_moreCard 4 none, Cond.methodLink RL 108 yL_setPatrol, Cond.static yL_setPatrol, Cond.codeWith yL_setPatrol cL_setPatrol 4 (some .int) [(0, 9, 12, 13)], Cond.methodLink RL 26 yX7_setPatrol, Cond.instanceMethod yX7_setPatrol, Cond.selects RX7 yX7_setPatrol yX7_setPatrol, Cond.code yX7_setPatrol cX7_setPatrol 3 (some .int), Cond.fieldLink RX7 77 "ChicoryRoasters$Town" "patrol" "I", Cond.methodLink RL 111 yX8_setPatrol]
def wsL_law0_r9 : List Cond := [Cond.instanceMethod yX8_setPatrol, Cond.selects RX8 yX8_setPatrol yX8_setPatrol, Cond.code yX8_setPatrol cX8_setPatrol 2 (some .int), Cond.methodLink RX8 65 yX8_change, Cond.instanceMethod yX8_change, Cond.selects RX8 yX8_change yX8_change, Cond.code yX8_change cX8_change 5 (some .int), Cond.methodLink RL 112 yL_setShare, Cond.static yL_setShare, Cond.codeWith yL_setShare cL_setShare 4 (some .int) [(0, 9, 12, 13)], Cond.methodLink RL 30 yX7_setShare, Cond.instanceMethod yX7_setShare, Cond.selects RX7 yX7_setShare yX7_setShare, Cond.code yX7_setShare cX7_setShare 3 (some .int), Cond.fieldLink RX7 80 "ChicoryRoasters$Town" "store" "LChicoryRoasters$Store;", Cond.fieldLink RX7 84 "ChicoryRoasters$Store" "share" "I", Cond.methodLink RL 114 yX8_setShare, Cond.instanceMethod yX8_setShare, Cond.selects RX8 yX8_setShare yX8_setShare, Cond.code yX8_setShare cX8_setShare 2 (some .int), Cond.methodLink RL 115 yL_setHeat, Cond.static yL_setHeat, Cond.codeWith yL_setHeat cL_setHeat 5 (some .int) [(0, 10, 13, 36), (0, 10, 17, 13)], Cond.classLink RL 36 "java/lang/IndexOutOfBoundsException"]
def wsL_law0_r10 : List Cond := [Cond.methodLink RL 33 yX7_setHeat, Cond.instanceMethod yX7_setHeat, Cond.selects RX7 yX7_setHeat yX7_setHeat, Cond.code yX7_setHeat cX7_setHeat 4 (some .int), Cond.fieldLink RX7 92 "ChicoryRoasters$Drum" "heat" "I", Cond.methodLink RX7 89 yX7_checkIndex, Cond.static yX7_checkIndex, Cond.code yX7_checkIndex cX7_checkIndex 2 none, Cond.classLink RX7 139 "java/lang/IndexOutOfBoundsException", Cond.initialized "java/lang/IndexOutOfBoundsException", Cond.methodLink RL 117 yX8_setHeat, Cond.instanceMethod yX8_setHeat, Cond.selects RX8 yX8_setHeat yX8_setHeat, Cond.code yX8_setHeat cX8_setHeat 4 (some .int), Cond.methodLink RX8 69 yX8_isDrum, Cond.instanceMethod yX8_isDrum, Cond.selects RX8 yX8_isDrum yX8_isDrum, Cond.code yX8_isDrum cX8_isDrum 2 (some .boolean), Cond.methodLink RX8 73 yX8_dr, Cond.instanceMethod yX8_dr, Cond.selects RX8 yX8_dr yX8_dr, Cond.code yX8_dr cX8_dr 3 (some .int), Cond.methodLink RL 118 yL_dig, Cond.static yL_dig]
def wsL_law0_r11 : List Cond := [Cond.codeWith yL_dig cL_dig 5 (some .int) [(0, 10, 13, 36), (0, 10, 17, 13), (0, 10, 21, 15)], Cond.methodLink RL 38 yX7_dig, Cond.instanceMethod yX7_dig, Cond.selects RX7 yX7_dig yX7_dig, Cond.code yX7_dig cX7_dig 3 (some .int), Cond.fieldLink RX7 95 "ChicoryRoasters$Bed" "roots" "I", Cond.methodLink RX7 98 yX4_add, Cond.instanceMethod yX4_add, Cond.selects RX4 yX4_add yX4_add, Cond.code yX4_add cX4_add 3 none, Cond.fieldLink RX4 15 "ChicoryRoasters$Store" "roots" "I", Cond.fieldLink RX4 18 "ChicoryRoasters$Store" "beans" "I", Cond.methodLink RL 120 yX8_dig, Cond.instanceMethod yX8_dig, Cond.selects RX8 yX8_dig yX8_dig, Cond.code yX8_dig cX8_dig 3 (some .int), Cond.methodLink RL 121 yL_give, Cond.static yL_give, Cond.codeWith yL_give cL_give 5 (some .int) [(0, 10, 13, 36), (0, 10, 17, 13)], Cond.methodLink RL 41 yX7_give, Cond.instanceMethod yX7_give, Cond.selects RX7 yX7_give yX7_give, Cond.code yX7_give cX7_give 3 (some .int), Cond.methodLink RX7 101 yX4_stock]
def wsL_law0_r12 : List Cond := [Cond.instanceMethod yX4_stock, Cond.selects RX4 yX4_stock yX4_stock, Cond.code yX4_stock cX4_stock 2 (some .int), Cond.methodLink RL 123 yX8_give, Cond.instanceMethod yX8_give, Cond.selects RX8 yX8_give yX8_give, Cond.code yX8_give cX8_give 3 (some .int), Cond.methodLink RL 124 yL_load, Cond.static yL_load, Cond.codeWith yL_load cL_load 6 (some .int) [(0, 12, 15, 36), (0, 12, 19, 13), (0, 12, 23, 15)], Cond.methodLink RL 44 yX7_load, Cond.instanceMethod yX7_load, Cond.selects RX7 yX7_load yX7_load, Cond.code yX7_load cX7_load 4 (some .int), Cond.fieldLink RX7 105 "ChicoryRoasters$Drum" "holds" "I", Cond.fieldLink RX7 108 "ChicoryRoasters$Drum" "kind" "I", Cond.methodLink RX7 111 yX2_fill, Cond.instanceMethod yX2_fill, Cond.selects RX2 yX2_fill yX2_fill, Cond.code yX2_fill cX2_fill 3 none, Cond.fieldLink RX2 21 "ChicoryRoasters$Drum" "much" "I", Cond.fieldLink RX2 24 "ChicoryRoasters$Drum" "level" "I", Cond.methodLink RL 127 yX8_load, Cond.instanceMethod yX8_load]
def wsL_law0_r13 : List Cond := [Cond.selects RX8 yX8_load yX8_load, Cond.code yX8_load cX8_load 4 (some .int), Cond.methodLink RL 128 yL_take, Cond.static yL_take, Cond.codeWith yL_take cL_take 4 (some .int) [(0, 9, 12, 36), (0, 9, 15, 15)], Cond.methodLink RL 48 yX7_take, Cond.instanceMethod yX7_take, Cond.selects RX7 yX7_take yX7_take, Cond.code yX7_take cX7_take 4 (some .int), Cond.fieldLink RX7 114 "ChicoryRoasters$Drum" "level" "I", Cond.methodLink RX7 117 yX2_partsAt, Cond.instanceMethod yX2_partsAt, Cond.selects RX2 yX2_partsAt yX2_partsAt, Cond.code yX2_partsAt cX2_partsAt 3 (some .int), Cond.methodLink RX2 41 yX2_done, Cond.instanceMethod yX2_done, Cond.selects RX2 yX2_done yX2_done, Cond.code yX2_done cX2_done 1 (some .int), Cond.methodLink RX2 31 yX2_burnt, Cond.instanceMethod yX2_burnt, Cond.selects RX2 yX2_burnt yX2_burnt, Cond.code yX2_burnt cX2_burnt 1 (some .int), Cond.methodLink RX7 120 yX4_addRoasted, Cond.instanceMethod yX4_addRoasted]
def wsL_law0_r14 : List Cond := [Cond.selects RX4 yX4_addRoasted yX4_addRoasted, Cond.code yX4_addRoasted cX4_addRoasted 3 none, Cond.fieldLink RX4 21 "ChicoryRoasters$Store" "chicory" "I", Cond.fieldLink RX4 24 "ChicoryRoasters$Store" "coffee" "I", Cond.methodLink RL 130 yX8_take, Cond.instanceMethod yX8_take, Cond.selects RX8 yX8_take yX8_take, Cond.code yX8_take cX8_take 3 (some .int), Cond.methodLink RX8 89 yX8_yieldOf, Cond.instanceMethod yX8_yieldOf, Cond.selects RX8 yX8_yieldOf yX8_yieldOf, Cond.code yX8_yieldOf cX8_yieldOf 2 (some .int), Cond.methodLink RX8 86 yX8_yields, Cond.static yX8_yields, Cond.code yX8_yields cX8_yields 3 (some .int), Cond.fieldLink RX8 77 "ChicoryRoastersModel" "DONE" "[I", Cond.fieldLink RX8 80 "ChicoryRoastersModel" "BURNT" "[I", Cond.fieldLink RX8 83 "ChicoryRoastersModel" "TIMES" "[I", Cond.methodLink RL 131 yL_send, Cond.static yL_send, Cond.codeWith yL_send cL_send 4 (some .int) [(0, 9, 12, 36), (0, 9, 15, 15)], Cond.methodLink RL 51 yX7_send, Cond.instanceMethod yX7_send, Cond.selects RX7 yX7_send yX7_send]
def wsL_law0_r15 : List Cond := [Cond.code yX7_send cX7_send 2 (some .int), Cond.fieldLink RX7 123 "ChicoryRoasters$Smuggler" "where" "I", Cond.fieldLink RX7 129 "ChicoryRoasters$Smuggler" "left" "I", Cond.methodLink RX7 126 yX3_setOut, Cond.instanceMethod yX3_setOut, Cond.selects RX3 yX3_setOut yX3_setOut, Cond.code yX3_setOut cX3_setOut 1 none, Cond.fieldLink RX3 18 "ChicoryRoasters$Smuggler" "where" "I", Cond.fieldLink RX3 21 "ChicoryRoasters$Smuggler" "left" "I", Cond.methodLink RL 133 yX8_send, Cond.instanceMethod yX8_send, Cond.selects RX8 yX8_send yX8_send, Cond.code yX8_send cX8_send 2 (some .int), Cond.methodLink RX8 92 yX8_isSmuggler, Cond.instanceMethod yX8_isSmuggler, Cond.selects RX8 yX8_isSmuggler yX8_isSmuggler, Cond.code yX8_isSmuggler cX8_isSmuggler 2 (some .boolean), Cond.methodLink RX8 95 yX8_sm, Cond.instanceMethod yX8_sm, Cond.selects RX8 yX8_sm yX8_sm, Cond.code yX8_sm cX8_sm 3 (some .int), Cond.methodLink RX8 98 yX8_letSmuggler, Cond.instanceMethod yX8_letSmuggler, Cond.selects RX8 yX8_letSmuggler yX8_letSmuggler]
def wsL_law0_r16 : List Cond := [Cond.code yX8_letSmuggler cX8_letSmuggler 4 none, Cond.methodLink RL 134 yL_about, Cond.static yL_about, Cond.codeWith yL_about cL_about 5 (some .int) [(0, 10, 13, 36)], Cond.methodLink RL 54 yX7_about, Cond.instanceMethod yX7_about, Cond.selects RX7 yX7_about yX7_about, Cond.code yX7_about cX7_about 3 (some .int), Cond.methodLink RX7 132 yX7_ask, Cond.static yX7_ask, Cond.code yX7_ask cX7_ask 2 (some .int), Cond.methodLink RX7 192 ⟨"ChicoryRoasters$Teller", "size", "()I"⟩, Cond.sameMethod "ChicoryRoasters$Teller" "ChicoryRoasters$Teller" "size" "()I", Cond.selects RX0 ⟨"ChicoryRoasters$Teller", "size", "()I"⟩ yX0_size, Cond.instanceMethod yX0_size, Cond.code yX0_size cX0_size 1 (some .int), Cond.selects RX1 ⟨"ChicoryRoasters$Teller", "size", "()I"⟩ yX1_size, Cond.instanceMethod yX1_size, Cond.code yX1_size cX1_size 1 (some .int), Cond.selects RX2 ⟨"ChicoryRoasters$Teller", "size", "()I"⟩ yX2_size, Cond.instanceMethod yX2_size, Cond.code yX2_size cX2_size 1 (some .int), Cond.selects RX3 ⟨"ChicoryRoasters$Teller", "size", "()I"⟩ yX3_size, Cond.instanceMethod yX3_size]
def wsL_law0_r17 : List Cond := [Cond.code yX3_size cX3_size 1 (some .int), Cond.selects RX6 ⟨"ChicoryRoasters$Teller", "size", "()I"⟩ yX6_size, Cond.instanceMethod yX6_size, Cond.code yX6_size cX6_size 1 (some .int), Cond.methodLink RX7 197 ⟨"ChicoryRoasters$Teller", "tell", "(I)I"⟩, Cond.sameMethod "ChicoryRoasters$Teller" "ChicoryRoasters$Teller" "tell" "(I)I", Cond.selects RX0 ⟨"ChicoryRoasters$Teller", "tell", "(I)I"⟩ yX0_tell, Cond.instanceMethod yX0_tell, Cond.code yX0_tell cX0_tell 2 (some .int), Cond.fieldLink RX0 16 "ChicoryRoasters$Bed" "roots" "I", Cond.selects RX1 ⟨"ChicoryRoasters$Teller", "tell", "(I)I"⟩ yX1_tell, Cond.instanceMethod yX1_tell, Cond.code yX1_tell cX1_tell 2 (some .int), Cond.fieldLink RX1 42 "ChicoryRoasters$Card" "served" "I", Cond.fieldLink RX1 35 "ChicoryRoasters$Card" "refused" "I", Cond.selects RX2 ⟨"ChicoryRoasters$Teller", "tell", "(I)I"⟩ yX2_tell, Cond.instanceMethod yX2_tell, Cond.code yX2_tell cX2_tell 2 (some .int), Cond.methodLink RX2 44 yX2_partsAt, Cond.selects RX3 ⟨"ChicoryRoasters$Teller", "tell", "(I)I"⟩ yX3_tell, Cond.instanceMethod yX3_tell, Cond.code yX3_tell cX3_tell 2 (some .int), Cond.fieldLink RX3 24 "ChicoryRoasters$Smuggler" "arrests" "I", Cond.selects RX6 ⟨"ChicoryRoasters$Teller", "tell", "(I)I"⟩ yX6_tell]
def wsL_law0_r18 : List Cond := [Cond.instanceMethod yX6_tell, Cond.code yX6_tell cX6_tell 2 (some .int), Cond.fieldLink RX6 63 "ChicoryRoasters$Town" "day" "I", Cond.fieldLink RX6 114 "ChicoryRoasters$Store" "roots" "I", Cond.fieldLink RX6 117 "ChicoryRoasters$Store" "beans" "I", Cond.fieldLink RX6 120 "ChicoryRoasters$Store" "chicory" "I", Cond.fieldLink RX6 123 "ChicoryRoasters$Store" "coffee" "I", Cond.fieldLink RX6 126 "ChicoryRoasters$Store" "served" "I", Cond.fieldLink RX6 129 "ChicoryRoasters$Store" "thinned" "I", Cond.fieldLink RX6 132 "ChicoryRoasters$Store" "share" "I", Cond.fieldLink RX6 46 "ChicoryRoasters$Town" "patrol" "I", Cond.methodLink RL 136 yX8_about, Cond.instanceMethod yX8_about, Cond.selects RX8 yX8_about yX8_about, Cond.code yX8_about cX8_about 3 (some .int), Cond.methodLink RX8 101 yX8_bedIs, Cond.instanceMethod yX8_bedIs, Cond.selects RX8 yX8_bedIs yX8_bedIs, Cond.code yX8_bedIs cX8_bedIs 3 (some .int), Cond.methodLink RL 137 yL_roast, Cond.static yL_roast, Cond.codeWith yL_roast cL_roast 5 (some .int) [(0, 10, 13, 36)], Cond.methodLink RL 57 yX7_roast, Cond.instanceMethod yX7_roast]
def wsL_law0_r19 : List Cond := [Cond.selects RX7 yX7_roast yX7_roast, Cond.code yX7_roast cX7_roast 3 (some .int), Cond.methodLink RL 139 yX8_roast, Cond.instanceMethod yX8_roast, Cond.selects RX8 yX8_roast yX8_roast, Cond.code yX8_roast cX8_roast 3 (some .int), Cond.methodLink RX8 104 yX8_drumIs, Cond.instanceMethod yX8_drumIs, Cond.selects RX8 yX8_drumIs yX8_drumIs, Cond.code yX8_drumIs cX8_drumIs 3 (some .int), Cond.methodLink RL 140 yL_told, Cond.static yL_told, Cond.codeWith yL_told cL_told 5 (some .int) [(0, 10, 13, 36)], Cond.methodLink RL 60 yX7_told, Cond.instanceMethod yX7_told, Cond.selects RX7 yX7_told yX7_told, Cond.code yX7_told cX7_told 3 (some .int), Cond.methodLink RL 142 yX8_told, Cond.instanceMethod yX8_told, Cond.selects RX8 yX8_told yX8_told, Cond.code yX8_told cX8_told 3 (some .int), Cond.methodLink RX8 107 yX8_smugglerIs, Cond.instanceMethod yX8_smugglerIs, Cond.selects RX8 yX8_smugglerIs yX8_smugglerIs]
def wsL_law0_r20 : List Cond := [Cond.code yX8_smugglerIs cX8_smugglerIs 3 (some .int), Cond.methodLink RL 143 yL_ration, Cond.static yL_ration, Cond.codeWith yL_ration cL_ration 5 (some .int) [(0, 10, 13, 36)], Cond.methodLink RL 63 yX7_ration, Cond.instanceMethod yX7_ration, Cond.selects RX7 yX7_ration yX7_ration, Cond.code yX7_ration cX7_ration 3 (some .int), Cond.methodLink RL 145 yX8_ration, Cond.instanceMethod yX8_ration, Cond.selects RX8 yX8_ration yX8_ration, Cond.code yX8_ration cX8_ration 3 (some .int), Cond.methodLink RX8 113 yX8_cardIs, Cond.instanceMethod yX8_cardIs, Cond.selects RX8 yX8_cardIs yX8_cardIs, Cond.code yX8_cardIs cX8_cardIs 3 (some .int), Cond.methodLink RX8 110 yX8_ca, Cond.instanceMethod yX8_ca, Cond.selects RX8 yX8_ca yX8_ca, Cond.code yX8_ca cX8_ca 3 (some .int), Cond.methodLink RL 146 yL_count, Cond.static yL_count, Cond.codeWith yL_count cL_count 4 (some .int) [(0, 9, 12, 36)], Cond.methodLink RL 66 yX7_count]
def wsL_law0_r21 : List Cond := [Cond.instanceMethod yX7_count, Cond.selects RX7 yX7_count yX7_count, Cond.code yX7_count cX7_count 2 (some .int), Cond.methodLink RL 148 yX8_count, Cond.instanceMethod yX8_count, Cond.selects RX8 yX8_count yX8_count, Cond.code yX8_count cX8_count 2 (some .int), Cond.methodLink RL 149 yL_pass, Cond.static yL_pass, Cond.codeWith yL_pass cL_pass 4 (some .int) [(0, 9, 12, 13)], Cond.methodLink RL 69 yX7_pass, Cond.instanceMethod yX7_pass, Cond.selects RX7 yX7_pass yX7_pass, Cond.code yX7_pass cX7_pass 2 (some .int), Cond.methodLink RX7 136 yX6_live, Cond.instanceMethod yX6_live, Cond.selects RX6 yX6_live yX6_live, Cond.code yX6_live cX6_live 4 (some .int), Cond.methodLink RX6 50 yX6_travel, Cond.instanceMethod yX6_travel, Cond.selects RX6 yX6_travel yX6_travel, Cond.code yX6_travel cX6_travel 2 none, Cond.fieldLink RX6 66 "ChicoryRoasters$Town" "smugglerCount" "I", Cond.methodLink RX6 69 yX6_patrolled]
def wsL_law0_r22 : List Cond := [Cond.instanceMethod yX6_patrolled, Cond.selects RX6 yX6_patrolled yX6_patrolled, Cond.code yX6_patrolled cX6_patrolled 2 (some .boolean), Cond.methodLink RX6 73 yX3_travel, Cond.instanceMethod yX3_travel, Cond.selects RX3 yX3_travel yX3_travel, Cond.code yX3_travel cX3_travel 2 (some .int), Cond.methodLink RX3 27 yX3_comeHome, Cond.instanceMethod yX3_comeHome, Cond.selects RX3 yX3_comeHome yX3_comeHome, Cond.code yX3_comeHome cX3_comeHome 2 (some .int), Cond.methodLink RX6 76 yX4_add, Cond.methodLink RX6 53 yX6_warm, Cond.instanceMethod yX6_warm, Cond.selects RX6 yX6_warm yX6_warm, Cond.code yX6_warm cX6_warm 2 none, Cond.fieldLink RX6 80 "ChicoryRoasters$Town" "drumCount" "I", Cond.methodLink RX6 83 yX2_warm, Cond.instanceMethod yX2_warm, Cond.selects RX2 yX2_warm yX2_warm, Cond.code yX2_warm cX2_warm 1 none, Cond.methodLink RX2 27 yX2_levelAfter, Cond.instanceMethod yX2_levelAfter, Cond.selects RX2 yX2_levelAfter yX2_levelAfter]
def wsL_law0_r23 : List Cond := [Cond.code yX2_levelAfter cX2_levelAfter 2 (some .int), Cond.methodLink RX2 35 Lib.Math.min.name, Cond.static Lib.Math.min.name, Cond.initialized "java/lang/Math", Cond.code Lib.Math.min.name Lib.Math.min.code 2 (some .int), Cond.methodLink RX6 56 yX6_grow, Cond.instanceMethod yX6_grow, Cond.selects RX6 yX6_grow yX6_grow, Cond.code yX6_grow cX6_grow 2 none, Cond.fieldLink RX6 84 "ChicoryRoasters$Town" "bedCount" "I", Cond.methodLink RX6 87 yX0_grow, Cond.instanceMethod yX0_grow, Cond.selects RX0 yX0_grow yX0_grow, Cond.code yX0_grow cX0_grow 1 none, Cond.methodLink RX0 19 Lib.Math.min.name, Cond.methodLink RX6 59 yX6_serve, Cond.instanceMethod yX6_serve, Cond.selects RX6 yX6_serve yX6_serve, Cond.code yX6_serve cX6_serve 3 (some .int), Cond.fieldLink RX6 88 "ChicoryRoasters$Town" "cardCount" "I", Cond.methodLink RX6 91 yX1_renew, Cond.instanceMethod yX1_renew, Cond.selects RX1 yX1_renew yX1_renew, Cond.code yX1_renew cX1_renew 1 none]
def wsL_law0_r24 : List Cond := [Cond.methodLink RX6 94 yX1_serveDay, Cond.instanceMethod yX1_serveDay, Cond.selects RX1 yX1_serveDay yX1_serveDay, Cond.code yX1_serveDay cX1_serveDay 3 (some .int), Cond.methodLink RX1 21 yX1_serveOne, Cond.instanceMethod yX1_serveOne, Cond.selects RX1 yX1_serveOne yX1_serveOne, Cond.code yX1_serveOne cX1_serveOne 3 (some .boolean), Cond.methodLink RX1 25 yX4_coffeeOfPortion, Cond.instanceMethod yX4_coffeeOfPortion, Cond.selects RX4 yX4_coffeeOfPortion yX4_coffeeOfPortion, Cond.code yX4_coffeeOfPortion cX4_coffeeOfPortion 1 (some .int), Cond.methodLink RX4 27 Lib.Math.min.name, Cond.methodLink RX1 31 yX4_canMix, Cond.instanceMethod yX4_canMix, Cond.selects RX4 yX4_canMix yX4_canMix, Cond.code yX4_canMix cX4_canMix 2 (some .boolean), Cond.methodLink RX1 38 yX4_servePortion, Cond.instanceMethod yX4_servePortion, Cond.selects RX4 yX4_servePortion yX4_servePortion, Cond.code yX4_servePortion cX4_servePortion 2 none, Cond.fieldLink RX4 33 "ChicoryRoasters$Store" "thinned" "I", Cond.fieldLink RX4 36 "ChicoryRoasters$Store" "served" "I", Cond.methodLink RL 151 yX8_pass]
def wsL_law0_r25 : List Cond := [Cond.instanceMethod yX8_pass, Cond.selects RX8 yX8_pass yX8_pass, Cond.code yX8_pass cX8_pass 3 (some .int), Cond.methodLink RX8 134 yX8_daysOn, Cond.instanceMethod yX8_daysOn, Cond.selects RX8 yX8_daysOn yX8_daysOn, Cond.code yX8_daysOn cX8_daysOn 3 none, Cond.methodLink RX8 131 yX8_dayOn, Cond.instanceMethod yX8_dayOn, Cond.selects RX8 yX8_dayOn yX8_dayOn, Cond.code yX8_dayOn cX8_dayOn 3 none, Cond.methodLink RX8 119 Lib.Math.min.name, Cond.methodLink RX8 124 yX8_goOn, Cond.instanceMethod yX8_goOn, Cond.selects RX8 yX8_goOn yX8_goOn, Cond.code yX8_goOn cX8_goOn 4 none, Cond.methodLink RX8 116 yX8_isPatrol, Cond.instanceMethod yX8_isPatrol, Cond.selects RX8 yX8_isPatrol yX8_isPatrol, Cond.code yX8_isPatrol cX8_isPatrol 2 (some .boolean), Cond.methodLink RX8 128 yX8_serve, Cond.instanceMethod yX8_serve, Cond.selects RX8 yX8_serve yX8_serve, Cond.code yX8_serve cX8_serve 3 (some .boolean)]
def wsL_law0_r26 : List Cond := [Cond.methodLink RL 152 yL_foresee, Cond.static yL_foresee, Cond.codeWith yL_foresee cL_foresee 5 (some .int) [(0, 10, 13, 13), (0, 10, 17, 36)], Cond.methodLink RL 72 yX7_foresee, Cond.instanceMethod yX7_foresee, Cond.selects RX7 yX7_foresee yX7_foresee, Cond.code yX7_foresee cX7_foresee 3 (some .int), Cond.methodLink RX7 146 yX6_become, Cond.instanceMethod yX6_become, Cond.selects RX6 yX6_become yX6_become, Cond.code yX6_become cX6_become 3 none, Cond.methodLink RX6 98 yX4_become, Cond.instanceMethod yX4_become, Cond.selects RX4 yX4_become yX4_become, Cond.code yX4_become cX4_become 2 none, Cond.methodLink RX6 102 yX0_become, Cond.instanceMethod yX0_become, Cond.selects RX0 yX0_become yX0_become, Cond.code yX0_become cX0_become 2 none, Cond.methodLink RX6 105 yX2_become, Cond.instanceMethod yX2_become, Cond.selects RX2 yX2_become yX2_become, Cond.code yX2_become cX2_become 2 none, Cond.methodLink RX6 108 yX3_become]
def wsL_law0_r27 : List Cond := [Cond.instanceMethod yX3_become, Cond.selects RX3 yX3_become yX3_become, Cond.code yX3_become cX3_become 2 none, Cond.methodLink RX6 111 yX1_become, Cond.instanceMethod yX1_become, Cond.selects RX1 yX1_become yX1_become, Cond.code yX1_become cX1_become 2 none, Cond.methodLink RX7 150 yX6_tell, Cond.selects RX6 yX6_tell yX6_tell, Cond.methodLink RL 154 yX8_foresee, Cond.instanceMethod yX8_foresee, Cond.selects RX8 yX8_foresee yX8_foresee, Cond.code yX8_foresee cX8_foresee 3 (some .int), Cond.methodLink RX8 140 yX8_keep, Cond.instanceMethod yX8_keep, Cond.selects RX8 yX8_keep yX8_keep, Cond.code yX8_keep cX8_keep 1 none, Cond.methodLink RX8 42 arraycopyName, Cond.native arraycopyName, Cond.static arraycopyName, Cond.initialized "java/lang/System", Cond.methodLink RX8 143 yX8_behind, Cond.instanceMethod yX8_behind, Cond.selects RX8 yX8_behind yX8_behind]
def wsL_law0_r28 : List Cond := [Cond.code yX8_behind cX8_behind 4 (some .int), Cond.methodLink RX8 137 yX8_bringBack, Cond.instanceMethod yX8_bringBack, Cond.selects RX8 yX8_bringBack yX8_bringBack, Cond.code yX8_bringBack cX8_bringBack 1 none, Cond.methodLink RL 155 yL_ready, Cond.static yL_ready, Cond.codeWith yL_ready cL_ready 4 (some .int) [(0, 9, 12, 36)], Cond.methodLink RL 75 yX7_ready, Cond.instanceMethod yX7_ready, Cond.selects RX7 yX7_ready yX7_ready, Cond.code yX7_ready cX7_ready 2 (some .int), Cond.methodLink RX7 153 yX2_daysToBest, Cond.instanceMethod yX2_daysToBest, Cond.selects RX2 yX2_daysToBest yX2_daysToBest, Cond.code yX2_daysToBest cX2_daysToBest 6 (some .int), Cond.methodLink RL 157 yX8_ready, Cond.instanceMethod yX8_ready, Cond.selects RX8 yX8_ready yX8_ready, Cond.code yX8_ready cX8_ready 6 (some .int), Cond.methodLink RL 158 yL_caught, Cond.static yL_caught, Cond.codeWith yL_caught cL_caught 5 (some .int) [(0, 17, 20, 36), (0, 17, 24, 13), (0, 17, 28, 15)], Cond.methodLink RL 78 yX7_caught]
def wsL_law0_r29 : List Cond := [Cond.instanceMethod yX7_caught, Cond.selects RX7 yX7_caught yX7_caught, Cond.code yX7_caught cX7_caught 3 (some .boolean), Cond.fieldLink RX7 157 "ChicoryRoasters$Town" "day" "I", Cond.methodLink RX7 160 yX3_daysToBorder, Cond.instanceMethod yX3_daysToBorder, Cond.selects RX3 yX3_daysToBorder yX3_daysToBorder, Cond.code yX3_daysToBorder cX3_daysToBorder 1 (some .int), Cond.methodLink RX7 163 yX6_patrolled, Cond.methodLink RL 160 yX8_caught, Cond.instanceMethod yX8_caught, Cond.selects RX8 yX8_caught yX8_caught, Cond.code yX8_caught cX8_caught 4 (some .boolean), Cond.methodLink RL 161 yL_advise, Cond.static yL_advise, Cond.codeWith yL_advise cL_advise 4 (some .int) [(0, 9, 12, 13)], Cond.methodLink RL 82 yX7_advise, Cond.instanceMethod yX7_advise, Cond.selects RX7 yX7_advise yX7_advise, Cond.code yX7_advise cX7_advise 6 (some .int), Cond.methodLink RL 163 yX8_advise, Cond.instanceMethod yX8_advise, Cond.selects RX8 yX8_advise yX8_advise, Cond.code yX8_advise cX8_advise 6 (some .int)]
def wsL_law0_r30 : List Cond := [Cond.methodLink RL 164 yX7_mean, Cond.instanceMethod yX7_mean, Cond.selects RX7 yX7_mean yX7_mean, Cond.code yX7_mean cX7_mean 1 (some .double), Cond.fieldLink RX7 167 "ChicoryRoasters$Store" "served" "I", Cond.methodLink RL 168 yX8_mean, Cond.instanceMethod yX8_mean, Cond.selects RX8 yX8_mean yX8_mean, Cond.code yX8_mean cX8_mean 3 (some .double), Cond.methodLink RL 169 yX7_digest, Cond.instanceMethod yX7_digest, Cond.selects RX7 yX7_digest yX7_digest, Cond.code yX7_digest cX7_digest 4 (some .long), Cond.constantLong RX7 170 (1723), Cond.methodLink RX7 172 ⟨"ChicoryRoasters$Town", "digestOnto", "(J)J"⟩, Cond.sameMethod "ChicoryRoasters$Town" "ChicoryRoasters$Teller" "digestOnto" "(J)J", Cond.selects RX6 ⟨"ChicoryRoasters$Town", "digestOnto", "(J)J"⟩ yX5_digestOnto, Cond.instanceMethod yX5_digestOnto, Cond.code yX5_digestOnto cX5_digestOnto 7 (some .long), Cond.constantLong RX5 13 (31), Cond.methodLink RX5 7 ⟨"ChicoryRoasters$Teller", "size", "()I"⟩, Cond.methodLink RX5 15 ⟨"ChicoryRoasters$Teller", "tell", "(I)I"⟩, Cond.methodLink RX7 176 ⟨"ChicoryRoasters$Bed", "digestOnto", "(J)J"⟩, Cond.sameMethod "ChicoryRoasters$Bed" "ChicoryRoasters$Teller" "digestOnto" "(J)J"]
def wsL_law0_r31 : List Cond := [Cond.selects RX0 ⟨"ChicoryRoasters$Bed", "digestOnto", "(J)J"⟩ yX5_digestOnto, Cond.methodLink RX7 177 ⟨"ChicoryRoasters$Drum", "digestOnto", "(J)J"⟩, Cond.sameMethod "ChicoryRoasters$Drum" "ChicoryRoasters$Teller" "digestOnto" "(J)J", Cond.selects RX2 ⟨"ChicoryRoasters$Drum", "digestOnto", "(J)J"⟩ yX5_digestOnto, Cond.methodLink RX7 178 ⟨"ChicoryRoasters$Smuggler", "digestOnto", "(J)J"⟩, Cond.sameMethod "ChicoryRoasters$Smuggler" "ChicoryRoasters$Teller" "digestOnto" "(J)J", Cond.selects RX3 ⟨"ChicoryRoasters$Smuggler", "digestOnto", "(J)J"⟩ yX5_digestOnto, Cond.methodLink RX7 179 ⟨"ChicoryRoasters$Card", "digestOnto", "(J)J"⟩, Cond.sameMethod "ChicoryRoasters$Card" "ChicoryRoasters$Teller" "digestOnto" "(J)J", Cond.selects RX1 ⟨"ChicoryRoasters$Card", "digestOnto", "(J)J"⟩ yX5_digestOnto, Cond.methodLink RL 173 yX8_digest, Cond.instanceMethod yX8_digest, Cond.selects RX8 yX8_digest yX8_digest, Cond.code yX8_digest cX8_digest 5 (some .long), Cond.constantLong RX8 146 (1723), Cond.constantLong RX8 148 (31)]
def wsL_law0 : List Cond := (wsL_law0_r1 ++ (wsL_law0_r2 ++ (wsL_law0_r3 ++ (wsL_law0_r4 ++ (wsL_law0_r5 ++ (wsL_law0_r6 ++ (wsL_law0_r7 ++ (wsL_law0_r8 ++ (wsL_law0_r9 ++ (wsL_law0_r10 ++ (wsL_law0_r11 ++ (wsL_law0_r12 ++ (wsL_law0_r13 ++ (wsL_law0_r14 ++ (wsL_law0_r15 ++ (wsL_law0_r16 ++ (wsL_law0_r17 ++ (wsL_law0_r18 ++ (wsL_law0_r19 ++ (wsL_law0_r20 ++ (wsL_law0_r21 ++ (wsL_law0_r22 ++ (wsL_law0_r23 ++ (wsL_law0_r24 ++ (wsL_law0_r25 ++ (wsL_law0_r26 ++ (wsL_law0_r27 ++ (wsL_law0_r28 ++ (wsL_law0_r29 ++ (wsL_law0_r30 ++ wsL_law0_r31)))))))))))))))))))))))))))))) ++ wsX70 ++ wsX80 ++ wsX60 ++ wsX40 ++ wsX00 ++ wsX20 ++ wsX30 ++ wsX10 ++ ([] : List Cond)
def wsL_law : List Cond := wsL_law0 ++ (vx_atS RX7 186 "java/lang/IllegalArgumentException" ["java/lang/RuntimeException", "java/lang/Exception"]).filter goodWord ++ (vx_atS RX7 191 "java/lang/IllegalStateException" ["java/lang/RuntimeException", "java/lang/Exception"]).filter goodWord ++ (vx_atS RX7 143 "java/lang/IndexOutOfBoundsException" ["java/lang/RuntimeException", "java/lang/Exception"]).filter goodWord
abbrev vwCl : List vw_C := [(RX0, TX0, 3), (RX1, TX1, 5), (RX2, TX2, 5), (RX3, TX3, 5), (RX4, TX4, 7), (RX6, TX6, 11), (RX7, TX7, 2), (RX8, TX8, 11)]
end
section
/-! THE WORLD OF THE WHOLE SYSTEM, BY PLACES. Place 0: the class's object; 1..28 its town (1 the town, 2..5 its four rows, 6 its store, 7..10 beds, 11..14 drums, 15..18 smugglers, 19..28 cards); 29..56 the trial likewise; 57 the reference, 58..63 its six rows; 64 the law's out. What moves is a table of numbers: place, field (or index). -/
abbrev gT : Type := va_G × (Nat → ClassId) × (Nat → Nat)
abbrev gS : Type := (Nat → Nat → Int32) × (Nat → Int64)
def gTown : List Nat := [5, 10, 11, 12, 13, 4, 0, 0, 0, 0, 2, 2, 2, 2, 3, 3, 3, 3, 1, 1, 1, 1, 1, 1, 1, 1, 1, 1]
def gTab : List Nat := [6] ++ gTown ++ gTown ++ [7, 8, 8, 8, 8, 8, 8, 9]
def gK (k : Nat) : Nat := gTab.getD k 99
def gN (c : Nat) : Nat := [3, 5, 5, 5, 7].getD c 0
def gLen (k : Nat) : Nat := [8, 4, 8, 20, 72, 72].getD (k - 58) 0
def gO (σ : gS) (k c : Nat) : va_E := .inr (c, (List.range (gN c)).map (fun j => Value.int (σ.1 k j)))
/-- what lies at a place -/
def gw (E : gT) (σ : gS) (k : Nat) : va_E := match gK k with
  | 5 => .inr (5, [.ref (E.2.2 (k + 1)), .ref (E.2.2 (k + 2)), .ref (E.2.2 (k + 3)), .ref (E.2.2 (k + 4)), .ref (E.2.2 (k + 5)), .int (σ.1 k 5), .int (σ.1 k 6), .int (σ.1 k 7), .int (σ.1 k 8), .int (σ.1 k 9), .int (σ.1 k 10)])
  | 6 => .inr (6, [.ref (E.2.2 1), .ref (E.2.2 29)])
  | 7 => .inr (7, [.int (σ.1 k 0), .int (σ.1 k 1), .int (σ.1 k 2), .int (σ.1 k 3), .int (σ.1 k 4), .ref (E.2.2 (k + 1)), .ref (E.2.2 (k + 2)), .ref (E.2.2 (k + 3)), .ref (E.2.2 (k + 4)), .ref (E.2.2 (k + 5)), .ref (E.2.2 (k + 6))])
  | 8 => .inl (E.2.1 0, gLen k, .inl (σ.1 k))
  | 9 => .inl (E.2.1 1, 1, .inr (.inl σ.2))
  | 10 => .inl (E.2.1 2, 4, .inr (.inr (.inr (.inr (fun j => some (E.2.2 (k + 5 + j)))))))
  | 11 => .inl (E.2.1 3, 4, .inr (.inr (.inr (.inr (fun j => some (E.2.2 (k + 8 + j)))))))
  | 12 => .inl (E.2.1 4, 4, .inr (.inr (.inr (.inr (fun j => some (E.2.2 (k + 11 + j)))))))
  | 13 => .inl (E.2.1 5, 10, .inr (.inr (.inr (.inr (fun j => some (E.2.2 (k + 14 + j)))))))
  | c => gO σ k c
def gl (E : gT) (σ : gS) : va_W := (List.range 65).map (fun k => (E.2.2 k, gw E σ k))
def gTys (E : gT) : List (ClassId × FieldType) := [(E.2.1 0, .int), (E.2.1 1, .long), (E.2.1 2, .object RX0), (E.2.1 3, .object RX2), (E.2.1 4, .object RX3), (E.2.1 5, .object RX1)]
/-- a number put -/
def gu (σ : gS) (k j : Nat) (v : Int32) : gS := (fun a b => if a = k ∧ b = j then v else σ.1 a b, σ.2)
/-- the law's out put -/
def go (σ : gS) (v : Nat → Int64) : gS := (σ.1, v)
theorem gl_at {E : gT} {σ : gS} {k : Nat} (h : k < 65) : (gl E σ)[k]? = some (E.2.2 k, gw E σ k) := by
  simp [gl, h]
theorem gl_len {E : gT} {σ : gS} : (gl E σ).length = 65 := by simp [gl]
theorem gl_set {E : gT} {σ σ' : gS} {k : Nat} (h : k < 65) (hq : ∀ q, q ≠ k → gw E σ' q = gw E σ q) : (gl E σ).set k (E.2.2 k, gw E σ' k) = gl E σ' := by
  apply List.ext_getElem?
  intro j
  by_cases hj : j = k
  · subst hj
    rw [List.getElem?_set_self (by rw [gl_len]; exact h), gl_at h]
  · rw [List.getElem?_set_ne (Ne.symm hj)]
    by_cases hl : j < 65
    · rw [gl_at hl, gl_at hl, hq j hj]
    · rw [List.getElem?_eq_none (by rw [gl_len]; omega), List.getElem?_eq_none (by rw [gl_len]; omega)]
theorem gu_ne {σ : gS} {k j q : Nat} {v : Int32} (h : q ≠ k) : (gu σ k j v).1 q = σ.1 q := by
  funext b
  simp [gu, h]
theorem gu_at {σ : gS} {k j : Nat} {v : Int32} (b : Nat) : (gu σ k j v).1 k b = if b = j then v else σ.1 k b := by
  simp [gu]
theorem gw_ne {E : gT} {σ σ' : gS} {q : Nat} (h : σ'.1 q = σ.1 q) (h2 : σ'.2 = σ.2) : gw E σ' q = gw E σ q := by
  simp only [gw, gO, h, h2]
theorem gw_gu {E : gT} {σ : gS} {k j q : Nat} {v : Int32} (h : q ≠ k) : gw E (gu σ k j v) q = gw E σ q := gw_ne (gu_ne h) rfl
theorem gK_o {E : gT} {σ : gS} {k c : Nat} (h : gK k = c) (hc : c < 5) : gw E σ k = gO σ k c := by
  unfold gw
  rw [h]
  rcases (show c = 0 ∨ c = 1 ∨ c = 2 ∨ c = 3 ∨ c = 4 by omega) with rfl | rfl | rfl | rfl | rfl <;> rfl
theorem gO_get {σ : gS} {k c j : Nat} (h : j < gN c) : ((List.range (gN c)).map (fun j => Value.int (σ.1 k j)))[j]? = some (.int (σ.1 k j)) := by
  simp [h]
theorem gO_set {σ : gS} {k c j : Nat} {v : Int32} : ((List.range (gN c)).map (fun j => Value.int (σ.1 k j))).set j (.int v) = (List.range (gN c)).map (fun i => Value.int ((gu σ k j v).1 k i)) := by
  apply List.ext_getElem?
  intro i
  rw [List.getElem?_set]
  by_cases h : j = i
  · subst h
    by_cases h2 : j < gN c
    · simp [h2, gu]
    · simp [h2]
  · rw [if_neg h]
    by_cases h2 : i < gN c
    · simp [h2, gu, Ne.symm h]
    · simp [h2]
/-- which cells may be changed: the world's and new ones -/
def gA (E : gT) (sz : Nat) : Nat → Prop := fun q => (∃ k, k < 65 ∧ q = E.2.2 k) ∨ sz ≤ q
theorem gA_mono {E : gT} {a b : Nat} (h : a ≤ b) : ∀ q, gA E b q → gA E a q := fun _ hq => hq.elim Or.inl (fun hq => Or.inr (Nat.le_trans h hq))
theorem gA_at {E : gT} {sz k : Nat} (h : k < 65) : gA E sz (E.2.2 k) := Or.inl ⟨k, h, rfl⟩
theorem gA_new {E : gT} {sz : Nat} : ∀ q, sz ≤ q → gA E sz q := fun _ h => Or.inr h
/-- statics, texts, classes that a throw, a handler and the reference's tables need -/
def gX (A : Nat → Prop) (U : State) (H : Heap) : Prop :=
  (vx_Zq Bundle.tN "UNASSIGNED_STACK" Bundle.steD A U H ∧ vx_Zq Bundle.tN "SUPPRESSED_SENTINEL" Bundle.listD A U H) ∧
  ((∃ a, vk_R RX7 141 "only 1 to 6 can be foreseen" a U) ∧ (∃ a, vk_R RX7 180 "there is no such number" a U) ∧ (∃ a, vk_R RX7 184 "the number is too small or too great" a U) ∧ (∃ a, vk_R RX7 189 "this cannot be done as things are" a U)) ∧
  (∃ t, va_Z RX8 "DONE" "[I" (.ref t) A U H ∧ va_T .int t 2 (fun j => .int (if j = 0 then 12 else 8)) A U H) ∧
  (∃ t, va_Z RX8 "BURNT" "[I" (.ref t) A U H ∧ va_T .int t 2 (fun j => .int (if j = 0 then 24 else 15)) A U H) ∧
  (∃ t, va_Z RX8 "TIMES" "[I" (.ref t) A U H ∧ va_T .int t 2 (fun j => .int (if j = 0 then 6 else 8)) A U H)
theorem gX.moved {A : Nat → Prop} {u U : State} {H : Heap} (hv : U.vm = u.vm) (h : gX A u H) : gX A U H := by
  have ha : u.vm.Alike U.vm := by rw [hv]; exact Vm.Alike.refl _
  obtain ⟨⟨a1, a2⟩, ⟨⟨q1, b1⟩, ⟨q2, b2⟩, ⟨q3, b3⟩, ⟨q4, b4⟩⟩, ⟨t1, c1, d1⟩, ⟨t2, c2, d2⟩, ⟨t3, c3, d3⟩⟩ := h
  exact ⟨⟨a1.moved ha, a2.moved ha⟩, ⟨⟨q1, b1.same hv⟩, ⟨q2, b2.same hv⟩, ⟨q3, b3.same hv⟩, ⟨q4, b4.same hv⟩⟩, ⟨t1, c1.moved ha, d1.moved ha⟩, ⟨t2, c2.moved ha, d2.moved ha⟩, ⟨t3, c3.moved ha, d3.moved ha⟩⟩
theorem gX.warm {A B : Nat → Prop} {s U : State} {H H1 : Heap} (hW : s.WarmedH U.vm) (hq : ∀ a : Nat, a < H.size → ¬ A a → H1[a]? = H[a]?) (hAB : ∀ q, B q → A q) (h : gX A s H) : gX B U H1 := by
  have ha := hW.alike
  obtain ⟨⟨a1, a2⟩, ⟨⟨q1, b1⟩, ⟨q2, b2⟩, ⟨q3, b3⟩, ⟨q4, b4⟩⟩, ⟨t1, c1, d1⟩, ⟨t2, c2, d2⟩, ⟨t3, c3, d3⟩⟩ := h
  exact ⟨⟨((a1.kept hq).narrow hAB).moved ha, ((a2.kept hq).narrow hAB).moved ha⟩, ⟨⟨q1, b1.warm hW⟩, ⟨q2, b2.warm hW⟩, ⟨q3, b3.warm hW⟩, ⟨q4, b4.warm hW⟩⟩, ⟨t1, ((c1.kept hq).narrow hAB).moved ha, ((d1.kept hq).narrow hAB).moved ha⟩, ⟨t2, ((c2.kept hq).narrow hAB).moved ha, ((d2.kept hq).narrow hAB).moved ha⟩, ⟨t3, ((c3.kept hq).narrow hAB).moved ha, ((d3.kept hq).narrow hAB).moved ha⟩⟩
abbrev gIA : String := "java/lang/IllegalArgumentException"
abbrev gIS : String := "java/lang/IllegalStateException"
abbrev gIO : String := "java/lang/IndexOutOfBoundsException"
/-- words that a class's tables alone don't keep: what is declared, what may be cast, what not -/
def gF (U : State) : Prop :=
  (va_Nw (.declares ⟨RX5, "size", "()I"⟩) U ∧ va_Nw (.declares ⟨RX5, "tell", "(I)I"⟩) U ∧ va_Nw (.declares (Bundle.initS "java/lang/RuntimeException")) U ∧ va_Nw (.declares (Bundle.initS "java/lang/Exception")) U ∧ va_Nw (.declares (Bundle.initS Bundle.tN)) U) ∧
  (va_Nw (.castable gIA gIA) U ∧ va_Nw (.castable gIS gIS) U ∧ va_Nw (.castable gIO gIO) U) ∧
  (va_Nc gIS gIA U ∧ va_Nc gIA gIO U ∧ va_Nc gIS gIO U ∧ va_Nc gIO gIA U)
theorem gF.warm {s U : State} (hW : s.WarmedH U.vm) (h : gF s) : gF U := by
  obtain ⟨⟨a1, a2, a3, a4, a5⟩, ⟨b1, b2, b3⟩, ⟨n1, n2, n3, n4⟩⟩ := h
  have ha := hW.alike
  exact ⟨⟨va_Nw.warmD hW a1, va_Nw.warmD hW a2, va_Nw.warmD hW a3, va_Nw.warmD hW a4, va_Nw.warmD hW a5⟩, ⟨va_Nw.warmC hW b1, va_Nw.warmC hW b2, va_Nw.warmC hW b3⟩, ⟨n1.moved ha, n2.moved ha, n3.moved ha, n4.moved ha⟩⟩
theorem gF.same {u U : State} (hv : U.vm = u.vm) (h : gF u) : gF U := by
  obtain ⟨⟨a1, a2, a3, a4, a5⟩, ⟨b1, b2, b3⟩, ⟨n1, n2, n3, n4⟩⟩ := h
  have ha : u.vm.Alike U.vm := by rw [hv]; exact Vm.Alike.refl _
  exact ⟨⟨va_Nw.same rfl hv.symm a1, va_Nw.same rfl hv.symm a2, va_Nw.same rfl hv.symm a3, va_Nw.same rfl hv.symm a4, va_Nw.same rfl hv.symm a5⟩, ⟨va_Nw.same rfl hv.symm b1, va_Nw.same rfl hv.symm b2, va_Nw.same rfl hv.symm b3⟩, ⟨n1.moved ha, n2.moved ha, n3.moved ha, n4.moved ha⟩⟩
/-- what holds of the tables and of all that lies about the world, at any method's entry -/
def gC (E : gT) (U : State) : Prop :=
  va_K E.1 vwCl (gTys E) U ∧ (∀ i j, i < 65 → j < 65 → E.2.2 i = E.2.2 j → i = j) ∧ gF U ∧ gX (gA E U.heap.size) U U.heap
theorem gC.same {E : gT} {u U : State} (hv : U.vm = u.vm) (hh : U.heap = u.heap) (h : gC E u) : gC E U := by
  obtain ⟨h1, h2, h3, h5⟩ := h
  refine ⟨h1.moved (by rw [hv]; exact Vm.Alike.refl _), h2, h3.same hv, ?_⟩
  rw [hh]
  exact h5.moved hv
theorem gC.go {E : gT} {s U : State} {H : Heap} {locs : List Loc} (h : gC E s) (hS : va_S (gA E s.heap.size) s.heap H locs) (hU : U.heap = H) (hW : s.WarmedH U.vm) : gC E U := by
  obtain ⟨h1, h2, h3, h5⟩ := h
  refine ⟨h1.moved hW.alike, h2, h3.warm hW, ?_⟩
  rw [hU]
  exact h5.warm hW hS.2.1 (gA_mono hS.1)
theorem gC.D {E : gT} {s : State} {σ : gS} {sz : Nat} (h : gC E s) : va_D (gA E sz) (gl E σ) := by
  have key : ∀ (k : Nat) (q : Nat × va_E), (gl E σ)[k]? = some q → k < 65 ∧ q.1 = E.2.2 k := by
    intro k q hk
    have hl : k < 65 := by have := (List.getElem?_eq_some_iff.mp hk).1; rwa [gl_len] at this
    rw [gl_at hl] at hk
    cases hk
    exact ⟨hl, rfl⟩
  refine ⟨fun i j p q hi hj hpq => ?_, fun k q hk => ?_⟩
  · obtain ⟨l1, e1⟩ := key i p hi
    obtain ⟨l2, e2⟩ := key j q hj
    exact h.2.1 i j l1 l2 (by rw [← e1, ← e2]; exact hpq)
  · obtain ⟨l1, e1⟩ := key k q hk
    rw [e1]
    exact gA_at l1
end
section
section GR
variable {p : Program} {l : Launch} {e : Env} {R : Room} {s : State} {m : MethodId} {args : Array Value} {below : List Frame} {meth : Method} {c : Code} {Q : State → Prop}
variable {cc : ByteArray} {nL : Nat} {Ts : List Cond} {own : String} {E : gT} {σ : gS} {cells slots pc : Nat} {lv lv' : List (Nat × Value)} {rest : List Value}
/-- a walk's point: the world's numbers, the room used, the pc, locals, stack: from any heap that holds them -/
def gJ (p : Program) (l : Launch) (e : Env) (R : Room) (s : State) (m : MethodId) (args : Array Value) (below : List Frame) (meth : Method) (c : Code) (Q : State → Prop) (nL : Nat) (E : gT) (σ : gS) (cells slots pc : Nat) (lv : List (Nat × Value)) (st : List Value) : Prop :=
  ∀ (H : Heap) (locs : List Loc) (ls : Array Slot), va_P E.1 vwCl (gl E σ) H → va_S (gA E s.heap.size) s.heap H locs → lv_has ls nL lv → W p l e R s m args below meth c H locs cells slots Q (F0 m pc ls st)
theorem g_eq {σ' : gS} {st st' : List Value} (h1 : σ = σ') (h2 : st = st') (k : gJ p l e R s m args below meth c Q nL E σ' cells slots pc lv st') : gJ p l e R s m args below meth c Q nL E σ cells slots pc lv st := by
  subst h1; subst h2; exact k
theorem g_wid {k n : Nat} (h1 : cells ≤ k) (h2 : slots ≤ n) (kk : gJ p l e R s m args below meth c Q nL E σ k n pc lv rest) : gJ p l e R s m args below meth c Q nL E σ cells slots pc lv rest :=
  fun H locs ls hP hS hl => W.widen h1 h2 (kk H locs ls hP hS hl)
theorem g_lvs (ks : List Nat) (h : lv_pick lv ks = lv') (kk : gJ p l e R s m args below meth c Q nL E σ cells slots pc lv' rest) : gJ p l e R s m args below meth c Q nL E σ cells slots pc lv rest :=
  fun H locs ls hP hS hl => kk H locs ls hP hS (lv_sub hl ks h)
theorem g_const (S : CallFix p m c cc nL s args Ts own) {n : Int} {v : Int32} (d : decode cc pc = .ok (.iconst n, 1)) (hv : Int32.ofInt n = v) (kk : gJ p l e R s m args below meth c Q nL E σ cells slots (pc + 1) lv (.int v :: rest)) : gJ p l e R s m args below meth c Q nL E σ cells slots pc lv rest :=
  fun H locs ls hP hS hl => lv_iconst S.1 S.2.1 d hv (kk H locs ls hP hS hl)
theorem g_bipush (S : CallFix p m c cc nL s args Ts own) {n : Int} {v : Int32} (d : decode cc pc = .ok (.bipush n, 2)) (hv : (Int8.ofInt n).toInt32 = v) (kk : gJ p l e R s m args below meth c Q nL E σ cells slots (pc + 2) lv (.int v :: rest)) : gJ p l e R s m args below meth c Q nL E σ cells slots pc lv rest :=
  fun H locs ls hP hS hl => lv_bipush S.1 S.2.1 d hv (kk H locs ls hP hS hl)
theorem g_lconst (S : CallFix p m c cc nL s args Ts own) {n : Fin 2} {v : Int64} (d : decode cc pc = .ok (.lconst n, 1)) (hv : Int64.ofNat (n : Nat) = v) (kk : gJ p l e R s m args below meth c Q nL E σ cells slots (pc + 1) lv (.long v :: rest)) : gJ p l e R s m args below meth c Q nL E σ cells slots pc lv rest :=
  fun H locs ls hP hS hl => lv_lconst S.1 S.2.1 d hv (kk H locs ls hP hS hl)
theorem g_dconst (S : CallFix p m c cc nL s args Ts own) (d : decode cc pc = .ok (.dconst 0, 1)) (kk : gJ p l e R s m args below meth c Q nL E σ cells slots (pc + 1) lv (.double FP.dconst0 :: rest)) : gJ p l e R s m args below meth c Q nL E σ cells slots pc lv rest :=
  fun H locs ls hP hS hl => lv_dconst0 S.1 S.2.1 d (kk H locs ls hP hS hl)
theorem g_ldc2 (S : CallFix p m c cc nL s args Ts own) {index : Nat} {v : Int64} (hw : Cond.constantLong own index v ∈ Ts) (d : decode cc pc = .ok (.ldc2_w index, 3)) (kk : gJ p l e R s m args below meth c Q nL E σ cells slots (pc + 3) lv (.long v :: rest)) : gJ p l e R s m args below meth c Q nL E σ cells slots pc lv rest :=
  fun H locs ls hP hS hl => lv_ldc2 S.1 S.2.1 S.2.2.2.1 (S.2.2.2.2 _ hw) d (kk H locs ls hP hS hl)
theorem g_iload_n (S : CallFix p m c cc nL s args Ts own) (j : Nat) {k : Fin 4} {x : Int32} (d : decode cc pc = .ok (.iload_n k, 1)) (hj : lv[j]? = some ((k : Nat), .int x)) (kk : gJ p l e R s m args below meth c Q nL E σ cells slots (pc + 1) lv (.int x :: rest)) : gJ p l e R s m args below meth c Q nL E σ cells slots pc lv rest :=
  fun H locs ls hP hS hl => lv_iload_n S.1 S.2.1 d rfl (lv_at hl j hj) (kk H locs ls hP hS hl)
theorem g_iload (S : CallFix p m c cc nL s args Ts own) (j : Nat) {i : Nat} {x : Int32} (d : decode cc pc = .ok (.iload i, 2)) (hj : lv[j]? = some (i, .int x)) (kk : gJ p l e R s m args below meth c Q nL E σ cells slots (pc + 2) lv (.int x :: rest)) : gJ p l e R s m args below meth c Q nL E σ cells slots pc lv rest :=
  fun H locs ls hP hS hl => lv_iload S.1 S.2.1 d (lv_at hl j hj) (kk H locs ls hP hS hl)
theorem g_lload_n (S : CallFix p m c cc nL s args Ts own) (j : Nat) {k : Fin 4} {x : Int64} (d : decode cc pc = .ok (.lload_n k, 1)) (hj : lv[j]? = some ((k : Nat), .long x)) (kk : gJ p l e R s m args below meth c Q nL E σ cells slots (pc + 1) lv (.long x :: rest)) : gJ p l e R s m args below meth c Q nL E σ cells slots pc lv rest :=
  fun H locs ls hP hS hl => lv_lload_n S.1 S.2.1 d rfl (lv_at hl j hj) (kk H locs ls hP hS hl)
theorem g_lload (S : CallFix p m c cc nL s args Ts own) (j : Nat) {i : Nat} {x : Int64} (d : decode cc pc = .ok (.lload i, 2)) (hj : lv[j]? = some (i, .long x)) (kk : gJ p l e R s m args below meth c Q nL E σ cells slots (pc + 2) lv (.long x :: rest)) : gJ p l e R s m args below meth c Q nL E σ cells slots pc lv rest :=
  fun H locs ls hP hS hl => lv_lload S.1 S.2.1 d (lv_at hl j hj) (kk H locs ls hP hS hl)
theorem g_aload_n (S : CallFix p m c cc nL s args Ts own) (j : Nat) {k : Fin 4} {x : Nat} (d : decode cc pc = .ok (.aload_n k, 1)) (hj : lv[j]? = some ((k : Nat), .ref x)) (kk : gJ p l e R s m args below meth c Q nL E σ cells slots (pc + 1) lv (.ref x :: rest)) : gJ p l e R s m args below meth c Q nL E σ cells slots pc lv rest :=
  fun H locs ls hP hS hl => lv_aload_n S.1 S.2.1 d rfl (lv_at hl j hj) (kk H locs ls hP hS hl)
theorem g_aload (S : CallFix p m c cc nL s args Ts own) (j : Nat) {i : Nat} {x : Nat} (d : decode cc pc = .ok (.aload i, 2)) (hj : lv[j]? = some (i, .ref x)) (kk : gJ p l e R s m args below meth c Q nL E σ cells slots (pc + 2) lv (.ref x :: rest)) : gJ p l e R s m args below meth c Q nL E σ cells slots pc lv rest :=
  fun H locs ls hP hS hl => lv_aload S.1 S.2.1 d (lv_at hl j hj) (kk H locs ls hP hS hl)
theorem g_dload_n (S : CallFix p m c cc nL s args Ts own) (j : Nat) {k : Fin 4} {x : UInt64} (d : decode cc pc = .ok (.dload_n k, 1)) (hj : lv[j]? = some ((k : Nat), .double x)) (kk : gJ p l e R s m args below meth c Q nL E σ cells slots (pc + 1) lv (.double x :: rest)) : gJ p l e R s m args below meth c Q nL E σ cells slots pc lv rest :=
  fun H locs ls hP hS hl => lv_dload_n S.1 S.2.1 d rfl (lv_at hl j hj) (kk H locs ls hP hS hl)
theorem g_dload (S : CallFix p m c cc nL s args Ts own) (j : Nat) {i : Nat} {x : UInt64} (d : decode cc pc = .ok (.dload i, 2)) (hj : lv[j]? = some (i, .double x)) (kk : gJ p l e R s m args below meth c Q nL E σ cells slots (pc + 2) lv (.double x :: rest)) : gJ p l e R s m args below meth c Q nL E σ cells slots pc lv rest :=
  fun H locs ls hP hS hl => lv_dload S.1 S.2.1 d (lv_at hl j hj) (kk H locs ls hP hS hl)
theorem g_istore_n (S : CallFix p m c cc nL s args Ts own) (lv' : List (Nat × Value)) {k : Fin 4} {x : Int32} (d : decode cc pc = .ok (.istore_n k, 1)) (hn : (k : Nat) < nL) (hl' : ((k : Nat), Value.int x) :: lv.filter (fun q => !(q.1 == (k : Nat)) && !(q.1 + 1 == (k : Nat) && q.2.category == 2)) = lv') (kk : gJ p l e R s m args below meth c Q nL E σ cells slots (pc + 1) lv' rest) : gJ p l e R s m args below meth c Q nL E σ cells slots pc lv (.int x :: rest) :=
  fun H locs ls hP hS hl => lv_istore_n S.1 S.2.1 d rfl hl hn hl' (fun ls' hl' => kk H locs ls' hP hS hl')
theorem g_istore (S : CallFix p m c cc nL s args Ts own) (lv' : List (Nat × Value)) {i : Nat} {x : Int32} (d : decode cc pc = .ok (.istore i, 2)) (hn : i < nL) (hl' : (i, Value.int x) :: lv.filter (fun q => !(q.1 == i) && !(q.1 + 1 == i && q.2.category == 2)) = lv') (kk : gJ p l e R s m args below meth c Q nL E σ cells slots (pc + 2) lv' rest) : gJ p l e R s m args below meth c Q nL E σ cells slots pc lv (.int x :: rest) :=
  fun H locs ls hP hS hl => lv_istore S.1 S.2.1 d hl hn hl' (fun ls' hl' => kk H locs ls' hP hS hl')
theorem g_lstore_n (S : CallFix p m c cc nL s args Ts own) (lv' : List (Nat × Value)) {k : Fin 4} {x : Int64} (d : decode cc pc = .ok (.lstore_n k, 1)) (hn : (k : Nat) + 1 < nL) (hl' : ((k : Nat), Value.long x) :: lv.filter (fun q => !(q.1 == (k : Nat)) && (!(q.1 == (k : Nat) + 1) && !(q.1 + 1 == (k : Nat) && q.2.category == 2))) = lv') (kk : gJ p l e R s m args below meth c Q nL E σ cells slots (pc + 1) lv' rest) : gJ p l e R s m args below meth c Q nL E σ cells slots pc lv (.long x :: rest) :=
  fun H locs ls hP hS hl => lv_lstore_n S.1 S.2.1 d rfl hl hn hl' (fun ls' hl' => kk H locs ls' hP hS hl')
theorem g_lstore (S : CallFix p m c cc nL s args Ts own) (lv' : List (Nat × Value)) {i : Nat} {x : Int64} (d : decode cc pc = .ok (.lstore i, 2)) (hn : i + 1 < nL) (hl' : (i, Value.long x) :: lv.filter (fun q => !(q.1 == i) && (!(q.1 == i + 1) && !(q.1 + 1 == i && q.2.category == 2))) = lv') (kk : gJ p l e R s m args below meth c Q nL E σ cells slots (pc + 2) lv' rest) : gJ p l e R s m args below meth c Q nL E σ cells slots pc lv (.long x :: rest) :=
  fun H locs ls hP hS hl => lv_lstore S.1 S.2.1 d hl hn hl' (fun ls' hl' => kk H locs ls' hP hS hl')
theorem g_astore_n (S : CallFix p m c cc nL s args Ts own) (lv' : List (Nat × Value)) {k : Fin 4} {x : Nat} (d : decode cc pc = .ok (.astore_n k, 1)) (hn : (k : Nat) < nL) (hl' : ((k : Nat), Value.ref x) :: lv.filter (fun q => !(q.1 == (k : Nat)) && !(q.1 + 1 == (k : Nat) && q.2.category == 2)) = lv') (kk : gJ p l e R s m args below meth c Q nL E σ cells slots (pc + 1) lv' rest) : gJ p l e R s m args below meth c Q nL E σ cells slots pc lv (.ref x :: rest) :=
  fun H locs ls hP hS hl => lv_astore_n S.1 S.2.1 d rfl hl hn hl' (fun ls' hl' => kk H locs ls' hP hS hl')
theorem g_astore (S : CallFix p m c cc nL s args Ts own) (lv' : List (Nat × Value)) {i : Nat} {x : Nat} (d : decode cc pc = .ok (.astore i, 2)) (hn : i < nL) (hl' : (i, Value.ref x) :: lv.filter (fun q => !(q.1 == i) && !(q.1 + 1 == i && q.2.category == 2)) = lv') (kk : gJ p l e R s m args below meth c Q nL E σ cells slots (pc + 2) lv' rest) : gJ p l e R s m args below meth c Q nL E σ cells slots pc lv (.ref x :: rest) :=
  fun H locs ls hP hS hl => lv_astore S.1 S.2.1 d hl hn hl' (fun ls' hl' => kk H locs ls' hP hS hl')
theorem g_dstore_n (S : CallFix p m c cc nL s args Ts own) (lv' : List (Nat × Value)) {k : Fin 4} {x : UInt64} (d : decode cc pc = .ok (.dstore_n k, 1)) (hn : (k : Nat) + 1 < nL) (hl' : ((k : Nat), Value.double x) :: lv.filter (fun q => !(q.1 == (k : Nat)) && (!(q.1 == (k : Nat) + 1) && !(q.1 + 1 == (k : Nat) && q.2.category == 2))) = lv') (kk : gJ p l e R s m args below meth c Q nL E σ cells slots (pc + 1) lv' rest) : gJ p l e R s m args below meth c Q nL E σ cells slots pc lv (.double x :: rest) :=
  fun H locs ls hP hS hl => lv_dstore_n S.1 S.2.1 d rfl hl hn hl' (fun ls' hl' => kk H locs ls' hP hS hl')
theorem g_dstore (S : CallFix p m c cc nL s args Ts own) (lv' : List (Nat × Value)) {i : Nat} {x : UInt64} (d : decode cc pc = .ok (.dstore i, 2)) (hn : i + 1 < nL) (hl' : (i, Value.double x) :: lv.filter (fun q => !(q.1 == i) && (!(q.1 == i + 1) && !(q.1 + 1 == i && q.2.category == 2))) = lv') (kk : gJ p l e R s m args below meth c Q nL E σ cells slots (pc + 2) lv' rest) : gJ p l e R s m args below meth c Q nL E σ cells slots pc lv (.double x :: rest) :=
  fun H locs ls hP hS hl => lv_dstore S.1 S.2.1 d hl hn hl' (fun ls' hl' => kk H locs ls' hP hS hl')
theorem g_iinc (S : CallFix p m c cc nL s args Ts own) (lv' : List (Nat × Value)) (j : Nat) (v : Int32) {i : Nat} {n : Int} {x : Int32} (d : decode cc pc = .ok (.iinc i n, 3)) (hj : lv[j]? = some (i, .int x)) (hv : x + Int32.ofInt n = v) (hn : i < nL) (hl' : (i, Value.int v) :: lv.filter (fun q => !(q.1 == i) && !(q.1 + 1 == i && q.2.category == 2)) = lv') (kk : gJ p l e R s m args below meth c Q nL E σ cells slots (pc + 3) lv' rest) : gJ p l e R s m args below meth c Q nL E σ cells slots pc lv rest :=
  fun H locs ls hP hS hl => lv_iinc S.1 S.2.1 d hl hj hv hn hl' (fun ls' hl' => kk H locs ls' hP hS hl')
theorem g_iadd (S : CallFix p m c cc nL s args Ts own) {x y : Int32} (d : decode cc pc = .ok (.iadd, 1)) (kk : gJ p l e R s m args below meth c Q nL E σ cells slots (pc + 1) lv (.int (x + y) :: rest)) : gJ p l e R s m args below meth c Q nL E σ cells slots pc lv (.int y :: .int x :: rest) :=
  fun H locs ls hP hS hl => lv_iadd S.1 S.2.1 d (kk H locs ls hP hS hl)
theorem g_isub (S : CallFix p m c cc nL s args Ts own) {x y : Int32} (d : decode cc pc = .ok (.isub, 1)) (kk : gJ p l e R s m args below meth c Q nL E σ cells slots (pc + 1) lv (.int (x - y) :: rest)) : gJ p l e R s m args below meth c Q nL E σ cells slots pc lv (.int y :: .int x :: rest) :=
  fun H locs ls hP hS hl => lv_isub S.1 S.2.1 d (kk H locs ls hP hS hl)
theorem g_imul (S : CallFix p m c cc nL s args Ts own) {x y : Int32} (d : decode cc pc = .ok (.imul, 1)) (kk : gJ p l e R s m args below meth c Q nL E σ cells slots (pc + 1) lv (.int (x * y) :: rest)) : gJ p l e R s m args below meth c Q nL E σ cells slots pc lv (.int y :: .int x :: rest) :=
  fun H locs ls hP hS hl => lv_imul S.1 S.2.1 d (kk H locs ls hP hS hl)
theorem g_iand (S : CallFix p m c cc nL s args Ts own) {x y : Int32} (d : decode cc pc = .ok (.iand, 1)) (kk : gJ p l e R s m args below meth c Q nL E σ cells slots (pc + 1) lv (.int (x &&& y) :: rest)) : gJ p l e R s m args below meth c Q nL E σ cells slots pc lv (.int y :: .int x :: rest) :=
  fun H locs ls hP hS hl => lv_iand S.1 S.2.1 d (kk H locs ls hP hS hl)
theorem g_ishr (S : CallFix p m c cc nL s args Ts own) {x y : Int32} (d : decode cc pc = .ok (.ishr, 1)) (kk : gJ p l e R s m args below meth c Q nL E σ cells slots (pc + 1) lv (.int (x >>> (y &&& 31)) :: rest)) : gJ p l e R s m args below meth c Q nL E σ cells slots pc lv (.int y :: .int x :: rest) :=
  fun H locs ls hP hS hl => lv_ishr S.1 S.2.1 d (kk H locs ls hP hS hl)
theorem g_ladd (S : CallFix p m c cc nL s args Ts own) {x y : Int64} (d : decode cc pc = .ok (.ladd, 1)) (kk : gJ p l e R s m args below meth c Q nL E σ cells slots (pc + 1) lv (.long (x + y) :: rest)) : gJ p l e R s m args below meth c Q nL E σ cells slots pc lv (.long y :: .long x :: rest) :=
  fun H locs ls hP hS hl => lv_ladd S.1 S.2.1 d (kk H locs ls hP hS hl)
theorem g_lmul (S : CallFix p m c cc nL s args Ts own) {x y : Int64} (d : decode cc pc = .ok (.lmul, 1)) (kk : gJ p l e R s m args below meth c Q nL E σ cells slots (pc + 1) lv (.long (x * y) :: rest)) : gJ p l e R s m args below meth c Q nL E σ cells slots pc lv (.long y :: .long x :: rest) :=
  fun H locs ls hP hS hl => lv_lmul S.1 S.2.1 d (kk H locs ls hP hS hl)
theorem g_idiv (S : CallFix p m c cc nL s args Ts own) {x y : Int32} (d : decode cc pc = .ok (.idiv, 1)) (hne : ¬ y = 0) (kk : gJ p l e R s m args below meth c Q nL E σ cells slots (pc + 1) lv (.int (x / y) :: rest)) : gJ p l e R s m args below meth c Q nL E σ cells slots pc lv (.int y :: .int x :: rest) :=
  fun H locs ls hP hS hl => lv_idiv S.1 S.2.1 d hne (kk H locs ls hP hS hl)
theorem g_irem (S : CallFix p m c cc nL s args Ts own) {x y : Int32} (d : decode cc pc = .ok (.irem, 1)) (hne : ¬ y = 0) (kk : gJ p l e R s m args below meth c Q nL E σ cells slots (pc + 1) lv (.int (x - x / y * y) :: rest)) : gJ p l e R s m args below meth c Q nL E σ cells slots pc lv (.int y :: .int x :: rest) :=
  fun H locs ls hP hS hl => lv_irem S.1 S.2.1 d hne (kk H locs ls hP hS hl)
theorem g_ineg (S : CallFix p m c cc nL s args Ts own) {x : Int32} (d : decode cc pc = .ok (.ineg, 1)) (kk : gJ p l e R s m args below meth c Q nL E σ cells slots (pc + 1) lv (.int (-x) :: rest)) : gJ p l e R s m args below meth c Q nL E σ cells slots pc lv (.int x :: rest) :=
  fun H locs ls hP hS hl => lv_ineg S.1 S.2.1 d (kk H locs ls hP hS hl)
theorem g_i2l (S : CallFix p m c cc nL s args Ts own) {x : Int32} (d : decode cc pc = .ok (.i2l, 1)) (kk : gJ p l e R s m args below meth c Q nL E σ cells slots (pc + 1) lv (.long x.toInt64 :: rest)) : gJ p l e R s m args below meth c Q nL E σ cells slots pc lv (.int x :: rest) :=
  fun H locs ls hP hS hl => lv_i2l S.1 S.2.1 d rfl (kk H locs ls hP hS hl)
theorem g_i2d (S : CallFix p m c cc nL s args Ts own) {x : Int32} (d : decode cc pc = .ok (.i2d, 1)) (kk : gJ p l e R s m args below meth c Q nL E σ cells slots (pc + 1) lv (.double (FP.i2d x) :: rest)) : gJ p l e R s m args below meth c Q nL E σ cells slots pc lv (.int x :: rest) :=
  fun H locs ls hP hS hl => lv_i2d S.1 S.2.1 d (kk H locs ls hP hS hl)
theorem g_dcmp (S : CallFix p m c cc nL s args Ts own) {x y : UInt64} {op : CmpOp} (d : decode cc pc = .ok (.dcmp op, 1)) (kk : gJ p l e R s m args below meth c Q nL E σ cells slots (pc + 1) lv (.int (Op.cmpValue (FP.dcmp x y) op) :: rest)) : gJ p l e R s m args below meth c Q nL E σ cells slots pc lv (.double y :: .double x :: rest) :=
  fun H locs ls hP hS hl => lv_dcmp S.1 S.2.1 d (kk H locs ls hP hS hl)
theorem g_dup (S : CallFix p m c cc nL s args Ts own) {va : Value} (d : decode cc pc = .ok (.dup, 1)) (h1 : va.category = 1) (kk : gJ p l e R s m args below meth c Q nL E σ cells slots (pc + 1) lv (va :: va :: rest)) : gJ p l e R s m args below meth c Q nL E σ cells slots pc lv (va :: rest) :=
  fun H locs ls hP hS hl => lv_dup S.1 S.2.1 d h1 (kk H locs ls hP hS hl)
theorem g_dup_x1 (S : CallFix p m c cc nL s args Ts own) {va vb : Value} (d : decode cc pc = .ok (.dup_x1, 1)) (h1 : va.category = 1) (h2 : vb.category = 1) (kk : gJ p l e R s m args below meth c Q nL E σ cells slots (pc + 1) lv (va :: vb :: va :: rest)) : gJ p l e R s m args below meth c Q nL E σ cells slots pc lv (va :: vb :: rest) :=
  fun H locs ls hP hS hl => lv_dup_x1 S.1 S.2.1 d h1 h2 (kk H locs ls hP hS hl)
theorem g_dup2 (S : CallFix p m c cc nL s args Ts own) {va vb : Value} (d : decode cc pc = .ok (.dup2, 1)) (h1 : va.category = 1) (h2 : vb.category = 1) (kk : gJ p l e R s m args below meth c Q nL E σ cells slots (pc + 1) lv (va :: vb :: va :: vb :: rest)) : gJ p l e R s m args below meth c Q nL E σ cells slots pc lv (va :: vb :: rest) :=
  fun H locs ls hP hS hl => lv_dup2_11 S.1 S.2.1 d h1 h2 (kk H locs ls hP hS hl)
theorem g_pop (S : CallFix p m c cc nL s args Ts own) {va : Value} (d : decode cc pc = .ok (.pop, 1)) (h1 : va.category = 1) (kk : gJ p l e R s m args below meth c Q nL E σ cells slots (pc + 1) lv rest) : gJ p l e R s m args below meth c Q nL E σ cells slots pc lv (va :: rest) :=
  fun H locs ls hP hS hl => lv_pop S.1 S.2.1 d h1 (kk H locs ls hP hS hl)
theorem g_goto (S : CallFix p m c cc nL s args Ts own) {off : Int} (tgt : Nat) (d : decode cc pc = .ok (.goto off, 3)) (ht : (pc : Int) + off = (tgt : Int)) (kk : gJ p l e R s m args below meth c Q nL E σ cells slots tgt lv rest) : gJ p l e R s m args below meth c Q nL E σ cells slots pc lv rest :=
  fun H locs ls hP hS hl => lv_goto S.1 S.2.1 d ht (kk H locs ls hP hS hl)
theorem g_lcmp (S : CallFix p m c cc nL s args Ts own) {x y : Int64} (d : decode cc pc = .ok (.lcmp, 1)) (kk : gJ p l e R s m args below meth c Q nL E σ cells slots (pc + 1) lv (.int (lg_cmp x y) :: rest)) : gJ p l e R s m args below meth c Q nL E σ cells slots pc lv (.long y :: .long x :: rest) :=
  fun H locs ls hP hS hl => W.lcmp S.1 S.2.1 d (kk H locs ls hP hS hl)
theorem g_if_eq (S : CallFix p m c cc nL s args Ts own) {x : Int32} {off : Int} (tgt : Nat) (d : decode cc pc = .ok (.ifCond .eq off, 3)) (ht : (pc : Int) + off = (tgt : Int)) (kt : x = 0 → gJ p l e R s m args below meth c Q nL E σ cells slots tgt lv rest) (kf : ¬ (x = 0) → gJ p l e R s m args below meth c Q nL E σ cells slots (pc + 3) lv rest) : gJ p l e R s m args below meth c Q nL E σ cells slots pc lv (.int x :: rest) :=
  fun H locs ls hP hS hl => lv_if_eq S.1 S.2.1 d ht (fun h => kt h H locs ls hP hS hl) (fun h => kf h H locs ls hP hS hl)
theorem g_if_ne (S : CallFix p m c cc nL s args Ts own) {x : Int32} {off : Int} (tgt : Nat) (d : decode cc pc = .ok (.ifCond .ne off, 3)) (ht : (pc : Int) + off = (tgt : Int)) (kt : ¬ x = 0 → gJ p l e R s m args below meth c Q nL E σ cells slots tgt lv rest) (kf : x = 0 → gJ p l e R s m args below meth c Q nL E σ cells slots (pc + 3) lv rest) : gJ p l e R s m args below meth c Q nL E σ cells slots pc lv (.int x :: rest) :=
  fun H locs ls hP hS hl => lv_if_ne S.1 S.2.1 d ht (fun h => kt h H locs ls hP hS hl) (fun h => kf h H locs ls hP hS hl)
theorem g_if_lt (S : CallFix p m c cc nL s args Ts own) {x : Int32} {off : Int} (tgt : Nat) (d : decode cc pc = .ok (.ifCond .lt off, 3)) (ht : (pc : Int) + off = (tgt : Int)) (kt : x < 0 → gJ p l e R s m args below meth c Q nL E σ cells slots tgt lv rest) (kf : ¬ (x < 0) → gJ p l e R s m args below meth c Q nL E σ cells slots (pc + 3) lv rest) : gJ p l e R s m args below meth c Q nL E σ cells slots pc lv (.int x :: rest) :=
  fun H locs ls hP hS hl => lv_if_lt S.1 S.2.1 d ht (fun h => kt h H locs ls hP hS hl) (fun h => kf h H locs ls hP hS hl)
theorem g_if_ge (S : CallFix p m c cc nL s args Ts own) {x : Int32} {off : Int} (tgt : Nat) (d : decode cc pc = .ok (.ifCond .ge off, 3)) (ht : (pc : Int) + off = (tgt : Int)) (kt : 0 ≤ x → gJ p l e R s m args below meth c Q nL E σ cells slots tgt lv rest) (kf : ¬ (0 ≤ x) → gJ p l e R s m args below meth c Q nL E σ cells slots (pc + 3) lv rest) : gJ p l e R s m args below meth c Q nL E σ cells slots pc lv (.int x :: rest) :=
  fun H locs ls hP hS hl => lv_if_ge S.1 S.2.1 d ht (fun h => kt h H locs ls hP hS hl) (fun h => kf h H locs ls hP hS hl)
theorem g_if_gt (S : CallFix p m c cc nL s args Ts own) {x : Int32} {off : Int} (tgt : Nat) (d : decode cc pc = .ok (.ifCond .gt off, 3)) (ht : (pc : Int) + off = (tgt : Int)) (kt : 0 < x → gJ p l e R s m args below meth c Q nL E σ cells slots tgt lv rest) (kf : ¬ (0 < x) → gJ p l e R s m args below meth c Q nL E σ cells slots (pc + 3) lv rest) : gJ p l e R s m args below meth c Q nL E σ cells slots pc lv (.int x :: rest) :=
  fun H locs ls hP hS hl => lv_if_gt S.1 S.2.1 d ht (fun h => kt h H locs ls hP hS hl) (fun h => kf h H locs ls hP hS hl)
theorem g_if_le (S : CallFix p m c cc nL s args Ts own) {x : Int32} {off : Int} (tgt : Nat) (d : decode cc pc = .ok (.ifCond .le off, 3)) (ht : (pc : Int) + off = (tgt : Int)) (kt : x ≤ 0 → gJ p l e R s m args below meth c Q nL E σ cells slots tgt lv rest) (kf : ¬ (x ≤ 0) → gJ p l e R s m args below meth c Q nL E σ cells slots (pc + 3) lv rest) : gJ p l e R s m args below meth c Q nL E σ cells slots pc lv (.int x :: rest) :=
  fun H locs ls hP hS hl => lv_if_le S.1 S.2.1 d ht (fun h => kt h H locs ls hP hS hl) (fun h => kf h H locs ls hP hS hl)
theorem g_icmp_eq (S : CallFix p m c cc nL s args Ts own) {x y : Int32} {off : Int} (tgt : Nat) (d : decode cc pc = .ok (.if_icmp .eq off, 3)) (ht : (pc : Int) + off = (tgt : Int)) (kt : x = y → gJ p l e R s m args below meth c Q nL E σ cells slots tgt lv rest) (kf : ¬ (x = y) → gJ p l e R s m args below meth c Q nL E σ cells slots (pc + 3) lv rest) : gJ p l e R s m args below meth c Q nL E σ cells slots pc lv (.int y :: .int x :: rest) :=
  fun H locs ls hP hS hl => lv_icmp_eq S.1 S.2.1 d ht (fun h => kt h H locs ls hP hS hl) (fun h => kf h H locs ls hP hS hl)
theorem g_icmp_ne (S : CallFix p m c cc nL s args Ts own) {x y : Int32} {off : Int} (tgt : Nat) (d : decode cc pc = .ok (.if_icmp .ne off, 3)) (ht : (pc : Int) + off = (tgt : Int)) (kt : ¬ x = y → gJ p l e R s m args below meth c Q nL E σ cells slots tgt lv rest) (kf : x = y → gJ p l e R s m args below meth c Q nL E σ cells slots (pc + 3) lv rest) : gJ p l e R s m args below meth c Q nL E σ cells slots pc lv (.int y :: .int x :: rest) :=
  fun H locs ls hP hS hl => lv_icmp_ne S.1 S.2.1 d ht (fun h => kt h H locs ls hP hS hl) (fun h => kf h H locs ls hP hS hl)
theorem g_icmp_lt (S : CallFix p m c cc nL s args Ts own) {x y : Int32} {off : Int} (tgt : Nat) (d : decode cc pc = .ok (.if_icmp .lt off, 3)) (ht : (pc : Int) + off = (tgt : Int)) (kt : x < y → gJ p l e R s m args below meth c Q nL E σ cells slots tgt lv rest) (kf : ¬ (x < y) → gJ p l e R s m args below meth c Q nL E σ cells slots (pc + 3) lv rest) : gJ p l e R s m args below meth c Q nL E σ cells slots pc lv (.int y :: .int x :: rest) :=
  fun H locs ls hP hS hl => lv_icmp_lt S.1 S.2.1 d ht (fun h => kt h H locs ls hP hS hl) (fun h => kf h H locs ls hP hS hl)
theorem g_icmp_ge (S : CallFix p m c cc nL s args Ts own) {x y : Int32} {off : Int} (tgt : Nat) (d : decode cc pc = .ok (.if_icmp .ge off, 3)) (ht : (pc : Int) + off = (tgt : Int)) (kt : y ≤ x → gJ p l e R s m args below meth c Q nL E σ cells slots tgt lv rest) (kf : ¬ (y ≤ x) → gJ p l e R s m args below meth c Q nL E σ cells slots (pc + 3) lv rest) : gJ p l e R s m args below meth c Q nL E σ cells slots pc lv (.int y :: .int x :: rest) :=
  fun H locs ls hP hS hl => lv_icmp_ge S.1 S.2.1 d ht (fun h => kt h H locs ls hP hS hl) (fun h => kf h H locs ls hP hS hl)
theorem g_icmp_gt (S : CallFix p m c cc nL s args Ts own) {x y : Int32} {off : Int} (tgt : Nat) (d : decode cc pc = .ok (.if_icmp .gt off, 3)) (ht : (pc : Int) + off = (tgt : Int)) (kt : y < x → gJ p l e R s m args below meth c Q nL E σ cells slots tgt lv rest) (kf : ¬ (y < x) → gJ p l e R s m args below meth c Q nL E σ cells slots (pc + 3) lv rest) : gJ p l e R s m args below meth c Q nL E σ cells slots pc lv (.int y :: .int x :: rest) :=
  fun H locs ls hP hS hl => lv_icmp_gt S.1 S.2.1 d ht (fun h => kt h H locs ls hP hS hl) (fun h => kf h H locs ls hP hS hl)
theorem g_icmp_le (S : CallFix p m c cc nL s args Ts own) {x y : Int32} {off : Int} (tgt : Nat) (d : decode cc pc = .ok (.if_icmp .le off, 3)) (ht : (pc : Int) + off = (tgt : Int)) (kt : x ≤ y → gJ p l e R s m args below meth c Q nL E σ cells slots tgt lv rest) (kf : ¬ (x ≤ y) → gJ p l e R s m args below meth c Q nL E σ cells slots (pc + 3) lv rest) : gJ p l e R s m args below meth c Q nL E σ cells slots pc lv (.int y :: .int x :: rest) :=
  fun H locs ls hP hS hl => lv_icmp_le S.1 S.2.1 d ht (fun h => kt h H locs ls hP hS hl) (fun h => kf h H locs ls hP hS hl)
theorem g_tabOut (S : CallFix p m c cc nL s args Ts own) {dflt lo hi : Int} {offs : Array Int} {len : Nat} {x : Int32} (tgt : Nat) (d : decode cc pc = .ok (.tableswitch dflt lo hi offs, len)) (h : x.toInt < lo ∨ hi < x.toInt) (ht : (pc : Int) + dflt = (tgt : Int)) (kk : gJ p l e R s m args below meth c Q nL E σ cells slots tgt lv rest) : gJ p l e R s m args below meth c Q nL E σ cells slots pc lv (.int x :: rest) :=
  fun H locs ls hP hS hl => lv_tableOut S.1 S.2.1 d h ht (kk H locs ls hP hS hl)
theorem g_tabIn (S : CallFix p m c cc nL s args Ts own) {dflt lo hi : Int} {offs : Array Int} {len : Nat} {x : Int32} {off : Int} (tgt : Nat) (d : decode cc pc = .ok (.tableswitch dflt lo hi offs, len)) (h1 : ¬ x.toInt < lo) (h2 : ¬ hi < x.toInt) (ho : offs[(x.toInt - lo).toNat]? = some off) (ht : (pc : Int) + off = (tgt : Int)) (kk : gJ p l e R s m args below meth c Q nL E σ cells slots tgt lv rest) : gJ p l e R s m args below meth c Q nL E σ cells slots pc lv (.int x :: rest) :=
  fun H locs ls hP hS hl => lv_tableIn S.1 S.2.1 d h1 h2 ho ht (kk H locs ls hP hS hl)
end GR
end
section
section GH
variable {p : Program} {l : Launch} {e : Env} {R : Room} {s : State} {m : MethodId} {args : Array Value} {below : List Frame} {meth : Method} {c : Code} {Q : State → Prop}
variable {cc : ByteArray} {nL : Nat} {Ts : List Cond} {own : String} {E : gT} {σ : gS} {cells slots pc : Nat} {lv lv' : List (Nat × Value)} {rest : List Value}
/-- getfield of any cell of the world -/
theorem g_getc (S : CallFix p m c cc nL s args Ts own) (hC : gC E s) {C : String} {T : u_T} {N : Nat} (ci : Nat) {fs : List Value} (j : Nat) {k : Nat} (hk : k < 65) (hw : gw E σ k = .inr (ci, fs)) (hcl : vwCl[ci]? = some (C, T, N)) (hj : j < N) (hin : ∀ w ∈ u_ws C T N, w ∈ Ts) {index : Nat} (hlk : Cond.fieldLink own index (T j).1 (T j).2.1 (T j).2.2.1 ∈ Ts) {v : Value} (hv : fs[j]? = some v) (d : decode cc pc = .ok (.getfield index, 3))
    (kk : gJ p l e R s m args below meth c Q nL E σ cells slots (pc + 3) lv (v :: rest)) : gJ p l e R s m args below meth c Q nL E σ cells slots pc lv (.ref (E.2.2 k) :: rest) :=
  fun H locs ls hP hS hl => va_get (D := E.1) (cl := vwCl) S.1 S.2.1 S.2.2.2.2 hin S.2.2.2.1 hC.1 hP k (by rw [gl_at hk, hw]) hcl j hj (S.2.2.2.2 _ hlk) (fun _ h => h) hv d (kk H locs ls hP hS hl)
/-- putfield of a number, any cell of the world -/
theorem g_putc (S : CallFix p m c cc nL s args Ts own) (hC : gC E s) {C : String} {T : u_T} {N : Nat} (ty0 : Nat → FieldType) (hty : ∀ k, k < N → parseFieldDescriptor (T k).2.2.1 = some (ty0 k)) (hnm : ∀ a, a < N → ∀ b, b < N → a ≠ b → (T a).2.1 ≠ (T b).2.1) (ci : Nat) {fs : List Value} (j : Nat) {k : Nat} {x : Int32} (hk : k < 65) (hw : gw E σ k = .inr (ci, fs)) (hw2 : gw E (gu σ k j x) k = .inr (ci, fs.set j (.int x))) (hcl : vwCl[ci]? = some (C, T, N)) (hj : j < N) (hin : ∀ w ∈ u_ws C T N, w ∈ Ts) {index : Nat} (hlk : Cond.fieldLink own index (T j).1 (T j).2.1 (T j).2.2.1 ∈ Ts) (hfin : (T j).2.2.2 = false) (hint : ty0 j = .int) (hl : j < fs.length) (d : decode cc pc = .ok (.putfield index, 3))
    (kk : gJ p l e R s m args below meth c Q nL E (gu σ k j x) cells slots (pc + 3) lv rest) : gJ p l e R s m args below meth c Q nL E σ cells slots pc lv (.int x :: .ref (E.2.2 k) :: rest) :=
  fun H locs ls hP hS hl' => va_put (D := E.1) (cl := vwCl) (ty := .int) (v := .int x) S.1 S.2.1 S.2.2.2.2 hin ty0 hty hnm S.2.2.2.1 hC.1 hP (hC.D (σ := σ)) hS k (by rw [gl_at hk, hw]) hcl j hj (S.2.2.2.2 _ hlk) (fun _ h => h) hfin (by rw [hty j hj, hint]) rfl rfl hl d (fun H1 locs1 hP1 _ hS1 => by
    rw [← hw2, gl_set hk (fun q hq => gw_gu hq)] at hP1
    exact kk H1 locs1 ls hP1 hS1 hl')
theorem gw_5 {k : Nat} (h : gK k = 5) : gw E σ k = .inr (5, [.ref (E.2.2 (k + 1)), .ref (E.2.2 (k + 2)), .ref (E.2.2 (k + 3)), .ref (E.2.2 (k + 4)), .ref (E.2.2 (k + 5)), .int (σ.1 k 5), .int (σ.1 k 6), .int (σ.1 k 7), .int (σ.1 k 8), .int (σ.1 k 9), .int (σ.1 k 10)]) := by unfold gw; rw [h]; try rfl
theorem gw_7 {k : Nat} (h : gK k = 7) : gw E σ k = .inr (7, [.int (σ.1 k 0), .int (σ.1 k 1), .int (σ.1 k 2), .int (σ.1 k 3), .int (σ.1 k 4), .ref (E.2.2 (k + 1)), .ref (E.2.2 (k + 2)), .ref (E.2.2 (k + 3)), .ref (E.2.2 (k + 4)), .ref (E.2.2 (k + 5)), .ref (E.2.2 (k + 6))]) := by unfold gw; rw [h]; try rfl
theorem gw_8 {k : Nat} (h : gK k = 8) : gw E σ k = .inl (E.2.1 0, gLen k, .inl (σ.1 k)) := by unfold gw; rw [h]; try rfl
theorem gu_self {σ : gS} {k j : Nat} {x : Int32} : (gu σ k j x).1 k = upd (σ.1 k) j x := by
  funext b
  simp [gu, upd]
/-- a row of numbers read -/
theorem g_iald (S : CallFix p m c cc nL s args Ts own) (hC : gC E s) {k : Nat} (hk : k < 65) (hkd : gK k = 8) (j : Nat) {i : Int32} (hi : i = nI j) (hj : j < gLen k) (hn : gLen k ≤ 72) (d : decode cc pc = .ok (.iaload, 1))
    (kk : gJ p l e R s m args below meth c Q nL E σ cells slots (pc + 1) lv (.int (σ.1 k j) :: rest)) : gJ p l e R s m args below meth c Q nL E σ cells slots pc lv (.int i :: .ref (E.2.2 k) :: rest) := by
  intro H locs ls hP hS hl
  have hcl : i.toNatClampNeg = j := by rw [hi]; exact nI_clamp (by omega)
  refine va_iald (D := E.1) (cl := vwCl) S.1 S.2.1 hC.1 hP k 0 (by rw [gl_at hk, gw_8 hkd]) rfl (by rw [hi]; exact vp_in_nI hj (by omega)) d ?_
  rw [hcl]
  exact kk H locs ls hP hS hl
/-- .. and written -/
theorem g_iast (S : CallFix p m c cc nL s args Ts own) (hC : gC E s) {k : Nat} (hk : k < 65) (hkd : gK k = 8) (j : Nat) {i x : Int32} (hi : i = nI j) (hj : j < gLen k) (hn : gLen k ≤ 72) (d : decode cc pc = .ok (.iastore, 1))
    (kk : gJ p l e R s m args below meth c Q nL E (gu σ k j x) cells slots (pc + 1) lv rest) : gJ p l e R s m args below meth c Q nL E σ cells slots pc lv (.int x :: .int i :: .ref (E.2.2 k) :: rest) := by
  intro H locs ls hP hS hl
  have hcl : i.toNatClampNeg = j := by rw [hi]; exact nI_clamp (by omega)
  refine va_iast (D := E.1) (cl := vwCl) S.1 S.2.1 hC.1 hP (hC.D (σ := σ)) hS k 0 (by rw [gl_at hk, gw_8 hkd]) rfl (by rw [hi]; exact vp_in_nI hj (by omega)) d (fun H1 locs1 hP1 _ hS1 => ?_)
  rw [hcl, ← gu_self, ← gw_8 hkd, gl_set hk (fun q hq => gw_gu hq)] at hP1
  exact kk H1 locs1 ls hP1 hS1 hl
/-- one row of numbers copied over another -/
theorem gw_cp {σ σ' : gS} {k : Nat} (h : ∀ q, q ≠ k → σ'.1 q = σ.1 q) (h2 : σ'.2 = σ.2) : ∀ q, q ≠ k → gw E σ' q = gw E σ q := fun q hq => gw_ne (h q hq) h2
def gcp (σ : gS) (a b n : Nat) : gS := (fun q i => if q = b ∧ i < n then σ.1 a i else σ.1 q i, σ.2)
theorem g_copy (S : CallFix p m c cc nL s args Ts own) (hC : gC E s) {a b : Nat} (ha : a < 65) (hb : b < 65) (hka : gK a = 8) (hkb : gK b = 8) (hla : gLen a = 72) (hlb : gLen b = 72) {z n : Int32} (hz : z = 0) (hn : n = 72) {index : Nat} (h1 : Cond.methodLink own index arraycopyName ∈ Ts) (h2 : Cond.native arraycopyName ∈ Ts) (h3 : Cond.static arraycopyName ∈ Ts) (h4 : Cond.initialized "java/lang/System" ∈ Ts) (hR : 1 ≤ R.frames) (hR2 : (rest.map fun v => v.category).sum + (nativeFrameWords "java/lang/System" "arraycopy" 5 + 11) ≤ R.locals) (d : decode cc pc = .ok (.invokestatic index, 3))
    (kk : gJ p l e R s m args below meth c Q nL E (gcp σ a b 72) cells slots (pc + 3) lv rest) : gJ p l e R s m args below meth c Q nL E σ cells slots pc lv (.int n :: .int z :: .ref (E.2.2 b) :: .int z :: .ref (E.2.2 a) :: rest) := by
  subst hz; subst hn
  intro H locs ls hP hS hl
  refine va_copyi (D := E.1) (cl := vwCl) S.1 S.2.1 (S.2.2.1.trans hl.1.symm) S.2.2.2.1 (S.2.2.2.2 _ h1) (S.2.2.2.2 _ h2) (S.2.2.2.2 _ h3) (S.2.2.2.2 _ h4) hC.1 hP (hC.D (σ := σ)) hS a b 0 0 (by rw [gl_at ha, gw_8 hka]) (by rw [gl_at hb, gw_8 hkb]) rfl rfl rfl (by decide) (by decide) (by decide) (by rw [hla]; decide) (by rw [hlb]; decide) (fun _ _ => rfl) hR hR2 d (fun H1 locs1 hP1 _ hS1 => ?_)
  have e1 : va_cpy (σ.1 a) (σ.1 b) (0 : Int32).toNatClampNeg (0 : Int32).toNatClampNeg (72 : Int32).toNatClampNeg = (gcp σ a b 72).1 b := by
    funext i
    have e0 : (0 : Int32).toNatClampNeg = 0 := by decide
    have e72 : (72 : Int32).toNatClampNeg = 72 := by decide
    simp [va_cpy, gcp, e0, e72]
  have e2 := gl_set (E := E) (σ := σ) (σ' := gcp σ a b 72) hb (gw_cp (fun q hq => by funext i; simp [gcp, hq]) rfl)
  rw [e1, ← gw_8 (σ := gcp σ a b 72) hkb, e2] at hP1
  exact kk H1 locs1 ls hP1 hS1 hl
/-- the law's out -/
theorem g_last (S : CallFix p m c cc nL s args Ts own) (hC : gC E s) {i : Int32} (hi : i = 0) {x : Int64} (d : decode cc pc = .ok (.lastore, 1))
    (kk : gJ p l e R s m args below meth c Q nL E (go σ (vp_updL σ.2 0 x)) cells slots (pc + 1) lv rest) : gJ p l e R s m args below meth c Q nL E σ cells slots pc lv (.long x :: .int i :: .ref (E.2.2 64) :: rest) := by
  subst hi
  intro H locs ls hP hS hl
  refine va_last (D := E.1) (cl := vwCl) S.1 S.2.1 hC.1 hP (hC.D (σ := σ)) hS 64 1 (n := 1) (f := σ.2) (by rw [gl_at (by omega)]; rfl) rfl (vp_in_nI (n := 0) (by omega) (by omega)) d (fun H1 locs1 hP1 _ hS1 => ?_)
  rw [show (0 : Int32).toNatClampNeg = 0 from rfl] at hP1
  have e2 := gl_set (E := E) (σ := σ) (σ' := go σ (vp_updL σ.2 0 x)) (k := 64) (by omega) (fun q hq => by
    unfold gw
    by_cases h9 : gK q = 9
    · exfalso
      have : ∀ k, gK k = 9 → k = 64 := by
        intro k hk
        by_cases hk65 : k < 65
        · have : ∀ k, k < 65 → gK k = 9 → k = 64 := by decide
          exact this k hk65 hk
        · have h99 : gK k = 99 := by
            unfold gK
            rw [List.getD_eq_getElem?_getD, List.getElem?_eq_none (by show 65 ≤ k; omega)]
            rfl
          rw [h99] at hk; cases hk
      exact hq (this q h9)
    · simp only [go, gO]
      split <;> first | rfl | (rename_i h; exact absurd h h9))
  have e3 : (gl E σ).set 64 (E.2.2 64, gw E (go σ (vp_updL σ.2 0 x)) 64) = (gl E σ).set 64 (E.2.2 64, .inl (E.2.1 1, 1, .inr (.inl (vp_updL σ.2 0 x)))) := rfl
  rw [← e3, e2] at hP1
  exact kk H1 locs1 ls hP1 hS1 hl
theorem g_lald (S : CallFix p m c cc nL s args Ts own) (hC : gC E s) {i : Int32} (hi : i = 0) (d : decode cc pc = .ok (.laload, 1))
    (kk : gJ p l e R s m args below meth c Q nL E σ cells slots (pc + 1) lv (.long (σ.2 0) :: rest)) : gJ p l e R s m args below meth c Q nL E σ cells slots pc lv (.int i :: .ref (E.2.2 64) :: rest) := by
  subst hi
  intro H locs ls hP hS hl
  exact va_lald (D := E.1) (cl := vwCl) S.1 S.2.1 hC.1 hP 64 1 (n := 1) (f := σ.2) (by rw [gl_at (by omega)]; rfl) rfl (vp_in_nI (n := 0) (by omega) (by omega)) d (kk H locs ls hP hS hl)
/-- a town's rows of objects -/
theorem g_aald (S : CallFix p m c cc nL s args Ts own) (hC : gC E s) {k : Nat} (hk : k < 65) (kd n off t0 ci : Nat) {C : String} (hw : gw E σ k = .inl (E.2.1 ci, n, .inr (.inr (.inr (.inr (fun j => some (E.2.2 (k + off + j)))))))) (ht : (gTys E)[t0]? = some (E.2.1 ci, .object C)) (hn : n ≤ 10) (j : Nat) {i : Int32} (hi : i = nI j) (hj : j < n) (q : Nat) (hq : k + off + j = q) (d : decode cc pc = .ok (.aaload, 1))
    (kk : gJ p l e R s m args below meth c Q nL E σ cells slots (pc + 1) lv (.ref (E.2.2 q) :: rest)) : gJ p l e R s m args below meth c Q nL E σ cells slots pc lv (.int i :: .ref (E.2.2 k) :: rest) := by
  intro H locs ls hP hS hl
  have hcl : i.toNatClampNeg = j := by rw [hi]; exact nI_clamp (by omega)
  refine va_aldq (D := E.1) (cl := vwCl) S.1 S.2.1 hC.1 hP k t0 (by rw [gl_at hk, hw]) ht (by rw [hi]; exact vp_in_nI hj (by omega)) d ?_
  rw [hcl]
  show W p l e R s m args below meth c H locs cells slots Q (F0 m (pc + 1) ls (va_rf (some (E.2.2 (k + off + j))) :: rest))
  rw [hq]
  exact kk H locs ls hP hS hl
theorem g_min (S : CallFix p m c cc nL s args Ts own) {index : Nat} (h1 : Cond.methodLink own index Lib.Math.min.name ∈ Ts) (h2 : Cond.static Lib.Math.min.name ∈ Ts) (h3 : Cond.initialized "java/lang/Math" ∈ Ts) (h4 : Cond.code Lib.Math.min.name Lib.Math.min.code 2 (some .int) ∈ Ts) (hR : 1 ≤ R.frames) (hR2 : (rest.map fun v => v.category).sum + 13 ≤ R.locals) (hc : cells ≤ R.cells) (hs : slots ≤ R.slots) {x y : Int32} (d : decode cc pc = .ok (.invokestatic index, 3))
    (kk : gJ p l e R s m args below meth c Q nL E σ cells slots (pc + 3) lv (.int (if y < x then y else x) :: rest)) : gJ p l e R s m args below meth c Q nL E σ cells slots pc lv (.int y :: .int x :: rest) :=
  fun H locs ls hP hS hl => va_mmin S.1 S.2.1 (S.2.2.1.trans hl.1.symm) S.2.2.2.1 (S.2.2.2.2 _ h1) (S.2.2.2.2 _ h2) (S.2.2.2.2 _ h3) (S.2.2.2.2 _ h4) hR hR2 hc hs d (kk H locs ls hP hS hl)
/-- the reference's tables -/
theorem g_gets (S : CallFix p m c cc nL s args Ts own) {C n dd : String} {t : Nat} (hZ : va_Z C n dd (.ref t) (gA E s.heap.size) s s.heap) {index : Nat} (hlk : Cond.fieldLink own index C n dd ∈ Ts) (d : decode cc pc = .ok (.getstatic index, 3))
    (kk : gJ p l e R s m args below meth c Q nL E σ cells slots (pc + 3) lv (.ref t :: rest)) : gJ p l e R s m args below meth c Q nL E σ cells slots pc lv rest :=
  fun H locs ls hP hS hl => va_gets S.1 S.2.1 hZ hS S.2.2.2.1 (S.2.2.2.2 _ hlk) (fun _ h => h) d (kk H locs ls hP hS hl)
theorem g_ti (S : CallFix p m c cc nL s args Ts own) {t : Nat} {f : Nat → Value} (hT : va_T .int t 2 f (gA E s.heap.size) s s.heap) (j : Nat) {i : Int32} (hi : i = nI j) (hj : j < 2) {v : Value} (hv : f j = v) (d : decode cc pc = .ok (.iaload, 1))
    (kk : gJ p l e R s m args below meth c Q nL E σ cells slots (pc + 1) lv (v :: rest)) : gJ p l e R s m args below meth c Q nL E σ cells slots pc lv (.int i :: .ref t :: rest) := by
  intro H locs ls hP hS hl
  have hcl : i.toNatClampNeg = j := by rw [hi]; exact nI_clamp (by omega)
  exact va_ti S.1 S.2.1 hT hS (by rw [hi]; exact vp_in_nI hj (by omega)) (by rw [hcl]; exact hv) d (kk H locs ls hP hS hl)
end GH
section GF
variable {p : Program} {l : Launch} {e : Env} {R : Room} {s : State} {m : MethodId} {args : Array Value} {below : List Frame} {meth : Method} {c : Code} {Q : State → Prop}
variable {cc : ByteArray} {nL : Nat} {Ts : List Cond} {own : String} {E : gT} {σ : gS} {cells slots pc : Nat} {lv lv' : List (Nat × Value)} {rest : List Value}
theorem gg0 (S : CallFix p m c cc nL s args Ts own) (hC : gC E s) (hin : ∀ w ∈ wsX00, w ∈ Ts) {k : Nat} (hk : k < 65) (hkd : gK k = 0) (j : Nat) (hj : j < 3) {index : Nat} (hlk : Cond.fieldLink own index (TX0 j).1 (TX0 j).2.1 (TX0 j).2.2.1 ∈ Ts)  (d : decode cc pc = .ok (.getfield index, 3)) (kk : gJ p l e R s m args below meth c Q nL E σ cells slots (pc + 3) lv (.int (σ.1 k j) :: rest)) : gJ p l e R s m args below meth c Q nL E σ cells slots pc lv (.ref (E.2.2 k) :: rest) :=
  g_getc S hC (C := RX0) (T := TX0) (N := 3) 0 j hk (gK_o hkd (by decide)) rfl (by omega) hin hlk (gO_get hj) d kk
theorem gp0 (S : CallFix p m c cc nL s args Ts own) (hC : gC E s) (hin : ∀ w ∈ wsX00, w ∈ Ts) {k : Nat} (hk : k < 65) (hkd : gK k = 0) (j : Nat) (hj : j < 3) {index : Nat} (hlk : Cond.fieldLink own index (TX0 j).1 (TX0 j).2.1 (TX0 j).2.2.1 ∈ Ts) {x : Int32} (d : decode cc pc = .ok (.putfield index, 3)) (kk : gJ p l e R s m args below meth c Q nL E (gu σ k j x) cells slots (pc + 3) lv rest) : gJ p l e R s m args below meth c Q nL E σ cells slots pc lv (.int x :: .ref (E.2.2 k) :: rest) :=
  g_putc S hC (C := RX0) (T := TX0) (N := 3) tyX0 tyX0_ok nmX0 0 j hk (gK_o hkd (by decide)) (by rw [gO_set]; exact gK_o hkd (by decide)) rfl hj hin hlk (by rcases (show j = 0 ∨ j = 1 ∨ j = 2 by omega) with rfl | rfl | rfl <;> rfl) (by rcases (show j = 0 ∨ j = 1 ∨ j = 2 by omega) with rfl | rfl | rfl <;> rfl) (by rw [List.length_map, List.length_range]; exact hj) d kk
theorem gg1 (S : CallFix p m c cc nL s args Ts own) (hC : gC E s) (hin : ∀ w ∈ wsX10, w ∈ Ts) {k : Nat} (hk : k < 65) (hkd : gK k = 1) (j : Nat) (hj : j < 5) {index : Nat} (hlk : Cond.fieldLink own index (TX1 j).1 (TX1 j).2.1 (TX1 j).2.2.1 ∈ Ts)  (d : decode cc pc = .ok (.getfield index, 3)) (kk : gJ p l e R s m args below meth c Q nL E σ cells slots (pc + 3) lv (.int (σ.1 k j) :: rest)) : gJ p l e R s m args below meth c Q nL E σ cells slots pc lv (.ref (E.2.2 k) :: rest) :=
  g_getc S hC (C := RX1) (T := TX1) (N := 5) 1 j hk (gK_o hkd (by decide)) rfl (by omega) hin hlk (gO_get hj) d kk
theorem gp1 (S : CallFix p m c cc nL s args Ts own) (hC : gC E s) (hin : ∀ w ∈ wsX10, w ∈ Ts) {k : Nat} (hk : k < 65) (hkd : gK k = 1) (j : Nat) (hj : j < 5) {index : Nat} (hlk : Cond.fieldLink own index (TX1 j).1 (TX1 j).2.1 (TX1 j).2.2.1 ∈ Ts) {x : Int32} (d : decode cc pc = .ok (.putfield index, 3)) (kk : gJ p l e R s m args below meth c Q nL E (gu σ k j x) cells slots (pc + 3) lv rest) : gJ p l e R s m args below meth c Q nL E σ cells slots pc lv (.int x :: .ref (E.2.2 k) :: rest) :=
  g_putc S hC (C := RX1) (T := TX1) (N := 5) tyX1 tyX1_ok nmX1 1 j hk (gK_o hkd (by decide)) (by rw [gO_set]; exact gK_o hkd (by decide)) rfl hj hin hlk (by rcases (show j = 0 ∨ j = 1 ∨ j = 2 ∨ j = 3 ∨ j = 4 by omega) with rfl | rfl | rfl | rfl | rfl <;> rfl) (by rcases (show j = 0 ∨ j = 1 ∨ j = 2 ∨ j = 3 ∨ j = 4 by omega) with rfl | rfl | rfl | rfl | rfl <;> rfl) (by rw [List.length_map, List.length_range]; exact hj) d kk
theorem gg2 (S : CallFix p m c cc nL s args Ts own) (hC : gC E s) (hin : ∀ w ∈ wsX20, w ∈ Ts) {k : Nat} (hk : k < 65) (hkd : gK k = 2) (j : Nat) (hj : j < 5) {index : Nat} (hlk : Cond.fieldLink own index (TX2 j).1 (TX2 j).2.1 (TX2 j).2.2.1 ∈ Ts)  (d : decode cc pc = .ok (.getfield index, 3)) (kk : gJ p l e R s m args below meth c Q nL E σ cells slots (pc + 3) lv (.int (σ.1 k j) :: rest)) : gJ p l e R s m args below meth c Q nL E σ cells slots pc lv (.ref (E.2.2 k) :: rest) :=
  g_getc S hC (C := RX2) (T := TX2) (N := 5) 2 j hk (gK_o hkd (by decide)) rfl (by omega) hin hlk (gO_get hj) d kk
theorem gp2 (S : CallFix p m c cc nL s args Ts own) (hC : gC E s) (hin : ∀ w ∈ wsX20, w ∈ Ts) {k : Nat} (hk : k < 65) (hkd : gK k = 2) (j : Nat) (hj : j < 5) {index : Nat} (hlk : Cond.fieldLink own index (TX2 j).1 (TX2 j).2.1 (TX2 j).2.2.1 ∈ Ts) {x : Int32} (d : decode cc pc = .ok (.putfield index, 3)) (kk : gJ p l e R s m args below meth c Q nL E (gu σ k j x) cells slots (pc + 3) lv rest) : gJ p l e R s m args below meth c Q nL E σ cells slots pc lv (.int x :: .ref (E.2.2 k) :: rest) :=
  g_putc S hC (C := RX2) (T := TX2) (N := 5) tyX2 tyX2_ok nmX2 2 j hk (gK_o hkd (by decide)) (by rw [gO_set]; exact gK_o hkd (by decide)) rfl hj hin hlk (by rcases (show j = 0 ∨ j = 1 ∨ j = 2 ∨ j = 3 ∨ j = 4 by omega) with rfl | rfl | rfl | rfl | rfl <;> rfl) (by rcases (show j = 0 ∨ j = 1 ∨ j = 2 ∨ j = 3 ∨ j = 4 by omega) with rfl | rfl | rfl | rfl | rfl <;> rfl) (by rw [List.length_map, List.length_range]; exact hj) d kk
theorem gg3 (S : CallFix p m c cc nL s args Ts own) (hC : gC E s) (hin : ∀ w ∈ wsX30, w ∈ Ts) {k : Nat} (hk : k < 65) (hkd : gK k = 3) (j : Nat) (hj : j < 5) {index : Nat} (hlk : Cond.fieldLink own index (TX3 j).1 (TX3 j).2.1 (TX3 j).2.2.1 ∈ Ts)  (d : decode cc pc = .ok (.getfield index, 3)) (kk : gJ p l e R s m args below meth c Q nL E σ cells slots (pc + 3) lv (.int (σ.1 k j) :: rest)) : gJ p l e R s m args below meth c Q nL E σ cells slots pc lv (.ref (E.2.2 k) :: rest) :=
  g_getc S hC (C := RX3) (T := TX3) (N := 5) 3 j hk (gK_o hkd (by decide)) rfl (by omega) hin hlk (gO_get hj) d kk
theorem gp3 (S : CallFix p m c cc nL s args Ts own) (hC : gC E s) (hin : ∀ w ∈ wsX30, w ∈ Ts) {k : Nat} (hk : k < 65) (hkd : gK k = 3) (j : Nat) (hj : j < 5) {index : Nat} (hlk : Cond.fieldLink own index (TX3 j).1 (TX3 j).2.1 (TX3 j).2.2.1 ∈ Ts) {x : Int32} (d : decode cc pc = .ok (.putfield index, 3)) (kk : gJ p l e R s m args below meth c Q nL E (gu σ k j x) cells slots (pc + 3) lv rest) : gJ p l e R s m args below meth c Q nL E σ cells slots pc lv (.int x :: .ref (E.2.2 k) :: rest) :=
  g_putc S hC (C := RX3) (T := TX3) (N := 5) tyX3 tyX3_ok nmX3 3 j hk (gK_o hkd (by decide)) (by rw [gO_set]; exact gK_o hkd (by decide)) rfl hj hin hlk (by rcases (show j = 0 ∨ j = 1 ∨ j = 2 ∨ j = 3 ∨ j = 4 by omega) with rfl | rfl | rfl | rfl | rfl <;> rfl) (by rcases (show j = 0 ∨ j = 1 ∨ j = 2 ∨ j = 3 ∨ j = 4 by omega) with rfl | rfl | rfl | rfl | rfl <;> rfl) (by rw [List.length_map, List.length_range]; exact hj) d kk
theorem gg4 (S : CallFix p m c cc nL s args Ts own) (hC : gC E s) (hin : ∀ w ∈ wsX40, w ∈ Ts) {k : Nat} (hk : k < 65) (hkd : gK k = 4) (j : Nat) (hj : j < 7) {index : Nat} (hlk : Cond.fieldLink own index (TX4 j).1 (TX4 j).2.1 (TX4 j).2.2.1 ∈ Ts)  (d : decode cc pc = .ok (.getfield index, 3)) (kk : gJ p l e R s m args below meth c Q nL E σ cells slots (pc + 3) lv (.int (σ.1 k j) :: rest)) : gJ p l e R s m args below meth c Q nL E σ cells slots pc lv (.ref (E.2.2 k) :: rest) :=
  g_getc S hC (C := RX4) (T := TX4) (N := 7) 4 j hk (gK_o hkd (by decide)) rfl (by omega) hin hlk (gO_get hj) d kk
theorem gp4 (S : CallFix p m c cc nL s args Ts own) (hC : gC E s) (hin : ∀ w ∈ wsX40, w ∈ Ts) {k : Nat} (hk : k < 65) (hkd : gK k = 4) (j : Nat) (hj : j < 7) {index : Nat} (hlk : Cond.fieldLink own index (TX4 j).1 (TX4 j).2.1 (TX4 j).2.2.1 ∈ Ts) {x : Int32} (d : decode cc pc = .ok (.putfield index, 3)) (kk : gJ p l e R s m args below meth c Q nL E (gu σ k j x) cells slots (pc + 3) lv rest) : gJ p l e R s m args below meth c Q nL E σ cells slots pc lv (.int x :: .ref (E.2.2 k) :: rest) :=
  g_putc S hC (C := RX4) (T := TX4) (N := 7) tyX4 tyX4_ok nmX4 4 j hk (gK_o hkd (by decide)) (by rw [gO_set]; exact gK_o hkd (by decide)) rfl hj hin hlk (by rcases (show j = 0 ∨ j = 1 ∨ j = 2 ∨ j = 3 ∨ j = 4 ∨ j = 5 ∨ j = 6 by omega) with rfl | rfl | rfl | rfl | rfl | rfl | rfl <;> rfl) (by rcases (show j = 0 ∨ j = 1 ∨ j = 2 ∨ j = 3 ∨ j = 4 ∨ j = 5 ∨ j = 6 by omega) with rfl | rfl | rfl | rfl | rfl | rfl | rfl <;> rfl) (by rw [List.length_map, List.length_range]; exact hj) d kk
theorem gg5r (S : CallFix p m c cc nL s args Ts own) (hC : gC E s) (hin : ∀ w ∈ wsX60, w ∈ Ts) {k : Nat} (hk : k < 65) (hkd : gK k = 5) (j : Nat) (hj : j < 5) {index : Nat} (hlk : Cond.fieldLink own index (TX6 j).1 (TX6 j).2.1 (TX6 j).2.2.1 ∈ Ts)  (d : decode cc pc = .ok (.getfield index, 3)) (kk : gJ p l e R s m args below meth c Q nL E σ cells slots (pc + 3) lv (.ref (E.2.2 (k + 1 + j)) :: rest)) : gJ p l e R s m args below meth c Q nL E σ cells slots pc lv (.ref (E.2.2 k) :: rest) :=
  g_getc S hC (C := RX6) (T := TX6) (N := 11) 5 j hk (gw_5 hkd) rfl (by omega) hin hlk (by rcases (show j = 0 ∨ j = 1 ∨ j = 2 ∨ j = 3 ∨ j = 4 by omega) with rfl | rfl | rfl | rfl | rfl <;> rfl) d kk
theorem gg5 (S : CallFix p m c cc nL s args Ts own) (hC : gC E s) (hin : ∀ w ∈ wsX60, w ∈ Ts) {k : Nat} (hk : k < 65) (hkd : gK k = 5) (j : Nat) (hj : 5 ≤ j ∧ j < 11) {index : Nat} (hlk : Cond.fieldLink own index (TX6 j).1 (TX6 j).2.1 (TX6 j).2.2.1 ∈ Ts)  (d : decode cc pc = .ok (.getfield index, 3)) (kk : gJ p l e R s m args below meth c Q nL E σ cells slots (pc + 3) lv (.int (σ.1 k j) :: rest)) : gJ p l e R s m args below meth c Q nL E σ cells slots pc lv (.ref (E.2.2 k) :: rest) :=
  g_getc S hC (C := RX6) (T := TX6) (N := 11) 5 j hk (gw_5 hkd) rfl (by omega) hin hlk (by rcases (show j = 5 ∨ j = 6 ∨ j = 7 ∨ j = 8 ∨ j = 9 ∨ j = 10 by omega) with rfl | rfl | rfl | rfl | rfl | rfl <;> rfl) d kk
theorem gp5 (S : CallFix p m c cc nL s args Ts own) (hC : gC E s) (hin : ∀ w ∈ wsX60, w ∈ Ts) {k : Nat} (hk : k < 65) (hkd : gK k = 5) (j : Nat) (hj : 5 ≤ j ∧ j < 11) {index : Nat} (hlk : Cond.fieldLink own index (TX6 j).1 (TX6 j).2.1 (TX6 j).2.2.1 ∈ Ts) {x : Int32} (d : decode cc pc = .ok (.putfield index, 3)) (kk : gJ p l e R s m args below meth c Q nL E (gu σ k j x) cells slots (pc + 3) lv rest) : gJ p l e R s m args below meth c Q nL E σ cells slots pc lv (.int x :: .ref (E.2.2 k) :: rest) :=
  g_putc S hC (C := RX6) (T := TX6) (N := 11) tyX6 tyX6_ok nmX6 5 j hk (gw_5 hkd) (by rw [gw_5 hkd]; simp only [gu_self]; rcases (show j = 5 ∨ j = 6 ∨ j = 7 ∨ j = 8 ∨ j = 9 ∨ j = 10 by omega) with rfl | rfl | rfl | rfl | rfl | rfl <;> simp [upd]) rfl (by omega) hin hlk (by rcases (show j = 5 ∨ j = 6 ∨ j = 7 ∨ j = 8 ∨ j = 9 ∨ j = 10 by omega) with rfl | rfl | rfl | rfl | rfl | rfl <;> rfl) (by rcases (show j = 5 ∨ j = 6 ∨ j = 7 ∨ j = 8 ∨ j = 9 ∨ j = 10 by omega) with rfl | rfl | rfl | rfl | rfl | rfl <;> rfl) (by show j < 11; omega) d kk
theorem gg6 (S : CallFix p m c cc nL s args Ts own) (hC : gC E s) (hin : ∀ w ∈ wsX70, w ∈ Ts) (j : Nat) (hj : j < 2) {index : Nat} (hlk : Cond.fieldLink own index (TX7 j).1 (TX7 j).2.1 (TX7 j).2.2.1 ∈ Ts) (d : decode cc pc = .ok (.getfield index, 3)) (kk : gJ p l e R s m args below meth c Q nL E σ cells slots (pc + 3) lv (.ref (E.2.2 (1 + 28 * j)) :: rest)) : gJ p l e R s m args below meth c Q nL E σ cells slots pc lv (.ref (E.2.2 0) :: rest) :=
  g_getc S hC (C := RX7) (T := TX7) (N := 2) (fs := [.ref (E.2.2 1), .ref (E.2.2 29)]) 6 j (by omega) rfl rfl hj hin hlk (by rcases (show j = 0 ∨ j = 1 by omega) with rfl | rfl <;> rfl) d kk
theorem gg7 (S : CallFix p m c cc nL s args Ts own) (hC : gC E s) (hin : ∀ w ∈ wsX80, w ∈ Ts) {k : Nat} (hk : k < 65) (hkd : gK k = 7) (j : Nat) (hj : j < 5) {index : Nat} (hlk : Cond.fieldLink own index (TX8 j).1 (TX8 j).2.1 (TX8 j).2.2.1 ∈ Ts)  (d : decode cc pc = .ok (.getfield index, 3)) (kk : gJ p l e R s m args below meth c Q nL E σ cells slots (pc + 3) lv (.int (σ.1 k j) :: rest)) : gJ p l e R s m args below meth c Q nL E σ cells slots pc lv (.ref (E.2.2 k) :: rest) :=
  g_getc S hC (C := RX8) (T := TX8) (N := 11) 7 j hk (gw_7 hkd) rfl (by omega) hin hlk (by rcases (show j = 0 ∨ j = 1 ∨ j = 2 ∨ j = 3 ∨ j = 4 by omega) with rfl | rfl | rfl | rfl | rfl <;> rfl) d kk
theorem gg7r (S : CallFix p m c cc nL s args Ts own) (hC : gC E s) (hin : ∀ w ∈ wsX80, w ∈ Ts) {k : Nat} (hk : k < 65) (hkd : gK k = 7) (j : Nat) (hj : 5 ≤ j ∧ j < 11) {index : Nat} (hlk : Cond.fieldLink own index (TX8 j).1 (TX8 j).2.1 (TX8 j).2.2.1 ∈ Ts)  (d : decode cc pc = .ok (.getfield index, 3)) (kk : gJ p l e R s m args below meth c Q nL E σ cells slots (pc + 3) lv (.ref (E.2.2 (k + (j - 4))) :: rest)) : gJ p l e R s m args below meth c Q nL E σ cells slots pc lv (.ref (E.2.2 k) :: rest) :=
  g_getc S hC (C := RX8) (T := TX8) (N := 11) 7 j hk (gw_7 hkd) rfl (by omega) hin hlk (by rcases (show j = 5 ∨ j = 6 ∨ j = 7 ∨ j = 8 ∨ j = 9 ∨ j = 10 by omega) with rfl | rfl | rfl | rfl | rfl | rfl <;> rfl) d kk
theorem gp7 (S : CallFix p m c cc nL s args Ts own) (hC : gC E s) (hin : ∀ w ∈ wsX80, w ∈ Ts) {k : Nat} (hk : k < 65) (hkd : gK k = 7) (j : Nat) (hj : j < 5) {index : Nat} (hlk : Cond.fieldLink own index (TX8 j).1 (TX8 j).2.1 (TX8 j).2.2.1 ∈ Ts) {x : Int32} (d : decode cc pc = .ok (.putfield index, 3)) (kk : gJ p l e R s m args below meth c Q nL E (gu σ k j x) cells slots (pc + 3) lv rest) : gJ p l e R s m args below meth c Q nL E σ cells slots pc lv (.int x :: .ref (E.2.2 k) :: rest) :=
  g_putc S hC (C := RX8) (T := TX8) (N := 11) tyX8 tyX8_ok nmX8 7 j hk (gw_7 hkd) (by rw [gw_7 hkd]; simp only [gu_self]; rcases (show j = 0 ∨ j = 1 ∨ j = 2 ∨ j = 3 ∨ j = 4 by omega) with rfl | rfl | rfl | rfl | rfl <;> simp [upd]) rfl (by omega) hin hlk (by rcases (show j = 0 ∨ j = 1 ∨ j = 2 ∨ j = 3 ∨ j = 4 by omega) with rfl | rfl | rfl | rfl | rfl <;> rfl) (by rcases (show j = 0 ∨ j = 1 ∨ j = 2 ∨ j = 3 ∨ j = 4 by omega) with rfl | rfl | rfl | rfl | rfl <;> rfl) (by show j < 11; omega) d kk
end GF
end
section
section GM
variable {p : Program} {l : Launch} {e : Env} {R : Room} {s : State} {m : MethodId} {args : Array Value} {below : List Frame} {meth : Method} {c : Code} {Q : State → Prop}
variable {cc : ByteArray} {nL : Nat} {Ts : List Cond} {own : String} {E : gT} {σ σ' : gS} {cells slots pc : Nat} {lv lv' : List (Nat × Value)} {rest st0 : List Value}
/-- a method's entry -/
def gB (E : gT) (σ : gS) (sz : Nat) (U : State) : Prop := U.heap.size = sz ∧ gC E U ∧ va_P E.1 vwCl (gl E σ) U.heap
abbrev gPre (E : gT) (σ : gS) (sz : Nat) (av : List Value) : Array Value → State → Prop := va_Pc av (gB E σ sz)
abbrev gBt (E : gT) (σ : gS) (t : State) : Prop := va_P E.1 vwCl (gl E σ) t.heap
abbrev gRi (E : gT) (σ : gS) (r : Int32) (sz : Nat) : Array Value → State → Outcome → State → Prop := va_Qi (fun (r' : Int32) (_ : Unit) => r' = r) (fun _ => gBt E σ) (gA E sz)
abbrev gRl (E : gT) (σ : gS) (r : Int64) (sz : Nat) : Array Value → State → Outcome → State → Prop := va_Ql (fun (r' : Int64) (_ : Unit) => r' = r) (fun _ => gBt E σ) (gA E sz)
abbrev gRv (E : gT) (σ : gS) (sz : Nat) : Array Value → State → Outcome → State → Prop := va_Qv (fun (_ : Unit) => True) (fun _ => gBt E σ) (gA E sz)
/-- contracts: what comes in, the answer, the numbers behind it; room for mc cells of ms slots -/
def gMi (l : Launch) (y : MethodName) (ws : List Cond) (rm : Room) (mc ms : Nat) (E : gT) (σ : gS) (av : List Value) (r : Int32) (σ' : gS) : Prop := ∀ sz, Met l y ws rm (gPre E σ sz av) (gRi E σ' r sz) mc ms (gA E sz)
def gMl (l : Launch) (y : MethodName) (ws : List Cond) (rm : Room) (mc ms : Nat) (E : gT) (σ : gS) (av : List Value) (r : Int64) (σ' : gS) : Prop := ∀ sz, Met l y ws rm (gPre E σ sz av) (gRl E σ' r sz) mc ms (gA E sz)
def gMv (l : Launch) (y : MethodName) (ws : List Cond) (rm : Room) (mc ms : Nat) (E : gT) (σ : gS) (av : List Value) (σ' : gS) : Prop := ∀ sz, Met l y ws rm (gPre E σ sz av) (gRv E σ' sz) mc ms (gA E sz)
theorem gPre_blind {E : gT} {σ : gS} {sz : Nat} {av : List Value} : FrameBlind (gPre E σ sz av) := fun _ _ _ _ h => ⟨h.1, h.2.1, h.2.2.1.same rfl rfl, h.2.2.2⟩
/-- from a method's entry: the head of any body -/
theorem g_ent {k : List Value → Prop} {ls : Array Slot} {av : List Value} {nL : Nat} {lv : List (Nat × Value)} (hlv : lv_args 0 av = lv) (hsz : (lg_sl av).length ≤ nL) (K : gJ p l e R s m av.toArray below meth c Q nL E σ 0 0 0 lv []) (hP : va_P E.1 vwCl (gl E σ) s.heap) : W p l e R s m av.toArray below meth c s.heap [] 0 0 Q (entryFrame m av.toArray nL) := by
  rw [lg_entry_eq]
  exact K s.heap [] _ hP va_S.rf (by rw [← hlv]; exact lv_entry av hsz)
theorem g_met {y : MethodName} {ws ws' : List Cond} {rm : Room} {mc ms : Nat} {av : List Value} {ret : Option FieldType} {Qc : Nat → Array Value → State → Outcome → State → Prop} (hy : plainName y.cls = true) (hw : ws = Cond.code y cc nL ret :: ws') (hlv : lv_args 0 av = lv) (hsz : (lg_sl av).length ≤ nL)
    (body : ∀ (p : Program) (e : Env) (s : State) (m : MethodId) (below : List Frame) (meth : Method) (c : Code), CallFix p m c cc nL s av.toArray ws y.cls → meth.sig.returnType = ret → meth.locks = false → gC E s →
      gJ p l e rm s m av.toArray below meth c (MQ below (Qc s.heap.size) av.toArray s mc ms (gA E s.heap.size)) nL E σ 0 0 0 lv []) : ∀ sz, Met l y ws rm (gPre E σ sz av) (Qc sz) mc ms (gA E sz) := by
  intro sz
  refine Met.ofW (cc := cc) (maxL := nL) (ret := ret) hy hw ?_
  intro p e s m args below meth c s₁ B hml hv
  obtain ⟨rfl, rfl, hC, hP⟩ := hv
  exact g_ent (k := fun _ => True) (ls := #[]) hlv hsz (body p e s m below meth c ⟨B.exec, B.bytes, hml, findClass_of_methodNamed B.named, atoms_spec (ws := ws) B.pre⟩ B.returns B.notSynchronized hC) hP
/-- ends -/
theorem g_iret (S : CallFix p m c cc nL s args Ts own) (hr : meth.sig.returnType = some .int) (hlocks : meth.locks = false) {r r' : Int32} {mc ms : Nat} (d : decode cc pc = .ok (.ireturn, 1)) (h1 : r = r') (h2 : σ = σ') (h3 : cells ≤ mc) (h4 : slots ≤ ms) :
    gJ p l e R s m args below meth c (MQ below (gRi E σ' r' s.heap.size) args s mc ms (gA E s.heap.size)) nL E σ cells slots pc lv [.int r] := by
  subst h1; subst h2
  exact fun H locs ls hP hS hl => W.widen h3 h4 (W.iret S.1 S.2.1 hr (fun t ht _ => ⟨⟨r, (), rfl, rfl, by show va_P _ _ _ t.heap; rw [ht]; exact hP⟩, hS.F ht⟩) hS.2.2 d)
theorem g_zret (S : CallFix p m c cc nL s args Ts own) (hr : meth.sig.returnType = some .boolean) (hlocks : meth.locks = false) {r r' : Int32} {mc ms : Nat} (d : decode cc pc = .ok (.ireturn, 1)) (h0 : narrow .boolean (.int r) = .int r) (h1 : r = r') (h2 : σ = σ') (h3 : cells ≤ mc) (h4 : slots ≤ ms) :
    gJ p l e R s m args below meth c (MQ below (gRi E σ' r' s.heap.size) args s mc ms (gA E s.heap.size)) nL E σ cells slots pc lv [.int r] := by
  subst h1; subst h2
  exact fun H locs ls hP hS hl => W.widen h3 h4 (W.zret S.1 S.2.1 hr h0 (fun t ht _ => ⟨⟨r, (), rfl, rfl, by show va_P _ _ _ t.heap; rw [ht]; exact hP⟩, hS.F ht⟩) hS.2.2 d)
theorem g_lret (S : CallFix p m c cc nL s args Ts own) (hr : meth.sig.returnType = some .long) (hlocks : meth.locks = false) {r r' : Int64} {mc ms : Nat} (d : decode cc pc = .ok (.lreturn, 1)) (h1 : r = r') (h2 : σ = σ') (h3 : cells ≤ mc) (h4 : slots ≤ ms) :
    gJ p l e R s m args below meth c (MQ below (gRl E σ' r' s.heap.size) args s mc ms (gA E s.heap.size)) nL E σ cells slots pc lv [.long r] := by
  subst h1; subst h2
  exact fun H locs ls hP hS hl => W.widen h3 h4 (W.lret S.1 S.2.1 hr (fun t ht _ => ⟨⟨r, (), rfl, rfl, by show va_P _ _ _ t.heap; rw [ht]; exact hP⟩, hS.F ht⟩) hS.2.2 d)
theorem g_vret (S : CallFix p m c cc nL s args Ts own) (hr : meth.sig.returnType = none) (hlocks : meth.locks = false) {mc ms : Nat} (d : decode cc pc = .ok (.return_, 1)) (h2 : σ = σ') (h3 : cells ≤ mc) (h4 : slots ≤ ms) :
    gJ p l e R s m args below meth c (MQ below (gRv E σ' s.heap.size) args s mc ms (gA E s.heap.size)) nL E σ cells slots pc lv [] := by
  subst h2
  exact fun H locs ls hP hS hl => W.widen h3 h4 (W.vret S.1 S.2.1 hr (fun t ht _ => ⟨⟨(), rfl, trivial, by show va_P _ _ _ t.heap; rw [ht]; exact hP⟩, hS.F ht⟩) hS.2.2 d)
/-- which cells are objects -/
theorem gw_obj {k ci : Nat} (h : gK k = ci) (hc : ci < 8) : ∃ fs, gw E σ k = .inr (ci, fs) := by
  rcases (show ci < 5 ∨ ci = 5 ∨ ci = 6 ∨ ci = 7 by omega) with h5 | rfl | rfl | rfl
  · exact ⟨_, gK_o h h5⟩
  · exact ⟨_, gw_5 h⟩
  · exact ⟨[.ref (E.2.2 1), .ref (E.2.2 29)], by unfold gw; rw [h]; try rfl⟩
  · exact ⟨_, gw_7 h⟩
/-- a call under way -/
def gRun (p : Program) (l : Launch) (e : Env) (R : Room) (s : State) (m : MethodId) (args : Array Value) (below : List Frame) (meth : Method) (c : Code) (nL : Nat) (E : gT) (σ : gS) (cells slots pc : Nat) (lv : List (Nat × Value)) (st0 rest : List Value) (Qa : Nat → State → Outcome → State → Prop) (mc ms : Nat) : Prop :=
  ∀ (H : Heap) (locs : List Loc) (ls : Array Slot), va_P E.1 vwCl (gl E σ) H → va_S (gA E s.heap.size) s.heap H locs → lv_has ls nL lv → va_Run p l e R s m args below meth c H locs cells slots mc ms (F0 m pc ls st0) rest (Qa H.size) (gA E H.size)
variable {y : MethodName} {bytes : ByteArray} {maxL n index mc ms : Nat} {ret : Option FieldType} {ws : List Cond} {rm : Room} {As : List Value} {Qc : Nat → Array Value → State → Outcome → State → Prop}
theorem g_recv (hC : gC E s) {k ci : Nat} {q : vw_C} (hk : k < 65) (hkd : gK k = ci) (hci : ci < 8) (hcl : vwCl[ci]? = some q) {H : Heap} (hP : va_P E.1 vwCl (gl E σ) H) : ∃ cell : Cell, H[E.2.2 k]? = some cell ∧ cell.vm.isStatics = false ∧ s.vm.findClass q.1 = some cell.cls := by
  obtain ⟨fs, hw⟩ := gw_obj (E := E) (σ := σ) hkd hci
  exact va_recv hC.1 hP (ci := ci) (q0 := k) hcl (by rw [gl_at hk, hw])
theorem g_runV (S : CallFix p m c cc nL s args Ts own) (hC : gC E s) {k ci : Nat} {q : vw_C} (hk : k < 65) (hkd : gK k = ci) (hci : ci < 8) (hcl : vwCl[ci]? = some q) (hM : ∀ sz, Met l y ws rm (gPre E σ sz (.ref (E.2.2 k) :: As)) (Qc sz) mc ms (gA E sz)) (cw : CallW R s args own q.1 index y bytes maxL ret ws rm mc ms n) (hn : As.length = n) (hst : st0 = As.reverse ++ .ref (E.2.2 k) :: rest) (hcat : (rest.map fun v => v.category).sum ≤ 8) (d : decode cc pc = .ok (.invokevirtual index, 3)) (hf : cells + mc ≤ R.cells ∧ slots + ms ≤ R.slots) :
    gRun p l e R s m args below meth c nL E σ cells slots pc lv st0 rest (fun sz => Qc sz (Value.ref (E.2.2 k) :: As).toArray) mc ms :=
  fun H locs ls hP hS hl => va_runV S (hM H.size) cw ⟨gPre_blind, g_recv hC hk hkd hci hcl hP, fun U hU hW => ⟨rfl, by rw [hU], hC.go hS hU hW, by rw [hU]; exact hP⟩⟩ rfl hn hl.1 hst (lv_room hcat) d hf
theorem g_runS (S : CallFix p m c cc nL s args Ts own) (hC : gC E s) (hM : ∀ sz, Met l y ws rm (gPre E σ sz As) (Qc sz) mc ms (gA E sz)) (cw : CallB R s args own index y bytes maxL ret ws rm mc ms n ∧ (Cond.static y).before args s = true) (hn : As.length = n) (hst : st0 = As.reverse ++ rest) (hcat : (rest.map fun v => v.category).sum ≤ 8) (d : decode cc pc = .ok (.invokestatic index, 3)) (hf : cells + mc ≤ R.cells ∧ slots + ms ≤ R.slots) :
    gRun p l e R s m args below meth c nL E σ cells slots pc lv st0 rest (fun sz => Qc sz As.toArray) mc ms :=
  fun H locs ls hP hS hl => va_runS S (hM H.size) cw ⟨gPre_blind, fun U hU hW => ⟨rfl, by rw [hU], hC.go hS hU hW, by rw [hU]; exact hP⟩⟩ rfl hn hl.1 hst (lv_room hcat) d hf
theorem g_runU {x : MethodName} {owner : String} (S : CallFix p m c cc nL s args Ts own) (hC : gC E s) {k ci : Nat} {q : vw_C} (hk : k < 65) (hkd : gK k = ci) (hci : ci < 8) (hcl : vwCl[ci]? = some q) (hM : ∀ sz, Met l y ws rm (gPre E σ sz (.ref (E.2.2 k) :: As)) (Qc sz) mc ms (gA E sz)) (cw : va_CU R s args own q.1 owner index x y bytes maxL ret ws rm mc ms n) (hn : As.length = n) (hst : st0 = As.reverse ++ .ref (E.2.2 k) :: rest) (hcat : (rest.map fun v => v.category).sum ≤ 8) (d : decode cc pc = .ok (.invokevirtual index, 3)) (hf : cells + mc ≤ R.cells ∧ slots + ms ≤ R.slots) :
    gRun p l e R s m args below meth c nL E σ cells slots pc lv st0 rest (fun sz => Qc sz (Value.ref (E.2.2 k) :: As).toArray) mc ms :=
  fun H locs ls hP hS hl => va_runU S (hM H.size) cw ⟨gPre_blind, g_recv hC hk hkd hci hcl hP, fun U hU hW => ⟨rfl, by rw [hU], hC.go hS hU hW, by rw [hU]; exact hP⟩⟩ rfl hn hl.1 hst (lv_room hcat) d hf
/-- a static method with handlers -/
theorem g_runSW {hh : List (Nat × Nat × Nat × Nat)} (S : CallFix p m c cc nL s args Ts own) (hC : gC E s) (hM : ∀ sz, Met l y ws rm (gPre E σ sz As) (Qc sz) mc ms (gA E sz)) (cw : vx_CSW R s args own index y bytes maxL ret hh ws rm mc ms n) (hn : As.length = n) (hst : st0 = As.reverse ++ rest) (hcat : (rest.map fun v => v.category).sum ≤ 8) (d : decode cc pc = .ok (.invokestatic index, 3)) (hf : cells + mc ≤ R.cells ∧ slots + ms ≤ R.slots) :
    gRun p l e R s m args below meth c nL E σ cells slots pc lv st0 rest (fun sz => Qc sz As.toArray) mc ms :=
  fun H locs ls hP hS hl => vx_runSW S (hM H.size) cw ⟨gPre_blind, fun U hU hW => ⟨rfl, by rw [hU], hC.go hS hU hW, by rw [hU]; exact hP⟩⟩ rfl hn hl.1 hst (lv_room hcat) d hf
variable {a : Array Value}
theorem g_calli {r : Int32} (hr : gRun p l e R s m args below meth c nL E σ cells slots pc lv st0 rest (fun sz => gRi E σ' r sz a) mc ms) (kk : gJ p l e R s m args below meth c Q nL E σ' (cells + mc) (slots + ms) (pc + 3) lv (.int r :: rest)) : gJ p l e R s m args below meth c Q nL E σ cells slots pc lv st0 := by
  intro H locs ls hP hS hl
  refine va_calli (hr H locs ls hP hS hl) hS (fun q _ h => gA_mono hS.1 q h) (gA_mono hS.1) (fun r' u t H1 locs1 ht hvm hr' hB hz hk hS1 => ?_)
  subst hr'
  have hB : va_P _ _ _ t.heap := hB
  rw [ht] at hB
  exact kk H1 locs1 ls hB hS1 hl
theorem g_calll {r : Int64} (hr : gRun p l e R s m args below meth c nL E σ cells slots pc lv st0 rest (fun sz => gRl E σ' r sz a) mc ms) (kk : gJ p l e R s m args below meth c Q nL E σ' (cells + mc) (slots + ms) (pc + 3) lv (.long r :: rest)) : gJ p l e R s m args below meth c Q nL E σ cells slots pc lv st0 := by
  intro H locs ls hP hS hl
  refine va_calll (hr H locs ls hP hS hl) hS (fun q _ h => gA_mono hS.1 q h) (gA_mono hS.1) (fun r' u t H1 locs1 ht hvm hr' hB hz hk hS1 => ?_)
  subst hr'
  have hB : va_P _ _ _ t.heap := hB
  rw [ht] at hB
  exact kk H1 locs1 ls hB hS1 hl
theorem g_callv (hr : gRun p l e R s m args below meth c nL E σ cells slots pc lv st0 rest (fun sz => gRv E σ' sz a) mc ms) (kk : gJ p l e R s m args below meth c Q nL E σ' (cells + mc) (slots + ms) (pc + 3) lv rest) : gJ p l e R s m args below meth c Q nL E σ cells slots pc lv st0 := by
  intro H locs ls hP hS hl
  refine va_callv (hr H locs ls hP hS hl) hS (fun q _ h => gA_mono hS.1 q h) (gA_mono hS.1) (fun u t H1 locs1 ht hvm hr' hB hz hk hS1 => ?_)
  have hB : va_P _ _ _ t.heap := hB
  rw [ht] at hB
  exact kk H1 locs1 ls hB hS1 hl
end GM
end
section
section GT
variable {p : Program} {l : Launch} {e : Env} {R : Room} {s : State} {m : MethodId} {args : Array Value} {below : List Frame} {meth : Method} {c : Code} {Q : State → Prop}
variable {cc : ByteArray} {nL : Nat} {Ts : List Cond} {own : String} {E : gT} {σ σ' : gS} {cells slots pc : Nat} {lv lv' : List (Nat × Value)} {rest st0 : List Value}
/-- which exception: 1, 2, 3; 0 is none -/
def gEx (n : Nat) : String := if n = 1 then gIA else if n = 2 then gIS else gIO
abbrev gXi (E : gT) (σ : gS) (th : Nat) (r : Int32) (sz : Nat) : Array Value → State → Outcome → State → Prop := va_Qi (fun (r' : Int32) (_ : Unit) => th = 0 ∧ r' = r) (fun _ => gBt E σ) (gA E sz)
abbrev gXv (E : gT) (σ : gS) (th : Nat) (sz : Nat) : Array Value → State → Outcome → State → Prop := va_Qv (fun (_ : Unit) => th = 0) (fun _ => gBt E σ) (gA E sz)
abbrev gXx (E : gT) (σ : gS) (th : Nat) (sz : Nat) : String → State → State → Prop := vx_X (fun (_ : Unit) => th ≠ 0) (fun En _ t => En = gEx th ∧ gBt E σ t) (gA E sz)
/-- a method that returns r, or throws number th (0: it returns): the numbers behind it are σ' -/
def gYi (l : Launch) (y : MethodName) (ws : List Cond) (rm : Room) (mc ms : Nat) (E : gT) (σ : gS) (av : List Value) (th : Nat) (r : Int32) (σ' : gS) : Prop := ∀ sz, vx_Met l y ws rm (gPre E σ sz av) (gXi E σ' th r sz) (gXx E σ' th sz) mc ms (gA E sz)
def gYv (l : Launch) (y : MethodName) (ws : List Cond) (rm : Room) (mc ms : Nat) (E : gT) (σ : gS) (av : List Value) (th : Nat) (σ' : gS) : Prop := ∀ sz, vx_Met l y ws rm (gPre E σ sz av) (gXv E σ' th sz) (gXx E σ' th sz) mc ms (gA E sz)
theorem g_vmet {y : MethodName} {ws ws' : List Cond} {rm : Room} {mc ms : Nat} {av : List Value} {ret : Option FieldType} {Qc : Nat → Array Value → State → Outcome → State → Prop} {XC : Nat → String → State → State → Prop} (hy : plainName y.cls = true) (hw : ws = Cond.code y cc nL ret :: ws') (hlv : lv_args 0 av = lv) (hsz : (lg_sl av).length ≤ nL)
    (body : ∀ (p : Program) (e : Env) (s : State) (m : MethodId) (below : List Frame) (meth : Method) (c : Code), CallFix p m c cc nL s av.toArray ws y.cls → meth.sig.returnType = ret → meth.locks = false → (∀ x ∈ c.exceptionTable.toList, False) → gC E s →
      gJ p l e rm s m av.toArray below meth c (vx_MQ below (Qc s.heap.size) (XC s.heap.size) av.toArray s mc ms (gA E s.heap.size)) nL E σ 0 0 0 lv []) : ∀ sz, vx_Met l y ws rm (gPre E σ sz av) (Qc sz) (XC sz) mc ms (gA E sz) := by
  intro sz
  refine vx_ofW (cc := cc) (maxL := nL) (ret := ret) hy hw ?_
  intro p e s m args below meth c s₁ B hml hout hv
  obtain ⟨rfl, rfl, hC, hP⟩ := hv
  exact g_ent (k := fun _ => True) (ls := #[]) hlv hsz (body p e s m below meth c ⟨B.exec, B.bytes, hml, findClass_of_methodNamed B.named, atoms_spec (ws := ws) B.pre⟩ B.returns B.notSynchronized hout hC) hP
/-- ends of such a method -/
theorem g_xiret (S : CallFix p m c cc nL s args Ts own) (hr : meth.sig.returnType = some .int) (hlocks : meth.locks = false) {XC : String → State → State → Prop} {th : Nat} {r r' : Int32} {mc ms : Nat} (d : decode cc pc = .ok (.ireturn, 1)) (h0 : th = 0) (h1 : r = r') (h2 : σ = σ') (h3 : cells ≤ mc) (h4 : slots ≤ ms) :
    gJ p l e R s m args below meth c (vx_MQ below (gXi E σ' th r' s.heap.size) XC args s mc ms (gA E s.heap.size)) nL E σ cells slots pc lv [.int r] := by
  subst h1; subst h2
  exact fun H locs ls hP hS hl => vx_ret (W.widen h3 h4 (W.iret S.1 S.2.1 hr (fun t ht _ => ⟨⟨r, (), rfl, ⟨h0, rfl⟩, by show va_P _ _ _ t.heap; rw [ht]; exact hP⟩, hS.F ht⟩) hS.2.2 d))
theorem g_xzret (S : CallFix p m c cc nL s args Ts own) (hr : meth.sig.returnType = some .boolean) (hlocks : meth.locks = false) {XC : String → State → State → Prop} {th : Nat} {r r' : Int32} {mc ms : Nat} (d : decode cc pc = .ok (.ireturn, 1)) (hn : narrow .boolean (.int r) = .int r) (h0 : th = 0) (h1 : r = r') (h2 : σ = σ') (h3 : cells ≤ mc) (h4 : slots ≤ ms) :
    gJ p l e R s m args below meth c (vx_MQ below (gXi E σ' th r' s.heap.size) XC args s mc ms (gA E s.heap.size)) nL E σ cells slots pc lv [.int r] := by
  subst h1; subst h2
  exact fun H locs ls hP hS hl => vx_ret (W.widen h3 h4 (W.zret S.1 S.2.1 hr hn (fun t ht _ => ⟨⟨r, (), rfl, ⟨h0, rfl⟩, by show va_P _ _ _ t.heap; rw [ht]; exact hP⟩, hS.F ht⟩) hS.2.2 d))
theorem g_xvret (S : CallFix p m c cc nL s args Ts own) (hr : meth.sig.returnType = none) (hlocks : meth.locks = false) {XC : String → State → State → Prop} {th : Nat} {mc ms : Nat} (d : decode cc pc = .ok (.return_, 1)) (h0 : th = 0) (h2 : σ = σ') (h3 : cells ≤ mc) (h4 : slots ≤ ms) :
    gJ p l e R s m args below meth c (vx_MQ below (gXv E σ' th s.heap.size) XC args s mc ms (gA E s.heap.size)) nL E σ cells slots pc lv [] := by
  subst h2
  exact fun H locs ls hP hS hl => vx_ret (W.widen h3 h4 (W.vret S.1 S.2.1 hr (fun t ht _ => ⟨⟨(), rfl, h0, by show va_P _ _ _ t.heap; rw [ht]; exact hP⟩, hS.F ht⟩) hS.2.2 d))
/-- throw new X(text) -/
theorem g_throw (S : CallFix p m c cc nL s args Ts own) (hC : gC E s) (hfl : l.stackTraces = false) (hlocks : meth.locks = false) (hout : ∀ x ∈ c.exceptionTable.toList, False) {cls text : String} {names : List String} {ik is ic : Nat} (th : Nat) {th' mc ms : Nat} {Qc : Array Value → State → Outcome → State → Prop} (hth : th ≠ 0) (hcls0 : cls = gEx th)
    (hcls : Bundle.fit cls = true) (hnames : ∀ n ∈ names, Bundle.fit n = true) (hk : Cond.classLink own ik cls ∈ Ts) (hini : Cond.initialized cls ∈ Ts) (hstr : ∃ sa, vk_R own is text sa s) (hat : ∀ w ∈ (vx_atS own ic cls names).filter goodWord, w ∈ Ts) (hat2 : ∀ w ∈ (vx_atS own ic cls names).filter (fun w => !goodWord w), w ∈ [Cond.declares (Bundle.initS "java/lang/RuntimeException"), Cond.declares (Bundle.initS "java/lang/Exception"), Cond.declares (Bundle.initS Bundle.tN), Cond.castable gIA gIA, Cond.castable gIS gIS, Cond.castable gIO gIO])
    (hgood : ∀ w ∈ Cond.classLink own ik cls :: Cond.initialized cls :: vx_atS own ic cls names, vx_ot w = true)
    (d0 : decode cc pc = .ok (.new ik, 3)) (d3 : decode cc (pc + 3) = .ok (.dup, 1)) (d4 : decode cc (pc + 4) = .ok (.ldc is, 2)) (d6 : decode cc (pc + 6) = .ok (.invokespecial ic, 3)) (d9 : decode cc (pc + 9) = .ok (.athrow, 1))
    (hRf : names.length + 3 < R.frames) (hRl : (rest.map fun v => v.category).sum + (13 * (names.length + 1) + 43) ≤ R.locals) (hRc : cells + 1 ≤ R.cells) (hRs : slots + 6 ≤ R.slots) (h3 : cells + 1 ≤ mc) (h4 : slots + 6 ≤ ms) (h0 : th' = th) (h2 : σ = σ') :
    gJ p l e R s m args below meth c (vx_MQ below Qc (gXx E σ' th' s.heap.size) args s mc ms (gA E s.heap.size)) nL E σ cells slots pc lv rest := by
  subst h0; subst h2
  intro H locs ls hP hS hl
  obtain ⟨sa, hsa⟩ := hstr
  have hat := vx_hat (fun w h => S.2.2.2.2 w (hat w h)) hat2 (vx_c (va_Nw.use rfl hC.2.2.1.1.2.2.1) (vx_c (va_Nw.use rfl hC.2.2.1.1.2.2.2.1) (vx_c (va_Nw.use rfl hC.2.2.1.1.2.2.2.2) (vx_c (va_Nw.use rfl hC.2.2.1.2.1.1) (vx_c (va_Nw.use rfl hC.2.2.1.2.1.2.1) (vx_c (va_Nw.use rfl hC.2.2.1.2.1.2.2) vx_n))))))
  refine vx_throwS S.1 S.2.1 hfl S.2.2.2.1 hcls hnames (S.2.2.2.2 _ hk) (S.2.2.2.2 _ hini) hsa hat hgood hC.2.2.2.1.1 hC.2.2.2.1.2 hS (hl.1.trans S.2.2.1.symm) d0 d3 d4 d6 d9 (fun x hx => (hout x hx).elim) hRf hRl hRc hRs hlocks (fun t _ hz hk9 => ⟨(), hth, ⟨hcls0, ?_⟩, ?_⟩) hS.2.2 h3 h4
  · exact hP.kept (fun k q hk => hk9 _ (vx_lt hP hk))
  · exact ⟨Nat.le_trans hS.1 hz, fun q h1 h2 => by rw [hk9 q (Nat.lt_of_lt_of_le h1 hS.1)]; exact hS.2.1 q h1 h2⟩
/-- a call under way that may throw -/
def gXun (p : Program) (l : Launch) (e : Env) (R : Room) (s : State) (m : MethodId) (args : Array Value) (below : List Frame) (meth : Method) (c : Code) (nL : Nat) (E : gT) (σ : gS) (cells slots pc : Nat) (lv : List (Nat × Value)) (st0 rest : List Value) (Qa : Nat → State → Outcome → State → Prop) (XC : Nat → String → State → State → Prop) (mc ms : Nat) : Prop :=
  ∀ (H : Heap) (locs : List Loc) (ls : Array Slot), va_P E.1 vwCl (gl E σ) H → va_S (gA E s.heap.size) s.heap H locs → lv_has ls nL lv → vx_Run p l e R s m args below meth c H locs cells slots mc ms (F0 m pc ls st0) rest (Qa H.size) (XC H.size) (gA E H.size)
variable {y : MethodName} {bytes : ByteArray} {maxL n index mc ms : Nat} {ret : Option FieldType} {ws : List Cond} {rm : Room} {As : List Value} {Qc : Nat → Array Value → State → Outcome → State → Prop} {XC : Nat → String → State → State → Prop}
theorem g_xunV (S : CallFix p m c cc nL s args Ts own) (hC : gC E s) {k ci : Nat} {q : vw_C} (hk : k < 65) (hkd : gK k = ci) (hci : ci < 8) (hcl : vwCl[ci]? = some q) (hM : ∀ sz, vx_Met l y ws rm (gPre E σ sz (.ref (E.2.2 k) :: As)) (Qc sz) (XC sz) mc ms (gA E sz)) (cw : CallW R s args own q.1 index y bytes maxL ret ws rm mc ms n) (hn : As.length = n) (hst : st0 = As.reverse ++ .ref (E.2.2 k) :: rest) (hcat : (rest.map fun v => v.category).sum ≤ 8) (d : decode cc pc = .ok (.invokevirtual index, 3)) (hf : cells + mc ≤ R.cells ∧ slots + ms ≤ R.slots) :
    gXun p l e R s m args below meth c nL E σ cells slots pc lv st0 rest (fun sz => Qc sz (Value.ref (E.2.2 k) :: As).toArray) XC mc ms :=
  fun H locs ls hP hS hl => vx_runV S (hM H.size) cw ⟨gPre_blind, g_recv hC hk hkd hci hcl hP, fun U hU hW => ⟨rfl, by rw [hU], hC.go hS hU hW, by rw [hU]; exact hP⟩⟩ rfl hn hl.1 hst (lv_room hcat) d hf
theorem g_xunS (S : CallFix p m c cc nL s args Ts own) (hC : gC E s) (hM : ∀ sz, vx_Met l y ws rm (gPre E σ sz As) (Qc sz) (XC sz) mc ms (gA E sz)) (cw : CallB R s args own index y bytes maxL ret ws rm mc ms n ∧ (Cond.static y).before args s = true) (hn : As.length = n) (hst : st0 = As.reverse ++ rest) (hcat : (rest.map fun v => v.category).sum ≤ 8) (d : decode cc pc = .ok (.invokestatic index, 3)) (hf : cells + mc ≤ R.cells ∧ slots + ms ≤ R.slots) :
    gXun p l e R s m args below meth c nL E σ cells slots pc lv st0 rest (fun sz => Qc sz As.toArray) XC mc ms :=
  fun H locs ls hP hS hl => vx_runS S (hM H.size) cw ⟨gPre_blind, fun U hU hW => ⟨rfl, by rw [hU], hC.go hS hU hW, by rw [hU]; exact hP⟩⟩ rfl hn hl.1 hst (lv_room hcat) d hf
variable {a : Array Value} {th : Nat}
/-- thrown here: the frame, with an exception of number th over it -/
def gV (p : Program) (l : Launch) (e : Env) (R : Room) (s : State) (m : MethodId) (args : Array Value) (below : List Frame) (meth : Method) (c : Code) (Q : State → Prop) (nL : Nat) (E : gT) (th : Nat) (σ : gS) (cells slots pc : Nat) (lv : List (Nat × Value)) (rest : List Value) : Prop :=
  ∀ (H : Heap) (locs : List Loc) (ls : Array Slot) (q : Addr) (ce : Cell), va_P E.1 vwCl (gl E σ) H → va_S (gA E s.heap.size) s.heap H locs → lv_has ls nL lv → H[q]? = some ce → ce.vm = .none → s.vm.findClass (gEx th) = some ce.cls → vx_W p l e R s m args below meth c H locs cells slots Q (F0 m pc ls rest) q
theorem g_callxi {r : Int32} (hr : gXun p l e R s m args below meth c nL E σ cells slots pc lv st0 rest (fun sz => gXi E σ' th r sz a) (fun sz => gXx E σ' th sz) mc ms) (kx : th ≠ 0 → gV p l e R s m args below meth c Q nL E th σ' (cells + mc) (slots + ms) pc lv rest) (kk : th = 0 → gJ p l e R s m args below meth c Q nL E σ' (cells + mc) (slots + ms) (pc + 3) lv (.int r :: rest)) : gJ p l e R s m args below meth c Q nL E σ cells slots pc lv st0 := by
  intro H locs ls hP hS hl
  refine vx_calli (hr H locs ls hP hS hl) hS (fun q _ h => gA_mono hS.1 q h) (gA_mono hS.1) (fun q _ h => gA_mono hS.1 q h) (fun En ce q9 u t H1 locs1 ht hvm hp hB hz hk hS1 hce hv hcl => ?_) (fun r' u t H1 locs1 ht hvm hr' hB hz hk hS1 => ?_)
  · obtain ⟨rfl, hB⟩ := hB
    have hB : va_P _ _ _ t.heap := hB
    rw [ht] at hB
    exact kx hp H1 locs1 ls q9 ce hB hS1 hl hce hv hcl
  · obtain ⟨h0, rfl⟩ := hr'
    have hB : va_P _ _ _ t.heap := hB
    rw [ht] at hB
    exact kk h0 H1 locs1 ls hB hS1 hl
theorem g_callxv (hr : gXun p l e R s m args below meth c nL E σ cells slots pc lv st0 rest (fun sz => gXv E σ' th sz a) (fun sz => gXx E σ' th sz) mc ms) (kx : th ≠ 0 → gV p l e R s m args below meth c Q nL E th σ' (cells + mc) (slots + ms) pc lv rest) (kk : th = 0 → gJ p l e R s m args below meth c Q nL E σ' (cells + mc) (slots + ms) (pc + 3) lv rest) : gJ p l e R s m args below meth c Q nL E σ cells slots pc lv st0 := by
  intro H locs ls hP hS hl
  refine vx_callv (hr H locs ls hP hS hl) hS (fun q _ h => gA_mono hS.1 q h) (gA_mono hS.1) (fun q _ h => gA_mono hS.1 q h) (fun En ce q9 u t H1 locs1 ht hvm hp hB hz hk hS1 hce hv hcl => ?_) (fun u t H1 locs1 ht hvm hr' hB hz hk hS1 => ?_)
  · obtain ⟨rfl, hB⟩ := hB
    have hB : va_P _ _ _ t.heap := hB
    rw [ht] at hB
    exact kx hp H1 locs1 ls q9 ce hB hS1 hl hce hv hcl
  · have hB : va_P _ _ _ t.heap := hB
    rw [ht] at hB
    exact kk hr' H1 locs1 ls hB hS1 hl
/-- it goes on to the caller -/
theorem g_out (hlocks : meth.locks = false) (hout : ∀ x ∈ c.exceptionTable.toList, False) {Qc : Array Value → State → Outcome → State → Prop} {th' : Nat} (hth : th ≠ 0) (h0 : th' = th) (h2 : σ = σ') (h3 : cells ≤ mc) (h4 : slots ≤ ms) :
    gV p l e R s m args below meth c (vx_MQ below Qc (gXx E σ' th' s.heap.size) args s mc ms (gA E s.heap.size)) nL E th σ cells slots pc lv rest := by
  subst h0; subst h2
  intro H locs ls q ce hP hS hl hce hv hcl
  exact vx_out (fun x hx => (hout x hx).elim) hlocks hce hv hcl (fun t ht _ => ⟨(), hth, ⟨rfl, by show va_P _ _ _ t.heap; rw [ht]; exact hP⟩, hS.F ht⟩) hS.2.2 h3 h4
/-- caught by the handler at i of the table -/
theorem g_catch (S : CallFix p m c cc nL s args Ts own) {name : String} (pre : List ExceptionTableEntry) (x : ExceptionTableEntry) (suf : List ExceptionTableEntry) (hsplit : c.exceptionTable.toList = pre ++ x :: suf)
    (hpass : ∀ z ∈ pre, covers z pc = false ∨ (z.catchType ≠ 0 ∧ ∃ nm : String, (Cond.classLink own z.catchType nm).before args s = true ∧ va_Nc (gEx th) nm s)) (hx : covers x pc = true) (h0 : x.catchType ≠ 0) (hlink : Cond.classLink own x.catchType name ∈ Ts) (hcast : va_Nw (.castable (gEx th) name) s)
    (kk : ∀ q : Nat, gJ p l e R s m args below meth c Q nL E σ cells slots x.handlerPc lv [.ref q]) : gV p l e R s m args below meth c Q nL E th σ cells slots pc lv rest :=
  fun H locs ls q ce hP hS hl hce hv hcl => vx_catch S.2.2.2.1 pre x suf hsplit hpass hx h0 (S.2.2.2.2 _ hlink) (va_Nw.use rfl hcast) hce hv hcl (kk q H locs ls hP hS hl)
end GT
end
section
section GO
variable {p : Program} {l : Launch} {e : Env} {R : Room} {s : State} {m : MethodId} {args : Array Value} {below : List Frame} {meth : Method} {c : Code} {Q : State → Prop}
variable {cc : ByteArray} {nL : Nat} {Ts : List Cond} {own : String} {E : gT} {σ σ' : gS} {cells slots pc : Nat} {lv lv' : List (Nat × Value)} {rest st0 : List Value}
/-- the town's base place, or the trial's -/
def gTw (t : Nat) : Prop := t = 1 ∨ t = 29
theorem gTw.lt {t : Nat} (h : gTw t) {j : Nat} (hj : j < 28) : t + j < 65 := by rcases h with rfl | rfl <;> omega
theorem gTw.lt2 {t : Nat} (h : gTw t) {a i : Nat} (hj : a + i < 28) : t + a + i < 65 := by rcases h with rfl | rfl <;> omega
theorem gTw.town {t : Nat} (h : gTw t) : gK t = 5 := by rcases h with rfl | rfl <;> rfl
theorem gTw.r1 {t : Nat} (h : gTw t) : gK (t + 1) = 10 := by rcases h with rfl | rfl <;> rfl
theorem gTw.r2 {t : Nat} (h : gTw t) : gK (t + 2) = 11 := by rcases h with rfl | rfl <;> rfl
theorem gTw.r3 {t : Nat} (h : gTw t) : gK (t + 3) = 12 := by rcases h with rfl | rfl <;> rfl
theorem gTw.r4 {t : Nat} (h : gTw t) : gK (t + 4) = 13 := by rcases h with rfl | rfl <;> rfl
theorem gTw.store {t : Nat} (h : gTw t) : gK (t + 5) = 4 := by rcases h with rfl | rfl <;> rfl
theorem gTw.bed {t : Nat} (h : gTw t) {i : Nat} (hi : i < 4) : gK (t + 6 + i) = 0 := by
  rcases h with rfl | rfl <;> rcases (show i = 0 ∨ i = 1 ∨ i = 2 ∨ i = 3 by omega) with rfl | rfl | rfl | rfl <;> rfl
theorem gTw.drum {t : Nat} (h : gTw t) {i : Nat} (hi : i < 4) : gK (t + 10 + i) = 2 := by
  rcases h with rfl | rfl <;> rcases (show i = 0 ∨ i = 1 ∨ i = 2 ∨ i = 3 by omega) with rfl | rfl | rfl | rfl <;> rfl
theorem gTw.smug {t : Nat} (h : gTw t) {i : Nat} (hi : i < 4) : gK (t + 14 + i) = 3 := by
  rcases h with rfl | rfl <;> rcases (show i = 0 ∨ i = 1 ∨ i = 2 ∨ i = 3 by omega) with rfl | rfl | rfl | rfl <;> rfl
theorem gTw.card {t : Nat} (h : gTw t) {i : Nat} (hi : i < 10) : gK (t + 18 + i) = 1 := by
  rcases h with rfl | rfl <;> rcases (show i = 0 ∨ i = 1 ∨ i = 2 ∨ i = 3 ∨ i = 4 ∨ i = 5 ∨ i = 6 ∨ i = 7 ∨ i = 8 ∨ i = 9 by omega) with rfl | rfl | rfl | rfl | rfl | rfl | rfl | rfl | rfl | rfl <;> rfl
theorem ga10 (S : CallFix p m c cc nL s args Ts own) (hC : gC E s) {k : Nat} (hk : k < 65) (hkd : gK k = 10) (j : Nat) {i : Int32} (hi : i = nI j) (hj : j < 4) (q : Nat) (hq : k + 5 + j = q) (d : decode cc pc = .ok (.aaload, 1)) (kk : gJ p l e R s m args below meth c Q nL E σ cells slots (pc + 1) lv (.ref (E.2.2 q) :: rest)) : gJ p l e R s m args below meth c Q nL E σ cells slots pc lv (.int i :: .ref (E.2.2 k) :: rest) :=
  g_aald S hC hk 10 4 5 2 2 (by unfold gw; rw [hkd]; try rfl) rfl (by omega) j hi hj q hq d kk
theorem ga11 (S : CallFix p m c cc nL s args Ts own) (hC : gC E s) {k : Nat} (hk : k < 65) (hkd : gK k = 11) (j : Nat) {i : Int32} (hi : i = nI j) (hj : j < 4) (q : Nat) (hq : k + 8 + j = q) (d : decode cc pc = .ok (.aaload, 1)) (kk : gJ p l e R s m args below meth c Q nL E σ cells slots (pc + 1) lv (.ref (E.2.2 q) :: rest)) : gJ p l e R s m args below meth c Q nL E σ cells slots pc lv (.int i :: .ref (E.2.2 k) :: rest) :=
  g_aald S hC hk 11 4 8 3 3 (by unfold gw; rw [hkd]; try rfl) rfl (by omega) j hi hj q hq d kk
theorem ga12 (S : CallFix p m c cc nL s args Ts own) (hC : gC E s) {k : Nat} (hk : k < 65) (hkd : gK k = 12) (j : Nat) {i : Int32} (hi : i = nI j) (hj : j < 4) (q : Nat) (hq : k + 11 + j = q) (d : decode cc pc = .ok (.aaload, 1)) (kk : gJ p l e R s m args below meth c Q nL E σ cells slots (pc + 1) lv (.ref (E.2.2 q) :: rest)) : gJ p l e R s m args below meth c Q nL E σ cells slots pc lv (.int i :: .ref (E.2.2 k) :: rest) :=
  g_aald S hC hk 12 4 11 4 4 (by unfold gw; rw [hkd]; try rfl) rfl (by omega) j hi hj q hq d kk
theorem ga13 (S : CallFix p m c cc nL s args Ts own) (hC : gC E s) {k : Nat} (hk : k < 65) (hkd : gK k = 13) (j : Nat) {i : Int32} (hi : i = nI j) (hj : j < 10) (q : Nat) (hq : k + 14 + j = q) (d : decode cc pc = .ok (.aaload, 1)) (kk : gJ p l e R s m args below meth c Q nL E σ cells slots (pc + 1) lv (.ref (E.2.2 q) :: rest)) : gJ p l e R s m args below meth c Q nL E σ cells slots pc lv (.int i :: .ref (E.2.2 k) :: rest) :=
  g_aald S hC hk 13 10 14 5 5 (by unfold gw; rw [hkd]; try rfl) rfl (by omega) j hi hj q hq d kk
/-- from one point to the same, otherwise written -/
theorem g_to {st st' : List Value} (k : gJ p l e R s m args below meth c Q nL E σ' cells slots pc lv' st') (h1 : σ = σ') (h2 : lv = lv') (h3 : st = st') : gJ p l e R s m args below meth c Q nL E σ cells slots pc lv st := by
  subst h1; subst h2; subst h3; exact k
/-- a loop that counts up: its world, its locals by the count -/
theorem g_loop (N : Nat) (Fs : Nat → gS) (Fl : Nat → List (Nat × Value)) (st : List Value) (h1 : σ = Fs 0) (h2 : lv = Fl 0)
    (hs : ∀ i, i < N → gJ p l e R s m args below meth c Q nL E (Fs (i + 1)) cells slots pc (Fl (i + 1)) st → gJ p l e R s m args below meth c Q nL E (Fs i) cells slots pc (Fl i) st)
    (hx : gJ p l e R s m args below meth c Q nL E (Fs N) cells slots pc (Fl N) st) : gJ p l e R s m args below meth c Q nL E σ cells slots pc lv st := by
  subst h1; subst h2
  have key : ∀ d i, i + d = N → gJ p l e R s m args below meth c Q nL E (Fs i) cells slots pc (Fl i) st := by
    intro d
    induction d with
    | zero => intro i hi; obtain rfl : i = N := by omega
              exact hx
    | succ d ih => intro i hi; exact hs i (by omega) (ih (i + 1) (by omega))
  exact key N 0 (by omega)
/-- numbers written as literals -/
theorem gI (n : Nat) : (OfNat.ofNat n : Int32) = nI n := rfl
end GO
/-- n steps of a thing, the first step's number 0 -/
def itr {α : Type} (f : Nat → α → α) : Nat → α → α
  | 0, a => a
  | n + 1, a => f n (itr f n a)
end
section
set_option maxRecDepth 20000 in
theorem ggX0_init_X5_init : GoodIn wsX0_init wsX5_init := goodIn_r _ [3, 4, 5, 6] (by decide +kernel) (by decide +kernel)
set_option maxRecDepth 20000 in
theorem gX0_init_X5_init_n1 : GoodIn wsX0_init (wsX5_init) := ggX0_init_X5_init
theorem dX0_init_0 : decode cX0_init 0 = .ok (.aload_n 0, 1) := by decide +kernel
theorem dX0_init_1 : decode cX0_init 1 = .ok (.invokespecial 1, 3) := by decide +kernel
theorem dX0_init_4 : decode cX0_init 4 = .ok (.return_, 1) := by decide +kernel
theorem dX0_lay_0 : decode cX0_lay 0 = .ok (.aload_n 0, 1) := by decide +kernel
theorem dX0_lay_1 : decode cX0_lay 1 = .ok (.iload_n 1, 1) := by decide +kernel
theorem dX0_lay_2 : decode cX0_lay 2 = .ok (.putfield 7, 3) := by decide +kernel
theorem dX0_lay_5 : decode cX0_lay 5 = .ok (.aload_n 0, 1) := by decide +kernel
theorem dX0_lay_6 : decode cX0_lay 6 = .ok (.iload_n 2, 1) := by decide +kernel
theorem dX0_lay_7 : decode cX0_lay 7 = .ok (.putfield 13, 3) := by decide +kernel
theorem dX0_lay_10 : decode cX0_lay 10 = .ok (.return_, 1) := by decide +kernel
theorem dX0_grow_0 : decode cX0_grow 0 = .ok (.aload_n 0, 1) := by decide +kernel
theorem dX0_grow_1 : decode cX0_grow 1 = .ok (.aload_n 0, 1) := by decide +kernel
theorem dX0_grow_2 : decode cX0_grow 2 = .ok (.getfield 16, 3) := by decide +kernel
theorem dX0_grow_5 : decode cX0_grow 5 = .ok (.aload_n 0, 1) := by decide +kernel
theorem dX0_grow_6 : decode cX0_grow 6 = .ok (.getfield 7, 3) := by decide +kernel
theorem dX0_grow_9 : decode cX0_grow 9 = .ok (.iadd, 1) := by decide +kernel
theorem dX0_grow_10 : decode cX0_grow 10 = .ok (.aload_n 0, 1) := by decide +kernel
theorem dX0_grow_11 : decode cX0_grow 11 = .ok (.getfield 13, 3) := by decide +kernel
theorem dX0_grow_14 : decode cX0_grow 14 = .ok (.invokestatic 19, 3) := by decide +kernel
theorem dX0_grow_17 : decode cX0_grow 17 = .ok (.putfield 16, 3) := by decide +kernel
theorem dX0_grow_20 : decode cX0_grow 20 = .ok (.return_, 1) := by decide +kernel
theorem dX0_become_0 : decode cX0_become 0 = .ok (.aload_n 0, 1) := by decide +kernel
theorem dX0_become_1 : decode cX0_become 1 = .ok (.aload_n 1, 1) := by decide +kernel
theorem dX0_become_2 : decode cX0_become 2 = .ok (.getfield 7, 3) := by decide +kernel
theorem dX0_become_5 : decode cX0_become 5 = .ok (.putfield 7, 3) := by decide +kernel
theorem dX0_become_8 : decode cX0_become 8 = .ok (.aload_n 0, 1) := by decide +kernel
theorem dX0_become_9 : decode cX0_become 9 = .ok (.aload_n 1, 1) := by decide +kernel
theorem dX0_become_10 : decode cX0_become 10 = .ok (.getfield 13, 3) := by decide +kernel
theorem dX0_become_13 : decode cX0_become 13 = .ok (.putfield 13, 3) := by decide +kernel
theorem dX0_become_16 : decode cX0_become 16 = .ok (.aload_n 0, 1) := by decide +kernel
theorem dX0_become_17 : decode cX0_become 17 = .ok (.aload_n 1, 1) := by decide +kernel
theorem dX0_become_18 : decode cX0_become 18 = .ok (.getfield 16, 3) := by decide +kernel
theorem dX0_become_21 : decode cX0_become 21 = .ok (.putfield 16, 3) := by decide +kernel
theorem dX0_become_24 : decode cX0_become 24 = .ok (.return_, 1) := by decide +kernel
theorem dX0_size_0 : decode cX0_size 0 = .ok (.iconst 3, 1) := by decide +kernel
theorem dX0_size_1 : decode cX0_size 1 = .ok (.ireturn, 1) := by decide +kernel
theorem dX0_tell_0 : decode cX0_tell 0 = .ok (.iload_n 1, 1) := by decide +kernel
theorem dX0_tell_1 : decode cX0_tell 1 = .ok (.lookupswitch 37 #[(0, 27), (1, 32)], 27) := by decide +kernel
theorem dX0_tell_28 : decode cX0_tell 28 = .ok (.aload_n 0, 1) := by decide +kernel
theorem dX0_tell_29 : decode cX0_tell 29 = .ok (.getfield 7, 3) := by decide +kernel
theorem dX0_tell_32 : decode cX0_tell 32 = .ok (.ireturn, 1) := by decide +kernel
theorem dX0_tell_33 : decode cX0_tell 33 = .ok (.aload_n 0, 1) := by decide +kernel
theorem dX0_tell_34 : decode cX0_tell 34 = .ok (.getfield 13, 3) := by decide +kernel
theorem dX0_tell_37 : decode cX0_tell 37 = .ok (.ireturn, 1) := by decide +kernel
theorem dX0_tell_38 : decode cX0_tell 38 = .ok (.aload_n 0, 1) := by decide +kernel
theorem dX0_tell_39 : decode cX0_tell 39 = .ok (.getfield 16, 3) := by decide +kernel
theorem dX0_tell_42 : decode cX0_tell 42 = .ok (.ireturn, 1) := by decide +kernel
set_option maxRecDepth 20000 in
theorem ggX1_init_X5_init : GoodIn wsX1_init wsX5_init := goodIn_r _ [3, 4, 5, 6] (by decide +kernel) (by decide +kernel)
set_option maxRecDepth 20000 in
theorem gX1_init_X5_init_n3 : GoodIn wsX1_init (wsX5_init) := ggX1_init_X5_init
theorem dX1_init_0 : decode cX1_init 0 = .ok (.aload_n 0, 1) := by decide +kernel
theorem dX1_init_1 : decode cX1_init 1 = .ok (.invokespecial 3, 3) := by decide +kernel
theorem dX1_init_4 : decode cX1_init 4 = .ok (.return_, 1) := by decide +kernel
theorem dX1_issue_0 : decode cX1_issue 0 = .ok (.aload_n 0, 1) := by decide +kernel
theorem dX1_issue_1 : decode cX1_issue 1 = .ok (.iload_n 1, 1) := by decide +kernel
theorem dX1_issue_2 : decode cX1_issue 2 = .ok (.putfield 9, 3) := by decide +kernel
theorem dX1_issue_5 : decode cX1_issue 5 = .ok (.aload_n 0, 1) := by decide +kernel
theorem dX1_issue_6 : decode cX1_issue 6 = .ok (.iload_n 2, 1) := by decide +kernel
theorem dX1_issue_7 : decode cX1_issue 7 = .ok (.putfield 15, 3) := by decide +kernel
theorem dX1_issue_10 : decode cX1_issue 10 = .ok (.aload_n 0, 1) := by decide +kernel
theorem dX1_issue_11 : decode cX1_issue 11 = .ok (.iload_n 1, 1) := by decide +kernel
theorem dX1_issue_12 : decode cX1_issue 12 = .ok (.putfield 18, 3) := by decide +kernel
theorem dX1_issue_15 : decode cX1_issue 15 = .ok (.return_, 1) := by decide +kernel
theorem dX1_renew_0 : decode cX1_renew 0 = .ok (.aload_n 0, 1) := by decide +kernel
theorem dX1_renew_1 : decode cX1_renew 1 = .ok (.aload_n 0, 1) := by decide +kernel
theorem dX1_renew_2 : decode cX1_renew 2 = .ok (.getfield 9, 3) := by decide +kernel
theorem dX1_renew_5 : decode cX1_renew 5 = .ok (.putfield 18, 3) := by decide +kernel
theorem dX1_renew_8 : decode cX1_renew 8 = .ok (.return_, 1) := by decide +kernel
set_option maxRecDepth 20000 in
theorem ggX1_serveDay_X1_serveOne : GoodIn wsX1_serveDay wsX1_serveOne := goodIn_r _ [5, 6, 7, 8, 9, 10, 11, 12, 13, 14, 15, 16, 17, 18, 19, 20, 21, 22, 23, 24, 25, 26, 27, 28, 29, 30, 31, 32, 33, 34, 35, 36, 37, 38, 39, 40, 41, 42, 43] (by decide +kernel) (by decide +kernel)
set_option maxRecDepth 20000 in
theorem gX1_serveDay_X1_serveOne : GoodIn wsX1_serveDay (wsV RX1 21 RX1 yX1_serveOne wsX1_serveOne) := goodIn_app (goodIn_of _ (by decide +kernel)) ggX1_serveDay_X1_serveOne
theorem dX1_serveDay_0 : decode cX1_serveDay 0 = .ok (.iconst 0, 1) := by decide +kernel
theorem dX1_serveDay_1 : decode cX1_serveDay 1 = .ok (.istore_n 2, 1) := by decide +kernel
theorem dX1_serveDay_2 : decode cX1_serveDay 2 = .ok (.iload_n 2, 1) := by decide +kernel
theorem dX1_serveDay_3 : decode cX1_serveDay 3 = .ok (.iconst 2, 1) := by decide +kernel
theorem dX1_serveDay_4 : decode cX1_serveDay 4 = .ok (.if_icmp .ge 17, 3) := by decide +kernel
theorem dX1_serveDay_7 : decode cX1_serveDay 7 = .ok (.aload_n 0, 1) := by decide +kernel
theorem dX1_serveDay_8 : decode cX1_serveDay 8 = .ok (.aload_n 1, 1) := by decide +kernel
theorem dX1_serveDay_9 : decode cX1_serveDay 9 = .ok (.invokevirtual 21, 3) := by decide +kernel
theorem dX1_serveDay_12 : decode cX1_serveDay 12 = .ok (.ifCond .eq 9, 3) := by decide +kernel
theorem dX1_serveDay_15 : decode cX1_serveDay 15 = .ok (.iinc 2 1, 3) := by decide +kernel
theorem dX1_serveDay_18 : decode cX1_serveDay 18 = .ok (.goto (-16), 3) := by decide +kernel
theorem dX1_serveDay_21 : decode cX1_serveDay 21 = .ok (.iload_n 2, 1) := by decide +kernel
theorem dX1_serveDay_22 : decode cX1_serveDay 22 = .ok (.ireturn, 1) := by decide +kernel
set_option maxRecDepth 20000 in
theorem ggX1_serveOne_X4_coffeeOfPortion : GoodIn wsX1_serveOne wsX4_coffeeOfPortion := goodIn_r _ [9, 10, 11, 12, 13, 14, 15, 32, 33, 34, 35, 36, 37, 38] (by decide +kernel) (by decide +kernel)
set_option maxRecDepth 20000 in
theorem gX1_serveOne_X4_coffeeOfPortion : GoodIn wsX1_serveOne (wsV RX1 25 RX4 yX4_coffeeOfPortion wsX4_coffeeOfPortion) := goodIn_app (goodIn_of _ (by decide +kernel)) ggX1_serveOne_X4_coffeeOfPortion
set_option maxRecDepth 20000 in
theorem ggX1_serveOne_X4_canMix : GoodIn wsX1_serveOne wsX4_canMix := goodIn_r _ [19, 20, 32, 33, 34, 35, 36, 37, 38] (by decide +kernel) (by decide +kernel)
set_option maxRecDepth 20000 in
theorem gX1_serveOne_X4_canMix : GoodIn wsX1_serveOne (wsV RX1 31 RX4 yX4_canMix wsX4_canMix) := goodIn_app (goodIn_of _ (by decide +kernel)) ggX1_serveOne_X4_canMix
set_option maxRecDepth 20000 in
theorem ggX1_serveOne_X4_servePortion : GoodIn wsX1_serveOne wsX4_servePortion := goodIn_r _ [24, 10, 25, 11, 20, 26, 32, 33, 34, 35, 36, 37, 38] (by decide +kernel) (by decide +kernel)
set_option maxRecDepth 20000 in
theorem gX1_serveOne_X4_servePortion : GoodIn wsX1_serveOne (wsV RX1 38 RX4 yX4_servePortion wsX4_servePortion) := goodIn_app (goodIn_of _ (by decide +kernel)) ggX1_serveOne_X4_servePortion
theorem dX1_serveOne_0 : decode cX1_serveOne 0 = .ok (.aload_n 1, 1) := by decide +kernel
theorem dX1_serveOne_1 : decode cX1_serveOne 1 = .ok (.invokevirtual 25, 3) := by decide +kernel
theorem dX1_serveOne_4 : decode cX1_serveOne 4 = .ok (.istore_n 2, 1) := by decide +kernel
theorem dX1_serveOne_5 : decode cX1_serveOne 5 = .ok (.aload_n 0, 1) := by decide +kernel
theorem dX1_serveOne_6 : decode cX1_serveOne 6 = .ok (.getfield 18, 3) := by decide +kernel
theorem dX1_serveOne_9 : decode cX1_serveOne 9 = .ok (.ifCond .eq 11, 3) := by decide +kernel
theorem dX1_serveOne_12 : decode cX1_serveOne 12 = .ok (.aload_n 1, 1) := by decide +kernel
theorem dX1_serveOne_13 : decode cX1_serveOne 13 = .ok (.iload_n 2, 1) := by decide +kernel
theorem dX1_serveOne_14 : decode cX1_serveOne 14 = .ok (.invokevirtual 31, 3) := by decide +kernel
theorem dX1_serveOne_17 : decode cX1_serveOne 17 = .ok (.ifCond .ne 5, 3) := by decide +kernel
theorem dX1_serveOne_20 : decode cX1_serveOne 20 = .ok (.iconst 0, 1) := by decide +kernel
theorem dX1_serveOne_21 : decode cX1_serveOne 21 = .ok (.ireturn, 1) := by decide +kernel
theorem dX1_serveOne_22 : decode cX1_serveOne 22 = .ok (.iload_n 2, 1) := by decide +kernel
theorem dX1_serveOne_23 : decode cX1_serveOne 23 = .ok (.aload_n 0, 1) := by decide +kernel
theorem dX1_serveOne_24 : decode cX1_serveOne 24 = .ok (.getfield 15, 3) := by decide +kernel
theorem dX1_serveOne_27 : decode cX1_serveOne 27 = .ok (.if_icmp .ge 15, 3) := by decide +kernel
theorem dX1_serveOne_30 : decode cX1_serveOne 30 = .ok (.aload_n 0, 1) := by decide +kernel
theorem dX1_serveOne_31 : decode cX1_serveOne 31 = .ok (.dup, 1) := by decide +kernel
theorem dX1_serveOne_32 : decode cX1_serveOne 32 = .ok (.getfield 35, 3) := by decide +kernel
theorem dX1_serveOne_35 : decode cX1_serveOne 35 = .ok (.iconst 1, 1) := by decide +kernel
theorem dX1_serveOne_36 : decode cX1_serveOne 36 = .ok (.iadd, 1) := by decide +kernel
theorem dX1_serveOne_37 : decode cX1_serveOne 37 = .ok (.putfield 35, 3) := by decide +kernel
theorem dX1_serveOne_40 : decode cX1_serveOne 40 = .ok (.iconst 0, 1) := by decide +kernel
theorem dX1_serveOne_41 : decode cX1_serveOne 41 = .ok (.ireturn, 1) := by decide +kernel
theorem dX1_serveOne_42 : decode cX1_serveOne 42 = .ok (.aload_n 1, 1) := by decide +kernel
theorem dX1_serveOne_43 : decode cX1_serveOne 43 = .ok (.iload_n 2, 1) := by decide +kernel
theorem dX1_serveOne_44 : decode cX1_serveOne 44 = .ok (.invokevirtual 38, 3) := by decide +kernel
theorem dX1_serveOne_47 : decode cX1_serveOne 47 = .ok (.aload_n 0, 1) := by decide +kernel
theorem dX1_serveOne_48 : decode cX1_serveOne 48 = .ok (.dup, 1) := by decide +kernel
theorem dX1_serveOne_49 : decode cX1_serveOne 49 = .ok (.getfield 18, 3) := by decide +kernel
theorem dX1_serveOne_52 : decode cX1_serveOne 52 = .ok (.iconst 1, 1) := by decide +kernel
theorem dX1_serveOne_53 : decode cX1_serveOne 53 = .ok (.isub, 1) := by decide +kernel
theorem dX1_serveOne_54 : decode cX1_serveOne 54 = .ok (.putfield 18, 3) := by decide +kernel
theorem dX1_serveOne_57 : decode cX1_serveOne 57 = .ok (.aload_n 0, 1) := by decide +kernel
theorem dX1_serveOne_58 : decode cX1_serveOne 58 = .ok (.dup, 1) := by decide +kernel
theorem dX1_serveOne_59 : decode cX1_serveOne 59 = .ok (.getfield 42, 3) := by decide +kernel
theorem dX1_serveOne_62 : decode cX1_serveOne 62 = .ok (.iconst 1, 1) := by decide +kernel
theorem dX1_serveOne_63 : decode cX1_serveOne 63 = .ok (.iadd, 1) := by decide +kernel
theorem dX1_serveOne_64 : decode cX1_serveOne 64 = .ok (.putfield 42, 3) := by decide +kernel
theorem dX1_serveOne_67 : decode cX1_serveOne 67 = .ok (.iconst 1, 1) := by decide +kernel
theorem dX1_serveOne_68 : decode cX1_serveOne 68 = .ok (.ireturn, 1) := by decide +kernel
theorem dX1_become_0 : decode cX1_become 0 = .ok (.aload_n 0, 1) := by decide +kernel
theorem dX1_become_1 : decode cX1_become 1 = .ok (.aload_n 1, 1) := by decide +kernel
theorem dX1_become_2 : decode cX1_become 2 = .ok (.getfield 9, 3) := by decide +kernel
theorem dX1_become_5 : decode cX1_become 5 = .ok (.putfield 9, 3) := by decide +kernel
theorem dX1_become_8 : decode cX1_become 8 = .ok (.aload_n 0, 1) := by decide +kernel
theorem dX1_become_9 : decode cX1_become 9 = .ok (.aload_n 1, 1) := by decide +kernel
theorem dX1_become_10 : decode cX1_become 10 = .ok (.getfield 15, 3) := by decide +kernel
theorem dX1_become_13 : decode cX1_become 13 = .ok (.putfield 15, 3) := by decide +kernel
theorem dX1_become_16 : decode cX1_become 16 = .ok (.aload_n 0, 1) := by decide +kernel
theorem dX1_become_17 : decode cX1_become 17 = .ok (.aload_n 1, 1) := by decide +kernel
theorem dX1_become_18 : decode cX1_become 18 = .ok (.getfield 18, 3) := by decide +kernel
theorem dX1_become_21 : decode cX1_become 21 = .ok (.putfield 18, 3) := by decide +kernel
theorem dX1_become_24 : decode cX1_become 24 = .ok (.aload_n 0, 1) := by decide +kernel
theorem dX1_become_25 : decode cX1_become 25 = .ok (.aload_n 1, 1) := by decide +kernel
theorem dX1_become_26 : decode cX1_become 26 = .ok (.getfield 42, 3) := by decide +kernel
theorem dX1_become_29 : decode cX1_become 29 = .ok (.putfield 42, 3) := by decide +kernel
theorem dX1_become_32 : decode cX1_become 32 = .ok (.aload_n 0, 1) := by decide +kernel
theorem dX1_become_33 : decode cX1_become 33 = .ok (.aload_n 1, 1) := by decide +kernel
theorem dX1_become_34 : decode cX1_become 34 = .ok (.getfield 35, 3) := by decide +kernel
theorem dX1_become_37 : decode cX1_become 37 = .ok (.putfield 35, 3) := by decide +kernel
theorem dX1_become_40 : decode cX1_become 40 = .ok (.return_, 1) := by decide +kernel
theorem dX1_size_0 : decode cX1_size 0 = .ok (.iconst 5, 1) := by decide +kernel
theorem dX1_size_1 : decode cX1_size 1 = .ok (.ireturn, 1) := by decide +kernel
theorem dX1_tell_0 : decode cX1_tell 0 = .ok (.iload_n 1, 1) := by decide +kernel
theorem dX1_tell_1 : decode cX1_tell 1 = .ok (.tableswitch 51 0 3 #[31, 36, 41, 46], 31) := by decide +kernel
theorem dX1_tell_32 : decode cX1_tell 32 = .ok (.aload_n 0, 1) := by decide +kernel
theorem dX1_tell_33 : decode cX1_tell 33 = .ok (.getfield 9, 3) := by decide +kernel
theorem dX1_tell_36 : decode cX1_tell 36 = .ok (.ireturn, 1) := by decide +kernel
theorem dX1_tell_37 : decode cX1_tell 37 = .ok (.aload_n 0, 1) := by decide +kernel
theorem dX1_tell_38 : decode cX1_tell 38 = .ok (.getfield 15, 3) := by decide +kernel
theorem dX1_tell_41 : decode cX1_tell 41 = .ok (.ireturn, 1) := by decide +kernel
theorem dX1_tell_42 : decode cX1_tell 42 = .ok (.aload_n 0, 1) := by decide +kernel
theorem dX1_tell_43 : decode cX1_tell 43 = .ok (.getfield 18, 3) := by decide +kernel
theorem dX1_tell_46 : decode cX1_tell 46 = .ok (.ireturn, 1) := by decide +kernel
theorem dX1_tell_47 : decode cX1_tell 47 = .ok (.aload_n 0, 1) := by decide +kernel
theorem dX1_tell_48 : decode cX1_tell 48 = .ok (.getfield 42, 3) := by decide +kernel
theorem dX1_tell_51 : decode cX1_tell 51 = .ok (.ireturn, 1) := by decide +kernel
theorem dX1_tell_52 : decode cX1_tell 52 = .ok (.aload_n 0, 1) := by decide +kernel
theorem dX1_tell_53 : decode cX1_tell 53 = .ok (.getfield 35, 3) := by decide +kernel
theorem dX1_tell_56 : decode cX1_tell 56 = .ok (.ireturn, 1) := by decide +kernel
set_option maxRecDepth 20000 in
theorem ggX2_init_X5_init : GoodIn wsX2_init wsX5_init := goodIn_r _ [4, 5, 6, 7] (by decide +kernel) (by decide +kernel)
set_option maxRecDepth 20000 in
theorem gX2_init_X5_init_n3 : GoodIn wsX2_init (wsX5_init) := ggX2_init_X5_init
theorem dX2_init_0 : decode cX2_init 0 = .ok (.aload_n 0, 1) := by decide +kernel
theorem dX2_init_1 : decode cX2_init 1 = .ok (.invokespecial 3, 3) := by decide +kernel
theorem dX2_init_4 : decode cX2_init 4 = .ok (.aload_n 0, 1) := by decide +kernel
theorem dX2_init_5 : decode cX2_init 5 = .ok (.iconst (-1), 1) := by decide +kernel
theorem dX2_init_6 : decode cX2_init 6 = .ok (.putfield 9, 3) := by decide +kernel
theorem dX2_init_9 : decode cX2_init 9 = .ok (.return_, 1) := by decide +kernel
theorem dX2_install_0 : decode cX2_install 0 = .ok (.aload_n 0, 1) := by decide +kernel
theorem dX2_install_1 : decode cX2_install 1 = .ok (.iload_n 1, 1) := by decide +kernel
theorem dX2_install_2 : decode cX2_install 2 = .ok (.putfield 15, 3) := by decide +kernel
theorem dX2_install_5 : decode cX2_install 5 = .ok (.aload_n 0, 1) := by decide +kernel
theorem dX2_install_6 : decode cX2_install 6 = .ok (.iload_n 2, 1) := by decide +kernel
theorem dX2_install_7 : decode cX2_install 7 = .ok (.putfield 18, 3) := by decide +kernel
theorem dX2_install_10 : decode cX2_install 10 = .ok (.return_, 1) := by decide +kernel
theorem dX2_fill_0 : decode cX2_fill 0 = .ok (.aload_n 0, 1) := by decide +kernel
theorem dX2_fill_1 : decode cX2_fill 1 = .ok (.iload_n 1, 1) := by decide +kernel
theorem dX2_fill_2 : decode cX2_fill 2 = .ok (.putfield 9, 3) := by decide +kernel
theorem dX2_fill_5 : decode cX2_fill 5 = .ok (.aload_n 0, 1) := by decide +kernel
theorem dX2_fill_6 : decode cX2_fill 6 = .ok (.iload_n 2, 1) := by decide +kernel
theorem dX2_fill_7 : decode cX2_fill 7 = .ok (.putfield 21, 3) := by decide +kernel
theorem dX2_fill_10 : decode cX2_fill 10 = .ok (.aload_n 0, 1) := by decide +kernel
theorem dX2_fill_11 : decode cX2_fill 11 = .ok (.iconst 0, 1) := by decide +kernel
theorem dX2_fill_12 : decode cX2_fill 12 = .ok (.putfield 24, 3) := by decide +kernel
theorem dX2_fill_15 : decode cX2_fill 15 = .ok (.return_, 1) := by decide +kernel
set_option maxRecDepth 20000 in
theorem ggX2_warm_X2_levelAfter : GoodIn wsX2_warm wsX2_levelAfter := goodIn_r _ [6, 7, 8, 9, 10, 11, 12, 13, 14, 15, 5, 16, 17, 18, 19, 20, 21] (by decide +kernel) (by decide +kernel)
set_option maxRecDepth 20000 in
theorem gX2_warm_X2_levelAfter : GoodIn wsX2_warm (wsV RX2 27 RX2 yX2_levelAfter wsX2_levelAfter) := goodIn_app (goodIn_of _ (by decide +kernel)) ggX2_warm_X2_levelAfter
theorem dX2_warm_0 : decode cX2_warm 0 = .ok (.aload_n 0, 1) := by decide +kernel
theorem dX2_warm_1 : decode cX2_warm 1 = .ok (.aload_n 0, 1) := by decide +kernel
theorem dX2_warm_2 : decode cX2_warm 2 = .ok (.aload_n 0, 1) := by decide +kernel
theorem dX2_warm_3 : decode cX2_warm 3 = .ok (.getfield 24, 3) := by decide +kernel
theorem dX2_warm_6 : decode cX2_warm 6 = .ok (.invokevirtual 27, 3) := by decide +kernel
theorem dX2_warm_9 : decode cX2_warm 9 = .ok (.putfield 24, 3) := by decide +kernel
theorem dX2_warm_12 : decode cX2_warm 12 = .ok (.return_, 1) := by decide +kernel
set_option maxRecDepth 20000 in
theorem ggX2_levelAfter_X2_burnt : GoodIn wsX2_levelAfter wsX2_burnt := goodIn_r _ [11, 1, 12, 13, 14, 15, 16] (by decide +kernel) (by decide +kernel)
set_option maxRecDepth 20000 in
theorem gX2_levelAfter_X2_burnt : GoodIn wsX2_levelAfter (wsV RX2 31 RX2 yX2_burnt wsX2_burnt) := goodIn_app (goodIn_of _ (by decide +kernel)) ggX2_levelAfter_X2_burnt
theorem dX2_levelAfter_0 : decode cX2_levelAfter 0 = .ok (.aload_n 0, 1) := by decide +kernel
theorem dX2_levelAfter_1 : decode cX2_levelAfter 1 = .ok (.getfield 9, 3) := by decide +kernel
theorem dX2_levelAfter_4 : decode cX2_levelAfter 4 = .ok (.iconst (-1), 1) := by decide +kernel
theorem dX2_levelAfter_5 : decode cX2_levelAfter 5 = .ok (.if_icmp .ne 5, 3) := by decide +kernel
theorem dX2_levelAfter_8 : decode cX2_levelAfter 8 = .ok (.iconst 0, 1) := by decide +kernel
theorem dX2_levelAfter_9 : decode cX2_levelAfter 9 = .ok (.ireturn, 1) := by decide +kernel
theorem dX2_levelAfter_10 : decode cX2_levelAfter 10 = .ok (.iload_n 1, 1) := by decide +kernel
theorem dX2_levelAfter_11 : decode cX2_levelAfter 11 = .ok (.aload_n 0, 1) := by decide +kernel
theorem dX2_levelAfter_12 : decode cX2_levelAfter 12 = .ok (.getfield 18, 3) := by decide +kernel
theorem dX2_levelAfter_15 : decode cX2_levelAfter 15 = .ok (.iadd, 1) := by decide +kernel
theorem dX2_levelAfter_16 : decode cX2_levelAfter 16 = .ok (.aload_n 0, 1) := by decide +kernel
theorem dX2_levelAfter_17 : decode cX2_levelAfter 17 = .ok (.invokevirtual 31, 3) := by decide +kernel
theorem dX2_levelAfter_20 : decode cX2_levelAfter 20 = .ok (.invokestatic 35, 3) := by decide +kernel
theorem dX2_levelAfter_23 : decode cX2_levelAfter 23 = .ok (.ireturn, 1) := by decide +kernel
set_option maxRecDepth 20000 in
theorem ggX2_partsAt_X2_done : GoodIn wsX2_partsAt wsX2_done := goodIn_r _ [7, 1, 12, 13, 14, 15, 16] (by decide +kernel) (by decide +kernel)
set_option maxRecDepth 20000 in
theorem gX2_partsAt_X2_done : GoodIn wsX2_partsAt (wsV RX2 41 RX2 yX2_done wsX2_done) := goodIn_app (goodIn_of _ (by decide +kernel)) ggX2_partsAt_X2_done
set_option maxRecDepth 20000 in
theorem ggX2_partsAt_X2_burnt : GoodIn wsX2_partsAt wsX2_burnt := goodIn_r _ [11, 1, 12, 13, 14, 15, 16] (by decide +kernel) (by decide +kernel)
set_option maxRecDepth 20000 in
theorem gX2_partsAt_X2_burnt : GoodIn wsX2_partsAt (wsV RX2 31 RX2 yX2_burnt wsX2_burnt) := goodIn_app (goodIn_of _ (by decide +kernel)) ggX2_partsAt_X2_burnt
theorem dX2_partsAt_0 : decode cX2_partsAt 0 = .ok (.aload_n 0, 1) := by decide +kernel
theorem dX2_partsAt_1 : decode cX2_partsAt 1 = .ok (.getfield 9, 3) := by decide +kernel
theorem dX2_partsAt_4 : decode cX2_partsAt 4 = .ok (.iconst (-1), 1) := by decide +kernel
theorem dX2_partsAt_5 : decode cX2_partsAt 5 = .ok (.if_icmp .eq 19, 3) := by decide +kernel
theorem dX2_partsAt_8 : decode cX2_partsAt 8 = .ok (.iload_n 1, 1) := by decide +kernel
theorem dX2_partsAt_9 : decode cX2_partsAt 9 = .ok (.aload_n 0, 1) := by decide +kernel
theorem dX2_partsAt_10 : decode cX2_partsAt 10 = .ok (.invokevirtual 41, 3) := by decide +kernel
theorem dX2_partsAt_13 : decode cX2_partsAt 13 = .ok (.if_icmp .lt 11, 3) := by decide +kernel
theorem dX2_partsAt_16 : decode cX2_partsAt 16 = .ok (.iload_n 1, 1) := by decide +kernel
theorem dX2_partsAt_17 : decode cX2_partsAt 17 = .ok (.aload_n 0, 1) := by decide +kernel
theorem dX2_partsAt_18 : decode cX2_partsAt 18 = .ok (.invokevirtual 31, 3) := by decide +kernel
theorem dX2_partsAt_21 : decode cX2_partsAt 21 = .ok (.if_icmp .lt 5, 3) := by decide +kernel
theorem dX2_partsAt_24 : decode cX2_partsAt 24 = .ok (.iconst 0, 1) := by decide +kernel
theorem dX2_partsAt_25 : decode cX2_partsAt 25 = .ok (.ireturn, 1) := by decide +kernel
theorem dX2_partsAt_26 : decode cX2_partsAt 26 = .ok (.aload_n 0, 1) := by decide +kernel
theorem dX2_partsAt_27 : decode cX2_partsAt 27 = .ok (.getfield 9, 3) := by decide +kernel
theorem dX2_partsAt_30 : decode cX2_partsAt 30 = .ok (.ifCond .ne 8, 3) := by decide +kernel
theorem dX2_partsAt_33 : decode cX2_partsAt 33 = .ok (.bipush 6, 2) := by decide +kernel
theorem dX2_partsAt_35 : decode cX2_partsAt 35 = .ok (.goto 5, 3) := by decide +kernel
theorem dX2_partsAt_38 : decode cX2_partsAt 38 = .ok (.bipush 8, 2) := by decide +kernel
theorem dX2_partsAt_40 : decode cX2_partsAt 40 = .ok (.istore_n 2, 1) := by decide +kernel
theorem dX2_partsAt_41 : decode cX2_partsAt 41 = .ok (.aload_n 0, 1) := by decide +kernel
theorem dX2_partsAt_42 : decode cX2_partsAt 42 = .ok (.getfield 21, 3) := by decide +kernel
theorem dX2_partsAt_45 : decode cX2_partsAt 45 = .ok (.iload_n 2, 1) := by decide +kernel
theorem dX2_partsAt_46 : decode cX2_partsAt 46 = .ok (.imul, 1) := by decide +kernel
theorem dX2_partsAt_47 : decode cX2_partsAt 47 = .ok (.aload_n 0, 1) := by decide +kernel
theorem dX2_partsAt_48 : decode cX2_partsAt 48 = .ok (.invokevirtual 31, 3) := by decide +kernel
theorem dX2_partsAt_51 : decode cX2_partsAt 51 = .ok (.iload_n 1, 1) := by decide +kernel
theorem dX2_partsAt_52 : decode cX2_partsAt 52 = .ok (.isub, 1) := by decide +kernel
theorem dX2_partsAt_53 : decode cX2_partsAt 53 = .ok (.imul, 1) := by decide +kernel
theorem dX2_partsAt_54 : decode cX2_partsAt 54 = .ok (.aload_n 0, 1) := by decide +kernel
theorem dX2_partsAt_55 : decode cX2_partsAt 55 = .ok (.invokevirtual 31, 3) := by decide +kernel
theorem dX2_partsAt_58 : decode cX2_partsAt 58 = .ok (.aload_n 0, 1) := by decide +kernel
theorem dX2_partsAt_59 : decode cX2_partsAt 59 = .ok (.invokevirtual 41, 3) := by decide +kernel
theorem dX2_partsAt_62 : decode cX2_partsAt 62 = .ok (.isub, 1) := by decide +kernel
theorem dX2_partsAt_63 : decode cX2_partsAt 63 = .ok (.idiv, 1) := by decide +kernel
theorem dX2_partsAt_64 : decode cX2_partsAt 64 = .ok (.ireturn, 1) := by decide +kernel
theorem dX2_done_0 : decode cX2_done 0 = .ok (.aload_n 0, 1) := by decide +kernel
theorem dX2_done_1 : decode cX2_done 1 = .ok (.getfield 9, 3) := by decide +kernel
theorem dX2_done_4 : decode cX2_done 4 = .ok (.ifCond .ne 8, 3) := by decide +kernel
theorem dX2_done_7 : decode cX2_done 7 = .ok (.bipush 12, 2) := by decide +kernel
theorem dX2_done_9 : decode cX2_done 9 = .ok (.goto 5, 3) := by decide +kernel
theorem dX2_done_12 : decode cX2_done 12 = .ok (.bipush 8, 2) := by decide +kernel
theorem dX2_done_14 : decode cX2_done 14 = .ok (.ireturn, 1) := by decide +kernel
theorem dX2_burnt_0 : decode cX2_burnt 0 = .ok (.aload_n 0, 1) := by decide +kernel
theorem dX2_burnt_1 : decode cX2_burnt 1 = .ok (.getfield 9, 3) := by decide +kernel
theorem dX2_burnt_4 : decode cX2_burnt 4 = .ok (.ifCond .ne 8, 3) := by decide +kernel
theorem dX2_burnt_7 : decode cX2_burnt 7 = .ok (.bipush 24, 2) := by decide +kernel
theorem dX2_burnt_9 : decode cX2_burnt 9 = .ok (.goto 5, 3) := by decide +kernel
theorem dX2_burnt_12 : decode cX2_burnt 12 = .ok (.bipush 15, 2) := by decide +kernel
theorem dX2_burnt_14 : decode cX2_burnt 14 = .ok (.ireturn, 1) := by decide +kernel
set_option maxRecDepth 20000 in
theorem ggX2_daysToBest_X2_partsAt : GoodIn wsX2_daysToBest wsX2_partsAt := goodIn_r _ [6, 7, 8, 9, 10, 11, 5, 12, 13, 14, 15, 16, 26, 27, 28, 29, 30] (by decide +kernel) (by decide +kernel)
set_option maxRecDepth 20000 in
theorem gX2_daysToBest_X2_partsAt : GoodIn wsX2_daysToBest (wsV RX2 44 RX2 yX2_partsAt wsX2_partsAt) := goodIn_app (goodIn_of _ (by decide +kernel)) ggX2_daysToBest_X2_partsAt
set_option maxRecDepth 20000 in
theorem ggX2_daysToBest_X2_levelAfter : GoodIn wsX2_daysToBest wsX2_levelAfter := goodIn_r _ [20, 7, 21, 22, 23, 24, 25, 13, 14, 15, 5, 16, 26, 27, 28, 29, 30] (by decide +kernel) (by decide +kernel)
set_option maxRecDepth 20000 in
theorem gX2_daysToBest_X2_levelAfter : GoodIn wsX2_daysToBest (wsV RX2 27 RX2 yX2_levelAfter wsX2_levelAfter) := goodIn_app (goodIn_of _ (by decide +kernel)) ggX2_daysToBest_X2_levelAfter
theorem dX2_daysToBest_0 : decode cX2_daysToBest 0 = .ok (.iconst (-1), 1) := by decide +kernel
theorem dX2_daysToBest_1 : decode cX2_daysToBest 1 = .ok (.istore_n 1, 1) := by decide +kernel
theorem dX2_daysToBest_2 : decode cX2_daysToBest 2 = .ok (.iconst 0, 1) := by decide +kernel
theorem dX2_daysToBest_3 : decode cX2_daysToBest 3 = .ok (.istore_n 2, 1) := by decide +kernel
theorem dX2_daysToBest_4 : decode cX2_daysToBest 4 = .ok (.aload_n 0, 1) := by decide +kernel
theorem dX2_daysToBest_5 : decode cX2_daysToBest 5 = .ok (.getfield 24, 3) := by decide +kernel
theorem dX2_daysToBest_8 : decode cX2_daysToBest 8 = .ok (.istore_n 3, 1) := by decide +kernel
theorem dX2_daysToBest_9 : decode cX2_daysToBest 9 = .ok (.iconst 0, 1) := by decide +kernel
theorem dX2_daysToBest_10 : decode cX2_daysToBest 10 = .ok (.istore 4, 2) := by decide +kernel
theorem dX2_daysToBest_12 : decode cX2_daysToBest 12 = .ok (.iload 4, 2) := by decide +kernel
theorem dX2_daysToBest_14 : decode cX2_daysToBest 14 = .ok (.bipush 60, 2) := by decide +kernel
theorem dX2_daysToBest_16 : decode cX2_daysToBest 16 = .ok (.if_icmp .gt 34, 3) := by decide +kernel
theorem dX2_daysToBest_19 : decode cX2_daysToBest 19 = .ok (.aload_n 0, 1) := by decide +kernel
theorem dX2_daysToBest_20 : decode cX2_daysToBest 20 = .ok (.iload_n 3, 1) := by decide +kernel
theorem dX2_daysToBest_21 : decode cX2_daysToBest 21 = .ok (.invokevirtual 44, 3) := by decide +kernel
theorem dX2_daysToBest_24 : decode cX2_daysToBest 24 = .ok (.istore 5, 2) := by decide +kernel
theorem dX2_daysToBest_26 : decode cX2_daysToBest 26 = .ok (.iload 5, 2) := by decide +kernel
theorem dX2_daysToBest_28 : decode cX2_daysToBest 28 = .ok (.iload_n 2, 1) := by decide +kernel
theorem dX2_daysToBest_29 : decode cX2_daysToBest 29 = .ok (.if_icmp .le 9, 3) := by decide +kernel
theorem dX2_daysToBest_32 : decode cX2_daysToBest 32 = .ok (.iload 5, 2) := by decide +kernel
theorem dX2_daysToBest_34 : decode cX2_daysToBest 34 = .ok (.istore_n 2, 1) := by decide +kernel
theorem dX2_daysToBest_35 : decode cX2_daysToBest 35 = .ok (.iload 4, 2) := by decide +kernel
theorem dX2_daysToBest_37 : decode cX2_daysToBest 37 = .ok (.istore_n 1, 1) := by decide +kernel
theorem dX2_daysToBest_38 : decode cX2_daysToBest 38 = .ok (.aload_n 0, 1) := by decide +kernel
theorem dX2_daysToBest_39 : decode cX2_daysToBest 39 = .ok (.iload_n 3, 1) := by decide +kernel
theorem dX2_daysToBest_40 : decode cX2_daysToBest 40 = .ok (.invokevirtual 27, 3) := by decide +kernel
theorem dX2_daysToBest_43 : decode cX2_daysToBest 43 = .ok (.istore_n 3, 1) := by decide +kernel
theorem dX2_daysToBest_44 : decode cX2_daysToBest 44 = .ok (.iinc 4 1, 3) := by decide +kernel
theorem dX2_daysToBest_47 : decode cX2_daysToBest 47 = .ok (.goto (-35), 3) := by decide +kernel
theorem dX2_daysToBest_50 : decode cX2_daysToBest 50 = .ok (.iload_n 1, 1) := by decide +kernel
theorem dX2_daysToBest_51 : decode cX2_daysToBest 51 = .ok (.ireturn, 1) := by decide +kernel
theorem dX2_become_0 : decode cX2_become 0 = .ok (.aload_n 0, 1) := by decide +kernel
theorem dX2_become_1 : decode cX2_become 1 = .ok (.aload_n 1, 1) := by decide +kernel
theorem dX2_become_2 : decode cX2_become 2 = .ok (.getfield 15, 3) := by decide +kernel
theorem dX2_become_5 : decode cX2_become 5 = .ok (.putfield 15, 3) := by decide +kernel
theorem dX2_become_8 : decode cX2_become 8 = .ok (.aload_n 0, 1) := by decide +kernel
theorem dX2_become_9 : decode cX2_become 9 = .ok (.aload_n 1, 1) := by decide +kernel
theorem dX2_become_10 : decode cX2_become 10 = .ok (.getfield 18, 3) := by decide +kernel
theorem dX2_become_13 : decode cX2_become 13 = .ok (.putfield 18, 3) := by decide +kernel
theorem dX2_become_16 : decode cX2_become 16 = .ok (.aload_n 0, 1) := by decide +kernel
theorem dX2_become_17 : decode cX2_become 17 = .ok (.aload_n 1, 1) := by decide +kernel
theorem dX2_become_18 : decode cX2_become 18 = .ok (.getfield 9, 3) := by decide +kernel
theorem dX2_become_21 : decode cX2_become 21 = .ok (.putfield 9, 3) := by decide +kernel
theorem dX2_become_24 : decode cX2_become 24 = .ok (.aload_n 0, 1) := by decide +kernel
theorem dX2_become_25 : decode cX2_become 25 = .ok (.aload_n 1, 1) := by decide +kernel
theorem dX2_become_26 : decode cX2_become 26 = .ok (.getfield 21, 3) := by decide +kernel
theorem dX2_become_29 : decode cX2_become 29 = .ok (.putfield 21, 3) := by decide +kernel
theorem dX2_become_32 : decode cX2_become 32 = .ok (.aload_n 0, 1) := by decide +kernel
theorem dX2_become_33 : decode cX2_become 33 = .ok (.aload_n 1, 1) := by decide +kernel
theorem dX2_become_34 : decode cX2_become 34 = .ok (.getfield 24, 3) := by decide +kernel
theorem dX2_become_37 : decode cX2_become 37 = .ok (.putfield 24, 3) := by decide +kernel
theorem dX2_become_40 : decode cX2_become 40 = .ok (.return_, 1) := by decide +kernel
theorem dX2_size_0 : decode cX2_size 0 = .ok (.bipush 6, 2) := by decide +kernel
theorem dX2_size_2 : decode cX2_size 2 = .ok (.ireturn, 1) := by decide +kernel
set_option maxRecDepth 20000 in
theorem ggX2_tell_X2_partsAt : GoodIn wsX2_tell wsX2_partsAt := goodIn_r _ [10, 3, 4, 11, 12, 13, 9, 14, 15, 16, 17, 18, 19, 20, 21, 22, 23] (by decide +kernel) (by decide +kernel)
set_option maxRecDepth 20000 in
theorem gX2_tell_X2_partsAt : GoodIn wsX2_tell (wsV RX2 44 RX2 yX2_partsAt wsX2_partsAt) := goodIn_app (goodIn_of _ (by decide +kernel)) ggX2_tell_X2_partsAt
theorem dX2_tell_0 : decode cX2_tell 0 = .ok (.iload_n 1, 1) := by decide +kernel
theorem dX2_tell_1 : decode cX2_tell 1 = .ok (.tableswitch 60 0 4 #[35, 40, 45, 50, 55], 35) := by decide +kernel
theorem dX2_tell_36 : decode cX2_tell 36 = .ok (.aload_n 0, 1) := by decide +kernel
theorem dX2_tell_37 : decode cX2_tell 37 = .ok (.getfield 15, 3) := by decide +kernel
theorem dX2_tell_40 : decode cX2_tell 40 = .ok (.ireturn, 1) := by decide +kernel
theorem dX2_tell_41 : decode cX2_tell 41 = .ok (.aload_n 0, 1) := by decide +kernel
theorem dX2_tell_42 : decode cX2_tell 42 = .ok (.getfield 18, 3) := by decide +kernel
theorem dX2_tell_45 : decode cX2_tell 45 = .ok (.ireturn, 1) := by decide +kernel
theorem dX2_tell_46 : decode cX2_tell 46 = .ok (.aload_n 0, 1) := by decide +kernel
theorem dX2_tell_47 : decode cX2_tell 47 = .ok (.getfield 9, 3) := by decide +kernel
theorem dX2_tell_50 : decode cX2_tell 50 = .ok (.ireturn, 1) := by decide +kernel
theorem dX2_tell_51 : decode cX2_tell 51 = .ok (.aload_n 0, 1) := by decide +kernel
theorem dX2_tell_52 : decode cX2_tell 52 = .ok (.getfield 21, 3) := by decide +kernel
theorem dX2_tell_55 : decode cX2_tell 55 = .ok (.ireturn, 1) := by decide +kernel
theorem dX2_tell_56 : decode cX2_tell 56 = .ok (.aload_n 0, 1) := by decide +kernel
theorem dX2_tell_57 : decode cX2_tell 57 = .ok (.getfield 24, 3) := by decide +kernel
theorem dX2_tell_60 : decode cX2_tell 60 = .ok (.ireturn, 1) := by decide +kernel
theorem dX2_tell_61 : decode cX2_tell 61 = .ok (.aload_n 0, 1) := by decide +kernel
theorem dX2_tell_62 : decode cX2_tell 62 = .ok (.aload_n 0, 1) := by decide +kernel
theorem dX2_tell_63 : decode cX2_tell 63 = .ok (.getfield 24, 3) := by decide +kernel
theorem dX2_tell_66 : decode cX2_tell 66 = .ok (.invokevirtual 44, 3) := by decide +kernel
theorem dX2_tell_69 : decode cX2_tell 69 = .ok (.ireturn, 1) := by decide +kernel
set_option maxRecDepth 20000 in
theorem ggX3_init_X5_init : GoodIn wsX3_init wsX5_init := goodIn_r _ [3, 4, 5, 6] (by decide +kernel) (by decide +kernel)
set_option maxRecDepth 20000 in
theorem gX3_init_X5_init_n3 : GoodIn wsX3_init (wsX5_init) := ggX3_init_X5_init
theorem dX3_init_0 : decode cX3_init 0 = .ok (.aload_n 0, 1) := by decide +kernel
theorem dX3_init_1 : decode cX3_init 1 = .ok (.invokespecial 3, 3) := by decide +kernel
theorem dX3_init_4 : decode cX3_init 4 = .ok (.return_, 1) := by decide +kernel
theorem dX3_hire_0 : decode cX3_hire 0 = .ok (.aload_n 0, 1) := by decide +kernel
theorem dX3_hire_1 : decode cX3_hire 1 = .ok (.iload_n 1, 1) := by decide +kernel
theorem dX3_hire_2 : decode cX3_hire 2 = .ok (.putfield 9, 3) := by decide +kernel
theorem dX3_hire_5 : decode cX3_hire 5 = .ok (.aload_n 0, 1) := by decide +kernel
theorem dX3_hire_6 : decode cX3_hire 6 = .ok (.iload_n 2, 1) := by decide +kernel
theorem dX3_hire_7 : decode cX3_hire 7 = .ok (.putfield 15, 3) := by decide +kernel
theorem dX3_hire_10 : decode cX3_hire 10 = .ok (.return_, 1) := by decide +kernel
theorem dX3_setOut_0 : decode cX3_setOut 0 = .ok (.aload_n 0, 1) := by decide +kernel
theorem dX3_setOut_1 : decode cX3_setOut 1 = .ok (.iconst 1, 1) := by decide +kernel
theorem dX3_setOut_2 : decode cX3_setOut 2 = .ok (.putfield 18, 3) := by decide +kernel
theorem dX3_setOut_5 : decode cX3_setOut 5 = .ok (.aload_n 0, 1) := by decide +kernel
theorem dX3_setOut_6 : decode cX3_setOut 6 = .ok (.aload_n 0, 1) := by decide +kernel
theorem dX3_setOut_7 : decode cX3_setOut 7 = .ok (.getfield 9, 3) := by decide +kernel
theorem dX3_setOut_10 : decode cX3_setOut 10 = .ok (.putfield 21, 3) := by decide +kernel
theorem dX3_setOut_13 : decode cX3_setOut 13 = .ok (.return_, 1) := by decide +kernel
theorem dX3_daysToBorder_0 : decode cX3_daysToBorder 0 = .ok (.aload_n 0, 1) := by decide +kernel
theorem dX3_daysToBorder_1 : decode cX3_daysToBorder 1 = .ok (.getfield 9, 3) := by decide +kernel
theorem dX3_daysToBorder_4 : decode cX3_daysToBorder 4 = .ok (.aload_n 0, 1) := by decide +kernel
theorem dX3_daysToBorder_5 : decode cX3_daysToBorder 5 = .ok (.getfield 9, 3) := by decide +kernel
theorem dX3_daysToBorder_8 : decode cX3_daysToBorder 8 = .ok (.iconst 2, 1) := by decide +kernel
theorem dX3_daysToBorder_9 : decode cX3_daysToBorder 9 = .ok (.idiv, 1) := by decide +kernel
theorem dX3_daysToBorder_10 : decode cX3_daysToBorder 10 = .ok (.isub, 1) := by decide +kernel
theorem dX3_daysToBorder_11 : decode cX3_daysToBorder 11 = .ok (.ireturn, 1) := by decide +kernel
set_option maxRecDepth 20000 in
theorem ggX3_travel_X3_comeHome : GoodIn wsX3_travel wsX3_comeHome := goodIn_r _ [9, 1, 10, 11, 12, 13, 14, 15] (by decide +kernel) (by decide +kernel)
set_option maxRecDepth 20000 in
theorem gX3_travel_X3_comeHome : GoodIn wsX3_travel (wsV RX3 27 RX3 yX3_comeHome wsX3_comeHome) := goodIn_app (goodIn_of _ (by decide +kernel)) ggX3_travel_X3_comeHome
theorem dX3_travel_0 : decode cX3_travel 0 = .ok (.aload_n 0, 1) := by decide +kernel
theorem dX3_travel_1 : decode cX3_travel 1 = .ok (.getfield 18, 3) := by decide +kernel
theorem dX3_travel_4 : decode cX3_travel 4 = .ok (.ifCond .ne 5, 3) := by decide +kernel
theorem dX3_travel_7 : decode cX3_travel 7 = .ok (.iconst 0, 1) := by decide +kernel
theorem dX3_travel_8 : decode cX3_travel 8 = .ok (.ireturn, 1) := by decide +kernel
theorem dX3_travel_9 : decode cX3_travel 9 = .ok (.aload_n 0, 1) := by decide +kernel
theorem dX3_travel_10 : decode cX3_travel 10 = .ok (.dup, 1) := by decide +kernel
theorem dX3_travel_11 : decode cX3_travel 11 = .ok (.getfield 21, 3) := by decide +kernel
theorem dX3_travel_14 : decode cX3_travel 14 = .ok (.iconst 1, 1) := by decide +kernel
theorem dX3_travel_15 : decode cX3_travel 15 = .ok (.isub, 1) := by decide +kernel
theorem dX3_travel_16 : decode cX3_travel 16 = .ok (.putfield 21, 3) := by decide +kernel
theorem dX3_travel_19 : decode cX3_travel 19 = .ok (.aload_n 0, 1) := by decide +kernel
theorem dX3_travel_20 : decode cX3_travel 20 = .ok (.getfield 18, 3) := by decide +kernel
theorem dX3_travel_23 : decode cX3_travel 23 = .ok (.iconst 1, 1) := by decide +kernel
theorem dX3_travel_24 : decode cX3_travel 24 = .ok (.if_icmp .ne 41, 3) := by decide +kernel
theorem dX3_travel_27 : decode cX3_travel 27 = .ok (.aload_n 0, 1) := by decide +kernel
theorem dX3_travel_28 : decode cX3_travel 28 = .ok (.getfield 21, 3) := by decide +kernel
theorem dX3_travel_31 : decode cX3_travel 31 = .ok (.aload_n 0, 1) := by decide +kernel
theorem dX3_travel_32 : decode cX3_travel 32 = .ok (.getfield 9, 3) := by decide +kernel
theorem dX3_travel_35 : decode cX3_travel 35 = .ok (.iconst 2, 1) := by decide +kernel
theorem dX3_travel_36 : decode cX3_travel 36 = .ok (.idiv, 1) := by decide +kernel
theorem dX3_travel_37 : decode cX3_travel 37 = .ok (.if_icmp .ne 28, 3) := by decide +kernel
theorem dX3_travel_40 : decode cX3_travel 40 = .ok (.iload_n 1, 1) := by decide +kernel
theorem dX3_travel_41 : decode cX3_travel 41 = .ok (.ifCond .eq 24, 3) := by decide +kernel
theorem dX3_travel_44 : decode cX3_travel 44 = .ok (.aload_n 0, 1) := by decide +kernel
theorem dX3_travel_45 : decode cX3_travel 45 = .ok (.iconst 2, 1) := by decide +kernel
theorem dX3_travel_46 : decode cX3_travel 46 = .ok (.putfield 18, 3) := by decide +kernel
theorem dX3_travel_49 : decode cX3_travel 49 = .ok (.aload_n 0, 1) := by decide +kernel
theorem dX3_travel_50 : decode cX3_travel 50 = .ok (.bipush 10, 2) := by decide +kernel
theorem dX3_travel_52 : decode cX3_travel 52 = .ok (.putfield 21, 3) := by decide +kernel
theorem dX3_travel_55 : decode cX3_travel 55 = .ok (.aload_n 0, 1) := by decide +kernel
theorem dX3_travel_56 : decode cX3_travel 56 = .ok (.dup, 1) := by decide +kernel
theorem dX3_travel_57 : decode cX3_travel 57 = .ok (.getfield 24, 3) := by decide +kernel
theorem dX3_travel_60 : decode cX3_travel 60 = .ok (.iconst 1, 1) := by decide +kernel
theorem dX3_travel_61 : decode cX3_travel 61 = .ok (.iadd, 1) := by decide +kernel
theorem dX3_travel_62 : decode cX3_travel 62 = .ok (.putfield 24, 3) := by decide +kernel
theorem dX3_travel_65 : decode cX3_travel 65 = .ok (.aload_n 0, 1) := by decide +kernel
theorem dX3_travel_66 : decode cX3_travel 66 = .ok (.getfield 21, 3) := by decide +kernel
theorem dX3_travel_69 : decode cX3_travel 69 = .ok (.ifCond .le 7, 3) := by decide +kernel
theorem dX3_travel_72 : decode cX3_travel 72 = .ok (.iconst 0, 1) := by decide +kernel
theorem dX3_travel_73 : decode cX3_travel 73 = .ok (.goto 7, 3) := by decide +kernel
theorem dX3_travel_76 : decode cX3_travel 76 = .ok (.aload_n 0, 1) := by decide +kernel
theorem dX3_travel_77 : decode cX3_travel 77 = .ok (.invokevirtual 27, 3) := by decide +kernel
theorem dX3_travel_80 : decode cX3_travel 80 = .ok (.ireturn, 1) := by decide +kernel
theorem dX3_comeHome_0 : decode cX3_comeHome 0 = .ok (.aload_n 0, 1) := by decide +kernel
theorem dX3_comeHome_1 : decode cX3_comeHome 1 = .ok (.getfield 18, 3) := by decide +kernel
theorem dX3_comeHome_4 : decode cX3_comeHome 4 = .ok (.iconst 1, 1) := by decide +kernel
theorem dX3_comeHome_5 : decode cX3_comeHome 5 = .ok (.if_icmp .ne 10, 3) := by decide +kernel
theorem dX3_comeHome_8 : decode cX3_comeHome 8 = .ok (.aload_n 0, 1) := by decide +kernel
theorem dX3_comeHome_9 : decode cX3_comeHome 9 = .ok (.getfield 15, 3) := by decide +kernel
theorem dX3_comeHome_12 : decode cX3_comeHome 12 = .ok (.goto 4, 3) := by decide +kernel
theorem dX3_comeHome_15 : decode cX3_comeHome 15 = .ok (.iconst 0, 1) := by decide +kernel
theorem dX3_comeHome_16 : decode cX3_comeHome 16 = .ok (.istore_n 1, 1) := by decide +kernel
theorem dX3_comeHome_17 : decode cX3_comeHome 17 = .ok (.aload_n 0, 1) := by decide +kernel
theorem dX3_comeHome_18 : decode cX3_comeHome 18 = .ok (.iconst 0, 1) := by decide +kernel
theorem dX3_comeHome_19 : decode cX3_comeHome 19 = .ok (.putfield 18, 3) := by decide +kernel
theorem dX3_comeHome_22 : decode cX3_comeHome 22 = .ok (.iload_n 1, 1) := by decide +kernel
theorem dX3_comeHome_23 : decode cX3_comeHome 23 = .ok (.ireturn, 1) := by decide +kernel
theorem dX3_become_0 : decode cX3_become 0 = .ok (.aload_n 0, 1) := by decide +kernel
theorem dX3_become_1 : decode cX3_become 1 = .ok (.aload_n 1, 1) := by decide +kernel
theorem dX3_become_2 : decode cX3_become 2 = .ok (.getfield 9, 3) := by decide +kernel
theorem dX3_become_5 : decode cX3_become 5 = .ok (.putfield 9, 3) := by decide +kernel
theorem dX3_become_8 : decode cX3_become 8 = .ok (.aload_n 0, 1) := by decide +kernel
theorem dX3_become_9 : decode cX3_become 9 = .ok (.aload_n 1, 1) := by decide +kernel
theorem dX3_become_10 : decode cX3_become 10 = .ok (.getfield 15, 3) := by decide +kernel
theorem dX3_become_13 : decode cX3_become 13 = .ok (.putfield 15, 3) := by decide +kernel
theorem dX3_become_16 : decode cX3_become 16 = .ok (.aload_n 0, 1) := by decide +kernel
theorem dX3_become_17 : decode cX3_become 17 = .ok (.aload_n 1, 1) := by decide +kernel
theorem dX3_become_18 : decode cX3_become 18 = .ok (.getfield 18, 3) := by decide +kernel
theorem dX3_become_21 : decode cX3_become 21 = .ok (.putfield 18, 3) := by decide +kernel
theorem dX3_become_24 : decode cX3_become 24 = .ok (.aload_n 0, 1) := by decide +kernel
theorem dX3_become_25 : decode cX3_become 25 = .ok (.aload_n 1, 1) := by decide +kernel
theorem dX3_become_26 : decode cX3_become 26 = .ok (.getfield 21, 3) := by decide +kernel
theorem dX3_become_29 : decode cX3_become 29 = .ok (.putfield 21, 3) := by decide +kernel
theorem dX3_become_32 : decode cX3_become 32 = .ok (.aload_n 0, 1) := by decide +kernel
theorem dX3_become_33 : decode cX3_become 33 = .ok (.aload_n 1, 1) := by decide +kernel
theorem dX3_become_34 : decode cX3_become 34 = .ok (.getfield 24, 3) := by decide +kernel
theorem dX3_become_37 : decode cX3_become 37 = .ok (.putfield 24, 3) := by decide +kernel
theorem dX3_become_40 : decode cX3_become 40 = .ok (.return_, 1) := by decide +kernel
theorem dX3_size_0 : decode cX3_size 0 = .ok (.iconst 5, 1) := by decide +kernel
theorem dX3_size_1 : decode cX3_size 1 = .ok (.ireturn, 1) := by decide +kernel
theorem dX3_tell_0 : decode cX3_tell 0 = .ok (.iload_n 1, 1) := by decide +kernel
theorem dX3_tell_1 : decode cX3_tell 1 = .ok (.tableswitch 51 0 3 #[31, 36, 41, 46], 31) := by decide +kernel
theorem dX3_tell_32 : decode cX3_tell 32 = .ok (.aload_n 0, 1) := by decide +kernel
theorem dX3_tell_33 : decode cX3_tell 33 = .ok (.getfield 9, 3) := by decide +kernel
theorem dX3_tell_36 : decode cX3_tell 36 = .ok (.ireturn, 1) := by decide +kernel
theorem dX3_tell_37 : decode cX3_tell 37 = .ok (.aload_n 0, 1) := by decide +kernel
theorem dX3_tell_38 : decode cX3_tell 38 = .ok (.getfield 15, 3) := by decide +kernel
theorem dX3_tell_41 : decode cX3_tell 41 = .ok (.ireturn, 1) := by decide +kernel
theorem dX3_tell_42 : decode cX3_tell 42 = .ok (.aload_n 0, 1) := by decide +kernel
theorem dX3_tell_43 : decode cX3_tell 43 = .ok (.getfield 18, 3) := by decide +kernel
theorem dX3_tell_46 : decode cX3_tell 46 = .ok (.ireturn, 1) := by decide +kernel
theorem dX3_tell_47 : decode cX3_tell 47 = .ok (.aload_n 0, 1) := by decide +kernel
theorem dX3_tell_48 : decode cX3_tell 48 = .ok (.getfield 21, 3) := by decide +kernel
theorem dX3_tell_51 : decode cX3_tell 51 = .ok (.ireturn, 1) := by decide +kernel
theorem dX3_tell_52 : decode cX3_tell 52 = .ok (.aload_n 0, 1) := by decide +kernel
theorem dX3_tell_53 : decode cX3_tell 53 = .ok (.getfield 24, 3) := by decide +kernel
theorem dX3_tell_56 : decode cX3_tell 56 = .ok (.ireturn, 1) := by decide +kernel
theorem dX4_init_0 : decode cX4_init 0 = .ok (.aload_n 0, 1) := by decide +kernel
theorem dX4_init_1 : decode cX4_init 1 = .ok (.invokespecial 3, 3) := by decide +kernel
theorem dX4_init_4 : decode cX4_init 4 = .ok (.aload_n 0, 1) := by decide +kernel
theorem dX4_init_5 : decode cX4_init 5 = .ok (.iconst 5, 1) := by decide +kernel
theorem dX4_init_6 : decode cX4_init 6 = .ok (.putfield 9, 3) := by decide +kernel
theorem dX4_init_9 : decode cX4_init 9 = .ok (.return_, 1) := by decide +kernel
theorem dX4_stock_0 : decode cX4_stock 0 = .ok (.iload_n 1, 1) := by decide +kernel
theorem dX4_stock_1 : decode cX4_stock 1 = .ok (.ifCond .ne 10, 3) := by decide +kernel
theorem dX4_stock_4 : decode cX4_stock 4 = .ok (.aload_n 0, 1) := by decide +kernel
theorem dX4_stock_5 : decode cX4_stock 5 = .ok (.getfield 15, 3) := by decide +kernel
theorem dX4_stock_8 : decode cX4_stock 8 = .ok (.goto 7, 3) := by decide +kernel
theorem dX4_stock_11 : decode cX4_stock 11 = .ok (.aload_n 0, 1) := by decide +kernel
theorem dX4_stock_12 : decode cX4_stock 12 = .ok (.getfield 18, 3) := by decide +kernel
theorem dX4_stock_15 : decode cX4_stock 15 = .ok (.ireturn, 1) := by decide +kernel
theorem dX4_add_0 : decode cX4_add 0 = .ok (.iload_n 1, 1) := by decide +kernel
theorem dX4_add_1 : decode cX4_add 1 = .ok (.ifCond .ne 16, 3) := by decide +kernel
theorem dX4_add_4 : decode cX4_add 4 = .ok (.aload_n 0, 1) := by decide +kernel
theorem dX4_add_5 : decode cX4_add 5 = .ok (.dup, 1) := by decide +kernel
theorem dX4_add_6 : decode cX4_add 6 = .ok (.getfield 15, 3) := by decide +kernel
theorem dX4_add_9 : decode cX4_add 9 = .ok (.iload_n 2, 1) := by decide +kernel
theorem dX4_add_10 : decode cX4_add 10 = .ok (.iadd, 1) := by decide +kernel
theorem dX4_add_11 : decode cX4_add 11 = .ok (.putfield 15, 3) := by decide +kernel
theorem dX4_add_14 : decode cX4_add 14 = .ok (.goto 13, 3) := by decide +kernel
theorem dX4_add_17 : decode cX4_add 17 = .ok (.aload_n 0, 1) := by decide +kernel
theorem dX4_add_18 : decode cX4_add 18 = .ok (.dup, 1) := by decide +kernel
theorem dX4_add_19 : decode cX4_add 19 = .ok (.getfield 18, 3) := by decide +kernel
theorem dX4_add_22 : decode cX4_add 22 = .ok (.iload_n 2, 1) := by decide +kernel
theorem dX4_add_23 : decode cX4_add 23 = .ok (.iadd, 1) := by decide +kernel
theorem dX4_add_24 : decode cX4_add 24 = .ok (.putfield 18, 3) := by decide +kernel
theorem dX4_add_27 : decode cX4_add 27 = .ok (.return_, 1) := by decide +kernel
theorem dX4_addRoasted_0 : decode cX4_addRoasted 0 = .ok (.iload_n 1, 1) := by decide +kernel
theorem dX4_addRoasted_1 : decode cX4_addRoasted 1 = .ok (.ifCond .ne 16, 3) := by decide +kernel
theorem dX4_addRoasted_4 : decode cX4_addRoasted 4 = .ok (.aload_n 0, 1) := by decide +kernel
theorem dX4_addRoasted_5 : decode cX4_addRoasted 5 = .ok (.dup, 1) := by decide +kernel
theorem dX4_addRoasted_6 : decode cX4_addRoasted 6 = .ok (.getfield 21, 3) := by decide +kernel
theorem dX4_addRoasted_9 : decode cX4_addRoasted 9 = .ok (.iload_n 2, 1) := by decide +kernel
theorem dX4_addRoasted_10 : decode cX4_addRoasted 10 = .ok (.iadd, 1) := by decide +kernel
theorem dX4_addRoasted_11 : decode cX4_addRoasted 11 = .ok (.putfield 21, 3) := by decide +kernel
theorem dX4_addRoasted_14 : decode cX4_addRoasted 14 = .ok (.goto 13, 3) := by decide +kernel
theorem dX4_addRoasted_17 : decode cX4_addRoasted 17 = .ok (.aload_n 0, 1) := by decide +kernel
theorem dX4_addRoasted_18 : decode cX4_addRoasted 18 = .ok (.dup, 1) := by decide +kernel
theorem dX4_addRoasted_19 : decode cX4_addRoasted 19 = .ok (.getfield 24, 3) := by decide +kernel
theorem dX4_addRoasted_22 : decode cX4_addRoasted 22 = .ok (.iload_n 2, 1) := by decide +kernel
theorem dX4_addRoasted_23 : decode cX4_addRoasted 23 = .ok (.iadd, 1) := by decide +kernel
theorem dX4_addRoasted_24 : decode cX4_addRoasted 24 = .ok (.putfield 24, 3) := by decide +kernel
theorem dX4_addRoasted_27 : decode cX4_addRoasted 27 = .ok (.return_, 1) := by decide +kernel
theorem dX4_coffeeOfPortion_0 : decode cX4_coffeeOfPortion 0 = .ok (.aload_n 0, 1) := by decide +kernel
theorem dX4_coffeeOfPortion_1 : decode cX4_coffeeOfPortion 1 = .ok (.getfield 9, 3) := by decide +kernel
theorem dX4_coffeeOfPortion_4 : decode cX4_coffeeOfPortion 4 = .ok (.aload_n 0, 1) := by decide +kernel
end
section
theorem dX4_coffeeOfPortion_5 : decode cX4_coffeeOfPortion 5 = .ok (.getfield 24, 3) := by decide +kernel
theorem dX4_coffeeOfPortion_8 : decode cX4_coffeeOfPortion 8 = .ok (.invokestatic 27, 3) := by decide +kernel
theorem dX4_coffeeOfPortion_11 : decode cX4_coffeeOfPortion 11 = .ok (.ireturn, 1) := by decide +kernel
theorem dX4_canMix_0 : decode cX4_canMix 0 = .ok (.aload_n 0, 1) := by decide +kernel
theorem dX4_canMix_1 : decode cX4_canMix 1 = .ok (.getfield 21, 3) := by decide +kernel
theorem dX4_canMix_4 : decode cX4_canMix 4 = .ok (.bipush 10, 2) := by decide +kernel
theorem dX4_canMix_6 : decode cX4_canMix 6 = .ok (.iload_n 1, 1) := by decide +kernel
theorem dX4_canMix_7 : decode cX4_canMix 7 = .ok (.isub, 1) := by decide +kernel
theorem dX4_canMix_8 : decode cX4_canMix 8 = .ok (.if_icmp .lt 7, 3) := by decide +kernel
theorem dX4_canMix_11 : decode cX4_canMix 11 = .ok (.iconst 1, 1) := by decide +kernel
theorem dX4_canMix_12 : decode cX4_canMix 12 = .ok (.goto 4, 3) := by decide +kernel
theorem dX4_canMix_15 : decode cX4_canMix 15 = .ok (.iconst 0, 1) := by decide +kernel
theorem dX4_canMix_16 : decode cX4_canMix 16 = .ok (.ireturn, 1) := by decide +kernel
theorem dX4_servePortion_0 : decode cX4_servePortion 0 = .ok (.iload_n 1, 1) := by decide +kernel
theorem dX4_servePortion_1 : decode cX4_servePortion 1 = .ok (.aload_n 0, 1) := by decide +kernel
theorem dX4_servePortion_2 : decode cX4_servePortion 2 = .ok (.getfield 9, 3) := by decide +kernel
theorem dX4_servePortion_5 : decode cX4_servePortion 5 = .ok (.if_icmp .ge 13, 3) := by decide +kernel
theorem dX4_servePortion_8 : decode cX4_servePortion 8 = .ok (.aload_n 0, 1) := by decide +kernel
theorem dX4_servePortion_9 : decode cX4_servePortion 9 = .ok (.dup, 1) := by decide +kernel
theorem dX4_servePortion_10 : decode cX4_servePortion 10 = .ok (.getfield 33, 3) := by decide +kernel
theorem dX4_servePortion_13 : decode cX4_servePortion 13 = .ok (.iconst 1, 1) := by decide +kernel
theorem dX4_servePortion_14 : decode cX4_servePortion 14 = .ok (.iadd, 1) := by decide +kernel
theorem dX4_servePortion_15 : decode cX4_servePortion 15 = .ok (.putfield 33, 3) := by decide +kernel
theorem dX4_servePortion_18 : decode cX4_servePortion 18 = .ok (.aload_n 0, 1) := by decide +kernel
theorem dX4_servePortion_19 : decode cX4_servePortion 19 = .ok (.dup, 1) := by decide +kernel
theorem dX4_servePortion_20 : decode cX4_servePortion 20 = .ok (.getfield 24, 3) := by decide +kernel
theorem dX4_servePortion_23 : decode cX4_servePortion 23 = .ok (.iload_n 1, 1) := by decide +kernel
theorem dX4_servePortion_24 : decode cX4_servePortion 24 = .ok (.isub, 1) := by decide +kernel
theorem dX4_servePortion_25 : decode cX4_servePortion 25 = .ok (.putfield 24, 3) := by decide +kernel
theorem dX4_servePortion_28 : decode cX4_servePortion 28 = .ok (.aload_n 0, 1) := by decide +kernel
theorem dX4_servePortion_29 : decode cX4_servePortion 29 = .ok (.dup, 1) := by decide +kernel
theorem dX4_servePortion_30 : decode cX4_servePortion 30 = .ok (.getfield 21, 3) := by decide +kernel
theorem dX4_servePortion_33 : decode cX4_servePortion 33 = .ok (.bipush 10, 2) := by decide +kernel
theorem dX4_servePortion_35 : decode cX4_servePortion 35 = .ok (.iload_n 1, 1) := by decide +kernel
theorem dX4_servePortion_36 : decode cX4_servePortion 36 = .ok (.isub, 1) := by decide +kernel
theorem dX4_servePortion_37 : decode cX4_servePortion 37 = .ok (.isub, 1) := by decide +kernel
theorem dX4_servePortion_38 : decode cX4_servePortion 38 = .ok (.putfield 21, 3) := by decide +kernel
theorem dX4_servePortion_41 : decode cX4_servePortion 41 = .ok (.aload_n 0, 1) := by decide +kernel
theorem dX4_servePortion_42 : decode cX4_servePortion 42 = .ok (.dup, 1) := by decide +kernel
theorem dX4_servePortion_43 : decode cX4_servePortion 43 = .ok (.getfield 36, 3) := by decide +kernel
theorem dX4_servePortion_46 : decode cX4_servePortion 46 = .ok (.iconst 1, 1) := by decide +kernel
theorem dX4_servePortion_47 : decode cX4_servePortion 47 = .ok (.iadd, 1) := by decide +kernel
theorem dX4_servePortion_48 : decode cX4_servePortion 48 = .ok (.putfield 36, 3) := by decide +kernel
theorem dX4_servePortion_51 : decode cX4_servePortion 51 = .ok (.return_, 1) := by decide +kernel
theorem dX4_become_0 : decode cX4_become 0 = .ok (.aload_n 0, 1) := by decide +kernel
theorem dX4_become_1 : decode cX4_become 1 = .ok (.aload_n 1, 1) := by decide +kernel
theorem dX4_become_2 : decode cX4_become 2 = .ok (.getfield 15, 3) := by decide +kernel
theorem dX4_become_5 : decode cX4_become 5 = .ok (.putfield 15, 3) := by decide +kernel
theorem dX4_become_8 : decode cX4_become 8 = .ok (.aload_n 0, 1) := by decide +kernel
theorem dX4_become_9 : decode cX4_become 9 = .ok (.aload_n 1, 1) := by decide +kernel
theorem dX4_become_10 : decode cX4_become 10 = .ok (.getfield 18, 3) := by decide +kernel
theorem dX4_become_13 : decode cX4_become 13 = .ok (.putfield 18, 3) := by decide +kernel
theorem dX4_become_16 : decode cX4_become 16 = .ok (.aload_n 0, 1) := by decide +kernel
theorem dX4_become_17 : decode cX4_become 17 = .ok (.aload_n 1, 1) := by decide +kernel
theorem dX4_become_18 : decode cX4_become 18 = .ok (.getfield 21, 3) := by decide +kernel
theorem dX4_become_21 : decode cX4_become 21 = .ok (.putfield 21, 3) := by decide +kernel
theorem dX4_become_24 : decode cX4_become 24 = .ok (.aload_n 0, 1) := by decide +kernel
theorem dX4_become_25 : decode cX4_become 25 = .ok (.aload_n 1, 1) := by decide +kernel
theorem dX4_become_26 : decode cX4_become 26 = .ok (.getfield 24, 3) := by decide +kernel
theorem dX4_become_29 : decode cX4_become 29 = .ok (.putfield 24, 3) := by decide +kernel
theorem dX4_become_32 : decode cX4_become 32 = .ok (.aload_n 0, 1) := by decide +kernel
theorem dX4_become_33 : decode cX4_become 33 = .ok (.aload_n 1, 1) := by decide +kernel
theorem dX4_become_34 : decode cX4_become 34 = .ok (.getfield 9, 3) := by decide +kernel
theorem dX4_become_37 : decode cX4_become 37 = .ok (.putfield 9, 3) := by decide +kernel
theorem dX4_become_40 : decode cX4_become 40 = .ok (.aload_n 0, 1) := by decide +kernel
theorem dX4_become_41 : decode cX4_become 41 = .ok (.aload_n 1, 1) := by decide +kernel
theorem dX4_become_42 : decode cX4_become 42 = .ok (.getfield 36, 3) := by decide +kernel
theorem dX4_become_45 : decode cX4_become 45 = .ok (.putfield 36, 3) := by decide +kernel
theorem dX4_become_48 : decode cX4_become 48 = .ok (.aload_n 0, 1) := by decide +kernel
theorem dX4_become_49 : decode cX4_become 49 = .ok (.aload_n 1, 1) := by decide +kernel
theorem dX4_become_50 : decode cX4_become 50 = .ok (.getfield 33, 3) := by decide +kernel
theorem dX4_become_53 : decode cX4_become 53 = .ok (.putfield 33, 3) := by decide +kernel
theorem dX4_become_56 : decode cX4_become 56 = .ok (.return_, 1) := by decide +kernel
theorem dX5_init_0 : decode cX5_init 0 = .ok (.aload_n 0, 1) := by decide +kernel
theorem dX5_init_1 : decode cX5_init 1 = .ok (.invokespecial 1, 3) := by decide +kernel
theorem dX5_init_4 : decode cX5_init 4 = .ok (.return_, 1) := by decide +kernel
set_option maxRecDepth 20000 in
theorem ggX5_digestOnto_X0_size : GoodIn wsX5_digestOnto wsX0_size := goodIn_r _ [7] (by decide +kernel) (by decide +kernel)
set_option maxRecDepth 20000 in
theorem gX5_digestOnto_X0_size_u7X0 : GoodIn wsX5_digestOnto (va_wsU RX5 7 RX0 "ChicoryRoasters$Teller" ⟨"ChicoryRoasters$Teller", "size", "()I"⟩ yX0_size wsX0_size) := goodIn_app (goodIn_of _ (by decide +kernel)) ggX5_digestOnto_X0_size
set_option maxRecDepth 20000 in
theorem ggX5_digestOnto_X1_size : GoodIn wsX5_digestOnto wsX1_size := goodIn_r _ [11] (by decide +kernel) (by decide +kernel)
set_option maxRecDepth 20000 in
theorem gX5_digestOnto_X1_size_u7X1 : GoodIn wsX5_digestOnto (va_wsU RX5 7 RX1 "ChicoryRoasters$Teller" ⟨"ChicoryRoasters$Teller", "size", "()I"⟩ yX1_size wsX1_size) := goodIn_app (goodIn_of _ (by decide +kernel)) ggX5_digestOnto_X1_size
set_option maxRecDepth 20000 in
theorem ggX5_digestOnto_X2_size : GoodIn wsX5_digestOnto wsX2_size := goodIn_r _ [15] (by decide +kernel) (by decide +kernel)
set_option maxRecDepth 20000 in
theorem gX5_digestOnto_X2_size_u7X2 : GoodIn wsX5_digestOnto (va_wsU RX5 7 RX2 "ChicoryRoasters$Teller" ⟨"ChicoryRoasters$Teller", "size", "()I"⟩ yX2_size wsX2_size) := goodIn_app (goodIn_of _ (by decide +kernel)) ggX5_digestOnto_X2_size
set_option maxRecDepth 20000 in
theorem ggX5_digestOnto_X3_size : GoodIn wsX5_digestOnto wsX3_size := goodIn_r _ [19] (by decide +kernel) (by decide +kernel)
set_option maxRecDepth 20000 in
theorem gX5_digestOnto_X3_size_u7X3 : GoodIn wsX5_digestOnto (va_wsU RX5 7 RX3 "ChicoryRoasters$Teller" ⟨"ChicoryRoasters$Teller", "size", "()I"⟩ yX3_size wsX3_size) := goodIn_app (goodIn_of _ (by decide +kernel)) ggX5_digestOnto_X3_size
set_option maxRecDepth 20000 in
theorem ggX5_digestOnto_X6_size : GoodIn wsX5_digestOnto wsX6_size := goodIn_r _ [23] (by decide +kernel) (by decide +kernel)
set_option maxRecDepth 20000 in
theorem gX5_digestOnto_X6_size_u7X6 : GoodIn wsX5_digestOnto (va_wsU RX5 7 RX6 "ChicoryRoasters$Teller" ⟨"ChicoryRoasters$Teller", "size", "()I"⟩ yX6_size wsX6_size) := goodIn_app (goodIn_of _ (by decide +kernel)) ggX5_digestOnto_X6_size
set_option maxRecDepth 20000 in
theorem ggX5_digestOnto_X0_tell : GoodIn wsX5_digestOnto wsX0_tell := goodIn_r _ [28, 29, 30, 31, 81, 82, 83] (by decide +kernel) (by decide +kernel)
set_option maxRecDepth 20000 in
theorem gX5_digestOnto_X0_tell_u15X0 : GoodIn wsX5_digestOnto (va_wsU RX5 15 RX0 "ChicoryRoasters$Teller" ⟨"ChicoryRoasters$Teller", "tell", "(I)I"⟩ yX0_tell wsX0_tell) := goodIn_app (goodIn_of _ (by decide +kernel)) ggX5_digestOnto_X0_tell
set_option maxRecDepth 20000 in
theorem ggX5_digestOnto_X1_tell : GoodIn wsX5_digestOnto wsX1_tell := goodIn_r _ [34, 35, 36, 37, 38, 39, 84, 85, 86, 87, 88] (by decide +kernel) (by decide +kernel)
set_option maxRecDepth 20000 in
theorem gX5_digestOnto_X1_tell_u15X1 : GoodIn wsX5_digestOnto (va_wsU RX5 15 RX1 "ChicoryRoasters$Teller" ⟨"ChicoryRoasters$Teller", "tell", "(I)I"⟩ yX1_tell wsX1_tell) := goodIn_app (goodIn_of _ (by decide +kernel)) ggX5_digestOnto_X1_tell
set_option maxRecDepth 20000 in
theorem ggX5_digestOnto_X2_tell : GoodIn wsX5_digestOnto wsX2_tell := goodIn_r _ [42, 43, 44, 45, 46, 47, 48, 49, 50, 14, 51, 52, 53, 54, 55, 56, 57, 58, 59, 89, 90, 91, 92, 93] (by decide +kernel) (by decide +kernel)
set_option maxRecDepth 20000 in
theorem gX5_digestOnto_X2_tell_u15X2 : GoodIn wsX5_digestOnto (va_wsU RX5 15 RX2 "ChicoryRoasters$Teller" ⟨"ChicoryRoasters$Teller", "tell", "(I)I"⟩ yX2_tell wsX2_tell) := goodIn_app (goodIn_of _ (by decide +kernel)) ggX5_digestOnto_X2_tell
set_option maxRecDepth 20000 in
theorem ggX5_digestOnto_X3_tell : GoodIn wsX5_digestOnto wsX3_tell := goodIn_r _ [62, 63, 64, 65, 66, 67, 94, 95, 96, 97, 98] (by decide +kernel) (by decide +kernel)
set_option maxRecDepth 20000 in
theorem gX5_digestOnto_X3_tell_u15X3 : GoodIn wsX5_digestOnto (va_wsU RX5 15 RX3 "ChicoryRoasters$Teller" ⟨"ChicoryRoasters$Teller", "tell", "(I)I"⟩ yX3_tell wsX3_tell) := goodIn_app (goodIn_of _ (by decide +kernel)) ggX5_digestOnto_X3_tell
set_option maxRecDepth 20000 in
theorem ggX5_digestOnto_X6_tell : GoodIn wsX5_digestOnto wsX6_tell := goodIn_r _ [70, 71, 72, 73, 74, 75, 76, 77, 78, 79, 80, 99, 100, 101, 102, 103, 104, 105, 106, 107, 108, 109, 110, 111, 112, 113, 114, 115, 116] (by decide +kernel) (by decide +kernel)
set_option maxRecDepth 20000 in
theorem gX5_digestOnto_X6_tell_u15X6 : GoodIn wsX5_digestOnto (va_wsU RX5 15 RX6 "ChicoryRoasters$Teller" ⟨"ChicoryRoasters$Teller", "tell", "(I)I"⟩ yX6_tell wsX6_tell) := goodIn_app (goodIn_of _ (by decide +kernel)) ggX5_digestOnto_X6_tell
theorem dX5_digestOnto_0 : decode cX5_digestOnto 0 = .ok (.lload_n 1, 1) := by decide +kernel
theorem dX5_digestOnto_1 : decode cX5_digestOnto 1 = .ok (.lstore_n 3, 1) := by decide +kernel
theorem dX5_digestOnto_2 : decode cX5_digestOnto 2 = .ok (.aload_n 0, 1) := by decide +kernel
theorem dX5_digestOnto_3 : decode cX5_digestOnto 3 = .ok (.invokevirtual 7, 3) := by decide +kernel
theorem dX5_digestOnto_6 : decode cX5_digestOnto 6 = .ok (.istore 5, 2) := by decide +kernel
theorem dX5_digestOnto_8 : decode cX5_digestOnto 8 = .ok (.iconst 0, 1) := by decide +kernel
theorem dX5_digestOnto_9 : decode cX5_digestOnto 9 = .ok (.istore 6, 2) := by decide +kernel
theorem dX5_digestOnto_11 : decode cX5_digestOnto 11 = .ok (.iload 6, 2) := by decide +kernel
theorem dX5_digestOnto_13 : decode cX5_digestOnto 13 = .ok (.iload 5, 2) := by decide +kernel
theorem dX5_digestOnto_15 : decode cX5_digestOnto 15 = .ok (.if_icmp .ge 23, 3) := by decide +kernel
theorem dX5_digestOnto_18 : decode cX5_digestOnto 18 = .ok (.lload_n 3, 1) := by decide +kernel
theorem dX5_digestOnto_19 : decode cX5_digestOnto 19 = .ok (.ldc2_w 13, 3) := by decide +kernel
theorem dX5_digestOnto_22 : decode cX5_digestOnto 22 = .ok (.lmul, 1) := by decide +kernel
theorem dX5_digestOnto_23 : decode cX5_digestOnto 23 = .ok (.aload_n 0, 1) := by decide +kernel
theorem dX5_digestOnto_24 : decode cX5_digestOnto 24 = .ok (.iload 6, 2) := by decide +kernel
theorem dX5_digestOnto_26 : decode cX5_digestOnto 26 = .ok (.invokevirtual 15, 3) := by decide +kernel
theorem dX5_digestOnto_29 : decode cX5_digestOnto 29 = .ok (.i2l, 1) := by decide +kernel
theorem dX5_digestOnto_30 : decode cX5_digestOnto 30 = .ok (.ladd, 1) := by decide +kernel
theorem dX5_digestOnto_31 : decode cX5_digestOnto 31 = .ok (.lstore_n 3, 1) := by decide +kernel
theorem dX5_digestOnto_32 : decode cX5_digestOnto 32 = .ok (.iinc 6 1, 3) := by decide +kernel
theorem dX5_digestOnto_35 : decode cX5_digestOnto 35 = .ok (.goto (-24), 3) := by decide +kernel
theorem dX5_digestOnto_38 : decode cX5_digestOnto 38 = .ok (.lload_n 3, 1) := by decide +kernel
theorem dX5_digestOnto_39 : decode cX5_digestOnto 39 = .ok (.lreturn, 1) := by decide +kernel
set_option maxRecDepth 20000 in
theorem ggX6_init_X5_init : GoodIn wsX6_init wsX5_init := goodIn_r _ [23, 24, 25, 26] (by decide +kernel) (by decide +kernel)
set_option maxRecDepth 20000 in
theorem gX6_init_X5_init_n3 : GoodIn wsX6_init (wsX5_init) := ggX6_init_X5_init
set_option maxRecDepth 20000 in
theorem ggX6_init_X4_init : GoodIn wsX6_init wsX4_init := goodIn_r _ [28, 29, 25, 26, 30, 51, 52, 53, 54, 55, 56, 57] (by decide +kernel) (by decide +kernel)
set_option maxRecDepth 20000 in
theorem gX6_init_X4_init_n37 : GoodIn wsX6_init (wsX4_init) := ggX6_init_X4_init
set_option maxRecDepth 20000 in
theorem ggX6_init_X0_init : GoodIn wsX6_init wsX0_init := goodIn_r _ [32, 21, 22, 23, 24, 25, 26] (by decide +kernel) (by decide +kernel)
set_option maxRecDepth 20000 in
theorem gX6_init_X0_init_n42 : GoodIn wsX6_init (wsX0_init) := ggX6_init_X0_init
set_option maxRecDepth 20000 in
theorem ggX6_init_X2_init : GoodIn wsX6_init wsX2_init := goodIn_r _ [34, 35, 21, 22, 23, 24, 25, 26, 61, 62, 63, 64, 65] (by decide +kernel) (by decide +kernel)
set_option maxRecDepth 20000 in
theorem gX6_init_X2_init_n43 : GoodIn wsX6_init (wsX2_init) := ggX6_init_X2_init
set_option maxRecDepth 20000 in
theorem ggX6_init_X3_init : GoodIn wsX6_init wsX3_init := goodIn_r _ [37, 21, 22, 23, 24, 25, 26] (by decide +kernel) (by decide +kernel)
set_option maxRecDepth 20000 in
theorem gX6_init_X3_init_n44 : GoodIn wsX6_init (wsX3_init) := ggX6_init_X3_init
set_option maxRecDepth 20000 in
theorem ggX6_init_X1_init : GoodIn wsX6_init wsX1_init := goodIn_r _ [39, 21, 22, 23, 24, 25, 26] (by decide +kernel) (by decide +kernel)
set_option maxRecDepth 20000 in
theorem gX6_init_X1_init_n45 : GoodIn wsX6_init (wsX1_init) := ggX6_init_X1_init
theorem dX6_init_0 : decode cX6_init 0 = .ok (.aload_n 0, 1) := by decide +kernel
theorem dX6_init_1 : decode cX6_init 1 = .ok (.invokespecial 3, 3) := by decide +kernel
theorem dX6_init_4 : decode cX6_init 4 = .ok (.aload_n 0, 1) := by decide +kernel
theorem dX6_init_5 : decode cX6_init 5 = .ok (.iconst 4, 1) := by decide +kernel
theorem dX6_init_6 : decode cX6_init 6 = .ok (.anewarray 9, 3) := by decide +kernel
theorem dX6_init_9 : decode cX6_init 9 = .ok (.putfield 11, 3) := by decide +kernel
theorem dX6_init_12 : decode cX6_init 12 = .ok (.aload_n 0, 1) := by decide +kernel
theorem dX6_init_13 : decode cX6_init 13 = .ok (.iconst 4, 1) := by decide +kernel
theorem dX6_init_14 : decode cX6_init 14 = .ok (.anewarray 17, 3) := by decide +kernel
theorem dX6_init_17 : decode cX6_init 17 = .ok (.putfield 19, 3) := by decide +kernel
theorem dX6_init_20 : decode cX6_init 20 = .ok (.aload_n 0, 1) := by decide +kernel
theorem dX6_init_21 : decode cX6_init 21 = .ok (.iconst 4, 1) := by decide +kernel
theorem dX6_init_22 : decode cX6_init 22 = .ok (.anewarray 23, 3) := by decide +kernel
theorem dX6_init_25 : decode cX6_init 25 = .ok (.putfield 25, 3) := by decide +kernel
theorem dX6_init_28 : decode cX6_init 28 = .ok (.aload_n 0, 1) := by decide +kernel
theorem dX6_init_29 : decode cX6_init 29 = .ok (.bipush 10, 2) := by decide +kernel
theorem dX6_init_31 : decode cX6_init 31 = .ok (.anewarray 29, 3) := by decide +kernel
theorem dX6_init_34 : decode cX6_init 34 = .ok (.putfield 31, 3) := by decide +kernel
theorem dX6_init_37 : decode cX6_init 37 = .ok (.aload_n 0, 1) := by decide +kernel
theorem dX6_init_38 : decode cX6_init 38 = .ok (.new 35, 3) := by decide +kernel
theorem dX6_init_41 : decode cX6_init 41 = .ok (.dup, 1) := by decide +kernel
theorem dX6_init_42 : decode cX6_init 42 = .ok (.invokespecial 37, 3) := by decide +kernel
theorem dX6_init_45 : decode cX6_init 45 = .ok (.putfield 38, 3) := by decide +kernel
theorem dX6_init_48 : decode cX6_init 48 = .ok (.iconst 0, 1) := by decide +kernel
theorem dX6_init_49 : decode cX6_init 49 = .ok (.istore_n 1, 1) := by decide +kernel
theorem dX6_init_50 : decode cX6_init 50 = .ok (.iload_n 1, 1) := by decide +kernel
theorem dX6_init_51 : decode cX6_init 51 = .ok (.iconst 4, 1) := by decide +kernel
theorem dX6_init_52 : decode cX6_init 52 = .ok (.if_icmp .ge 22, 3) := by decide +kernel
theorem dX6_init_55 : decode cX6_init 55 = .ok (.aload_n 0, 1) := by decide +kernel
theorem dX6_init_56 : decode cX6_init 56 = .ok (.getfield 11, 3) := by decide +kernel
theorem dX6_init_59 : decode cX6_init 59 = .ok (.iload_n 1, 1) := by decide +kernel
theorem dX6_init_60 : decode cX6_init 60 = .ok (.new 9, 3) := by decide +kernel
theorem dX6_init_63 : decode cX6_init 63 = .ok (.dup, 1) := by decide +kernel
theorem dX6_init_64 : decode cX6_init 64 = .ok (.invokespecial 42, 3) := by decide +kernel
theorem dX6_init_67 : decode cX6_init 67 = .ok (.aastore, 1) := by decide +kernel
theorem dX6_init_68 : decode cX6_init 68 = .ok (.iinc 1 1, 3) := by decide +kernel
theorem dX6_init_71 : decode cX6_init 71 = .ok (.goto (-21), 3) := by decide +kernel
theorem dX6_init_74 : decode cX6_init 74 = .ok (.iconst 0, 1) := by decide +kernel
theorem dX6_init_75 : decode cX6_init 75 = .ok (.istore_n 1, 1) := by decide +kernel
theorem dX6_init_76 : decode cX6_init 76 = .ok (.iload_n 1, 1) := by decide +kernel
theorem dX6_init_77 : decode cX6_init 77 = .ok (.iconst 4, 1) := by decide +kernel
theorem dX6_init_78 : decode cX6_init 78 = .ok (.if_icmp .ge 22, 3) := by decide +kernel
theorem dX6_init_81 : decode cX6_init 81 = .ok (.aload_n 0, 1) := by decide +kernel
theorem dX6_init_82 : decode cX6_init 82 = .ok (.getfield 19, 3) := by decide +kernel
theorem dX6_init_85 : decode cX6_init 85 = .ok (.iload_n 1, 1) := by decide +kernel
theorem dX6_init_86 : decode cX6_init 86 = .ok (.new 17, 3) := by decide +kernel
theorem dX6_init_89 : decode cX6_init 89 = .ok (.dup, 1) := by decide +kernel
theorem dX6_init_90 : decode cX6_init 90 = .ok (.invokespecial 43, 3) := by decide +kernel
theorem dX6_init_93 : decode cX6_init 93 = .ok (.aastore, 1) := by decide +kernel
theorem dX6_init_94 : decode cX6_init 94 = .ok (.iinc 1 1, 3) := by decide +kernel
theorem dX6_init_97 : decode cX6_init 97 = .ok (.goto (-21), 3) := by decide +kernel
theorem dX6_init_100 : decode cX6_init 100 = .ok (.iconst 0, 1) := by decide +kernel
theorem dX6_init_101 : decode cX6_init 101 = .ok (.istore_n 1, 1) := by decide +kernel
theorem dX6_init_102 : decode cX6_init 102 = .ok (.iload_n 1, 1) := by decide +kernel
theorem dX6_init_103 : decode cX6_init 103 = .ok (.iconst 4, 1) := by decide +kernel
theorem dX6_init_104 : decode cX6_init 104 = .ok (.if_icmp .ge 22, 3) := by decide +kernel
theorem dX6_init_107 : decode cX6_init 107 = .ok (.aload_n 0, 1) := by decide +kernel
theorem dX6_init_108 : decode cX6_init 108 = .ok (.getfield 25, 3) := by decide +kernel
theorem dX6_init_111 : decode cX6_init 111 = .ok (.iload_n 1, 1) := by decide +kernel
theorem dX6_init_112 : decode cX6_init 112 = .ok (.new 23, 3) := by decide +kernel
theorem dX6_init_115 : decode cX6_init 115 = .ok (.dup, 1) := by decide +kernel
theorem dX6_init_116 : decode cX6_init 116 = .ok (.invokespecial 44, 3) := by decide +kernel
theorem dX6_init_119 : decode cX6_init 119 = .ok (.aastore, 1) := by decide +kernel
theorem dX6_init_120 : decode cX6_init 120 = .ok (.iinc 1 1, 3) := by decide +kernel
theorem dX6_init_123 : decode cX6_init 123 = .ok (.goto (-21), 3) := by decide +kernel
theorem dX6_init_126 : decode cX6_init 126 = .ok (.iconst 0, 1) := by decide +kernel
theorem dX6_init_127 : decode cX6_init 127 = .ok (.istore_n 1, 1) := by decide +kernel
theorem dX6_init_128 : decode cX6_init 128 = .ok (.iload_n 1, 1) := by decide +kernel
theorem dX6_init_129 : decode cX6_init 129 = .ok (.bipush 10, 2) := by decide +kernel
theorem dX6_init_131 : decode cX6_init 131 = .ok (.if_icmp .ge 22, 3) := by decide +kernel
theorem dX6_init_134 : decode cX6_init 134 = .ok (.aload_n 0, 1) := by decide +kernel
theorem dX6_init_135 : decode cX6_init 135 = .ok (.getfield 31, 3) := by decide +kernel
theorem dX6_init_138 : decode cX6_init 138 = .ok (.iload_n 1, 1) := by decide +kernel
theorem dX6_init_139 : decode cX6_init 139 = .ok (.new 29, 3) := by decide +kernel
theorem dX6_init_142 : decode cX6_init 142 = .ok (.dup, 1) := by decide +kernel
theorem dX6_init_143 : decode cX6_init 143 = .ok (.invokespecial 45, 3) := by decide +kernel
theorem dX6_init_146 : decode cX6_init 146 = .ok (.aastore, 1) := by decide +kernel
theorem dX6_init_147 : decode cX6_init 147 = .ok (.iinc 1 1, 3) := by decide +kernel
theorem dX6_init_150 : decode cX6_init 150 = .ok (.goto (-22), 3) := by decide +kernel
theorem dX6_init_153 : decode cX6_init 153 = .ok (.return_, 1) := by decide +kernel
theorem dX6_patrolled_0 : decode cX6_patrolled 0 = .ok (.aload_n 0, 1) := by decide +kernel
theorem dX6_patrolled_1 : decode cX6_patrolled 1 = .ok (.getfield 46, 3) := by decide +kernel
theorem dX6_patrolled_4 : decode cX6_patrolled 4 = .ok (.iload_n 1, 1) := by decide +kernel
theorem dX6_patrolled_5 : decode cX6_patrolled 5 = .ok (.bipush 7, 2) := by decide +kernel
theorem dX6_patrolled_7 : decode cX6_patrolled 7 = .ok (.irem, 1) := by decide +kernel
theorem dX6_patrolled_8 : decode cX6_patrolled 8 = .ok (.ishr, 1) := by decide +kernel
theorem dX6_patrolled_9 : decode cX6_patrolled 9 = .ok (.iconst 1, 1) := by decide +kernel
theorem dX6_patrolled_10 : decode cX6_patrolled 10 = .ok (.iand, 1) := by decide +kernel
theorem dX6_patrolled_11 : decode cX6_patrolled 11 = .ok (.iconst 1, 1) := by decide +kernel
theorem dX6_patrolled_12 : decode cX6_patrolled 12 = .ok (.if_icmp .ne 7, 3) := by decide +kernel
theorem dX6_patrolled_15 : decode cX6_patrolled 15 = .ok (.iconst 1, 1) := by decide +kernel
theorem dX6_patrolled_16 : decode cX6_patrolled 16 = .ok (.goto 4, 3) := by decide +kernel
theorem dX6_patrolled_19 : decode cX6_patrolled 19 = .ok (.iconst 0, 1) := by decide +kernel
theorem dX6_patrolled_20 : decode cX6_patrolled 20 = .ok (.ireturn, 1) := by decide +kernel
set_option maxRecDepth 20000 in
theorem ggX6_live_X6_travel : GoodIn wsX6_live wsX6_travel := goodIn_r _ [6, 7, 8, 9, 1, 10, 11, 12, 5, 13, 14, 15, 16, 17, 18, 19, 20, 21, 22, 23, 24, 25, 26, 27, 28, 29, 30, 31, 32, 33, 34, 35, 119, 120, 121, 122, 123, 124, 125, 126, 127, 128, 129, 130, 131, 132, 133, 134, 135, 136, 137, 138, 139, 140, 141] (by decide +kernel) (by decide +kernel)
set_option maxRecDepth 20000 in
theorem gX6_live_X6_travel : GoodIn wsX6_live (wsV RX6 50 RX6 yX6_travel wsX6_travel) := goodIn_app (goodIn_of _ (by decide +kernel)) ggX6_live_X6_travel
set_option maxRecDepth 20000 in
theorem ggX6_live_X6_warm : GoodIn wsX6_live wsX6_warm := goodIn_r _ [39, 40, 41, 42, 43, 44, 45, 46, 47, 48, 49, 50, 51, 52, 53, 54, 55, 56, 57, 58, 59, 60, 61, 119, 120, 121, 122, 123, 124, 125, 126, 127, 128, 129, 142, 143, 144, 145, 146] (by decide +kernel) (by decide +kernel)
set_option maxRecDepth 20000 in
theorem gX6_live_X6_warm : GoodIn wsX6_live (wsV RX6 53 RX6 yX6_warm wsX6_warm) := goodIn_app (goodIn_of _ (by decide +kernel)) ggX6_live_X6_warm
set_option maxRecDepth 20000 in
theorem ggX6_live_X6_grow : GoodIn wsX6_live wsX6_grow := goodIn_r _ [65, 66, 67, 68, 69, 70, 71, 72, 73, 74, 75, 76, 55, 56, 57, 119, 120, 121, 122, 123, 124, 125, 126, 127, 128, 129, 147, 148, 149] (by decide +kernel) (by decide +kernel)
set_option maxRecDepth 20000 in
theorem gX6_live_X6_grow : GoodIn wsX6_live (wsV RX6 56 RX6 yX6_grow wsX6_grow) := goodIn_app (goodIn_of _ (by decide +kernel)) ggX6_live_X6_grow
set_option maxRecDepth 20000 in
theorem ggX6_live_X6_serve : GoodIn wsX6_live wsX6_serve := goodIn_r _ [80, 81, 1, 82, 8, 83, 84, 85, 86, 87, 88, 89, 90, 91, 92, 93, 94, 95, 96, 97, 98, 99, 100, 101, 102, 103, 32, 104, 105, 106, 107, 55, 56, 57, 108, 109, 110, 111, 112, 113, 114, 115, 116, 117, 118, 119, 120, 121, 122, 123, 124, 125, 126, 127, 128, 129, 150, 151, 152, 153, 154, 135, 136, 137, 138, 139, 140, 141] (by decide +kernel) (by decide +kernel)
set_option maxRecDepth 20000 in
theorem gX6_live_X6_serve : GoodIn wsX6_live (wsV RX6 59 RX6 yX6_serve wsX6_serve) := goodIn_app (goodIn_of _ (by decide +kernel)) ggX6_live_X6_serve
theorem dX6_live_0 : decode cX6_live 0 = .ok (.iconst 0, 1) := by decide +kernel
theorem dX6_live_1 : decode cX6_live 1 = .ok (.istore_n 2, 1) := by decide +kernel
theorem dX6_live_2 : decode cX6_live 2 = .ok (.iconst 0, 1) := by decide +kernel
theorem dX6_live_3 : decode cX6_live 3 = .ok (.istore_n 3, 1) := by decide +kernel
theorem dX6_live_4 : decode cX6_live 4 = .ok (.iload_n 3, 1) := by decide +kernel
theorem dX6_live_5 : decode cX6_live 5 = .ok (.iload_n 1, 1) := by decide +kernel
theorem dX6_live_6 : decode cX6_live 6 = .ok (.if_icmp .ge 38, 3) := by decide +kernel
theorem dX6_live_9 : decode cX6_live 9 = .ok (.aload_n 0, 1) := by decide +kernel
theorem dX6_live_10 : decode cX6_live 10 = .ok (.invokevirtual 50, 3) := by decide +kernel
theorem dX6_live_13 : decode cX6_live 13 = .ok (.aload_n 0, 1) := by decide +kernel
theorem dX6_live_14 : decode cX6_live 14 = .ok (.invokevirtual 53, 3) := by decide +kernel
theorem dX6_live_17 : decode cX6_live 17 = .ok (.aload_n 0, 1) := by decide +kernel
theorem dX6_live_18 : decode cX6_live 18 = .ok (.invokevirtual 56, 3) := by decide +kernel
theorem dX6_live_21 : decode cX6_live 21 = .ok (.iload_n 2, 1) := by decide +kernel
theorem dX6_live_22 : decode cX6_live 22 = .ok (.aload_n 0, 1) := by decide +kernel
theorem dX6_live_23 : decode cX6_live 23 = .ok (.invokevirtual 59, 3) := by decide +kernel
theorem dX6_live_26 : decode cX6_live 26 = .ok (.iadd, 1) := by decide +kernel
theorem dX6_live_27 : decode cX6_live 27 = .ok (.istore_n 2, 1) := by decide +kernel
theorem dX6_live_28 : decode cX6_live 28 = .ok (.aload_n 0, 1) := by decide +kernel
theorem dX6_live_29 : decode cX6_live 29 = .ok (.dup, 1) := by decide +kernel
theorem dX6_live_30 : decode cX6_live 30 = .ok (.getfield 63, 3) := by decide +kernel
theorem dX6_live_33 : decode cX6_live 33 = .ok (.iconst 1, 1) := by decide +kernel
theorem dX6_live_34 : decode cX6_live 34 = .ok (.iadd, 1) := by decide +kernel
theorem dX6_live_35 : decode cX6_live 35 = .ok (.putfield 63, 3) := by decide +kernel
theorem dX6_live_38 : decode cX6_live 38 = .ok (.iinc 3 1, 3) := by decide +kernel
theorem dX6_live_41 : decode cX6_live 41 = .ok (.goto (-37), 3) := by decide +kernel
theorem dX6_live_44 : decode cX6_live 44 = .ok (.iload_n 2, 1) := by decide +kernel
theorem dX6_live_45 : decode cX6_live 45 = .ok (.ireturn, 1) := by decide +kernel
set_option maxRecDepth 20000 in
theorem ggX6_travel_X6_patrolled : GoodIn wsX6_travel wsX6_patrolled := goodIn_r _ [9, 10, 32, 33, 34, 35, 36, 37, 38, 39, 40, 41, 42] (by decide +kernel) (by decide +kernel)
set_option maxRecDepth 20000 in
theorem gX6_travel_X6_patrolled : GoodIn wsX6_travel (wsV RX6 69 RX6 yX6_patrolled wsX6_patrolled) := goodIn_app (goodIn_of _ (by decide +kernel)) ggX6_travel_X6_patrolled
set_option maxRecDepth 20000 in
theorem ggX6_travel_X3_travel : GoodIn wsX6_travel wsX3_travel := goodIn_r _ [15, 16, 17, 18, 19, 20, 21, 22, 14, 23, 24, 43, 44, 45, 46, 47] (by decide +kernel) (by decide +kernel)
set_option maxRecDepth 20000 in
theorem gX6_travel_X3_travel : GoodIn wsX6_travel (wsV RX6 73 RX3 yX3_travel wsX3_travel) := goodIn_app (goodIn_of _ (by decide +kernel)) ggX6_travel_X3_travel
set_option maxRecDepth 20000 in
theorem ggX6_travel_X4_add : GoodIn wsX6_travel wsX4_add := goodIn_r _ [29, 30, 31, 48, 49, 50, 51, 52, 53, 54] (by decide +kernel) (by decide +kernel)
set_option maxRecDepth 20000 in
theorem gX6_travel_X4_add : GoodIn wsX6_travel (wsV RX6 76 RX4 yX4_add wsX4_add) := goodIn_app (goodIn_of _ (by decide +kernel)) ggX6_travel_X4_add
theorem dX6_travel_0 : decode cX6_travel 0 = .ok (.iconst 0, 1) := by decide +kernel
theorem dX6_travel_1 : decode cX6_travel 1 = .ok (.istore_n 1, 1) := by decide +kernel
theorem dX6_travel_2 : decode cX6_travel 2 = .ok (.iload_n 1, 1) := by decide +kernel
theorem dX6_travel_3 : decode cX6_travel 3 = .ok (.aload_n 0, 1) := by decide +kernel
theorem dX6_travel_4 : decode cX6_travel 4 = .ok (.getfield 66, 3) := by decide +kernel
theorem dX6_travel_7 : decode cX6_travel 7 = .ok (.if_icmp .ge 34, 3) := by decide +kernel
theorem dX6_travel_10 : decode cX6_travel 10 = .ok (.aload_n 0, 1) := by decide +kernel
theorem dX6_travel_11 : decode cX6_travel 11 = .ok (.getfield 38, 3) := by decide +kernel
theorem dX6_travel_14 : decode cX6_travel 14 = .ok (.iconst 1, 1) := by decide +kernel
theorem dX6_travel_15 : decode cX6_travel 15 = .ok (.aload_n 0, 1) := by decide +kernel
theorem dX6_travel_16 : decode cX6_travel 16 = .ok (.getfield 25, 3) := by decide +kernel
theorem dX6_travel_19 : decode cX6_travel 19 = .ok (.iload_n 1, 1) := by decide +kernel
theorem dX6_travel_20 : decode cX6_travel 20 = .ok (.aaload, 1) := by decide +kernel
theorem dX6_travel_21 : decode cX6_travel 21 = .ok (.aload_n 0, 1) := by decide +kernel
theorem dX6_travel_22 : decode cX6_travel 22 = .ok (.aload_n 0, 1) := by decide +kernel
theorem dX6_travel_23 : decode cX6_travel 23 = .ok (.getfield 63, 3) := by decide +kernel
theorem dX6_travel_26 : decode cX6_travel 26 = .ok (.invokevirtual 69, 3) := by decide +kernel
theorem dX6_travel_29 : decode cX6_travel 29 = .ok (.invokevirtual 73, 3) := by decide +kernel
theorem dX6_travel_32 : decode cX6_travel 32 = .ok (.invokevirtual 76, 3) := by decide +kernel
theorem dX6_travel_35 : decode cX6_travel 35 = .ok (.iinc 1 1, 3) := by decide +kernel
theorem dX6_travel_38 : decode cX6_travel 38 = .ok (.goto (-36), 3) := by decide +kernel
theorem dX6_travel_41 : decode cX6_travel 41 = .ok (.return_, 1) := by decide +kernel
set_option maxRecDepth 20000 in
theorem ggX6_warm_X2_warm : GoodIn wsX6_warm wsX2_warm := goodIn_r _ [7, 8, 9, 10, 11, 6, 12, 13, 14, 15, 16, 17, 18, 19, 20, 21, 22, 34, 35, 36, 37, 38] (by decide +kernel) (by decide +kernel)
set_option maxRecDepth 20000 in
theorem gX6_warm_X2_warm : GoodIn wsX6_warm (wsV RX6 83 RX2 yX2_warm wsX2_warm) := goodIn_app (goodIn_of _ (by decide +kernel)) ggX6_warm_X2_warm
theorem dX6_warm_0 : decode cX6_warm 0 = .ok (.iconst 0, 1) := by decide +kernel
theorem dX6_warm_1 : decode cX6_warm 1 = .ok (.istore_n 1, 1) := by decide +kernel
theorem dX6_warm_2 : decode cX6_warm 2 = .ok (.iload_n 1, 1) := by decide +kernel
theorem dX6_warm_3 : decode cX6_warm 3 = .ok (.aload_n 0, 1) := by decide +kernel
theorem dX6_warm_4 : decode cX6_warm 4 = .ok (.getfield 80, 3) := by decide +kernel
theorem dX6_warm_7 : decode cX6_warm 7 = .ok (.if_icmp .ge 18, 3) := by decide +kernel
theorem dX6_warm_10 : decode cX6_warm 10 = .ok (.aload_n 0, 1) := by decide +kernel
theorem dX6_warm_11 : decode cX6_warm 11 = .ok (.getfield 19, 3) := by decide +kernel
theorem dX6_warm_14 : decode cX6_warm 14 = .ok (.iload_n 1, 1) := by decide +kernel
theorem dX6_warm_15 : decode cX6_warm 15 = .ok (.aaload, 1) := by decide +kernel
theorem dX6_warm_16 : decode cX6_warm 16 = .ok (.invokevirtual 83, 3) := by decide +kernel
theorem dX6_warm_19 : decode cX6_warm 19 = .ok (.iinc 1 1, 3) := by decide +kernel
theorem dX6_warm_22 : decode cX6_warm 22 = .ok (.goto (-20), 3) := by decide +kernel
theorem dX6_warm_25 : decode cX6_warm 25 = .ok (.return_, 1) := by decide +kernel
set_option maxRecDepth 20000 in
theorem ggX6_grow_X0_grow : GoodIn wsX6_grow wsX0_grow := goodIn_r _ [7, 8, 9, 10, 11, 12, 13, 14, 26, 27, 28] (by decide +kernel) (by decide +kernel)
set_option maxRecDepth 20000 in
theorem gX6_grow_X0_grow : GoodIn wsX6_grow (wsV RX6 87 RX0 yX0_grow wsX0_grow) := goodIn_app (goodIn_of _ (by decide +kernel)) ggX6_grow_X0_grow
theorem dX6_grow_0 : decode cX6_grow 0 = .ok (.iconst 0, 1) := by decide +kernel
theorem dX6_grow_1 : decode cX6_grow 1 = .ok (.istore_n 1, 1) := by decide +kernel
theorem dX6_grow_2 : decode cX6_grow 2 = .ok (.iload_n 1, 1) := by decide +kernel
theorem dX6_grow_3 : decode cX6_grow 3 = .ok (.aload_n 0, 1) := by decide +kernel
theorem dX6_grow_4 : decode cX6_grow 4 = .ok (.getfield 84, 3) := by decide +kernel
theorem dX6_grow_7 : decode cX6_grow 7 = .ok (.if_icmp .ge 18, 3) := by decide +kernel
theorem dX6_grow_10 : decode cX6_grow 10 = .ok (.aload_n 0, 1) := by decide +kernel
theorem dX6_grow_11 : decode cX6_grow 11 = .ok (.getfield 11, 3) := by decide +kernel
theorem dX6_grow_14 : decode cX6_grow 14 = .ok (.iload_n 1, 1) := by decide +kernel
theorem dX6_grow_15 : decode cX6_grow 15 = .ok (.aaload, 1) := by decide +kernel
theorem dX6_grow_16 : decode cX6_grow 16 = .ok (.invokevirtual 87, 3) := by decide +kernel
theorem dX6_grow_19 : decode cX6_grow 19 = .ok (.iinc 1 1, 3) := by decide +kernel
theorem dX6_grow_22 : decode cX6_grow 22 = .ok (.goto (-20), 3) := by decide +kernel
theorem dX6_grow_25 : decode cX6_grow 25 = .ok (.return_, 1) := by decide +kernel
set_option maxRecDepth 20000 in
theorem ggX6_serve_X1_renew : GoodIn wsX6_serve wsX1_renew := goodIn_r _ [9, 10, 11, 56, 57, 58, 59, 60] (by decide +kernel) (by decide +kernel)
set_option maxRecDepth 20000 in
theorem gX6_serve_X1_renew : GoodIn wsX6_serve (wsV RX6 91 RX1 yX1_renew wsX1_renew) := goodIn_app (goodIn_of _ (by decide +kernel)) ggX6_serve_X1_renew
set_option maxRecDepth 20000 in
theorem ggX6_serve_X1_serveDay : GoodIn wsX6_serve wsX1_serveDay := goodIn_r _ [15, 16, 17, 18, 8, 19, 11, 20, 21, 22, 23, 24, 25, 26, 27, 28, 29, 30, 31, 32, 33, 34, 35, 36, 37, 38, 39, 40, 41, 42, 43, 44, 56, 57, 58, 59, 60, 61, 62, 63, 64, 65, 66, 67] (by decide +kernel) (by decide +kernel)
set_option maxRecDepth 20000 in
theorem gX6_serve_X1_serveDay : GoodIn wsX6_serve (wsV RX6 94 RX1 yX1_serveDay wsX1_serveDay) := goodIn_app (goodIn_of _ (by decide +kernel)) ggX6_serve_X1_serveDay
theorem dX6_serve_0 : decode cX6_serve 0 = .ok (.iconst 0, 1) := by decide +kernel
theorem dX6_serve_1 : decode cX6_serve 1 = .ok (.istore_n 1, 1) := by decide +kernel
theorem dX6_serve_2 : decode cX6_serve 2 = .ok (.iconst 0, 1) := by decide +kernel
theorem dX6_serve_3 : decode cX6_serve 3 = .ok (.istore_n 2, 1) := by decide +kernel
theorem dX6_serve_4 : decode cX6_serve 4 = .ok (.iload_n 2, 1) := by decide +kernel
theorem dX6_serve_5 : decode cX6_serve 5 = .ok (.aload_n 0, 1) := by decide +kernel
theorem dX6_serve_6 : decode cX6_serve 6 = .ok (.getfield 88, 3) := by decide +kernel
theorem dX6_serve_9 : decode cX6_serve 9 = .ok (.if_icmp .ge 44, 3) := by decide +kernel
theorem dX6_serve_12 : decode cX6_serve 12 = .ok (.aload_n 0, 1) := by decide +kernel
theorem dX6_serve_13 : decode cX6_serve 13 = .ok (.getfield 63, 3) := by decide +kernel
theorem dX6_serve_16 : decode cX6_serve 16 = .ok (.bipush 7, 2) := by decide +kernel
theorem dX6_serve_18 : decode cX6_serve 18 = .ok (.irem, 1) := by decide +kernel
theorem dX6_serve_19 : decode cX6_serve 19 = .ok (.ifCond .ne 12, 3) := by decide +kernel
theorem dX6_serve_22 : decode cX6_serve 22 = .ok (.aload_n 0, 1) := by decide +kernel
theorem dX6_serve_23 : decode cX6_serve 23 = .ok (.getfield 31, 3) := by decide +kernel
theorem dX6_serve_26 : decode cX6_serve 26 = .ok (.iload_n 2, 1) := by decide +kernel
theorem dX6_serve_27 : decode cX6_serve 27 = .ok (.aaload, 1) := by decide +kernel
theorem dX6_serve_28 : decode cX6_serve 28 = .ok (.invokevirtual 91, 3) := by decide +kernel
theorem dX6_serve_31 : decode cX6_serve 31 = .ok (.iload_n 1, 1) := by decide +kernel
theorem dX6_serve_32 : decode cX6_serve 32 = .ok (.aload_n 0, 1) := by decide +kernel
theorem dX6_serve_33 : decode cX6_serve 33 = .ok (.getfield 31, 3) := by decide +kernel
theorem dX6_serve_36 : decode cX6_serve 36 = .ok (.iload_n 2, 1) := by decide +kernel
theorem dX6_serve_37 : decode cX6_serve 37 = .ok (.aaload, 1) := by decide +kernel
theorem dX6_serve_38 : decode cX6_serve 38 = .ok (.aload_n 0, 1) := by decide +kernel
theorem dX6_serve_39 : decode cX6_serve 39 = .ok (.getfield 38, 3) := by decide +kernel
theorem dX6_serve_42 : decode cX6_serve 42 = .ok (.invokevirtual 94, 3) := by decide +kernel
theorem dX6_serve_45 : decode cX6_serve 45 = .ok (.iadd, 1) := by decide +kernel
theorem dX6_serve_46 : decode cX6_serve 46 = .ok (.istore_n 1, 1) := by decide +kernel
theorem dX6_serve_47 : decode cX6_serve 47 = .ok (.iinc 2 1, 3) := by decide +kernel
theorem dX6_serve_50 : decode cX6_serve 50 = .ok (.goto (-46), 3) := by decide +kernel
theorem dX6_serve_53 : decode cX6_serve 53 = .ok (.iload_n 1, 1) := by decide +kernel
theorem dX6_serve_54 : decode cX6_serve 54 = .ok (.ireturn, 1) := by decide +kernel
set_option maxRecDepth 20000 in
theorem ggX6_become_X4_become : GoodIn wsX6_become wsX4_become := goodIn_r _ [16, 17, 18, 19, 20, 21, 22, 23, 73, 74, 75, 76, 77, 78, 79] (by decide +kernel) (by decide +kernel)
set_option maxRecDepth 20000 in
theorem gX6_become_X4_become : GoodIn wsX6_become (wsV RX6 98 RX4 yX4_become wsX4_become) := goodIn_app (goodIn_of _ (by decide +kernel)) ggX6_become_X4_become
set_option maxRecDepth 20000 in
theorem ggX6_become_X0_become : GoodIn wsX6_become wsX0_become := goodIn_r _ [28, 29, 30, 31, 80, 81, 82] (by decide +kernel) (by decide +kernel)
set_option maxRecDepth 20000 in
theorem gX6_become_X0_become : GoodIn wsX6_become (wsV RX6 102 RX0 yX0_become wsX0_become) := goodIn_app (goodIn_of _ (by decide +kernel)) ggX6_become_X0_become
set_option maxRecDepth 20000 in
theorem ggX6_become_X2_become : GoodIn wsX6_become wsX2_become := goodIn_r _ [36, 37, 38, 39, 40, 41, 83, 84, 85, 86, 87] (by decide +kernel) (by decide +kernel)
set_option maxRecDepth 20000 in
theorem gX6_become_X2_become : GoodIn wsX6_become (wsV RX6 105 RX2 yX2_become wsX2_become) := goodIn_app (goodIn_of _ (by decide +kernel)) ggX6_become_X2_become
set_option maxRecDepth 20000 in
theorem ggX6_become_X3_become : GoodIn wsX6_become wsX3_become := goodIn_r _ [46, 47, 48, 49, 50, 51, 88, 89, 90, 91, 92] (by decide +kernel) (by decide +kernel)
set_option maxRecDepth 20000 in
theorem gX6_become_X3_become : GoodIn wsX6_become (wsV RX6 108 RX3 yX3_become wsX3_become) := goodIn_app (goodIn_of _ (by decide +kernel)) ggX6_become_X3_become
set_option maxRecDepth 20000 in
theorem ggX6_become_X1_become : GoodIn wsX6_become wsX1_become := goodIn_r _ [56, 57, 58, 59, 60, 61, 93, 94, 95, 96, 97] (by decide +kernel) (by decide +kernel)
set_option maxRecDepth 20000 in
theorem gX6_become_X1_become : GoodIn wsX6_become (wsV RX6 111 RX1 yX1_become wsX1_become) := goodIn_app (goodIn_of _ (by decide +kernel)) ggX6_become_X1_become
theorem dX6_become_0 : decode cX6_become 0 = .ok (.aload_n 0, 1) := by decide +kernel
theorem dX6_become_1 : decode cX6_become 1 = .ok (.aload_n 1, 1) := by decide +kernel
theorem dX6_become_2 : decode cX6_become 2 = .ok (.getfield 63, 3) := by decide +kernel
theorem dX6_become_5 : decode cX6_become 5 = .ok (.putfield 63, 3) := by decide +kernel
theorem dX6_become_8 : decode cX6_become 8 = .ok (.aload_n 0, 1) := by decide +kernel
theorem dX6_become_9 : decode cX6_become 9 = .ok (.aload_n 1, 1) := by decide +kernel
theorem dX6_become_10 : decode cX6_become 10 = .ok (.getfield 46, 3) := by decide +kernel
theorem dX6_become_13 : decode cX6_become 13 = .ok (.putfield 46, 3) := by decide +kernel
theorem dX6_become_16 : decode cX6_become 16 = .ok (.aload_n 0, 1) := by decide +kernel
theorem dX6_become_17 : decode cX6_become 17 = .ok (.getfield 38, 3) := by decide +kernel
theorem dX6_become_20 : decode cX6_become 20 = .ok (.aload_n 1, 1) := by decide +kernel
theorem dX6_become_21 : decode cX6_become 21 = .ok (.getfield 38, 3) := by decide +kernel
theorem dX6_become_24 : decode cX6_become 24 = .ok (.invokevirtual 98, 3) := by decide +kernel
theorem dX6_become_27 : decode cX6_become 27 = .ok (.aload_n 0, 1) := by decide +kernel
theorem dX6_become_28 : decode cX6_become 28 = .ok (.aload_n 1, 1) := by decide +kernel
theorem dX6_become_29 : decode cX6_become 29 = .ok (.getfield 84, 3) := by decide +kernel
theorem dX6_become_32 : decode cX6_become 32 = .ok (.putfield 84, 3) := by decide +kernel
theorem dX6_become_35 : decode cX6_become 35 = .ok (.iconst 0, 1) := by decide +kernel
theorem dX6_become_36 : decode cX6_become 36 = .ok (.istore_n 2, 1) := by decide +kernel
theorem dX6_become_37 : decode cX6_become 37 = .ok (.iload_n 2, 1) := by decide +kernel
theorem dX6_become_38 : decode cX6_become 38 = .ok (.aload_n 0, 1) := by decide +kernel
theorem dX6_become_39 : decode cX6_become 39 = .ok (.getfield 84, 3) := by decide +kernel
theorem dX6_become_42 : decode cX6_become 42 = .ok (.if_icmp .ge 24, 3) := by decide +kernel
theorem dX6_become_45 : decode cX6_become 45 = .ok (.aload_n 0, 1) := by decide +kernel
theorem dX6_become_46 : decode cX6_become 46 = .ok (.getfield 11, 3) := by decide +kernel
theorem dX6_become_49 : decode cX6_become 49 = .ok (.iload_n 2, 1) := by decide +kernel
theorem dX6_become_50 : decode cX6_become 50 = .ok (.aaload, 1) := by decide +kernel
theorem dX6_become_51 : decode cX6_become 51 = .ok (.aload_n 1, 1) := by decide +kernel
theorem dX6_become_52 : decode cX6_become 52 = .ok (.getfield 11, 3) := by decide +kernel
theorem dX6_become_55 : decode cX6_become 55 = .ok (.iload_n 2, 1) := by decide +kernel
theorem dX6_become_56 : decode cX6_become 56 = .ok (.aaload, 1) := by decide +kernel
theorem dX6_become_57 : decode cX6_become 57 = .ok (.invokevirtual 102, 3) := by decide +kernel
theorem dX6_become_60 : decode cX6_become 60 = .ok (.iinc 2 1, 3) := by decide +kernel
theorem dX6_become_63 : decode cX6_become 63 = .ok (.goto (-26), 3) := by decide +kernel
theorem dX6_become_66 : decode cX6_become 66 = .ok (.aload_n 0, 1) := by decide +kernel
theorem dX6_become_67 : decode cX6_become 67 = .ok (.aload_n 1, 1) := by decide +kernel
theorem dX6_become_68 : decode cX6_become 68 = .ok (.getfield 80, 3) := by decide +kernel
theorem dX6_become_71 : decode cX6_become 71 = .ok (.putfield 80, 3) := by decide +kernel
theorem dX6_become_74 : decode cX6_become 74 = .ok (.iconst 0, 1) := by decide +kernel
theorem dX6_become_75 : decode cX6_become 75 = .ok (.istore_n 2, 1) := by decide +kernel
theorem dX6_become_76 : decode cX6_become 76 = .ok (.iload_n 2, 1) := by decide +kernel
theorem dX6_become_77 : decode cX6_become 77 = .ok (.aload_n 0, 1) := by decide +kernel
theorem dX6_become_78 : decode cX6_become 78 = .ok (.getfield 80, 3) := by decide +kernel
theorem dX6_become_81 : decode cX6_become 81 = .ok (.if_icmp .ge 24, 3) := by decide +kernel
theorem dX6_become_84 : decode cX6_become 84 = .ok (.aload_n 0, 1) := by decide +kernel
theorem dX6_become_85 : decode cX6_become 85 = .ok (.getfield 19, 3) := by decide +kernel
theorem dX6_become_88 : decode cX6_become 88 = .ok (.iload_n 2, 1) := by decide +kernel
theorem dX6_become_89 : decode cX6_become 89 = .ok (.aaload, 1) := by decide +kernel
theorem dX6_become_90 : decode cX6_become 90 = .ok (.aload_n 1, 1) := by decide +kernel
theorem dX6_become_91 : decode cX6_become 91 = .ok (.getfield 19, 3) := by decide +kernel
theorem dX6_become_94 : decode cX6_become 94 = .ok (.iload_n 2, 1) := by decide +kernel
theorem dX6_become_95 : decode cX6_become 95 = .ok (.aaload, 1) := by decide +kernel
theorem dX6_become_96 : decode cX6_become 96 = .ok (.invokevirtual 105, 3) := by decide +kernel
theorem dX6_become_99 : decode cX6_become 99 = .ok (.iinc 2 1, 3) := by decide +kernel
theorem dX6_become_102 : decode cX6_become 102 = .ok (.goto (-26), 3) := by decide +kernel
theorem dX6_become_105 : decode cX6_become 105 = .ok (.aload_n 0, 1) := by decide +kernel
theorem dX6_become_106 : decode cX6_become 106 = .ok (.aload_n 1, 1) := by decide +kernel
theorem dX6_become_107 : decode cX6_become 107 = .ok (.getfield 66, 3) := by decide +kernel
theorem dX6_become_110 : decode cX6_become 110 = .ok (.putfield 66, 3) := by decide +kernel
theorem dX6_become_113 : decode cX6_become 113 = .ok (.iconst 0, 1) := by decide +kernel
theorem dX6_become_114 : decode cX6_become 114 = .ok (.istore_n 2, 1) := by decide +kernel
theorem dX6_become_115 : decode cX6_become 115 = .ok (.iload_n 2, 1) := by decide +kernel
theorem dX6_become_116 : decode cX6_become 116 = .ok (.aload_n 0, 1) := by decide +kernel
theorem dX6_become_117 : decode cX6_become 117 = .ok (.getfield 66, 3) := by decide +kernel
theorem dX6_become_120 : decode cX6_become 120 = .ok (.if_icmp .ge 24, 3) := by decide +kernel
theorem dX6_become_123 : decode cX6_become 123 = .ok (.aload_n 0, 1) := by decide +kernel
theorem dX6_become_124 : decode cX6_become 124 = .ok (.getfield 25, 3) := by decide +kernel
theorem dX6_become_127 : decode cX6_become 127 = .ok (.iload_n 2, 1) := by decide +kernel
theorem dX6_become_128 : decode cX6_become 128 = .ok (.aaload, 1) := by decide +kernel
theorem dX6_become_129 : decode cX6_become 129 = .ok (.aload_n 1, 1) := by decide +kernel
theorem dX6_become_130 : decode cX6_become 130 = .ok (.getfield 25, 3) := by decide +kernel
theorem dX6_become_133 : decode cX6_become 133 = .ok (.iload_n 2, 1) := by decide +kernel
theorem dX6_become_134 : decode cX6_become 134 = .ok (.aaload, 1) := by decide +kernel
theorem dX6_become_135 : decode cX6_become 135 = .ok (.invokevirtual 108, 3) := by decide +kernel
theorem dX6_become_138 : decode cX6_become 138 = .ok (.iinc 2 1, 3) := by decide +kernel
theorem dX6_become_141 : decode cX6_become 141 = .ok (.goto (-26), 3) := by decide +kernel
theorem dX6_become_144 : decode cX6_become 144 = .ok (.aload_n 0, 1) := by decide +kernel
theorem dX6_become_145 : decode cX6_become 145 = .ok (.aload_n 1, 1) := by decide +kernel
theorem dX6_become_146 : decode cX6_become 146 = .ok (.getfield 88, 3) := by decide +kernel
theorem dX6_become_149 : decode cX6_become 149 = .ok (.putfield 88, 3) := by decide +kernel
theorem dX6_become_152 : decode cX6_become 152 = .ok (.iconst 0, 1) := by decide +kernel
theorem dX6_become_153 : decode cX6_become 153 = .ok (.istore_n 2, 1) := by decide +kernel
theorem dX6_become_154 : decode cX6_become 154 = .ok (.iload_n 2, 1) := by decide +kernel
theorem dX6_become_155 : decode cX6_become 155 = .ok (.aload_n 0, 1) := by decide +kernel
theorem dX6_become_156 : decode cX6_become 156 = .ok (.getfield 88, 3) := by decide +kernel
theorem dX6_become_159 : decode cX6_become 159 = .ok (.if_icmp .ge 24, 3) := by decide +kernel
theorem dX6_become_162 : decode cX6_become 162 = .ok (.aload_n 0, 1) := by decide +kernel
theorem dX6_become_163 : decode cX6_become 163 = .ok (.getfield 31, 3) := by decide +kernel
theorem dX6_become_166 : decode cX6_become 166 = .ok (.iload_n 2, 1) := by decide +kernel
theorem dX6_become_167 : decode cX6_become 167 = .ok (.aaload, 1) := by decide +kernel
theorem dX6_become_168 : decode cX6_become 168 = .ok (.aload_n 1, 1) := by decide +kernel
theorem dX6_become_169 : decode cX6_become 169 = .ok (.getfield 31, 3) := by decide +kernel
theorem dX6_become_172 : decode cX6_become 172 = .ok (.iload_n 2, 1) := by decide +kernel
theorem dX6_become_173 : decode cX6_become 173 = .ok (.aaload, 1) := by decide +kernel
theorem dX6_become_174 : decode cX6_become 174 = .ok (.invokevirtual 111, 3) := by decide +kernel
theorem dX6_become_177 : decode cX6_become 177 = .ok (.iinc 2 1, 3) := by decide +kernel
theorem dX6_become_180 : decode cX6_become 180 = .ok (.goto (-26), 3) := by decide +kernel
theorem dX6_become_183 : decode cX6_become 183 = .ok (.return_, 1) := by decide +kernel
theorem dX6_size_0 : decode cX6_size 0 = .ok (.bipush 9, 2) := by decide +kernel
theorem dX6_size_2 : decode cX6_size 2 = .ok (.ireturn, 1) := by decide +kernel
theorem dX6_tell_0 : decode cX6_tell 0 = .ok (.iload_n 1, 1) := by decide +kernel
theorem dX6_tell_1 : decode cX6_tell 1 = .ok (.tableswitch 108 0 7 #[47, 52, 60, 68, 76, 84, 92, 100], 47) := by decide +kernel
theorem dX6_tell_48 : decode cX6_tell 48 = .ok (.aload_n 0, 1) := by decide +kernel
theorem dX6_tell_49 : decode cX6_tell 49 = .ok (.getfield 63, 3) := by decide +kernel
theorem dX6_tell_52 : decode cX6_tell 52 = .ok (.ireturn, 1) := by decide +kernel
theorem dX6_tell_53 : decode cX6_tell 53 = .ok (.aload_n 0, 1) := by decide +kernel
theorem dX6_tell_54 : decode cX6_tell 54 = .ok (.getfield 38, 3) := by decide +kernel
theorem dX6_tell_57 : decode cX6_tell 57 = .ok (.getfield 114, 3) := by decide +kernel
theorem dX6_tell_60 : decode cX6_tell 60 = .ok (.ireturn, 1) := by decide +kernel
theorem dX6_tell_61 : decode cX6_tell 61 = .ok (.aload_n 0, 1) := by decide +kernel
theorem dX6_tell_62 : decode cX6_tell 62 = .ok (.getfield 38, 3) := by decide +kernel
theorem dX6_tell_65 : decode cX6_tell 65 = .ok (.getfield 117, 3) := by decide +kernel
theorem dX6_tell_68 : decode cX6_tell 68 = .ok (.ireturn, 1) := by decide +kernel
theorem dX6_tell_69 : decode cX6_tell 69 = .ok (.aload_n 0, 1) := by decide +kernel
theorem dX6_tell_70 : decode cX6_tell 70 = .ok (.getfield 38, 3) := by decide +kernel
theorem dX6_tell_73 : decode cX6_tell 73 = .ok (.getfield 120, 3) := by decide +kernel
theorem dX6_tell_76 : decode cX6_tell 76 = .ok (.ireturn, 1) := by decide +kernel
theorem dX6_tell_77 : decode cX6_tell 77 = .ok (.aload_n 0, 1) := by decide +kernel
theorem dX6_tell_78 : decode cX6_tell 78 = .ok (.getfield 38, 3) := by decide +kernel
theorem dX6_tell_81 : decode cX6_tell 81 = .ok (.getfield 123, 3) := by decide +kernel
theorem dX6_tell_84 : decode cX6_tell 84 = .ok (.ireturn, 1) := by decide +kernel
theorem dX6_tell_85 : decode cX6_tell 85 = .ok (.aload_n 0, 1) := by decide +kernel
theorem dX6_tell_86 : decode cX6_tell 86 = .ok (.getfield 38, 3) := by decide +kernel
theorem dX6_tell_89 : decode cX6_tell 89 = .ok (.getfield 126, 3) := by decide +kernel
theorem dX6_tell_92 : decode cX6_tell 92 = .ok (.ireturn, 1) := by decide +kernel
theorem dX6_tell_93 : decode cX6_tell 93 = .ok (.aload_n 0, 1) := by decide +kernel
theorem dX6_tell_94 : decode cX6_tell 94 = .ok (.getfield 38, 3) := by decide +kernel
theorem dX6_tell_97 : decode cX6_tell 97 = .ok (.getfield 129, 3) := by decide +kernel
theorem dX6_tell_100 : decode cX6_tell 100 = .ok (.ireturn, 1) := by decide +kernel
theorem dX6_tell_101 : decode cX6_tell 101 = .ok (.aload_n 0, 1) := by decide +kernel
theorem dX6_tell_102 : decode cX6_tell 102 = .ok (.getfield 38, 3) := by decide +kernel
theorem dX6_tell_105 : decode cX6_tell 105 = .ok (.getfield 132, 3) := by decide +kernel
theorem dX6_tell_108 : decode cX6_tell 108 = .ok (.ireturn, 1) := by decide +kernel
theorem dX6_tell_109 : decode cX6_tell 109 = .ok (.aload_n 0, 1) := by decide +kernel
theorem dX6_tell_110 : decode cX6_tell 110 = .ok (.getfield 46, 3) := by decide +kernel
theorem dX6_tell_113 : decode cX6_tell 113 = .ok (.ireturn, 1) := by decide +kernel
end
section
set_option maxRecDepth 20000 in
theorem ggX7_init_X6_init : GoodIn wsX7_init wsX6_init := goodIn_r _ [11, 12, 13, 14, 15, 16, 17, 18, 19, 20, 21, 22, 23, 24, 25, 26, 27, 28, 29, 30, 31, 32, 33, 34, 35, 2, 3, 36, 37, 38, 39, 40, 41, 42, 43, 44, 45, 46, 47, 48, 49, 50, 51, 52, 53, 54, 55, 56, 57, 58, 59, 62, 63, 64, 65, 66, 67, 68, 69, 70, 71, 72, 73, 74, 75, 76, 77, 78, 79, 80, 81, 82, 83, 84, 85, 86] (by decide +kernel) (by decide +kernel)
set_option maxRecDepth 20000 in
theorem gX7_init_X6_init : GoodIn wsX7_init (wsX6_init) := ggX7_init_X6_init
theorem dX7_init_0 : decode cX7_init 0 = .ok (.aload_n 0, 1) := by decide +kernel
theorem dX7_init_1 : decode cX7_init 1 = .ok (.invokespecial 1, 3) := by decide +kernel
theorem dX7_init_4 : decode cX7_init 4 = .ok (.aload_n 0, 1) := by decide +kernel
theorem dX7_init_5 : decode cX7_init 5 = .ok (.new 7, 3) := by decide +kernel
theorem dX7_init_8 : decode cX7_init 8 = .ok (.dup, 1) := by decide +kernel
theorem dX7_init_9 : decode cX7_init 9 = .ok (.invokespecial 9, 3) := by decide +kernel
theorem dX7_init_12 : decode cX7_init 12 = .ok (.putfield 10, 3) := by decide +kernel
theorem dX7_init_15 : decode cX7_init 15 = .ok (.aload_n 0, 1) := by decide +kernel
theorem dX7_init_16 : decode cX7_init 16 = .ok (.new 7, 3) := by decide +kernel
theorem dX7_init_19 : decode cX7_init 19 = .ok (.dup, 1) := by decide +kernel
theorem dX7_init_20 : decode cX7_init 20 = .ok (.invokespecial 9, 3) := by decide +kernel
theorem dX7_init_23 : decode cX7_init 23 = .ok (.putfield 16, 3) := by decide +kernel
theorem dX7_init_26 : decode cX7_init 26 = .ok (.return_, 1) := by decide +kernel
set_option maxRecDepth 20000 in
theorem ggX7_bed_X7_checkNumber : GoodIn wsX7_bed wsX7_checkNumber := goodIn_ca (goodIn_r _ [7, 8, 9] (by decide +kernel) (by decide +kernel)) (goodIn_sub (fun _ h => List.mem_cons_of_mem _ (List.mem_append_left _ (List.mem_append_right _ h))) (by decide +kernel))
set_option maxRecDepth 20000 in
theorem gX7_bed_X7_checkNumber : GoodIn wsX7_bed (va_wsS RX7 19 yX7_checkNumber wsX7_checkNumber) := goodIn_app (goodIn_of _ (by decide +kernel)) ggX7_bed_X7_checkNumber
set_option maxRecDepth 20000 in
theorem ggX7_bed_X7_checkState : GoodIn wsX7_bed wsX7_checkState := goodIn_ca (goodIn_r _ [12, 13, 14] (by decide +kernel) (by decide +kernel)) (goodIn_sub (fun _ h => List.mem_cons_of_mem _ (List.mem_append_right _ h)) (by decide +kernel))
set_option maxRecDepth 20000 in
theorem gX7_bed_X7_checkState : GoodIn wsX7_bed (va_wsS RX7 27 yX7_checkState wsX7_checkState) := goodIn_app (goodIn_of _ (by decide +kernel)) ggX7_bed_X7_checkState
set_option maxRecDepth 20000 in
theorem ggX7_bed_X0_lay : GoodIn wsX7_bed wsX0_lay := goodIn_r _ [19, 20, 21, 35, 36, 37] (by decide +kernel) (by decide +kernel)
set_option maxRecDepth 20000 in
theorem gX7_bed_X0_lay : GoodIn wsX7_bed (wsV RX7 35 RX0 yX0_lay wsX0_lay) := goodIn_app (goodIn_of _ (by decide +kernel)) ggX7_bed_X0_lay
theorem dX7_bed_0 : decode cX7_bed 0 = .ok (.iload_n 1, 1) := by decide +kernel
theorem dX7_bed_1 : decode cX7_bed 1 = .ok (.iconst 0, 1) := by decide +kernel
theorem dX7_bed_2 : decode cX7_bed 2 = .ok (.bipush 9, 2) := by decide +kernel
theorem dX7_bed_4 : decode cX7_bed 4 = .ok (.invokestatic 19, 3) := by decide +kernel
theorem dX7_bed_7 : decode cX7_bed 7 = .ok (.iload_n 2, 1) := by decide +kernel
theorem dX7_bed_8 : decode cX7_bed 8 = .ok (.iconst 1, 1) := by decide +kernel
theorem dX7_bed_9 : decode cX7_bed 9 = .ok (.bipush 99, 2) := by decide +kernel
theorem dX7_bed_11 : decode cX7_bed 11 = .ok (.invokestatic 19, 3) := by decide +kernel
theorem dX7_bed_14 : decode cX7_bed 14 = .ok (.aload_n 0, 1) := by decide +kernel
theorem dX7_bed_15 : decode cX7_bed 15 = .ok (.getfield 10, 3) := by decide +kernel
theorem dX7_bed_18 : decode cX7_bed 18 = .ok (.getfield 23, 3) := by decide +kernel
theorem dX7_bed_21 : decode cX7_bed 21 = .ok (.iconst 4, 1) := by decide +kernel
theorem dX7_bed_22 : decode cX7_bed 22 = .ok (.if_icmp .ge 7, 3) := by decide +kernel
theorem dX7_bed_25 : decode cX7_bed 25 = .ok (.iconst 1, 1) := by decide +kernel
theorem dX7_bed_26 : decode cX7_bed 26 = .ok (.goto 4, 3) := by decide +kernel
theorem dX7_bed_29 : decode cX7_bed 29 = .ok (.iconst 0, 1) := by decide +kernel
theorem dX7_bed_30 : decode cX7_bed 30 = .ok (.invokestatic 27, 3) := by decide +kernel
theorem dX7_bed_33 : decode cX7_bed 33 = .ok (.aload_n 0, 1) := by decide +kernel
theorem dX7_bed_34 : decode cX7_bed 34 = .ok (.getfield 10, 3) := by decide +kernel
theorem dX7_bed_37 : decode cX7_bed 37 = .ok (.getfield 31, 3) := by decide +kernel
theorem dX7_bed_40 : decode cX7_bed 40 = .ok (.aload_n 0, 1) := by decide +kernel
theorem dX7_bed_41 : decode cX7_bed 41 = .ok (.getfield 10, 3) := by decide +kernel
theorem dX7_bed_44 : decode cX7_bed 44 = .ok (.getfield 23, 3) := by decide +kernel
theorem dX7_bed_47 : decode cX7_bed 47 = .ok (.aaload, 1) := by decide +kernel
theorem dX7_bed_48 : decode cX7_bed 48 = .ok (.iload_n 1, 1) := by decide +kernel
theorem dX7_bed_49 : decode cX7_bed 49 = .ok (.iload_n 2, 1) := by decide +kernel
theorem dX7_bed_50 : decode cX7_bed 50 = .ok (.invokevirtual 35, 3) := by decide +kernel
theorem dX7_bed_53 : decode cX7_bed 53 = .ok (.aload_n 0, 1) := by decide +kernel
theorem dX7_bed_54 : decode cX7_bed 54 = .ok (.getfield 10, 3) := by decide +kernel
theorem dX7_bed_57 : decode cX7_bed 57 = .ok (.dup, 1) := by decide +kernel
theorem dX7_bed_58 : decode cX7_bed 58 = .ok (.getfield 23, 3) := by decide +kernel
theorem dX7_bed_61 : decode cX7_bed 61 = .ok (.dup_x1, 1) := by decide +kernel
theorem dX7_bed_62 : decode cX7_bed 62 = .ok (.iconst 1, 1) := by decide +kernel
theorem dX7_bed_63 : decode cX7_bed 63 = .ok (.iadd, 1) := by decide +kernel
theorem dX7_bed_64 : decode cX7_bed 64 = .ok (.putfield 23, 3) := by decide +kernel
theorem dX7_bed_67 : decode cX7_bed 67 = .ok (.ireturn, 1) := by decide +kernel
set_option maxRecDepth 20000 in
theorem ggX7_drum_X7_checkNumber : GoodIn wsX7_drum wsX7_checkNumber := goodIn_ca (goodIn_r _ [7, 8, 9] (by decide +kernel) (by decide +kernel)) (goodIn_sub (fun _ h => List.mem_cons_of_mem _ (List.mem_append_left _ (List.mem_append_right _ h))) (by decide +kernel))
set_option maxRecDepth 20000 in
theorem gX7_drum_X7_checkNumber : GoodIn wsX7_drum (va_wsS RX7 19 yX7_checkNumber wsX7_checkNumber) := goodIn_app (goodIn_of _ (by decide +kernel)) ggX7_drum_X7_checkNumber
set_option maxRecDepth 20000 in
theorem ggX7_drum_X7_checkState : GoodIn wsX7_drum wsX7_checkState := goodIn_ca (goodIn_r _ [12, 13, 14] (by decide +kernel) (by decide +kernel)) (goodIn_sub (fun _ h => List.mem_cons_of_mem _ (List.mem_append_right _ h)) (by decide +kernel))
set_option maxRecDepth 20000 in
theorem gX7_drum_X7_checkState : GoodIn wsX7_drum (va_wsS RX7 27 yX7_checkState wsX7_checkState) := goodIn_app (goodIn_of _ (by decide +kernel)) ggX7_drum_X7_checkState
set_option maxRecDepth 20000 in
theorem ggX7_drum_X2_install : GoodIn wsX7_drum wsX2_install := goodIn_r _ [19, 20, 21, 35, 36, 37, 38, 39] (by decide +kernel) (by decide +kernel)
set_option maxRecDepth 20000 in
theorem gX7_drum_X2_install : GoodIn wsX7_drum (wsV RX7 48 RX2 yX2_install wsX2_install) := goodIn_app (goodIn_of _ (by decide +kernel)) ggX7_drum_X2_install
theorem dX7_drum_0 : decode cX7_drum 0 = .ok (.iload_n 1, 1) := by decide +kernel
theorem dX7_drum_1 : decode cX7_drum 1 = .ok (.iconst 1, 1) := by decide +kernel
theorem dX7_drum_2 : decode cX7_drum 2 = .ok (.bipush 40, 2) := by decide +kernel
theorem dX7_drum_4 : decode cX7_drum 4 = .ok (.invokestatic 19, 3) := by decide +kernel
theorem dX7_drum_7 : decode cX7_drum 7 = .ok (.iload_n 2, 1) := by decide +kernel
theorem dX7_drum_8 : decode cX7_drum 8 = .ok (.iconst 0, 1) := by decide +kernel
theorem dX7_drum_9 : decode cX7_drum 9 = .ok (.bipush 9, 2) := by decide +kernel
theorem dX7_drum_11 : decode cX7_drum 11 = .ok (.invokestatic 19, 3) := by decide +kernel
theorem dX7_drum_14 : decode cX7_drum 14 = .ok (.aload_n 0, 1) := by decide +kernel
theorem dX7_drum_15 : decode cX7_drum 15 = .ok (.getfield 10, 3) := by decide +kernel
theorem dX7_drum_18 : decode cX7_drum 18 = .ok (.getfield 41, 3) := by decide +kernel
theorem dX7_drum_21 : decode cX7_drum 21 = .ok (.iconst 4, 1) := by decide +kernel
theorem dX7_drum_22 : decode cX7_drum 22 = .ok (.if_icmp .ge 7, 3) := by decide +kernel
theorem dX7_drum_25 : decode cX7_drum 25 = .ok (.iconst 1, 1) := by decide +kernel
theorem dX7_drum_26 : decode cX7_drum 26 = .ok (.goto 4, 3) := by decide +kernel
theorem dX7_drum_29 : decode cX7_drum 29 = .ok (.iconst 0, 1) := by decide +kernel
theorem dX7_drum_30 : decode cX7_drum 30 = .ok (.invokestatic 27, 3) := by decide +kernel
theorem dX7_drum_33 : decode cX7_drum 33 = .ok (.aload_n 0, 1) := by decide +kernel
theorem dX7_drum_34 : decode cX7_drum 34 = .ok (.getfield 10, 3) := by decide +kernel
theorem dX7_drum_37 : decode cX7_drum 37 = .ok (.getfield 44, 3) := by decide +kernel
theorem dX7_drum_40 : decode cX7_drum 40 = .ok (.aload_n 0, 1) := by decide +kernel
theorem dX7_drum_41 : decode cX7_drum 41 = .ok (.getfield 10, 3) := by decide +kernel
theorem dX7_drum_44 : decode cX7_drum 44 = .ok (.getfield 41, 3) := by decide +kernel
theorem dX7_drum_47 : decode cX7_drum 47 = .ok (.aaload, 1) := by decide +kernel
theorem dX7_drum_48 : decode cX7_drum 48 = .ok (.iload_n 1, 1) := by decide +kernel
theorem dX7_drum_49 : decode cX7_drum 49 = .ok (.iload_n 2, 1) := by decide +kernel
theorem dX7_drum_50 : decode cX7_drum 50 = .ok (.invokevirtual 48, 3) := by decide +kernel
theorem dX7_drum_53 : decode cX7_drum 53 = .ok (.aload_n 0, 1) := by decide +kernel
theorem dX7_drum_54 : decode cX7_drum 54 = .ok (.getfield 10, 3) := by decide +kernel
theorem dX7_drum_57 : decode cX7_drum 57 = .ok (.dup, 1) := by decide +kernel
theorem dX7_drum_58 : decode cX7_drum 58 = .ok (.getfield 41, 3) := by decide +kernel
theorem dX7_drum_61 : decode cX7_drum 61 = .ok (.dup_x1, 1) := by decide +kernel
theorem dX7_drum_62 : decode cX7_drum 62 = .ok (.iconst 1, 1) := by decide +kernel
theorem dX7_drum_63 : decode cX7_drum 63 = .ok (.iadd, 1) := by decide +kernel
theorem dX7_drum_64 : decode cX7_drum 64 = .ok (.putfield 41, 3) := by decide +kernel
theorem dX7_drum_67 : decode cX7_drum 67 = .ok (.ireturn, 1) := by decide +kernel
set_option maxRecDepth 20000 in
theorem ggX7_smuggler_X7_checkNumber : GoodIn wsX7_smuggler wsX7_checkNumber := goodIn_ca (goodIn_r _ [7, 8, 9] (by decide +kernel) (by decide +kernel)) (goodIn_sub (fun _ h => List.mem_cons_of_mem _ (List.mem_append_left _ (List.mem_append_right _ h))) (by decide +kernel))
set_option maxRecDepth 20000 in
theorem gX7_smuggler_X7_checkNumber : GoodIn wsX7_smuggler (va_wsS RX7 19 yX7_checkNumber wsX7_checkNumber) := goodIn_app (goodIn_of _ (by decide +kernel)) ggX7_smuggler_X7_checkNumber
set_option maxRecDepth 20000 in
theorem ggX7_smuggler_X7_checkState : GoodIn wsX7_smuggler wsX7_checkState := goodIn_ca (goodIn_r _ [12, 13, 14] (by decide +kernel) (by decide +kernel)) (goodIn_sub (fun _ h => List.mem_cons_of_mem _ (List.mem_append_right _ h)) (by decide +kernel))
set_option maxRecDepth 20000 in
theorem gX7_smuggler_X7_checkState : GoodIn wsX7_smuggler (va_wsS RX7 27 yX7_checkState wsX7_checkState) := goodIn_app (goodIn_of _ (by decide +kernel)) ggX7_smuggler_X7_checkState
set_option maxRecDepth 20000 in
theorem ggX7_smuggler_X3_hire : GoodIn wsX7_smuggler wsX3_hire := goodIn_r _ [19, 20, 21, 35, 36, 37, 38, 39] (by decide +kernel) (by decide +kernel)
set_option maxRecDepth 20000 in
theorem gX7_smuggler_X3_hire : GoodIn wsX7_smuggler (wsV RX7 60 RX3 yX3_hire wsX3_hire) := goodIn_app (goodIn_of _ (by decide +kernel)) ggX7_smuggler_X3_hire
theorem dX7_smuggler_0 : decode cX7_smuggler 0 = .ok (.iload_n 1, 1) := by decide +kernel
theorem dX7_smuggler_1 : decode cX7_smuggler 1 = .ok (.iconst 2, 1) := by decide +kernel
theorem dX7_smuggler_2 : decode cX7_smuggler 2 = .ok (.bipush 14, 2) := by decide +kernel
theorem dX7_smuggler_4 : decode cX7_smuggler 4 = .ok (.invokestatic 19, 3) := by decide +kernel
theorem dX7_smuggler_7 : decode cX7_smuggler 7 = .ok (.iload_n 2, 1) := by decide +kernel
theorem dX7_smuggler_8 : decode cX7_smuggler 8 = .ok (.iconst 1, 1) := by decide +kernel
theorem dX7_smuggler_9 : decode cX7_smuggler 9 = .ok (.bipush 30, 2) := by decide +kernel
theorem dX7_smuggler_11 : decode cX7_smuggler 11 = .ok (.invokestatic 19, 3) := by decide +kernel
theorem dX7_smuggler_14 : decode cX7_smuggler 14 = .ok (.aload_n 0, 1) := by decide +kernel
theorem dX7_smuggler_15 : decode cX7_smuggler 15 = .ok (.getfield 10, 3) := by decide +kernel
theorem dX7_smuggler_18 : decode cX7_smuggler 18 = .ok (.getfield 53, 3) := by decide +kernel
theorem dX7_smuggler_21 : decode cX7_smuggler 21 = .ok (.iconst 4, 1) := by decide +kernel
theorem dX7_smuggler_22 : decode cX7_smuggler 22 = .ok (.if_icmp .ge 7, 3) := by decide +kernel
theorem dX7_smuggler_25 : decode cX7_smuggler 25 = .ok (.iconst 1, 1) := by decide +kernel
theorem dX7_smuggler_26 : decode cX7_smuggler 26 = .ok (.goto 4, 3) := by decide +kernel
theorem dX7_smuggler_29 : decode cX7_smuggler 29 = .ok (.iconst 0, 1) := by decide +kernel
theorem dX7_smuggler_30 : decode cX7_smuggler 30 = .ok (.invokestatic 27, 3) := by decide +kernel
theorem dX7_smuggler_33 : decode cX7_smuggler 33 = .ok (.aload_n 0, 1) := by decide +kernel
theorem dX7_smuggler_34 : decode cX7_smuggler 34 = .ok (.getfield 10, 3) := by decide +kernel
theorem dX7_smuggler_37 : decode cX7_smuggler 37 = .ok (.getfield 56, 3) := by decide +kernel
theorem dX7_smuggler_40 : decode cX7_smuggler 40 = .ok (.aload_n 0, 1) := by decide +kernel
theorem dX7_smuggler_41 : decode cX7_smuggler 41 = .ok (.getfield 10, 3) := by decide +kernel
theorem dX7_smuggler_44 : decode cX7_smuggler 44 = .ok (.getfield 53, 3) := by decide +kernel
theorem dX7_smuggler_47 : decode cX7_smuggler 47 = .ok (.aaload, 1) := by decide +kernel
theorem dX7_smuggler_48 : decode cX7_smuggler 48 = .ok (.iload_n 1, 1) := by decide +kernel
theorem dX7_smuggler_49 : decode cX7_smuggler 49 = .ok (.iload_n 2, 1) := by decide +kernel
theorem dX7_smuggler_50 : decode cX7_smuggler 50 = .ok (.invokevirtual 60, 3) := by decide +kernel
theorem dX7_smuggler_53 : decode cX7_smuggler 53 = .ok (.aload_n 0, 1) := by decide +kernel
theorem dX7_smuggler_54 : decode cX7_smuggler 54 = .ok (.getfield 10, 3) := by decide +kernel
theorem dX7_smuggler_57 : decode cX7_smuggler 57 = .ok (.dup, 1) := by decide +kernel
theorem dX7_smuggler_58 : decode cX7_smuggler 58 = .ok (.getfield 53, 3) := by decide +kernel
theorem dX7_smuggler_61 : decode cX7_smuggler 61 = .ok (.dup_x1, 1) := by decide +kernel
theorem dX7_smuggler_62 : decode cX7_smuggler 62 = .ok (.iconst 1, 1) := by decide +kernel
theorem dX7_smuggler_63 : decode cX7_smuggler 63 = .ok (.iadd, 1) := by decide +kernel
theorem dX7_smuggler_64 : decode cX7_smuggler 64 = .ok (.putfield 53, 3) := by decide +kernel
theorem dX7_smuggler_67 : decode cX7_smuggler 67 = .ok (.ireturn, 1) := by decide +kernel
set_option maxRecDepth 20000 in
theorem ggX7_card_X7_checkNumber : GoodIn wsX7_card wsX7_checkNumber := goodIn_ca (goodIn_r _ [7, 8, 9] (by decide +kernel) (by decide +kernel)) (goodIn_sub (fun _ h => List.mem_cons_of_mem _ (List.mem_append_left _ (List.mem_append_right _ h))) (by decide +kernel))
set_option maxRecDepth 20000 in
theorem gX7_card_X7_checkNumber : GoodIn wsX7_card (va_wsS RX7 19 yX7_checkNumber wsX7_checkNumber) := goodIn_app (goodIn_of _ (by decide +kernel)) ggX7_card_X7_checkNumber
set_option maxRecDepth 20000 in
theorem ggX7_card_X7_checkState : GoodIn wsX7_card wsX7_checkState := goodIn_ca (goodIn_r _ [12, 13, 14] (by decide +kernel) (by decide +kernel)) (goodIn_sub (fun _ h => List.mem_cons_of_mem _ (List.mem_append_right _ h)) (by decide +kernel))
set_option maxRecDepth 20000 in
theorem gX7_card_X7_checkState : GoodIn wsX7_card (va_wsS RX7 27 yX7_checkState wsX7_checkState) := goodIn_app (goodIn_of _ (by decide +kernel)) ggX7_card_X7_checkState
set_option maxRecDepth 20000 in
theorem ggX7_card_X1_issue : GoodIn wsX7_card wsX1_issue := goodIn_r _ [19, 20, 21, 22, 36, 37, 38, 39, 40] (by decide +kernel) (by decide +kernel)
set_option maxRecDepth 20000 in
theorem gX7_card_X1_issue : GoodIn wsX7_card (wsV RX7 72 RX1 yX1_issue wsX1_issue) := goodIn_app (goodIn_of _ (by decide +kernel)) ggX7_card_X1_issue
theorem dX7_card_0 : decode cX7_card 0 = .ok (.iload_n 1, 1) := by decide +kernel
theorem dX7_card_1 : decode cX7_card 1 = .ok (.iconst 1, 1) := by decide +kernel
theorem dX7_card_2 : decode cX7_card 2 = .ok (.bipush 9, 2) := by decide +kernel
theorem dX7_card_4 : decode cX7_card 4 = .ok (.invokestatic 19, 3) := by decide +kernel
theorem dX7_card_7 : decode cX7_card 7 = .ok (.iload_n 2, 1) := by decide +kernel
theorem dX7_card_8 : decode cX7_card 8 = .ok (.iconst 0, 1) := by decide +kernel
theorem dX7_card_9 : decode cX7_card 9 = .ok (.bipush 10, 2) := by decide +kernel
theorem dX7_card_11 : decode cX7_card 11 = .ok (.invokestatic 19, 3) := by decide +kernel
theorem dX7_card_14 : decode cX7_card 14 = .ok (.aload_n 0, 1) := by decide +kernel
theorem dX7_card_15 : decode cX7_card 15 = .ok (.getfield 10, 3) := by decide +kernel
theorem dX7_card_18 : decode cX7_card 18 = .ok (.getfield 65, 3) := by decide +kernel
theorem dX7_card_21 : decode cX7_card 21 = .ok (.bipush 10, 2) := by decide +kernel
theorem dX7_card_23 : decode cX7_card 23 = .ok (.if_icmp .ge 7, 3) := by decide +kernel
theorem dX7_card_26 : decode cX7_card 26 = .ok (.iconst 1, 1) := by decide +kernel
theorem dX7_card_27 : decode cX7_card 27 = .ok (.goto 4, 3) := by decide +kernel
theorem dX7_card_30 : decode cX7_card 30 = .ok (.iconst 0, 1) := by decide +kernel
theorem dX7_card_31 : decode cX7_card 31 = .ok (.invokestatic 27, 3) := by decide +kernel
theorem dX7_card_34 : decode cX7_card 34 = .ok (.aload_n 0, 1) := by decide +kernel
theorem dX7_card_35 : decode cX7_card 35 = .ok (.getfield 10, 3) := by decide +kernel
theorem dX7_card_38 : decode cX7_card 38 = .ok (.getfield 68, 3) := by decide +kernel
theorem dX7_card_41 : decode cX7_card 41 = .ok (.aload_n 0, 1) := by decide +kernel
theorem dX7_card_42 : decode cX7_card 42 = .ok (.getfield 10, 3) := by decide +kernel
theorem dX7_card_45 : decode cX7_card 45 = .ok (.getfield 65, 3) := by decide +kernel
theorem dX7_card_48 : decode cX7_card 48 = .ok (.aaload, 1) := by decide +kernel
theorem dX7_card_49 : decode cX7_card 49 = .ok (.iload_n 1, 1) := by decide +kernel
theorem dX7_card_50 : decode cX7_card 50 = .ok (.iload_n 2, 1) := by decide +kernel
theorem dX7_card_51 : decode cX7_card 51 = .ok (.invokevirtual 72, 3) := by decide +kernel
theorem dX7_card_54 : decode cX7_card 54 = .ok (.aload_n 0, 1) := by decide +kernel
theorem dX7_card_55 : decode cX7_card 55 = .ok (.getfield 10, 3) := by decide +kernel
theorem dX7_card_58 : decode cX7_card 58 = .ok (.dup, 1) := by decide +kernel
theorem dX7_card_59 : decode cX7_card 59 = .ok (.getfield 65, 3) := by decide +kernel
theorem dX7_card_62 : decode cX7_card 62 = .ok (.dup_x1, 1) := by decide +kernel
theorem dX7_card_63 : decode cX7_card 63 = .ok (.iconst 1, 1) := by decide +kernel
theorem dX7_card_64 : decode cX7_card 64 = .ok (.iadd, 1) := by decide +kernel
theorem dX7_card_65 : decode cX7_card 65 = .ok (.putfield 65, 3) := by decide +kernel
theorem dX7_card_68 : decode cX7_card 68 = .ok (.ireturn, 1) := by decide +kernel
set_option maxRecDepth 20000 in
theorem ggX7_setPatrol_X7_checkNumber : GoodIn wsX7_setPatrol wsX7_checkNumber := goodIn_ca (goodIn_r _ [6, 7, 8] (by decide +kernel) (by decide +kernel)) (goodIn_sub (fun _ h => List.mem_cons_of_mem _ (List.mem_append_right _ h)) (by decide +kernel))
set_option maxRecDepth 20000 in
theorem gX7_setPatrol_X7_checkNumber : GoodIn wsX7_setPatrol (va_wsS RX7 19 yX7_checkNumber wsX7_checkNumber) := goodIn_app (goodIn_of _ (by decide +kernel)) ggX7_setPatrol_X7_checkNumber
theorem dX7_setPatrol_0 : decode cX7_setPatrol 0 = .ok (.iload_n 1, 1) := by decide +kernel
theorem dX7_setPatrol_1 : decode cX7_setPatrol 1 = .ok (.iconst 0, 1) := by decide +kernel
theorem dX7_setPatrol_2 : decode cX7_setPatrol 2 = .ok (.bipush 127, 2) := by decide +kernel
theorem dX7_setPatrol_4 : decode cX7_setPatrol 4 = .ok (.invokestatic 19, 3) := by decide +kernel
theorem dX7_setPatrol_7 : decode cX7_setPatrol 7 = .ok (.aload_n 0, 1) := by decide +kernel
theorem dX7_setPatrol_8 : decode cX7_setPatrol 8 = .ok (.getfield 10, 3) := by decide +kernel
theorem dX7_setPatrol_11 : decode cX7_setPatrol 11 = .ok (.getfield 77, 3) := by decide +kernel
theorem dX7_setPatrol_14 : decode cX7_setPatrol 14 = .ok (.istore_n 2, 1) := by decide +kernel
theorem dX7_setPatrol_15 : decode cX7_setPatrol 15 = .ok (.aload_n 0, 1) := by decide +kernel
theorem dX7_setPatrol_16 : decode cX7_setPatrol 16 = .ok (.getfield 10, 3) := by decide +kernel
theorem dX7_setPatrol_19 : decode cX7_setPatrol 19 = .ok (.iload_n 1, 1) := by decide +kernel
theorem dX7_setPatrol_20 : decode cX7_setPatrol 20 = .ok (.putfield 77, 3) := by decide +kernel
theorem dX7_setPatrol_23 : decode cX7_setPatrol 23 = .ok (.iload_n 2, 1) := by decide +kernel
theorem dX7_setPatrol_24 : decode cX7_setPatrol 24 = .ok (.ireturn, 1) := by decide +kernel
set_option maxRecDepth 20000 in
theorem ggX7_setShare_X7_checkNumber : GoodIn wsX7_setShare wsX7_checkNumber := goodIn_ca (goodIn_r _ [7, 8, 9] (by decide +kernel) (by decide +kernel)) (goodIn_sub (fun _ h => List.mem_cons_of_mem _ (List.mem_append_right _ h)) (by decide +kernel))
set_option maxRecDepth 20000 in
theorem gX7_setShare_X7_checkNumber : GoodIn wsX7_setShare (va_wsS RX7 19 yX7_checkNumber wsX7_checkNumber) := goodIn_app (goodIn_of _ (by decide +kernel)) ggX7_setShare_X7_checkNumber
theorem dX7_setShare_0 : decode cX7_setShare 0 = .ok (.iload_n 1, 1) := by decide +kernel
theorem dX7_setShare_1 : decode cX7_setShare 1 = .ok (.iconst 0, 1) := by decide +kernel
theorem dX7_setShare_2 : decode cX7_setShare 2 = .ok (.bipush 10, 2) := by decide +kernel
theorem dX7_setShare_4 : decode cX7_setShare 4 = .ok (.invokestatic 19, 3) := by decide +kernel
theorem dX7_setShare_7 : decode cX7_setShare 7 = .ok (.aload_n 0, 1) := by decide +kernel
theorem dX7_setShare_8 : decode cX7_setShare 8 = .ok (.getfield 10, 3) := by decide +kernel
theorem dX7_setShare_11 : decode cX7_setShare 11 = .ok (.getfield 80, 3) := by decide +kernel
theorem dX7_setShare_14 : decode cX7_setShare 14 = .ok (.getfield 84, 3) := by decide +kernel
theorem dX7_setShare_17 : decode cX7_setShare 17 = .ok (.istore_n 2, 1) := by decide +kernel
theorem dX7_setShare_18 : decode cX7_setShare 18 = .ok (.aload_n 0, 1) := by decide +kernel
theorem dX7_setShare_19 : decode cX7_setShare 19 = .ok (.getfield 10, 3) := by decide +kernel
theorem dX7_setShare_22 : decode cX7_setShare 22 = .ok (.getfield 80, 3) := by decide +kernel
theorem dX7_setShare_25 : decode cX7_setShare 25 = .ok (.iload_n 1, 1) := by decide +kernel
theorem dX7_setShare_26 : decode cX7_setShare 26 = .ok (.putfield 84, 3) := by decide +kernel
theorem dX7_setShare_29 : decode cX7_setShare 29 = .ok (.iload_n 2, 1) := by decide +kernel
theorem dX7_setShare_30 : decode cX7_setShare 30 = .ok (.ireturn, 1) := by decide +kernel
set_option maxRecDepth 20000 in
theorem ggX7_setHeat_X7_checkIndex : GoodIn wsX7_setHeat wsX7_checkIndex := goodIn_ca (goodIn_r _ [8, 9, 10] (by decide +kernel) (by decide +kernel)) (goodIn_sub (fun _ h => List.mem_cons_of_mem _ (List.mem_append_left _ (List.mem_append_right _ h))) (by decide +kernel))
set_option maxRecDepth 20000 in
theorem gX7_setHeat_X7_checkIndex : GoodIn wsX7_setHeat (va_wsS RX7 89 yX7_checkIndex wsX7_checkIndex) := goodIn_app (goodIn_of _ (by decide +kernel)) ggX7_setHeat_X7_checkIndex
set_option maxRecDepth 20000 in
theorem ggX7_setHeat_X7_checkNumber : GoodIn wsX7_setHeat wsX7_checkNumber := goodIn_ca (goodIn_r _ [13, 14, 15] (by decide +kernel) (by decide +kernel)) (goodIn_sub (fun _ h => List.mem_cons_of_mem _ (List.mem_append_right _ h)) (by decide +kernel))
set_option maxRecDepth 20000 in
theorem gX7_setHeat_X7_checkNumber : GoodIn wsX7_setHeat (va_wsS RX7 19 yX7_checkNumber wsX7_checkNumber) := goodIn_app (goodIn_of _ (by decide +kernel)) ggX7_setHeat_X7_checkNumber
theorem dX7_setHeat_0 : decode cX7_setHeat 0 = .ok (.iload_n 1, 1) := by decide +kernel
theorem dX7_setHeat_1 : decode cX7_setHeat 1 = .ok (.aload_n 0, 1) := by decide +kernel
theorem dX7_setHeat_2 : decode cX7_setHeat 2 = .ok (.getfield 10, 3) := by decide +kernel
theorem dX7_setHeat_5 : decode cX7_setHeat 5 = .ok (.getfield 41, 3) := by decide +kernel
theorem dX7_setHeat_8 : decode cX7_setHeat 8 = .ok (.invokestatic 89, 3) := by decide +kernel
theorem dX7_setHeat_11 : decode cX7_setHeat 11 = .ok (.iload_n 2, 1) := by decide +kernel
theorem dX7_setHeat_12 : decode cX7_setHeat 12 = .ok (.iconst 0, 1) := by decide +kernel
theorem dX7_setHeat_13 : decode cX7_setHeat 13 = .ok (.bipush 9, 2) := by decide +kernel
theorem dX7_setHeat_15 : decode cX7_setHeat 15 = .ok (.invokestatic 19, 3) := by decide +kernel
theorem dX7_setHeat_18 : decode cX7_setHeat 18 = .ok (.aload_n 0, 1) := by decide +kernel
theorem dX7_setHeat_19 : decode cX7_setHeat 19 = .ok (.getfield 10, 3) := by decide +kernel
theorem dX7_setHeat_22 : decode cX7_setHeat 22 = .ok (.getfield 44, 3) := by decide +kernel
theorem dX7_setHeat_25 : decode cX7_setHeat 25 = .ok (.iload_n 1, 1) := by decide +kernel
theorem dX7_setHeat_26 : decode cX7_setHeat 26 = .ok (.aaload, 1) := by decide +kernel
theorem dX7_setHeat_27 : decode cX7_setHeat 27 = .ok (.getfield 92, 3) := by decide +kernel
theorem dX7_setHeat_30 : decode cX7_setHeat 30 = .ok (.istore_n 3, 1) := by decide +kernel
theorem dX7_setHeat_31 : decode cX7_setHeat 31 = .ok (.aload_n 0, 1) := by decide +kernel
theorem dX7_setHeat_32 : decode cX7_setHeat 32 = .ok (.getfield 10, 3) := by decide +kernel
theorem dX7_setHeat_35 : decode cX7_setHeat 35 = .ok (.getfield 44, 3) := by decide +kernel
theorem dX7_setHeat_38 : decode cX7_setHeat 38 = .ok (.iload_n 1, 1) := by decide +kernel
theorem dX7_setHeat_39 : decode cX7_setHeat 39 = .ok (.aaload, 1) := by decide +kernel
theorem dX7_setHeat_40 : decode cX7_setHeat 40 = .ok (.iload_n 2, 1) := by decide +kernel
theorem dX7_setHeat_41 : decode cX7_setHeat 41 = .ok (.putfield 92, 3) := by decide +kernel
theorem dX7_setHeat_44 : decode cX7_setHeat 44 = .ok (.iload_n 3, 1) := by decide +kernel
theorem dX7_setHeat_45 : decode cX7_setHeat 45 = .ok (.ireturn, 1) := by decide +kernel
set_option maxRecDepth 20000 in
theorem ggX7_dig_X7_checkIndex : GoodIn wsX7_dig wsX7_checkIndex := goodIn_ca (goodIn_r _ [9, 10, 11] (by decide +kernel) (by decide +kernel)) (goodIn_sub (fun _ h => List.mem_cons_of_mem _ (List.mem_append_left _ (List.mem_append_left _ (List.mem_append_right _ h)))) (by decide +kernel))
set_option maxRecDepth 20000 in
theorem gX7_dig_X7_checkIndex : GoodIn wsX7_dig (va_wsS RX7 89 yX7_checkIndex wsX7_checkIndex) := goodIn_app (goodIn_of _ (by decide +kernel)) ggX7_dig_X7_checkIndex
set_option maxRecDepth 20000 in
theorem ggX7_dig_X7_checkNumber : GoodIn wsX7_dig wsX7_checkNumber := goodIn_ca (goodIn_r _ [14, 15, 16] (by decide +kernel) (by decide +kernel)) (goodIn_sub (fun _ h => List.mem_cons_of_mem _ (List.mem_append_left _ (List.mem_append_right _ h))) (by decide +kernel))
set_option maxRecDepth 20000 in
theorem gX7_dig_X7_checkNumber : GoodIn wsX7_dig (va_wsS RX7 19 yX7_checkNumber wsX7_checkNumber) := goodIn_app (goodIn_of _ (by decide +kernel)) ggX7_dig_X7_checkNumber
set_option maxRecDepth 20000 in
theorem ggX7_dig_X7_checkState : GoodIn wsX7_dig wsX7_checkState := goodIn_ca (goodIn_r _ [19, 20, 21] (by decide +kernel) (by decide +kernel)) (goodIn_sub (fun _ h => List.mem_cons_of_mem _ (List.mem_append_right _ h)) (by decide +kernel))
set_option maxRecDepth 20000 in
theorem gX7_dig_X7_checkState : GoodIn wsX7_dig (va_wsS RX7 27 yX7_checkState wsX7_checkState) := goodIn_app (goodIn_of _ (by decide +kernel)) ggX7_dig_X7_checkState
set_option maxRecDepth 20000 in
theorem ggX7_dig_X4_add : GoodIn wsX7_dig wsX4_add := goodIn_r _ [26, 27, 28, 45, 46, 47, 48, 49, 50, 51] (by decide +kernel) (by decide +kernel)
set_option maxRecDepth 20000 in
theorem gX7_dig_X4_add : GoodIn wsX7_dig (wsV RX7 98 RX4 yX4_add wsX4_add) := goodIn_app (goodIn_of _ (by decide +kernel)) ggX7_dig_X4_add
theorem dX7_dig_0 : decode cX7_dig 0 = .ok (.iload_n 1, 1) := by decide +kernel
theorem dX7_dig_1 : decode cX7_dig 1 = .ok (.aload_n 0, 1) := by decide +kernel
theorem dX7_dig_2 : decode cX7_dig 2 = .ok (.getfield 10, 3) := by decide +kernel
theorem dX7_dig_5 : decode cX7_dig 5 = .ok (.getfield 23, 3) := by decide +kernel
theorem dX7_dig_8 : decode cX7_dig 8 = .ok (.invokestatic 89, 3) := by decide +kernel
theorem dX7_dig_11 : decode cX7_dig 11 = .ok (.iload_n 2, 1) := by decide +kernel
theorem dX7_dig_12 : decode cX7_dig 12 = .ok (.iconst 1, 1) := by decide +kernel
theorem dX7_dig_13 : decode cX7_dig 13 = .ok (.bipush 99, 2) := by decide +kernel
theorem dX7_dig_15 : decode cX7_dig 15 = .ok (.invokestatic 19, 3) := by decide +kernel
theorem dX7_dig_18 : decode cX7_dig 18 = .ok (.aload_n 0, 1) := by decide +kernel
theorem dX7_dig_19 : decode cX7_dig 19 = .ok (.getfield 10, 3) := by decide +kernel
theorem dX7_dig_22 : decode cX7_dig 22 = .ok (.getfield 31, 3) := by decide +kernel
theorem dX7_dig_25 : decode cX7_dig 25 = .ok (.iload_n 1, 1) := by decide +kernel
theorem dX7_dig_26 : decode cX7_dig 26 = .ok (.aaload, 1) := by decide +kernel
theorem dX7_dig_27 : decode cX7_dig 27 = .ok (.getfield 95, 3) := by decide +kernel
theorem dX7_dig_30 : decode cX7_dig 30 = .ok (.iload_n 2, 1) := by decide +kernel
theorem dX7_dig_31 : decode cX7_dig 31 = .ok (.if_icmp .lt 7, 3) := by decide +kernel
theorem dX7_dig_34 : decode cX7_dig 34 = .ok (.iconst 1, 1) := by decide +kernel
theorem dX7_dig_35 : decode cX7_dig 35 = .ok (.goto 4, 3) := by decide +kernel
theorem dX7_dig_38 : decode cX7_dig 38 = .ok (.iconst 0, 1) := by decide +kernel
theorem dX7_dig_39 : decode cX7_dig 39 = .ok (.invokestatic 27, 3) := by decide +kernel
theorem dX7_dig_42 : decode cX7_dig 42 = .ok (.aload_n 0, 1) := by decide +kernel
theorem dX7_dig_43 : decode cX7_dig 43 = .ok (.getfield 10, 3) := by decide +kernel
theorem dX7_dig_46 : decode cX7_dig 46 = .ok (.getfield 31, 3) := by decide +kernel
theorem dX7_dig_49 : decode cX7_dig 49 = .ok (.iload_n 1, 1) := by decide +kernel
theorem dX7_dig_50 : decode cX7_dig 50 = .ok (.aaload, 1) := by decide +kernel
theorem dX7_dig_51 : decode cX7_dig 51 = .ok (.dup, 1) := by decide +kernel
theorem dX7_dig_52 : decode cX7_dig 52 = .ok (.getfield 95, 3) := by decide +kernel
theorem dX7_dig_55 : decode cX7_dig 55 = .ok (.iload_n 2, 1) := by decide +kernel
theorem dX7_dig_56 : decode cX7_dig 56 = .ok (.isub, 1) := by decide +kernel
theorem dX7_dig_57 : decode cX7_dig 57 = .ok (.putfield 95, 3) := by decide +kernel
theorem dX7_dig_60 : decode cX7_dig 60 = .ok (.aload_n 0, 1) := by decide +kernel
theorem dX7_dig_61 : decode cX7_dig 61 = .ok (.getfield 10, 3) := by decide +kernel
theorem dX7_dig_64 : decode cX7_dig 64 = .ok (.getfield 80, 3) := by decide +kernel
theorem dX7_dig_67 : decode cX7_dig 67 = .ok (.iconst 0, 1) := by decide +kernel
theorem dX7_dig_68 : decode cX7_dig 68 = .ok (.iload_n 2, 1) := by decide +kernel
theorem dX7_dig_69 : decode cX7_dig 69 = .ok (.invokevirtual 98, 3) := by decide +kernel
theorem dX7_dig_72 : decode cX7_dig 72 = .ok (.aload_n 0, 1) := by decide +kernel
theorem dX7_dig_73 : decode cX7_dig 73 = .ok (.getfield 10, 3) := by decide +kernel
theorem dX7_dig_76 : decode cX7_dig 76 = .ok (.getfield 31, 3) := by decide +kernel
theorem dX7_dig_79 : decode cX7_dig 79 = .ok (.iload_n 1, 1) := by decide +kernel
theorem dX7_dig_80 : decode cX7_dig 80 = .ok (.aaload, 1) := by decide +kernel
theorem dX7_dig_81 : decode cX7_dig 81 = .ok (.getfield 95, 3) := by decide +kernel
theorem dX7_dig_84 : decode cX7_dig 84 = .ok (.ireturn, 1) := by decide +kernel
set_option maxRecDepth 20000 in
theorem ggX7_give_X7_checkIndex : GoodIn wsX7_give wsX7_checkIndex := goodIn_ca (goodIn_r _ [6, 7, 8] (by decide +kernel) (by decide +kernel)) (goodIn_sub (fun _ h => List.mem_cons_of_mem _ (List.mem_append_left _ (List.mem_append_right _ h))) (by decide +kernel))
set_option maxRecDepth 20000 in
theorem gX7_give_X7_checkIndex : GoodIn wsX7_give (va_wsS RX7 89 yX7_checkIndex wsX7_checkIndex) := goodIn_app (goodIn_of _ (by decide +kernel)) ggX7_give_X7_checkIndex
set_option maxRecDepth 20000 in
theorem ggX7_give_X7_checkNumber : GoodIn wsX7_give wsX7_checkNumber := goodIn_ca (goodIn_r _ [11, 12, 13] (by decide +kernel) (by decide +kernel)) (goodIn_sub (fun _ h => List.mem_cons_of_mem _ (List.mem_append_right _ h)) (by decide +kernel))
set_option maxRecDepth 20000 in
theorem gX7_give_X7_checkNumber : GoodIn wsX7_give (va_wsS RX7 19 yX7_checkNumber wsX7_checkNumber) := goodIn_app (goodIn_of _ (by decide +kernel)) ggX7_give_X7_checkNumber
set_option maxRecDepth 20000 in
theorem ggX7_give_X4_add : GoodIn wsX7_give wsX4_add := goodIn_r _ [18, 19, 20, 38, 39, 40, 41, 42, 43, 44] (by decide +kernel) (by decide +kernel)
set_option maxRecDepth 20000 in
theorem gX7_give_X4_add : GoodIn wsX7_give (wsV RX7 98 RX4 yX4_add wsX4_add) := goodIn_app (goodIn_of _ (by decide +kernel)) ggX7_give_X4_add
set_option maxRecDepth 20000 in
theorem ggX7_give_X4_stock : GoodIn wsX7_give wsX4_stock := goodIn_r _ [24, 19, 20, 38, 39, 40, 41, 42, 43, 44] (by decide +kernel) (by decide +kernel)
set_option maxRecDepth 20000 in
theorem gX7_give_X4_stock : GoodIn wsX7_give (wsV RX7 101 RX4 yX4_stock wsX4_stock) := goodIn_app (goodIn_of _ (by decide +kernel)) ggX7_give_X4_stock
theorem dX7_give_0 : decode cX7_give 0 = .ok (.iload_n 1, 1) := by decide +kernel
theorem dX7_give_1 : decode cX7_give 1 = .ok (.iconst 2, 1) := by decide +kernel
theorem dX7_give_2 : decode cX7_give 2 = .ok (.invokestatic 89, 3) := by decide +kernel
theorem dX7_give_5 : decode cX7_give 5 = .ok (.iload_n 2, 1) := by decide +kernel
theorem dX7_give_6 : decode cX7_give 6 = .ok (.iconst 1, 1) := by decide +kernel
theorem dX7_give_7 : decode cX7_give 7 = .ok (.bipush 99, 2) := by decide +kernel
theorem dX7_give_9 : decode cX7_give 9 = .ok (.invokestatic 19, 3) := by decide +kernel
theorem dX7_give_12 : decode cX7_give 12 = .ok (.aload_n 0, 1) := by decide +kernel
theorem dX7_give_13 : decode cX7_give 13 = .ok (.getfield 10, 3) := by decide +kernel
theorem dX7_give_16 : decode cX7_give 16 = .ok (.getfield 80, 3) := by decide +kernel
theorem dX7_give_19 : decode cX7_give 19 = .ok (.iload_n 1, 1) := by decide +kernel
theorem dX7_give_20 : decode cX7_give 20 = .ok (.iload_n 2, 1) := by decide +kernel
theorem dX7_give_21 : decode cX7_give 21 = .ok (.invokevirtual 98, 3) := by decide +kernel
theorem dX7_give_24 : decode cX7_give 24 = .ok (.aload_n 0, 1) := by decide +kernel
theorem dX7_give_25 : decode cX7_give 25 = .ok (.getfield 10, 3) := by decide +kernel
theorem dX7_give_28 : decode cX7_give 28 = .ok (.getfield 80, 3) := by decide +kernel
theorem dX7_give_31 : decode cX7_give 31 = .ok (.iload_n 1, 1) := by decide +kernel
theorem dX7_give_32 : decode cX7_give 32 = .ok (.invokevirtual 101, 3) := by decide +kernel
theorem dX7_give_35 : decode cX7_give 35 = .ok (.ireturn, 1) := by decide +kernel
set_option maxRecDepth 20000 in
theorem ggX7_load_X7_checkIndex : GoodIn wsX7_load wsX7_checkIndex := goodIn_ca (goodIn_r _ [10, 11, 12] (by decide +kernel) (by decide +kernel)) (goodIn_sub (fun _ h => List.mem_cons_of_mem _ (List.mem_append_left _ (List.mem_append_left _ (List.mem_append_right _ h)))) (by decide +kernel))
set_option maxRecDepth 20000 in
theorem gX7_load_X7_checkIndex : GoodIn wsX7_load (va_wsS RX7 89 yX7_checkIndex wsX7_checkIndex) := goodIn_app (goodIn_of _ (by decide +kernel)) ggX7_load_X7_checkIndex
set_option maxRecDepth 20000 in
theorem ggX7_load_X7_checkNumber : GoodIn wsX7_load wsX7_checkNumber := goodIn_ca (goodIn_r _ [15, 16, 17] (by decide +kernel) (by decide +kernel)) (goodIn_sub (fun _ h => List.mem_cons_of_mem _ (List.mem_append_left _ (List.mem_append_right _ h))) (by decide +kernel))
set_option maxRecDepth 20000 in
theorem gX7_load_X7_checkNumber : GoodIn wsX7_load (va_wsS RX7 19 yX7_checkNumber wsX7_checkNumber) := goodIn_app (goodIn_of _ (by decide +kernel)) ggX7_load_X7_checkNumber
set_option maxRecDepth 20000 in
theorem ggX7_load_X7_checkState : GoodIn wsX7_load wsX7_checkState := goodIn_ca (goodIn_r _ [20, 21, 22] (by decide +kernel) (by decide +kernel)) (goodIn_sub (fun _ h => List.mem_cons_of_mem _ (List.mem_append_right _ h)) (by decide +kernel))
set_option maxRecDepth 20000 in
theorem gX7_load_X7_checkState : GoodIn wsX7_load (va_wsS RX7 27 yX7_checkState wsX7_checkState) := goodIn_app (goodIn_of _ (by decide +kernel)) ggX7_load_X7_checkState
set_option maxRecDepth 20000 in
theorem ggX7_load_X4_stock : GoodIn wsX7_load wsX4_stock := goodIn_r _ [27, 28, 29, 60, 61, 62, 63, 64, 65, 66] (by decide +kernel) (by decide +kernel)
set_option maxRecDepth 20000 in
theorem gX7_load_X4_stock : GoodIn wsX7_load (wsV RX7 101 RX4 yX4_stock wsX4_stock) := goodIn_app (goodIn_of _ (by decide +kernel)) ggX7_load_X4_stock
set_option maxRecDepth 20000 in
theorem ggX7_load_X4_add : GoodIn wsX7_load wsX4_add := goodIn_r _ [33, 28, 29, 60, 61, 62, 63, 64, 65, 66] (by decide +kernel) (by decide +kernel)
set_option maxRecDepth 20000 in
theorem gX7_load_X4_add : GoodIn wsX7_load (wsV RX7 98 RX4 yX4_add wsX4_add) := goodIn_app (goodIn_of _ (by decide +kernel)) ggX7_load_X4_add
set_option maxRecDepth 20000 in
theorem ggX7_load_X2_fill : GoodIn wsX7_load wsX2_fill := goodIn_r _ [38, 39, 40, 41, 55, 56, 57, 58, 59] (by decide +kernel) (by decide +kernel)
set_option maxRecDepth 20000 in
theorem gX7_load_X2_fill : GoodIn wsX7_load (wsV RX7 111 RX2 yX2_fill wsX2_fill) := goodIn_app (goodIn_of _ (by decide +kernel)) ggX7_load_X2_fill
theorem dX7_load_0 : decode cX7_load 0 = .ok (.iload_n 1, 1) := by decide +kernel
theorem dX7_load_1 : decode cX7_load 1 = .ok (.aload_n 0, 1) := by decide +kernel
theorem dX7_load_2 : decode cX7_load 2 = .ok (.getfield 10, 3) := by decide +kernel
theorem dX7_load_5 : decode cX7_load 5 = .ok (.getfield 41, 3) := by decide +kernel
theorem dX7_load_8 : decode cX7_load 8 = .ok (.invokestatic 89, 3) := by decide +kernel
theorem dX7_load_11 : decode cX7_load 11 = .ok (.iload_n 2, 1) := by decide +kernel
theorem dX7_load_12 : decode cX7_load 12 = .ok (.iconst 2, 1) := by decide +kernel
theorem dX7_load_13 : decode cX7_load 13 = .ok (.invokestatic 89, 3) := by decide +kernel
theorem dX7_load_16 : decode cX7_load 16 = .ok (.iload_n 3, 1) := by decide +kernel
theorem dX7_load_17 : decode cX7_load 17 = .ok (.iconst 1, 1) := by decide +kernel
theorem dX7_load_18 : decode cX7_load 18 = .ok (.aload_n 0, 1) := by decide +kernel
theorem dX7_load_19 : decode cX7_load 19 = .ok (.getfield 10, 3) := by decide +kernel
theorem dX7_load_22 : decode cX7_load 22 = .ok (.getfield 44, 3) := by decide +kernel
theorem dX7_load_25 : decode cX7_load 25 = .ok (.iload_n 1, 1) := by decide +kernel
theorem dX7_load_26 : decode cX7_load 26 = .ok (.aaload, 1) := by decide +kernel
theorem dX7_load_27 : decode cX7_load 27 = .ok (.getfield 105, 3) := by decide +kernel
theorem dX7_load_30 : decode cX7_load 30 = .ok (.invokestatic 19, 3) := by decide +kernel
theorem dX7_load_33 : decode cX7_load 33 = .ok (.aload_n 0, 1) := by decide +kernel
theorem dX7_load_34 : decode cX7_load 34 = .ok (.getfield 10, 3) := by decide +kernel
theorem dX7_load_37 : decode cX7_load 37 = .ok (.getfield 44, 3) := by decide +kernel
theorem dX7_load_40 : decode cX7_load 40 = .ok (.iload_n 1, 1) := by decide +kernel
theorem dX7_load_41 : decode cX7_load 41 = .ok (.aaload, 1) := by decide +kernel
theorem dX7_load_42 : decode cX7_load 42 = .ok (.getfield 108, 3) := by decide +kernel
theorem dX7_load_45 : decode cX7_load 45 = .ok (.iconst (-1), 1) := by decide +kernel
theorem dX7_load_46 : decode cX7_load 46 = .ok (.if_icmp .ne 7, 3) := by decide +kernel
theorem dX7_load_49 : decode cX7_load 49 = .ok (.iconst 1, 1) := by decide +kernel
theorem dX7_load_50 : decode cX7_load 50 = .ok (.goto 4, 3) := by decide +kernel
theorem dX7_load_53 : decode cX7_load 53 = .ok (.iconst 0, 1) := by decide +kernel
theorem dX7_load_54 : decode cX7_load 54 = .ok (.invokestatic 27, 3) := by decide +kernel
theorem dX7_load_57 : decode cX7_load 57 = .ok (.aload_n 0, 1) := by decide +kernel
theorem dX7_load_58 : decode cX7_load 58 = .ok (.getfield 10, 3) := by decide +kernel
theorem dX7_load_61 : decode cX7_load 61 = .ok (.getfield 80, 3) := by decide +kernel
theorem dX7_load_64 : decode cX7_load 64 = .ok (.iload_n 2, 1) := by decide +kernel
theorem dX7_load_65 : decode cX7_load 65 = .ok (.invokevirtual 101, 3) := by decide +kernel
theorem dX7_load_68 : decode cX7_load 68 = .ok (.iload_n 3, 1) := by decide +kernel
theorem dX7_load_69 : decode cX7_load 69 = .ok (.if_icmp .lt 7, 3) := by decide +kernel
theorem dX7_load_72 : decode cX7_load 72 = .ok (.iconst 1, 1) := by decide +kernel
theorem dX7_load_73 : decode cX7_load 73 = .ok (.goto 4, 3) := by decide +kernel
theorem dX7_load_76 : decode cX7_load 76 = .ok (.iconst 0, 1) := by decide +kernel
theorem dX7_load_77 : decode cX7_load 77 = .ok (.invokestatic 27, 3) := by decide +kernel
theorem dX7_load_80 : decode cX7_load 80 = .ok (.aload_n 0, 1) := by decide +kernel
theorem dX7_load_81 : decode cX7_load 81 = .ok (.getfield 10, 3) := by decide +kernel
theorem dX7_load_84 : decode cX7_load 84 = .ok (.getfield 80, 3) := by decide +kernel
theorem dX7_load_87 : decode cX7_load 87 = .ok (.iload_n 2, 1) := by decide +kernel
theorem dX7_load_88 : decode cX7_load 88 = .ok (.iload_n 3, 1) := by decide +kernel
theorem dX7_load_89 : decode cX7_load 89 = .ok (.ineg, 1) := by decide +kernel
theorem dX7_load_90 : decode cX7_load 90 = .ok (.invokevirtual 98, 3) := by decide +kernel
theorem dX7_load_93 : decode cX7_load 93 = .ok (.aload_n 0, 1) := by decide +kernel
theorem dX7_load_94 : decode cX7_load 94 = .ok (.getfield 10, 3) := by decide +kernel
theorem dX7_load_97 : decode cX7_load 97 = .ok (.getfield 44, 3) := by decide +kernel
theorem dX7_load_100 : decode cX7_load 100 = .ok (.iload_n 1, 1) := by decide +kernel
theorem dX7_load_101 : decode cX7_load 101 = .ok (.aaload, 1) := by decide +kernel
theorem dX7_load_102 : decode cX7_load 102 = .ok (.iload_n 2, 1) := by decide +kernel
theorem dX7_load_103 : decode cX7_load 103 = .ok (.iload_n 3, 1) := by decide +kernel
theorem dX7_load_104 : decode cX7_load 104 = .ok (.invokevirtual 111, 3) := by decide +kernel
theorem dX7_load_107 : decode cX7_load 107 = .ok (.aload_n 0, 1) := by decide +kernel
theorem dX7_load_108 : decode cX7_load 108 = .ok (.getfield 10, 3) := by decide +kernel
theorem dX7_load_111 : decode cX7_load 111 = .ok (.getfield 80, 3) := by decide +kernel
theorem dX7_load_114 : decode cX7_load 114 = .ok (.iload_n 2, 1) := by decide +kernel
theorem dX7_load_115 : decode cX7_load 115 = .ok (.invokevirtual 101, 3) := by decide +kernel
theorem dX7_load_118 : decode cX7_load 118 = .ok (.ireturn, 1) := by decide +kernel
set_option maxRecDepth 20000 in
theorem ggX7_take_X7_checkIndex : GoodIn wsX7_take wsX7_checkIndex := goodIn_ca (goodIn_r _ [10, 11, 12] (by decide +kernel) (by decide +kernel)) (goodIn_sub (fun _ h => List.mem_cons_of_mem _ (List.mem_append_left _ (List.mem_append_right _ h))) (by decide +kernel))
set_option maxRecDepth 20000 in
theorem gX7_take_X7_checkIndex : GoodIn wsX7_take (va_wsS RX7 89 yX7_checkIndex wsX7_checkIndex) := goodIn_app (goodIn_of _ (by decide +kernel)) ggX7_take_X7_checkIndex
set_option maxRecDepth 20000 in
theorem ggX7_take_X7_checkState : GoodIn wsX7_take wsX7_checkState := goodIn_ca (goodIn_r _ [15, 16, 17] (by decide +kernel) (by decide +kernel)) (goodIn_sub (fun _ h => List.mem_cons_of_mem _ (List.mem_append_right _ h)) (by decide +kernel))
set_option maxRecDepth 20000 in
theorem gX7_take_X7_checkState : GoodIn wsX7_take (va_wsS RX7 27 yX7_checkState wsX7_checkState) := goodIn_app (goodIn_of _ (by decide +kernel)) ggX7_take_X7_checkState
set_option maxRecDepth 20000 in
theorem ggX7_take_X2_partsAt : GoodIn wsX7_take wsX2_partsAt := goodIn_r _ [22, 23, 24, 25, 26, 27, 21, 28, 29, 30, 31, 32, 58, 59, 60, 61, 62] (by decide +kernel) (by decide +kernel)
set_option maxRecDepth 20000 in
theorem gX7_take_X2_partsAt : GoodIn wsX7_take (wsV RX7 117 RX2 yX2_partsAt wsX2_partsAt) := goodIn_app (goodIn_of _ (by decide +kernel)) ggX7_take_X2_partsAt
set_option maxRecDepth 20000 in
theorem ggX7_take_X4_addRoasted : GoodIn wsX7_take wsX4_addRoasted := goodIn_r _ [37, 38, 39, 63, 64, 65, 66, 67, 68, 69] (by decide +kernel) (by decide +kernel)
set_option maxRecDepth 20000 in
theorem gX7_take_X4_addRoasted : GoodIn wsX7_take (wsV RX7 120 RX4 yX4_addRoasted wsX4_addRoasted) := goodIn_app (goodIn_of _ (by decide +kernel)) ggX7_take_X4_addRoasted
set_option maxRecDepth 20000 in
theorem ggX7_take_X2_fill : GoodIn wsX7_take wsX2_fill := goodIn_r _ [43, 23, 24, 44, 58, 59, 60, 61, 62] (by decide +kernel) (by decide +kernel)
set_option maxRecDepth 20000 in
theorem gX7_take_X2_fill : GoodIn wsX7_take (wsV RX7 111 RX2 yX2_fill wsX2_fill) := goodIn_app (goodIn_of _ (by decide +kernel)) ggX7_take_X2_fill
theorem dX7_take_0 : decode cX7_take 0 = .ok (.iload_n 1, 1) := by decide +kernel
theorem dX7_take_1 : decode cX7_take 1 = .ok (.aload_n 0, 1) := by decide +kernel
theorem dX7_take_2 : decode cX7_take 2 = .ok (.getfield 10, 3) := by decide +kernel
theorem dX7_take_5 : decode cX7_take 5 = .ok (.getfield 41, 3) := by decide +kernel
theorem dX7_take_8 : decode cX7_take 8 = .ok (.invokestatic 89, 3) := by decide +kernel
theorem dX7_take_11 : decode cX7_take 11 = .ok (.aload_n 0, 1) := by decide +kernel
theorem dX7_take_12 : decode cX7_take 12 = .ok (.getfield 10, 3) := by decide +kernel
theorem dX7_take_15 : decode cX7_take 15 = .ok (.getfield 44, 3) := by decide +kernel
theorem dX7_take_18 : decode cX7_take 18 = .ok (.iload_n 1, 1) := by decide +kernel
theorem dX7_take_19 : decode cX7_take 19 = .ok (.aaload, 1) := by decide +kernel
theorem dX7_take_20 : decode cX7_take 20 = .ok (.astore_n 2, 1) := by decide +kernel
theorem dX7_take_21 : decode cX7_take 21 = .ok (.aload_n 2, 1) := by decide +kernel
theorem dX7_take_22 : decode cX7_take 22 = .ok (.getfield 108, 3) := by decide +kernel
theorem dX7_take_25 : decode cX7_take 25 = .ok (.iconst (-1), 1) := by decide +kernel
theorem dX7_take_26 : decode cX7_take 26 = .ok (.if_icmp .eq 7, 3) := by decide +kernel
theorem dX7_take_29 : decode cX7_take 29 = .ok (.iconst 1, 1) := by decide +kernel
theorem dX7_take_30 : decode cX7_take 30 = .ok (.goto 4, 3) := by decide +kernel
theorem dX7_take_33 : decode cX7_take 33 = .ok (.iconst 0, 1) := by decide +kernel
theorem dX7_take_34 : decode cX7_take 34 = .ok (.invokestatic 27, 3) := by decide +kernel
theorem dX7_take_37 : decode cX7_take 37 = .ok (.aload_n 2, 1) := by decide +kernel
theorem dX7_take_38 : decode cX7_take 38 = .ok (.aload_n 2, 1) := by decide +kernel
theorem dX7_take_39 : decode cX7_take 39 = .ok (.getfield 114, 3) := by decide +kernel
theorem dX7_take_42 : decode cX7_take 42 = .ok (.invokevirtual 117, 3) := by decide +kernel
theorem dX7_take_45 : decode cX7_take 45 = .ok (.istore_n 3, 1) := by decide +kernel
theorem dX7_take_46 : decode cX7_take 46 = .ok (.aload_n 0, 1) := by decide +kernel
theorem dX7_take_47 : decode cX7_take 47 = .ok (.getfield 10, 3) := by decide +kernel
theorem dX7_take_50 : decode cX7_take 50 = .ok (.getfield 80, 3) := by decide +kernel
theorem dX7_take_53 : decode cX7_take 53 = .ok (.aload_n 2, 1) := by decide +kernel
theorem dX7_take_54 : decode cX7_take 54 = .ok (.getfield 108, 3) := by decide +kernel
theorem dX7_take_57 : decode cX7_take 57 = .ok (.iload_n 3, 1) := by decide +kernel
theorem dX7_take_58 : decode cX7_take 58 = .ok (.invokevirtual 120, 3) := by decide +kernel
theorem dX7_take_61 : decode cX7_take 61 = .ok (.aload_n 2, 1) := by decide +kernel
theorem dX7_take_62 : decode cX7_take 62 = .ok (.iconst (-1), 1) := by decide +kernel
theorem dX7_take_63 : decode cX7_take 63 = .ok (.iconst 0, 1) := by decide +kernel
theorem dX7_take_64 : decode cX7_take 64 = .ok (.invokevirtual 111, 3) := by decide +kernel
end
section
theorem dX7_take_67 : decode cX7_take 67 = .ok (.iload_n 3, 1) := by decide +kernel
theorem dX7_take_68 : decode cX7_take 68 = .ok (.ireturn, 1) := by decide +kernel
set_option maxRecDepth 20000 in
theorem ggX7_send_X7_checkIndex : GoodIn wsX7_send wsX7_checkIndex := goodIn_ca (goodIn_r _ [9, 10, 11] (by decide +kernel) (by decide +kernel)) (goodIn_sub (fun _ h => List.mem_cons_of_mem _ (List.mem_append_left _ (List.mem_append_right _ h))) (by decide +kernel))
set_option maxRecDepth 20000 in
theorem gX7_send_X7_checkIndex : GoodIn wsX7_send (va_wsS RX7 89 yX7_checkIndex wsX7_checkIndex) := goodIn_app (goodIn_of _ (by decide +kernel)) ggX7_send_X7_checkIndex
set_option maxRecDepth 20000 in
theorem ggX7_send_X7_checkState : GoodIn wsX7_send wsX7_checkState := goodIn_ca (goodIn_r _ [14, 15, 16] (by decide +kernel) (by decide +kernel)) (goodIn_sub (fun _ h => List.mem_cons_of_mem _ (List.mem_append_right _ h)) (by decide +kernel))
set_option maxRecDepth 20000 in
theorem gX7_send_X7_checkState : GoodIn wsX7_send (va_wsS RX7 27 yX7_checkState wsX7_checkState) := goodIn_app (goodIn_of _ (by decide +kernel)) ggX7_send_X7_checkState
set_option maxRecDepth 20000 in
theorem ggX7_send_X3_setOut : GoodIn wsX7_send wsX3_setOut := goodIn_r _ [21, 22, 23, 24, 38, 39, 40, 41, 42] (by decide +kernel) (by decide +kernel)
set_option maxRecDepth 20000 in
theorem gX7_send_X3_setOut : GoodIn wsX7_send (wsV RX7 126 RX3 yX3_setOut wsX3_setOut) := goodIn_app (goodIn_of _ (by decide +kernel)) ggX7_send_X3_setOut
theorem dX7_send_0 : decode cX7_send 0 = .ok (.iload_n 1, 1) := by decide +kernel
theorem dX7_send_1 : decode cX7_send 1 = .ok (.aload_n 0, 1) := by decide +kernel
theorem dX7_send_2 : decode cX7_send 2 = .ok (.getfield 10, 3) := by decide +kernel
theorem dX7_send_5 : decode cX7_send 5 = .ok (.getfield 53, 3) := by decide +kernel
theorem dX7_send_8 : decode cX7_send 8 = .ok (.invokestatic 89, 3) := by decide +kernel
theorem dX7_send_11 : decode cX7_send 11 = .ok (.aload_n 0, 1) := by decide +kernel
theorem dX7_send_12 : decode cX7_send 12 = .ok (.getfield 10, 3) := by decide +kernel
theorem dX7_send_15 : decode cX7_send 15 = .ok (.getfield 56, 3) := by decide +kernel
theorem dX7_send_18 : decode cX7_send 18 = .ok (.iload_n 1, 1) := by decide +kernel
theorem dX7_send_19 : decode cX7_send 19 = .ok (.aaload, 1) := by decide +kernel
theorem dX7_send_20 : decode cX7_send 20 = .ok (.getfield 123, 3) := by decide +kernel
theorem dX7_send_23 : decode cX7_send 23 = .ok (.ifCond .ne 7, 3) := by decide +kernel
theorem dX7_send_26 : decode cX7_send 26 = .ok (.iconst 1, 1) := by decide +kernel
theorem dX7_send_27 : decode cX7_send 27 = .ok (.goto 4, 3) := by decide +kernel
theorem dX7_send_30 : decode cX7_send 30 = .ok (.iconst 0, 1) := by decide +kernel
theorem dX7_send_31 : decode cX7_send 31 = .ok (.invokestatic 27, 3) := by decide +kernel
theorem dX7_send_34 : decode cX7_send 34 = .ok (.aload_n 0, 1) := by decide +kernel
theorem dX7_send_35 : decode cX7_send 35 = .ok (.getfield 10, 3) := by decide +kernel
theorem dX7_send_38 : decode cX7_send 38 = .ok (.getfield 56, 3) := by decide +kernel
theorem dX7_send_41 : decode cX7_send 41 = .ok (.iload_n 1, 1) := by decide +kernel
theorem dX7_send_42 : decode cX7_send 42 = .ok (.aaload, 1) := by decide +kernel
theorem dX7_send_43 : decode cX7_send 43 = .ok (.invokevirtual 126, 3) := by decide +kernel
theorem dX7_send_46 : decode cX7_send 46 = .ok (.aload_n 0, 1) := by decide +kernel
theorem dX7_send_47 : decode cX7_send 47 = .ok (.getfield 10, 3) := by decide +kernel
theorem dX7_send_50 : decode cX7_send 50 = .ok (.getfield 56, 3) := by decide +kernel
theorem dX7_send_53 : decode cX7_send 53 = .ok (.iload_n 1, 1) := by decide +kernel
theorem dX7_send_54 : decode cX7_send 54 = .ok (.aaload, 1) := by decide +kernel
theorem dX7_send_55 : decode cX7_send 55 = .ok (.getfield 129, 3) := by decide +kernel
theorem dX7_send_58 : decode cX7_send 58 = .ok (.ireturn, 1) := by decide +kernel
set_option maxRecDepth 20000 in
theorem ggX7_about_X7_checkIndex : GoodIn wsX7_about wsX7_checkIndex := goodIn_ca (goodIn_r _ [7, 8, 9] (by decide +kernel) (by decide +kernel)) (goodIn_sub (fun _ h => List.mem_cons_of_mem _ (List.mem_append_right _ h)) (by decide +kernel))
set_option maxRecDepth 20000 in
theorem gX7_about_X7_checkIndex : GoodIn wsX7_about (va_wsS RX7 89 yX7_checkIndex wsX7_checkIndex) := goodIn_app (goodIn_of _ (by decide +kernel)) ggX7_about_X7_checkIndex
set_option maxRecDepth 20000 in
theorem ggX7_about_X7_ask : GoodIn wsX7_about wsX7_ask := goodIn_ca (goodIn_r _ [12, 13, 14, 15, 16, 17, 18, 19, 20, 21, 22, 23, 24, 25, 26, 27, 28, 29, 30, 31, 32, 33, 34, 4, 5, 6, 7, 8, 9, 35, 36, 37, 38, 39, 40, 41, 42, 43, 44, 45, 46, 47, 48, 49, 50, 51, 52, 53, 54, 55, 56, 57, 58, 59, 60, 61, 62, 63, 64, 65, 66, 67, 68, 69, 70, 71, 72, 73, 74, 75, 76, 77, 78, 79, 80, 81, 82, 83, 84, 85, 86, 87, 88, 89, 90, 91, 105, 106, 107, 108, 109, 110, 111, 112, 113, 114, 115, 116, 117, 118, 119, 120, 121, 122, 94, 95, 96, 97, 98, 99, 100, 101, 102, 103, 104, 123, 124, 125, 126, 127, 128, 129] (by decide +kernel) (by decide +kernel)) (goodIn_sub (fun _ h => List.mem_cons_of_mem _ (List.mem_append_right _ h)) (by decide +kernel))
set_option maxRecDepth 20000 in
theorem gX7_about_X7_ask : GoodIn wsX7_about (va_wsS RX7 132 yX7_ask wsX7_ask) := goodIn_app (goodIn_of _ (by decide +kernel)) ggX7_about_X7_ask
theorem dX7_about_0 : decode cX7_about 0 = .ok (.iload_n 1, 1) := by decide +kernel
theorem dX7_about_1 : decode cX7_about 1 = .ok (.aload_n 0, 1) := by decide +kernel
theorem dX7_about_2 : decode cX7_about 2 = .ok (.getfield 10, 3) := by decide +kernel
theorem dX7_about_5 : decode cX7_about 5 = .ok (.getfield 23, 3) := by decide +kernel
theorem dX7_about_8 : decode cX7_about 8 = .ok (.invokestatic 89, 3) := by decide +kernel
theorem dX7_about_11 : decode cX7_about 11 = .ok (.aload_n 0, 1) := by decide +kernel
theorem dX7_about_12 : decode cX7_about 12 = .ok (.getfield 10, 3) := by decide +kernel
theorem dX7_about_15 : decode cX7_about 15 = .ok (.getfield 31, 3) := by decide +kernel
theorem dX7_about_18 : decode cX7_about 18 = .ok (.iload_n 1, 1) := by decide +kernel
theorem dX7_about_19 : decode cX7_about 19 = .ok (.aaload, 1) := by decide +kernel
theorem dX7_about_20 : decode cX7_about 20 = .ok (.iload_n 2, 1) := by decide +kernel
theorem dX7_about_21 : decode cX7_about 21 = .ok (.invokestatic 132, 3) := by decide +kernel
theorem dX7_about_24 : decode cX7_about 24 = .ok (.ireturn, 1) := by decide +kernel
set_option maxRecDepth 20000 in
theorem ggX7_roast_X7_checkIndex : GoodIn wsX7_roast wsX7_checkIndex := goodIn_ca (goodIn_r _ [7, 8, 9] (by decide +kernel) (by decide +kernel)) (goodIn_sub (fun _ h => List.mem_cons_of_mem _ (List.mem_append_right _ h)) (by decide +kernel))
set_option maxRecDepth 20000 in
theorem gX7_roast_X7_checkIndex : GoodIn wsX7_roast (va_wsS RX7 89 yX7_checkIndex wsX7_checkIndex) := goodIn_app (goodIn_of _ (by decide +kernel)) ggX7_roast_X7_checkIndex
set_option maxRecDepth 20000 in
theorem ggX7_roast_X7_ask : GoodIn wsX7_roast wsX7_ask := goodIn_ca (goodIn_r _ [12, 13, 14, 15, 16, 17, 18, 19, 20, 21, 22, 23, 24, 25, 26, 27, 28, 29, 30, 31, 32, 33, 34, 4, 5, 6, 7, 8, 9, 35, 36, 37, 38, 39, 40, 41, 42, 43, 44, 45, 46, 47, 48, 49, 50, 51, 52, 53, 54, 55, 56, 57, 58, 59, 60, 61, 62, 63, 64, 65, 66, 67, 68, 69, 70, 71, 72, 73, 74, 75, 76, 77, 78, 79, 80, 81, 82, 83, 84, 85, 86, 87, 88, 89, 90, 91, 105, 106, 107, 108, 109, 110, 111, 112, 113, 114, 115, 116, 117, 118, 119, 120, 121, 122, 94, 95, 96, 97, 98, 99, 100, 101, 102, 103, 104, 123, 124, 125, 126, 127, 128, 129] (by decide +kernel) (by decide +kernel)) (goodIn_sub (fun _ h => List.mem_cons_of_mem _ (List.mem_append_right _ h)) (by decide +kernel))
set_option maxRecDepth 20000 in
theorem gX7_roast_X7_ask : GoodIn wsX7_roast (va_wsS RX7 132 yX7_ask wsX7_ask) := goodIn_app (goodIn_of _ (by decide +kernel)) ggX7_roast_X7_ask
theorem dX7_roast_0 : decode cX7_roast 0 = .ok (.iload_n 1, 1) := by decide +kernel
theorem dX7_roast_1 : decode cX7_roast 1 = .ok (.aload_n 0, 1) := by decide +kernel
theorem dX7_roast_2 : decode cX7_roast 2 = .ok (.getfield 10, 3) := by decide +kernel
theorem dX7_roast_5 : decode cX7_roast 5 = .ok (.getfield 41, 3) := by decide +kernel
theorem dX7_roast_8 : decode cX7_roast 8 = .ok (.invokestatic 89, 3) := by decide +kernel
theorem dX7_roast_11 : decode cX7_roast 11 = .ok (.aload_n 0, 1) := by decide +kernel
theorem dX7_roast_12 : decode cX7_roast 12 = .ok (.getfield 10, 3) := by decide +kernel
theorem dX7_roast_15 : decode cX7_roast 15 = .ok (.getfield 44, 3) := by decide +kernel
theorem dX7_roast_18 : decode cX7_roast 18 = .ok (.iload_n 1, 1) := by decide +kernel
theorem dX7_roast_19 : decode cX7_roast 19 = .ok (.aaload, 1) := by decide +kernel
theorem dX7_roast_20 : decode cX7_roast 20 = .ok (.iload_n 2, 1) := by decide +kernel
theorem dX7_roast_21 : decode cX7_roast 21 = .ok (.invokestatic 132, 3) := by decide +kernel
theorem dX7_roast_24 : decode cX7_roast 24 = .ok (.ireturn, 1) := by decide +kernel
set_option maxRecDepth 20000 in
theorem ggX7_told_X7_checkIndex : GoodIn wsX7_told wsX7_checkIndex := goodIn_ca (goodIn_r _ [7, 8, 9] (by decide +kernel) (by decide +kernel)) (goodIn_sub (fun _ h => List.mem_cons_of_mem _ (List.mem_append_right _ h)) (by decide +kernel))
set_option maxRecDepth 20000 in
theorem gX7_told_X7_checkIndex : GoodIn wsX7_told (va_wsS RX7 89 yX7_checkIndex wsX7_checkIndex) := goodIn_app (goodIn_of _ (by decide +kernel)) ggX7_told_X7_checkIndex
set_option maxRecDepth 20000 in
theorem ggX7_told_X7_ask : GoodIn wsX7_told wsX7_ask := goodIn_ca (goodIn_r _ [12, 13, 14, 15, 16, 17, 18, 19, 20, 21, 22, 23, 24, 25, 26, 27, 28, 29, 30, 31, 32, 33, 34, 4, 5, 6, 7, 8, 9, 35, 36, 37, 38, 39, 40, 41, 42, 43, 44, 45, 46, 47, 48, 49, 50, 51, 52, 53, 54, 55, 56, 57, 58, 59, 60, 61, 62, 63, 64, 65, 66, 67, 68, 69, 70, 71, 72, 73, 74, 75, 76, 77, 78, 79, 80, 81, 82, 83, 84, 85, 86, 87, 88, 89, 90, 91, 105, 106, 107, 108, 109, 110, 111, 112, 113, 114, 115, 116, 117, 118, 119, 120, 121, 122, 94, 95, 96, 97, 98, 99, 100, 101, 102, 103, 104, 123, 124, 125, 126, 127, 128, 129] (by decide +kernel) (by decide +kernel)) (goodIn_sub (fun _ h => List.mem_cons_of_mem _ (List.mem_append_right _ h)) (by decide +kernel))
set_option maxRecDepth 20000 in
theorem gX7_told_X7_ask : GoodIn wsX7_told (va_wsS RX7 132 yX7_ask wsX7_ask) := goodIn_app (goodIn_of _ (by decide +kernel)) ggX7_told_X7_ask
theorem dX7_told_0 : decode cX7_told 0 = .ok (.iload_n 1, 1) := by decide +kernel
theorem dX7_told_1 : decode cX7_told 1 = .ok (.aload_n 0, 1) := by decide +kernel
theorem dX7_told_2 : decode cX7_told 2 = .ok (.getfield 10, 3) := by decide +kernel
theorem dX7_told_5 : decode cX7_told 5 = .ok (.getfield 53, 3) := by decide +kernel
theorem dX7_told_8 : decode cX7_told 8 = .ok (.invokestatic 89, 3) := by decide +kernel
theorem dX7_told_11 : decode cX7_told 11 = .ok (.aload_n 0, 1) := by decide +kernel
theorem dX7_told_12 : decode cX7_told 12 = .ok (.getfield 10, 3) := by decide +kernel
theorem dX7_told_15 : decode cX7_told 15 = .ok (.getfield 56, 3) := by decide +kernel
theorem dX7_told_18 : decode cX7_told 18 = .ok (.iload_n 1, 1) := by decide +kernel
theorem dX7_told_19 : decode cX7_told 19 = .ok (.aaload, 1) := by decide +kernel
theorem dX7_told_20 : decode cX7_told 20 = .ok (.iload_n 2, 1) := by decide +kernel
theorem dX7_told_21 : decode cX7_told 21 = .ok (.invokestatic 132, 3) := by decide +kernel
theorem dX7_told_24 : decode cX7_told 24 = .ok (.ireturn, 1) := by decide +kernel
set_option maxRecDepth 20000 in
theorem ggX7_ration_X7_checkIndex : GoodIn wsX7_ration wsX7_checkIndex := goodIn_ca (goodIn_r _ [7, 8, 9] (by decide +kernel) (by decide +kernel)) (goodIn_sub (fun _ h => List.mem_cons_of_mem _ (List.mem_append_right _ h)) (by decide +kernel))
set_option maxRecDepth 20000 in
theorem gX7_ration_X7_checkIndex : GoodIn wsX7_ration (va_wsS RX7 89 yX7_checkIndex wsX7_checkIndex) := goodIn_app (goodIn_of _ (by decide +kernel)) ggX7_ration_X7_checkIndex
set_option maxRecDepth 20000 in
theorem ggX7_ration_X7_ask : GoodIn wsX7_ration wsX7_ask := goodIn_ca (goodIn_r _ [12, 13, 14, 15, 16, 17, 18, 19, 20, 21, 22, 23, 24, 25, 26, 27, 28, 29, 30, 31, 32, 33, 34, 4, 5, 6, 7, 8, 9, 35, 36, 37, 38, 39, 40, 41, 42, 43, 44, 45, 46, 47, 48, 49, 50, 51, 52, 53, 54, 55, 56, 57, 58, 59, 60, 61, 62, 63, 64, 65, 66, 67, 68, 69, 70, 71, 72, 73, 74, 75, 76, 77, 78, 79, 80, 81, 82, 83, 84, 85, 86, 87, 88, 89, 90, 91, 105, 106, 107, 108, 109, 110, 111, 112, 113, 114, 115, 116, 117, 118, 119, 120, 121, 122, 94, 95, 96, 97, 98, 99, 100, 101, 102, 103, 104, 123, 124, 125, 126, 127, 128, 129] (by decide +kernel) (by decide +kernel)) (goodIn_sub (fun _ h => List.mem_cons_of_mem _ (List.mem_append_right _ h)) (by decide +kernel))
set_option maxRecDepth 20000 in
theorem gX7_ration_X7_ask : GoodIn wsX7_ration (va_wsS RX7 132 yX7_ask wsX7_ask) := goodIn_app (goodIn_of _ (by decide +kernel)) ggX7_ration_X7_ask
theorem dX7_ration_0 : decode cX7_ration 0 = .ok (.iload_n 1, 1) := by decide +kernel
theorem dX7_ration_1 : decode cX7_ration 1 = .ok (.aload_n 0, 1) := by decide +kernel
theorem dX7_ration_2 : decode cX7_ration 2 = .ok (.getfield 10, 3) := by decide +kernel
theorem dX7_ration_5 : decode cX7_ration 5 = .ok (.getfield 65, 3) := by decide +kernel
theorem dX7_ration_8 : decode cX7_ration 8 = .ok (.invokestatic 89, 3) := by decide +kernel
theorem dX7_ration_11 : decode cX7_ration 11 = .ok (.aload_n 0, 1) := by decide +kernel
theorem dX7_ration_12 : decode cX7_ration 12 = .ok (.getfield 10, 3) := by decide +kernel
theorem dX7_ration_15 : decode cX7_ration 15 = .ok (.getfield 68, 3) := by decide +kernel
theorem dX7_ration_18 : decode cX7_ration 18 = .ok (.iload_n 1, 1) := by decide +kernel
theorem dX7_ration_19 : decode cX7_ration 19 = .ok (.aaload, 1) := by decide +kernel
theorem dX7_ration_20 : decode cX7_ration 20 = .ok (.iload_n 2, 1) := by decide +kernel
theorem dX7_ration_21 : decode cX7_ration 21 = .ok (.invokestatic 132, 3) := by decide +kernel
theorem dX7_ration_24 : decode cX7_ration 24 = .ok (.ireturn, 1) := by decide +kernel
set_option maxRecDepth 20000 in
theorem ggX7_count_X7_ask : GoodIn wsX7_count wsX7_ask := goodIn_ca (goodIn_r _ [5, 6, 7, 8, 9, 10, 11, 12, 13, 14, 15, 16, 17, 18, 19, 20, 21, 22, 23, 24, 25, 26, 27, 28, 29, 4, 30, 31, 32, 33, 34, 35, 36, 37, 38, 39, 40, 41, 42, 43, 44, 45, 46, 47, 48, 49, 50, 51, 52, 53, 54, 55, 56, 57, 58, 59, 60, 61, 62, 63, 64, 65, 66, 67, 68, 69, 70, 71, 72, 73, 74, 75, 76, 77, 78, 79, 80, 81, 82, 83, 84, 85, 86, 87, 88, 89, 92, 93, 94, 95, 96, 97, 98, 99, 100, 101, 102, 103, 104, 105, 106, 107, 108, 109, 110, 111, 112, 113, 114, 115, 116, 117, 118, 119, 120, 121, 122, 123, 124, 125, 126, 127] (by decide +kernel) (by decide +kernel)) (goodIn_sub (fun _ h => List.mem_cons_of_mem _ (List.mem_append_right _ h)) (by decide +kernel))
set_option maxRecDepth 20000 in
theorem gX7_count_X7_ask : GoodIn wsX7_count (va_wsS RX7 132 yX7_ask wsX7_ask) := goodIn_app (goodIn_of _ (by decide +kernel)) ggX7_count_X7_ask
theorem dX7_count_0 : decode cX7_count 0 = .ok (.aload_n 0, 1) := by decide +kernel
theorem dX7_count_1 : decode cX7_count 1 = .ok (.getfield 10, 3) := by decide +kernel
theorem dX7_count_4 : decode cX7_count 4 = .ok (.iload_n 1, 1) := by decide +kernel
theorem dX7_count_5 : decode cX7_count 5 = .ok (.invokestatic 132, 3) := by decide +kernel
theorem dX7_count_8 : decode cX7_count 8 = .ok (.ireturn, 1) := by decide +kernel
set_option maxRecDepth 20000 in
theorem ggX7_pass_X7_checkNumber : GoodIn wsX7_pass wsX7_checkNumber := goodIn_ca (goodIn_r _ [5, 6, 7] (by decide +kernel) (by decide +kernel)) (goodIn_sub (fun _ h => List.mem_cons_of_mem _ (List.mem_append_right _ h)) (by decide +kernel))
set_option maxRecDepth 20000 in
theorem gX7_pass_X7_checkNumber : GoodIn wsX7_pass (va_wsS RX7 19 yX7_checkNumber wsX7_checkNumber) := goodIn_app (goodIn_of _ (by decide +kernel)) ggX7_pass_X7_checkNumber
set_option maxRecDepth 20000 in
theorem ggX7_pass_X6_live : GoodIn wsX7_pass wsX6_live := goodIn_r _ [12, 13, 14, 15, 16, 11, 17, 18, 19, 20, 21, 22, 23, 24, 25, 26, 27, 28, 29, 30, 31, 32, 33, 34, 35, 36, 37, 38, 39, 40, 41, 42, 43, 44, 45, 46, 47, 48, 49, 50, 51, 52, 53, 54, 55, 56, 57, 58, 59, 60, 61, 62, 63, 64, 65, 66, 67, 68, 69, 70, 71, 72, 73, 74, 75, 76, 77, 78, 79, 80, 81, 82, 83, 84, 85, 86, 87, 88, 89, 90, 91, 92, 93, 94, 95, 96, 97, 98, 99, 100, 101, 102, 103, 104, 105, 106, 107, 108, 109, 110, 111, 112, 113, 114, 115, 116, 117, 118, 119, 120, 121, 122, 123, 124, 125, 126, 127, 128, 129, 132, 133, 134, 135, 136, 137, 138, 139, 140, 141, 142, 143, 144, 145, 146, 147, 148, 149, 150, 151, 152, 153, 154, 155, 156, 157, 158, 159, 160, 161, 162, 163, 164, 165, 166, 167] (by decide +kernel) (by decide +kernel)
set_option maxRecDepth 20000 in
theorem gX7_pass_X6_live : GoodIn wsX7_pass (wsV RX7 136 RX6 yX6_live wsX6_live) := goodIn_app (goodIn_of _ (by decide +kernel)) ggX7_pass_X6_live
theorem dX7_pass_0 : decode cX7_pass 0 = .ok (.iload_n 1, 1) := by decide +kernel
theorem dX7_pass_1 : decode cX7_pass 1 = .ok (.iconst 1, 1) := by decide +kernel
theorem dX7_pass_2 : decode cX7_pass 2 = .ok (.bipush 60, 2) := by decide +kernel
theorem dX7_pass_4 : decode cX7_pass 4 = .ok (.invokestatic 19, 3) := by decide +kernel
theorem dX7_pass_7 : decode cX7_pass 7 = .ok (.aload_n 0, 1) := by decide +kernel
theorem dX7_pass_8 : decode cX7_pass 8 = .ok (.getfield 10, 3) := by decide +kernel
theorem dX7_pass_11 : decode cX7_pass 11 = .ok (.iload_n 1, 1) := by decide +kernel
theorem dX7_pass_12 : decode cX7_pass 12 = .ok (.invokevirtual 136, 3) := by decide +kernel
theorem dX7_pass_15 : decode cX7_pass 15 = .ok (.ireturn, 1) := by decide +kernel
set_option maxRecDepth 20000 in
theorem ggX7_foresee_X7_checkNumber : GoodIn wsX7_foresee wsX7_checkNumber := goodIn_ca (goodIn_r _ [8, 9, 10] (by decide +kernel) (by decide +kernel)) (goodIn_sub (fun _ h => List.mem_cons_of_mem _ (List.mem_append_right _ h)) (by decide +kernel))
set_option maxRecDepth 20000 in
theorem gX7_foresee_X7_checkNumber : GoodIn wsX7_foresee (va_wsS RX7 19 yX7_checkNumber wsX7_checkNumber) := goodIn_app (goodIn_of _ (by decide +kernel)) ggX7_foresee_X7_checkNumber
set_option maxRecDepth 20000 in
theorem ggX7_foresee_X6_become : GoodIn wsX7_foresee wsX6_become := goodIn_r _ [15, 16, 17, 18, 19, 20, 21, 22, 23, 24, 25, 26, 27, 28, 29, 30, 31, 32, 33, 34, 35, 36, 37, 38, 39, 40, 41, 42, 43, 44, 45, 46, 47, 48, 49, 50, 51, 52, 53, 54, 55, 56, 57, 58, 59, 60, 61, 62, 63, 64, 65, 66, 67, 68, 69, 70, 71, 72, 73, 74, 75, 76, 172, 173, 174, 175, 176, 177, 178, 179, 180, 181, 182, 183, 184, 185, 186, 187, 188, 189, 190, 191, 192, 193, 194, 195, 196, 197, 198, 199, 200, 201, 202, 203, 204, 205, 206, 207] (by decide +kernel) (by decide +kernel)
set_option maxRecDepth 20000 in
theorem gX7_foresee_X6_become : GoodIn wsX7_foresee (wsV RX7 146 RX6 yX6_become wsX6_become) := goodIn_app (goodIn_of _ (by decide +kernel)) ggX7_foresee_X6_become
set_option maxRecDepth 20000 in
theorem ggX7_foresee_X6_live : GoodIn wsX7_foresee wsX6_live := goodIn_r _ [80, 16, 81, 82, 83, 14, 84, 23, 18, 24, 85, 86, 87, 88, 17, 89, 90, 91, 60, 92, 64, 65, 62, 66, 93, 94, 95, 96, 63, 97, 98, 99, 30, 100, 32, 33, 101, 102, 103, 104, 21, 22, 105, 106, 107, 50, 108, 56, 109, 110, 111, 112, 54, 53, 113, 114, 115, 116, 117, 118, 119, 120, 121, 122, 123, 124, 19, 20, 125, 126, 127, 42, 128, 46, 44, 45, 129, 130, 131, 132, 133, 25, 26, 134, 135, 136, 70, 137, 72, 74, 138, 139, 140, 141, 142, 143, 144, 145, 73, 76, 75, 146, 147, 148, 149, 36, 35, 150, 151, 152, 153, 154, 34, 155, 156, 157, 158, 38, 37, 172, 173, 174, 175, 176, 177, 178, 179, 180, 181, 182, 198, 199, 200, 201, 202, 183, 184, 185, 186, 187, 188, 189, 193, 194, 195, 196, 197, 190, 191, 192, 203, 204, 205, 206, 207] (by decide +kernel) (by decide +kernel)
set_option maxRecDepth 20000 in
theorem gX7_foresee_X6_live : GoodIn wsX7_foresee (wsV RX7 136 RX6 yX6_live wsX6_live) := goodIn_app (goodIn_of _ (by decide +kernel)) ggX7_foresee_X6_live
set_option maxRecDepth 20000 in
theorem ggX7_foresee_X6_tell : GoodIn wsX7_foresee wsX6_tell := goodIn_r _ [162, 16, 18, 163, 164, 165, 166, 167, 168, 169, 17, 172, 173, 174, 175, 176, 177, 178, 179, 180, 181, 182, 183, 184, 185, 186, 187, 188, 189] (by decide +kernel) (by decide +kernel)
set_option maxRecDepth 20000 in
theorem gX7_foresee_X6_tell : GoodIn wsX7_foresee (wsV RX7 150 RX6 yX6_tell wsX6_tell) := goodIn_app (goodIn_of _ (by decide +kernel)) ggX7_foresee_X6_tell
theorem dX7_foresee_0 : decode cX7_foresee 0 = .ok (.iload_n 1, 1) := by decide +kernel
theorem dX7_foresee_1 : decode cX7_foresee 1 = .ok (.iconst 1, 1) := by decide +kernel
theorem dX7_foresee_2 : decode cX7_foresee 2 = .ok (.bipush 60, 2) := by decide +kernel
theorem dX7_foresee_4 : decode cX7_foresee 4 = .ok (.invokestatic 19, 3) := by decide +kernel
theorem dX7_foresee_7 : decode cX7_foresee 7 = .ok (.iload_n 2, 1) := by decide +kernel
theorem dX7_foresee_8 : decode cX7_foresee 8 = .ok (.iconst 1, 1) := by decide +kernel
theorem dX7_foresee_9 : decode cX7_foresee 9 = .ok (.if_icmp .lt 9, 3) := by decide +kernel
theorem dX7_foresee_12 : decode cX7_foresee 12 = .ok (.iload_n 2, 1) := by decide +kernel
theorem dX7_foresee_13 : decode cX7_foresee 13 = .ok (.bipush 6, 2) := by decide +kernel
theorem dX7_foresee_15 : decode cX7_foresee 15 = .ok (.if_icmp .le 13, 3) := by decide +kernel
theorem dX7_foresee_18 : decode cX7_foresee 18 = .ok (.new 139, 3) := by decide +kernel
theorem dX7_foresee_21 : decode cX7_foresee 21 = .ok (.dup, 1) := by decide +kernel
theorem dX7_foresee_22 : decode cX7_foresee 22 = .ok (.ldc 141, 2) := by decide +kernel
theorem dX7_foresee_24 : decode cX7_foresee 24 = .ok (.invokespecial 143, 3) := by decide +kernel
theorem dX7_foresee_27 : decode cX7_foresee 27 = .ok (.athrow, 1) := by decide +kernel
theorem dX7_foresee_28 : decode cX7_foresee 28 = .ok (.aload_n 0, 1) := by decide +kernel
theorem dX7_foresee_29 : decode cX7_foresee 29 = .ok (.getfield 16, 3) := by decide +kernel
theorem dX7_foresee_32 : decode cX7_foresee 32 = .ok (.aload_n 0, 1) := by decide +kernel
theorem dX7_foresee_33 : decode cX7_foresee 33 = .ok (.getfield 10, 3) := by decide +kernel
theorem dX7_foresee_36 : decode cX7_foresee 36 = .ok (.invokevirtual 146, 3) := by decide +kernel
theorem dX7_foresee_39 : decode cX7_foresee 39 = .ok (.aload_n 0, 1) := by decide +kernel
theorem dX7_foresee_40 : decode cX7_foresee 40 = .ok (.getfield 16, 3) := by decide +kernel
theorem dX7_foresee_43 : decode cX7_foresee 43 = .ok (.iload_n 1, 1) := by decide +kernel
theorem dX7_foresee_44 : decode cX7_foresee 44 = .ok (.invokevirtual 136, 3) := by decide +kernel
theorem dX7_foresee_47 : decode cX7_foresee 47 = .ok (.pop, 1) := by decide +kernel
theorem dX7_foresee_48 : decode cX7_foresee 48 = .ok (.aload_n 0, 1) := by decide +kernel
theorem dX7_foresee_49 : decode cX7_foresee 49 = .ok (.getfield 16, 3) := by decide +kernel
theorem dX7_foresee_52 : decode cX7_foresee 52 = .ok (.iload_n 2, 1) := by decide +kernel
theorem dX7_foresee_53 : decode cX7_foresee 53 = .ok (.invokevirtual 150, 3) := by decide +kernel
theorem dX7_foresee_56 : decode cX7_foresee 56 = .ok (.ireturn, 1) := by decide +kernel
set_option maxRecDepth 20000 in
theorem ggX7_ready_X7_checkIndex : GoodIn wsX7_ready wsX7_checkIndex := goodIn_ca (goodIn_r _ [7, 8, 9] (by decide +kernel) (by decide +kernel)) (goodIn_sub (fun _ h => List.mem_cons_of_mem _ (List.mem_append_right _ h)) (by decide +kernel))
set_option maxRecDepth 20000 in
theorem gX7_ready_X7_checkIndex : GoodIn wsX7_ready (va_wsS RX7 89 yX7_checkIndex wsX7_checkIndex) := goodIn_app (goodIn_of _ (by decide +kernel)) ggX7_ready_X7_checkIndex
set_option maxRecDepth 20000 in
theorem ggX7_ready_X2_daysToBest : GoodIn wsX7_ready wsX2_daysToBest := goodIn_r _ [14, 15, 16, 17, 18, 13, 19, 20, 21, 22, 23, 24, 25, 26, 27, 28, 29, 30, 31, 32, 33, 34, 35, 36, 37, 38, 52, 53, 54, 55, 56] (by decide +kernel) (by decide +kernel)
set_option maxRecDepth 20000 in
theorem gX7_ready_X2_daysToBest : GoodIn wsX7_ready (wsV RX7 153 RX2 yX2_daysToBest wsX2_daysToBest) := goodIn_app (goodIn_of _ (by decide +kernel)) ggX7_ready_X2_daysToBest
theorem dX7_ready_0 : decode cX7_ready 0 = .ok (.iload_n 1, 1) := by decide +kernel
theorem dX7_ready_1 : decode cX7_ready 1 = .ok (.aload_n 0, 1) := by decide +kernel
theorem dX7_ready_2 : decode cX7_ready 2 = .ok (.getfield 10, 3) := by decide +kernel
theorem dX7_ready_5 : decode cX7_ready 5 = .ok (.getfield 41, 3) := by decide +kernel
theorem dX7_ready_8 : decode cX7_ready 8 = .ok (.invokestatic 89, 3) := by decide +kernel
theorem dX7_ready_11 : decode cX7_ready 11 = .ok (.aload_n 0, 1) := by decide +kernel
theorem dX7_ready_12 : decode cX7_ready 12 = .ok (.getfield 10, 3) := by decide +kernel
theorem dX7_ready_15 : decode cX7_ready 15 = .ok (.getfield 44, 3) := by decide +kernel
theorem dX7_ready_18 : decode cX7_ready 18 = .ok (.iload_n 1, 1) := by decide +kernel
theorem dX7_ready_19 : decode cX7_ready 19 = .ok (.aaload, 1) := by decide +kernel
theorem dX7_ready_20 : decode cX7_ready 20 = .ok (.invokevirtual 153, 3) := by decide +kernel
theorem dX7_ready_23 : decode cX7_ready 23 = .ok (.ireturn, 1) := by decide +kernel
set_option maxRecDepth 20000 in
theorem ggX7_caught_X7_checkIndex : GoodIn wsX7_caught wsX7_checkIndex := goodIn_ca (goodIn_r _ [9, 10, 11] (by decide +kernel) (by decide +kernel)) (goodIn_sub (fun _ h => List.mem_cons_of_mem _ (List.mem_append_left _ (List.mem_append_left _ (List.mem_append_right _ h)))) (by decide +kernel))
set_option maxRecDepth 20000 in
theorem gX7_caught_X7_checkIndex : GoodIn wsX7_caught (va_wsS RX7 89 yX7_checkIndex wsX7_checkIndex) := goodIn_app (goodIn_of _ (by decide +kernel)) ggX7_caught_X7_checkIndex
set_option maxRecDepth 20000 in
theorem ggX7_caught_X7_checkNumber : GoodIn wsX7_caught wsX7_checkNumber := goodIn_ca (goodIn_r _ [14, 15, 16] (by decide +kernel) (by decide +kernel)) (goodIn_sub (fun _ h => List.mem_cons_of_mem _ (List.mem_append_left _ (List.mem_append_right _ h))) (by decide +kernel))
set_option maxRecDepth 20000 in
theorem gX7_caught_X7_checkNumber : GoodIn wsX7_caught (va_wsS RX7 19 yX7_checkNumber wsX7_checkNumber) := goodIn_app (goodIn_of _ (by decide +kernel)) ggX7_caught_X7_checkNumber
set_option maxRecDepth 20000 in
theorem ggX7_caught_X7_checkState : GoodIn wsX7_caught wsX7_checkState := goodIn_ca (goodIn_r _ [19, 20, 21] (by decide +kernel) (by decide +kernel)) (goodIn_sub (fun _ h => List.mem_cons_of_mem _ (List.mem_append_right _ h)) (by decide +kernel))
set_option maxRecDepth 20000 in
theorem gX7_caught_X7_checkState : GoodIn wsX7_caught (va_wsS RX7 27 yX7_checkState wsX7_checkState) := goodIn_app (goodIn_of _ (by decide +kernel)) ggX7_caught_X7_checkState
set_option maxRecDepth 20000 in
theorem ggX7_caught_X3_daysToBorder : GoodIn wsX7_caught wsX3_daysToBorder := goodIn_r _ [26, 27, 47, 48, 49, 50, 51] (by decide +kernel) (by decide +kernel)
set_option maxRecDepth 20000 in
theorem gX7_caught_X3_daysToBorder : GoodIn wsX7_caught (wsV RX7 160 RX3 yX3_daysToBorder wsX3_daysToBorder) := goodIn_app (goodIn_of _ (by decide +kernel)) ggX7_caught_X3_daysToBorder
set_option maxRecDepth 20000 in
theorem ggX7_caught_X6_patrolled : GoodIn wsX7_caught wsX6_patrolled := goodIn_r _ [32, 33, 36, 37, 38, 39, 40, 41, 42, 43, 44, 45, 46] (by decide +kernel) (by decide +kernel)
set_option maxRecDepth 20000 in
theorem gX7_caught_X6_patrolled : GoodIn wsX7_caught (wsV RX7 163 RX6 yX6_patrolled wsX6_patrolled) := goodIn_app (goodIn_of _ (by decide +kernel)) ggX7_caught_X6_patrolled
theorem dX7_caught_0 : decode cX7_caught 0 = .ok (.iload_n 1, 1) := by decide +kernel
theorem dX7_caught_1 : decode cX7_caught 1 = .ok (.aload_n 0, 1) := by decide +kernel
theorem dX7_caught_2 : decode cX7_caught 2 = .ok (.getfield 10, 3) := by decide +kernel
theorem dX7_caught_5 : decode cX7_caught 5 = .ok (.getfield 53, 3) := by decide +kernel
theorem dX7_caught_8 : decode cX7_caught 8 = .ok (.invokestatic 89, 3) := by decide +kernel
theorem dX7_caught_11 : decode cX7_caught 11 = .ok (.iload_n 2, 1) := by decide +kernel
theorem dX7_caught_12 : decode cX7_caught 12 = .ok (.iconst 0, 1) := by decide +kernel
theorem dX7_caught_13 : decode cX7_caught 13 = .ok (.bipush 60, 2) := by decide +kernel
theorem dX7_caught_15 : decode cX7_caught 15 = .ok (.invokestatic 19, 3) := by decide +kernel
theorem dX7_caught_18 : decode cX7_caught 18 = .ok (.aload_n 0, 1) := by decide +kernel
theorem dX7_caught_19 : decode cX7_caught 19 = .ok (.getfield 10, 3) := by decide +kernel
theorem dX7_caught_22 : decode cX7_caught 22 = .ok (.getfield 56, 3) := by decide +kernel
theorem dX7_caught_25 : decode cX7_caught 25 = .ok (.iload_n 1, 1) := by decide +kernel
theorem dX7_caught_26 : decode cX7_caught 26 = .ok (.aaload, 1) := by decide +kernel
theorem dX7_caught_27 : decode cX7_caught 27 = .ok (.getfield 123, 3) := by decide +kernel
theorem dX7_caught_30 : decode cX7_caught 30 = .ok (.ifCond .ne 7, 3) := by decide +kernel
theorem dX7_caught_33 : decode cX7_caught 33 = .ok (.iconst 1, 1) := by decide +kernel
theorem dX7_caught_34 : decode cX7_caught 34 = .ok (.goto 4, 3) := by decide +kernel
theorem dX7_caught_37 : decode cX7_caught 37 = .ok (.iconst 0, 1) := by decide +kernel
theorem dX7_caught_38 : decode cX7_caught 38 = .ok (.invokestatic 27, 3) := by decide +kernel
theorem dX7_caught_41 : decode cX7_caught 41 = .ok (.aload_n 0, 1) := by decide +kernel
theorem dX7_caught_42 : decode cX7_caught 42 = .ok (.getfield 10, 3) := by decide +kernel
theorem dX7_caught_45 : decode cX7_caught 45 = .ok (.aload_n 0, 1) := by decide +kernel
theorem dX7_caught_46 : decode cX7_caught 46 = .ok (.getfield 10, 3) := by decide +kernel
theorem dX7_caught_49 : decode cX7_caught 49 = .ok (.getfield 157, 3) := by decide +kernel
theorem dX7_caught_52 : decode cX7_caught 52 = .ok (.iload_n 2, 1) := by decide +kernel
theorem dX7_caught_53 : decode cX7_caught 53 = .ok (.iadd, 1) := by decide +kernel
theorem dX7_caught_54 : decode cX7_caught 54 = .ok (.aload_n 0, 1) := by decide +kernel
theorem dX7_caught_55 : decode cX7_caught 55 = .ok (.getfield 10, 3) := by decide +kernel
theorem dX7_caught_58 : decode cX7_caught 58 = .ok (.getfield 56, 3) := by decide +kernel
theorem dX7_caught_61 : decode cX7_caught 61 = .ok (.iload_n 1, 1) := by decide +kernel
theorem dX7_caught_62 : decode cX7_caught 62 = .ok (.aaload, 1) := by decide +kernel
theorem dX7_caught_63 : decode cX7_caught 63 = .ok (.invokevirtual 160, 3) := by decide +kernel
theorem dX7_caught_66 : decode cX7_caught 66 = .ok (.iadd, 1) := by decide +kernel
theorem dX7_caught_67 : decode cX7_caught 67 = .ok (.iconst 1, 1) := by decide +kernel
theorem dX7_caught_68 : decode cX7_caught 68 = .ok (.isub, 1) := by decide +kernel
theorem dX7_caught_69 : decode cX7_caught 69 = .ok (.invokevirtual 163, 3) := by decide +kernel
theorem dX7_caught_72 : decode cX7_caught 72 = .ok (.ireturn, 1) := by decide +kernel
set_option maxRecDepth 20000 in
theorem ggX7_advise_X7_checkNumber : GoodIn wsX7_advise wsX7_checkNumber := goodIn_ca (goodIn_r _ [8, 9, 10] (by decide +kernel) (by decide +kernel)) (goodIn_sub (fun _ h => List.mem_cons_of_mem _ (List.mem_append_right _ h)) (by decide +kernel))
set_option maxRecDepth 20000 in
theorem gX7_advise_X7_checkNumber : GoodIn wsX7_advise (va_wsS RX7 19 yX7_checkNumber wsX7_checkNumber) := goodIn_app (goodIn_of _ (by decide +kernel)) ggX7_advise_X7_checkNumber
set_option maxRecDepth 20000 in
theorem ggX7_advise_X6_become : GoodIn wsX7_advise wsX6_become := goodIn_r _ [15, 16, 17, 18, 19, 20, 21, 22, 23, 24, 25, 26, 27, 28, 29, 30, 31, 32, 33, 34, 35, 36, 37, 38, 39, 40, 41, 42, 43, 44, 45, 46, 47, 48, 49, 50, 51, 52, 53, 54, 55, 56, 57, 58, 59, 60, 61, 62, 63, 64, 65, 66, 67, 68, 69, 70, 71, 72, 73, 74, 75, 76, 161, 162, 163, 164, 165, 166, 167, 168, 169, 170, 171, 172, 173, 174, 175, 176, 177, 178, 179, 180, 181, 182, 183, 184, 185, 186, 187, 188, 189, 190, 191, 192, 193, 194, 195, 196] (by decide +kernel) (by decide +kernel)
set_option maxRecDepth 20000 in
theorem gX7_advise_X6_become : GoodIn wsX7_advise (wsV RX7 146 RX6 yX6_become wsX6_become) := goodIn_app (goodIn_of _ (by decide +kernel)) ggX7_advise_X6_become
set_option maxRecDepth 20000 in
theorem ggX7_advise_X6_live : GoodIn wsX7_advise wsX6_live := goodIn_r _ [80, 16, 81, 82, 83, 14, 84, 23, 18, 24, 85, 86, 87, 88, 17, 89, 90, 91, 60, 92, 64, 65, 62, 66, 93, 94, 95, 96, 63, 97, 98, 99, 30, 100, 32, 33, 101, 102, 103, 104, 21, 22, 105, 106, 107, 50, 108, 56, 109, 110, 111, 112, 54, 53, 113, 114, 115, 116, 117, 118, 119, 120, 121, 122, 123, 124, 19, 20, 125, 126, 127, 42, 128, 46, 44, 45, 129, 130, 131, 132, 133, 25, 26, 134, 135, 136, 70, 137, 72, 74, 138, 139, 140, 141, 142, 143, 144, 145, 73, 76, 75, 146, 147, 148, 149, 36, 35, 150, 151, 152, 153, 154, 34, 155, 156, 157, 158, 38, 37, 161, 162, 163, 164, 165, 166, 167, 168, 169, 170, 171, 187, 188, 189, 190, 191, 172, 173, 174, 175, 176, 177, 178, 182, 183, 184, 185, 186, 179, 180, 181, 192, 193, 194, 195, 196] (by decide +kernel) (by decide +kernel)
set_option maxRecDepth 20000 in
theorem gX7_advise_X6_live : GoodIn wsX7_advise (wsV RX7 136 RX6 yX6_live wsX6_live) := goodIn_app (goodIn_of _ (by decide +kernel)) ggX7_advise_X6_live
theorem dX7_advise_0 : decode cX7_advise 0 = .ok (.iload_n 1, 1) := by decide +kernel
theorem dX7_advise_1 : decode cX7_advise 1 = .ok (.iconst 1, 1) := by decide +kernel
theorem dX7_advise_2 : decode cX7_advise 2 = .ok (.bipush 28, 2) := by decide +kernel
theorem dX7_advise_4 : decode cX7_advise 4 = .ok (.invokestatic 19, 3) := by decide +kernel
theorem dX7_advise_7 : decode cX7_advise 7 = .ok (.iconst 0, 1) := by decide +kernel
theorem dX7_advise_8 : decode cX7_advise 8 = .ok (.istore_n 2, 1) := by decide +kernel
theorem dX7_advise_9 : decode cX7_advise 9 = .ok (.iconst (-1), 1) := by decide +kernel
theorem dX7_advise_10 : decode cX7_advise 10 = .ok (.istore_n 3, 1) := by decide +kernel
theorem dX7_advise_11 : decode cX7_advise 11 = .ok (.iconst 0, 1) := by decide +kernel
theorem dX7_advise_12 : decode cX7_advise 12 = .ok (.istore 4, 2) := by decide +kernel
theorem dX7_advise_14 : decode cX7_advise 14 = .ok (.iload 4, 2) := by decide +kernel
theorem dX7_advise_16 : decode cX7_advise 16 = .ok (.bipush 10, 2) := by decide +kernel
theorem dX7_advise_18 : decode cX7_advise 18 = .ok (.if_icmp .gt 54, 3) := by decide +kernel
theorem dX7_advise_21 : decode cX7_advise 21 = .ok (.aload_n 0, 1) := by decide +kernel
theorem dX7_advise_22 : decode cX7_advise 22 = .ok (.getfield 16, 3) := by decide +kernel
theorem dX7_advise_25 : decode cX7_advise 25 = .ok (.aload_n 0, 1) := by decide +kernel
theorem dX7_advise_26 : decode cX7_advise 26 = .ok (.getfield 10, 3) := by decide +kernel
theorem dX7_advise_29 : decode cX7_advise 29 = .ok (.invokevirtual 146, 3) := by decide +kernel
theorem dX7_advise_32 : decode cX7_advise 32 = .ok (.aload_n 0, 1) := by decide +kernel
theorem dX7_advise_33 : decode cX7_advise 33 = .ok (.getfield 16, 3) := by decide +kernel
theorem dX7_advise_36 : decode cX7_advise 36 = .ok (.getfield 80, 3) := by decide +kernel
theorem dX7_advise_39 : decode cX7_advise 39 = .ok (.iload 4, 2) := by decide +kernel
theorem dX7_advise_41 : decode cX7_advise 41 = .ok (.putfield 84, 3) := by decide +kernel
theorem dX7_advise_44 : decode cX7_advise 44 = .ok (.aload_n 0, 1) := by decide +kernel
theorem dX7_advise_45 : decode cX7_advise 45 = .ok (.getfield 16, 3) := by decide +kernel
theorem dX7_advise_48 : decode cX7_advise 48 = .ok (.iload_n 1, 1) := by decide +kernel
theorem dX7_advise_49 : decode cX7_advise 49 = .ok (.invokevirtual 136, 3) := by decide +kernel
theorem dX7_advise_52 : decode cX7_advise 52 = .ok (.istore 5, 2) := by decide +kernel
theorem dX7_advise_54 : decode cX7_advise 54 = .ok (.iload 5, 2) := by decide +kernel
theorem dX7_advise_56 : decode cX7_advise 56 = .ok (.iload_n 3, 1) := by decide +kernel
theorem dX7_advise_57 : decode cX7_advise 57 = .ok (.if_icmp .le 9, 3) := by decide +kernel
theorem dX7_advise_60 : decode cX7_advise 60 = .ok (.iload 5, 2) := by decide +kernel
theorem dX7_advise_62 : decode cX7_advise 62 = .ok (.istore_n 3, 1) := by decide +kernel
theorem dX7_advise_63 : decode cX7_advise 63 = .ok (.iload 4, 2) := by decide +kernel
theorem dX7_advise_65 : decode cX7_advise 65 = .ok (.istore_n 2, 1) := by decide +kernel
theorem dX7_advise_66 : decode cX7_advise 66 = .ok (.iinc 4 1, 3) := by decide +kernel
theorem dX7_advise_69 : decode cX7_advise 69 = .ok (.goto (-55), 3) := by decide +kernel
theorem dX7_advise_72 : decode cX7_advise 72 = .ok (.iload_n 2, 1) := by decide +kernel
theorem dX7_advise_73 : decode cX7_advise 73 = .ok (.ireturn, 1) := by decide +kernel
theorem dX7_mean_0 : decode cX7_mean 0 = .ok (.aload_n 0, 1) := by decide +kernel
theorem dX7_mean_1 : decode cX7_mean 1 = .ok (.getfield 10, 3) := by decide +kernel
theorem dX7_mean_4 : decode cX7_mean 4 = .ok (.getfield 65, 3) := by decide +kernel
theorem dX7_mean_7 : decode cX7_mean 7 = .ok (.ifCond .ne 5, 3) := by decide +kernel
theorem dX7_mean_10 : decode cX7_mean 10 = .ok (.dconst 0, 1) := by decide +kernel
theorem dX7_mean_11 : decode cX7_mean 11 = .ok (.dreturn, 1) := by decide +kernel
theorem dX7_mean_12 : decode cX7_mean 12 = .ok (.aload_n 0, 1) := by decide +kernel
theorem dX7_mean_13 : decode cX7_mean 13 = .ok (.getfield 10, 3) := by decide +kernel
theorem dX7_mean_16 : decode cX7_mean 16 = .ok (.getfield 80, 3) := by decide +kernel
theorem dX7_mean_19 : decode cX7_mean 19 = .ok (.getfield 167, 3) := by decide +kernel
theorem dX7_mean_22 : decode cX7_mean 22 = .ok (.i2d, 1) := by decide +kernel
theorem dX7_mean_23 : decode cX7_mean 23 = .ok (.aload_n 0, 1) := by decide +kernel
theorem dX7_mean_24 : decode cX7_mean 24 = .ok (.getfield 10, 3) := by decide +kernel
theorem dX7_mean_27 : decode cX7_mean 27 = .ok (.getfield 65, 3) := by decide +kernel
theorem dX7_mean_30 : decode cX7_mean 30 = .ok (.i2d, 1) := by decide +kernel
theorem dX7_mean_31 : decode cX7_mean 31 = .ok (.ddiv, 1) := by decide +kernel
theorem dX7_mean_32 : decode cX7_mean 32 = .ok (.dreturn, 1) := by decide +kernel
set_option maxRecDepth 20000 in
theorem ggX7_digest_X5_digestOnto : GoodIn wsX7_digest wsX5_digestOnto := goodIn_r _ [16, 17, 18, 19, 20, 21, 22, 23, 24, 25, 26, 27, 28, 29, 30, 31, 32, 33, 34, 35, 36, 37, 38, 39, 40, 41, 42, 43, 44, 45, 46, 47, 48, 49, 50, 51, 52, 53, 54, 55, 56, 57, 58, 59, 60, 61, 62, 63, 64, 65, 66, 67, 68, 69, 70, 71, 72, 73, 74, 75, 76, 77, 78, 79, 80, 81, 82, 83, 84, 85, 86, 87, 88, 89, 90, 91, 92, 93, 94, 95, 96, 122, 123, 124, 125, 126, 127, 128, 129, 130, 131, 132, 133, 134, 135, 136, 137, 138, 139, 111, 112, 113, 114, 115, 116, 117, 118, 119, 120, 121, 140, 141, 142, 143, 144, 145, 146] (by decide +kernel) (by decide +kernel)
set_option maxRecDepth 20000 in
theorem gX7_digest_X5_digestOnto_u172X6 : GoodIn wsX7_digest (va_wsU RX7 172 RX6 "ChicoryRoasters$Teller" ⟨"ChicoryRoasters$Town", "digestOnto", "(J)J"⟩ yX5_digestOnto wsX5_digestOnto) := goodIn_app (goodIn_of _ (by decide +kernel)) ggX7_digest_X5_digestOnto
set_option maxRecDepth 20000 in
theorem gX7_digest_X5_digestOnto_u176X0 : GoodIn wsX7_digest (va_wsU RX7 176 RX0 "ChicoryRoasters$Teller" ⟨"ChicoryRoasters$Bed", "digestOnto", "(J)J"⟩ yX5_digestOnto wsX5_digestOnto) := goodIn_app (goodIn_of _ (by decide +kernel)) ggX7_digest_X5_digestOnto
set_option maxRecDepth 20000 in
theorem gX7_digest_X5_digestOnto_u177X2 : GoodIn wsX7_digest (va_wsU RX7 177 RX2 "ChicoryRoasters$Teller" ⟨"ChicoryRoasters$Drum", "digestOnto", "(J)J"⟩ yX5_digestOnto wsX5_digestOnto) := goodIn_app (goodIn_of _ (by decide +kernel)) ggX7_digest_X5_digestOnto
set_option maxRecDepth 20000 in
theorem gX7_digest_X5_digestOnto_u178X3 : GoodIn wsX7_digest (va_wsU RX7 178 RX3 "ChicoryRoasters$Teller" ⟨"ChicoryRoasters$Smuggler", "digestOnto", "(J)J"⟩ yX5_digestOnto wsX5_digestOnto) := goodIn_app (goodIn_of _ (by decide +kernel)) ggX7_digest_X5_digestOnto
set_option maxRecDepth 20000 in
theorem gX7_digest_X5_digestOnto_u179X1 : GoodIn wsX7_digest (va_wsU RX7 179 RX1 "ChicoryRoasters$Teller" ⟨"ChicoryRoasters$Card", "digestOnto", "(J)J"⟩ yX5_digestOnto wsX5_digestOnto) := goodIn_app (goodIn_of _ (by decide +kernel)) ggX7_digest_X5_digestOnto
theorem dX7_digest_0 : decode cX7_digest 0 = .ok (.aload_n 0, 1) := by decide +kernel
theorem dX7_digest_1 : decode cX7_digest 1 = .ok (.getfield 10, 3) := by decide +kernel
theorem dX7_digest_4 : decode cX7_digest 4 = .ok (.ldc2_w 170, 3) := by decide +kernel
theorem dX7_digest_7 : decode cX7_digest 7 = .ok (.invokevirtual 172, 3) := by decide +kernel
theorem dX7_digest_10 : decode cX7_digest 10 = .ok (.lstore_n 1, 1) := by decide +kernel
theorem dX7_digest_11 : decode cX7_digest 11 = .ok (.iconst 0, 1) := by decide +kernel
theorem dX7_digest_12 : decode cX7_digest 12 = .ok (.istore_n 3, 1) := by decide +kernel
theorem dX7_digest_13 : decode cX7_digest 13 = .ok (.iload_n 3, 1) := by decide +kernel
theorem dX7_digest_14 : decode cX7_digest 14 = .ok (.aload_n 0, 1) := by decide +kernel
theorem dX7_digest_15 : decode cX7_digest 15 = .ok (.getfield 10, 3) := by decide +kernel
theorem dX7_digest_18 : decode cX7_digest 18 = .ok (.getfield 23, 3) := by decide +kernel
theorem dX7_digest_21 : decode cX7_digest 21 = .ok (.if_icmp .ge 23, 3) := by decide +kernel
theorem dX7_digest_24 : decode cX7_digest 24 = .ok (.aload_n 0, 1) := by decide +kernel
theorem dX7_digest_25 : decode cX7_digest 25 = .ok (.getfield 10, 3) := by decide +kernel
theorem dX7_digest_28 : decode cX7_digest 28 = .ok (.getfield 31, 3) := by decide +kernel
theorem dX7_digest_31 : decode cX7_digest 31 = .ok (.iload_n 3, 1) := by decide +kernel
theorem dX7_digest_32 : decode cX7_digest 32 = .ok (.aaload, 1) := by decide +kernel
theorem dX7_digest_33 : decode cX7_digest 33 = .ok (.lload_n 1, 1) := by decide +kernel
theorem dX7_digest_34 : decode cX7_digest 34 = .ok (.invokevirtual 176, 3) := by decide +kernel
theorem dX7_digest_37 : decode cX7_digest 37 = .ok (.lstore_n 1, 1) := by decide +kernel
theorem dX7_digest_38 : decode cX7_digest 38 = .ok (.iinc 3 1, 3) := by decide +kernel
theorem dX7_digest_41 : decode cX7_digest 41 = .ok (.goto (-28), 3) := by decide +kernel
theorem dX7_digest_44 : decode cX7_digest 44 = .ok (.iconst 0, 1) := by decide +kernel
theorem dX7_digest_45 : decode cX7_digest 45 = .ok (.istore_n 3, 1) := by decide +kernel
theorem dX7_digest_46 : decode cX7_digest 46 = .ok (.iload_n 3, 1) := by decide +kernel
theorem dX7_digest_47 : decode cX7_digest 47 = .ok (.aload_n 0, 1) := by decide +kernel
theorem dX7_digest_48 : decode cX7_digest 48 = .ok (.getfield 10, 3) := by decide +kernel
theorem dX7_digest_51 : decode cX7_digest 51 = .ok (.getfield 41, 3) := by decide +kernel
theorem dX7_digest_54 : decode cX7_digest 54 = .ok (.if_icmp .ge 23, 3) := by decide +kernel
theorem dX7_digest_57 : decode cX7_digest 57 = .ok (.aload_n 0, 1) := by decide +kernel
theorem dX7_digest_58 : decode cX7_digest 58 = .ok (.getfield 10, 3) := by decide +kernel
theorem dX7_digest_61 : decode cX7_digest 61 = .ok (.getfield 44, 3) := by decide +kernel
theorem dX7_digest_64 : decode cX7_digest 64 = .ok (.iload_n 3, 1) := by decide +kernel
theorem dX7_digest_65 : decode cX7_digest 65 = .ok (.aaload, 1) := by decide +kernel
theorem dX7_digest_66 : decode cX7_digest 66 = .ok (.lload_n 1, 1) := by decide +kernel
theorem dX7_digest_67 : decode cX7_digest 67 = .ok (.invokevirtual 177, 3) := by decide +kernel
theorem dX7_digest_70 : decode cX7_digest 70 = .ok (.lstore_n 1, 1) := by decide +kernel
theorem dX7_digest_71 : decode cX7_digest 71 = .ok (.iinc 3 1, 3) := by decide +kernel
theorem dX7_digest_74 : decode cX7_digest 74 = .ok (.goto (-28), 3) := by decide +kernel
theorem dX7_digest_77 : decode cX7_digest 77 = .ok (.iconst 0, 1) := by decide +kernel
theorem dX7_digest_78 : decode cX7_digest 78 = .ok (.istore_n 3, 1) := by decide +kernel
theorem dX7_digest_79 : decode cX7_digest 79 = .ok (.iload_n 3, 1) := by decide +kernel
theorem dX7_digest_80 : decode cX7_digest 80 = .ok (.aload_n 0, 1) := by decide +kernel
theorem dX7_digest_81 : decode cX7_digest 81 = .ok (.getfield 10, 3) := by decide +kernel
theorem dX7_digest_84 : decode cX7_digest 84 = .ok (.getfield 53, 3) := by decide +kernel
theorem dX7_digest_87 : decode cX7_digest 87 = .ok (.if_icmp .ge 23, 3) := by decide +kernel
theorem dX7_digest_90 : decode cX7_digest 90 = .ok (.aload_n 0, 1) := by decide +kernel
theorem dX7_digest_91 : decode cX7_digest 91 = .ok (.getfield 10, 3) := by decide +kernel
theorem dX7_digest_94 : decode cX7_digest 94 = .ok (.getfield 56, 3) := by decide +kernel
theorem dX7_digest_97 : decode cX7_digest 97 = .ok (.iload_n 3, 1) := by decide +kernel
theorem dX7_digest_98 : decode cX7_digest 98 = .ok (.aaload, 1) := by decide +kernel
theorem dX7_digest_99 : decode cX7_digest 99 = .ok (.lload_n 1, 1) := by decide +kernel
theorem dX7_digest_100 : decode cX7_digest 100 = .ok (.invokevirtual 178, 3) := by decide +kernel
theorem dX7_digest_103 : decode cX7_digest 103 = .ok (.lstore_n 1, 1) := by decide +kernel
theorem dX7_digest_104 : decode cX7_digest 104 = .ok (.iinc 3 1, 3) := by decide +kernel
theorem dX7_digest_107 : decode cX7_digest 107 = .ok (.goto (-28), 3) := by decide +kernel
theorem dX7_digest_110 : decode cX7_digest 110 = .ok (.iconst 0, 1) := by decide +kernel
theorem dX7_digest_111 : decode cX7_digest 111 = .ok (.istore_n 3, 1) := by decide +kernel
theorem dX7_digest_112 : decode cX7_digest 112 = .ok (.iload_n 3, 1) := by decide +kernel
theorem dX7_digest_113 : decode cX7_digest 113 = .ok (.aload_n 0, 1) := by decide +kernel
theorem dX7_digest_114 : decode cX7_digest 114 = .ok (.getfield 10, 3) := by decide +kernel
theorem dX7_digest_117 : decode cX7_digest 117 = .ok (.getfield 65, 3) := by decide +kernel
theorem dX7_digest_120 : decode cX7_digest 120 = .ok (.if_icmp .ge 23, 3) := by decide +kernel
theorem dX7_digest_123 : decode cX7_digest 123 = .ok (.aload_n 0, 1) := by decide +kernel
theorem dX7_digest_124 : decode cX7_digest 124 = .ok (.getfield 10, 3) := by decide +kernel
theorem dX7_digest_127 : decode cX7_digest 127 = .ok (.getfield 68, 3) := by decide +kernel
theorem dX7_digest_130 : decode cX7_digest 130 = .ok (.iload_n 3, 1) := by decide +kernel
theorem dX7_digest_131 : decode cX7_digest 131 = .ok (.aaload, 1) := by decide +kernel
theorem dX7_digest_132 : decode cX7_digest 132 = .ok (.lload_n 1, 1) := by decide +kernel
theorem dX7_digest_133 : decode cX7_digest 133 = .ok (.invokevirtual 179, 3) := by decide +kernel
theorem dX7_digest_136 : decode cX7_digest 136 = .ok (.lstore_n 1, 1) := by decide +kernel
theorem dX7_digest_137 : decode cX7_digest 137 = .ok (.iinc 3 1, 3) := by decide +kernel
theorem dX7_digest_140 : decode cX7_digest 140 = .ok (.goto (-28), 3) := by decide +kernel
theorem dX7_digest_143 : decode cX7_digest 143 = .ok (.lload_n 1, 1) := by decide +kernel
theorem dX7_digest_144 : decode cX7_digest 144 = .ok (.lreturn, 1) := by decide +kernel
theorem dX7_checkIndex_0 : decode cX7_checkIndex 0 = .ok (.iload_n 0, 1) := by decide +kernel
theorem dX7_checkIndex_1 : decode cX7_checkIndex 1 = .ok (.ifCond .lt 8, 3) := by decide +kernel
theorem dX7_checkIndex_4 : decode cX7_checkIndex 4 = .ok (.iload_n 0, 1) := by decide +kernel
theorem dX7_checkIndex_5 : decode cX7_checkIndex 5 = .ok (.iload_n 1, 1) := by decide +kernel
theorem dX7_checkIndex_6 : decode cX7_checkIndex 6 = .ok (.if_icmp .lt 13, 3) := by decide +kernel
theorem dX7_checkIndex_9 : decode cX7_checkIndex 9 = .ok (.new 139, 3) := by decide +kernel
theorem dX7_checkIndex_12 : decode cX7_checkIndex 12 = .ok (.dup, 1) := by decide +kernel
theorem dX7_checkIndex_13 : decode cX7_checkIndex 13 = .ok (.ldc 180, 2) := by decide +kernel
theorem dX7_checkIndex_15 : decode cX7_checkIndex 15 = .ok (.invokespecial 143, 3) := by decide +kernel
theorem dX7_checkIndex_18 : decode cX7_checkIndex 18 = .ok (.athrow, 1) := by decide +kernel
theorem dX7_checkIndex_19 : decode cX7_checkIndex 19 = .ok (.return_, 1) := by decide +kernel
theorem dX7_checkNumber_0 : decode cX7_checkNumber 0 = .ok (.iload_n 0, 1) := by decide +kernel
theorem dX7_checkNumber_1 : decode cX7_checkNumber 1 = .ok (.iload_n 1, 1) := by decide +kernel
theorem dX7_checkNumber_2 : decode cX7_checkNumber 2 = .ok (.if_icmp .lt 8, 3) := by decide +kernel
theorem dX7_checkNumber_5 : decode cX7_checkNumber 5 = .ok (.iload_n 0, 1) := by decide +kernel
theorem dX7_checkNumber_6 : decode cX7_checkNumber 6 = .ok (.iload_n 2, 1) := by decide +kernel
theorem dX7_checkNumber_7 : decode cX7_checkNumber 7 = .ok (.if_icmp .le 13, 3) := by decide +kernel
theorem dX7_checkNumber_10 : decode cX7_checkNumber 10 = .ok (.new 182, 3) := by decide +kernel
theorem dX7_checkNumber_13 : decode cX7_checkNumber 13 = .ok (.dup, 1) := by decide +kernel
theorem dX7_checkNumber_14 : decode cX7_checkNumber 14 = .ok (.ldc 184, 2) := by decide +kernel
theorem dX7_checkNumber_16 : decode cX7_checkNumber 16 = .ok (.invokespecial 186, 3) := by decide +kernel
theorem dX7_checkNumber_19 : decode cX7_checkNumber 19 = .ok (.athrow, 1) := by decide +kernel
theorem dX7_checkNumber_20 : decode cX7_checkNumber 20 = .ok (.return_, 1) := by decide +kernel
theorem dX7_checkState_0 : decode cX7_checkState 0 = .ok (.iload_n 0, 1) := by decide +kernel
theorem dX7_checkState_1 : decode cX7_checkState 1 = .ok (.ifCond .ne 13, 3) := by decide +kernel
theorem dX7_checkState_4 : decode cX7_checkState 4 = .ok (.new 187, 3) := by decide +kernel
theorem dX7_checkState_7 : decode cX7_checkState 7 = .ok (.dup, 1) := by decide +kernel
theorem dX7_checkState_8 : decode cX7_checkState 8 = .ok (.ldc 189, 2) := by decide +kernel
theorem dX7_checkState_10 : decode cX7_checkState 10 = .ok (.invokespecial 191, 3) := by decide +kernel
theorem dX7_checkState_13 : decode cX7_checkState 13 = .ok (.athrow, 1) := by decide +kernel
theorem dX7_checkState_14 : decode cX7_checkState 14 = .ok (.return_, 1) := by decide +kernel
set_option maxRecDepth 20000 in
theorem ggX7_ask_X0_size : GoodIn wsX7_ask wsX0_size := goodIn_r _ [6] (by decide +kernel) (by decide +kernel)
set_option maxRecDepth 20000 in
theorem gX7_ask_X0_size_u192X0 : GoodIn wsX7_ask (va_wsU RX7 192 RX0 "ChicoryRoasters$Teller" ⟨"ChicoryRoasters$Teller", "size", "()I"⟩ yX0_size wsX0_size) := goodIn_app (goodIn_of _ (by decide +kernel)) ggX7_ask_X0_size
set_option maxRecDepth 20000 in
theorem ggX7_ask_X1_size : GoodIn wsX7_ask wsX1_size := goodIn_r _ [10] (by decide +kernel) (by decide +kernel)
set_option maxRecDepth 20000 in
theorem gX7_ask_X1_size_u192X1 : GoodIn wsX7_ask (va_wsU RX7 192 RX1 "ChicoryRoasters$Teller" ⟨"ChicoryRoasters$Teller", "size", "()I"⟩ yX1_size wsX1_size) := goodIn_app (goodIn_of _ (by decide +kernel)) ggX7_ask_X1_size
set_option maxRecDepth 20000 in
theorem ggX7_ask_X2_size : GoodIn wsX7_ask wsX2_size := goodIn_r _ [14] (by decide +kernel) (by decide +kernel)
set_option maxRecDepth 20000 in
theorem gX7_ask_X2_size_u192X2 : GoodIn wsX7_ask (va_wsU RX7 192 RX2 "ChicoryRoasters$Teller" ⟨"ChicoryRoasters$Teller", "size", "()I"⟩ yX2_size wsX2_size) := goodIn_app (goodIn_of _ (by decide +kernel)) ggX7_ask_X2_size
set_option maxRecDepth 20000 in
theorem ggX7_ask_X3_size : GoodIn wsX7_ask wsX3_size := goodIn_r _ [18] (by decide +kernel) (by decide +kernel)
set_option maxRecDepth 20000 in
theorem gX7_ask_X3_size_u192X3 : GoodIn wsX7_ask (va_wsU RX7 192 RX3 "ChicoryRoasters$Teller" ⟨"ChicoryRoasters$Teller", "size", "()I"⟩ yX3_size wsX3_size) := goodIn_app (goodIn_of _ (by decide +kernel)) ggX7_ask_X3_size
set_option maxRecDepth 20000 in
theorem ggX7_ask_X6_size : GoodIn wsX7_ask wsX6_size := goodIn_r _ [22] (by decide +kernel) (by decide +kernel)
set_option maxRecDepth 20000 in
theorem gX7_ask_X6_size_u192X6 : GoodIn wsX7_ask (va_wsU RX7 192 RX6 "ChicoryRoasters$Teller" ⟨"ChicoryRoasters$Teller", "size", "()I"⟩ yX6_size wsX6_size) := goodIn_app (goodIn_of _ (by decide +kernel)) ggX7_ask_X6_size
set_option maxRecDepth 20000 in
theorem ggX7_ask_X7_checkIndex : GoodIn wsX7_ask wsX7_checkIndex := goodIn_ca (goodIn_r _ [26, 27, 28] (by decide +kernel) (by decide +kernel)) (goodIn_sub (fun _ h => List.mem_cons_of_mem _ (List.mem_append_right _ h)) (by decide +kernel))
set_option maxRecDepth 20000 in
theorem gX7_ask_X7_checkIndex : GoodIn wsX7_ask (va_wsS RX7 89 yX7_checkIndex wsX7_checkIndex) := goodIn_app (goodIn_of _ (by decide +kernel)) ggX7_ask_X7_checkIndex
set_option maxRecDepth 20000 in
theorem ggX7_ask_X0_tell : GoodIn wsX7_ask wsX0_tell := goodIn_r _ [33, 34, 35, 36, 86, 87, 88] (by decide +kernel) (by decide +kernel)
set_option maxRecDepth 20000 in
theorem gX7_ask_X0_tell_u197X0 : GoodIn wsX7_ask (va_wsU RX7 197 RX0 "ChicoryRoasters$Teller" ⟨"ChicoryRoasters$Teller", "tell", "(I)I"⟩ yX0_tell wsX0_tell) := goodIn_app (goodIn_of _ (by decide +kernel)) ggX7_ask_X0_tell
set_option maxRecDepth 20000 in
theorem ggX7_ask_X1_tell : GoodIn wsX7_ask wsX1_tell := goodIn_r _ [39, 40, 41, 42, 43, 44, 89, 90, 91, 92, 93] (by decide +kernel) (by decide +kernel)
set_option maxRecDepth 20000 in
theorem gX7_ask_X1_tell_u197X1 : GoodIn wsX7_ask (va_wsU RX7 197 RX1 "ChicoryRoasters$Teller" ⟨"ChicoryRoasters$Teller", "tell", "(I)I"⟩ yX1_tell wsX1_tell) := goodIn_app (goodIn_of _ (by decide +kernel)) ggX7_ask_X1_tell
set_option maxRecDepth 20000 in
theorem ggX7_ask_X2_tell : GoodIn wsX7_ask wsX2_tell := goodIn_r _ [47, 48, 49, 50, 51, 52, 53, 54, 55, 13, 56, 57, 58, 59, 60, 61, 62, 63, 64, 94, 95, 96, 97, 98] (by decide +kernel) (by decide +kernel)
set_option maxRecDepth 20000 in
theorem gX7_ask_X2_tell_u197X2 : GoodIn wsX7_ask (va_wsU RX7 197 RX2 "ChicoryRoasters$Teller" ⟨"ChicoryRoasters$Teller", "tell", "(I)I"⟩ yX2_tell wsX2_tell) := goodIn_app (goodIn_of _ (by decide +kernel)) ggX7_ask_X2_tell
set_option maxRecDepth 20000 in
theorem ggX7_ask_X3_tell : GoodIn wsX7_ask wsX3_tell := goodIn_r _ [67, 68, 69, 70, 71, 72, 99, 100, 101, 102, 103] (by decide +kernel) (by decide +kernel)
set_option maxRecDepth 20000 in
theorem gX7_ask_X3_tell_u197X3 : GoodIn wsX7_ask (va_wsU RX7 197 RX3 "ChicoryRoasters$Teller" ⟨"ChicoryRoasters$Teller", "tell", "(I)I"⟩ yX3_tell wsX3_tell) := goodIn_app (goodIn_of _ (by decide +kernel)) ggX7_ask_X3_tell
set_option maxRecDepth 20000 in
theorem ggX7_ask_X6_tell : GoodIn wsX7_ask wsX6_tell := goodIn_r _ [75, 76, 77, 78, 79, 80, 81, 82, 83, 84, 85, 104, 105, 106, 107, 108, 109, 110, 111, 112, 113, 114, 115, 116, 117, 118, 119, 120, 121] (by decide +kernel) (by decide +kernel)
set_option maxRecDepth 20000 in
theorem gX7_ask_X6_tell_u197X6 : GoodIn wsX7_ask (va_wsU RX7 197 RX6 "ChicoryRoasters$Teller" ⟨"ChicoryRoasters$Teller", "tell", "(I)I"⟩ yX6_tell wsX6_tell) := goodIn_app (goodIn_of _ (by decide +kernel)) ggX7_ask_X6_tell
theorem dX7_ask_0 : decode cX7_ask 0 = .ok (.iload_n 1, 1) := by decide +kernel
theorem dX7_ask_1 : decode cX7_ask 1 = .ok (.aload_n 0, 1) := by decide +kernel
theorem dX7_ask_2 : decode cX7_ask 2 = .ok (.invokevirtual 192, 3) := by decide +kernel
theorem dX7_ask_5 : decode cX7_ask 5 = .ok (.invokestatic 89, 3) := by decide +kernel
theorem dX7_ask_8 : decode cX7_ask 8 = .ok (.aload_n 0, 1) := by decide +kernel
theorem dX7_ask_9 : decode cX7_ask 9 = .ok (.iload_n 1, 1) := by decide +kernel
theorem dX7_ask_10 : decode cX7_ask 10 = .ok (.invokevirtual 197, 3) := by decide +kernel
theorem dX7_ask_13 : decode cX7_ask 13 = .ok (.ireturn, 1) := by decide +kernel
end
section
theorem dX8_init_0 : decode cX8_init 0 = .ok (.aload_n 0, 1) := by decide +kernel
theorem dX8_init_1 : decode cX8_init 1 = .ok (.invokespecial 1, 3) := by decide +kernel
theorem dX8_init_4 : decode cX8_init 4 = .ok (.aload_n 0, 1) := by decide +kernel
theorem dX8_init_5 : decode cX8_init 5 = .ok (.bipush 8, 2) := by decide +kernel
theorem dX8_init_7 : decode cX8_init 7 = .ok (.newarray .int, 2) := by decide +kernel
theorem dX8_init_9 : decode cX8_init 9 = .ok (.putfield 9, 3) := by decide +kernel
theorem dX8_init_12 : decode cX8_init 12 = .ok (.aload_n 0, 1) := by decide +kernel
theorem dX8_init_13 : decode cX8_init 13 = .ok (.iconst 4, 1) := by decide +kernel
theorem dX8_init_14 : decode cX8_init 14 = .ok (.newarray .int, 2) := by decide +kernel
theorem dX8_init_16 : decode cX8_init 16 = .ok (.putfield 13, 3) := by decide +kernel
theorem dX8_init_19 : decode cX8_init 19 = .ok (.aload_n 0, 1) := by decide +kernel
theorem dX8_init_20 : decode cX8_init 20 = .ok (.bipush 8, 2) := by decide +kernel
theorem dX8_init_22 : decode cX8_init 22 = .ok (.newarray .int, 2) := by decide +kernel
theorem dX8_init_24 : decode cX8_init 24 = .ok (.putfield 16, 3) := by decide +kernel
theorem dX8_init_27 : decode cX8_init 27 = .ok (.aload_n 0, 1) := by decide +kernel
theorem dX8_init_28 : decode cX8_init 28 = .ok (.bipush 20, 2) := by decide +kernel
theorem dX8_init_30 : decode cX8_init 30 = .ok (.newarray .int, 2) := by decide +kernel
theorem dX8_init_32 : decode cX8_init 32 = .ok (.putfield 19, 3) := by decide +kernel
theorem dX8_init_35 : decode cX8_init 35 = .ok (.aload_n 0, 1) := by decide +kernel
theorem dX8_init_36 : decode cX8_init 36 = .ok (.bipush 72, 2) := by decide +kernel
theorem dX8_init_38 : decode cX8_init 38 = .ok (.newarray .int, 2) := by decide +kernel
theorem dX8_init_40 : decode cX8_init 40 = .ok (.putfield 22, 3) := by decide +kernel
theorem dX8_init_43 : decode cX8_init 43 = .ok (.aload_n 0, 1) := by decide +kernel
theorem dX8_init_44 : decode cX8_init 44 = .ok (.bipush 72, 2) := by decide +kernel
theorem dX8_init_46 : decode cX8_init 46 = .ok (.newarray .int, 2) := by decide +kernel
theorem dX8_init_48 : decode cX8_init 48 = .ok (.putfield 25, 3) := by decide +kernel
theorem dX8_init_51 : decode cX8_init 51 = .ok (.aload_n 0, 1) := by decide +kernel
theorem dX8_init_52 : decode cX8_init 52 = .ok (.getfield 22, 3) := by decide +kernel
theorem dX8_init_55 : decode cX8_init 55 = .ok (.bipush 7, 2) := by decide +kernel
theorem dX8_init_57 : decode cX8_init 57 = .ok (.iconst 5, 1) := by decide +kernel
theorem dX8_init_58 : decode cX8_init 58 = .ok (.iastore, 1) := by decide +kernel
theorem dX8_init_59 : decode cX8_init 59 = .ok (.return_, 1) := by decide +kernel
theorem dX8_thrown_0 : decode cX8_thrown 0 = .ok (.aload_n 0, 1) := by decide +kernel
theorem dX8_thrown_1 : decode cX8_thrown 1 = .ok (.getfield 28, 3) := by decide +kernel
theorem dX8_thrown_4 : decode cX8_thrown 4 = .ok (.ireturn, 1) := by decide +kernel
theorem dX8_fail_0 : decode cX8_fail 0 = .ok (.aload_n 0, 1) := by decide +kernel
theorem dX8_fail_1 : decode cX8_fail 1 = .ok (.iload_n 1, 1) := by decide +kernel
theorem dX8_fail_2 : decode cX8_fail 2 = .ok (.putfield 28, 3) := by decide +kernel
theorem dX8_fail_5 : decode cX8_fail 5 = .ok (.iconst 0, 1) := by decide +kernel
theorem dX8_fail_6 : decode cX8_fail 6 = .ok (.ireturn, 1) := by decide +kernel
theorem dX8_isIn_0 : decode cX8_isIn 0 = .ok (.iload_n 0, 1) := by decide +kernel
theorem dX8_isIn_1 : decode cX8_isIn 1 = .ok (.iload_n 1, 1) := by decide +kernel
theorem dX8_isIn_2 : decode cX8_isIn 2 = .ok (.if_icmp .lt 12, 3) := by decide +kernel
theorem dX8_isIn_5 : decode cX8_isIn 5 = .ok (.iload_n 0, 1) := by decide +kernel
theorem dX8_isIn_6 : decode cX8_isIn 6 = .ok (.iload_n 2, 1) := by decide +kernel
theorem dX8_isIn_7 : decode cX8_isIn 7 = .ok (.if_icmp .gt 7, 3) := by decide +kernel
theorem dX8_isIn_10 : decode cX8_isIn 10 = .ok (.iconst 1, 1) := by decide +kernel
theorem dX8_isIn_11 : decode cX8_isIn 11 = .ok (.goto 4, 3) := by decide +kernel
theorem dX8_isIn_14 : decode cX8_isIn 14 = .ok (.iconst 0, 1) := by decide +kernel
theorem dX8_isIn_15 : decode cX8_isIn 15 = .ok (.ireturn, 1) := by decide +kernel
set_option maxRecDepth 20000 in
theorem ggX8_isDrum_X8_isIn : GoodIn wsX8_isDrum wsX8_isIn := goodIn_r _ [5] (by decide +kernel) (by decide +kernel)
set_option maxRecDepth 20000 in
theorem gX8_isDrum_X8_isIn : GoodIn wsX8_isDrum (va_wsS RX8 35 yX8_isIn wsX8_isIn) := goodIn_app (goodIn_of _ (by decide +kernel)) ggX8_isDrum_X8_isIn
theorem dX8_isDrum_0 : decode cX8_isDrum 0 = .ok (.iload_n 1, 1) := by decide +kernel
theorem dX8_isDrum_1 : decode cX8_isDrum 1 = .ok (.iconst 0, 1) := by decide +kernel
theorem dX8_isDrum_2 : decode cX8_isDrum 2 = .ok (.aload_n 0, 1) := by decide +kernel
theorem dX8_isDrum_3 : decode cX8_isDrum 3 = .ok (.getfield 32, 3) := by decide +kernel
theorem dX8_isDrum_6 : decode cX8_isDrum 6 = .ok (.iconst 1, 1) := by decide +kernel
theorem dX8_isDrum_7 : decode cX8_isDrum 7 = .ok (.isub, 1) := by decide +kernel
theorem dX8_isDrum_8 : decode cX8_isDrum 8 = .ok (.invokestatic 35, 3) := by decide +kernel
theorem dX8_isDrum_11 : decode cX8_isDrum 11 = .ok (.ireturn, 1) := by decide +kernel
set_option maxRecDepth 20000 in
theorem ggX8_isSmuggler_X8_isIn : GoodIn wsX8_isSmuggler wsX8_isIn := goodIn_r _ [5] (by decide +kernel) (by decide +kernel)
set_option maxRecDepth 20000 in
theorem gX8_isSmuggler_X8_isIn : GoodIn wsX8_isSmuggler (va_wsS RX8 35 yX8_isIn wsX8_isIn) := goodIn_app (goodIn_of _ (by decide +kernel)) ggX8_isSmuggler_X8_isIn
theorem dX8_isSmuggler_0 : decode cX8_isSmuggler 0 = .ok (.iload_n 1, 1) := by decide +kernel
theorem dX8_isSmuggler_1 : decode cX8_isSmuggler 1 = .ok (.iconst 0, 1) := by decide +kernel
theorem dX8_isSmuggler_2 : decode cX8_isSmuggler 2 = .ok (.aload_n 0, 1) := by decide +kernel
theorem dX8_isSmuggler_3 : decode cX8_isSmuggler 3 = .ok (.getfield 39, 3) := by decide +kernel
theorem dX8_isSmuggler_6 : decode cX8_isSmuggler 6 = .ok (.iconst 1, 1) := by decide +kernel
theorem dX8_isSmuggler_7 : decode cX8_isSmuggler 7 = .ok (.isub, 1) := by decide +kernel
theorem dX8_isSmuggler_8 : decode cX8_isSmuggler 8 = .ok (.invokestatic 35, 3) := by decide +kernel
theorem dX8_isSmuggler_11 : decode cX8_isSmuggler 11 = .ok (.ireturn, 1) := by decide +kernel
theorem dX8_keep_0 : decode cX8_keep 0 = .ok (.aload_n 0, 1) := by decide +kernel
theorem dX8_keep_1 : decode cX8_keep 1 = .ok (.getfield 22, 3) := by decide +kernel
theorem dX8_keep_4 : decode cX8_keep 4 = .ok (.iconst 0, 1) := by decide +kernel
theorem dX8_keep_5 : decode cX8_keep 5 = .ok (.aload_n 0, 1) := by decide +kernel
theorem dX8_keep_6 : decode cX8_keep 6 = .ok (.getfield 25, 3) := by decide +kernel
theorem dX8_keep_9 : decode cX8_keep 9 = .ok (.iconst 0, 1) := by decide +kernel
theorem dX8_keep_10 : decode cX8_keep 10 = .ok (.bipush 72, 2) := by decide +kernel
theorem dX8_keep_12 : decode cX8_keep 12 = .ok (.invokestatic 42, 3) := by decide +kernel
theorem dX8_keep_15 : decode cX8_keep 15 = .ok (.return_, 1) := by decide +kernel
theorem dX8_bringBack_0 : decode cX8_bringBack 0 = .ok (.aload_n 0, 1) := by decide +kernel
theorem dX8_bringBack_1 : decode cX8_bringBack 1 = .ok (.getfield 25, 3) := by decide +kernel
theorem dX8_bringBack_4 : decode cX8_bringBack 4 = .ok (.iconst 0, 1) := by decide +kernel
theorem dX8_bringBack_5 : decode cX8_bringBack 5 = .ok (.aload_n 0, 1) := by decide +kernel
theorem dX8_bringBack_6 : decode cX8_bringBack 6 = .ok (.getfield 22, 3) := by decide +kernel
theorem dX8_bringBack_9 : decode cX8_bringBack 9 = .ok (.iconst 0, 1) := by decide +kernel
theorem dX8_bringBack_10 : decode cX8_bringBack 10 = .ok (.bipush 72, 2) := by decide +kernel
theorem dX8_bringBack_12 : decode cX8_bringBack 12 = .ok (.invokestatic 42, 3) := by decide +kernel
theorem dX8_bringBack_15 : decode cX8_bringBack 15 = .ok (.return_, 1) := by decide +kernel
theorem dX8_dr_0 : decode cX8_dr 0 = .ok (.aload_n 0, 1) := by decide +kernel
theorem dX8_dr_1 : decode cX8_dr 1 = .ok (.getfield 22, 3) := by decide +kernel
theorem dX8_dr_4 : decode cX8_dr 4 = .ok (.bipush 14, 2) := by decide +kernel
theorem dX8_dr_6 : decode cX8_dr 6 = .ok (.iconst 4, 1) := by decide +kernel
theorem dX8_dr_7 : decode cX8_dr 7 = .ok (.iload_n 1, 1) := by decide +kernel
theorem dX8_dr_8 : decode cX8_dr 8 = .ok (.imul, 1) := by decide +kernel
theorem dX8_dr_9 : decode cX8_dr 9 = .ok (.iadd, 1) := by decide +kernel
theorem dX8_dr_10 : decode cX8_dr 10 = .ok (.iload_n 2, 1) := by decide +kernel
theorem dX8_dr_11 : decode cX8_dr 11 = .ok (.iadd, 1) := by decide +kernel
theorem dX8_dr_12 : decode cX8_dr 12 = .ok (.iaload, 1) := by decide +kernel
theorem dX8_dr_13 : decode cX8_dr 13 = .ok (.ireturn, 1) := by decide +kernel
theorem dX8_letDrum_0 : decode cX8_letDrum 0 = .ok (.aload_n 0, 1) := by decide +kernel
theorem dX8_letDrum_1 : decode cX8_letDrum 1 = .ok (.getfield 22, 3) := by decide +kernel
theorem dX8_letDrum_4 : decode cX8_letDrum 4 = .ok (.bipush 14, 2) := by decide +kernel
theorem dX8_letDrum_6 : decode cX8_letDrum 6 = .ok (.iconst 4, 1) := by decide +kernel
theorem dX8_letDrum_7 : decode cX8_letDrum 7 = .ok (.iload_n 1, 1) := by decide +kernel
theorem dX8_letDrum_8 : decode cX8_letDrum 8 = .ok (.imul, 1) := by decide +kernel
theorem dX8_letDrum_9 : decode cX8_letDrum 9 = .ok (.iadd, 1) := by decide +kernel
theorem dX8_letDrum_10 : decode cX8_letDrum 10 = .ok (.iload_n 2, 1) := by decide +kernel
theorem dX8_letDrum_11 : decode cX8_letDrum 11 = .ok (.iadd, 1) := by decide +kernel
theorem dX8_letDrum_12 : decode cX8_letDrum 12 = .ok (.iload_n 3, 1) := by decide +kernel
theorem dX8_letDrum_13 : decode cX8_letDrum 13 = .ok (.iastore, 1) := by decide +kernel
theorem dX8_letDrum_14 : decode cX8_letDrum 14 = .ok (.return_, 1) := by decide +kernel
theorem dX8_sm_0 : decode cX8_sm 0 = .ok (.aload_n 0, 1) := by decide +kernel
theorem dX8_sm_1 : decode cX8_sm 1 = .ok (.getfield 22, 3) := by decide +kernel
theorem dX8_sm_4 : decode cX8_sm 4 = .ok (.bipush 30, 2) := by decide +kernel
theorem dX8_sm_6 : decode cX8_sm 6 = .ok (.iconst 3, 1) := by decide +kernel
theorem dX8_sm_7 : decode cX8_sm 7 = .ok (.iload_n 1, 1) := by decide +kernel
theorem dX8_sm_8 : decode cX8_sm 8 = .ok (.imul, 1) := by decide +kernel
theorem dX8_sm_9 : decode cX8_sm 9 = .ok (.iadd, 1) := by decide +kernel
theorem dX8_sm_10 : decode cX8_sm 10 = .ok (.iload_n 2, 1) := by decide +kernel
theorem dX8_sm_11 : decode cX8_sm 11 = .ok (.iadd, 1) := by decide +kernel
theorem dX8_sm_12 : decode cX8_sm 12 = .ok (.iaload, 1) := by decide +kernel
theorem dX8_sm_13 : decode cX8_sm 13 = .ok (.ireturn, 1) := by decide +kernel
theorem dX8_letSmuggler_0 : decode cX8_letSmuggler 0 = .ok (.aload_n 0, 1) := by decide +kernel
theorem dX8_letSmuggler_1 : decode cX8_letSmuggler 1 = .ok (.getfield 22, 3) := by decide +kernel
theorem dX8_letSmuggler_4 : decode cX8_letSmuggler 4 = .ok (.bipush 30, 2) := by decide +kernel
theorem dX8_letSmuggler_6 : decode cX8_letSmuggler 6 = .ok (.iconst 3, 1) := by decide +kernel
theorem dX8_letSmuggler_7 : decode cX8_letSmuggler 7 = .ok (.iload_n 1, 1) := by decide +kernel
theorem dX8_letSmuggler_8 : decode cX8_letSmuggler 8 = .ok (.imul, 1) := by decide +kernel
theorem dX8_letSmuggler_9 : decode cX8_letSmuggler 9 = .ok (.iadd, 1) := by decide +kernel
theorem dX8_letSmuggler_10 : decode cX8_letSmuggler 10 = .ok (.iconst 0, 1) := by decide +kernel
theorem dX8_letSmuggler_11 : decode cX8_letSmuggler 11 = .ok (.iadd, 1) := by decide +kernel
theorem dX8_letSmuggler_12 : decode cX8_letSmuggler 12 = .ok (.iload_n 2, 1) := by decide +kernel
theorem dX8_letSmuggler_13 : decode cX8_letSmuggler 13 = .ok (.iastore, 1) := by decide +kernel
theorem dX8_letSmuggler_14 : decode cX8_letSmuggler 14 = .ok (.aload_n 0, 1) := by decide +kernel
theorem dX8_letSmuggler_15 : decode cX8_letSmuggler 15 = .ok (.getfield 22, 3) := by decide +kernel
theorem dX8_letSmuggler_18 : decode cX8_letSmuggler 18 = .ok (.bipush 30, 2) := by decide +kernel
theorem dX8_letSmuggler_20 : decode cX8_letSmuggler 20 = .ok (.iconst 3, 1) := by decide +kernel
theorem dX8_letSmuggler_21 : decode cX8_letSmuggler 21 = .ok (.iload_n 1, 1) := by decide +kernel
theorem dX8_letSmuggler_22 : decode cX8_letSmuggler 22 = .ok (.imul, 1) := by decide +kernel
theorem dX8_letSmuggler_23 : decode cX8_letSmuggler 23 = .ok (.iadd, 1) := by decide +kernel
theorem dX8_letSmuggler_24 : decode cX8_letSmuggler 24 = .ok (.iconst 1, 1) := by decide +kernel
theorem dX8_letSmuggler_25 : decode cX8_letSmuggler 25 = .ok (.iadd, 1) := by decide +kernel
theorem dX8_letSmuggler_26 : decode cX8_letSmuggler 26 = .ok (.iload_n 3, 1) := by decide +kernel
theorem dX8_letSmuggler_27 : decode cX8_letSmuggler 27 = .ok (.iastore, 1) := by decide +kernel
theorem dX8_letSmuggler_28 : decode cX8_letSmuggler 28 = .ok (.return_, 1) := by decide +kernel
theorem dX8_ca_0 : decode cX8_ca 0 = .ok (.aload_n 0, 1) := by decide +kernel
theorem dX8_ca_1 : decode cX8_ca 1 = .ok (.getfield 22, 3) := by decide +kernel
theorem dX8_ca_4 : decode cX8_ca 4 = .ok (.bipush 42, 2) := by decide +kernel
theorem dX8_ca_6 : decode cX8_ca 6 = .ok (.iconst 3, 1) := by decide +kernel
theorem dX8_ca_7 : decode cX8_ca 7 = .ok (.iload_n 1, 1) := by decide +kernel
theorem dX8_ca_8 : decode cX8_ca 8 = .ok (.imul, 1) := by decide +kernel
theorem dX8_ca_9 : decode cX8_ca 9 = .ok (.iadd, 1) := by decide +kernel
theorem dX8_ca_10 : decode cX8_ca 10 = .ok (.iload_n 2, 1) := by decide +kernel
theorem dX8_ca_11 : decode cX8_ca 11 = .ok (.iadd, 1) := by decide +kernel
theorem dX8_ca_12 : decode cX8_ca 12 = .ok (.iaload, 1) := by decide +kernel
theorem dX8_ca_13 : decode cX8_ca 13 = .ok (.ireturn, 1) := by decide +kernel
theorem dX8_moreCard_0 : decode cX8_moreCard 0 = .ok (.aload_n 0, 1) := by decide +kernel
theorem dX8_moreCard_1 : decode cX8_moreCard 1 = .ok (.getfield 22, 3) := by decide +kernel
theorem dX8_moreCard_4 : decode cX8_moreCard 4 = .ok (.bipush 42, 2) := by decide +kernel
theorem dX8_moreCard_6 : decode cX8_moreCard 6 = .ok (.iconst 3, 1) := by decide +kernel
theorem dX8_moreCard_7 : decode cX8_moreCard 7 = .ok (.iload_n 1, 1) := by decide +kernel
theorem dX8_moreCard_8 : decode cX8_moreCard 8 = .ok (.imul, 1) := by decide +kernel
theorem dX8_moreCard_9 : decode cX8_moreCard 9 = .ok (.iadd, 1) := by decide +kernel
theorem dX8_moreCard_10 : decode cX8_moreCard 10 = .ok (.iload_n 2, 1) := by decide +kernel
theorem dX8_moreCard_11 : decode cX8_moreCard 11 = .ok (.iadd, 1) := by decide +kernel
theorem dX8_moreCard_12 : decode cX8_moreCard 12 = .ok (.dup2, 1) := by decide +kernel
theorem dX8_moreCard_13 : decode cX8_moreCard 13 = .ok (.iaload, 1) := by decide +kernel
theorem dX8_moreCard_14 : decode cX8_moreCard 14 = .ok (.iload_n 3, 1) := by decide +kernel
theorem dX8_moreCard_15 : decode cX8_moreCard 15 = .ok (.iadd, 1) := by decide +kernel
theorem dX8_moreCard_16 : decode cX8_moreCard 16 = .ok (.iastore, 1) := by decide +kernel
theorem dX8_moreCard_17 : decode cX8_moreCard 17 = .ok (.return_, 1) := by decide +kernel
set_option maxRecDepth 20000 in
theorem ggX8_bed_X8_isIn : GoodIn wsX8_bed wsX8_isIn := goodIn_r _ [7] (by decide +kernel) (by decide +kernel)
set_option maxRecDepth 20000 in
theorem gX8_bed_X8_isIn : GoodIn wsX8_bed (va_wsS RX8 35 yX8_isIn wsX8_isIn) := goodIn_app (goodIn_of _ (by decide +kernel)) ggX8_bed_X8_isIn
set_option maxRecDepth 20000 in
theorem ggX8_bed_X8_fail : GoodIn wsX8_bed wsX8_fail := goodIn_r _ [11, 1, 12, 13, 14, 15, 16, 17, 18, 19, 20, 21, 22] (by decide +kernel) (by decide +kernel)
set_option maxRecDepth 20000 in
theorem gX8_bed_X8_fail : GoodIn wsX8_bed (wsV RX8 48 RX8 yX8_fail wsX8_fail) := goodIn_app (goodIn_of _ (by decide +kernel)) ggX8_bed_X8_fail
theorem dX8_bed_0 : decode cX8_bed 0 = .ok (.aload_n 0, 1) := by decide +kernel
theorem dX8_bed_1 : decode cX8_bed 1 = .ok (.iconst 0, 1) := by decide +kernel
theorem dX8_bed_2 : decode cX8_bed 2 = .ok (.putfield 28, 3) := by decide +kernel
theorem dX8_bed_5 : decode cX8_bed 5 = .ok (.iload_n 1, 1) := by decide +kernel
theorem dX8_bed_6 : decode cX8_bed 6 = .ok (.iconst 0, 1) := by decide +kernel
theorem dX8_bed_7 : decode cX8_bed 7 = .ok (.bipush 9, 2) := by decide +kernel
theorem dX8_bed_9 : decode cX8_bed 9 = .ok (.invokestatic 35, 3) := by decide +kernel
theorem dX8_bed_12 : decode cX8_bed 12 = .ok (.ifCond .eq 13, 3) := by decide +kernel
theorem dX8_bed_15 : decode cX8_bed 15 = .ok (.iload_n 2, 1) := by decide +kernel
theorem dX8_bed_16 : decode cX8_bed 16 = .ok (.iconst 1, 1) := by decide +kernel
theorem dX8_bed_17 : decode cX8_bed 17 = .ok (.bipush 99, 2) := by decide +kernel
theorem dX8_bed_19 : decode cX8_bed 19 = .ok (.invokestatic 35, 3) := by decide +kernel
theorem dX8_bed_22 : decode cX8_bed 22 = .ok (.ifCond .ne 9, 3) := by decide +kernel
theorem dX8_bed_25 : decode cX8_bed 25 = .ok (.aload_n 0, 1) := by decide +kernel
theorem dX8_bed_26 : decode cX8_bed 26 = .ok (.iconst 1, 1) := by decide +kernel
theorem dX8_bed_27 : decode cX8_bed 27 = .ok (.invokevirtual 48, 3) := by decide +kernel
theorem dX8_bed_30 : decode cX8_bed 30 = .ok (.ireturn, 1) := by decide +kernel
theorem dX8_bed_31 : decode cX8_bed 31 = .ok (.aload_n 0, 1) := by decide +kernel
theorem dX8_bed_32 : decode cX8_bed 32 = .ok (.getfield 52, 3) := by decide +kernel
theorem dX8_bed_35 : decode cX8_bed 35 = .ok (.iconst 4, 1) := by decide +kernel
theorem dX8_bed_36 : decode cX8_bed 36 = .ok (.if_icmp .ne 9, 3) := by decide +kernel
theorem dX8_bed_39 : decode cX8_bed 39 = .ok (.aload_n 0, 1) := by decide +kernel
theorem dX8_bed_40 : decode cX8_bed 40 = .ok (.iconst 2, 1) := by decide +kernel
theorem dX8_bed_41 : decode cX8_bed 41 = .ok (.invokevirtual 48, 3) := by decide +kernel
theorem dX8_bed_44 : decode cX8_bed 44 = .ok (.ireturn, 1) := by decide +kernel
theorem dX8_bed_45 : decode cX8_bed 45 = .ok (.aload_n 0, 1) := by decide +kernel
theorem dX8_bed_46 : decode cX8_bed 46 = .ok (.getfield 9, 3) := by decide +kernel
theorem dX8_bed_49 : decode cX8_bed 49 = .ok (.iconst 2, 1) := by decide +kernel
theorem dX8_bed_50 : decode cX8_bed 50 = .ok (.aload_n 0, 1) := by decide +kernel
theorem dX8_bed_51 : decode cX8_bed 51 = .ok (.getfield 52, 3) := by decide +kernel
theorem dX8_bed_54 : decode cX8_bed 54 = .ok (.imul, 1) := by decide +kernel
theorem dX8_bed_55 : decode cX8_bed 55 = .ok (.iload_n 1, 1) := by decide +kernel
theorem dX8_bed_56 : decode cX8_bed 56 = .ok (.iastore, 1) := by decide +kernel
theorem dX8_bed_57 : decode cX8_bed 57 = .ok (.aload_n 0, 1) := by decide +kernel
theorem dX8_bed_58 : decode cX8_bed 58 = .ok (.getfield 9, 3) := by decide +kernel
theorem dX8_bed_61 : decode cX8_bed 61 = .ok (.iconst 2, 1) := by decide +kernel
theorem dX8_bed_62 : decode cX8_bed 62 = .ok (.aload_n 0, 1) := by decide +kernel
theorem dX8_bed_63 : decode cX8_bed 63 = .ok (.getfield 52, 3) := by decide +kernel
theorem dX8_bed_66 : decode cX8_bed 66 = .ok (.imul, 1) := by decide +kernel
theorem dX8_bed_67 : decode cX8_bed 67 = .ok (.iconst 1, 1) := by decide +kernel
theorem dX8_bed_68 : decode cX8_bed 68 = .ok (.iadd, 1) := by decide +kernel
theorem dX8_bed_69 : decode cX8_bed 69 = .ok (.iload_n 2, 1) := by decide +kernel
theorem dX8_bed_70 : decode cX8_bed 70 = .ok (.iastore, 1) := by decide +kernel
theorem dX8_bed_71 : decode cX8_bed 71 = .ok (.aload_n 0, 1) := by decide +kernel
theorem dX8_bed_72 : decode cX8_bed 72 = .ok (.dup, 1) := by decide +kernel
theorem dX8_bed_73 : decode cX8_bed 73 = .ok (.getfield 52, 3) := by decide +kernel
theorem dX8_bed_76 : decode cX8_bed 76 = .ok (.iconst 1, 1) := by decide +kernel
theorem dX8_bed_77 : decode cX8_bed 77 = .ok (.iadd, 1) := by decide +kernel
theorem dX8_bed_78 : decode cX8_bed 78 = .ok (.putfield 52, 3) := by decide +kernel
theorem dX8_bed_81 : decode cX8_bed 81 = .ok (.aload_n 0, 1) := by decide +kernel
theorem dX8_bed_82 : decode cX8_bed 82 = .ok (.getfield 52, 3) := by decide +kernel
theorem dX8_bed_85 : decode cX8_bed 85 = .ok (.iconst 1, 1) := by decide +kernel
theorem dX8_bed_86 : decode cX8_bed 86 = .ok (.isub, 1) := by decide +kernel
theorem dX8_bed_87 : decode cX8_bed 87 = .ok (.ireturn, 1) := by decide +kernel
set_option maxRecDepth 20000 in
theorem ggX8_drum_X8_isIn : GoodIn wsX8_drum wsX8_isIn := goodIn_r _ [7] (by decide +kernel) (by decide +kernel)
set_option maxRecDepth 20000 in
theorem gX8_drum_X8_isIn : GoodIn wsX8_drum (va_wsS RX8 35 yX8_isIn wsX8_isIn) := goodIn_app (goodIn_of _ (by decide +kernel)) ggX8_drum_X8_isIn
set_option maxRecDepth 20000 in
theorem ggX8_drum_X8_fail : GoodIn wsX8_drum wsX8_fail := goodIn_r _ [11, 1, 17, 18, 19, 20, 21, 22, 23, 24, 25, 26, 27] (by decide +kernel) (by decide +kernel)
set_option maxRecDepth 20000 in
theorem gX8_drum_X8_fail : GoodIn wsX8_drum (wsV RX8 48 RX8 yX8_fail wsX8_fail) := goodIn_app (goodIn_of _ (by decide +kernel)) ggX8_drum_X8_fail
set_option maxRecDepth 20000 in
theorem ggX8_drum_X8_letDrum : GoodIn wsX8_drum wsX8_letDrum := goodIn_r _ [15, 16, 17, 18, 19, 20, 21, 22, 23, 24, 25, 26, 27] (by decide +kernel) (by decide +kernel)
set_option maxRecDepth 20000 in
theorem gX8_drum_X8_letDrum : GoodIn wsX8_drum (wsV RX8 55 RX8 yX8_letDrum wsX8_letDrum) := goodIn_app (goodIn_of _ (by decide +kernel)) ggX8_drum_X8_letDrum
theorem dX8_drum_0 : decode cX8_drum 0 = .ok (.aload_n 0, 1) := by decide +kernel
theorem dX8_drum_1 : decode cX8_drum 1 = .ok (.iconst 0, 1) := by decide +kernel
theorem dX8_drum_2 : decode cX8_drum 2 = .ok (.putfield 28, 3) := by decide +kernel
theorem dX8_drum_5 : decode cX8_drum 5 = .ok (.iload_n 1, 1) := by decide +kernel
theorem dX8_drum_6 : decode cX8_drum 6 = .ok (.iconst 1, 1) := by decide +kernel
theorem dX8_drum_7 : decode cX8_drum 7 = .ok (.bipush 40, 2) := by decide +kernel
theorem dX8_drum_9 : decode cX8_drum 9 = .ok (.invokestatic 35, 3) := by decide +kernel
theorem dX8_drum_12 : decode cX8_drum 12 = .ok (.ifCond .eq 13, 3) := by decide +kernel
theorem dX8_drum_15 : decode cX8_drum 15 = .ok (.iload_n 2, 1) := by decide +kernel
theorem dX8_drum_16 : decode cX8_drum 16 = .ok (.iconst 0, 1) := by decide +kernel
theorem dX8_drum_17 : decode cX8_drum 17 = .ok (.bipush 9, 2) := by decide +kernel
theorem dX8_drum_19 : decode cX8_drum 19 = .ok (.invokestatic 35, 3) := by decide +kernel
theorem dX8_drum_22 : decode cX8_drum 22 = .ok (.ifCond .ne 9, 3) := by decide +kernel
theorem dX8_drum_25 : decode cX8_drum 25 = .ok (.aload_n 0, 1) := by decide +kernel
theorem dX8_drum_26 : decode cX8_drum 26 = .ok (.iconst 1, 1) := by decide +kernel
theorem dX8_drum_27 : decode cX8_drum 27 = .ok (.invokevirtual 48, 3) := by decide +kernel
theorem dX8_drum_30 : decode cX8_drum 30 = .ok (.ireturn, 1) := by decide +kernel
theorem dX8_drum_31 : decode cX8_drum 31 = .ok (.aload_n 0, 1) := by decide +kernel
theorem dX8_drum_32 : decode cX8_drum 32 = .ok (.getfield 32, 3) := by decide +kernel
theorem dX8_drum_35 : decode cX8_drum 35 = .ok (.iconst 4, 1) := by decide +kernel
theorem dX8_drum_36 : decode cX8_drum 36 = .ok (.if_icmp .ne 9, 3) := by decide +kernel
theorem dX8_drum_39 : decode cX8_drum 39 = .ok (.aload_n 0, 1) := by decide +kernel
theorem dX8_drum_40 : decode cX8_drum 40 = .ok (.iconst 2, 1) := by decide +kernel
theorem dX8_drum_41 : decode cX8_drum 41 = .ok (.invokevirtual 48, 3) := by decide +kernel
theorem dX8_drum_44 : decode cX8_drum 44 = .ok (.ireturn, 1) := by decide +kernel
theorem dX8_drum_45 : decode cX8_drum 45 = .ok (.aload_n 0, 1) := by decide +kernel
theorem dX8_drum_46 : decode cX8_drum 46 = .ok (.getfield 13, 3) := by decide +kernel
theorem dX8_drum_49 : decode cX8_drum 49 = .ok (.aload_n 0, 1) := by decide +kernel
theorem dX8_drum_50 : decode cX8_drum 50 = .ok (.getfield 32, 3) := by decide +kernel
theorem dX8_drum_53 : decode cX8_drum 53 = .ok (.iload_n 1, 1) := by decide +kernel
theorem dX8_drum_54 : decode cX8_drum 54 = .ok (.iastore, 1) := by decide +kernel
theorem dX8_drum_55 : decode cX8_drum 55 = .ok (.aload_n 0, 1) := by decide +kernel
theorem dX8_drum_56 : decode cX8_drum 56 = .ok (.aload_n 0, 1) := by decide +kernel
theorem dX8_drum_57 : decode cX8_drum 57 = .ok (.getfield 32, 3) := by decide +kernel
theorem dX8_drum_60 : decode cX8_drum 60 = .ok (.iconst 0, 1) := by decide +kernel
theorem dX8_drum_61 : decode cX8_drum 61 = .ok (.iload_n 2, 1) := by decide +kernel
theorem dX8_drum_62 : decode cX8_drum 62 = .ok (.invokevirtual 55, 3) := by decide +kernel
theorem dX8_drum_65 : decode cX8_drum 65 = .ok (.aload_n 0, 1) := by decide +kernel
theorem dX8_drum_66 : decode cX8_drum 66 = .ok (.aload_n 0, 1) := by decide +kernel
theorem dX8_drum_67 : decode cX8_drum 67 = .ok (.getfield 32, 3) := by decide +kernel
theorem dX8_drum_70 : decode cX8_drum 70 = .ok (.iconst 1, 1) := by decide +kernel
theorem dX8_drum_71 : decode cX8_drum 71 = .ok (.iconst (-1), 1) := by decide +kernel
theorem dX8_drum_72 : decode cX8_drum 72 = .ok (.invokevirtual 55, 3) := by decide +kernel
theorem dX8_drum_75 : decode cX8_drum 75 = .ok (.aload_n 0, 1) := by decide +kernel
theorem dX8_drum_76 : decode cX8_drum 76 = .ok (.dup, 1) := by decide +kernel
theorem dX8_drum_77 : decode cX8_drum 77 = .ok (.getfield 32, 3) := by decide +kernel
theorem dX8_drum_80 : decode cX8_drum 80 = .ok (.iconst 1, 1) := by decide +kernel
theorem dX8_drum_81 : decode cX8_drum 81 = .ok (.iadd, 1) := by decide +kernel
theorem dX8_drum_82 : decode cX8_drum 82 = .ok (.putfield 32, 3) := by decide +kernel
theorem dX8_drum_85 : decode cX8_drum 85 = .ok (.aload_n 0, 1) := by decide +kernel
theorem dX8_drum_86 : decode cX8_drum 86 = .ok (.getfield 32, 3) := by decide +kernel
theorem dX8_drum_89 : decode cX8_drum 89 = .ok (.iconst 1, 1) := by decide +kernel
theorem dX8_drum_90 : decode cX8_drum 90 = .ok (.isub, 1) := by decide +kernel
theorem dX8_drum_91 : decode cX8_drum 91 = .ok (.ireturn, 1) := by decide +kernel
set_option maxRecDepth 20000 in
theorem ggX8_smuggler_X8_isIn : GoodIn wsX8_smuggler wsX8_isIn := goodIn_r _ [7] (by decide +kernel) (by decide +kernel)
set_option maxRecDepth 20000 in
theorem gX8_smuggler_X8_isIn : GoodIn wsX8_smuggler (va_wsS RX8 35 yX8_isIn wsX8_isIn) := goodIn_app (goodIn_of _ (by decide +kernel)) ggX8_smuggler_X8_isIn
set_option maxRecDepth 20000 in
theorem ggX8_smuggler_X8_fail : GoodIn wsX8_smuggler wsX8_fail := goodIn_r _ [11, 1, 12, 13, 14, 15, 16, 17, 18, 19, 20, 21, 22] (by decide +kernel) (by decide +kernel)
set_option maxRecDepth 20000 in
theorem gX8_smuggler_X8_fail : GoodIn wsX8_smuggler (wsV RX8 48 RX8 yX8_fail wsX8_fail) := goodIn_app (goodIn_of _ (by decide +kernel)) ggX8_smuggler_X8_fail
theorem dX8_smuggler_0 : decode cX8_smuggler 0 = .ok (.aload_n 0, 1) := by decide +kernel
theorem dX8_smuggler_1 : decode cX8_smuggler 1 = .ok (.iconst 0, 1) := by decide +kernel
theorem dX8_smuggler_2 : decode cX8_smuggler 2 = .ok (.putfield 28, 3) := by decide +kernel
theorem dX8_smuggler_5 : decode cX8_smuggler 5 = .ok (.iload_n 1, 1) := by decide +kernel
theorem dX8_smuggler_6 : decode cX8_smuggler 6 = .ok (.iconst 2, 1) := by decide +kernel
theorem dX8_smuggler_7 : decode cX8_smuggler 7 = .ok (.bipush 14, 2) := by decide +kernel
theorem dX8_smuggler_9 : decode cX8_smuggler 9 = .ok (.invokestatic 35, 3) := by decide +kernel
theorem dX8_smuggler_12 : decode cX8_smuggler 12 = .ok (.ifCond .eq 13, 3) := by decide +kernel
theorem dX8_smuggler_15 : decode cX8_smuggler 15 = .ok (.iload_n 2, 1) := by decide +kernel
theorem dX8_smuggler_16 : decode cX8_smuggler 16 = .ok (.iconst 1, 1) := by decide +kernel
theorem dX8_smuggler_17 : decode cX8_smuggler 17 = .ok (.bipush 30, 2) := by decide +kernel
theorem dX8_smuggler_19 : decode cX8_smuggler 19 = .ok (.invokestatic 35, 3) := by decide +kernel
theorem dX8_smuggler_22 : decode cX8_smuggler 22 = .ok (.ifCond .ne 9, 3) := by decide +kernel
theorem dX8_smuggler_25 : decode cX8_smuggler 25 = .ok (.aload_n 0, 1) := by decide +kernel
theorem dX8_smuggler_26 : decode cX8_smuggler 26 = .ok (.iconst 1, 1) := by decide +kernel
theorem dX8_smuggler_27 : decode cX8_smuggler 27 = .ok (.invokevirtual 48, 3) := by decide +kernel
theorem dX8_smuggler_30 : decode cX8_smuggler 30 = .ok (.ireturn, 1) := by decide +kernel
theorem dX8_smuggler_31 : decode cX8_smuggler 31 = .ok (.aload_n 0, 1) := by decide +kernel
theorem dX8_smuggler_32 : decode cX8_smuggler 32 = .ok (.getfield 39, 3) := by decide +kernel
theorem dX8_smuggler_35 : decode cX8_smuggler 35 = .ok (.iconst 4, 1) := by decide +kernel
theorem dX8_smuggler_36 : decode cX8_smuggler 36 = .ok (.if_icmp .ne 9, 3) := by decide +kernel
theorem dX8_smuggler_39 : decode cX8_smuggler 39 = .ok (.aload_n 0, 1) := by decide +kernel
theorem dX8_smuggler_40 : decode cX8_smuggler 40 = .ok (.iconst 2, 1) := by decide +kernel
theorem dX8_smuggler_41 : decode cX8_smuggler 41 = .ok (.invokevirtual 48, 3) := by decide +kernel
theorem dX8_smuggler_44 : decode cX8_smuggler 44 = .ok (.ireturn, 1) := by decide +kernel
theorem dX8_smuggler_45 : decode cX8_smuggler 45 = .ok (.aload_n 0, 1) := by decide +kernel
theorem dX8_smuggler_46 : decode cX8_smuggler 46 = .ok (.getfield 16, 3) := by decide +kernel
theorem dX8_smuggler_49 : decode cX8_smuggler 49 = .ok (.iconst 2, 1) := by decide +kernel
theorem dX8_smuggler_50 : decode cX8_smuggler 50 = .ok (.aload_n 0, 1) := by decide +kernel
theorem dX8_smuggler_51 : decode cX8_smuggler 51 = .ok (.getfield 39, 3) := by decide +kernel
theorem dX8_smuggler_54 : decode cX8_smuggler 54 = .ok (.imul, 1) := by decide +kernel
theorem dX8_smuggler_55 : decode cX8_smuggler 55 = .ok (.iload_n 1, 1) := by decide +kernel
theorem dX8_smuggler_56 : decode cX8_smuggler 56 = .ok (.iastore, 1) := by decide +kernel
theorem dX8_smuggler_57 : decode cX8_smuggler 57 = .ok (.aload_n 0, 1) := by decide +kernel
theorem dX8_smuggler_58 : decode cX8_smuggler 58 = .ok (.getfield 16, 3) := by decide +kernel
theorem dX8_smuggler_61 : decode cX8_smuggler 61 = .ok (.iconst 2, 1) := by decide +kernel
theorem dX8_smuggler_62 : decode cX8_smuggler 62 = .ok (.aload_n 0, 1) := by decide +kernel
theorem dX8_smuggler_63 : decode cX8_smuggler 63 = .ok (.getfield 39, 3) := by decide +kernel
theorem dX8_smuggler_66 : decode cX8_smuggler 66 = .ok (.imul, 1) := by decide +kernel
theorem dX8_smuggler_67 : decode cX8_smuggler 67 = .ok (.iconst 1, 1) := by decide +kernel
theorem dX8_smuggler_68 : decode cX8_smuggler 68 = .ok (.iadd, 1) := by decide +kernel
theorem dX8_smuggler_69 : decode cX8_smuggler 69 = .ok (.iload_n 2, 1) := by decide +kernel
theorem dX8_smuggler_70 : decode cX8_smuggler 70 = .ok (.iastore, 1) := by decide +kernel
theorem dX8_smuggler_71 : decode cX8_smuggler 71 = .ok (.aload_n 0, 1) := by decide +kernel
theorem dX8_smuggler_72 : decode cX8_smuggler 72 = .ok (.dup, 1) := by decide +kernel
theorem dX8_smuggler_73 : decode cX8_smuggler 73 = .ok (.getfield 39, 3) := by decide +kernel
theorem dX8_smuggler_76 : decode cX8_smuggler 76 = .ok (.iconst 1, 1) := by decide +kernel
theorem dX8_smuggler_77 : decode cX8_smuggler 77 = .ok (.iadd, 1) := by decide +kernel
theorem dX8_smuggler_78 : decode cX8_smuggler 78 = .ok (.putfield 39, 3) := by decide +kernel
theorem dX8_smuggler_81 : decode cX8_smuggler 81 = .ok (.aload_n 0, 1) := by decide +kernel
theorem dX8_smuggler_82 : decode cX8_smuggler 82 = .ok (.getfield 39, 3) := by decide +kernel
theorem dX8_smuggler_85 : decode cX8_smuggler 85 = .ok (.iconst 1, 1) := by decide +kernel
theorem dX8_smuggler_86 : decode cX8_smuggler 86 = .ok (.isub, 1) := by decide +kernel
theorem dX8_smuggler_87 : decode cX8_smuggler 87 = .ok (.ireturn, 1) := by decide +kernel
set_option maxRecDepth 20000 in
theorem ggX8_card_X8_isIn : GoodIn wsX8_card wsX8_isIn := goodIn_r _ [7] (by decide +kernel) (by decide +kernel)
set_option maxRecDepth 20000 in
theorem gX8_card_X8_isIn : GoodIn wsX8_card (va_wsS RX8 35 yX8_isIn wsX8_isIn) := goodIn_app (goodIn_of _ (by decide +kernel)) ggX8_card_X8_isIn
set_option maxRecDepth 20000 in
theorem ggX8_card_X8_fail : GoodIn wsX8_card wsX8_fail := goodIn_r _ [11, 1, 17, 18, 19, 20, 21, 22, 23, 24, 25, 26, 27] (by decide +kernel) (by decide +kernel)
set_option maxRecDepth 20000 in
theorem gX8_card_X8_fail : GoodIn wsX8_card (wsV RX8 48 RX8 yX8_fail wsX8_fail) := goodIn_app (goodIn_of _ (by decide +kernel)) ggX8_card_X8_fail
set_option maxRecDepth 20000 in
theorem ggX8_card_X8_moreCard : GoodIn wsX8_card wsX8_moreCard := goodIn_r _ [15, 16, 17, 18, 19, 20, 21, 22, 23, 24, 25, 26, 27] (by decide +kernel) (by decide +kernel)
set_option maxRecDepth 20000 in
theorem gX8_card_X8_moreCard : GoodIn wsX8_card (wsV RX8 62 RX8 yX8_moreCard wsX8_moreCard) := goodIn_app (goodIn_of _ (by decide +kernel)) ggX8_card_X8_moreCard
theorem dX8_card_0 : decode cX8_card 0 = .ok (.aload_n 0, 1) := by decide +kernel
theorem dX8_card_1 : decode cX8_card 1 = .ok (.iconst 0, 1) := by decide +kernel
theorem dX8_card_2 : decode cX8_card 2 = .ok (.putfield 28, 3) := by decide +kernel
theorem dX8_card_5 : decode cX8_card 5 = .ok (.iload_n 1, 1) := by decide +kernel
theorem dX8_card_6 : decode cX8_card 6 = .ok (.iconst 1, 1) := by decide +kernel
theorem dX8_card_7 : decode cX8_card 7 = .ok (.bipush 9, 2) := by decide +kernel
theorem dX8_card_9 : decode cX8_card 9 = .ok (.invokestatic 35, 3) := by decide +kernel
theorem dX8_card_12 : decode cX8_card 12 = .ok (.ifCond .eq 13, 3) := by decide +kernel
theorem dX8_card_15 : decode cX8_card 15 = .ok (.iload_n 2, 1) := by decide +kernel
theorem dX8_card_16 : decode cX8_card 16 = .ok (.iconst 0, 1) := by decide +kernel
theorem dX8_card_17 : decode cX8_card 17 = .ok (.bipush 10, 2) := by decide +kernel
theorem dX8_card_19 : decode cX8_card 19 = .ok (.invokestatic 35, 3) := by decide +kernel
theorem dX8_card_22 : decode cX8_card 22 = .ok (.ifCond .ne 9, 3) := by decide +kernel
theorem dX8_card_25 : decode cX8_card 25 = .ok (.aload_n 0, 1) := by decide +kernel
theorem dX8_card_26 : decode cX8_card 26 = .ok (.iconst 1, 1) := by decide +kernel
theorem dX8_card_27 : decode cX8_card 27 = .ok (.invokevirtual 48, 3) := by decide +kernel
theorem dX8_card_30 : decode cX8_card 30 = .ok (.ireturn, 1) := by decide +kernel
theorem dX8_card_31 : decode cX8_card 31 = .ok (.aload_n 0, 1) := by decide +kernel
theorem dX8_card_32 : decode cX8_card 32 = .ok (.getfield 59, 3) := by decide +kernel
theorem dX8_card_35 : decode cX8_card 35 = .ok (.bipush 10, 2) := by decide +kernel
theorem dX8_card_37 : decode cX8_card 37 = .ok (.if_icmp .ne 9, 3) := by decide +kernel
theorem dX8_card_40 : decode cX8_card 40 = .ok (.aload_n 0, 1) := by decide +kernel
theorem dX8_card_41 : decode cX8_card 41 = .ok (.iconst 2, 1) := by decide +kernel
theorem dX8_card_42 : decode cX8_card 42 = .ok (.invokevirtual 48, 3) := by decide +kernel
theorem dX8_card_45 : decode cX8_card 45 = .ok (.ireturn, 1) := by decide +kernel
theorem dX8_card_46 : decode cX8_card 46 = .ok (.aload_n 0, 1) := by decide +kernel
theorem dX8_card_47 : decode cX8_card 47 = .ok (.getfield 19, 3) := by decide +kernel
theorem dX8_card_50 : decode cX8_card 50 = .ok (.iconst 2, 1) := by decide +kernel
theorem dX8_card_51 : decode cX8_card 51 = .ok (.aload_n 0, 1) := by decide +kernel
theorem dX8_card_52 : decode cX8_card 52 = .ok (.getfield 59, 3) := by decide +kernel
theorem dX8_card_55 : decode cX8_card 55 = .ok (.imul, 1) := by decide +kernel
theorem dX8_card_56 : decode cX8_card 56 = .ok (.iload_n 1, 1) := by decide +kernel
theorem dX8_card_57 : decode cX8_card 57 = .ok (.iastore, 1) := by decide +kernel
theorem dX8_card_58 : decode cX8_card 58 = .ok (.aload_n 0, 1) := by decide +kernel
theorem dX8_card_59 : decode cX8_card 59 = .ok (.getfield 19, 3) := by decide +kernel
theorem dX8_card_62 : decode cX8_card 62 = .ok (.iconst 2, 1) := by decide +kernel
theorem dX8_card_63 : decode cX8_card 63 = .ok (.aload_n 0, 1) := by decide +kernel
theorem dX8_card_64 : decode cX8_card 64 = .ok (.getfield 59, 3) := by decide +kernel
theorem dX8_card_67 : decode cX8_card 67 = .ok (.imul, 1) := by decide +kernel
theorem dX8_card_68 : decode cX8_card 68 = .ok (.iconst 1, 1) := by decide +kernel
theorem dX8_card_69 : decode cX8_card 69 = .ok (.iadd, 1) := by decide +kernel
theorem dX8_card_70 : decode cX8_card 70 = .ok (.iload_n 2, 1) := by decide +kernel
theorem dX8_card_71 : decode cX8_card 71 = .ok (.iastore, 1) := by decide +kernel
theorem dX8_card_72 : decode cX8_card 72 = .ok (.aload_n 0, 1) := by decide +kernel
theorem dX8_card_73 : decode cX8_card 73 = .ok (.aload_n 0, 1) := by decide +kernel
theorem dX8_card_74 : decode cX8_card 74 = .ok (.getfield 59, 3) := by decide +kernel
theorem dX8_card_77 : decode cX8_card 77 = .ok (.iconst 0, 1) := by decide +kernel
theorem dX8_card_78 : decode cX8_card 78 = .ok (.iload_n 1, 1) := by decide +kernel
theorem dX8_card_79 : decode cX8_card 79 = .ok (.invokevirtual 62, 3) := by decide +kernel
theorem dX8_card_82 : decode cX8_card 82 = .ok (.aload_n 0, 1) := by decide +kernel
theorem dX8_card_83 : decode cX8_card 83 = .ok (.dup, 1) := by decide +kernel
theorem dX8_card_84 : decode cX8_card 84 = .ok (.getfield 59, 3) := by decide +kernel
theorem dX8_card_87 : decode cX8_card 87 = .ok (.iconst 1, 1) := by decide +kernel
theorem dX8_card_88 : decode cX8_card 88 = .ok (.iadd, 1) := by decide +kernel
theorem dX8_card_89 : decode cX8_card 89 = .ok (.putfield 59, 3) := by decide +kernel
theorem dX8_card_92 : decode cX8_card 92 = .ok (.aload_n 0, 1) := by decide +kernel
theorem dX8_card_93 : decode cX8_card 93 = .ok (.getfield 59, 3) := by decide +kernel
theorem dX8_card_96 : decode cX8_card 96 = .ok (.iconst 1, 1) := by decide +kernel
theorem dX8_card_97 : decode cX8_card 97 = .ok (.isub, 1) := by decide +kernel
theorem dX8_card_98 : decode cX8_card 98 = .ok (.ireturn, 1) := by decide +kernel
set_option maxRecDepth 20000 in
theorem ggX8_change_X8_isIn : GoodIn wsX8_change wsX8_isIn := goodIn_r _ [5] (by decide +kernel) (by decide +kernel)
set_option maxRecDepth 20000 in
theorem gX8_change_X8_isIn : GoodIn wsX8_change (va_wsS RX8 35 yX8_isIn wsX8_isIn) := goodIn_app (goodIn_of _ (by decide +kernel)) ggX8_change_X8_isIn
set_option maxRecDepth 20000 in
theorem ggX8_change_X8_fail : GoodIn wsX8_change wsX8_fail := goodIn_r _ [9, 10, 11, 12, 13, 14, 15, 16, 17, 18, 19, 20, 21] (by decide +kernel) (by decide +kernel)
set_option maxRecDepth 20000 in
theorem gX8_change_X8_fail : GoodIn wsX8_change (wsV RX8 48 RX8 yX8_fail wsX8_fail) := goodIn_app (goodIn_of _ (by decide +kernel)) ggX8_change_X8_fail
theorem dX8_change_0 : decode cX8_change 0 = .ok (.iload_n 2, 1) := by decide +kernel
theorem dX8_change_1 : decode cX8_change 1 = .ok (.iconst 0, 1) := by decide +kernel
theorem dX8_change_2 : decode cX8_change 2 = .ok (.iload_n 3, 1) := by decide +kernel
theorem dX8_change_3 : decode cX8_change 3 = .ok (.invokestatic 35, 3) := by decide +kernel
theorem dX8_change_6 : decode cX8_change 6 = .ok (.ifCond .ne 9, 3) := by decide +kernel
theorem dX8_change_9 : decode cX8_change 9 = .ok (.aload_n 0, 1) := by decide +kernel
theorem dX8_change_10 : decode cX8_change 10 = .ok (.iconst 1, 1) := by decide +kernel
theorem dX8_change_11 : decode cX8_change 11 = .ok (.invokevirtual 48, 3) := by decide +kernel
theorem dX8_change_14 : decode cX8_change 14 = .ok (.ireturn, 1) := by decide +kernel
theorem dX8_change_15 : decode cX8_change 15 = .ok (.aload_n 0, 1) := by decide +kernel
theorem dX8_change_16 : decode cX8_change 16 = .ok (.getfield 22, 3) := by decide +kernel
theorem dX8_change_19 : decode cX8_change 19 = .ok (.iload_n 1, 1) := by decide +kernel
theorem dX8_change_20 : decode cX8_change 20 = .ok (.iaload, 1) := by decide +kernel
theorem dX8_change_21 : decode cX8_change 21 = .ok (.istore 4, 2) := by decide +kernel
theorem dX8_change_23 : decode cX8_change 23 = .ok (.aload_n 0, 1) := by decide +kernel
theorem dX8_change_24 : decode cX8_change 24 = .ok (.getfield 22, 3) := by decide +kernel
theorem dX8_change_27 : decode cX8_change 27 = .ok (.iload_n 1, 1) := by decide +kernel
theorem dX8_change_28 : decode cX8_change 28 = .ok (.iload_n 2, 1) := by decide +kernel
theorem dX8_change_29 : decode cX8_change 29 = .ok (.iastore, 1) := by decide +kernel
theorem dX8_change_30 : decode cX8_change 30 = .ok (.iload 4, 2) := by decide +kernel
theorem dX8_change_32 : decode cX8_change 32 = .ok (.ireturn, 1) := by decide +kernel
set_option maxRecDepth 20000 in
theorem ggX8_setPatrol_X8_change : GoodIn wsX8_setPatrol wsX8_change := goodIn_r _ [6, 7, 8, 9, 5, 10, 11, 12, 13, 14, 1, 15, 16, 17, 18, 19, 20, 21, 22, 23, 24, 25] (by decide +kernel) (by decide +kernel)
set_option maxRecDepth 20000 in
theorem gX8_setPatrol_X8_change : GoodIn wsX8_setPatrol (wsV RX8 65 RX8 yX8_change wsX8_change) := goodIn_app (goodIn_of _ (by decide +kernel)) ggX8_setPatrol_X8_change
theorem dX8_setPatrol_0 : decode cX8_setPatrol 0 = .ok (.aload_n 0, 1) := by decide +kernel
theorem dX8_setPatrol_1 : decode cX8_setPatrol 1 = .ok (.iconst 0, 1) := by decide +kernel
theorem dX8_setPatrol_2 : decode cX8_setPatrol 2 = .ok (.putfield 28, 3) := by decide +kernel
theorem dX8_setPatrol_5 : decode cX8_setPatrol 5 = .ok (.aload_n 0, 1) := by decide +kernel
theorem dX8_setPatrol_6 : decode cX8_setPatrol 6 = .ok (.bipush 8, 2) := by decide +kernel
theorem dX8_setPatrol_8 : decode cX8_setPatrol 8 = .ok (.iload_n 1, 1) := by decide +kernel
theorem dX8_setPatrol_9 : decode cX8_setPatrol 9 = .ok (.bipush 127, 2) := by decide +kernel
theorem dX8_setPatrol_11 : decode cX8_setPatrol 11 = .ok (.invokevirtual 65, 3) := by decide +kernel
theorem dX8_setPatrol_14 : decode cX8_setPatrol 14 = .ok (.ireturn, 1) := by decide +kernel
set_option maxRecDepth 20000 in
theorem ggX8_setShare_X8_change : GoodIn wsX8_setShare wsX8_change := goodIn_r _ [6, 7, 8, 9, 5, 10, 11, 12, 13, 14, 1, 15, 16, 17, 18, 19, 20, 21, 22, 23, 24, 25] (by decide +kernel) (by decide +kernel)
set_option maxRecDepth 20000 in
theorem gX8_setShare_X8_change : GoodIn wsX8_setShare (wsV RX8 65 RX8 yX8_change wsX8_change) := goodIn_app (goodIn_of _ (by decide +kernel)) ggX8_setShare_X8_change
theorem dX8_setShare_0 : decode cX8_setShare 0 = .ok (.aload_n 0, 1) := by decide +kernel
theorem dX8_setShare_1 : decode cX8_setShare 1 = .ok (.iconst 0, 1) := by decide +kernel
theorem dX8_setShare_2 : decode cX8_setShare 2 = .ok (.putfield 28, 3) := by decide +kernel
theorem dX8_setShare_5 : decode cX8_setShare 5 = .ok (.aload_n 0, 1) := by decide +kernel
theorem dX8_setShare_6 : decode cX8_setShare 6 = .ok (.bipush 7, 2) := by decide +kernel
theorem dX8_setShare_8 : decode cX8_setShare 8 = .ok (.iload_n 1, 1) := by decide +kernel
theorem dX8_setShare_9 : decode cX8_setShare 9 = .ok (.bipush 10, 2) := by decide +kernel
theorem dX8_setShare_11 : decode cX8_setShare 11 = .ok (.invokevirtual 65, 3) := by decide +kernel
theorem dX8_setShare_14 : decode cX8_setShare 14 = .ok (.ireturn, 1) := by decide +kernel
set_option maxRecDepth 20000 in
theorem ggX8_setHeat_X8_isDrum : GoodIn wsX8_setHeat wsX8_isDrum := goodIn_r _ [6, 7, 8, 9, 5, 10, 24, 25, 26, 27, 28, 29, 30, 31, 32, 33, 34] (by decide +kernel) (by decide +kernel)
set_option maxRecDepth 20000 in
theorem gX8_setHeat_X8_isDrum : GoodIn wsX8_setHeat (wsV RX8 69 RX8 yX8_isDrum wsX8_isDrum) := goodIn_app (goodIn_of _ (by decide +kernel)) ggX8_setHeat_X8_isDrum
set_option maxRecDepth 20000 in
theorem ggX8_setHeat_X8_fail : GoodIn wsX8_setHeat wsX8_fail := goodIn_r _ [14, 1, 24, 25, 26, 27, 28, 29, 30, 31, 32, 33, 34] (by decide +kernel) (by decide +kernel)
set_option maxRecDepth 20000 in
theorem gX8_setHeat_X8_fail : GoodIn wsX8_setHeat (wsV RX8 48 RX8 yX8_fail wsX8_fail) := goodIn_app (goodIn_of _ (by decide +kernel)) ggX8_setHeat_X8_fail
set_option maxRecDepth 20000 in
theorem ggX8_setHeat_X8_isIn : GoodIn wsX8_setHeat wsX8_isIn := goodIn_r _ [10] (by decide +kernel) (by decide +kernel)
set_option maxRecDepth 20000 in
theorem gX8_setHeat_X8_isIn : GoodIn wsX8_setHeat (va_wsS RX8 35 yX8_isIn wsX8_isIn) := goodIn_app (goodIn_of _ (by decide +kernel)) ggX8_setHeat_X8_isIn
set_option maxRecDepth 20000 in
theorem ggX8_setHeat_X8_dr : GoodIn wsX8_setHeat wsX8_dr := goodIn_r _ [18, 19, 24, 25, 26, 27, 28, 29, 30, 31, 32, 33, 34] (by decide +kernel) (by decide +kernel)
set_option maxRecDepth 20000 in
theorem gX8_setHeat_X8_dr : GoodIn wsX8_setHeat (wsV RX8 73 RX8 yX8_dr wsX8_dr) := goodIn_app (goodIn_of _ (by decide +kernel)) ggX8_setHeat_X8_dr
set_option maxRecDepth 20000 in
theorem ggX8_setHeat_X8_letDrum : GoodIn wsX8_setHeat wsX8_letDrum := goodIn_r _ [23, 19, 24, 25, 26, 27, 28, 29, 30, 31, 32, 33, 34] (by decide +kernel) (by decide +kernel)
set_option maxRecDepth 20000 in
theorem gX8_setHeat_X8_letDrum : GoodIn wsX8_setHeat (wsV RX8 55 RX8 yX8_letDrum wsX8_letDrum) := goodIn_app (goodIn_of _ (by decide +kernel)) ggX8_setHeat_X8_letDrum
theorem dX8_setHeat_0 : decode cX8_setHeat 0 = .ok (.aload_n 0, 1) := by decide +kernel
theorem dX8_setHeat_1 : decode cX8_setHeat 1 = .ok (.iconst 0, 1) := by decide +kernel
theorem dX8_setHeat_2 : decode cX8_setHeat 2 = .ok (.putfield 28, 3) := by decide +kernel
theorem dX8_setHeat_5 : decode cX8_setHeat 5 = .ok (.aload_n 0, 1) := by decide +kernel
theorem dX8_setHeat_6 : decode cX8_setHeat 6 = .ok (.iload_n 1, 1) := by decide +kernel
theorem dX8_setHeat_7 : decode cX8_setHeat 7 = .ok (.invokevirtual 69, 3) := by decide +kernel
theorem dX8_setHeat_10 : decode cX8_setHeat 10 = .ok (.ifCond .ne 9, 3) := by decide +kernel
theorem dX8_setHeat_13 : decode cX8_setHeat 13 = .ok (.aload_n 0, 1) := by decide +kernel
theorem dX8_setHeat_14 : decode cX8_setHeat 14 = .ok (.iconst 1, 1) := by decide +kernel
theorem dX8_setHeat_15 : decode cX8_setHeat 15 = .ok (.invokevirtual 48, 3) := by decide +kernel
theorem dX8_setHeat_18 : decode cX8_setHeat 18 = .ok (.ireturn, 1) := by decide +kernel
theorem dX8_setHeat_19 : decode cX8_setHeat 19 = .ok (.iload_n 2, 1) := by decide +kernel
theorem dX8_setHeat_20 : decode cX8_setHeat 20 = .ok (.iconst 0, 1) := by decide +kernel
theorem dX8_setHeat_21 : decode cX8_setHeat 21 = .ok (.bipush 9, 2) := by decide +kernel
theorem dX8_setHeat_23 : decode cX8_setHeat 23 = .ok (.invokestatic 35, 3) := by decide +kernel
theorem dX8_setHeat_26 : decode cX8_setHeat 26 = .ok (.ifCond .ne 9, 3) := by decide +kernel
theorem dX8_setHeat_29 : decode cX8_setHeat 29 = .ok (.aload_n 0, 1) := by decide +kernel
theorem dX8_setHeat_30 : decode cX8_setHeat 30 = .ok (.iconst 2, 1) := by decide +kernel
theorem dX8_setHeat_31 : decode cX8_setHeat 31 = .ok (.invokevirtual 48, 3) := by decide +kernel
theorem dX8_setHeat_34 : decode cX8_setHeat 34 = .ok (.ireturn, 1) := by decide +kernel
theorem dX8_setHeat_35 : decode cX8_setHeat 35 = .ok (.aload_n 0, 1) := by decide +kernel
theorem dX8_setHeat_36 : decode cX8_setHeat 36 = .ok (.iload_n 1, 1) := by decide +kernel
theorem dX8_setHeat_37 : decode cX8_setHeat 37 = .ok (.iconst 0, 1) := by decide +kernel
theorem dX8_setHeat_38 : decode cX8_setHeat 38 = .ok (.invokevirtual 73, 3) := by decide +kernel
theorem dX8_setHeat_41 : decode cX8_setHeat 41 = .ok (.istore_n 3, 1) := by decide +kernel
theorem dX8_setHeat_42 : decode cX8_setHeat 42 = .ok (.aload_n 0, 1) := by decide +kernel
theorem dX8_setHeat_43 : decode cX8_setHeat 43 = .ok (.iload_n 1, 1) := by decide +kernel
theorem dX8_setHeat_44 : decode cX8_setHeat 44 = .ok (.iconst 0, 1) := by decide +kernel
theorem dX8_setHeat_45 : decode cX8_setHeat 45 = .ok (.iload_n 2, 1) := by decide +kernel
theorem dX8_setHeat_46 : decode cX8_setHeat 46 = .ok (.invokevirtual 55, 3) := by decide +kernel
theorem dX8_setHeat_49 : decode cX8_setHeat 49 = .ok (.iload_n 3, 1) := by decide +kernel
theorem dX8_setHeat_50 : decode cX8_setHeat 50 = .ok (.ireturn, 1) := by decide +kernel
set_option maxRecDepth 20000 in
theorem ggX8_dig_X8_isIn : GoodIn wsX8_dig wsX8_isIn := goodIn_r _ [7] (by decide +kernel) (by decide +kernel)
set_option maxRecDepth 20000 in
theorem gX8_dig_X8_isIn : GoodIn wsX8_dig (va_wsS RX8 35 yX8_isIn wsX8_isIn) := goodIn_app (goodIn_of _ (by decide +kernel)) ggX8_dig_X8_isIn
set_option maxRecDepth 20000 in
theorem ggX8_dig_X8_fail : GoodIn wsX8_dig wsX8_fail := goodIn_r _ [11, 1, 12, 13, 14, 15, 16, 17, 18, 19, 20, 21, 22] (by decide +kernel) (by decide +kernel)
set_option maxRecDepth 20000 in
theorem gX8_dig_X8_fail : GoodIn wsX8_dig (wsV RX8 48 RX8 yX8_fail wsX8_fail) := goodIn_app (goodIn_of _ (by decide +kernel)) ggX8_dig_X8_fail
theorem dX8_dig_0 : decode cX8_dig 0 = .ok (.aload_n 0, 1) := by decide +kernel
theorem dX8_dig_1 : decode cX8_dig 1 = .ok (.iconst 0, 1) := by decide +kernel
theorem dX8_dig_2 : decode cX8_dig 2 = .ok (.putfield 28, 3) := by decide +kernel
theorem dX8_dig_5 : decode cX8_dig 5 = .ok (.iload_n 1, 1) := by decide +kernel
theorem dX8_dig_6 : decode cX8_dig 6 = .ok (.iconst 0, 1) := by decide +kernel
theorem dX8_dig_7 : decode cX8_dig 7 = .ok (.aload_n 0, 1) := by decide +kernel
theorem dX8_dig_8 : decode cX8_dig 8 = .ok (.getfield 52, 3) := by decide +kernel
theorem dX8_dig_11 : decode cX8_dig 11 = .ok (.iconst 1, 1) := by decide +kernel
theorem dX8_dig_12 : decode cX8_dig 12 = .ok (.isub, 1) := by decide +kernel
theorem dX8_dig_13 : decode cX8_dig 13 = .ok (.invokestatic 35, 3) := by decide +kernel
theorem dX8_dig_16 : decode cX8_dig 16 = .ok (.ifCond .ne 9, 3) := by decide +kernel
theorem dX8_dig_19 : decode cX8_dig 19 = .ok (.aload_n 0, 1) := by decide +kernel
theorem dX8_dig_20 : decode cX8_dig 20 = .ok (.iconst 1, 1) := by decide +kernel
theorem dX8_dig_21 : decode cX8_dig 21 = .ok (.invokevirtual 48, 3) := by decide +kernel
theorem dX8_dig_24 : decode cX8_dig 24 = .ok (.ireturn, 1) := by decide +kernel
theorem dX8_dig_25 : decode cX8_dig 25 = .ok (.iload_n 2, 1) := by decide +kernel
theorem dX8_dig_26 : decode cX8_dig 26 = .ok (.iconst 1, 1) := by decide +kernel
theorem dX8_dig_27 : decode cX8_dig 27 = .ok (.bipush 99, 2) := by decide +kernel
theorem dX8_dig_29 : decode cX8_dig 29 = .ok (.invokestatic 35, 3) := by decide +kernel
theorem dX8_dig_32 : decode cX8_dig 32 = .ok (.ifCond .ne 9, 3) := by decide +kernel
theorem dX8_dig_35 : decode cX8_dig 35 = .ok (.aload_n 0, 1) := by decide +kernel
theorem dX8_dig_36 : decode cX8_dig 36 = .ok (.iconst 2, 1) := by decide +kernel
theorem dX8_dig_37 : decode cX8_dig 37 = .ok (.invokevirtual 48, 3) := by decide +kernel
theorem dX8_dig_40 : decode cX8_dig 40 = .ok (.ireturn, 1) := by decide +kernel
theorem dX8_dig_41 : decode cX8_dig 41 = .ok (.aload_n 0, 1) := by decide +kernel
theorem dX8_dig_42 : decode cX8_dig 42 = .ok (.getfield 22, 3) := by decide +kernel
theorem dX8_dig_45 : decode cX8_dig 45 = .ok (.bipush 10, 2) := by decide +kernel
theorem dX8_dig_47 : decode cX8_dig 47 = .ok (.iload_n 1, 1) := by decide +kernel
theorem dX8_dig_48 : decode cX8_dig 48 = .ok (.iadd, 1) := by decide +kernel
theorem dX8_dig_49 : decode cX8_dig 49 = .ok (.iaload, 1) := by decide +kernel
theorem dX8_dig_50 : decode cX8_dig 50 = .ok (.iload_n 2, 1) := by decide +kernel
theorem dX8_dig_51 : decode cX8_dig 51 = .ok (.if_icmp .ge 9, 3) := by decide +kernel
theorem dX8_dig_54 : decode cX8_dig 54 = .ok (.aload_n 0, 1) := by decide +kernel
theorem dX8_dig_55 : decode cX8_dig 55 = .ok (.iconst 3, 1) := by decide +kernel
theorem dX8_dig_56 : decode cX8_dig 56 = .ok (.invokevirtual 48, 3) := by decide +kernel
theorem dX8_dig_59 : decode cX8_dig 59 = .ok (.ireturn, 1) := by decide +kernel
theorem dX8_dig_60 : decode cX8_dig 60 = .ok (.aload_n 0, 1) := by decide +kernel
theorem dX8_dig_61 : decode cX8_dig 61 = .ok (.getfield 22, 3) := by decide +kernel
theorem dX8_dig_64 : decode cX8_dig 64 = .ok (.bipush 10, 2) := by decide +kernel
theorem dX8_dig_66 : decode cX8_dig 66 = .ok (.iload_n 1, 1) := by decide +kernel
theorem dX8_dig_67 : decode cX8_dig 67 = .ok (.iadd, 1) := by decide +kernel
theorem dX8_dig_68 : decode cX8_dig 68 = .ok (.dup2, 1) := by decide +kernel
theorem dX8_dig_69 : decode cX8_dig 69 = .ok (.iaload, 1) := by decide +kernel
theorem dX8_dig_70 : decode cX8_dig 70 = .ok (.iload_n 2, 1) := by decide +kernel
theorem dX8_dig_71 : decode cX8_dig 71 = .ok (.isub, 1) := by decide +kernel
theorem dX8_dig_72 : decode cX8_dig 72 = .ok (.iastore, 1) := by decide +kernel
theorem dX8_dig_73 : decode cX8_dig 73 = .ok (.aload_n 0, 1) := by decide +kernel
theorem dX8_dig_74 : decode cX8_dig 74 = .ok (.getfield 22, 3) := by decide +kernel
theorem dX8_dig_77 : decode cX8_dig 77 = .ok (.iconst 1, 1) := by decide +kernel
theorem dX8_dig_78 : decode cX8_dig 78 = .ok (.dup2, 1) := by decide +kernel
theorem dX8_dig_79 : decode cX8_dig 79 = .ok (.iaload, 1) := by decide +kernel
theorem dX8_dig_80 : decode cX8_dig 80 = .ok (.iload_n 2, 1) := by decide +kernel
theorem dX8_dig_81 : decode cX8_dig 81 = .ok (.iadd, 1) := by decide +kernel
theorem dX8_dig_82 : decode cX8_dig 82 = .ok (.iastore, 1) := by decide +kernel
theorem dX8_dig_83 : decode cX8_dig 83 = .ok (.aload_n 0, 1) := by decide +kernel
theorem dX8_dig_84 : decode cX8_dig 84 = .ok (.getfield 22, 3) := by decide +kernel
theorem dX8_dig_87 : decode cX8_dig 87 = .ok (.bipush 10, 2) := by decide +kernel
theorem dX8_dig_89 : decode cX8_dig 89 = .ok (.iload_n 1, 1) := by decide +kernel
theorem dX8_dig_90 : decode cX8_dig 90 = .ok (.iadd, 1) := by decide +kernel
theorem dX8_dig_91 : decode cX8_dig 91 = .ok (.iaload, 1) := by decide +kernel
theorem dX8_dig_92 : decode cX8_dig 92 = .ok (.ireturn, 1) := by decide +kernel
set_option maxRecDepth 20000 in
theorem ggX8_give_X8_isIn : GoodIn wsX8_give wsX8_isIn := goodIn_r _ [6] (by decide +kernel) (by decide +kernel)
set_option maxRecDepth 20000 in
theorem gX8_give_X8_isIn : GoodIn wsX8_give (va_wsS RX8 35 yX8_isIn wsX8_isIn) := goodIn_app (goodIn_of _ (by decide +kernel)) ggX8_give_X8_isIn
set_option maxRecDepth 20000 in
theorem ggX8_give_X8_fail : GoodIn wsX8_give wsX8_fail := goodIn_r _ [10, 1, 11, 12, 13, 14, 15, 16, 17, 18, 19, 20, 21] (by decide +kernel) (by decide +kernel)
set_option maxRecDepth 20000 in
theorem gX8_give_X8_fail : GoodIn wsX8_give (wsV RX8 48 RX8 yX8_fail wsX8_fail) := goodIn_app (goodIn_of _ (by decide +kernel)) ggX8_give_X8_fail
theorem dX8_give_0 : decode cX8_give 0 = .ok (.aload_n 0, 1) := by decide +kernel
theorem dX8_give_1 : decode cX8_give 1 = .ok (.iconst 0, 1) := by decide +kernel
theorem dX8_give_2 : decode cX8_give 2 = .ok (.putfield 28, 3) := by decide +kernel
theorem dX8_give_5 : decode cX8_give 5 = .ok (.iload_n 1, 1) := by decide +kernel
theorem dX8_give_6 : decode cX8_give 6 = .ok (.iconst 0, 1) := by decide +kernel
theorem dX8_give_7 : decode cX8_give 7 = .ok (.iconst 1, 1) := by decide +kernel
theorem dX8_give_8 : decode cX8_give 8 = .ok (.invokestatic 35, 3) := by decide +kernel
theorem dX8_give_11 : decode cX8_give 11 = .ok (.ifCond .ne 9, 3) := by decide +kernel
theorem dX8_give_14 : decode cX8_give 14 = .ok (.aload_n 0, 1) := by decide +kernel
theorem dX8_give_15 : decode cX8_give 15 = .ok (.iconst 1, 1) := by decide +kernel
theorem dX8_give_16 : decode cX8_give 16 = .ok (.invokevirtual 48, 3) := by decide +kernel
theorem dX8_give_19 : decode cX8_give 19 = .ok (.ireturn, 1) := by decide +kernel
theorem dX8_give_20 : decode cX8_give 20 = .ok (.iload_n 2, 1) := by decide +kernel
theorem dX8_give_21 : decode cX8_give 21 = .ok (.iconst 1, 1) := by decide +kernel
theorem dX8_give_22 : decode cX8_give 22 = .ok (.bipush 99, 2) := by decide +kernel
theorem dX8_give_24 : decode cX8_give 24 = .ok (.invokestatic 35, 3) := by decide +kernel
theorem dX8_give_27 : decode cX8_give 27 = .ok (.ifCond .ne 9, 3) := by decide +kernel
theorem dX8_give_30 : decode cX8_give 30 = .ok (.aload_n 0, 1) := by decide +kernel
theorem dX8_give_31 : decode cX8_give 31 = .ok (.iconst 2, 1) := by decide +kernel
theorem dX8_give_32 : decode cX8_give 32 = .ok (.invokevirtual 48, 3) := by decide +kernel
theorem dX8_give_35 : decode cX8_give 35 = .ok (.ireturn, 1) := by decide +kernel
theorem dX8_give_36 : decode cX8_give 36 = .ok (.aload_n 0, 1) := by decide +kernel
theorem dX8_give_37 : decode cX8_give 37 = .ok (.getfield 22, 3) := by decide +kernel
theorem dX8_give_40 : decode cX8_give 40 = .ok (.iconst 1, 1) := by decide +kernel
theorem dX8_give_41 : decode cX8_give 41 = .ok (.iload_n 1, 1) := by decide +kernel
theorem dX8_give_42 : decode cX8_give 42 = .ok (.iadd, 1) := by decide +kernel
theorem dX8_give_43 : decode cX8_give 43 = .ok (.dup2, 1) := by decide +kernel
theorem dX8_give_44 : decode cX8_give 44 = .ok (.iaload, 1) := by decide +kernel
theorem dX8_give_45 : decode cX8_give 45 = .ok (.iload_n 2, 1) := by decide +kernel
theorem dX8_give_46 : decode cX8_give 46 = .ok (.iadd, 1) := by decide +kernel
theorem dX8_give_47 : decode cX8_give 47 = .ok (.iastore, 1) := by decide +kernel
theorem dX8_give_48 : decode cX8_give 48 = .ok (.aload_n 0, 1) := by decide +kernel
theorem dX8_give_49 : decode cX8_give 49 = .ok (.getfield 22, 3) := by decide +kernel
theorem dX8_give_52 : decode cX8_give 52 = .ok (.iconst 1, 1) := by decide +kernel
theorem dX8_give_53 : decode cX8_give 53 = .ok (.iload_n 1, 1) := by decide +kernel
theorem dX8_give_54 : decode cX8_give 54 = .ok (.iadd, 1) := by decide +kernel
theorem dX8_give_55 : decode cX8_give 55 = .ok (.iaload, 1) := by decide +kernel
theorem dX8_give_56 : decode cX8_give 56 = .ok (.ireturn, 1) := by decide +kernel
set_option maxRecDepth 20000 in
theorem ggX8_load_X8_isDrum : GoodIn wsX8_load wsX8_isDrum := goodIn_r _ [8, 9, 10, 11, 7, 12, 25, 26, 27, 28, 29, 30, 31, 32, 33, 34, 35] (by decide +kernel) (by decide +kernel)
set_option maxRecDepth 20000 in
theorem gX8_load_X8_isDrum : GoodIn wsX8_load (wsV RX8 69 RX8 yX8_isDrum wsX8_isDrum) := goodIn_app (goodIn_of _ (by decide +kernel)) ggX8_load_X8_isDrum
set_option maxRecDepth 20000 in
theorem ggX8_load_X8_isIn : GoodIn wsX8_load wsX8_isIn := goodIn_r _ [12] (by decide +kernel) (by decide +kernel)
set_option maxRecDepth 20000 in
theorem gX8_load_X8_isIn : GoodIn wsX8_load (va_wsS RX8 35 yX8_isIn wsX8_isIn) := goodIn_app (goodIn_of _ (by decide +kernel)) ggX8_load_X8_isIn
set_option maxRecDepth 20000 in
theorem ggX8_load_X8_fail : GoodIn wsX8_load wsX8_fail := goodIn_r _ [16, 1, 25, 26, 27, 28, 29, 30, 31, 32, 33, 34, 35] (by decide +kernel) (by decide +kernel)
set_option maxRecDepth 20000 in
theorem gX8_load_X8_fail : GoodIn wsX8_load (wsV RX8 48 RX8 yX8_fail wsX8_fail) := goodIn_app (goodIn_of _ (by decide +kernel)) ggX8_load_X8_fail
set_option maxRecDepth 20000 in
theorem ggX8_load_X8_dr : GoodIn wsX8_load wsX8_dr := goodIn_r _ [20, 3, 25, 26, 27, 28, 29, 30, 31, 32, 33, 34, 35] (by decide +kernel) (by decide +kernel)
set_option maxRecDepth 20000 in
theorem gX8_load_X8_dr : GoodIn wsX8_load (wsV RX8 73 RX8 yX8_dr wsX8_dr) := goodIn_app (goodIn_of _ (by decide +kernel)) ggX8_load_X8_dr
set_option maxRecDepth 20000 in
theorem ggX8_load_X8_letDrum : GoodIn wsX8_load wsX8_letDrum := goodIn_r _ [24, 3, 25, 26, 27, 28, 29, 30, 31, 32, 33, 34, 35] (by decide +kernel) (by decide +kernel)
set_option maxRecDepth 20000 in
theorem gX8_load_X8_letDrum : GoodIn wsX8_load (wsV RX8 55 RX8 yX8_letDrum wsX8_letDrum) := goodIn_app (goodIn_of _ (by decide +kernel)) ggX8_load_X8_letDrum
theorem dX8_load_0 : decode cX8_load 0 = .ok (.aload_n 0, 1) := by decide +kernel
theorem dX8_load_1 : decode cX8_load 1 = .ok (.iconst 0, 1) := by decide +kernel
theorem dX8_load_2 : decode cX8_load 2 = .ok (.putfield 28, 3) := by decide +kernel
theorem dX8_load_5 : decode cX8_load 5 = .ok (.aload_n 0, 1) := by decide +kernel
theorem dX8_load_6 : decode cX8_load 6 = .ok (.iload_n 1, 1) := by decide +kernel
theorem dX8_load_7 : decode cX8_load 7 = .ok (.invokevirtual 69, 3) := by decide +kernel
theorem dX8_load_10 : decode cX8_load 10 = .ok (.ifCond .eq 12, 3) := by decide +kernel
theorem dX8_load_13 : decode cX8_load 13 = .ok (.iload_n 2, 1) := by decide +kernel
theorem dX8_load_14 : decode cX8_load 14 = .ok (.iconst 0, 1) := by decide +kernel
theorem dX8_load_15 : decode cX8_load 15 = .ok (.iconst 1, 1) := by decide +kernel
theorem dX8_load_16 : decode cX8_load 16 = .ok (.invokestatic 35, 3) := by decide +kernel
theorem dX8_load_19 : decode cX8_load 19 = .ok (.ifCond .ne 9, 3) := by decide +kernel
theorem dX8_load_22 : decode cX8_load 22 = .ok (.aload_n 0, 1) := by decide +kernel
theorem dX8_load_23 : decode cX8_load 23 = .ok (.iconst 1, 1) := by decide +kernel
theorem dX8_load_24 : decode cX8_load 24 = .ok (.invokevirtual 48, 3) := by decide +kernel
theorem dX8_load_27 : decode cX8_load 27 = .ok (.ireturn, 1) := by decide +kernel
theorem dX8_load_28 : decode cX8_load 28 = .ok (.iload_n 3, 1) := by decide +kernel
theorem dX8_load_29 : decode cX8_load 29 = .ok (.iconst 1, 1) := by decide +kernel
theorem dX8_load_30 : decode cX8_load 30 = .ok (.aload_n 0, 1) := by decide +kernel
theorem dX8_load_31 : decode cX8_load 31 = .ok (.getfield 13, 3) := by decide +kernel
theorem dX8_load_34 : decode cX8_load 34 = .ok (.iload_n 1, 1) := by decide +kernel
theorem dX8_load_35 : decode cX8_load 35 = .ok (.iaload, 1) := by decide +kernel
theorem dX8_load_36 : decode cX8_load 36 = .ok (.invokestatic 35, 3) := by decide +kernel
theorem dX8_load_39 : decode cX8_load 39 = .ok (.ifCond .ne 9, 3) := by decide +kernel
theorem dX8_load_42 : decode cX8_load 42 = .ok (.aload_n 0, 1) := by decide +kernel
theorem dX8_load_43 : decode cX8_load 43 = .ok (.iconst 2, 1) := by decide +kernel
theorem dX8_load_44 : decode cX8_load 44 = .ok (.invokevirtual 48, 3) := by decide +kernel
theorem dX8_load_47 : decode cX8_load 47 = .ok (.ireturn, 1) := by decide +kernel
theorem dX8_load_48 : decode cX8_load 48 = .ok (.aload_n 0, 1) := by decide +kernel
theorem dX8_load_49 : decode cX8_load 49 = .ok (.iload_n 1, 1) := by decide +kernel
theorem dX8_load_50 : decode cX8_load 50 = .ok (.iconst 1, 1) := by decide +kernel
theorem dX8_load_51 : decode cX8_load 51 = .ok (.invokevirtual 73, 3) := by decide +kernel
theorem dX8_load_54 : decode cX8_load 54 = .ok (.iconst (-1), 1) := by decide +kernel
theorem dX8_load_55 : decode cX8_load 55 = .ok (.if_icmp .ne 15, 3) := by decide +kernel
theorem dX8_load_58 : decode cX8_load 58 = .ok (.aload_n 0, 1) := by decide +kernel
theorem dX8_load_59 : decode cX8_load 59 = .ok (.getfield 22, 3) := by decide +kernel
theorem dX8_load_62 : decode cX8_load 62 = .ok (.iconst 1, 1) := by decide +kernel
theorem dX8_load_63 : decode cX8_load 63 = .ok (.iload_n 2, 1) := by decide +kernel
theorem dX8_load_64 : decode cX8_load 64 = .ok (.iadd, 1) := by decide +kernel
theorem dX8_load_65 : decode cX8_load 65 = .ok (.iaload, 1) := by decide +kernel
theorem dX8_load_66 : decode cX8_load 66 = .ok (.iload_n 3, 1) := by decide +kernel
theorem dX8_load_67 : decode cX8_load 67 = .ok (.if_icmp .ge 9, 3) := by decide +kernel
theorem dX8_load_70 : decode cX8_load 70 = .ok (.aload_n 0, 1) := by decide +kernel
theorem dX8_load_71 : decode cX8_load 71 = .ok (.iconst 3, 1) := by decide +kernel
theorem dX8_load_72 : decode cX8_load 72 = .ok (.invokevirtual 48, 3) := by decide +kernel
theorem dX8_load_75 : decode cX8_load 75 = .ok (.ireturn, 1) := by decide +kernel
theorem dX8_load_76 : decode cX8_load 76 = .ok (.aload_n 0, 1) := by decide +kernel
theorem dX8_load_77 : decode cX8_load 77 = .ok (.getfield 22, 3) := by decide +kernel
theorem dX8_load_80 : decode cX8_load 80 = .ok (.iconst 1, 1) := by decide +kernel
theorem dX8_load_81 : decode cX8_load 81 = .ok (.iload_n 2, 1) := by decide +kernel
theorem dX8_load_82 : decode cX8_load 82 = .ok (.iadd, 1) := by decide +kernel
theorem dX8_load_83 : decode cX8_load 83 = .ok (.dup2, 1) := by decide +kernel
theorem dX8_load_84 : decode cX8_load 84 = .ok (.iaload, 1) := by decide +kernel
theorem dX8_load_85 : decode cX8_load 85 = .ok (.iload_n 3, 1) := by decide +kernel
theorem dX8_load_86 : decode cX8_load 86 = .ok (.isub, 1) := by decide +kernel
theorem dX8_load_87 : decode cX8_load 87 = .ok (.iastore, 1) := by decide +kernel
theorem dX8_load_88 : decode cX8_load 88 = .ok (.aload_n 0, 1) := by decide +kernel
theorem dX8_load_89 : decode cX8_load 89 = .ok (.iload_n 1, 1) := by decide +kernel
theorem dX8_load_90 : decode cX8_load 90 = .ok (.iconst 1, 1) := by decide +kernel
theorem dX8_load_91 : decode cX8_load 91 = .ok (.iload_n 2, 1) := by decide +kernel
theorem dX8_load_92 : decode cX8_load 92 = .ok (.invokevirtual 55, 3) := by decide +kernel
theorem dX8_load_95 : decode cX8_load 95 = .ok (.aload_n 0, 1) := by decide +kernel
theorem dX8_load_96 : decode cX8_load 96 = .ok (.iload_n 1, 1) := by decide +kernel
theorem dX8_load_97 : decode cX8_load 97 = .ok (.iconst 2, 1) := by decide +kernel
theorem dX8_load_98 : decode cX8_load 98 = .ok (.iload_n 3, 1) := by decide +kernel
theorem dX8_load_99 : decode cX8_load 99 = .ok (.invokevirtual 55, 3) := by decide +kernel
theorem dX8_load_102 : decode cX8_load 102 = .ok (.aload_n 0, 1) := by decide +kernel
theorem dX8_load_103 : decode cX8_load 103 = .ok (.iload_n 1, 1) := by decide +kernel
theorem dX8_load_104 : decode cX8_load 104 = .ok (.iconst 3, 1) := by decide +kernel
theorem dX8_load_105 : decode cX8_load 105 = .ok (.iconst 0, 1) := by decide +kernel
theorem dX8_load_106 : decode cX8_load 106 = .ok (.invokevirtual 55, 3) := by decide +kernel
theorem dX8_load_109 : decode cX8_load 109 = .ok (.aload_n 0, 1) := by decide +kernel
theorem dX8_load_110 : decode cX8_load 110 = .ok (.getfield 22, 3) := by decide +kernel
theorem dX8_load_113 : decode cX8_load 113 = .ok (.iconst 1, 1) := by decide +kernel
theorem dX8_load_114 : decode cX8_load 114 = .ok (.iload_n 2, 1) := by decide +kernel
theorem dX8_load_115 : decode cX8_load 115 = .ok (.iadd, 1) := by decide +kernel
theorem dX8_load_116 : decode cX8_load 116 = .ok (.iaload, 1) := by decide +kernel
theorem dX8_load_117 : decode cX8_load 117 = .ok (.ireturn, 1) := by decide +kernel
theorem dX8_yields_0 : decode cX8_yields 0 = .ok (.iload_n 2, 1) := by decide +kernel
theorem dX8_yields_1 : decode cX8_yields 1 = .ok (.getstatic 77, 3) := by decide +kernel
theorem dX8_yields_4 : decode cX8_yields 4 = .ok (.iload_n 0, 1) := by decide +kernel
theorem dX8_yields_5 : decode cX8_yields 5 = .ok (.iaload, 1) := by decide +kernel
theorem dX8_yields_6 : decode cX8_yields 6 = .ok (.if_icmp .lt 12, 3) := by decide +kernel
theorem dX8_yields_9 : decode cX8_yields 9 = .ok (.iload_n 2, 1) := by decide +kernel
theorem dX8_yields_10 : decode cX8_yields 10 = .ok (.getstatic 80, 3) := by decide +kernel
theorem dX8_yields_13 : decode cX8_yields 13 = .ok (.iload_n 0, 1) := by decide +kernel
theorem dX8_yields_14 : decode cX8_yields 14 = .ok (.iaload, 1) := by decide +kernel
theorem dX8_yields_15 : decode cX8_yields 15 = .ok (.if_icmp .lt 5, 3) := by decide +kernel
theorem dX8_yields_18 : decode cX8_yields 18 = .ok (.iconst 0, 1) := by decide +kernel
theorem dX8_yields_19 : decode cX8_yields 19 = .ok (.ireturn, 1) := by decide +kernel
theorem dX8_yields_20 : decode cX8_yields 20 = .ok (.iload_n 1, 1) := by decide +kernel
theorem dX8_yields_21 : decode cX8_yields 21 = .ok (.getstatic 83, 3) := by decide +kernel
theorem dX8_yields_24 : decode cX8_yields 24 = .ok (.iload_n 0, 1) := by decide +kernel
theorem dX8_yields_25 : decode cX8_yields 25 = .ok (.iaload, 1) := by decide +kernel
theorem dX8_yields_26 : decode cX8_yields 26 = .ok (.imul, 1) := by decide +kernel
theorem dX8_yields_27 : decode cX8_yields 27 = .ok (.getstatic 80, 3) := by decide +kernel
theorem dX8_yields_30 : decode cX8_yields 30 = .ok (.iload_n 0, 1) := by decide +kernel
theorem dX8_yields_31 : decode cX8_yields 31 = .ok (.iaload, 1) := by decide +kernel
theorem dX8_yields_32 : decode cX8_yields 32 = .ok (.iload_n 2, 1) := by decide +kernel
theorem dX8_yields_33 : decode cX8_yields 33 = .ok (.isub, 1) := by decide +kernel
theorem dX8_yields_34 : decode cX8_yields 34 = .ok (.imul, 1) := by decide +kernel
theorem dX8_yields_35 : decode cX8_yields 35 = .ok (.getstatic 80, 3) := by decide +kernel
theorem dX8_yields_38 : decode cX8_yields 38 = .ok (.iload_n 0, 1) := by decide +kernel
theorem dX8_yields_39 : decode cX8_yields 39 = .ok (.iaload, 1) := by decide +kernel
theorem dX8_yields_40 : decode cX8_yields 40 = .ok (.getstatic 77, 3) := by decide +kernel
theorem dX8_yields_43 : decode cX8_yields 43 = .ok (.iload_n 0, 1) := by decide +kernel
theorem dX8_yields_44 : decode cX8_yields 44 = .ok (.iaload, 1) := by decide +kernel
theorem dX8_yields_45 : decode cX8_yields 45 = .ok (.isub, 1) := by decide +kernel
theorem dX8_yields_46 : decode cX8_yields 46 = .ok (.idiv, 1) := by decide +kernel
theorem dX8_yields_47 : decode cX8_yields 47 = .ok (.ireturn, 1) := by decide +kernel
set_option maxRecDepth 20000 in
theorem ggX8_yieldOf_X8_dr : GoodIn wsX8_yieldOf wsX8_dr := goodIn_r _ [5, 6, 13, 14, 15, 16, 17, 18, 19, 20, 21, 22, 23] (by decide +kernel) (by decide +kernel)
set_option maxRecDepth 20000 in
theorem gX8_yieldOf_X8_dr : GoodIn wsX8_yieldOf (wsV RX8 73 RX8 yX8_dr wsX8_dr) := goodIn_app (goodIn_of _ (by decide +kernel)) ggX8_yieldOf_X8_dr
set_option maxRecDepth 20000 in
theorem ggX8_yieldOf_X8_yields : GoodIn wsX8_yieldOf wsX8_yields := goodIn_r _ [9, 10, 11, 12] (by decide +kernel) (by decide +kernel)
set_option maxRecDepth 20000 in
theorem gX8_yieldOf_X8_yields : GoodIn wsX8_yieldOf (va_wsS RX8 86 yX8_yields wsX8_yields) := goodIn_app (goodIn_of _ (by decide +kernel)) ggX8_yieldOf_X8_yields
theorem dX8_yieldOf_0 : decode cX8_yieldOf 0 = .ok (.aload_n 0, 1) := by decide +kernel
theorem dX8_yieldOf_1 : decode cX8_yieldOf 1 = .ok (.iload_n 1, 1) := by decide +kernel
theorem dX8_yieldOf_2 : decode cX8_yieldOf 2 = .ok (.iconst 1, 1) := by decide +kernel
theorem dX8_yieldOf_3 : decode cX8_yieldOf 3 = .ok (.invokevirtual 73, 3) := by decide +kernel
theorem dX8_yieldOf_6 : decode cX8_yieldOf 6 = .ok (.iconst (-1), 1) := by decide +kernel
theorem dX8_yieldOf_7 : decode cX8_yieldOf 7 = .ok (.if_icmp .ne 7, 3) := by decide +kernel
theorem dX8_yieldOf_10 : decode cX8_yieldOf 10 = .ok (.iconst 0, 1) := by decide +kernel
theorem dX8_yieldOf_11 : decode cX8_yieldOf 11 = .ok (.goto 24, 3) := by decide +kernel
theorem dX8_yieldOf_14 : decode cX8_yieldOf 14 = .ok (.aload_n 0, 1) := by decide +kernel
theorem dX8_yieldOf_15 : decode cX8_yieldOf 15 = .ok (.iload_n 1, 1) := by decide +kernel
theorem dX8_yieldOf_16 : decode cX8_yieldOf 16 = .ok (.iconst 1, 1) := by decide +kernel
theorem dX8_yieldOf_17 : decode cX8_yieldOf 17 = .ok (.invokevirtual 73, 3) := by decide +kernel
theorem dX8_yieldOf_20 : decode cX8_yieldOf 20 = .ok (.aload_n 0, 1) := by decide +kernel
theorem dX8_yieldOf_21 : decode cX8_yieldOf 21 = .ok (.iload_n 1, 1) := by decide +kernel
theorem dX8_yieldOf_22 : decode cX8_yieldOf 22 = .ok (.iconst 2, 1) := by decide +kernel
theorem dX8_yieldOf_23 : decode cX8_yieldOf 23 = .ok (.invokevirtual 73, 3) := by decide +kernel
theorem dX8_yieldOf_26 : decode cX8_yieldOf 26 = .ok (.aload_n 0, 1) := by decide +kernel
theorem dX8_yieldOf_27 : decode cX8_yieldOf 27 = .ok (.iload_n 1, 1) := by decide +kernel
theorem dX8_yieldOf_28 : decode cX8_yieldOf 28 = .ok (.iconst 3, 1) := by decide +kernel
theorem dX8_yieldOf_29 : decode cX8_yieldOf 29 = .ok (.invokevirtual 73, 3) := by decide +kernel
theorem dX8_yieldOf_32 : decode cX8_yieldOf 32 = .ok (.invokestatic 86, 3) := by decide +kernel
theorem dX8_yieldOf_35 : decode cX8_yieldOf 35 = .ok (.ireturn, 1) := by decide +kernel
set_option maxRecDepth 20000 in
theorem ggX8_take_X8_isDrum : GoodIn wsX8_take wsX8_isDrum := goodIn_r _ [7, 8, 9, 10, 6, 11, 34, 35, 36, 37, 38, 39, 40, 41, 42, 43, 44] (by decide +kernel) (by decide +kernel)
set_option maxRecDepth 20000 in
theorem gX8_take_X8_isDrum : GoodIn wsX8_take (wsV RX8 69 RX8 yX8_isDrum wsX8_isDrum) := goodIn_app (goodIn_of _ (by decide +kernel)) ggX8_take_X8_isDrum
set_option maxRecDepth 20000 in
theorem ggX8_take_X8_fail : GoodIn wsX8_take wsX8_fail := goodIn_r _ [15, 1, 34, 35, 36, 37, 38, 39, 40, 41, 42, 43, 44] (by decide +kernel) (by decide +kernel)
set_option maxRecDepth 20000 in
theorem gX8_take_X8_fail : GoodIn wsX8_take (wsV RX8 48 RX8 yX8_fail wsX8_fail) := goodIn_app (goodIn_of _ (by decide +kernel)) ggX8_take_X8_fail
set_option maxRecDepth 20000 in
theorem ggX8_take_X8_dr : GoodIn wsX8_take wsX8_dr := goodIn_r _ [19, 2, 34, 35, 36, 37, 38, 39, 40, 41, 42, 43, 44] (by decide +kernel) (by decide +kernel)
set_option maxRecDepth 20000 in
theorem gX8_take_X8_dr : GoodIn wsX8_take (wsV RX8 73 RX8 yX8_dr wsX8_dr) := goodIn_app (goodIn_of _ (by decide +kernel)) ggX8_take_X8_dr
set_option maxRecDepth 20000 in
theorem ggX8_take_X8_yieldOf : GoodIn wsX8_take wsX8_yieldOf := goodIn_r _ [23, 16, 17, 18, 6, 19, 2, 24, 25, 26, 27, 28, 29, 34, 35, 36, 37, 38, 39, 40, 41, 42, 43, 44] (by decide +kernel) (by decide +kernel)
set_option maxRecDepth 20000 in
theorem gX8_take_X8_yieldOf : GoodIn wsX8_take (wsV RX8 89 RX8 yX8_yieldOf wsX8_yieldOf) := goodIn_app (goodIn_of _ (by decide +kernel)) ggX8_take_X8_yieldOf
set_option maxRecDepth 20000 in
theorem ggX8_take_X8_letDrum : GoodIn wsX8_take wsX8_letDrum := goodIn_r _ [33, 2, 34, 35, 36, 37, 38, 39, 40, 41, 42, 43, 44] (by decide +kernel) (by decide +kernel)
set_option maxRecDepth 20000 in
theorem gX8_take_X8_letDrum : GoodIn wsX8_take (wsV RX8 55 RX8 yX8_letDrum wsX8_letDrum) := goodIn_app (goodIn_of _ (by decide +kernel)) ggX8_take_X8_letDrum
theorem dX8_take_0 : decode cX8_take 0 = .ok (.aload_n 0, 1) := by decide +kernel
theorem dX8_take_1 : decode cX8_take 1 = .ok (.iconst 0, 1) := by decide +kernel
theorem dX8_take_2 : decode cX8_take 2 = .ok (.putfield 28, 3) := by decide +kernel
theorem dX8_take_5 : decode cX8_take 5 = .ok (.aload_n 0, 1) := by decide +kernel
theorem dX8_take_6 : decode cX8_take 6 = .ok (.iload_n 1, 1) := by decide +kernel
theorem dX8_take_7 : decode cX8_take 7 = .ok (.invokevirtual 69, 3) := by decide +kernel
theorem dX8_take_10 : decode cX8_take 10 = .ok (.ifCond .ne 9, 3) := by decide +kernel
theorem dX8_take_13 : decode cX8_take 13 = .ok (.aload_n 0, 1) := by decide +kernel
theorem dX8_take_14 : decode cX8_take 14 = .ok (.iconst 1, 1) := by decide +kernel
theorem dX8_take_15 : decode cX8_take 15 = .ok (.invokevirtual 48, 3) := by decide +kernel
theorem dX8_take_18 : decode cX8_take 18 = .ok (.ireturn, 1) := by decide +kernel
theorem dX8_take_19 : decode cX8_take 19 = .ok (.aload_n 0, 1) := by decide +kernel
theorem dX8_take_20 : decode cX8_take 20 = .ok (.iload_n 1, 1) := by decide +kernel
theorem dX8_take_21 : decode cX8_take 21 = .ok (.iconst 1, 1) := by decide +kernel
theorem dX8_take_22 : decode cX8_take 22 = .ok (.invokevirtual 73, 3) := by decide +kernel
theorem dX8_take_25 : decode cX8_take 25 = .ok (.iconst (-1), 1) := by decide +kernel
theorem dX8_take_26 : decode cX8_take 26 = .ok (.if_icmp .ne 9, 3) := by decide +kernel
theorem dX8_take_29 : decode cX8_take 29 = .ok (.aload_n 0, 1) := by decide +kernel
theorem dX8_take_30 : decode cX8_take 30 = .ok (.iconst 2, 1) := by decide +kernel
theorem dX8_take_31 : decode cX8_take 31 = .ok (.invokevirtual 48, 3) := by decide +kernel
theorem dX8_take_34 : decode cX8_take 34 = .ok (.ireturn, 1) := by decide +kernel
theorem dX8_take_35 : decode cX8_take 35 = .ok (.aload_n 0, 1) := by decide +kernel
theorem dX8_take_36 : decode cX8_take 36 = .ok (.iload_n 1, 1) := by decide +kernel
theorem dX8_take_37 : decode cX8_take 37 = .ok (.invokevirtual 89, 3) := by decide +kernel
theorem dX8_take_40 : decode cX8_take 40 = .ok (.istore_n 2, 1) := by decide +kernel
theorem dX8_take_41 : decode cX8_take 41 = .ok (.aload_n 0, 1) := by decide +kernel
theorem dX8_take_42 : decode cX8_take 42 = .ok (.getfield 22, 3) := by decide +kernel
theorem dX8_take_45 : decode cX8_take 45 = .ok (.iconst 3, 1) := by decide +kernel
theorem dX8_take_46 : decode cX8_take 46 = .ok (.aload_n 0, 1) := by decide +kernel
theorem dX8_take_47 : decode cX8_take 47 = .ok (.iload_n 1, 1) := by decide +kernel
theorem dX8_take_48 : decode cX8_take 48 = .ok (.iconst 1, 1) := by decide +kernel
theorem dX8_take_49 : decode cX8_take 49 = .ok (.invokevirtual 73, 3) := by decide +kernel
theorem dX8_take_52 : decode cX8_take 52 = .ok (.iadd, 1) := by decide +kernel
theorem dX8_take_53 : decode cX8_take 53 = .ok (.dup2, 1) := by decide +kernel
theorem dX8_take_54 : decode cX8_take 54 = .ok (.iaload, 1) := by decide +kernel
theorem dX8_take_55 : decode cX8_take 55 = .ok (.iload_n 2, 1) := by decide +kernel
theorem dX8_take_56 : decode cX8_take 56 = .ok (.iadd, 1) := by decide +kernel
theorem dX8_take_57 : decode cX8_take 57 = .ok (.iastore, 1) := by decide +kernel
theorem dX8_take_58 : decode cX8_take 58 = .ok (.aload_n 0, 1) := by decide +kernel
theorem dX8_take_59 : decode cX8_take 59 = .ok (.iload_n 1, 1) := by decide +kernel
theorem dX8_take_60 : decode cX8_take 60 = .ok (.iconst 1, 1) := by decide +kernel
theorem dX8_take_61 : decode cX8_take 61 = .ok (.iconst (-1), 1) := by decide +kernel
theorem dX8_take_62 : decode cX8_take 62 = .ok (.invokevirtual 55, 3) := by decide +kernel
theorem dX8_take_65 : decode cX8_take 65 = .ok (.aload_n 0, 1) := by decide +kernel
theorem dX8_take_66 : decode cX8_take 66 = .ok (.iload_n 1, 1) := by decide +kernel
theorem dX8_take_67 : decode cX8_take 67 = .ok (.iconst 2, 1) := by decide +kernel
theorem dX8_take_68 : decode cX8_take 68 = .ok (.iconst 0, 1) := by decide +kernel
theorem dX8_take_69 : decode cX8_take 69 = .ok (.invokevirtual 55, 3) := by decide +kernel
theorem dX8_take_72 : decode cX8_take 72 = .ok (.aload_n 0, 1) := by decide +kernel
theorem dX8_take_73 : decode cX8_take 73 = .ok (.iload_n 1, 1) := by decide +kernel
theorem dX8_take_74 : decode cX8_take 74 = .ok (.iconst 3, 1) := by decide +kernel
theorem dX8_take_75 : decode cX8_take 75 = .ok (.iconst 0, 1) := by decide +kernel
theorem dX8_take_76 : decode cX8_take 76 = .ok (.invokevirtual 55, 3) := by decide +kernel
theorem dX8_take_79 : decode cX8_take 79 = .ok (.iload_n 2, 1) := by decide +kernel
theorem dX8_take_80 : decode cX8_take 80 = .ok (.ireturn, 1) := by decide +kernel
set_option maxRecDepth 20000 in
theorem ggX8_send_X8_isSmuggler : GoodIn wsX8_send wsX8_isSmuggler := goodIn_r _ [7, 8, 9, 10, 6, 11, 25, 26, 27, 28, 29, 30, 31, 32, 33, 34, 35] (by decide +kernel) (by decide +kernel)
set_option maxRecDepth 20000 in
theorem gX8_send_X8_isSmuggler : GoodIn wsX8_send (wsV RX8 92 RX8 yX8_isSmuggler wsX8_isSmuggler) := goodIn_app (goodIn_of _ (by decide +kernel)) ggX8_send_X8_isSmuggler
set_option maxRecDepth 20000 in
theorem ggX8_send_X8_fail : GoodIn wsX8_send wsX8_fail := goodIn_r _ [15, 1, 25, 26, 27, 28, 29, 30, 31, 32, 33, 34, 35] (by decide +kernel) (by decide +kernel)
set_option maxRecDepth 20000 in
theorem gX8_send_X8_fail : GoodIn wsX8_send (wsV RX8 48 RX8 yX8_fail wsX8_fail) := goodIn_app (goodIn_of _ (by decide +kernel)) ggX8_send_X8_fail
set_option maxRecDepth 20000 in
theorem ggX8_send_X8_sm : GoodIn wsX8_send wsX8_sm := goodIn_r _ [19, 20, 25, 26, 27, 28, 29, 30, 31, 32, 33, 34, 35] (by decide +kernel) (by decide +kernel)
set_option maxRecDepth 20000 in
theorem gX8_send_X8_sm : GoodIn wsX8_send (wsV RX8 95 RX8 yX8_sm wsX8_sm) := goodIn_app (goodIn_of _ (by decide +kernel)) ggX8_send_X8_sm
set_option maxRecDepth 20000 in
theorem ggX8_send_X8_letSmuggler : GoodIn wsX8_send wsX8_letSmuggler := goodIn_r _ [24, 20, 25, 26, 27, 28, 29, 30, 31, 32, 33, 34, 35] (by decide +kernel) (by decide +kernel)
set_option maxRecDepth 20000 in
theorem gX8_send_X8_letSmuggler : GoodIn wsX8_send (wsV RX8 98 RX8 yX8_letSmuggler wsX8_letSmuggler) := goodIn_app (goodIn_of _ (by decide +kernel)) ggX8_send_X8_letSmuggler
theorem dX8_send_0 : decode cX8_send 0 = .ok (.aload_n 0, 1) := by decide +kernel
theorem dX8_send_1 : decode cX8_send 1 = .ok (.iconst 0, 1) := by decide +kernel
theorem dX8_send_2 : decode cX8_send 2 = .ok (.putfield 28, 3) := by decide +kernel
theorem dX8_send_5 : decode cX8_send 5 = .ok (.aload_n 0, 1) := by decide +kernel
theorem dX8_send_6 : decode cX8_send 6 = .ok (.iload_n 1, 1) := by decide +kernel
theorem dX8_send_7 : decode cX8_send 7 = .ok (.invokevirtual 92, 3) := by decide +kernel
theorem dX8_send_10 : decode cX8_send 10 = .ok (.ifCond .ne 9, 3) := by decide +kernel
theorem dX8_send_13 : decode cX8_send 13 = .ok (.aload_n 0, 1) := by decide +kernel
theorem dX8_send_14 : decode cX8_send 14 = .ok (.iconst 1, 1) := by decide +kernel
theorem dX8_send_15 : decode cX8_send 15 = .ok (.invokevirtual 48, 3) := by decide +kernel
theorem dX8_send_18 : decode cX8_send 18 = .ok (.ireturn, 1) := by decide +kernel
theorem dX8_send_19 : decode cX8_send 19 = .ok (.aload_n 0, 1) := by decide +kernel
theorem dX8_send_20 : decode cX8_send 20 = .ok (.iload_n 1, 1) := by decide +kernel
theorem dX8_send_21 : decode cX8_send 21 = .ok (.iconst 0, 1) := by decide +kernel
theorem dX8_send_22 : decode cX8_send 22 = .ok (.invokevirtual 95, 3) := by decide +kernel
theorem dX8_send_25 : decode cX8_send 25 = .ok (.ifCond .eq 9, 3) := by decide +kernel
theorem dX8_send_28 : decode cX8_send 28 = .ok (.aload_n 0, 1) := by decide +kernel
theorem dX8_send_29 : decode cX8_send 29 = .ok (.iconst 2, 1) := by decide +kernel
theorem dX8_send_30 : decode cX8_send 30 = .ok (.invokevirtual 48, 3) := by decide +kernel
theorem dX8_send_33 : decode cX8_send 33 = .ok (.ireturn, 1) := by decide +kernel
theorem dX8_send_34 : decode cX8_send 34 = .ok (.aload_n 0, 1) := by decide +kernel
theorem dX8_send_35 : decode cX8_send 35 = .ok (.iload_n 1, 1) := by decide +kernel
theorem dX8_send_36 : decode cX8_send 36 = .ok (.iconst 1, 1) := by decide +kernel
theorem dX8_send_37 : decode cX8_send 37 = .ok (.aload_n 0, 1) := by decide +kernel
theorem dX8_send_38 : decode cX8_send 38 = .ok (.getfield 16, 3) := by decide +kernel
theorem dX8_send_41 : decode cX8_send 41 = .ok (.iconst 2, 1) := by decide +kernel
theorem dX8_send_42 : decode cX8_send 42 = .ok (.iload_n 1, 1) := by decide +kernel
theorem dX8_send_43 : decode cX8_send 43 = .ok (.imul, 1) := by decide +kernel
theorem dX8_send_44 : decode cX8_send 44 = .ok (.iaload, 1) := by decide +kernel
theorem dX8_send_45 : decode cX8_send 45 = .ok (.invokevirtual 98, 3) := by decide +kernel
theorem dX8_send_48 : decode cX8_send 48 = .ok (.aload_n 0, 1) := by decide +kernel
theorem dX8_send_49 : decode cX8_send 49 = .ok (.iload_n 1, 1) := by decide +kernel
theorem dX8_send_50 : decode cX8_send 50 = .ok (.iconst 1, 1) := by decide +kernel
theorem dX8_send_51 : decode cX8_send 51 = .ok (.invokevirtual 95, 3) := by decide +kernel
theorem dX8_send_54 : decode cX8_send 54 = .ok (.ireturn, 1) := by decide +kernel
theorem dX8_bedIs_0 : decode cX8_bedIs 0 = .ok (.iload_n 2, 1) := by decide +kernel
theorem dX8_bedIs_1 : decode cX8_bedIs 1 = .ok (.iconst 2, 1) := by decide +kernel
theorem dX8_bedIs_2 : decode cX8_bedIs 2 = .ok (.if_icmp .ge 16, 3) := by decide +kernel
theorem dX8_bedIs_5 : decode cX8_bedIs 5 = .ok (.aload_n 0, 1) := by decide +kernel
theorem dX8_bedIs_6 : decode cX8_bedIs 6 = .ok (.getfield 9, 3) := by decide +kernel
theorem dX8_bedIs_9 : decode cX8_bedIs 9 = .ok (.iconst 2, 1) := by decide +kernel
theorem dX8_bedIs_10 : decode cX8_bedIs 10 = .ok (.iload_n 1, 1) := by decide +kernel
theorem dX8_bedIs_11 : decode cX8_bedIs 11 = .ok (.imul, 1) := by decide +kernel
theorem dX8_bedIs_12 : decode cX8_bedIs 12 = .ok (.iload_n 2, 1) := by decide +kernel
theorem dX8_bedIs_13 : decode cX8_bedIs 13 = .ok (.iadd, 1) := by decide +kernel
theorem dX8_bedIs_14 : decode cX8_bedIs 14 = .ok (.iaload, 1) := by decide +kernel
theorem dX8_bedIs_15 : decode cX8_bedIs 15 = .ok (.goto 12, 3) := by decide +kernel
theorem dX8_bedIs_18 : decode cX8_bedIs 18 = .ok (.aload_n 0, 1) := by decide +kernel
theorem dX8_bedIs_19 : decode cX8_bedIs 19 = .ok (.getfield 22, 3) := by decide +kernel
theorem dX8_bedIs_22 : decode cX8_bedIs 22 = .ok (.bipush 10, 2) := by decide +kernel
theorem dX8_bedIs_24 : decode cX8_bedIs 24 = .ok (.iload_n 1, 1) := by decide +kernel
theorem dX8_bedIs_25 : decode cX8_bedIs 25 = .ok (.iadd, 1) := by decide +kernel
theorem dX8_bedIs_26 : decode cX8_bedIs 26 = .ok (.iaload, 1) := by decide +kernel
theorem dX8_bedIs_27 : decode cX8_bedIs 27 = .ok (.ireturn, 1) := by decide +kernel
set_option maxRecDepth 20000 in
theorem ggX8_about_X8_isIn : GoodIn wsX8_about wsX8_isIn := goodIn_r _ [6] (by decide +kernel) (by decide +kernel)
set_option maxRecDepth 20000 in
theorem gX8_about_X8_isIn : GoodIn wsX8_about (va_wsS RX8 35 yX8_isIn wsX8_isIn) := goodIn_app (goodIn_of _ (by decide +kernel)) ggX8_about_X8_isIn
set_option maxRecDepth 20000 in
theorem ggX8_about_X8_bedIs : GoodIn wsX8_about wsX8_bedIs := goodIn_r _ [10, 11, 12, 17, 18, 19, 20, 21, 22, 23, 24, 25, 26, 27] (by decide +kernel) (by decide +kernel)
set_option maxRecDepth 20000 in
theorem gX8_about_X8_bedIs : GoodIn wsX8_about (wsV RX8 101 RX8 yX8_bedIs wsX8_bedIs) := goodIn_app (goodIn_of _ (by decide +kernel)) ggX8_about_X8_bedIs
set_option maxRecDepth 20000 in
theorem ggX8_about_X8_fail : GoodIn wsX8_about wsX8_fail := goodIn_r _ [16, 1, 17, 18, 19, 20, 21, 22, 23, 24, 25, 26, 27] (by decide +kernel) (by decide +kernel)
set_option maxRecDepth 20000 in
theorem gX8_about_X8_fail : GoodIn wsX8_about (wsV RX8 48 RX8 yX8_fail wsX8_fail) := goodIn_app (goodIn_of _ (by decide +kernel)) ggX8_about_X8_fail
theorem dX8_about_0 : decode cX8_about 0 = .ok (.aload_n 0, 1) := by decide +kernel
theorem dX8_about_1 : decode cX8_about 1 = .ok (.iconst 0, 1) := by decide +kernel
theorem dX8_about_2 : decode cX8_about 2 = .ok (.putfield 28, 3) := by decide +kernel
theorem dX8_about_5 : decode cX8_about 5 = .ok (.iload_n 1, 1) := by decide +kernel
theorem dX8_about_6 : decode cX8_about 6 = .ok (.iconst 0, 1) := by decide +kernel
theorem dX8_about_7 : decode cX8_about 7 = .ok (.aload_n 0, 1) := by decide +kernel
theorem dX8_about_8 : decode cX8_about 8 = .ok (.getfield 52, 3) := by decide +kernel
theorem dX8_about_11 : decode cX8_about 11 = .ok (.iconst 1, 1) := by decide +kernel
theorem dX8_about_12 : decode cX8_about 12 = .ok (.isub, 1) := by decide +kernel
theorem dX8_about_13 : decode cX8_about 13 = .ok (.invokestatic 35, 3) := by decide +kernel
theorem dX8_about_16 : decode cX8_about 16 = .ok (.ifCond .eq 21, 3) := by decide +kernel
theorem dX8_about_19 : decode cX8_about 19 = .ok (.iload_n 2, 1) := by decide +kernel
theorem dX8_about_20 : decode cX8_about 20 = .ok (.iconst 0, 1) := by decide +kernel
theorem dX8_about_21 : decode cX8_about 21 = .ok (.iconst 2, 1) := by decide +kernel
theorem dX8_about_22 : decode cX8_about 22 = .ok (.invokestatic 35, 3) := by decide +kernel
theorem dX8_about_25 : decode cX8_about 25 = .ok (.ifCond .eq 12, 3) := by decide +kernel
theorem dX8_about_28 : decode cX8_about 28 = .ok (.aload_n 0, 1) := by decide +kernel
theorem dX8_about_29 : decode cX8_about 29 = .ok (.iload_n 1, 1) := by decide +kernel
theorem dX8_about_30 : decode cX8_about 30 = .ok (.iload_n 2, 1) := by decide +kernel
theorem dX8_about_31 : decode cX8_about 31 = .ok (.invokevirtual 101, 3) := by decide +kernel
theorem dX8_about_34 : decode cX8_about 34 = .ok (.goto 8, 3) := by decide +kernel
theorem dX8_about_37 : decode cX8_about 37 = .ok (.aload_n 0, 1) := by decide +kernel
theorem dX8_about_38 : decode cX8_about 38 = .ok (.iconst 1, 1) := by decide +kernel
theorem dX8_about_39 : decode cX8_about 39 = .ok (.invokevirtual 48, 3) := by decide +kernel
theorem dX8_about_42 : decode cX8_about 42 = .ok (.ireturn, 1) := by decide +kernel
set_option maxRecDepth 20000 in
theorem ggX8_drumIs_X8_yieldOf : GoodIn wsX8_drumIs wsX8_yieldOf := goodIn_r _ [6, 7, 8, 9, 5, 10, 11, 12, 13, 14, 15, 16, 17, 18, 19, 20, 21, 22, 23, 24, 25, 26, 27, 28] (by decide +kernel) (by decide +kernel)
set_option maxRecDepth 20000 in
theorem gX8_drumIs_X8_yieldOf : GoodIn wsX8_drumIs (wsV RX8 89 RX8 yX8_yieldOf wsX8_yieldOf) := goodIn_app (goodIn_of _ (by decide +kernel)) ggX8_drumIs_X8_yieldOf
set_option maxRecDepth 20000 in
theorem ggX8_drumIs_X8_dr : GoodIn wsX8_drumIs wsX8_dr := goodIn_r _ [10, 11, 18, 19, 20, 21, 22, 23, 24, 25, 26, 27, 28] (by decide +kernel) (by decide +kernel)
set_option maxRecDepth 20000 in
theorem gX8_drumIs_X8_dr : GoodIn wsX8_drumIs (wsV RX8 73 RX8 yX8_dr wsX8_dr) := goodIn_app (goodIn_of _ (by decide +kernel)) ggX8_drumIs_X8_dr
theorem dX8_drumIs_0 : decode cX8_drumIs 0 = .ok (.iload_n 2, 1) := by decide +kernel
theorem dX8_drumIs_1 : decode cX8_drumIs 1 = .ok (.ifCond .ne 12, 3) := by decide +kernel
theorem dX8_drumIs_4 : decode cX8_drumIs 4 = .ok (.aload_n 0, 1) := by decide +kernel
theorem dX8_drumIs_5 : decode cX8_drumIs 5 = .ok (.getfield 13, 3) := by decide +kernel
theorem dX8_drumIs_8 : decode cX8_drumIs 8 = .ok (.iload_n 1, 1) := by decide +kernel
theorem dX8_drumIs_9 : decode cX8_drumIs 9 = .ok (.iaload, 1) := by decide +kernel
theorem dX8_drumIs_10 : decode cX8_drumIs 10 = .ok (.goto 24, 3) := by decide +kernel
theorem dX8_drumIs_13 : decode cX8_drumIs 13 = .ok (.iload_n 2, 1) := by decide +kernel
theorem dX8_drumIs_14 : decode cX8_drumIs 14 = .ok (.iconst 5, 1) := by decide +kernel
theorem dX8_drumIs_15 : decode cX8_drumIs 15 = .ok (.if_icmp .ne 11, 3) := by decide +kernel
theorem dX8_drumIs_18 : decode cX8_drumIs 18 = .ok (.aload_n 0, 1) := by decide +kernel
theorem dX8_drumIs_19 : decode cX8_drumIs 19 = .ok (.iload_n 1, 1) := by decide +kernel
theorem dX8_drumIs_20 : decode cX8_drumIs 20 = .ok (.invokevirtual 89, 3) := by decide +kernel
theorem dX8_drumIs_23 : decode cX8_drumIs 23 = .ok (.goto 11, 3) := by decide +kernel
theorem dX8_drumIs_26 : decode cX8_drumIs 26 = .ok (.aload_n 0, 1) := by decide +kernel
theorem dX8_drumIs_27 : decode cX8_drumIs 27 = .ok (.iload_n 1, 1) := by decide +kernel
theorem dX8_drumIs_28 : decode cX8_drumIs 28 = .ok (.iload_n 2, 1) := by decide +kernel
theorem dX8_drumIs_29 : decode cX8_drumIs 29 = .ok (.iconst 1, 1) := by decide +kernel
theorem dX8_drumIs_30 : decode cX8_drumIs 30 = .ok (.isub, 1) := by decide +kernel
theorem dX8_drumIs_31 : decode cX8_drumIs 31 = .ok (.invokevirtual 73, 3) := by decide +kernel
theorem dX8_drumIs_34 : decode cX8_drumIs 34 = .ok (.ireturn, 1) := by decide +kernel
set_option maxRecDepth 20000 in
theorem ggX8_roast_X8_isDrum : GoodIn wsX8_roast wsX8_isDrum := goodIn_r _ [6, 7, 8, 9, 5, 10, 35, 36, 37, 38, 39, 40, 41, 42, 43, 44, 45] (by decide +kernel) (by decide +kernel)
set_option maxRecDepth 20000 in
theorem gX8_roast_X8_isDrum : GoodIn wsX8_roast (wsV RX8 69 RX8 yX8_isDrum wsX8_isDrum) := goodIn_app (goodIn_of _ (by decide +kernel)) ggX8_roast_X8_isDrum
set_option maxRecDepth 20000 in
theorem ggX8_roast_X8_isIn : GoodIn wsX8_roast wsX8_isIn := goodIn_r _ [10] (by decide +kernel) (by decide +kernel)
set_option maxRecDepth 20000 in
theorem gX8_roast_X8_isIn : GoodIn wsX8_roast (va_wsS RX8 35 yX8_isIn wsX8_isIn) := goodIn_app (goodIn_of _ (by decide +kernel)) ggX8_roast_X8_isIn
set_option maxRecDepth 20000 in
theorem ggX8_roast_X8_drumIs : GoodIn wsX8_roast wsX8_drumIs := goodIn_r _ [14, 15, 16, 17, 18, 5, 19, 20, 21, 22, 23, 24, 25, 26, 27, 28, 29, 30, 35, 36, 37, 38, 39, 40, 41, 42, 43, 44, 45] (by decide +kernel) (by decide +kernel)
set_option maxRecDepth 20000 in
theorem gX8_roast_X8_drumIs : GoodIn wsX8_roast (wsV RX8 104 RX8 yX8_drumIs wsX8_drumIs) := goodIn_app (goodIn_of _ (by decide +kernel)) ggX8_roast_X8_drumIs
set_option maxRecDepth 20000 in
theorem ggX8_roast_X8_fail : GoodIn wsX8_roast wsX8_fail := goodIn_r _ [34, 1, 35, 36, 37, 38, 39, 40, 41, 42, 43, 44, 45] (by decide +kernel) (by decide +kernel)
set_option maxRecDepth 20000 in
theorem gX8_roast_X8_fail : GoodIn wsX8_roast (wsV RX8 48 RX8 yX8_fail wsX8_fail) := goodIn_app (goodIn_of _ (by decide +kernel)) ggX8_roast_X8_fail
end
section
theorem dX8_roast_0 : decode cX8_roast 0 = .ok (.aload_n 0, 1) := by decide +kernel
theorem dX8_roast_1 : decode cX8_roast 1 = .ok (.iconst 0, 1) := by decide +kernel
theorem dX8_roast_2 : decode cX8_roast 2 = .ok (.putfield 28, 3) := by decide +kernel
theorem dX8_roast_5 : decode cX8_roast 5 = .ok (.aload_n 0, 1) := by decide +kernel
theorem dX8_roast_6 : decode cX8_roast 6 = .ok (.iload_n 1, 1) := by decide +kernel
theorem dX8_roast_7 : decode cX8_roast 7 = .ok (.invokevirtual 69, 3) := by decide +kernel
theorem dX8_roast_10 : decode cX8_roast 10 = .ok (.ifCond .eq 21, 3) := by decide +kernel
theorem dX8_roast_13 : decode cX8_roast 13 = .ok (.iload_n 2, 1) := by decide +kernel
theorem dX8_roast_14 : decode cX8_roast 14 = .ok (.iconst 0, 1) := by decide +kernel
theorem dX8_roast_15 : decode cX8_roast 15 = .ok (.iconst 5, 1) := by decide +kernel
theorem dX8_roast_16 : decode cX8_roast 16 = .ok (.invokestatic 35, 3) := by decide +kernel
theorem dX8_roast_19 : decode cX8_roast 19 = .ok (.ifCond .eq 12, 3) := by decide +kernel
theorem dX8_roast_22 : decode cX8_roast 22 = .ok (.aload_n 0, 1) := by decide +kernel
theorem dX8_roast_23 : decode cX8_roast 23 = .ok (.iload_n 1, 1) := by decide +kernel
theorem dX8_roast_24 : decode cX8_roast 24 = .ok (.iload_n 2, 1) := by decide +kernel
theorem dX8_roast_25 : decode cX8_roast 25 = .ok (.invokevirtual 104, 3) := by decide +kernel
theorem dX8_roast_28 : decode cX8_roast 28 = .ok (.goto 8, 3) := by decide +kernel
theorem dX8_roast_31 : decode cX8_roast 31 = .ok (.aload_n 0, 1) := by decide +kernel
theorem dX8_roast_32 : decode cX8_roast 32 = .ok (.iconst 1, 1) := by decide +kernel
theorem dX8_roast_33 : decode cX8_roast 33 = .ok (.invokevirtual 48, 3) := by decide +kernel
theorem dX8_roast_36 : decode cX8_roast 36 = .ok (.ireturn, 1) := by decide +kernel
set_option maxRecDepth 20000 in
theorem ggX8_smugglerIs_X8_sm : GoodIn wsX8_smugglerIs wsX8_sm := goodIn_r _ [6, 7, 8, 9, 10, 11, 12, 13, 14, 15, 16, 17, 18] (by decide +kernel) (by decide +kernel)
set_option maxRecDepth 20000 in
theorem gX8_smugglerIs_X8_sm : GoodIn wsX8_smugglerIs (wsV RX8 95 RX8 yX8_sm wsX8_sm) := goodIn_app (goodIn_of _ (by decide +kernel)) ggX8_smugglerIs_X8_sm
theorem dX8_smugglerIs_0 : decode cX8_smugglerIs 0 = .ok (.iload_n 2, 1) := by decide +kernel
theorem dX8_smugglerIs_1 : decode cX8_smugglerIs 1 = .ok (.iconst 2, 1) := by decide +kernel
theorem dX8_smugglerIs_2 : decode cX8_smugglerIs 2 = .ok (.if_icmp .ge 16, 3) := by decide +kernel
theorem dX8_smugglerIs_5 : decode cX8_smugglerIs 5 = .ok (.aload_n 0, 1) := by decide +kernel
theorem dX8_smugglerIs_6 : decode cX8_smugglerIs 6 = .ok (.getfield 16, 3) := by decide +kernel
theorem dX8_smugglerIs_9 : decode cX8_smugglerIs 9 = .ok (.iconst 2, 1) := by decide +kernel
theorem dX8_smugglerIs_10 : decode cX8_smugglerIs 10 = .ok (.iload_n 1, 1) := by decide +kernel
theorem dX8_smugglerIs_11 : decode cX8_smugglerIs 11 = .ok (.imul, 1) := by decide +kernel
theorem dX8_smugglerIs_12 : decode cX8_smugglerIs 12 = .ok (.iload_n 2, 1) := by decide +kernel
theorem dX8_smugglerIs_13 : decode cX8_smugglerIs 13 = .ok (.iadd, 1) := by decide +kernel
theorem dX8_smugglerIs_14 : decode cX8_smugglerIs 14 = .ok (.iaload, 1) := by decide +kernel
theorem dX8_smugglerIs_15 : decode cX8_smugglerIs 15 = .ok (.goto 11, 3) := by decide +kernel
theorem dX8_smugglerIs_18 : decode cX8_smugglerIs 18 = .ok (.aload_n 0, 1) := by decide +kernel
theorem dX8_smugglerIs_19 : decode cX8_smugglerIs 19 = .ok (.iload_n 1, 1) := by decide +kernel
theorem dX8_smugglerIs_20 : decode cX8_smugglerIs 20 = .ok (.iload_n 2, 1) := by decide +kernel
theorem dX8_smugglerIs_21 : decode cX8_smugglerIs 21 = .ok (.iconst 2, 1) := by decide +kernel
theorem dX8_smugglerIs_22 : decode cX8_smugglerIs 22 = .ok (.isub, 1) := by decide +kernel
theorem dX8_smugglerIs_23 : decode cX8_smugglerIs 23 = .ok (.invokevirtual 95, 3) := by decide +kernel
theorem dX8_smugglerIs_26 : decode cX8_smugglerIs 26 = .ok (.ireturn, 1) := by decide +kernel
set_option maxRecDepth 20000 in
theorem ggX8_told_X8_isSmuggler : GoodIn wsX8_told wsX8_isSmuggler := goodIn_r _ [6, 7, 8, 9, 5, 10, 25, 26, 27, 28, 29, 30, 31, 32, 33, 34, 35] (by decide +kernel) (by decide +kernel)
set_option maxRecDepth 20000 in
theorem gX8_told_X8_isSmuggler : GoodIn wsX8_told (wsV RX8 92 RX8 yX8_isSmuggler wsX8_isSmuggler) := goodIn_app (goodIn_of _ (by decide +kernel)) ggX8_told_X8_isSmuggler
set_option maxRecDepth 20000 in
theorem ggX8_told_X8_isIn : GoodIn wsX8_told wsX8_isIn := goodIn_r _ [10] (by decide +kernel) (by decide +kernel)
set_option maxRecDepth 20000 in
theorem gX8_told_X8_isIn : GoodIn wsX8_told (va_wsS RX8 35 yX8_isIn wsX8_isIn) := goodIn_app (goodIn_of _ (by decide +kernel)) ggX8_told_X8_isIn
set_option maxRecDepth 20000 in
theorem ggX8_told_X8_smugglerIs : GoodIn wsX8_told wsX8_smugglerIs := goodIn_r _ [14, 15, 16, 17, 18, 5, 19, 20, 25, 26, 27, 28, 29, 30, 31, 32, 33, 34, 35] (by decide +kernel) (by decide +kernel)
set_option maxRecDepth 20000 in
theorem gX8_told_X8_smugglerIs : GoodIn wsX8_told (wsV RX8 107 RX8 yX8_smugglerIs wsX8_smugglerIs) := goodIn_app (goodIn_of _ (by decide +kernel)) ggX8_told_X8_smugglerIs
set_option maxRecDepth 20000 in
theorem ggX8_told_X8_fail : GoodIn wsX8_told wsX8_fail := goodIn_r _ [24, 1, 25, 26, 27, 28, 29, 30, 31, 32, 33, 34, 35] (by decide +kernel) (by decide +kernel)
set_option maxRecDepth 20000 in
theorem gX8_told_X8_fail : GoodIn wsX8_told (wsV RX8 48 RX8 yX8_fail wsX8_fail) := goodIn_app (goodIn_of _ (by decide +kernel)) ggX8_told_X8_fail
theorem dX8_told_0 : decode cX8_told 0 = .ok (.aload_n 0, 1) := by decide +kernel
theorem dX8_told_1 : decode cX8_told 1 = .ok (.iconst 0, 1) := by decide +kernel
theorem dX8_told_2 : decode cX8_told 2 = .ok (.putfield 28, 3) := by decide +kernel
theorem dX8_told_5 : decode cX8_told 5 = .ok (.aload_n 0, 1) := by decide +kernel
theorem dX8_told_6 : decode cX8_told 6 = .ok (.iload_n 1, 1) := by decide +kernel
theorem dX8_told_7 : decode cX8_told 7 = .ok (.invokevirtual 92, 3) := by decide +kernel
theorem dX8_told_10 : decode cX8_told 10 = .ok (.ifCond .eq 21, 3) := by decide +kernel
theorem dX8_told_13 : decode cX8_told 13 = .ok (.iload_n 2, 1) := by decide +kernel
theorem dX8_told_14 : decode cX8_told 14 = .ok (.iconst 0, 1) := by decide +kernel
theorem dX8_told_15 : decode cX8_told 15 = .ok (.iconst 4, 1) := by decide +kernel
theorem dX8_told_16 : decode cX8_told 16 = .ok (.invokestatic 35, 3) := by decide +kernel
theorem dX8_told_19 : decode cX8_told 19 = .ok (.ifCond .eq 12, 3) := by decide +kernel
theorem dX8_told_22 : decode cX8_told 22 = .ok (.aload_n 0, 1) := by decide +kernel
theorem dX8_told_23 : decode cX8_told 23 = .ok (.iload_n 1, 1) := by decide +kernel
theorem dX8_told_24 : decode cX8_told 24 = .ok (.iload_n 2, 1) := by decide +kernel
theorem dX8_told_25 : decode cX8_told 25 = .ok (.invokevirtual 107, 3) := by decide +kernel
theorem dX8_told_28 : decode cX8_told 28 = .ok (.goto 8, 3) := by decide +kernel
theorem dX8_told_31 : decode cX8_told 31 = .ok (.aload_n 0, 1) := by decide +kernel
theorem dX8_told_32 : decode cX8_told 32 = .ok (.iconst 1, 1) := by decide +kernel
theorem dX8_told_33 : decode cX8_told 33 = .ok (.invokevirtual 48, 3) := by decide +kernel
theorem dX8_told_36 : decode cX8_told 36 = .ok (.ireturn, 1) := by decide +kernel
set_option maxRecDepth 20000 in
theorem ggX8_cardIs_X8_ca : GoodIn wsX8_cardIs wsX8_ca := goodIn_r _ [6, 7, 8, 9, 10, 11, 12, 13, 14, 15, 16, 17, 18] (by decide +kernel) (by decide +kernel)
set_option maxRecDepth 20000 in
theorem gX8_cardIs_X8_ca : GoodIn wsX8_cardIs (wsV RX8 110 RX8 yX8_ca wsX8_ca) := goodIn_app (goodIn_of _ (by decide +kernel)) ggX8_cardIs_X8_ca
theorem dX8_cardIs_0 : decode cX8_cardIs 0 = .ok (.iload_n 2, 1) := by decide +kernel
theorem dX8_cardIs_1 : decode cX8_cardIs 1 = .ok (.iconst 2, 1) := by decide +kernel
theorem dX8_cardIs_2 : decode cX8_cardIs 2 = .ok (.if_icmp .ge 16, 3) := by decide +kernel
theorem dX8_cardIs_5 : decode cX8_cardIs 5 = .ok (.aload_n 0, 1) := by decide +kernel
theorem dX8_cardIs_6 : decode cX8_cardIs 6 = .ok (.getfield 19, 3) := by decide +kernel
theorem dX8_cardIs_9 : decode cX8_cardIs 9 = .ok (.iconst 2, 1) := by decide +kernel
theorem dX8_cardIs_10 : decode cX8_cardIs 10 = .ok (.iload_n 1, 1) := by decide +kernel
theorem dX8_cardIs_11 : decode cX8_cardIs 11 = .ok (.imul, 1) := by decide +kernel
theorem dX8_cardIs_12 : decode cX8_cardIs 12 = .ok (.iload_n 2, 1) := by decide +kernel
theorem dX8_cardIs_13 : decode cX8_cardIs 13 = .ok (.iadd, 1) := by decide +kernel
theorem dX8_cardIs_14 : decode cX8_cardIs 14 = .ok (.iaload, 1) := by decide +kernel
theorem dX8_cardIs_15 : decode cX8_cardIs 15 = .ok (.goto 11, 3) := by decide +kernel
theorem dX8_cardIs_18 : decode cX8_cardIs 18 = .ok (.aload_n 0, 1) := by decide +kernel
theorem dX8_cardIs_19 : decode cX8_cardIs 19 = .ok (.iload_n 1, 1) := by decide +kernel
theorem dX8_cardIs_20 : decode cX8_cardIs 20 = .ok (.iload_n 2, 1) := by decide +kernel
theorem dX8_cardIs_21 : decode cX8_cardIs 21 = .ok (.iconst 2, 1) := by decide +kernel
theorem dX8_cardIs_22 : decode cX8_cardIs 22 = .ok (.isub, 1) := by decide +kernel
theorem dX8_cardIs_23 : decode cX8_cardIs 23 = .ok (.invokevirtual 110, 3) := by decide +kernel
theorem dX8_cardIs_26 : decode cX8_cardIs 26 = .ok (.ireturn, 1) := by decide +kernel
set_option maxRecDepth 20000 in
theorem ggX8_ration_X8_isIn : GoodIn wsX8_ration wsX8_isIn := goodIn_r _ [6] (by decide +kernel) (by decide +kernel)
set_option maxRecDepth 20000 in
theorem gX8_ration_X8_isIn : GoodIn wsX8_ration (va_wsS RX8 35 yX8_isIn wsX8_isIn) := goodIn_app (goodIn_of _ (by decide +kernel)) ggX8_ration_X8_isIn
set_option maxRecDepth 20000 in
theorem ggX8_ration_X8_cardIs : GoodIn wsX8_ration wsX8_cardIs := goodIn_r _ [10, 11, 12, 13, 14, 5, 15, 16, 21, 22, 23, 24, 25, 26, 27, 28, 29, 30, 31] (by decide +kernel) (by decide +kernel)
set_option maxRecDepth 20000 in
theorem gX8_ration_X8_cardIs : GoodIn wsX8_ration (wsV RX8 113 RX8 yX8_cardIs wsX8_cardIs) := goodIn_app (goodIn_of _ (by decide +kernel)) ggX8_ration_X8_cardIs
set_option maxRecDepth 20000 in
theorem ggX8_ration_X8_fail : GoodIn wsX8_ration wsX8_fail := goodIn_r _ [20, 1, 21, 22, 23, 24, 25, 26, 27, 28, 29, 30, 31] (by decide +kernel) (by decide +kernel)
set_option maxRecDepth 20000 in
theorem gX8_ration_X8_fail : GoodIn wsX8_ration (wsV RX8 48 RX8 yX8_fail wsX8_fail) := goodIn_app (goodIn_of _ (by decide +kernel)) ggX8_ration_X8_fail
theorem dX8_ration_0 : decode cX8_ration 0 = .ok (.aload_n 0, 1) := by decide +kernel
theorem dX8_ration_1 : decode cX8_ration 1 = .ok (.iconst 0, 1) := by decide +kernel
theorem dX8_ration_2 : decode cX8_ration 2 = .ok (.putfield 28, 3) := by decide +kernel
theorem dX8_ration_5 : decode cX8_ration 5 = .ok (.iload_n 1, 1) := by decide +kernel
theorem dX8_ration_6 : decode cX8_ration 6 = .ok (.iconst 0, 1) := by decide +kernel
theorem dX8_ration_7 : decode cX8_ration 7 = .ok (.aload_n 0, 1) := by decide +kernel
theorem dX8_ration_8 : decode cX8_ration 8 = .ok (.getfield 59, 3) := by decide +kernel
theorem dX8_ration_11 : decode cX8_ration 11 = .ok (.iconst 1, 1) := by decide +kernel
theorem dX8_ration_12 : decode cX8_ration 12 = .ok (.isub, 1) := by decide +kernel
theorem dX8_ration_13 : decode cX8_ration 13 = .ok (.invokestatic 35, 3) := by decide +kernel
theorem dX8_ration_16 : decode cX8_ration 16 = .ok (.ifCond .eq 21, 3) := by decide +kernel
theorem dX8_ration_19 : decode cX8_ration 19 = .ok (.iload_n 2, 1) := by decide +kernel
theorem dX8_ration_20 : decode cX8_ration 20 = .ok (.iconst 0, 1) := by decide +kernel
theorem dX8_ration_21 : decode cX8_ration 21 = .ok (.iconst 4, 1) := by decide +kernel
theorem dX8_ration_22 : decode cX8_ration 22 = .ok (.invokestatic 35, 3) := by decide +kernel
theorem dX8_ration_25 : decode cX8_ration 25 = .ok (.ifCond .eq 12, 3) := by decide +kernel
theorem dX8_ration_28 : decode cX8_ration 28 = .ok (.aload_n 0, 1) := by decide +kernel
theorem dX8_ration_29 : decode cX8_ration 29 = .ok (.iload_n 1, 1) := by decide +kernel
theorem dX8_ration_30 : decode cX8_ration 30 = .ok (.iload_n 2, 1) := by decide +kernel
theorem dX8_ration_31 : decode cX8_ration 31 = .ok (.invokevirtual 113, 3) := by decide +kernel
theorem dX8_ration_34 : decode cX8_ration 34 = .ok (.goto 8, 3) := by decide +kernel
theorem dX8_ration_37 : decode cX8_ration 37 = .ok (.aload_n 0, 1) := by decide +kernel
theorem dX8_ration_38 : decode cX8_ration 38 = .ok (.iconst 1, 1) := by decide +kernel
theorem dX8_ration_39 : decode cX8_ration 39 = .ok (.invokevirtual 48, 3) := by decide +kernel
theorem dX8_ration_42 : decode cX8_ration 42 = .ok (.ireturn, 1) := by decide +kernel
set_option maxRecDepth 20000 in
theorem ggX8_count_X8_isIn : GoodIn wsX8_count wsX8_isIn := goodIn_r _ [6] (by decide +kernel) (by decide +kernel)
set_option maxRecDepth 20000 in
theorem gX8_count_X8_isIn : GoodIn wsX8_count (va_wsS RX8 35 yX8_isIn wsX8_isIn) := goodIn_app (goodIn_of _ (by decide +kernel)) ggX8_count_X8_isIn
set_option maxRecDepth 20000 in
theorem ggX8_count_X8_fail : GoodIn wsX8_count wsX8_fail := goodIn_r _ [10, 1, 11, 12, 13, 14, 15, 16, 17, 18, 19, 20, 21] (by decide +kernel) (by decide +kernel)
set_option maxRecDepth 20000 in
theorem gX8_count_X8_fail : GoodIn wsX8_count (wsV RX8 48 RX8 yX8_fail wsX8_fail) := goodIn_app (goodIn_of _ (by decide +kernel)) ggX8_count_X8_fail
theorem dX8_count_0 : decode cX8_count 0 = .ok (.aload_n 0, 1) := by decide +kernel
theorem dX8_count_1 : decode cX8_count 1 = .ok (.iconst 0, 1) := by decide +kernel
theorem dX8_count_2 : decode cX8_count 2 = .ok (.putfield 28, 3) := by decide +kernel
theorem dX8_count_5 : decode cX8_count 5 = .ok (.iload_n 1, 1) := by decide +kernel
theorem dX8_count_6 : decode cX8_count 6 = .ok (.iconst 0, 1) := by decide +kernel
theorem dX8_count_7 : decode cX8_count 7 = .ok (.bipush 8, 2) := by decide +kernel
theorem dX8_count_9 : decode cX8_count 9 = .ok (.invokestatic 35, 3) := by decide +kernel
theorem dX8_count_12 : decode cX8_count 12 = .ok (.ifCond .eq 12, 3) := by decide +kernel
theorem dX8_count_15 : decode cX8_count 15 = .ok (.aload_n 0, 1) := by decide +kernel
theorem dX8_count_16 : decode cX8_count 16 = .ok (.getfield 22, 3) := by decide +kernel
theorem dX8_count_19 : decode cX8_count 19 = .ok (.iload_n 1, 1) := by decide +kernel
theorem dX8_count_20 : decode cX8_count 20 = .ok (.iaload, 1) := by decide +kernel
theorem dX8_count_21 : decode cX8_count 21 = .ok (.goto 8, 3) := by decide +kernel
theorem dX8_count_24 : decode cX8_count 24 = .ok (.aload_n 0, 1) := by decide +kernel
theorem dX8_count_25 : decode cX8_count 25 = .ok (.iconst 1, 1) := by decide +kernel
theorem dX8_count_26 : decode cX8_count 26 = .ok (.invokevirtual 48, 3) := by decide +kernel
theorem dX8_count_29 : decode cX8_count 29 = .ok (.ireturn, 1) := by decide +kernel
theorem dX8_isPatrol_0 : decode cX8_isPatrol 0 = .ok (.aload_n 0, 1) := by decide +kernel
theorem dX8_isPatrol_1 : decode cX8_isPatrol 1 = .ok (.getfield 22, 3) := by decide +kernel
theorem dX8_isPatrol_4 : decode cX8_isPatrol 4 = .ok (.bipush 8, 2) := by decide +kernel
theorem dX8_isPatrol_6 : decode cX8_isPatrol 6 = .ok (.iaload, 1) := by decide +kernel
theorem dX8_isPatrol_7 : decode cX8_isPatrol 7 = .ok (.iload_n 1, 1) := by decide +kernel
theorem dX8_isPatrol_8 : decode cX8_isPatrol 8 = .ok (.bipush 7, 2) := by decide +kernel
theorem dX8_isPatrol_10 : decode cX8_isPatrol 10 = .ok (.irem, 1) := by decide +kernel
theorem dX8_isPatrol_11 : decode cX8_isPatrol 11 = .ok (.ishr, 1) := by decide +kernel
theorem dX8_isPatrol_12 : decode cX8_isPatrol 12 = .ok (.iconst 1, 1) := by decide +kernel
theorem dX8_isPatrol_13 : decode cX8_isPatrol 13 = .ok (.iand, 1) := by decide +kernel
theorem dX8_isPatrol_14 : decode cX8_isPatrol 14 = .ok (.iconst 1, 1) := by decide +kernel
theorem dX8_isPatrol_15 : decode cX8_isPatrol 15 = .ok (.if_icmp .ne 7, 3) := by decide +kernel
theorem dX8_isPatrol_18 : decode cX8_isPatrol 18 = .ok (.iconst 1, 1) := by decide +kernel
theorem dX8_isPatrol_19 : decode cX8_isPatrol 19 = .ok (.goto 4, 3) := by decide +kernel
theorem dX8_isPatrol_22 : decode cX8_isPatrol 22 = .ok (.iconst 0, 1) := by decide +kernel
theorem dX8_isPatrol_23 : decode cX8_isPatrol 23 = .ok (.ireturn, 1) := by decide +kernel
set_option maxRecDepth 20000 in
theorem ggX8_goOn_X8_sm : GoodIn wsX8_goOn wsX8_sm := goodIn_r _ [7, 2, 16, 17, 18, 19, 20, 21, 22, 23, 24, 25, 26] (by decide +kernel) (by decide +kernel)
set_option maxRecDepth 20000 in
theorem gX8_goOn_X8_sm : GoodIn wsX8_goOn (wsV RX8 95 RX8 yX8_sm wsX8_sm) := goodIn_app (goodIn_of _ (by decide +kernel)) ggX8_goOn_X8_sm
set_option maxRecDepth 20000 in
theorem ggX8_goOn_X8_isPatrol : GoodIn wsX8_goOn wsX8_isPatrol := goodIn_r _ [11, 2, 16, 17, 18, 19, 20, 21, 22, 23, 24, 25, 26] (by decide +kernel) (by decide +kernel)
set_option maxRecDepth 20000 in
theorem gX8_goOn_X8_isPatrol : GoodIn wsX8_goOn (wsV RX8 116 RX8 yX8_isPatrol wsX8_isPatrol) := goodIn_app (goodIn_of _ (by decide +kernel)) ggX8_goOn_X8_isPatrol
set_option maxRecDepth 20000 in
theorem ggX8_goOn_X8_letSmuggler : GoodIn wsX8_goOn wsX8_letSmuggler := goodIn_r _ [15, 2, 16, 17, 18, 19, 20, 21, 22, 23, 24, 25, 26] (by decide +kernel) (by decide +kernel)
set_option maxRecDepth 20000 in
theorem gX8_goOn_X8_letSmuggler : GoodIn wsX8_goOn (wsV RX8 98 RX8 yX8_letSmuggler wsX8_letSmuggler) := goodIn_app (goodIn_of _ (by decide +kernel)) ggX8_goOn_X8_letSmuggler
theorem dX8_goOn_0 : decode cX8_goOn 0 = .ok (.aload_n 0, 1) := by decide +kernel
theorem dX8_goOn_1 : decode cX8_goOn 1 = .ok (.iload_n 1, 1) := by decide +kernel
theorem dX8_goOn_2 : decode cX8_goOn 2 = .ok (.iconst 0, 1) := by decide +kernel
theorem dX8_goOn_3 : decode cX8_goOn 3 = .ok (.invokevirtual 95, 3) := by decide +kernel
theorem dX8_goOn_6 : decode cX8_goOn 6 = .ok (.istore_n 2, 1) := by decide +kernel
theorem dX8_goOn_7 : decode cX8_goOn 7 = .ok (.aload_n 0, 1) := by decide +kernel
theorem dX8_goOn_8 : decode cX8_goOn 8 = .ok (.iload_n 1, 1) := by decide +kernel
theorem dX8_goOn_9 : decode cX8_goOn 9 = .ok (.iconst 1, 1) := by decide +kernel
theorem dX8_goOn_10 : decode cX8_goOn 10 = .ok (.invokevirtual 95, 3) := by decide +kernel
theorem dX8_goOn_13 : decode cX8_goOn 13 = .ok (.iconst 1, 1) := by decide +kernel
theorem dX8_goOn_14 : decode cX8_goOn 14 = .ok (.isub, 1) := by decide +kernel
theorem dX8_goOn_15 : decode cX8_goOn 15 = .ok (.istore_n 3, 1) := by decide +kernel
theorem dX8_goOn_16 : decode cX8_goOn 16 = .ok (.iload_n 2, 1) := by decide +kernel
theorem dX8_goOn_17 : decode cX8_goOn 17 = .ok (.iconst 1, 1) := by decide +kernel
theorem dX8_goOn_18 : decode cX8_goOn 18 = .ok (.if_icmp .ne 56, 3) := by decide +kernel
theorem dX8_goOn_21 : decode cX8_goOn 21 = .ok (.iload_n 3, 1) := by decide +kernel
theorem dX8_goOn_22 : decode cX8_goOn 22 = .ok (.aload_n 0, 1) := by decide +kernel
theorem dX8_goOn_23 : decode cX8_goOn 23 = .ok (.getfield 16, 3) := by decide +kernel
theorem dX8_goOn_26 : decode cX8_goOn 26 = .ok (.iconst 2, 1) := by decide +kernel
theorem dX8_goOn_27 : decode cX8_goOn 27 = .ok (.iload_n 1, 1) := by decide +kernel
theorem dX8_goOn_28 : decode cX8_goOn 28 = .ok (.imul, 1) := by decide +kernel
theorem dX8_goOn_29 : decode cX8_goOn 29 = .ok (.iaload, 1) := by decide +kernel
theorem dX8_goOn_30 : decode cX8_goOn 30 = .ok (.iconst 2, 1) := by decide +kernel
theorem dX8_goOn_31 : decode cX8_goOn 31 = .ok (.idiv, 1) := by decide +kernel
theorem dX8_goOn_32 : decode cX8_goOn 32 = .ok (.if_icmp .ne 42, 3) := by decide +kernel
theorem dX8_goOn_35 : decode cX8_goOn 35 = .ok (.aload_n 0, 1) := by decide +kernel
theorem dX8_goOn_36 : decode cX8_goOn 36 = .ok (.aload_n 0, 1) := by decide +kernel
theorem dX8_goOn_37 : decode cX8_goOn 37 = .ok (.getfield 22, 3) := by decide +kernel
theorem dX8_goOn_40 : decode cX8_goOn 40 = .ok (.iconst 0, 1) := by decide +kernel
theorem dX8_goOn_41 : decode cX8_goOn 41 = .ok (.iaload, 1) := by decide +kernel
theorem dX8_goOn_42 : decode cX8_goOn 42 = .ok (.invokevirtual 116, 3) := by decide +kernel
theorem dX8_goOn_45 : decode cX8_goOn 45 = .ok (.ifCond .eq 29, 3) := by decide +kernel
theorem dX8_goOn_48 : decode cX8_goOn 48 = .ok (.aload_n 0, 1) := by decide +kernel
theorem dX8_goOn_49 : decode cX8_goOn 49 = .ok (.iload_n 1, 1) := by decide +kernel
theorem dX8_goOn_50 : decode cX8_goOn 50 = .ok (.iconst 2, 1) := by decide +kernel
theorem dX8_goOn_51 : decode cX8_goOn 51 = .ok (.bipush 10, 2) := by decide +kernel
theorem dX8_goOn_53 : decode cX8_goOn 53 = .ok (.invokevirtual 98, 3) := by decide +kernel
theorem dX8_goOn_56 : decode cX8_goOn 56 = .ok (.aload_n 0, 1) := by decide +kernel
theorem dX8_goOn_57 : decode cX8_goOn 57 = .ok (.getfield 22, 3) := by decide +kernel
theorem dX8_goOn_60 : decode cX8_goOn 60 = .ok (.bipush 30, 2) := by decide +kernel
theorem dX8_goOn_62 : decode cX8_goOn 62 = .ok (.iconst 3, 1) := by decide +kernel
theorem dX8_goOn_63 : decode cX8_goOn 63 = .ok (.iload_n 1, 1) := by decide +kernel
theorem dX8_goOn_64 : decode cX8_goOn 64 = .ok (.imul, 1) := by decide +kernel
theorem dX8_goOn_65 : decode cX8_goOn 65 = .ok (.iadd, 1) := by decide +kernel
theorem dX8_goOn_66 : decode cX8_goOn 66 = .ok (.iconst 2, 1) := by decide +kernel
theorem dX8_goOn_67 : decode cX8_goOn 67 = .ok (.iadd, 1) := by decide +kernel
theorem dX8_goOn_68 : decode cX8_goOn 68 = .ok (.dup2, 1) := by decide +kernel
theorem dX8_goOn_69 : decode cX8_goOn 69 = .ok (.iaload, 1) := by decide +kernel
theorem dX8_goOn_70 : decode cX8_goOn 70 = .ok (.iconst 1, 1) := by decide +kernel
theorem dX8_goOn_71 : decode cX8_goOn 71 = .ok (.iadd, 1) := by decide +kernel
theorem dX8_goOn_72 : decode cX8_goOn 72 = .ok (.iastore, 1) := by decide +kernel
theorem dX8_goOn_73 : decode cX8_goOn 73 = .ok (.return_, 1) := by decide +kernel
theorem dX8_goOn_74 : decode cX8_goOn 74 = .ok (.aload_n 0, 1) := by decide +kernel
theorem dX8_goOn_75 : decode cX8_goOn 75 = .ok (.iload_n 1, 1) := by decide +kernel
theorem dX8_goOn_76 : decode cX8_goOn 76 = .ok (.iload_n 3, 1) := by decide +kernel
theorem dX8_goOn_77 : decode cX8_goOn 77 = .ok (.ifCond .ne 7, 3) := by decide +kernel
theorem dX8_goOn_80 : decode cX8_goOn 80 = .ok (.iconst 0, 1) := by decide +kernel
theorem dX8_goOn_81 : decode cX8_goOn 81 = .ok (.goto 4, 3) := by decide +kernel
theorem dX8_goOn_84 : decode cX8_goOn 84 = .ok (.iload_n 2, 1) := by decide +kernel
theorem dX8_goOn_85 : decode cX8_goOn 85 = .ok (.iload_n 3, 1) := by decide +kernel
theorem dX8_goOn_86 : decode cX8_goOn 86 = .ok (.invokevirtual 98, 3) := by decide +kernel
theorem dX8_goOn_89 : decode cX8_goOn 89 = .ok (.iload_n 3, 1) := by decide +kernel
theorem dX8_goOn_90 : decode cX8_goOn 90 = .ok (.ifCond .ne 27, 3) := by decide +kernel
theorem dX8_goOn_93 : decode cX8_goOn 93 = .ok (.iload_n 2, 1) := by decide +kernel
theorem dX8_goOn_94 : decode cX8_goOn 94 = .ok (.iconst 1, 1) := by decide +kernel
theorem dX8_goOn_95 : decode cX8_goOn 95 = .ok (.if_icmp .ne 22, 3) := by decide +kernel
theorem dX8_goOn_98 : decode cX8_goOn 98 = .ok (.aload_n 0, 1) := by decide +kernel
theorem dX8_goOn_99 : decode cX8_goOn 99 = .ok (.getfield 22, 3) := by decide +kernel
theorem dX8_goOn_102 : decode cX8_goOn 102 = .ok (.iconst 2, 1) := by decide +kernel
theorem dX8_goOn_103 : decode cX8_goOn 103 = .ok (.dup2, 1) := by decide +kernel
theorem dX8_goOn_104 : decode cX8_goOn 104 = .ok (.iaload, 1) := by decide +kernel
theorem dX8_goOn_105 : decode cX8_goOn 105 = .ok (.aload_n 0, 1) := by decide +kernel
theorem dX8_goOn_106 : decode cX8_goOn 106 = .ok (.getfield 16, 3) := by decide +kernel
theorem dX8_goOn_109 : decode cX8_goOn 109 = .ok (.iconst 2, 1) := by decide +kernel
theorem dX8_goOn_110 : decode cX8_goOn 110 = .ok (.iload_n 1, 1) := by decide +kernel
theorem dX8_goOn_111 : decode cX8_goOn 111 = .ok (.imul, 1) := by decide +kernel
theorem dX8_goOn_112 : decode cX8_goOn 112 = .ok (.iconst 1, 1) := by decide +kernel
theorem dX8_goOn_113 : decode cX8_goOn 113 = .ok (.iadd, 1) := by decide +kernel
theorem dX8_goOn_114 : decode cX8_goOn 114 = .ok (.iaload, 1) := by decide +kernel
theorem dX8_goOn_115 : decode cX8_goOn 115 = .ok (.iadd, 1) := by decide +kernel
theorem dX8_goOn_116 : decode cX8_goOn 116 = .ok (.iastore, 1) := by decide +kernel
theorem dX8_goOn_117 : decode cX8_goOn 117 = .ok (.return_, 1) := by decide +kernel
set_option maxRecDepth 20000 in
theorem ggX8_serve_X8_ca : GoodIn wsX8_serve wsX8_ca := goodIn_r _ [11, 1, 16, 17, 18, 19, 20, 21, 22, 23, 24, 25, 26] (by decide +kernel) (by decide +kernel)
set_option maxRecDepth 20000 in
theorem gX8_serve_X8_ca : GoodIn wsX8_serve (wsV RX8 110 RX8 yX8_ca wsX8_ca) := goodIn_app (goodIn_of _ (by decide +kernel)) ggX8_serve_X8_ca
set_option maxRecDepth 20000 in
theorem ggX8_serve_X8_moreCard : GoodIn wsX8_serve wsX8_moreCard := goodIn_r _ [15, 1, 16, 17, 18, 19, 20, 21, 22, 23, 24, 25, 26] (by decide +kernel) (by decide +kernel)
set_option maxRecDepth 20000 in
theorem gX8_serve_X8_moreCard : GoodIn wsX8_serve (wsV RX8 62 RX8 yX8_moreCard wsX8_moreCard) := goodIn_app (goodIn_of _ (by decide +kernel)) ggX8_serve_X8_moreCard
theorem dX8_serve_0 : decode cX8_serve 0 = .ok (.aload_n 0, 1) := by decide +kernel
theorem dX8_serve_1 : decode cX8_serve 1 = .ok (.getfield 22, 3) := by decide +kernel
theorem dX8_serve_4 : decode cX8_serve 4 = .ok (.bipush 7, 2) := by decide +kernel
theorem dX8_serve_6 : decode cX8_serve 6 = .ok (.iaload, 1) := by decide +kernel
theorem dX8_serve_7 : decode cX8_serve 7 = .ok (.aload_n 0, 1) := by decide +kernel
theorem dX8_serve_8 : decode cX8_serve 8 = .ok (.getfield 22, 3) := by decide +kernel
theorem dX8_serve_11 : decode cX8_serve 11 = .ok (.iconst 4, 1) := by decide +kernel
theorem dX8_serve_12 : decode cX8_serve 12 = .ok (.iaload, 1) := by decide +kernel
theorem dX8_serve_13 : decode cX8_serve 13 = .ok (.invokestatic 119, 3) := by decide +kernel
theorem dX8_serve_16 : decode cX8_serve 16 = .ok (.istore_n 2, 1) := by decide +kernel
theorem dX8_serve_17 : decode cX8_serve 17 = .ok (.aload_n 0, 1) := by decide +kernel
theorem dX8_serve_18 : decode cX8_serve 18 = .ok (.iload_n 1, 1) := by decide +kernel
theorem dX8_serve_19 : decode cX8_serve 19 = .ok (.iconst 0, 1) := by decide +kernel
theorem dX8_serve_20 : decode cX8_serve 20 = .ok (.invokevirtual 110, 3) := by decide +kernel
theorem dX8_serve_23 : decode cX8_serve 23 = .ok (.ifCond .eq 16, 3) := by decide +kernel
theorem dX8_serve_26 : decode cX8_serve 26 = .ok (.aload_n 0, 1) := by decide +kernel
theorem dX8_serve_27 : decode cX8_serve 27 = .ok (.getfield 22, 3) := by decide +kernel
theorem dX8_serve_30 : decode cX8_serve 30 = .ok (.iconst 3, 1) := by decide +kernel
theorem dX8_serve_31 : decode cX8_serve 31 = .ok (.iaload, 1) := by decide +kernel
theorem dX8_serve_32 : decode cX8_serve 32 = .ok (.bipush 10, 2) := by decide +kernel
theorem dX8_serve_34 : decode cX8_serve 34 = .ok (.iload_n 2, 1) := by decide +kernel
theorem dX8_serve_35 : decode cX8_serve 35 = .ok (.isub, 1) := by decide +kernel
theorem dX8_serve_36 : decode cX8_serve 36 = .ok (.if_icmp .ge 5, 3) := by decide +kernel
theorem dX8_serve_39 : decode cX8_serve 39 = .ok (.iconst 0, 1) := by decide +kernel
theorem dX8_serve_40 : decode cX8_serve 40 = .ok (.ireturn, 1) := by decide +kernel
theorem dX8_serve_41 : decode cX8_serve 41 = .ok (.iload_n 2, 1) := by decide +kernel
theorem dX8_serve_42 : decode cX8_serve 42 = .ok (.aload_n 0, 1) := by decide +kernel
theorem dX8_serve_43 : decode cX8_serve 43 = .ok (.getfield 19, 3) := by decide +kernel
theorem dX8_serve_46 : decode cX8_serve 46 = .ok (.iconst 2, 1) := by decide +kernel
theorem dX8_serve_47 : decode cX8_serve 47 = .ok (.iload_n 1, 1) := by decide +kernel
theorem dX8_serve_48 : decode cX8_serve 48 = .ok (.imul, 1) := by decide +kernel
theorem dX8_serve_49 : decode cX8_serve 49 = .ok (.iconst 1, 1) := by decide +kernel
theorem dX8_serve_50 : decode cX8_serve 50 = .ok (.iadd, 1) := by decide +kernel
theorem dX8_serve_51 : decode cX8_serve 51 = .ok (.iaload, 1) := by decide +kernel
theorem dX8_serve_52 : decode cX8_serve 52 = .ok (.if_icmp .ge 12, 3) := by decide +kernel
theorem dX8_serve_55 : decode cX8_serve 55 = .ok (.aload_n 0, 1) := by decide +kernel
theorem dX8_serve_56 : decode cX8_serve 56 = .ok (.iload_n 1, 1) := by decide +kernel
theorem dX8_serve_57 : decode cX8_serve 57 = .ok (.iconst 2, 1) := by decide +kernel
theorem dX8_serve_58 : decode cX8_serve 58 = .ok (.iconst 1, 1) := by decide +kernel
theorem dX8_serve_59 : decode cX8_serve 59 = .ok (.invokevirtual 62, 3) := by decide +kernel
theorem dX8_serve_62 : decode cX8_serve 62 = .ok (.iconst 0, 1) := by decide +kernel
theorem dX8_serve_63 : decode cX8_serve 63 = .ok (.ireturn, 1) := by decide +kernel
theorem dX8_serve_64 : decode cX8_serve 64 = .ok (.aload_n 0, 1) := by decide +kernel
theorem dX8_serve_65 : decode cX8_serve 65 = .ok (.getfield 22, 3) := by decide +kernel
theorem dX8_serve_68 : decode cX8_serve 68 = .ok (.iconst 4, 1) := by decide +kernel
theorem dX8_serve_69 : decode cX8_serve 69 = .ok (.dup2, 1) := by decide +kernel
theorem dX8_serve_70 : decode cX8_serve 70 = .ok (.iaload, 1) := by decide +kernel
theorem dX8_serve_71 : decode cX8_serve 71 = .ok (.iload_n 2, 1) := by decide +kernel
theorem dX8_serve_72 : decode cX8_serve 72 = .ok (.isub, 1) := by decide +kernel
theorem dX8_serve_73 : decode cX8_serve 73 = .ok (.iastore, 1) := by decide +kernel
theorem dX8_serve_74 : decode cX8_serve 74 = .ok (.aload_n 0, 1) := by decide +kernel
theorem dX8_serve_75 : decode cX8_serve 75 = .ok (.getfield 22, 3) := by decide +kernel
theorem dX8_serve_78 : decode cX8_serve 78 = .ok (.iconst 3, 1) := by decide +kernel
theorem dX8_serve_79 : decode cX8_serve 79 = .ok (.dup2, 1) := by decide +kernel
theorem dX8_serve_80 : decode cX8_serve 80 = .ok (.iaload, 1) := by decide +kernel
theorem dX8_serve_81 : decode cX8_serve 81 = .ok (.bipush 10, 2) := by decide +kernel
theorem dX8_serve_83 : decode cX8_serve 83 = .ok (.iload_n 2, 1) := by decide +kernel
theorem dX8_serve_84 : decode cX8_serve 84 = .ok (.isub, 1) := by decide +kernel
theorem dX8_serve_85 : decode cX8_serve 85 = .ok (.isub, 1) := by decide +kernel
theorem dX8_serve_86 : decode cX8_serve 86 = .ok (.iastore, 1) := by decide +kernel
theorem dX8_serve_87 : decode cX8_serve 87 = .ok (.aload_n 0, 1) := by decide +kernel
theorem dX8_serve_88 : decode cX8_serve 88 = .ok (.getfield 22, 3) := by decide +kernel
theorem dX8_serve_91 : decode cX8_serve 91 = .ok (.iconst 5, 1) := by decide +kernel
theorem dX8_serve_92 : decode cX8_serve 92 = .ok (.dup2, 1) := by decide +kernel
theorem dX8_serve_93 : decode cX8_serve 93 = .ok (.iaload, 1) := by decide +kernel
theorem dX8_serve_94 : decode cX8_serve 94 = .ok (.iconst 1, 1) := by decide +kernel
theorem dX8_serve_95 : decode cX8_serve 95 = .ok (.iadd, 1) := by decide +kernel
theorem dX8_serve_96 : decode cX8_serve 96 = .ok (.iastore, 1) := by decide +kernel
theorem dX8_serve_97 : decode cX8_serve 97 = .ok (.aload_n 0, 1) := by decide +kernel
theorem dX8_serve_98 : decode cX8_serve 98 = .ok (.getfield 22, 3) := by decide +kernel
theorem dX8_serve_101 : decode cX8_serve 101 = .ok (.bipush 6, 2) := by decide +kernel
theorem dX8_serve_103 : decode cX8_serve 103 = .ok (.dup2, 1) := by decide +kernel
theorem dX8_serve_104 : decode cX8_serve 104 = .ok (.iaload, 1) := by decide +kernel
theorem dX8_serve_105 : decode cX8_serve 105 = .ok (.iload_n 2, 1) := by decide +kernel
theorem dX8_serve_106 : decode cX8_serve 106 = .ok (.aload_n 0, 1) := by decide +kernel
theorem dX8_serve_107 : decode cX8_serve 107 = .ok (.getfield 22, 3) := by decide +kernel
theorem dX8_serve_110 : decode cX8_serve 110 = .ok (.bipush 7, 2) := by decide +kernel
theorem dX8_serve_112 : decode cX8_serve 112 = .ok (.iaload, 1) := by decide +kernel
theorem dX8_serve_113 : decode cX8_serve 113 = .ok (.if_icmp .ge 7, 3) := by decide +kernel
theorem dX8_serve_116 : decode cX8_serve 116 = .ok (.iconst 1, 1) := by decide +kernel
theorem dX8_serve_117 : decode cX8_serve 117 = .ok (.goto 4, 3) := by decide +kernel
theorem dX8_serve_120 : decode cX8_serve 120 = .ok (.iconst 0, 1) := by decide +kernel
theorem dX8_serve_121 : decode cX8_serve 121 = .ok (.iadd, 1) := by decide +kernel
theorem dX8_serve_122 : decode cX8_serve 122 = .ok (.iastore, 1) := by decide +kernel
theorem dX8_serve_123 : decode cX8_serve 123 = .ok (.aload_n 0, 1) := by decide +kernel
theorem dX8_serve_124 : decode cX8_serve 124 = .ok (.iload_n 1, 1) := by decide +kernel
theorem dX8_serve_125 : decode cX8_serve 125 = .ok (.iconst 0, 1) := by decide +kernel
theorem dX8_serve_126 : decode cX8_serve 126 = .ok (.iconst (-1), 1) := by decide +kernel
theorem dX8_serve_127 : decode cX8_serve 127 = .ok (.invokevirtual 62, 3) := by decide +kernel
theorem dX8_serve_130 : decode cX8_serve 130 = .ok (.aload_n 0, 1) := by decide +kernel
theorem dX8_serve_131 : decode cX8_serve 131 = .ok (.iload_n 1, 1) := by decide +kernel
theorem dX8_serve_132 : decode cX8_serve 132 = .ok (.iconst 1, 1) := by decide +kernel
theorem dX8_serve_133 : decode cX8_serve 133 = .ok (.iconst 1, 1) := by decide +kernel
theorem dX8_serve_134 : decode cX8_serve 134 = .ok (.invokevirtual 62, 3) := by decide +kernel
theorem dX8_serve_137 : decode cX8_serve 137 = .ok (.iconst 1, 1) := by decide +kernel
theorem dX8_serve_138 : decode cX8_serve 138 = .ok (.ireturn, 1) := by decide +kernel
set_option maxRecDepth 20000 in
theorem ggX8_dayOn_X8_sm : GoodIn wsX8_dayOn wsX8_sm := goodIn_r _ [17, 9, 51, 52, 53, 54, 55, 56, 57, 58, 59, 60, 61] (by decide +kernel) (by decide +kernel)
set_option maxRecDepth 20000 in
theorem gX8_dayOn_X8_sm : GoodIn wsX8_dayOn (wsV RX8 95 RX8 yX8_sm wsX8_sm) := goodIn_app (goodIn_of _ (by decide +kernel)) ggX8_dayOn_X8_sm
set_option maxRecDepth 20000 in
theorem ggX8_dayOn_X8_goOn : GoodIn wsX8_dayOn wsX8_goOn := goodIn_r _ [21, 22, 9, 13, 14, 15, 16, 17, 23, 24, 25, 26, 27, 28, 29, 30, 51, 52, 53, 54, 55, 56, 57, 58, 59, 60, 61] (by decide +kernel) (by decide +kernel)
set_option maxRecDepth 20000 in
theorem gX8_dayOn_X8_goOn : GoodIn wsX8_dayOn (wsV RX8 124 RX8 yX8_goOn wsX8_goOn) := goodIn_app (goodIn_of _ (by decide +kernel)) ggX8_dayOn_X8_goOn
set_option maxRecDepth 20000 in
theorem ggX8_dayOn_X8_dr : GoodIn wsX8_dayOn wsX8_dr := goodIn_r _ [34, 9, 51, 52, 53, 54, 55, 56, 57, 58, 59, 60, 61] (by decide +kernel) (by decide +kernel)
set_option maxRecDepth 20000 in
theorem gX8_dayOn_X8_dr : GoodIn wsX8_dayOn (wsV RX8 73 RX8 yX8_dr wsX8_dr) := goodIn_app (goodIn_of _ (by decide +kernel)) ggX8_dayOn_X8_dr
set_option maxRecDepth 20000 in
theorem ggX8_dayOn_X8_letDrum : GoodIn wsX8_dayOn wsX8_letDrum := goodIn_r _ [38, 9, 51, 52, 53, 54, 55, 56, 57, 58, 59, 60, 61] (by decide +kernel) (by decide +kernel)
set_option maxRecDepth 20000 in
theorem gX8_dayOn_X8_letDrum : GoodIn wsX8_dayOn (wsV RX8 55 RX8 yX8_letDrum wsX8_letDrum) := goodIn_app (goodIn_of _ (by decide +kernel)) ggX8_dayOn_X8_letDrum
set_option maxRecDepth 20000 in
theorem ggX8_dayOn_X8_serve : GoodIn wsX8_dayOn wsX8_serve := goodIn_r _ [42, 9, 4, 5, 6, 7, 12, 43, 44, 45, 16, 46, 47, 48, 49, 50, 51, 52, 53, 54, 55, 56, 57, 58, 59, 60, 61] (by decide +kernel) (by decide +kernel)
set_option maxRecDepth 20000 in
theorem gX8_dayOn_X8_serve : GoodIn wsX8_dayOn (wsV RX8 128 RX8 yX8_serve wsX8_serve) := goodIn_app (goodIn_of _ (by decide +kernel)) ggX8_dayOn_X8_serve
theorem dX8_dayOn_0 : decode cX8_dayOn 0 = .ok (.iconst 0, 1) := by decide +kernel
theorem dX8_dayOn_1 : decode cX8_dayOn 1 = .ok (.istore_n 1, 1) := by decide +kernel
theorem dX8_dayOn_2 : decode cX8_dayOn 2 = .ok (.iload_n 1, 1) := by decide +kernel
theorem dX8_dayOn_3 : decode cX8_dayOn 3 = .ok (.aload_n 0, 1) := by decide +kernel
theorem dX8_dayOn_4 : decode cX8_dayOn 4 = .ok (.getfield 39, 3) := by decide +kernel
theorem dX8_dayOn_7 : decode cX8_dayOn 7 = .ok (.if_icmp .ge 23, 3) := by decide +kernel
theorem dX8_dayOn_10 : decode cX8_dayOn 10 = .ok (.aload_n 0, 1) := by decide +kernel
theorem dX8_dayOn_11 : decode cX8_dayOn 11 = .ok (.iload_n 1, 1) := by decide +kernel
theorem dX8_dayOn_12 : decode cX8_dayOn 12 = .ok (.iconst 0, 1) := by decide +kernel
theorem dX8_dayOn_13 : decode cX8_dayOn 13 = .ok (.invokevirtual 95, 3) := by decide +kernel
theorem dX8_dayOn_16 : decode cX8_dayOn 16 = .ok (.ifCond .eq 8, 3) := by decide +kernel
theorem dX8_dayOn_19 : decode cX8_dayOn 19 = .ok (.aload_n 0, 1) := by decide +kernel
theorem dX8_dayOn_20 : decode cX8_dayOn 20 = .ok (.iload_n 1, 1) := by decide +kernel
theorem dX8_dayOn_21 : decode cX8_dayOn 21 = .ok (.invokevirtual 124, 3) := by decide +kernel
theorem dX8_dayOn_24 : decode cX8_dayOn 24 = .ok (.iinc 1 1, 3) := by decide +kernel
theorem dX8_dayOn_27 : decode cX8_dayOn 27 = .ok (.goto (-25), 3) := by decide +kernel
theorem dX8_dayOn_30 : decode cX8_dayOn 30 = .ok (.iconst 0, 1) := by decide +kernel
theorem dX8_dayOn_31 : decode cX8_dayOn 31 = .ok (.istore_n 1, 1) := by decide +kernel
theorem dX8_dayOn_32 : decode cX8_dayOn 32 = .ok (.iload_n 1, 1) := by decide +kernel
theorem dX8_dayOn_33 : decode cX8_dayOn 33 = .ok (.aload_n 0, 1) := by decide +kernel
theorem dX8_dayOn_34 : decode cX8_dayOn 34 = .ok (.getfield 32, 3) := by decide +kernel
theorem dX8_dayOn_37 : decode cX8_dayOn 37 = .ok (.if_icmp .ge 51, 3) := by decide +kernel
theorem dX8_dayOn_40 : decode cX8_dayOn 40 = .ok (.aload_n 0, 1) := by decide +kernel
theorem dX8_dayOn_41 : decode cX8_dayOn 41 = .ok (.iload_n 1, 1) := by decide +kernel
theorem dX8_dayOn_42 : decode cX8_dayOn 42 = .ok (.iconst 1, 1) := by decide +kernel
theorem dX8_dayOn_43 : decode cX8_dayOn 43 = .ok (.invokevirtual 73, 3) := by decide +kernel
theorem dX8_dayOn_46 : decode cX8_dayOn 46 = .ok (.iconst (-1), 1) := by decide +kernel
theorem dX8_dayOn_47 : decode cX8_dayOn 47 = .ok (.if_icmp .eq 35, 3) := by decide +kernel
theorem dX8_dayOn_50 : decode cX8_dayOn 50 = .ok (.aload_n 0, 1) := by decide +kernel
theorem dX8_dayOn_51 : decode cX8_dayOn 51 = .ok (.iload_n 1, 1) := by decide +kernel
theorem dX8_dayOn_52 : decode cX8_dayOn 52 = .ok (.iconst 3, 1) := by decide +kernel
theorem dX8_dayOn_53 : decode cX8_dayOn 53 = .ok (.getstatic 80, 3) := by decide +kernel
theorem dX8_dayOn_56 : decode cX8_dayOn 56 = .ok (.aload_n 0, 1) := by decide +kernel
theorem dX8_dayOn_57 : decode cX8_dayOn 57 = .ok (.iload_n 1, 1) := by decide +kernel
theorem dX8_dayOn_58 : decode cX8_dayOn 58 = .ok (.iconst 1, 1) := by decide +kernel
theorem dX8_dayOn_59 : decode cX8_dayOn 59 = .ok (.invokevirtual 73, 3) := by decide +kernel
theorem dX8_dayOn_62 : decode cX8_dayOn 62 = .ok (.iaload, 1) := by decide +kernel
theorem dX8_dayOn_63 : decode cX8_dayOn 63 = .ok (.aload_n 0, 1) := by decide +kernel
theorem dX8_dayOn_64 : decode cX8_dayOn 64 = .ok (.iload_n 1, 1) := by decide +kernel
theorem dX8_dayOn_65 : decode cX8_dayOn 65 = .ok (.iconst 3, 1) := by decide +kernel
theorem dX8_dayOn_66 : decode cX8_dayOn 66 = .ok (.invokevirtual 73, 3) := by decide +kernel
theorem dX8_dayOn_69 : decode cX8_dayOn 69 = .ok (.aload_n 0, 1) := by decide +kernel
theorem dX8_dayOn_70 : decode cX8_dayOn 70 = .ok (.iload_n 1, 1) := by decide +kernel
theorem dX8_dayOn_71 : decode cX8_dayOn 71 = .ok (.iconst 0, 1) := by decide +kernel
theorem dX8_dayOn_72 : decode cX8_dayOn 72 = .ok (.invokevirtual 73, 3) := by decide +kernel
theorem dX8_dayOn_75 : decode cX8_dayOn 75 = .ok (.iadd, 1) := by decide +kernel
theorem dX8_dayOn_76 : decode cX8_dayOn 76 = .ok (.invokestatic 119, 3) := by decide +kernel
theorem dX8_dayOn_79 : decode cX8_dayOn 79 = .ok (.invokevirtual 55, 3) := by decide +kernel
theorem dX8_dayOn_82 : decode cX8_dayOn 82 = .ok (.iinc 1 1, 3) := by decide +kernel
theorem dX8_dayOn_85 : decode cX8_dayOn 85 = .ok (.goto (-53), 3) := by decide +kernel
theorem dX8_dayOn_88 : decode cX8_dayOn 88 = .ok (.iconst 0, 1) := by decide +kernel
theorem dX8_dayOn_89 : decode cX8_dayOn 89 = .ok (.istore_n 1, 1) := by decide +kernel
theorem dX8_dayOn_90 : decode cX8_dayOn 90 = .ok (.iload_n 1, 1) := by decide +kernel
theorem dX8_dayOn_91 : decode cX8_dayOn 91 = .ok (.aload_n 0, 1) := by decide +kernel
theorem dX8_dayOn_92 : decode cX8_dayOn 92 = .ok (.getfield 52, 3) := by decide +kernel
theorem dX8_dayOn_95 : decode cX8_dayOn 95 = .ok (.if_icmp .ge 49, 3) := by decide +kernel
theorem dX8_dayOn_98 : decode cX8_dayOn 98 = .ok (.aload_n 0, 1) := by decide +kernel
theorem dX8_dayOn_99 : decode cX8_dayOn 99 = .ok (.getfield 22, 3) := by decide +kernel
theorem dX8_dayOn_102 : decode cX8_dayOn 102 = .ok (.bipush 10, 2) := by decide +kernel
theorem dX8_dayOn_104 : decode cX8_dayOn 104 = .ok (.iload_n 1, 1) := by decide +kernel
theorem dX8_dayOn_105 : decode cX8_dayOn 105 = .ok (.iadd, 1) := by decide +kernel
theorem dX8_dayOn_106 : decode cX8_dayOn 106 = .ok (.aload_n 0, 1) := by decide +kernel
theorem dX8_dayOn_107 : decode cX8_dayOn 107 = .ok (.getfield 9, 3) := by decide +kernel
theorem dX8_dayOn_110 : decode cX8_dayOn 110 = .ok (.iconst 2, 1) := by decide +kernel
theorem dX8_dayOn_111 : decode cX8_dayOn 111 = .ok (.iload_n 1, 1) := by decide +kernel
theorem dX8_dayOn_112 : decode cX8_dayOn 112 = .ok (.imul, 1) := by decide +kernel
theorem dX8_dayOn_113 : decode cX8_dayOn 113 = .ok (.iconst 1, 1) := by decide +kernel
theorem dX8_dayOn_114 : decode cX8_dayOn 114 = .ok (.iadd, 1) := by decide +kernel
theorem dX8_dayOn_115 : decode cX8_dayOn 115 = .ok (.iaload, 1) := by decide +kernel
theorem dX8_dayOn_116 : decode cX8_dayOn 116 = .ok (.aload_n 0, 1) := by decide +kernel
theorem dX8_dayOn_117 : decode cX8_dayOn 117 = .ok (.getfield 22, 3) := by decide +kernel
theorem dX8_dayOn_120 : decode cX8_dayOn 120 = .ok (.bipush 10, 2) := by decide +kernel
theorem dX8_dayOn_122 : decode cX8_dayOn 122 = .ok (.iload_n 1, 1) := by decide +kernel
theorem dX8_dayOn_123 : decode cX8_dayOn 123 = .ok (.iadd, 1) := by decide +kernel
theorem dX8_dayOn_124 : decode cX8_dayOn 124 = .ok (.iaload, 1) := by decide +kernel
theorem dX8_dayOn_125 : decode cX8_dayOn 125 = .ok (.aload_n 0, 1) := by decide +kernel
theorem dX8_dayOn_126 : decode cX8_dayOn 126 = .ok (.getfield 9, 3) := by decide +kernel
theorem dX8_dayOn_129 : decode cX8_dayOn 129 = .ok (.iconst 2, 1) := by decide +kernel
theorem dX8_dayOn_130 : decode cX8_dayOn 130 = .ok (.iload_n 1, 1) := by decide +kernel
theorem dX8_dayOn_131 : decode cX8_dayOn 131 = .ok (.imul, 1) := by decide +kernel
theorem dX8_dayOn_132 : decode cX8_dayOn 132 = .ok (.iaload, 1) := by decide +kernel
theorem dX8_dayOn_133 : decode cX8_dayOn 133 = .ok (.iadd, 1) := by decide +kernel
theorem dX8_dayOn_134 : decode cX8_dayOn 134 = .ok (.invokestatic 119, 3) := by decide +kernel
theorem dX8_dayOn_137 : decode cX8_dayOn 137 = .ok (.iastore, 1) := by decide +kernel
theorem dX8_dayOn_138 : decode cX8_dayOn 138 = .ok (.iinc 1 1, 3) := by decide +kernel
theorem dX8_dayOn_141 : decode cX8_dayOn 141 = .ok (.goto (-51), 3) := by decide +kernel
theorem dX8_dayOn_144 : decode cX8_dayOn 144 = .ok (.iconst 0, 1) := by decide +kernel
theorem dX8_dayOn_145 : decode cX8_dayOn 145 = .ok (.istore_n 1, 1) := by decide +kernel
theorem dX8_dayOn_146 : decode cX8_dayOn 146 = .ok (.iload_n 1, 1) := by decide +kernel
theorem dX8_dayOn_147 : decode cX8_dayOn 147 = .ok (.aload_n 0, 1) := by decide +kernel
theorem dX8_dayOn_148 : decode cX8_dayOn 148 = .ok (.getfield 59, 3) := by decide +kernel
theorem dX8_dayOn_151 : decode cX8_dayOn 151 = .ok (.if_icmp .ge 63, 3) := by decide +kernel
theorem dX8_dayOn_154 : decode cX8_dayOn 154 = .ok (.aload_n 0, 1) := by decide +kernel
theorem dX8_dayOn_155 : decode cX8_dayOn 155 = .ok (.getfield 22, 3) := by decide +kernel
theorem dX8_dayOn_158 : decode cX8_dayOn 158 = .ok (.iconst 0, 1) := by decide +kernel
theorem dX8_dayOn_159 : decode cX8_dayOn 159 = .ok (.iaload, 1) := by decide +kernel
theorem dX8_dayOn_160 : decode cX8_dayOn 160 = .ok (.bipush 7, 2) := by decide +kernel
theorem dX8_dayOn_162 : decode cX8_dayOn 162 = .ok (.irem, 1) := by decide +kernel
theorem dX8_dayOn_163 : decode cX8_dayOn 163 = .ok (.ifCond .ne 24, 3) := by decide +kernel
theorem dX8_dayOn_166 : decode cX8_dayOn 166 = .ok (.aload_n 0, 1) := by decide +kernel
theorem dX8_dayOn_167 : decode cX8_dayOn 167 = .ok (.getfield 22, 3) := by decide +kernel
theorem dX8_dayOn_170 : decode cX8_dayOn 170 = .ok (.bipush 42, 2) := by decide +kernel
theorem dX8_dayOn_172 : decode cX8_dayOn 172 = .ok (.iconst 3, 1) := by decide +kernel
theorem dX8_dayOn_173 : decode cX8_dayOn 173 = .ok (.iload_n 1, 1) := by decide +kernel
theorem dX8_dayOn_174 : decode cX8_dayOn 174 = .ok (.imul, 1) := by decide +kernel
theorem dX8_dayOn_175 : decode cX8_dayOn 175 = .ok (.iadd, 1) := by decide +kernel
theorem dX8_dayOn_176 : decode cX8_dayOn 176 = .ok (.iconst 0, 1) := by decide +kernel
theorem dX8_dayOn_177 : decode cX8_dayOn 177 = .ok (.iadd, 1) := by decide +kernel
theorem dX8_dayOn_178 : decode cX8_dayOn 178 = .ok (.aload_n 0, 1) := by decide +kernel
theorem dX8_dayOn_179 : decode cX8_dayOn 179 = .ok (.getfield 19, 3) := by decide +kernel
theorem dX8_dayOn_182 : decode cX8_dayOn 182 = .ok (.iconst 2, 1) := by decide +kernel
theorem dX8_dayOn_183 : decode cX8_dayOn 183 = .ok (.iload_n 1, 1) := by decide +kernel
theorem dX8_dayOn_184 : decode cX8_dayOn 184 = .ok (.imul, 1) := by decide +kernel
theorem dX8_dayOn_185 : decode cX8_dayOn 185 = .ok (.iaload, 1) := by decide +kernel
theorem dX8_dayOn_186 : decode cX8_dayOn 186 = .ok (.iastore, 1) := by decide +kernel
theorem dX8_dayOn_187 : decode cX8_dayOn 187 = .ok (.iconst 0, 1) := by decide +kernel
theorem dX8_dayOn_188 : decode cX8_dayOn 188 = .ok (.istore_n 2, 1) := by decide +kernel
theorem dX8_dayOn_189 : decode cX8_dayOn 189 = .ok (.iload_n 2, 1) := by decide +kernel
theorem dX8_dayOn_190 : decode cX8_dayOn 190 = .ok (.iconst 2, 1) := by decide +kernel
theorem dX8_dayOn_191 : decode cX8_dayOn 191 = .ok (.if_icmp .ge 17, 3) := by decide +kernel
theorem dX8_dayOn_194 : decode cX8_dayOn 194 = .ok (.aload_n 0, 1) := by decide +kernel
theorem dX8_dayOn_195 : decode cX8_dayOn 195 = .ok (.iload_n 1, 1) := by decide +kernel
theorem dX8_dayOn_196 : decode cX8_dayOn 196 = .ok (.invokevirtual 128, 3) := by decide +kernel
theorem dX8_dayOn_199 : decode cX8_dayOn 199 = .ok (.ifCond .eq 9, 3) := by decide +kernel
theorem dX8_dayOn_202 : decode cX8_dayOn 202 = .ok (.iinc 2 1, 3) := by decide +kernel
theorem dX8_dayOn_205 : decode cX8_dayOn 205 = .ok (.goto (-16), 3) := by decide +kernel
theorem dX8_dayOn_208 : decode cX8_dayOn 208 = .ok (.iinc 1 1, 3) := by decide +kernel
theorem dX8_dayOn_211 : decode cX8_dayOn 211 = .ok (.goto (-65), 3) := by decide +kernel
theorem dX8_dayOn_214 : decode cX8_dayOn 214 = .ok (.aload_n 0, 1) := by decide +kernel
theorem dX8_dayOn_215 : decode cX8_dayOn 215 = .ok (.getfield 22, 3) := by decide +kernel
theorem dX8_dayOn_218 : decode cX8_dayOn 218 = .ok (.iconst 0, 1) := by decide +kernel
theorem dX8_dayOn_219 : decode cX8_dayOn 219 = .ok (.dup2, 1) := by decide +kernel
theorem dX8_dayOn_220 : decode cX8_dayOn 220 = .ok (.iaload, 1) := by decide +kernel
theorem dX8_dayOn_221 : decode cX8_dayOn 221 = .ok (.iconst 1, 1) := by decide +kernel
theorem dX8_dayOn_222 : decode cX8_dayOn 222 = .ok (.iadd, 1) := by decide +kernel
theorem dX8_dayOn_223 : decode cX8_dayOn 223 = .ok (.iastore, 1) := by decide +kernel
theorem dX8_dayOn_224 : decode cX8_dayOn 224 = .ok (.return_, 1) := by decide +kernel
set_option maxRecDepth 20000 in
theorem ggX8_daysOn_X8_dayOn : GoodIn wsX8_daysOn wsX8_dayOn := goodIn_r _ [5, 6, 7, 8, 9, 10, 11, 12, 13, 14, 15, 16, 17, 18, 19, 20, 4, 21, 22, 23, 24, 25, 26, 27, 28, 29, 30, 31, 32, 33, 34, 35, 36, 37, 38, 39, 40, 41, 42, 43, 44, 45, 46, 47, 48, 49, 50, 51, 52, 53, 54, 55, 56, 57, 58, 59, 60, 61, 62, 63, 64, 65] (by decide +kernel) (by decide +kernel)
set_option maxRecDepth 20000 in
theorem gX8_daysOn_X8_dayOn : GoodIn wsX8_daysOn (wsV RX8 131 RX8 yX8_dayOn wsX8_dayOn) := goodIn_app (goodIn_of _ (by decide +kernel)) ggX8_daysOn_X8_dayOn
theorem dX8_daysOn_0 : decode cX8_daysOn 0 = .ok (.iconst 0, 1) := by decide +kernel
theorem dX8_daysOn_1 : decode cX8_daysOn 1 = .ok (.istore_n 2, 1) := by decide +kernel
theorem dX8_daysOn_2 : decode cX8_daysOn 2 = .ok (.iload_n 2, 1) := by decide +kernel
theorem dX8_daysOn_3 : decode cX8_daysOn 3 = .ok (.iload_n 1, 1) := by decide +kernel
theorem dX8_daysOn_4 : decode cX8_daysOn 4 = .ok (.if_icmp .ge 13, 3) := by decide +kernel
theorem dX8_daysOn_7 : decode cX8_daysOn 7 = .ok (.aload_n 0, 1) := by decide +kernel
theorem dX8_daysOn_8 : decode cX8_daysOn 8 = .ok (.invokevirtual 131, 3) := by decide +kernel
theorem dX8_daysOn_11 : decode cX8_daysOn 11 = .ok (.iinc 2 1, 3) := by decide +kernel
theorem dX8_daysOn_14 : decode cX8_daysOn 14 = .ok (.goto (-12), 3) := by decide +kernel
theorem dX8_daysOn_17 : decode cX8_daysOn 17 = .ok (.return_, 1) := by decide +kernel
set_option maxRecDepth 20000 in
theorem ggX8_pass_X8_isIn : GoodIn wsX8_pass wsX8_isIn := goodIn_r _ [6] (by decide +kernel) (by decide +kernel)
set_option maxRecDepth 20000 in
theorem gX8_pass_X8_isIn : GoodIn wsX8_pass (va_wsS RX8 35 yX8_isIn wsX8_isIn) := goodIn_app (goodIn_of _ (by decide +kernel)) ggX8_pass_X8_isIn
set_option maxRecDepth 20000 in
theorem ggX8_pass_X8_fail : GoodIn wsX8_pass wsX8_fail := goodIn_r _ [10, 1, 67, 68, 69, 70, 71, 72, 73, 74, 75, 76, 77] (by decide +kernel) (by decide +kernel)
set_option maxRecDepth 20000 in
theorem gX8_pass_X8_fail : GoodIn wsX8_pass (wsV RX8 48 RX8 yX8_fail wsX8_fail) := goodIn_app (goodIn_of _ (by decide +kernel)) ggX8_pass_X8_fail
set_option maxRecDepth 20000 in
theorem ggX8_pass_X8_daysOn : GoodIn wsX8_pass wsX8_daysOn := goodIn_r _ [14, 15, 16, 17, 5, 18, 19, 20, 21, 22, 23, 24, 25, 26, 2, 27, 28, 29, 30, 31, 32, 33, 34, 35, 36, 37, 38, 39, 40, 41, 42, 43, 44, 45, 46, 47, 48, 49, 50, 51, 52, 53, 54, 55, 56, 57, 58, 59, 60, 61, 62, 63, 64, 65, 66, 67, 68, 69, 70, 71, 72, 73, 74, 75, 76, 77] (by decide +kernel) (by decide +kernel)
set_option maxRecDepth 20000 in
theorem gX8_pass_X8_daysOn : GoodIn wsX8_pass (wsV RX8 134 RX8 yX8_daysOn wsX8_daysOn) := goodIn_app (goodIn_of _ (by decide +kernel)) ggX8_pass_X8_daysOn
theorem dX8_pass_0 : decode cX8_pass 0 = .ok (.aload_n 0, 1) := by decide +kernel
theorem dX8_pass_1 : decode cX8_pass 1 = .ok (.iconst 0, 1) := by decide +kernel
theorem dX8_pass_2 : decode cX8_pass 2 = .ok (.putfield 28, 3) := by decide +kernel
theorem dX8_pass_5 : decode cX8_pass 5 = .ok (.iload_n 1, 1) := by decide +kernel
theorem dX8_pass_6 : decode cX8_pass 6 = .ok (.iconst 1, 1) := by decide +kernel
theorem dX8_pass_7 : decode cX8_pass 7 = .ok (.bipush 60, 2) := by decide +kernel
theorem dX8_pass_9 : decode cX8_pass 9 = .ok (.invokestatic 35, 3) := by decide +kernel
theorem dX8_pass_12 : decode cX8_pass 12 = .ok (.ifCond .ne 9, 3) := by decide +kernel
theorem dX8_pass_15 : decode cX8_pass 15 = .ok (.aload_n 0, 1) := by decide +kernel
theorem dX8_pass_16 : decode cX8_pass 16 = .ok (.iconst 1, 1) := by decide +kernel
theorem dX8_pass_17 : decode cX8_pass 17 = .ok (.invokevirtual 48, 3) := by decide +kernel
theorem dX8_pass_20 : decode cX8_pass 20 = .ok (.ireturn, 1) := by decide +kernel
theorem dX8_pass_21 : decode cX8_pass 21 = .ok (.aload_n 0, 1) := by decide +kernel
theorem dX8_pass_22 : decode cX8_pass 22 = .ok (.getfield 22, 3) := by decide +kernel
theorem dX8_pass_25 : decode cX8_pass 25 = .ok (.iconst 5, 1) := by decide +kernel
theorem dX8_pass_26 : decode cX8_pass 26 = .ok (.iaload, 1) := by decide +kernel
theorem dX8_pass_27 : decode cX8_pass 27 = .ok (.istore_n 2, 1) := by decide +kernel
theorem dX8_pass_28 : decode cX8_pass 28 = .ok (.aload_n 0, 1) := by decide +kernel
theorem dX8_pass_29 : decode cX8_pass 29 = .ok (.iload_n 1, 1) := by decide +kernel
theorem dX8_pass_30 : decode cX8_pass 30 = .ok (.invokevirtual 134, 3) := by decide +kernel
theorem dX8_pass_33 : decode cX8_pass 33 = .ok (.aload_n 0, 1) := by decide +kernel
theorem dX8_pass_34 : decode cX8_pass 34 = .ok (.getfield 22, 3) := by decide +kernel
theorem dX8_pass_37 : decode cX8_pass 37 = .ok (.iconst 5, 1) := by decide +kernel
theorem dX8_pass_38 : decode cX8_pass 38 = .ok (.iaload, 1) := by decide +kernel
theorem dX8_pass_39 : decode cX8_pass 39 = .ok (.iload_n 2, 1) := by decide +kernel
theorem dX8_pass_40 : decode cX8_pass 40 = .ok (.isub, 1) := by decide +kernel
theorem dX8_pass_41 : decode cX8_pass 41 = .ok (.ireturn, 1) := by decide +kernel
set_option maxRecDepth 20000 in
theorem ggX8_behind_X8_daysOn : GoodIn wsX8_behind wsX8_daysOn := goodIn_r _ [6, 7, 8, 9, 5, 10, 11, 12, 13, 14, 15, 16, 17, 18, 1, 19, 20, 21, 22, 23, 24, 25, 26, 27, 28, 29, 30, 31, 32, 33, 34, 35, 36, 37, 38, 39, 40, 41, 42, 43, 44, 45, 46, 47, 48, 49, 50, 51, 52, 53, 54, 55, 56, 57, 58, 68, 69, 70, 71, 72, 73, 74, 75, 76, 77, 78] (by decide +kernel) (by decide +kernel)
set_option maxRecDepth 20000 in
theorem gX8_behind_X8_daysOn : GoodIn wsX8_behind (wsV RX8 134 RX8 yX8_daysOn wsX8_daysOn) := goodIn_app (goodIn_of _ (by decide +kernel)) ggX8_behind_X8_daysOn
set_option maxRecDepth 20000 in
theorem ggX8_behind_X8_bringBack : GoodIn wsX8_behind wsX8_bringBack := goodIn_r _ [62, 63, 1, 64, 65, 66, 67, 68, 69, 70, 71, 72, 73, 74, 75, 76, 77, 78] (by decide +kernel) (by decide +kernel)
set_option maxRecDepth 20000 in
theorem gX8_behind_X8_bringBack : GoodIn wsX8_behind (wsV RX8 137 RX8 yX8_bringBack wsX8_bringBack) := goodIn_app (goodIn_of _ (by decide +kernel)) ggX8_behind_X8_bringBack
theorem dX8_behind_0 : decode cX8_behind 0 = .ok (.aload_n 0, 1) := by decide +kernel
theorem dX8_behind_1 : decode cX8_behind 1 = .ok (.iload_n 1, 1) := by decide +kernel
theorem dX8_behind_2 : decode cX8_behind 2 = .ok (.invokevirtual 134, 3) := by decide +kernel
theorem dX8_behind_5 : decode cX8_behind 5 = .ok (.aload_n 0, 1) := by decide +kernel
theorem dX8_behind_6 : decode cX8_behind 6 = .ok (.getfield 22, 3) := by decide +kernel
theorem dX8_behind_9 : decode cX8_behind 9 = .ok (.iload_n 2, 1) := by decide +kernel
theorem dX8_behind_10 : decode cX8_behind 10 = .ok (.iaload, 1) := by decide +kernel
theorem dX8_behind_11 : decode cX8_behind 11 = .ok (.istore_n 3, 1) := by decide +kernel
theorem dX8_behind_12 : decode cX8_behind 12 = .ok (.aload_n 0, 1) := by decide +kernel
theorem dX8_behind_13 : decode cX8_behind 13 = .ok (.invokevirtual 137, 3) := by decide +kernel
theorem dX8_behind_16 : decode cX8_behind 16 = .ok (.iload_n 3, 1) := by decide +kernel
theorem dX8_behind_17 : decode cX8_behind 17 = .ok (.ireturn, 1) := by decide +kernel
set_option maxRecDepth 20000 in
theorem ggX8_foresee_X8_isIn : GoodIn wsX8_foresee wsX8_isIn := goodIn_r _ [5] (by decide +kernel) (by decide +kernel)
set_option maxRecDepth 20000 in
theorem gX8_foresee_X8_isIn : GoodIn wsX8_foresee (va_wsS RX8 35 yX8_isIn wsX8_isIn) := goodIn_app (goodIn_of _ (by decide +kernel)) ggX8_foresee_X8_isIn
set_option maxRecDepth 20000 in
theorem ggX8_foresee_X8_fail : GoodIn wsX8_foresee wsX8_fail := goodIn_r _ [9, 1, 84, 85, 86, 87, 88, 89, 90, 91, 92, 93, 94] (by decide +kernel) (by decide +kernel)
set_option maxRecDepth 20000 in
theorem gX8_foresee_X8_fail : GoodIn wsX8_foresee (wsV RX8 48 RX8 yX8_fail wsX8_fail) := goodIn_app (goodIn_of _ (by decide +kernel)) ggX8_foresee_X8_fail
set_option maxRecDepth 20000 in
theorem ggX8_foresee_X8_keep : GoodIn wsX8_foresee wsX8_keep := goodIn_r _ [13, 14, 15, 16, 17, 18, 19, 84, 85, 86, 87, 88, 89, 90, 91, 92, 93, 94] (by decide +kernel) (by decide +kernel)
set_option maxRecDepth 20000 in
theorem gX8_foresee_X8_keep : GoodIn wsX8_foresee (wsV RX8 140 RX8 yX8_keep wsX8_keep) := goodIn_app (goodIn_of _ (by decide +kernel)) ggX8_foresee_X8_keep
set_option maxRecDepth 20000 in
theorem ggX8_foresee_X8_behind : GoodIn wsX8_foresee wsX8_behind := goodIn_r _ [23, 14, 24, 25, 26, 4, 27, 28, 29, 30, 31, 32, 33, 34, 35, 36, 37, 38, 39, 40, 41, 42, 43, 44, 45, 46, 47, 48, 49, 50, 51, 52, 53, 54, 55, 56, 57, 58, 59, 60, 61, 62, 63, 64, 65, 66, 67, 68, 69, 70, 71, 72, 73, 74, 75, 76, 77, 78, 79, 80, 81, 82, 83, 15, 16, 17, 18, 19, 84, 85, 86, 87, 88, 89, 90, 91, 92, 93, 94] (by decide +kernel) (by decide +kernel)
set_option maxRecDepth 20000 in
theorem gX8_foresee_X8_behind : GoodIn wsX8_foresee (wsV RX8 143 RX8 yX8_behind wsX8_behind) := goodIn_app (goodIn_of _ (by decide +kernel)) ggX8_foresee_X8_behind
theorem dX8_foresee_0 : decode cX8_foresee 0 = .ok (.aload_n 0, 1) := by decide +kernel
theorem dX8_foresee_1 : decode cX8_foresee 1 = .ok (.iconst 0, 1) := by decide +kernel
theorem dX8_foresee_2 : decode cX8_foresee 2 = .ok (.putfield 28, 3) := by decide +kernel
theorem dX8_foresee_5 : decode cX8_foresee 5 = .ok (.iload_n 1, 1) := by decide +kernel
theorem dX8_foresee_6 : decode cX8_foresee 6 = .ok (.iconst 1, 1) := by decide +kernel
theorem dX8_foresee_7 : decode cX8_foresee 7 = .ok (.bipush 60, 2) := by decide +kernel
theorem dX8_foresee_9 : decode cX8_foresee 9 = .ok (.invokestatic 35, 3) := by decide +kernel
theorem dX8_foresee_12 : decode cX8_foresee 12 = .ok (.ifCond .ne 9, 3) := by decide +kernel
theorem dX8_foresee_15 : decode cX8_foresee 15 = .ok (.aload_n 0, 1) := by decide +kernel
theorem dX8_foresee_16 : decode cX8_foresee 16 = .ok (.iconst 1, 1) := by decide +kernel
theorem dX8_foresee_17 : decode cX8_foresee 17 = .ok (.invokevirtual 48, 3) := by decide +kernel
theorem dX8_foresee_20 : decode cX8_foresee 20 = .ok (.ireturn, 1) := by decide +kernel
theorem dX8_foresee_21 : decode cX8_foresee 21 = .ok (.iload_n 2, 1) := by decide +kernel
theorem dX8_foresee_22 : decode cX8_foresee 22 = .ok (.iconst 1, 1) := by decide +kernel
theorem dX8_foresee_23 : decode cX8_foresee 23 = .ok (.bipush 6, 2) := by decide +kernel
theorem dX8_foresee_25 : decode cX8_foresee 25 = .ok (.invokestatic 35, 3) := by decide +kernel
theorem dX8_foresee_28 : decode cX8_foresee 28 = .ok (.ifCond .ne 9, 3) := by decide +kernel
theorem dX8_foresee_31 : decode cX8_foresee 31 = .ok (.aload_n 0, 1) := by decide +kernel
theorem dX8_foresee_32 : decode cX8_foresee 32 = .ok (.iconst 2, 1) := by decide +kernel
theorem dX8_foresee_33 : decode cX8_foresee 33 = .ok (.invokevirtual 48, 3) := by decide +kernel
theorem dX8_foresee_36 : decode cX8_foresee 36 = .ok (.ireturn, 1) := by decide +kernel
theorem dX8_foresee_37 : decode cX8_foresee 37 = .ok (.aload_n 0, 1) := by decide +kernel
theorem dX8_foresee_38 : decode cX8_foresee 38 = .ok (.invokevirtual 140, 3) := by decide +kernel
theorem dX8_foresee_41 : decode cX8_foresee 41 = .ok (.aload_n 0, 1) := by decide +kernel
theorem dX8_foresee_42 : decode cX8_foresee 42 = .ok (.iload_n 1, 1) := by decide +kernel
theorem dX8_foresee_43 : decode cX8_foresee 43 = .ok (.iload_n 2, 1) := by decide +kernel
theorem dX8_foresee_44 : decode cX8_foresee 44 = .ok (.invokevirtual 143, 3) := by decide +kernel
theorem dX8_foresee_47 : decode cX8_foresee 47 = .ok (.ireturn, 1) := by decide +kernel
set_option maxRecDepth 20000 in
theorem ggX8_ready_X8_isDrum : GoodIn wsX8_ready wsX8_isDrum := goodIn_r _ [6, 7, 8, 9, 5, 10, 26, 27, 28, 29, 30, 31, 32, 33, 34, 35, 36] (by decide +kernel) (by decide +kernel)
set_option maxRecDepth 20000 in
theorem gX8_ready_X8_isDrum : GoodIn wsX8_ready (wsV RX8 69 RX8 yX8_isDrum wsX8_isDrum) := goodIn_app (goodIn_of _ (by decide +kernel)) ggX8_ready_X8_isDrum
set_option maxRecDepth 20000 in
theorem ggX8_ready_X8_fail : GoodIn wsX8_ready wsX8_fail := goodIn_r _ [14, 1, 26, 27, 28, 29, 30, 31, 32, 33, 34, 35, 36] (by decide +kernel) (by decide +kernel)
set_option maxRecDepth 20000 in
theorem gX8_ready_X8_fail : GoodIn wsX8_ready (wsV RX8 48 RX8 yX8_fail wsX8_fail) := goodIn_app (goodIn_of _ (by decide +kernel)) ggX8_ready_X8_fail
set_option maxRecDepth 20000 in
theorem ggX8_ready_X8_dr : GoodIn wsX8_ready wsX8_dr := goodIn_r _ [18, 19, 26, 27, 28, 29, 30, 31, 32, 33, 34, 35, 36] (by decide +kernel) (by decide +kernel)
set_option maxRecDepth 20000 in
theorem gX8_ready_X8_dr : GoodIn wsX8_ready (wsV RX8 73 RX8 yX8_dr wsX8_dr) := goodIn_app (goodIn_of _ (by decide +kernel)) ggX8_ready_X8_dr
set_option maxRecDepth 20000 in
theorem ggX8_ready_X8_yields : GoodIn wsX8_ready wsX8_yields := goodIn_r _ [22, 23, 24, 25] (by decide +kernel) (by decide +kernel)
set_option maxRecDepth 20000 in
theorem gX8_ready_X8_yields : GoodIn wsX8_ready (va_wsS RX8 86 yX8_yields wsX8_yields) := goodIn_app (goodIn_of _ (by decide +kernel)) ggX8_ready_X8_yields
theorem dX8_ready_0 : decode cX8_ready 0 = .ok (.aload_n 0, 1) := by decide +kernel
theorem dX8_ready_1 : decode cX8_ready 1 = .ok (.iconst 0, 1) := by decide +kernel
theorem dX8_ready_2 : decode cX8_ready 2 = .ok (.putfield 28, 3) := by decide +kernel
theorem dX8_ready_5 : decode cX8_ready 5 = .ok (.aload_n 0, 1) := by decide +kernel
theorem dX8_ready_6 : decode cX8_ready 6 = .ok (.iload_n 1, 1) := by decide +kernel
theorem dX8_ready_7 : decode cX8_ready 7 = .ok (.invokevirtual 69, 3) := by decide +kernel
theorem dX8_ready_10 : decode cX8_ready 10 = .ok (.ifCond .ne 9, 3) := by decide +kernel
theorem dX8_ready_13 : decode cX8_ready 13 = .ok (.aload_n 0, 1) := by decide +kernel
theorem dX8_ready_14 : decode cX8_ready 14 = .ok (.iconst 1, 1) := by decide +kernel
theorem dX8_ready_15 : decode cX8_ready 15 = .ok (.invokevirtual 48, 3) := by decide +kernel
theorem dX8_ready_18 : decode cX8_ready 18 = .ok (.ireturn, 1) := by decide +kernel
theorem dX8_ready_19 : decode cX8_ready 19 = .ok (.aload_n 0, 1) := by decide +kernel
theorem dX8_ready_20 : decode cX8_ready 20 = .ok (.iload_n 1, 1) := by decide +kernel
theorem dX8_ready_21 : decode cX8_ready 21 = .ok (.iconst 1, 1) := by decide +kernel
theorem dX8_ready_22 : decode cX8_ready 22 = .ok (.invokevirtual 73, 3) := by decide +kernel
theorem dX8_ready_25 : decode cX8_ready 25 = .ok (.iconst (-1), 1) := by decide +kernel
theorem dX8_ready_26 : decode cX8_ready 26 = .ok (.if_icmp .ne 5, 3) := by decide +kernel
theorem dX8_ready_29 : decode cX8_ready 29 = .ok (.iconst (-1), 1) := by decide +kernel
theorem dX8_ready_30 : decode cX8_ready 30 = .ok (.ireturn, 1) := by decide +kernel
theorem dX8_ready_31 : decode cX8_ready 31 = .ok (.iconst (-1), 1) := by decide +kernel
theorem dX8_ready_32 : decode cX8_ready 32 = .ok (.istore_n 2, 1) := by decide +kernel
theorem dX8_ready_33 : decode cX8_ready 33 = .ok (.iconst 0, 1) := by decide +kernel
theorem dX8_ready_34 : decode cX8_ready 34 = .ok (.istore_n 3, 1) := by decide +kernel
theorem dX8_ready_35 : decode cX8_ready 35 = .ok (.iconst 0, 1) := by decide +kernel
theorem dX8_ready_36 : decode cX8_ready 36 = .ok (.istore 4, 2) := by decide +kernel
theorem dX8_ready_38 : decode cX8_ready 38 = .ok (.iload 4, 2) := by decide +kernel
theorem dX8_ready_40 : decode cX8_ready 40 = .ok (.bipush 60, 2) := by decide +kernel
theorem dX8_ready_42 : decode cX8_ready 42 = .ok (.if_icmp .gt 57, 3) := by decide +kernel
theorem dX8_ready_45 : decode cX8_ready 45 = .ok (.aload_n 0, 1) := by decide +kernel
theorem dX8_ready_46 : decode cX8_ready 46 = .ok (.iload_n 1, 1) := by decide +kernel
theorem dX8_ready_47 : decode cX8_ready 47 = .ok (.iconst 1, 1) := by decide +kernel
theorem dX8_ready_48 : decode cX8_ready 48 = .ok (.invokevirtual 73, 3) := by decide +kernel
theorem dX8_ready_51 : decode cX8_ready 51 = .ok (.aload_n 0, 1) := by decide +kernel
theorem dX8_ready_52 : decode cX8_ready 52 = .ok (.iload_n 1, 1) := by decide +kernel
theorem dX8_ready_53 : decode cX8_ready 53 = .ok (.iconst 2, 1) := by decide +kernel
theorem dX8_ready_54 : decode cX8_ready 54 = .ok (.invokevirtual 73, 3) := by decide +kernel
theorem dX8_ready_57 : decode cX8_ready 57 = .ok (.aload_n 0, 1) := by decide +kernel
theorem dX8_ready_58 : decode cX8_ready 58 = .ok (.iload_n 1, 1) := by decide +kernel
theorem dX8_ready_59 : decode cX8_ready 59 = .ok (.iconst 3, 1) := by decide +kernel
theorem dX8_ready_60 : decode cX8_ready 60 = .ok (.invokevirtual 73, 3) := by decide +kernel
theorem dX8_ready_63 : decode cX8_ready 63 = .ok (.iload 4, 2) := by decide +kernel
theorem dX8_ready_65 : decode cX8_ready 65 = .ok (.aload_n 0, 1) := by decide +kernel
theorem dX8_ready_66 : decode cX8_ready 66 = .ok (.iload_n 1, 1) := by decide +kernel
theorem dX8_ready_67 : decode cX8_ready 67 = .ok (.iconst 0, 1) := by decide +kernel
theorem dX8_ready_68 : decode cX8_ready 68 = .ok (.invokevirtual 73, 3) := by decide +kernel
theorem dX8_ready_71 : decode cX8_ready 71 = .ok (.imul, 1) := by decide +kernel
theorem dX8_ready_72 : decode cX8_ready 72 = .ok (.iadd, 1) := by decide +kernel
theorem dX8_ready_73 : decode cX8_ready 73 = .ok (.invokestatic 86, 3) := by decide +kernel
theorem dX8_ready_76 : decode cX8_ready 76 = .ok (.istore 5, 2) := by decide +kernel
theorem dX8_ready_78 : decode cX8_ready 78 = .ok (.iload 5, 2) := by decide +kernel
theorem dX8_ready_80 : decode cX8_ready 80 = .ok (.iload_n 3, 1) := by decide +kernel
theorem dX8_ready_81 : decode cX8_ready 81 = .ok (.if_icmp .gt 6, 3) := by decide +kernel
theorem dX8_ready_84 : decode cX8_ready 84 = .ok (.goto 9, 3) := by decide +kernel
theorem dX8_ready_87 : decode cX8_ready 87 = .ok (.iload 4, 2) := by decide +kernel
theorem dX8_ready_89 : decode cX8_ready 89 = .ok (.istore_n 2, 1) := by decide +kernel
theorem dX8_ready_90 : decode cX8_ready 90 = .ok (.iload 5, 2) := by decide +kernel
theorem dX8_ready_92 : decode cX8_ready 92 = .ok (.istore_n 3, 1) := by decide +kernel
theorem dX8_ready_93 : decode cX8_ready 93 = .ok (.iinc 4 1, 3) := by decide +kernel
theorem dX8_ready_96 : decode cX8_ready 96 = .ok (.goto (-58), 3) := by decide +kernel
theorem dX8_ready_99 : decode cX8_ready 99 = .ok (.iload_n 2, 1) := by decide +kernel
theorem dX8_ready_100 : decode cX8_ready 100 = .ok (.ireturn, 1) := by decide +kernel
set_option maxRecDepth 20000 in
theorem ggX8_caught_X8_isSmuggler : GoodIn wsX8_caught wsX8_isSmuggler := goodIn_r _ [8, 9, 10, 11, 7, 12, 21, 22, 23, 24, 25, 26, 27, 28, 29, 30, 31] (by decide +kernel) (by decide +kernel)
set_option maxRecDepth 20000 in
theorem gX8_caught_X8_isSmuggler : GoodIn wsX8_caught (wsV RX8 92 RX8 yX8_isSmuggler wsX8_isSmuggler) := goodIn_app (goodIn_of _ (by decide +kernel)) ggX8_caught_X8_isSmuggler
set_option maxRecDepth 20000 in
theorem ggX8_caught_X8_isIn : GoodIn wsX8_caught wsX8_isIn := goodIn_r _ [12] (by decide +kernel) (by decide +kernel)
set_option maxRecDepth 20000 in
theorem gX8_caught_X8_isIn : GoodIn wsX8_caught (va_wsS RX8 35 yX8_isIn wsX8_isIn) := goodIn_app (goodIn_of _ (by decide +kernel)) ggX8_caught_X8_isIn
set_option maxRecDepth 20000 in
theorem ggX8_caught_X8_sm : GoodIn wsX8_caught wsX8_sm := goodIn_r _ [16, 3, 21, 22, 23, 24, 25, 26, 27, 28, 29, 30, 31] (by decide +kernel) (by decide +kernel)
set_option maxRecDepth 20000 in
theorem gX8_caught_X8_sm : GoodIn wsX8_caught (wsV RX8 95 RX8 yX8_sm wsX8_sm) := goodIn_app (goodIn_of _ (by decide +kernel)) ggX8_caught_X8_sm
set_option maxRecDepth 20000 in
theorem ggX8_caught_X8_isPatrol : GoodIn wsX8_caught wsX8_isPatrol := goodIn_r _ [20, 3, 21, 22, 23, 24, 25, 26, 27, 28, 29, 30, 31] (by decide +kernel) (by decide +kernel)
set_option maxRecDepth 20000 in
theorem gX8_caught_X8_isPatrol : GoodIn wsX8_caught (wsV RX8 116 RX8 yX8_isPatrol wsX8_isPatrol) := goodIn_app (goodIn_of _ (by decide +kernel)) ggX8_caught_X8_isPatrol
theorem dX8_caught_0 : decode cX8_caught 0 = .ok (.aload_n 0, 1) := by decide +kernel
theorem dX8_caught_1 : decode cX8_caught 1 = .ok (.aload_n 0, 1) := by decide +kernel
theorem dX8_caught_2 : decode cX8_caught 2 = .ok (.iload_n 1, 1) := by decide +kernel
theorem dX8_caught_3 : decode cX8_caught 3 = .ok (.invokevirtual 92, 3) := by decide +kernel
theorem dX8_caught_6 : decode cX8_caught 6 = .ok (.ifCond .ne 7, 3) := by decide +kernel
theorem dX8_caught_9 : decode cX8_caught 9 = .ok (.iconst 1, 1) := by decide +kernel
theorem dX8_caught_10 : decode cX8_caught 10 = .ok (.goto 31, 3) := by decide +kernel
theorem dX8_caught_13 : decode cX8_caught 13 = .ok (.iload_n 2, 1) := by decide +kernel
theorem dX8_caught_14 : decode cX8_caught 14 = .ok (.iconst 0, 1) := by decide +kernel
theorem dX8_caught_15 : decode cX8_caught 15 = .ok (.bipush 60, 2) := by decide +kernel
theorem dX8_caught_17 : decode cX8_caught 17 = .ok (.invokestatic 35, 3) := by decide +kernel
theorem dX8_caught_20 : decode cX8_caught 20 = .ok (.ifCond .ne 7, 3) := by decide +kernel
theorem dX8_caught_23 : decode cX8_caught 23 = .ok (.iconst 2, 1) := by decide +kernel
theorem dX8_caught_24 : decode cX8_caught 24 = .ok (.goto 17, 3) := by decide +kernel
theorem dX8_caught_27 : decode cX8_caught 27 = .ok (.aload_n 0, 1) := by decide +kernel
theorem dX8_caught_28 : decode cX8_caught 28 = .ok (.iload_n 1, 1) := by decide +kernel
theorem dX8_caught_29 : decode cX8_caught 29 = .ok (.iconst 0, 1) := by decide +kernel
theorem dX8_caught_30 : decode cX8_caught 30 = .ok (.invokevirtual 95, 3) := by decide +kernel
theorem dX8_caught_33 : decode cX8_caught 33 = .ok (.ifCond .eq 7, 3) := by decide +kernel
theorem dX8_caught_36 : decode cX8_caught 36 = .ok (.iconst 3, 1) := by decide +kernel
theorem dX8_caught_37 : decode cX8_caught 37 = .ok (.goto 4, 3) := by decide +kernel
theorem dX8_caught_40 : decode cX8_caught 40 = .ok (.iconst 0, 1) := by decide +kernel
theorem dX8_caught_41 : decode cX8_caught 41 = .ok (.putfield 28, 3) := by decide +kernel
theorem dX8_caught_44 : decode cX8_caught 44 = .ok (.aload_n 0, 1) := by decide +kernel
theorem dX8_caught_45 : decode cX8_caught 45 = .ok (.getfield 28, 3) := by decide +kernel
theorem dX8_caught_48 : decode cX8_caught 48 = .ok (.ifCond .eq 5, 3) := by decide +kernel
theorem dX8_caught_51 : decode cX8_caught 51 = .ok (.iconst 0, 1) := by decide +kernel
theorem dX8_caught_52 : decode cX8_caught 52 = .ok (.ireturn, 1) := by decide +kernel
theorem dX8_caught_53 : decode cX8_caught 53 = .ok (.aload_n 0, 1) := by decide +kernel
theorem dX8_caught_54 : decode cX8_caught 54 = .ok (.getfield 16, 3) := by decide +kernel
theorem dX8_caught_57 : decode cX8_caught 57 = .ok (.iconst 2, 1) := by decide +kernel
theorem dX8_caught_58 : decode cX8_caught 58 = .ok (.iload_n 1, 1) := by decide +kernel
theorem dX8_caught_59 : decode cX8_caught 59 = .ok (.imul, 1) := by decide +kernel
theorem dX8_caught_60 : decode cX8_caught 60 = .ok (.iaload, 1) := by decide +kernel
theorem dX8_caught_61 : decode cX8_caught 61 = .ok (.istore_n 3, 1) := by decide +kernel
theorem dX8_caught_62 : decode cX8_caught 62 = .ok (.aload_n 0, 1) := by decide +kernel
theorem dX8_caught_63 : decode cX8_caught 63 = .ok (.aload_n 0, 1) := by decide +kernel
theorem dX8_caught_64 : decode cX8_caught 64 = .ok (.getfield 22, 3) := by decide +kernel
theorem dX8_caught_67 : decode cX8_caught 67 = .ok (.iconst 0, 1) := by decide +kernel
theorem dX8_caught_68 : decode cX8_caught 68 = .ok (.iaload, 1) := by decide +kernel
theorem dX8_caught_69 : decode cX8_caught 69 = .ok (.iload_n 2, 1) := by decide +kernel
theorem dX8_caught_70 : decode cX8_caught 70 = .ok (.iadd, 1) := by decide +kernel
theorem dX8_caught_71 : decode cX8_caught 71 = .ok (.iload_n 3, 1) := by decide +kernel
theorem dX8_caught_72 : decode cX8_caught 72 = .ok (.iadd, 1) := by decide +kernel
theorem dX8_caught_73 : decode cX8_caught 73 = .ok (.iload_n 3, 1) := by decide +kernel
theorem dX8_caught_74 : decode cX8_caught 74 = .ok (.iconst 2, 1) := by decide +kernel
theorem dX8_caught_75 : decode cX8_caught 75 = .ok (.idiv, 1) := by decide +kernel
theorem dX8_caught_76 : decode cX8_caught 76 = .ok (.isub, 1) := by decide +kernel
theorem dX8_caught_77 : decode cX8_caught 77 = .ok (.iconst 1, 1) := by decide +kernel
theorem dX8_caught_78 : decode cX8_caught 78 = .ok (.isub, 1) := by decide +kernel
theorem dX8_caught_79 : decode cX8_caught 79 = .ok (.invokevirtual 116, 3) := by decide +kernel
theorem dX8_caught_82 : decode cX8_caught 82 = .ok (.ireturn, 1) := by decide +kernel
set_option maxRecDepth 20000 in
theorem ggX8_advise_X8_isIn : GoodIn wsX8_advise wsX8_isIn := goodIn_r _ [6] (by decide +kernel) (by decide +kernel)
set_option maxRecDepth 20000 in
theorem gX8_advise_X8_isIn : GoodIn wsX8_advise (va_wsS RX8 35 yX8_isIn wsX8_isIn) := goodIn_app (goodIn_of _ (by decide +kernel)) ggX8_advise_X8_isIn
set_option maxRecDepth 20000 in
theorem ggX8_advise_X8_fail : GoodIn wsX8_advise wsX8_fail := goodIn_r _ [10, 1, 84, 85, 86, 87, 88, 89, 90, 91, 92, 93, 94] (by decide +kernel) (by decide +kernel)
set_option maxRecDepth 20000 in
theorem gX8_advise_X8_fail : GoodIn wsX8_advise (wsV RX8 48 RX8 yX8_fail wsX8_fail) := goodIn_app (goodIn_of _ (by decide +kernel)) ggX8_advise_X8_fail
set_option maxRecDepth 20000 in
theorem ggX8_advise_X8_keep : GoodIn wsX8_advise wsX8_keep := goodIn_r _ [14, 2, 15, 16, 17, 18, 19, 84, 85, 86, 87, 88, 89, 90, 91, 92, 93, 94] (by decide +kernel) (by decide +kernel)
set_option maxRecDepth 20000 in
theorem gX8_advise_X8_keep : GoodIn wsX8_advise (wsV RX8 140 RX8 yX8_keep wsX8_keep) := goodIn_app (goodIn_of _ (by decide +kernel)) ggX8_advise_X8_keep
set_option maxRecDepth 20000 in
theorem ggX8_advise_X8_behind : GoodIn wsX8_advise wsX8_behind := goodIn_r _ [23, 2, 24, 25, 26, 5, 27, 28, 29, 30, 31, 32, 33, 34, 35, 36, 37, 38, 39, 40, 41, 42, 43, 44, 45, 46, 47, 48, 49, 50, 51, 52, 53, 54, 55, 56, 57, 58, 59, 60, 61, 62, 63, 64, 65, 66, 67, 68, 69, 70, 71, 72, 73, 74, 75, 76, 77, 78, 79, 80, 81, 82, 83, 15, 16, 17, 18, 19, 84, 85, 86, 87, 88, 89, 90, 91, 92, 93, 94] (by decide +kernel) (by decide +kernel)
set_option maxRecDepth 20000 in
theorem gX8_advise_X8_behind : GoodIn wsX8_advise (wsV RX8 143 RX8 yX8_behind wsX8_behind) := goodIn_app (goodIn_of _ (by decide +kernel)) ggX8_advise_X8_behind
theorem dX8_advise_0 : decode cX8_advise 0 = .ok (.aload_n 0, 1) := by decide +kernel
theorem dX8_advise_1 : decode cX8_advise 1 = .ok (.iconst 0, 1) := by decide +kernel
theorem dX8_advise_2 : decode cX8_advise 2 = .ok (.putfield 28, 3) := by decide +kernel
theorem dX8_advise_5 : decode cX8_advise 5 = .ok (.iload_n 1, 1) := by decide +kernel
theorem dX8_advise_6 : decode cX8_advise 6 = .ok (.iconst 1, 1) := by decide +kernel
theorem dX8_advise_7 : decode cX8_advise 7 = .ok (.bipush 28, 2) := by decide +kernel
theorem dX8_advise_9 : decode cX8_advise 9 = .ok (.invokestatic 35, 3) := by decide +kernel
theorem dX8_advise_12 : decode cX8_advise 12 = .ok (.ifCond .ne 9, 3) := by decide +kernel
theorem dX8_advise_15 : decode cX8_advise 15 = .ok (.aload_n 0, 1) := by decide +kernel
theorem dX8_advise_16 : decode cX8_advise 16 = .ok (.iconst 1, 1) := by decide +kernel
theorem dX8_advise_17 : decode cX8_advise 17 = .ok (.invokevirtual 48, 3) := by decide +kernel
theorem dX8_advise_20 : decode cX8_advise 20 = .ok (.ireturn, 1) := by decide +kernel
theorem dX8_advise_21 : decode cX8_advise 21 = .ok (.aload_n 0, 1) := by decide +kernel
theorem dX8_advise_22 : decode cX8_advise 22 = .ok (.invokevirtual 140, 3) := by decide +kernel
theorem dX8_advise_25 : decode cX8_advise 25 = .ok (.iconst (-1), 1) := by decide +kernel
theorem dX8_advise_26 : decode cX8_advise 26 = .ok (.istore_n 2, 1) := by decide +kernel
theorem dX8_advise_27 : decode cX8_advise 27 = .ok (.iconst (-1), 1) := by decide +kernel
theorem dX8_advise_28 : decode cX8_advise 28 = .ok (.istore_n 3, 1) := by decide +kernel
theorem dX8_advise_29 : decode cX8_advise 29 = .ok (.iconst 0, 1) := by decide +kernel
theorem dX8_advise_30 : decode cX8_advise 30 = .ok (.istore 4, 2) := by decide +kernel
theorem dX8_advise_32 : decode cX8_advise 32 = .ok (.iload 4, 2) := by decide +kernel
theorem dX8_advise_34 : decode cX8_advise 34 = .ok (.bipush 10, 2) := by decide +kernel
theorem dX8_advise_36 : decode cX8_advise 36 = .ok (.if_icmp .gt 41, 3) := by decide +kernel
theorem dX8_advise_39 : decode cX8_advise 39 = .ok (.aload_n 0, 1) := by decide +kernel
theorem dX8_advise_40 : decode cX8_advise 40 = .ok (.getfield 22, 3) := by decide +kernel
theorem dX8_advise_43 : decode cX8_advise 43 = .ok (.bipush 7, 2) := by decide +kernel
theorem dX8_advise_45 : decode cX8_advise 45 = .ok (.iload 4, 2) := by decide +kernel
theorem dX8_advise_47 : decode cX8_advise 47 = .ok (.iastore, 1) := by decide +kernel
theorem dX8_advise_48 : decode cX8_advise 48 = .ok (.aload_n 0, 1) := by decide +kernel
theorem dX8_advise_49 : decode cX8_advise 49 = .ok (.iload_n 1, 1) := by decide +kernel
theorem dX8_advise_50 : decode cX8_advise 50 = .ok (.iconst 5, 1) := by decide +kernel
theorem dX8_advise_51 : decode cX8_advise 51 = .ok (.invokevirtual 143, 3) := by decide +kernel
theorem dX8_advise_54 : decode cX8_advise 54 = .ok (.istore 5, 2) := by decide +kernel
theorem dX8_advise_56 : decode cX8_advise 56 = .ok (.iload 5, 2) := by decide +kernel
theorem dX8_advise_58 : decode cX8_advise 58 = .ok (.iload_n 3, 1) := by decide +kernel
theorem dX8_advise_59 : decode cX8_advise 59 = .ok (.if_icmp .gt 6, 3) := by decide +kernel
theorem dX8_advise_62 : decode cX8_advise 62 = .ok (.goto 9, 3) := by decide +kernel
theorem dX8_advise_65 : decode cX8_advise 65 = .ok (.iload 4, 2) := by decide +kernel
theorem dX8_advise_67 : decode cX8_advise 67 = .ok (.istore_n 2, 1) := by decide +kernel
theorem dX8_advise_68 : decode cX8_advise 68 = .ok (.iload 5, 2) := by decide +kernel
theorem dX8_advise_70 : decode cX8_advise 70 = .ok (.istore_n 3, 1) := by decide +kernel
theorem dX8_advise_71 : decode cX8_advise 71 = .ok (.iinc 4 1, 3) := by decide +kernel
theorem dX8_advise_74 : decode cX8_advise 74 = .ok (.goto (-42), 3) := by decide +kernel
theorem dX8_advise_77 : decode cX8_advise 77 = .ok (.iload_n 2, 1) := by decide +kernel
theorem dX8_advise_78 : decode cX8_advise 78 = .ok (.ireturn, 1) := by decide +kernel
set_option maxRecDepth 20000 in
theorem ggX8_mean_X8_ca : GoodIn wsX8_mean wsX8_ca := goodIn_r _ [7, 8, 9, 10, 11, 12, 13, 14, 15, 16, 17, 18, 19] (by decide +kernel) (by decide +kernel)
set_option maxRecDepth 20000 in
theorem gX8_mean_X8_ca : GoodIn wsX8_mean (wsV RX8 110 RX8 yX8_ca wsX8_ca) := goodIn_app (goodIn_of _ (by decide +kernel)) ggX8_mean_X8_ca
theorem dX8_mean_0 : decode cX8_mean 0 = .ok (.aload_n 0, 1) := by decide +kernel
theorem dX8_mean_1 : decode cX8_mean 1 = .ok (.iconst 0, 1) := by decide +kernel
theorem dX8_mean_2 : decode cX8_mean 2 = .ok (.putfield 28, 3) := by decide +kernel
theorem dX8_mean_5 : decode cX8_mean 5 = .ok (.iconst 0, 1) := by decide +kernel
theorem dX8_mean_6 : decode cX8_mean 6 = .ok (.istore_n 1, 1) := by decide +kernel
theorem dX8_mean_7 : decode cX8_mean 7 = .ok (.iconst 0, 1) := by decide +kernel
theorem dX8_mean_8 : decode cX8_mean 8 = .ok (.istore_n 2, 1) := by decide +kernel
theorem dX8_mean_9 : decode cX8_mean 9 = .ok (.iload_n 2, 1) := by decide +kernel
theorem dX8_mean_10 : decode cX8_mean 10 = .ok (.aload_n 0, 1) := by decide +kernel
theorem dX8_mean_11 : decode cX8_mean 11 = .ok (.getfield 59, 3) := by decide +kernel
theorem dX8_mean_14 : decode cX8_mean 14 = .ok (.if_icmp .ge 18, 3) := by decide +kernel
theorem dX8_mean_17 : decode cX8_mean 17 = .ok (.iload_n 1, 1) := by decide +kernel
theorem dX8_mean_18 : decode cX8_mean 18 = .ok (.aload_n 0, 1) := by decide +kernel
theorem dX8_mean_19 : decode cX8_mean 19 = .ok (.iload_n 2, 1) := by decide +kernel
theorem dX8_mean_20 : decode cX8_mean 20 = .ok (.iconst 1, 1) := by decide +kernel
theorem dX8_mean_21 : decode cX8_mean 21 = .ok (.invokevirtual 110, 3) := by decide +kernel
theorem dX8_mean_24 : decode cX8_mean 24 = .ok (.iadd, 1) := by decide +kernel
theorem dX8_mean_25 : decode cX8_mean 25 = .ok (.istore_n 1, 1) := by decide +kernel
theorem dX8_mean_26 : decode cX8_mean 26 = .ok (.iinc 2 1, 3) := by decide +kernel
theorem dX8_mean_29 : decode cX8_mean 29 = .ok (.goto (-20), 3) := by decide +kernel
theorem dX8_mean_32 : decode cX8_mean 32 = .ok (.aload_n 0, 1) := by decide +kernel
theorem dX8_mean_33 : decode cX8_mean 33 = .ok (.getfield 59, 3) := by decide +kernel
theorem dX8_mean_36 : decode cX8_mean 36 = .ok (.ifCond .ne 7, 3) := by decide +kernel
theorem dX8_mean_39 : decode cX8_mean 39 = .ok (.dconst 0, 1) := by decide +kernel
theorem dX8_mean_40 : decode cX8_mean 40 = .ok (.goto 11, 3) := by decide +kernel
theorem dX8_mean_43 : decode cX8_mean 43 = .ok (.iload_n 1, 1) := by decide +kernel
theorem dX8_mean_44 : decode cX8_mean 44 = .ok (.i2d, 1) := by decide +kernel
theorem dX8_mean_45 : decode cX8_mean 45 = .ok (.aload_n 0, 1) := by decide +kernel
theorem dX8_mean_46 : decode cX8_mean 46 = .ok (.getfield 59, 3) := by decide +kernel
theorem dX8_mean_49 : decode cX8_mean 49 = .ok (.i2d, 1) := by decide +kernel
theorem dX8_mean_50 : decode cX8_mean 50 = .ok (.ddiv, 1) := by decide +kernel
theorem dX8_mean_51 : decode cX8_mean 51 = .ok (.dreturn, 1) := by decide +kernel
set_option maxRecDepth 20000 in
theorem ggX8_digest_X8_bedIs : GoodIn wsX8_digest wsX8_bedIs := goodIn_r _ [13, 14, 4, 52, 53, 54, 55, 56, 57, 58, 59, 60, 61, 62] (by decide +kernel) (by decide +kernel)
set_option maxRecDepth 20000 in
theorem gX8_digest_X8_bedIs : GoodIn wsX8_digest (wsV RX8 101 RX8 yX8_bedIs wsX8_bedIs) := goodIn_app (goodIn_of _ (by decide +kernel)) ggX8_digest_X8_bedIs
set_option maxRecDepth 20000 in
theorem ggX8_digest_X8_drumIs : GoodIn wsX8_digest wsX8_drumIs := goodIn_r _ [18, 19, 20, 21, 22, 12, 23, 24, 25, 26, 27, 4, 28, 29, 30, 31, 32, 33, 52, 53, 54, 55, 56, 57, 58, 59, 60, 61, 62] (by decide +kernel) (by decide +kernel)
set_option maxRecDepth 20000 in
theorem gX8_digest_X8_drumIs : GoodIn wsX8_digest (wsV RX8 104 RX8 yX8_drumIs wsX8_drumIs) := goodIn_app (goodIn_of _ (by decide +kernel)) ggX8_digest_X8_drumIs
set_option maxRecDepth 20000 in
theorem ggX8_digest_X8_smugglerIs : GoodIn wsX8_digest wsX8_smugglerIs := goodIn_r _ [37, 38, 39, 40, 41, 12, 42, 4, 52, 53, 54, 55, 56, 57, 58, 59, 60, 61, 62] (by decide +kernel) (by decide +kernel)
set_option maxRecDepth 20000 in
theorem gX8_digest_X8_smugglerIs : GoodIn wsX8_digest (wsV RX8 107 RX8 yX8_smugglerIs wsX8_smugglerIs) := goodIn_app (goodIn_of _ (by decide +kernel)) ggX8_digest_X8_smugglerIs
set_option maxRecDepth 20000 in
theorem ggX8_digest_X8_cardIs : GoodIn wsX8_digest wsX8_cardIs := goodIn_r _ [46, 47, 48, 49, 50, 12, 51, 4, 52, 53, 54, 55, 56, 57, 58, 59, 60, 61, 62] (by decide +kernel) (by decide +kernel)
set_option maxRecDepth 20000 in
theorem gX8_digest_X8_cardIs : GoodIn wsX8_digest (wsV RX8 113 RX8 yX8_cardIs wsX8_cardIs) := goodIn_app (goodIn_of _ (by decide +kernel)) ggX8_digest_X8_cardIs
theorem dX8_digest_0 : decode cX8_digest 0 = .ok (.aload_n 0, 1) := by decide +kernel
theorem dX8_digest_1 : decode cX8_digest 1 = .ok (.iconst 0, 1) := by decide +kernel
theorem dX8_digest_2 : decode cX8_digest 2 = .ok (.putfield 28, 3) := by decide +kernel
theorem dX8_digest_5 : decode cX8_digest 5 = .ok (.ldc2_w 146, 3) := by decide +kernel
theorem dX8_digest_8 : decode cX8_digest 8 = .ok (.lstore_n 1, 1) := by decide +kernel
theorem dX8_digest_9 : decode cX8_digest 9 = .ok (.iconst 0, 1) := by decide +kernel
theorem dX8_digest_10 : decode cX8_digest 10 = .ok (.istore_n 3, 1) := by decide +kernel
theorem dX8_digest_11 : decode cX8_digest 11 = .ok (.iload_n 3, 1) := by decide +kernel
theorem dX8_digest_12 : decode cX8_digest 12 = .ok (.bipush 9, 2) := by decide +kernel
theorem dX8_digest_14 : decode cX8_digest 14 = .ok (.if_icmp .ge 23, 3) := by decide +kernel
theorem dX8_digest_17 : decode cX8_digest 17 = .ok (.lload_n 1, 1) := by decide +kernel
theorem dX8_digest_18 : decode cX8_digest 18 = .ok (.ldc2_w 148, 3) := by decide +kernel
theorem dX8_digest_21 : decode cX8_digest 21 = .ok (.lmul, 1) := by decide +kernel
theorem dX8_digest_22 : decode cX8_digest 22 = .ok (.aload_n 0, 1) := by decide +kernel
theorem dX8_digest_23 : decode cX8_digest 23 = .ok (.getfield 22, 3) := by decide +kernel
theorem dX8_digest_26 : decode cX8_digest 26 = .ok (.iload_n 3, 1) := by decide +kernel
theorem dX8_digest_27 : decode cX8_digest 27 = .ok (.iaload, 1) := by decide +kernel
theorem dX8_digest_28 : decode cX8_digest 28 = .ok (.i2l, 1) := by decide +kernel
theorem dX8_digest_29 : decode cX8_digest 29 = .ok (.ladd, 1) := by decide +kernel
theorem dX8_digest_30 : decode cX8_digest 30 = .ok (.lstore_n 1, 1) := by decide +kernel
theorem dX8_digest_31 : decode cX8_digest 31 = .ok (.iinc 3 1, 3) := by decide +kernel
theorem dX8_digest_34 : decode cX8_digest 34 = .ok (.goto (-23), 3) := by decide +kernel
theorem dX8_digest_37 : decode cX8_digest 37 = .ok (.iconst 0, 1) := by decide +kernel
theorem dX8_digest_38 : decode cX8_digest 38 = .ok (.istore_n 3, 1) := by decide +kernel
theorem dX8_digest_39 : decode cX8_digest 39 = .ok (.iload_n 3, 1) := by decide +kernel
theorem dX8_digest_40 : decode cX8_digest 40 = .ok (.aload_n 0, 1) := by decide +kernel
theorem dX8_digest_41 : decode cX8_digest 41 = .ok (.getfield 52, 3) := by decide +kernel
theorem dX8_digest_44 : decode cX8_digest 44 = .ok (.if_icmp .ge 39, 3) := by decide +kernel
theorem dX8_digest_47 : decode cX8_digest 47 = .ok (.iconst 0, 1) := by decide +kernel
theorem dX8_digest_48 : decode cX8_digest 48 = .ok (.istore 4, 2) := by decide +kernel
theorem dX8_digest_50 : decode cX8_digest 50 = .ok (.iload 4, 2) := by decide +kernel
theorem dX8_digest_52 : decode cX8_digest 52 = .ok (.iconst 3, 1) := by decide +kernel
theorem dX8_digest_53 : decode cX8_digest 53 = .ok (.if_icmp .ge 24, 3) := by decide +kernel
theorem dX8_digest_56 : decode cX8_digest 56 = .ok (.lload_n 1, 1) := by decide +kernel
theorem dX8_digest_57 : decode cX8_digest 57 = .ok (.ldc2_w 148, 3) := by decide +kernel
theorem dX8_digest_60 : decode cX8_digest 60 = .ok (.lmul, 1) := by decide +kernel
theorem dX8_digest_61 : decode cX8_digest 61 = .ok (.aload_n 0, 1) := by decide +kernel
theorem dX8_digest_62 : decode cX8_digest 62 = .ok (.iload_n 3, 1) := by decide +kernel
theorem dX8_digest_63 : decode cX8_digest 63 = .ok (.iload 4, 2) := by decide +kernel
theorem dX8_digest_65 : decode cX8_digest 65 = .ok (.invokevirtual 101, 3) := by decide +kernel
theorem dX8_digest_68 : decode cX8_digest 68 = .ok (.i2l, 1) := by decide +kernel
theorem dX8_digest_69 : decode cX8_digest 69 = .ok (.ladd, 1) := by decide +kernel
theorem dX8_digest_70 : decode cX8_digest 70 = .ok (.lstore_n 1, 1) := by decide +kernel
theorem dX8_digest_71 : decode cX8_digest 71 = .ok (.iinc 4 1, 3) := by decide +kernel
theorem dX8_digest_74 : decode cX8_digest 74 = .ok (.goto (-24), 3) := by decide +kernel
theorem dX8_digest_77 : decode cX8_digest 77 = .ok (.iinc 3 1, 3) := by decide +kernel
theorem dX8_digest_80 : decode cX8_digest 80 = .ok (.goto (-41), 3) := by decide +kernel
theorem dX8_digest_83 : decode cX8_digest 83 = .ok (.iconst 0, 1) := by decide +kernel
theorem dX8_digest_84 : decode cX8_digest 84 = .ok (.istore_n 3, 1) := by decide +kernel
theorem dX8_digest_85 : decode cX8_digest 85 = .ok (.iload_n 3, 1) := by decide +kernel
theorem dX8_digest_86 : decode cX8_digest 86 = .ok (.aload_n 0, 1) := by decide +kernel
theorem dX8_digest_87 : decode cX8_digest 87 = .ok (.getfield 32, 3) := by decide +kernel
theorem dX8_digest_90 : decode cX8_digest 90 = .ok (.if_icmp .ge 40, 3) := by decide +kernel
theorem dX8_digest_93 : decode cX8_digest 93 = .ok (.iconst 0, 1) := by decide +kernel
theorem dX8_digest_94 : decode cX8_digest 94 = .ok (.istore 4, 2) := by decide +kernel
theorem dX8_digest_96 : decode cX8_digest 96 = .ok (.iload 4, 2) := by decide +kernel
theorem dX8_digest_98 : decode cX8_digest 98 = .ok (.bipush 6, 2) := by decide +kernel
theorem dX8_digest_100 : decode cX8_digest 100 = .ok (.if_icmp .ge 24, 3) := by decide +kernel
theorem dX8_digest_103 : decode cX8_digest 103 = .ok (.lload_n 1, 1) := by decide +kernel
theorem dX8_digest_104 : decode cX8_digest 104 = .ok (.ldc2_w 148, 3) := by decide +kernel
theorem dX8_digest_107 : decode cX8_digest 107 = .ok (.lmul, 1) := by decide +kernel
theorem dX8_digest_108 : decode cX8_digest 108 = .ok (.aload_n 0, 1) := by decide +kernel
theorem dX8_digest_109 : decode cX8_digest 109 = .ok (.iload_n 3, 1) := by decide +kernel
theorem dX8_digest_110 : decode cX8_digest 110 = .ok (.iload 4, 2) := by decide +kernel
theorem dX8_digest_112 : decode cX8_digest 112 = .ok (.invokevirtual 104, 3) := by decide +kernel
theorem dX8_digest_115 : decode cX8_digest 115 = .ok (.i2l, 1) := by decide +kernel
theorem dX8_digest_116 : decode cX8_digest 116 = .ok (.ladd, 1) := by decide +kernel
theorem dX8_digest_117 : decode cX8_digest 117 = .ok (.lstore_n 1, 1) := by decide +kernel
theorem dX8_digest_118 : decode cX8_digest 118 = .ok (.iinc 4 1, 3) := by decide +kernel
theorem dX8_digest_121 : decode cX8_digest 121 = .ok (.goto (-25), 3) := by decide +kernel
theorem dX8_digest_124 : decode cX8_digest 124 = .ok (.iinc 3 1, 3) := by decide +kernel
theorem dX8_digest_127 : decode cX8_digest 127 = .ok (.goto (-42), 3) := by decide +kernel
theorem dX8_digest_130 : decode cX8_digest 130 = .ok (.iconst 0, 1) := by decide +kernel
theorem dX8_digest_131 : decode cX8_digest 131 = .ok (.istore_n 3, 1) := by decide +kernel
theorem dX8_digest_132 : decode cX8_digest 132 = .ok (.iload_n 3, 1) := by decide +kernel
theorem dX8_digest_133 : decode cX8_digest 133 = .ok (.aload_n 0, 1) := by decide +kernel
theorem dX8_digest_134 : decode cX8_digest 134 = .ok (.getfield 39, 3) := by decide +kernel
theorem dX8_digest_137 : decode cX8_digest 137 = .ok (.if_icmp .ge 39, 3) := by decide +kernel
theorem dX8_digest_140 : decode cX8_digest 140 = .ok (.iconst 0, 1) := by decide +kernel
theorem dX8_digest_141 : decode cX8_digest 141 = .ok (.istore 4, 2) := by decide +kernel
theorem dX8_digest_143 : decode cX8_digest 143 = .ok (.iload 4, 2) := by decide +kernel
theorem dX8_digest_145 : decode cX8_digest 145 = .ok (.iconst 5, 1) := by decide +kernel
theorem dX8_digest_146 : decode cX8_digest 146 = .ok (.if_icmp .ge 24, 3) := by decide +kernel
theorem dX8_digest_149 : decode cX8_digest 149 = .ok (.lload_n 1, 1) := by decide +kernel
theorem dX8_digest_150 : decode cX8_digest 150 = .ok (.ldc2_w 148, 3) := by decide +kernel
theorem dX8_digest_153 : decode cX8_digest 153 = .ok (.lmul, 1) := by decide +kernel
theorem dX8_digest_154 : decode cX8_digest 154 = .ok (.aload_n 0, 1) := by decide +kernel
theorem dX8_digest_155 : decode cX8_digest 155 = .ok (.iload_n 3, 1) := by decide +kernel
theorem dX8_digest_156 : decode cX8_digest 156 = .ok (.iload 4, 2) := by decide +kernel
theorem dX8_digest_158 : decode cX8_digest 158 = .ok (.invokevirtual 107, 3) := by decide +kernel
theorem dX8_digest_161 : decode cX8_digest 161 = .ok (.i2l, 1) := by decide +kernel
theorem dX8_digest_162 : decode cX8_digest 162 = .ok (.ladd, 1) := by decide +kernel
theorem dX8_digest_163 : decode cX8_digest 163 = .ok (.lstore_n 1, 1) := by decide +kernel
theorem dX8_digest_164 : decode cX8_digest 164 = .ok (.iinc 4 1, 3) := by decide +kernel
theorem dX8_digest_167 : decode cX8_digest 167 = .ok (.goto (-24), 3) := by decide +kernel
theorem dX8_digest_170 : decode cX8_digest 170 = .ok (.iinc 3 1, 3) := by decide +kernel
theorem dX8_digest_173 : decode cX8_digest 173 = .ok (.goto (-41), 3) := by decide +kernel
theorem dX8_digest_176 : decode cX8_digest 176 = .ok (.iconst 0, 1) := by decide +kernel
theorem dX8_digest_177 : decode cX8_digest 177 = .ok (.istore_n 3, 1) := by decide +kernel
theorem dX8_digest_178 : decode cX8_digest 178 = .ok (.iload_n 3, 1) := by decide +kernel
theorem dX8_digest_179 : decode cX8_digest 179 = .ok (.aload_n 0, 1) := by decide +kernel
theorem dX8_digest_180 : decode cX8_digest 180 = .ok (.getfield 59, 3) := by decide +kernel
theorem dX8_digest_183 : decode cX8_digest 183 = .ok (.if_icmp .ge 39, 3) := by decide +kernel
theorem dX8_digest_186 : decode cX8_digest 186 = .ok (.iconst 0, 1) := by decide +kernel
theorem dX8_digest_187 : decode cX8_digest 187 = .ok (.istore 4, 2) := by decide +kernel
theorem dX8_digest_189 : decode cX8_digest 189 = .ok (.iload 4, 2) := by decide +kernel
theorem dX8_digest_191 : decode cX8_digest 191 = .ok (.iconst 5, 1) := by decide +kernel
theorem dX8_digest_192 : decode cX8_digest 192 = .ok (.if_icmp .ge 24, 3) := by decide +kernel
theorem dX8_digest_195 : decode cX8_digest 195 = .ok (.lload_n 1, 1) := by decide +kernel
theorem dX8_digest_196 : decode cX8_digest 196 = .ok (.ldc2_w 148, 3) := by decide +kernel
theorem dX8_digest_199 : decode cX8_digest 199 = .ok (.lmul, 1) := by decide +kernel
theorem dX8_digest_200 : decode cX8_digest 200 = .ok (.aload_n 0, 1) := by decide +kernel
theorem dX8_digest_201 : decode cX8_digest 201 = .ok (.iload_n 3, 1) := by decide +kernel
theorem dX8_digest_202 : decode cX8_digest 202 = .ok (.iload 4, 2) := by decide +kernel
theorem dX8_digest_204 : decode cX8_digest 204 = .ok (.invokevirtual 113, 3) := by decide +kernel
theorem dX8_digest_207 : decode cX8_digest 207 = .ok (.i2l, 1) := by decide +kernel
theorem dX8_digest_208 : decode cX8_digest 208 = .ok (.ladd, 1) := by decide +kernel
theorem dX8_digest_209 : decode cX8_digest 209 = .ok (.lstore_n 1, 1) := by decide +kernel
theorem dX8_digest_210 : decode cX8_digest 210 = .ok (.iinc 4 1, 3) := by decide +kernel
theorem dX8_digest_213 : decode cX8_digest 213 = .ok (.goto (-24), 3) := by decide +kernel
theorem dX8_digest_216 : decode cX8_digest 216 = .ok (.iinc 3 1, 3) := by decide +kernel
theorem dX8_digest_219 : decode cX8_digest 219 = .ok (.goto (-41), 3) := by decide +kernel
theorem dX8_digest_222 : decode cX8_digest 222 = .ok (.lload_n 1, 1) := by decide +kernel
theorem dX8_digest_223 : decode cX8_digest 223 = .ok (.lreturn, 1) := by decide +kernel
theorem dJ9_min_7cf53_0 : decode cJ9_min_7cf53 0 = .ok (.iload_n 0, 1) := by decide +kernel
theorem dJ9_min_7cf53_1 : decode cJ9_min_7cf53 1 = .ok (.iload_n 1, 1) := by decide +kernel
theorem dJ9_min_7cf53_2 : decode cJ9_min_7cf53 2 = .ok (.if_icmp .gt 7, 3) := by decide +kernel
theorem dJ9_min_7cf53_5 : decode cJ9_min_7cf53 5 = .ok (.iload_n 0, 1) := by decide +kernel
theorem dJ9_min_7cf53_6 : decode cJ9_min_7cf53 6 = .ok (.goto 4, 3) := by decide +kernel
theorem dJ9_min_7cf53_9 : decode cJ9_min_7cf53 9 = .ok (.iload_n 1, 1) := by decide +kernel
theorem dJ9_min_7cf53_10 : decode cJ9_min_7cf53 10 = .ok (.ireturn, 1) := by decide +kernel
end
section
section GP
variable {p : Program} {l : Launch} {e : Env} {R : Room} {s : State} {m : MethodId} {args : Array Value} {below : List Frame} {meth : Method} {c : Code} {Q : State → Prop}
variable {cc : ByteArray} {nL : Nat} {Ts : List Cond} {own : String} {E : gT} {σ σ' : gS} {cells slots pc : Nat} {lv lv' : List (Nat × Value)} {rest st0 : List Value}
theorem g_lk (S : CallFix p m c cc nL s args Ts own) {dflt : Int} {ps : Array (Int × Int)} {len : Nat} {x : Int32} {off : Int} (tgt : Nat) (d : decode cc pc = .ok (.lookupswitch dflt ps, len)) (hp : (ps.toList.zip (ps.toList.drop 1)).all (fun (a, next) => a.1 < next.1) = true) (ho : Op.lookupswitch.offset ps.toList dflt x.toInt = off) (ht : (pc : Int) + off = (tgt : Int)) (kk : gJ p l e R s m args below meth c Q nL E σ cells slots tgt lv rest) : gJ p l e R s m args below meth c Q nL E σ cells slots pc lv (.int x :: rest) :=
  fun H locs ls hP hS hl => lv_lookup S.1 S.2.1 d hp ho ht (kk H locs ls hP hS hl)
end GP
/-- the lesser of two, as the library has it -/
def gmin (x y : Int32) : Int32 := if y < x then y else x
theorem g_nb {r : Int32} (h : r = 0 ∨ r = 1) : narrow .boolean (.int r) = .int r := by
  rcases h with rfl | rfl <;> rfl
section GP2
variable {p : Program} {l : Launch} {e : Env} {R : Room} {s : State} {m : MethodId} {args : Array Value} {below : List Frame} {meth : Method} {c : Code} {Q : State → Prop}
variable {nL : Nat} {E : gT} {σ : gS} {cells slots pc : Nat} {lv : List (Nat × Value)} {rest : List Value}
/-- the world's numbers by a name -/
theorem g_nm (k : ∀ τ : gS, τ = σ → gJ p l e R s m args below meth c Q nL E τ cells slots pc lv rest) : gJ p l e R s m args below meth c Q nL E σ cells slots pc lv rest := k σ rfl
end GP2
section GP3
variable {p : Program} {l : Launch} {e : Env} {R : Room} {s : State} {m : MethodId} {args : Array Value} {below : List Frame} {meth : Method} {c : Code} {Q : State → Prop}
variable {cc : ByteArray} {nL : Nat} {Ts : List Cond} {own : String} {E : gT} {σ : gS} {cells slots pc : Nat} {lv : List (Nat × Value)} {rest : List Value}
theorem g_mn (S : CallFix p m c cc nL s args Ts own) {index : Nat} (h1 : Cond.methodLink own index Lib.Math.min.name ∈ Ts) (h2 : Cond.static Lib.Math.min.name ∈ Ts) (h3 : Cond.initialized "java/lang/Math" ∈ Ts) (h4 : Cond.code Lib.Math.min.name Lib.Math.min.code 2 (some .int) ∈ Ts) (hR : 1 ≤ R.frames) (hR2 : (rest.map fun v => v.category).sum + 13 ≤ R.locals) (hc : cells ≤ R.cells) (hs : slots ≤ R.slots) {x y : Int32} (d : decode cc pc = .ok (.invokestatic index, 3))
    (kk : gJ p l e R s m args below meth c Q nL E σ cells slots (pc + 3) lv (.int (gmin x y) :: rest)) : gJ p l e R s m args below meth c Q nL E σ cells slots pc lv (.int y :: .int x :: rest) := g_min S h1 h2 h3 h4 hR hR2 hc hs d kk
end GP3
end
section
def sX0_lay_s (σ : gS) (k : Nat) (a : Int32) (b : Int32) : gS := let S1 := gu σ k 0 a; let S2 := gu S1 k 1 b; S2
set_option maxRecDepth 100000 in
set_option maxHeartbeats 4000000 in
theorem kX0_lay (l : Launch) (E : gT) (σ : gS) (k : Nat) (hk : k < 65) (hKk : gK k = 0) (a : Int32) (b : Int32) : gMv l yX0_lay wsX0_lay ({ frames := 0, cells := 0, slots := 0, locals := 0 }) 0 0 E σ [.ref (E.2.2 k), .int a, .int b] (sX0_lay_s σ k a b) := by
  refine g_met (mc := 0) (ms := 0) (nL := 3) (ret := none) (by decide) rfl (lv := [(0, .ref (E.2.2 k)), (1, .int a), (2, .int b)]) rfl (Nat.le_of_ble_eq_true rfl) ?_
  intro p e s m below meth c S hr hlocks hC
  have hiX0 : ∀ w ∈ wsX00, w ∈ wsX0_lay := by decide +kernel
  refine g_aload_n S 0 dX0_lay_0 rfl ?_
  refine g_iload_n S 1 dX0_lay_1 rfl ?_
  refine gp0 S hC hiX0 hk hKk 0 (by decide) (by decide +kernel) dX0_lay_2 ?_
  refine g_nm (fun S1 hS1 => ?_)
  refine g_aload_n S 0 dX0_lay_5 rfl ?_
  refine g_iload_n S 2 dX0_lay_6 rfl ?_
  refine gp0 S hC hiX0 hk hKk 1 (by decide) (by decide +kernel) dX0_lay_7 ?_
  refine g_nm (fun S2 hS2 => ?_)
  exact g_vret S hr hlocks dX0_lay_10 (by subst hS2 hS1; rfl) (Nat.le_of_ble_eq_true rfl) (Nat.le_of_ble_eq_true rfl)
def sX0_grow_s (σ : gS) (k : Nat) : gS := let S1 := gu σ k 2 (gmin ((σ.1 k 2) + (σ.1 k 0)) (σ.1 k 1)); S1
set_option maxRecDepth 100000 in
set_option maxHeartbeats 4000000 in
theorem kX0_grow (l : Launch) (E : gT) (σ : gS) (k : Nat) (hk : k < 65) (hKk : gK k = 0) : gMv l yX0_grow wsX0_grow ({ frames := 1, cells := 0, slots := 0, locals := 24 }) 0 0 E σ [.ref (E.2.2 k)] (sX0_grow_s σ k) := by
  refine g_met (mc := 0) (ms := 0) (nL := 1) (ret := none) (by decide) rfl (lv := [(0, .ref (E.2.2 k))]) rfl (Nat.le_of_ble_eq_true rfl) ?_
  intro p e s m below meth c S hr hlocks hC
  have hiX0 : ∀ w ∈ wsX00, w ∈ wsX0_grow := by decide +kernel
  refine g_aload_n S 0 dX0_grow_0 rfl ?_
  refine g_aload_n S 0 dX0_grow_1 rfl ?_
  refine gg0 S hC hiX0 hk hKk 2 (by decide) (by decide +kernel) dX0_grow_2 ?_
  refine g_aload_n S 0 dX0_grow_5 rfl ?_
  refine gg0 S hC hiX0 hk hKk 0 (by decide) (by decide +kernel) dX0_grow_6 ?_
  refine g_iadd S dX0_grow_9 ?_
  refine g_aload_n S 0 dX0_grow_10 rfl ?_
  refine gg0 S hC hiX0 hk hKk 1 (by decide) (by decide +kernel) dX0_grow_11 ?_
  refine g_mn S (by decide +kernel) (by decide +kernel) (by decide +kernel) (by decide +kernel) (Nat.le_of_ble_eq_true rfl) (Nat.le_of_ble_eq_true rfl) (Nat.le_of_ble_eq_true rfl) (Nat.le_of_ble_eq_true rfl) dX0_grow_14 ?_
  refine gp0 S hC hiX0 hk hKk 2 (by decide) (by decide +kernel) dX0_grow_17 ?_
  refine g_nm (fun S1 hS1 => ?_)
  exact g_vret S hr hlocks dX0_grow_20 (by subst hS1; rfl) (Nat.le_of_ble_eq_true rfl) (Nat.le_of_ble_eq_true rfl)
def sX0_become_s (σ : gS) (k : Nat) (o : Nat) : gS := let S1 := gu σ k 0 (σ.1 o 0); let S2 := gu S1 k 1 (S1.1 o 1); let S3 := gu S2 k 2 (S2.1 o 2); S3
set_option maxRecDepth 100000 in
set_option maxHeartbeats 4000000 in
theorem kX0_become (l : Launch) (E : gT) (σ : gS) (k : Nat) (hk : k < 65) (hKk : gK k = 0) (o : Nat) (ho : o < 65) (hKo : gK o = 0) : gMv l yX0_become wsX0_become ({ frames := 0, cells := 0, slots := 0, locals := 0 }) 0 0 E σ [.ref (E.2.2 k), .ref (E.2.2 o)] (sX0_become_s σ k o) := by
  refine g_met (mc := 0) (ms := 0) (nL := 2) (ret := none) (by decide) rfl (lv := [(0, .ref (E.2.2 k)), (1, .ref (E.2.2 o))]) rfl (Nat.le_of_ble_eq_true rfl) ?_
  intro p e s m below meth c S hr hlocks hC
  have hiX0 : ∀ w ∈ wsX00, w ∈ wsX0_become := by decide +kernel
  refine g_aload_n S 0 dX0_become_0 rfl ?_
  refine g_aload_n S 1 dX0_become_1 rfl ?_
  refine gg0 S hC hiX0 ho hKo 0 (by decide) (by decide +kernel) dX0_become_2 ?_
  refine gp0 S hC hiX0 hk hKk 0 (by decide) (by decide +kernel) dX0_become_5 ?_
  refine g_nm (fun S1 hS1 => ?_)
  refine g_aload_n S 0 dX0_become_8 rfl ?_
  refine g_aload_n S 1 dX0_become_9 rfl ?_
  refine gg0 S hC hiX0 ho hKo 1 (by decide) (by decide +kernel) dX0_become_10 ?_
  refine gp0 S hC hiX0 hk hKk 1 (by decide) (by decide +kernel) dX0_become_13 ?_
  refine g_nm (fun S2 hS2 => ?_)
  refine g_aload_n S 0 dX0_become_16 rfl ?_
  refine g_aload_n S 1 dX0_become_17 rfl ?_
  refine gg0 S hC hiX0 ho hKo 2 (by decide) (by decide +kernel) dX0_become_18 ?_
  refine gp0 S hC hiX0 hk hKk 2 (by decide) (by decide +kernel) dX0_become_21 ?_
  refine g_nm (fun S3 hS3 => ?_)
  exact g_vret S hr hlocks dX0_become_24 (by subst hS3 hS2 hS1; rfl) (Nat.le_of_ble_eq_true rfl) (Nat.le_of_ble_eq_true rfl)
def sX0_size_r (σ : gS) (k : Nat) : Int32 := (3 : Int32)
set_option maxRecDepth 100000 in
set_option maxHeartbeats 4000000 in
theorem kX0_size (l : Launch) (E : gT) (σ : gS) (k : Nat) (hk : k < 65) (hKk : gK k = 0) : gMi l yX0_size wsX0_size ({ frames := 0, cells := 0, slots := 0, locals := 0 }) 0 0 E σ [.ref (E.2.2 k)] (sX0_size_r σ k) σ := by
  refine g_met (mc := 0) (ms := 0) (nL := 1) (ret := (some .int)) (by decide) rfl (lv := [(0, .ref (E.2.2 k))]) rfl (Nat.le_of_ble_eq_true rfl) ?_
  intro p e s m below meth c S hr hlocks hC
  refine g_const S dX0_size_0 (v := 3) rfl ?_
  exact g_iret S hr hlocks dX0_size_1 rfl rfl (Nat.le_of_ble_eq_true rfl) (Nat.le_of_ble_eq_true rfl)
def sX0_tell_r (σ : gS) (k w : Nat) : Int32 := σ.1 k w
set_option maxRecDepth 100000 in
set_option maxHeartbeats 4000000 in
theorem kX0_tell (l : Launch) (E : gT) (σ : gS) (k : Nat) (hk : k < 65) (hKk : gK k = 0) (w : Nat) (hw : w < 3) : gMi l yX0_tell wsX0_tell ({ frames := 0, cells := 0, slots := 0, locals := 0 }) 0 0 E σ [.ref (E.2.2 k), .int (nI w)] (sX0_tell_r σ k w) σ := by
  refine g_met (mc := 0) (ms := 0) (nL := 2) (ret := (some .int)) (by decide) rfl (lv := [(0, .ref (E.2.2 k)), (1, .int (nI w))]) rfl (Nat.le_of_ble_eq_true rfl) ?_
  intro p e s m below meth c S hr hlocks hC
  have hiX0 : ∀ w ∈ wsX00, w ∈ wsX0_tell := by decide +kernel
  rcases (show w = 0 ∨ w = 1 ∨ w = 2 by omega) with rfl | rfl | rfl
  · skip
    refine g_iload_n S 1 dX0_tell_0 rfl ?_
    refine g_lk S 28 dX0_tell_1 rfl rfl (by decide) ?_
    refine g_aload_n S 0 dX0_tell_28 rfl ?_
    refine gg0 S hC hiX0 hk hKk 0 (by decide) (by decide +kernel) dX0_tell_29 ?_
    exact g_iret S hr hlocks dX0_tell_32 rfl rfl (Nat.le_of_ble_eq_true rfl) (Nat.le_of_ble_eq_true rfl)
  · skip
    refine g_iload_n S 1 dX0_tell_0 rfl ?_
    refine g_lk S 33 dX0_tell_1 rfl rfl (by decide) ?_
    refine g_aload_n S 0 dX0_tell_33 rfl ?_
    refine gg0 S hC hiX0 hk hKk 1 (by decide) (by decide +kernel) dX0_tell_34 ?_
    exact g_iret S hr hlocks dX0_tell_37 rfl rfl (Nat.le_of_ble_eq_true rfl) (Nat.le_of_ble_eq_true rfl)
  · skip
    refine g_iload_n S 1 dX0_tell_0 rfl ?_
    refine g_lk S 38 dX0_tell_1 rfl rfl (by decide) ?_
    refine g_aload_n S 0 dX0_tell_38 rfl ?_
    refine gg0 S hC hiX0 hk hKk 2 (by decide) (by decide +kernel) dX0_tell_39 ?_
    exact g_iret S hr hlocks dX0_tell_42 rfl rfl (Nat.le_of_ble_eq_true rfl) (Nat.le_of_ble_eq_true rfl)
def sX4_stock_r (σ : gS) (k : Nat) (a : Int32) : Int32 := if a = 0 then (σ.1 k 0) else (σ.1 k 1)
set_option maxRecDepth 100000 in
set_option maxHeartbeats 4000000 in
theorem kX4_stock (l : Launch) (E : gT) (σ : gS) (k : Nat) (hk : k < 65) (hKk : gK k = 4) (a : Int32) : gMi l yX4_stock wsX4_stock ({ frames := 0, cells := 0, slots := 0, locals := 0 }) 0 0 E σ [.ref (E.2.2 k), .int a] (sX4_stock_r σ k a) σ := by
  refine g_met (mc := 0) (ms := 0) (nL := 2) (ret := (some .int)) (by decide) rfl (lv := [(0, .ref (E.2.2 k)), (1, .int a)]) rfl (Nat.le_of_ble_eq_true rfl) ?_
  intro p e s m below meth c S hr hlocks hC
  have hiX4 : ∀ w ∈ wsX40, w ∈ wsX4_stock := by decide +kernel
  refine g_iload_n S 1 dX4_stock_0 rfl ?_
  refine g_if_ne S 11 dX4_stock_1 (by decide) (fun c_1 => ?_) (fun c_1 => ?_)
  · skip
    refine g_aload_n S 0 dX4_stock_11 rfl ?_
    refine gg4 S hC hiX4 hk hKk 1 (by decide) (by decide +kernel) dX4_stock_12 ?_
    exact g_iret S hr hlocks dX4_stock_15 (by rw [sX4_stock_r, if_neg c_1]) rfl (Nat.le_of_ble_eq_true rfl) (Nat.le_of_ble_eq_true rfl)
  · skip
    refine g_aload_n S 0 dX4_stock_4 rfl ?_
    refine gg4 S hC hiX4 hk hKk 0 (by decide) (by decide +kernel) dX4_stock_5 ?_
    refine g_goto S 15 dX4_stock_8 (by decide) ?_
    exact g_iret S hr hlocks dX4_stock_15 (by rw [sX4_stock_r, if_pos c_1]) rfl (Nat.le_of_ble_eq_true rfl) (Nat.le_of_ble_eq_true rfl)
def sX4_add_s (σ : gS) (k : Nat) (a : Int32) (b : Int32) : gS := if a = 0 then (let S2 := gu σ k 0 ((σ.1 k 0) + b); S2) else (let S1 := gu σ k 1 ((σ.1 k 1) + b); S1)
set_option maxRecDepth 100000 in
set_option maxHeartbeats 4000000 in
theorem kX4_add (l : Launch) (E : gT) (σ : gS) (k : Nat) (hk : k < 65) (hKk : gK k = 4) (a : Int32) (b : Int32) : gMv l yX4_add wsX4_add ({ frames := 0, cells := 0, slots := 0, locals := 0 }) 0 0 E σ [.ref (E.2.2 k), .int a, .int b] (sX4_add_s σ k a b) := by
  refine g_met (mc := 0) (ms := 0) (nL := 3) (ret := none) (by decide) rfl (lv := [(0, .ref (E.2.2 k)), (1, .int a), (2, .int b)]) rfl (Nat.le_of_ble_eq_true rfl) ?_
  intro p e s m below meth c S hr hlocks hC
  have hiX4 : ∀ w ∈ wsX40, w ∈ wsX4_add := by decide +kernel
  refine g_iload_n S 1 dX4_add_0 rfl ?_
  refine g_if_ne S 17 dX4_add_1 (by decide) (fun c_1 => ?_) (fun c_1 => ?_)
  · skip
    refine g_aload_n S 0 dX4_add_17 rfl ?_
    refine g_dup S dX4_add_18 rfl ?_
    refine gg4 S hC hiX4 hk hKk 1 (by decide) (by decide +kernel) dX4_add_19 ?_
    refine g_iload_n S 2 dX4_add_22 rfl ?_
    refine g_iadd S dX4_add_23 ?_
    refine gp4 S hC hiX4 hk hKk 1 (by decide) (by decide +kernel) dX4_add_24 ?_
    refine g_nm (fun S1 hS1 => ?_)
    exact g_vret S hr hlocks dX4_add_27 (by subst hS1; unfold sX4_add_s; (try dsimp only); rw [if_neg c_1]) (Nat.le_of_ble_eq_true rfl) (Nat.le_of_ble_eq_true rfl)
  · skip
    refine g_aload_n S 0 dX4_add_4 rfl ?_
    refine g_dup S dX4_add_5 rfl ?_
    refine gg4 S hC hiX4 hk hKk 0 (by decide) (by decide +kernel) dX4_add_6 ?_
    refine g_iload_n S 2 dX4_add_9 rfl ?_
    refine g_iadd S dX4_add_10 ?_
    refine gp4 S hC hiX4 hk hKk 0 (by decide) (by decide +kernel) dX4_add_11 ?_
    refine g_nm (fun S2 hS2 => ?_)
    refine g_goto S 27 dX4_add_14 (by decide) ?_
    exact g_vret S hr hlocks dX4_add_27 (by subst hS2; unfold sX4_add_s; (try dsimp only); rw [if_pos c_1]) (Nat.le_of_ble_eq_true rfl) (Nat.le_of_ble_eq_true rfl)
def sX4_addRoasted_s (σ : gS) (k : Nat) (a : Int32) (b : Int32) : gS := if a = 0 then (let S2 := gu σ k 2 ((σ.1 k 2) + b); S2) else (let S1 := gu σ k 3 ((σ.1 k 3) + b); S1)
set_option maxRecDepth 100000 in
set_option maxHeartbeats 4000000 in
theorem kX4_addRoasted (l : Launch) (E : gT) (σ : gS) (k : Nat) (hk : k < 65) (hKk : gK k = 4) (a : Int32) (b : Int32) : gMv l yX4_addRoasted wsX4_addRoasted ({ frames := 0, cells := 0, slots := 0, locals := 0 }) 0 0 E σ [.ref (E.2.2 k), .int a, .int b] (sX4_addRoasted_s σ k a b) := by
  refine g_met (mc := 0) (ms := 0) (nL := 3) (ret := none) (by decide) rfl (lv := [(0, .ref (E.2.2 k)), (1, .int a), (2, .int b)]) rfl (Nat.le_of_ble_eq_true rfl) ?_
  intro p e s m below meth c S hr hlocks hC
  have hiX4 : ∀ w ∈ wsX40, w ∈ wsX4_addRoasted := by decide +kernel
  refine g_iload_n S 1 dX4_addRoasted_0 rfl ?_
  refine g_if_ne S 17 dX4_addRoasted_1 (by decide) (fun c_1 => ?_) (fun c_1 => ?_)
  · skip
    refine g_aload_n S 0 dX4_addRoasted_17 rfl ?_
    refine g_dup S dX4_addRoasted_18 rfl ?_
    refine gg4 S hC hiX4 hk hKk 3 (by decide) (by decide +kernel) dX4_addRoasted_19 ?_
    refine g_iload_n S 2 dX4_addRoasted_22 rfl ?_
    refine g_iadd S dX4_addRoasted_23 ?_
    refine gp4 S hC hiX4 hk hKk 3 (by decide) (by decide +kernel) dX4_addRoasted_24 ?_
    refine g_nm (fun S1 hS1 => ?_)
    exact g_vret S hr hlocks dX4_addRoasted_27 (by subst hS1; unfold sX4_addRoasted_s; (try dsimp only); rw [if_neg c_1]) (Nat.le_of_ble_eq_true rfl) (Nat.le_of_ble_eq_true rfl)
  · skip
    refine g_aload_n S 0 dX4_addRoasted_4 rfl ?_
    refine g_dup S dX4_addRoasted_5 rfl ?_
    refine gg4 S hC hiX4 hk hKk 2 (by decide) (by decide +kernel) dX4_addRoasted_6 ?_
    refine g_iload_n S 2 dX4_addRoasted_9 rfl ?_
    refine g_iadd S dX4_addRoasted_10 ?_
    refine gp4 S hC hiX4 hk hKk 2 (by decide) (by decide +kernel) dX4_addRoasted_11 ?_
    refine g_nm (fun S2 hS2 => ?_)
    refine g_goto S 27 dX4_addRoasted_14 (by decide) ?_
    exact g_vret S hr hlocks dX4_addRoasted_27 (by subst hS2; unfold sX4_addRoasted_s; (try dsimp only); rw [if_pos c_1]) (Nat.le_of_ble_eq_true rfl) (Nat.le_of_ble_eq_true rfl)
def sX4_coffeeOfPortion_r (σ : gS) (k : Nat) : Int32 := gmin (σ.1 k 4) (σ.1 k 3)
set_option maxRecDepth 100000 in
set_option maxHeartbeats 4000000 in
theorem kX4_coffeeOfPortion (l : Launch) (E : gT) (σ : gS) (k : Nat) (hk : k < 65) (hKk : gK k = 4) : gMi l yX4_coffeeOfPortion wsX4_coffeeOfPortion ({ frames := 1, cells := 0, slots := 0, locals := 24 }) 0 0 E σ [.ref (E.2.2 k)] (sX4_coffeeOfPortion_r σ k) σ := by
  refine g_met (mc := 0) (ms := 0) (nL := 1) (ret := (some .int)) (by decide) rfl (lv := [(0, .ref (E.2.2 k))]) rfl (Nat.le_of_ble_eq_true rfl) ?_
  intro p e s m below meth c S hr hlocks hC
  have hiX4 : ∀ w ∈ wsX40, w ∈ wsX4_coffeeOfPortion := by decide +kernel
  refine g_aload_n S 0 dX4_coffeeOfPortion_0 rfl ?_
  refine gg4 S hC hiX4 hk hKk 4 (by decide) (by decide +kernel) dX4_coffeeOfPortion_1 ?_
  refine g_aload_n S 0 dX4_coffeeOfPortion_4 rfl ?_
  refine gg4 S hC hiX4 hk hKk 3 (by decide) (by decide +kernel) dX4_coffeeOfPortion_5 ?_
  refine g_mn S (by decide +kernel) (by decide +kernel) (by decide +kernel) (by decide +kernel) (Nat.le_of_ble_eq_true rfl) (Nat.le_of_ble_eq_true rfl) (Nat.le_of_ble_eq_true rfl) (Nat.le_of_ble_eq_true rfl) dX4_coffeeOfPortion_8 ?_
  exact g_iret S hr hlocks dX4_coffeeOfPortion_11 rfl rfl (Nat.le_of_ble_eq_true rfl) (Nat.le_of_ble_eq_true rfl)
def sX4_canMix_r (σ : gS) (k : Nat) (a : Int32) : Int32 := if σ.1 k 2 < (10 : Int32) - a then ((0 : Int32)) else ((1 : Int32))
theorem bX4_canMix (σ : gS) (k : Nat) (a : Int32) : sX4_canMix_r σ k a = 0 ∨ sX4_canMix_r σ k a = 1 := by
  unfold sX4_canMix_r
  repeat' split
  all_goals first | exact Or.inl rfl | exact Or.inr rfl
set_option maxRecDepth 100000 in
set_option maxHeartbeats 4000000 in
theorem kX4_canMix (l : Launch) (E : gT) (σ : gS) (k : Nat) (hk : k < 65) (hKk : gK k = 4) (a : Int32) : gMi l yX4_canMix wsX4_canMix ({ frames := 0, cells := 0, slots := 0, locals := 0 }) 0 0 E σ [.ref (E.2.2 k), .int a] (sX4_canMix_r σ k a) σ := by
  refine g_met (mc := 0) (ms := 0) (nL := 2) (ret := (some .boolean)) (by decide) rfl (lv := [(0, .ref (E.2.2 k)), (1, .int a)]) rfl (Nat.le_of_ble_eq_true rfl) ?_
  intro p e s m below meth c S hr hlocks hC
  have hiX4 : ∀ w ∈ wsX40, w ∈ wsX4_canMix := by decide +kernel
  refine g_aload_n S 0 dX4_canMix_0 rfl ?_
  refine gg4 S hC hiX4 hk hKk 2 (by decide) (by decide +kernel) dX4_canMix_1 ?_
  refine g_bipush S dX4_canMix_4 (v := 10) rfl ?_
  refine g_iload_n S 1 dX4_canMix_6 rfl ?_
  refine g_isub S dX4_canMix_7 ?_
  refine g_icmp_lt S 15 dX4_canMix_8 (by decide) (fun c_1 => ?_) (fun c_1 => ?_)
  · skip
    refine g_const S dX4_canMix_15 (v := 0) rfl ?_
    exact g_zret S hr hlocks dX4_canMix_16 rfl (by rw [sX4_canMix_r, if_pos c_1]) rfl (Nat.le_of_ble_eq_true rfl) (Nat.le_of_ble_eq_true rfl)
  · skip
    refine g_const S dX4_canMix_11 (v := 1) rfl ?_
    refine g_goto S 16 dX4_canMix_12 (by decide) ?_
    exact g_zret S hr hlocks dX4_canMix_16 rfl (by rw [sX4_canMix_r, if_neg c_1]) rfl (Nat.le_of_ble_eq_true rfl) (Nat.le_of_ble_eq_true rfl)
def sX4_servePortion_s (σ : gS) (k : Nat) (a : Int32) : gS := if σ.1 k 4 ≤ a then (let S1 := gu σ k 3 ((σ.1 k 3) - a); let S2 := gu S1 k 2 ((S1.1 k 2) - ((10 : Int32) - a)); let S3 := gu S2 k 5 ((S2.1 k 5) + (1 : Int32)); S3) else (let S4 := gu σ k 6 ((σ.1 k 6) + (1 : Int32)); let S5 := gu S4 k 3 ((S4.1 k 3) - a); let S6 := gu S5 k 2 ((S5.1 k 2) - ((10 : Int32) - a)); let S7 := gu S6 k 5 ((S6.1 k 5) + (1 : Int32)); S7)
set_option maxRecDepth 100000 in
set_option maxHeartbeats 4000000 in
theorem kX4_servePortion (l : Launch) (E : gT) (σ : gS) (k : Nat) (hk : k < 65) (hKk : gK k = 4) (a : Int32) : gMv l yX4_servePortion wsX4_servePortion ({ frames := 0, cells := 0, slots := 0, locals := 0 }) 0 0 E σ [.ref (E.2.2 k), .int a] (sX4_servePortion_s σ k a) := by
  refine g_met (mc := 0) (ms := 0) (nL := 2) (ret := none) (by decide) rfl (lv := [(0, .ref (E.2.2 k)), (1, .int a)]) rfl (Nat.le_of_ble_eq_true rfl) ?_
  intro p e s m below meth c S hr hlocks hC
  have hiX4 : ∀ w ∈ wsX40, w ∈ wsX4_servePortion := by decide +kernel
  refine g_iload_n S 1 dX4_servePortion_0 rfl ?_
  refine g_aload_n S 0 dX4_servePortion_1 rfl ?_
  refine gg4 S hC hiX4 hk hKk 4 (by decide) (by decide +kernel) dX4_servePortion_2 ?_
  refine g_icmp_ge S 18 dX4_servePortion_5 (by decide) (fun c_1 => ?_) (fun c_1 => ?_)
  · skip
    refine g_aload_n S 0 dX4_servePortion_18 rfl ?_
    refine g_dup S dX4_servePortion_19 rfl ?_
    refine gg4 S hC hiX4 hk hKk 3 (by decide) (by decide +kernel) dX4_servePortion_20 ?_
    refine g_iload_n S 1 dX4_servePortion_23 rfl ?_
    refine g_isub S dX4_servePortion_24 ?_
    refine gp4 S hC hiX4 hk hKk 3 (by decide) (by decide +kernel) dX4_servePortion_25 ?_
    refine g_nm (fun S1 hS1 => ?_)
    refine g_aload_n S 0 dX4_servePortion_28 rfl ?_
    refine g_dup S dX4_servePortion_29 rfl ?_
    refine gg4 S hC hiX4 hk hKk 2 (by decide) (by decide +kernel) dX4_servePortion_30 ?_
    refine g_bipush S dX4_servePortion_33 (v := 10) rfl ?_
    refine g_iload_n S 1 dX4_servePortion_35 rfl ?_
    refine g_isub S dX4_servePortion_36 ?_
    refine g_isub S dX4_servePortion_37 ?_
    refine gp4 S hC hiX4 hk hKk 2 (by decide) (by decide +kernel) dX4_servePortion_38 ?_
    refine g_nm (fun S2 hS2 => ?_)
    refine g_aload_n S 0 dX4_servePortion_41 rfl ?_
    refine g_dup S dX4_servePortion_42 rfl ?_
    refine gg4 S hC hiX4 hk hKk 5 (by decide) (by decide +kernel) dX4_servePortion_43 ?_
    refine g_const S dX4_servePortion_46 (v := 1) rfl ?_
    refine g_iadd S dX4_servePortion_47 ?_
    refine gp4 S hC hiX4 hk hKk 5 (by decide) (by decide +kernel) dX4_servePortion_48 ?_
    refine g_nm (fun S3 hS3 => ?_)
    exact g_vret S hr hlocks dX4_servePortion_51 (by subst hS3 hS2 hS1; unfold sX4_servePortion_s; (try dsimp only); rw [if_pos c_1]) (Nat.le_of_ble_eq_true rfl) (Nat.le_of_ble_eq_true rfl)
  · skip
    refine g_aload_n S 0 dX4_servePortion_8 rfl ?_
    refine g_dup S dX4_servePortion_9 rfl ?_
    refine gg4 S hC hiX4 hk hKk 6 (by decide) (by decide +kernel) dX4_servePortion_10 ?_
    refine g_const S dX4_servePortion_13 (v := 1) rfl ?_
    refine g_iadd S dX4_servePortion_14 ?_
    refine gp4 S hC hiX4 hk hKk 6 (by decide) (by decide +kernel) dX4_servePortion_15 ?_
    refine g_nm (fun S4 hS4 => ?_)
    refine g_aload_n S 0 dX4_servePortion_18 rfl ?_
    refine g_dup S dX4_servePortion_19 rfl ?_
    refine gg4 S hC hiX4 hk hKk 3 (by decide) (by decide +kernel) dX4_servePortion_20 ?_
    refine g_iload_n S 1 dX4_servePortion_23 rfl ?_
    refine g_isub S dX4_servePortion_24 ?_
    refine gp4 S hC hiX4 hk hKk 3 (by decide) (by decide +kernel) dX4_servePortion_25 ?_
    refine g_nm (fun S5 hS5 => ?_)
    refine g_aload_n S 0 dX4_servePortion_28 rfl ?_
    refine g_dup S dX4_servePortion_29 rfl ?_
    refine gg4 S hC hiX4 hk hKk 2 (by decide) (by decide +kernel) dX4_servePortion_30 ?_
    refine g_bipush S dX4_servePortion_33 (v := 10) rfl ?_
    refine g_iload_n S 1 dX4_servePortion_35 rfl ?_
    refine g_isub S dX4_servePortion_36 ?_
    refine g_isub S dX4_servePortion_37 ?_
    refine gp4 S hC hiX4 hk hKk 2 (by decide) (by decide +kernel) dX4_servePortion_38 ?_
    refine g_nm (fun S6 hS6 => ?_)
    refine g_aload_n S 0 dX4_servePortion_41 rfl ?_
    refine g_dup S dX4_servePortion_42 rfl ?_
    refine gg4 S hC hiX4 hk hKk 5 (by decide) (by decide +kernel) dX4_servePortion_43 ?_
    refine g_const S dX4_servePortion_46 (v := 1) rfl ?_
    refine g_iadd S dX4_servePortion_47 ?_
    refine gp4 S hC hiX4 hk hKk 5 (by decide) (by decide +kernel) dX4_servePortion_48 ?_
    refine g_nm (fun S7 hS7 => ?_)
    exact g_vret S hr hlocks dX4_servePortion_51 (by subst hS7 hS6 hS5 hS4; unfold sX4_servePortion_s; (try dsimp only); rw [if_neg c_1]) (Nat.le_of_ble_eq_true rfl) (Nat.le_of_ble_eq_true rfl)
def sX4_become_s (σ : gS) (k : Nat) (o : Nat) : gS := let S1 := gu σ k 0 (σ.1 o 0); let S2 := gu S1 k 1 (S1.1 o 1); let S3 := gu S2 k 2 (S2.1 o 2); let S4 := gu S3 k 3 (S3.1 o 3); let S5 := gu S4 k 4 (S4.1 o 4); let S6 := gu S5 k 5 (S5.1 o 5); let S7 := gu S6 k 6 (S6.1 o 6); S7
set_option maxRecDepth 100000 in
set_option maxHeartbeats 4000000 in
theorem kX4_become (l : Launch) (E : gT) (σ : gS) (k : Nat) (hk : k < 65) (hKk : gK k = 4) (o : Nat) (ho : o < 65) (hKo : gK o = 4) : gMv l yX4_become wsX4_become ({ frames := 0, cells := 0, slots := 0, locals := 0 }) 0 0 E σ [.ref (E.2.2 k), .ref (E.2.2 o)] (sX4_become_s σ k o) := by
  refine g_met (mc := 0) (ms := 0) (nL := 2) (ret := none) (by decide) rfl (lv := [(0, .ref (E.2.2 k)), (1, .ref (E.2.2 o))]) rfl (Nat.le_of_ble_eq_true rfl) ?_
  intro p e s m below meth c S hr hlocks hC
  have hiX4 : ∀ w ∈ wsX40, w ∈ wsX4_become := by decide +kernel
  refine g_aload_n S 0 dX4_become_0 rfl ?_
  refine g_aload_n S 1 dX4_become_1 rfl ?_
  refine gg4 S hC hiX4 ho hKo 0 (by decide) (by decide +kernel) dX4_become_2 ?_
  refine gp4 S hC hiX4 hk hKk 0 (by decide) (by decide +kernel) dX4_become_5 ?_
  refine g_nm (fun S1 hS1 => ?_)
  refine g_aload_n S 0 dX4_become_8 rfl ?_
  refine g_aload_n S 1 dX4_become_9 rfl ?_
  refine gg4 S hC hiX4 ho hKo 1 (by decide) (by decide +kernel) dX4_become_10 ?_
  refine gp4 S hC hiX4 hk hKk 1 (by decide) (by decide +kernel) dX4_become_13 ?_
  refine g_nm (fun S2 hS2 => ?_)
  refine g_aload_n S 0 dX4_become_16 rfl ?_
  refine g_aload_n S 1 dX4_become_17 rfl ?_
  refine gg4 S hC hiX4 ho hKo 2 (by decide) (by decide +kernel) dX4_become_18 ?_
  refine gp4 S hC hiX4 hk hKk 2 (by decide) (by decide +kernel) dX4_become_21 ?_
  refine g_nm (fun S3 hS3 => ?_)
  refine g_aload_n S 0 dX4_become_24 rfl ?_
  refine g_aload_n S 1 dX4_become_25 rfl ?_
  refine gg4 S hC hiX4 ho hKo 3 (by decide) (by decide +kernel) dX4_become_26 ?_
  refine gp4 S hC hiX4 hk hKk 3 (by decide) (by decide +kernel) dX4_become_29 ?_
  refine g_nm (fun S4 hS4 => ?_)
  refine g_aload_n S 0 dX4_become_32 rfl ?_
  refine g_aload_n S 1 dX4_become_33 rfl ?_
  refine gg4 S hC hiX4 ho hKo 4 (by decide) (by decide +kernel) dX4_become_34 ?_
  refine gp4 S hC hiX4 hk hKk 4 (by decide) (by decide +kernel) dX4_become_37 ?_
  refine g_nm (fun S5 hS5 => ?_)
  refine g_aload_n S 0 dX4_become_40 rfl ?_
  refine g_aload_n S 1 dX4_become_41 rfl ?_
  refine gg4 S hC hiX4 ho hKo 5 (by decide) (by decide +kernel) dX4_become_42 ?_
  refine gp4 S hC hiX4 hk hKk 5 (by decide) (by decide +kernel) dX4_become_45 ?_
  refine g_nm (fun S6 hS6 => ?_)
  refine g_aload_n S 0 dX4_become_48 rfl ?_
  refine g_aload_n S 1 dX4_become_49 rfl ?_
  refine gg4 S hC hiX4 ho hKo 6 (by decide) (by decide +kernel) dX4_become_50 ?_
  refine gp4 S hC hiX4 hk hKk 6 (by decide) (by decide +kernel) dX4_become_53 ?_
  refine g_nm (fun S7 hS7 => ?_)
  exact g_vret S hr hlocks dX4_become_56 (by subst hS7 hS6 hS5 hS4 hS3 hS2 hS1; rfl) (Nat.le_of_ble_eq_true rfl) (Nat.le_of_ble_eq_true rfl)
def sX1_issue_s (σ : gS) (k : Nat) (a : Int32) (b : Int32) : gS := let S1 := gu σ k 0 a; let S2 := gu S1 k 1 b; let S3 := gu S2 k 2 a; S3
set_option maxRecDepth 100000 in
set_option maxHeartbeats 4000000 in
theorem kX1_issue (l : Launch) (E : gT) (σ : gS) (k : Nat) (hk : k < 65) (hKk : gK k = 1) (a : Int32) (b : Int32) : gMv l yX1_issue wsX1_issue ({ frames := 0, cells := 0, slots := 0, locals := 0 }) 0 0 E σ [.ref (E.2.2 k), .int a, .int b] (sX1_issue_s σ k a b) := by
  refine g_met (mc := 0) (ms := 0) (nL := 3) (ret := none) (by decide) rfl (lv := [(0, .ref (E.2.2 k)), (1, .int a), (2, .int b)]) rfl (Nat.le_of_ble_eq_true rfl) ?_
  intro p e s m below meth c S hr hlocks hC
  have hiX1 : ∀ w ∈ wsX10, w ∈ wsX1_issue := by decide +kernel
  refine g_aload_n S 0 dX1_issue_0 rfl ?_
  refine g_iload_n S 1 dX1_issue_1 rfl ?_
  refine gp1 S hC hiX1 hk hKk 0 (by decide) (by decide +kernel) dX1_issue_2 ?_
  refine g_nm (fun S1 hS1 => ?_)
  refine g_aload_n S 0 dX1_issue_5 rfl ?_
  refine g_iload_n S 2 dX1_issue_6 rfl ?_
  refine gp1 S hC hiX1 hk hKk 1 (by decide) (by decide +kernel) dX1_issue_7 ?_
  refine g_nm (fun S2 hS2 => ?_)
  refine g_aload_n S 0 dX1_issue_10 rfl ?_
  refine g_iload_n S 1 dX1_issue_11 rfl ?_
  refine gp1 S hC hiX1 hk hKk 2 (by decide) (by decide +kernel) dX1_issue_12 ?_
  refine g_nm (fun S3 hS3 => ?_)
  exact g_vret S hr hlocks dX1_issue_15 (by subst hS3 hS2 hS1; rfl) (Nat.le_of_ble_eq_true rfl) (Nat.le_of_ble_eq_true rfl)
def sX1_renew_s (σ : gS) (k : Nat) : gS := let S1 := gu σ k 2 (σ.1 k 0); S1
set_option maxRecDepth 100000 in
set_option maxHeartbeats 4000000 in
theorem kX1_renew (l : Launch) (E : gT) (σ : gS) (k : Nat) (hk : k < 65) (hKk : gK k = 1) : gMv l yX1_renew wsX1_renew ({ frames := 0, cells := 0, slots := 0, locals := 0 }) 0 0 E σ [.ref (E.2.2 k)] (sX1_renew_s σ k) := by
  refine g_met (mc := 0) (ms := 0) (nL := 1) (ret := none) (by decide) rfl (lv := [(0, .ref (E.2.2 k))]) rfl (Nat.le_of_ble_eq_true rfl) ?_
  intro p e s m below meth c S hr hlocks hC
  have hiX1 : ∀ w ∈ wsX10, w ∈ wsX1_renew := by decide +kernel
  refine g_aload_n S 0 dX1_renew_0 rfl ?_
  refine g_aload_n S 0 dX1_renew_1 rfl ?_
  refine gg1 S hC hiX1 hk hKk 0 (by decide) (by decide +kernel) dX1_renew_2 ?_
  refine gp1 S hC hiX1 hk hKk 2 (by decide) (by decide +kernel) dX1_renew_5 ?_
  refine g_nm (fun S1 hS1 => ?_)
  exact g_vret S hr hlocks dX1_renew_8 (by subst hS1; rfl) (Nat.le_of_ble_eq_true rfl) (Nat.le_of_ble_eq_true rfl)
def sX1_serveOne_r (σ : gS) (k : Nat) (q : Nat) : Int32 := if σ.1 k 2 = 0 then ((0 : Int32)) else (if sX4_canMix_r σ q (sX4_coffeeOfPortion_r σ q) = 0 then ((0 : Int32)) else (if σ.1 k 1 ≤ sX4_coffeeOfPortion_r σ q then ((1 : Int32)) else ((0 : Int32))))
def sX1_serveOne_s (σ : gS) (k : Nat) (q : Nat) : gS := if σ.1 k 2 = 0 then (σ) else (if sX4_canMix_r σ q (sX4_coffeeOfPortion_r σ q) = 0 then (σ) else (if σ.1 k 1 ≤ sX4_coffeeOfPortion_r σ q then (let S1 := sX4_servePortion_s σ q (sX4_coffeeOfPortion_r σ q); let S2 := gu S1 k 2 ((S1.1 k 2) - (1 : Int32)); let S3 := gu S2 k 3 ((S2.1 k 3) + (1 : Int32)); S3) else (let S4 := gu σ k 4 ((σ.1 k 4) + (1 : Int32)); S4)))
theorem bX1_serveOne (σ : gS) (k : Nat) (q : Nat) : sX1_serveOne_r σ k q = 0 ∨ sX1_serveOne_r σ k q = 1 := by
  unfold sX1_serveOne_r
  repeat' split
  all_goals first | exact Or.inl rfl | exact Or.inr rfl
set_option maxRecDepth 100000 in
set_option maxHeartbeats 4000000 in
theorem kX1_serveOne (l : Launch) (E : gT) (σ : gS) (k : Nat) (hk : k < 65) (hKk : gK k = 1) (q : Nat) (hq : q < 65) (hKq : gK q = 4) : gMi l yX1_serveOne wsX1_serveOne ({ frames := 2, cells := 0, slots := 0, locals := 44 }) 0 0 E σ [.ref (E.2.2 k), .ref (E.2.2 q)] (sX1_serveOne_r σ k q) (sX1_serveOne_s σ k q) := by
  refine g_met (mc := 0) (ms := 0) (nL := 3) (ret := (some .boolean)) (by decide) rfl (lv := [(0, .ref (E.2.2 k)), (1, .ref (E.2.2 q))]) rfl (Nat.le_of_ble_eq_true rfl) ?_
  intro p e s m below meth c S hr hlocks hC
  have hiX1 : ∀ w ∈ wsX10, w ∈ wsX1_serveOne := by decide +kernel
  refine g_aload_n S 1 dX1_serveOne_0 rfl ?_
  refine g_calli (g_runV S hC (As := []) (rest := []) (k := q) hq hKq (by decide) rfl (kX4_coffeeOfPortion l E σ q hq hKq) (cwV 0 S.2.2.2.2 gX1_serveOne_X4_coffeeOfPortion rfl rfl rfl (by decide +kernel) ⟨Nat.le_of_ble_eq_true rfl, Nat.le_of_ble_eq_true rfl⟩) rfl rfl (Nat.le_of_ble_eq_true rfl) dX1_serveOne_1 ⟨Nat.le_of_ble_eq_true rfl, Nat.le_of_ble_eq_true rfl⟩) ?_
  refine g_istore_n S [(2, .int (sX4_coffeeOfPortion_r σ q)), (0, .ref (E.2.2 k)), (1, .ref (E.2.2 q))] dX1_serveOne_4 (by decide) rfl ?_
  refine g_aload_n S 1 dX1_serveOne_5 rfl ?_
  refine gg1 S hC hiX1 hk hKk 2 (by decide) (by decide +kernel) dX1_serveOne_6 ?_
  refine g_if_eq S 20 dX1_serveOne_9 (by decide) (fun c_1 => ?_) (fun c_1 => ?_)
  · skip
    refine g_const S dX1_serveOne_20 (v := 0) rfl ?_
    exact g_zret S hr hlocks dX1_serveOne_21 rfl (by rw [sX1_serveOne_r, if_pos c_1]) (by rw [sX1_serveOne_s, if_pos c_1]) (Nat.le_of_ble_eq_true rfl) (Nat.le_of_ble_eq_true rfl)
  · skip
    refine g_aload_n S 2 dX1_serveOne_12 rfl ?_
    refine g_iload_n S 0 dX1_serveOne_13 rfl ?_
    refine g_calli (g_runV S hC (As := [.int (sX4_coffeeOfPortion_r σ q)]) (rest := []) (k := q) hq hKq (by decide) rfl (kX4_canMix l E σ q hq hKq (sX4_coffeeOfPortion_r σ q)) (cwV 1 S.2.2.2.2 gX1_serveOne_X4_canMix rfl rfl rfl (by decide +kernel) ⟨Nat.le_of_ble_eq_true rfl, Nat.le_of_ble_eq_true rfl⟩) rfl rfl (Nat.le_of_ble_eq_true rfl) dX1_serveOne_14 ⟨Nat.le_of_ble_eq_true rfl, Nat.le_of_ble_eq_true rfl⟩) ?_
    refine g_if_ne S 22 dX1_serveOne_17 (by decide) (fun c_2 => ?_) (fun c_2 => ?_)
    · skip
      refine g_iload_n S 0 dX1_serveOne_22 rfl ?_
      refine g_aload_n S 1 dX1_serveOne_23 rfl ?_
      refine gg1 S hC hiX1 hk hKk 1 (by decide) (by decide +kernel) dX1_serveOne_24 ?_
      refine g_icmp_ge S 42 dX1_serveOne_27 (by decide) (fun c_3 => ?_) (fun c_3 => ?_)
      · skip
        refine g_aload_n S 2 dX1_serveOne_42 rfl ?_
        refine g_iload_n S 0 dX1_serveOne_43 rfl ?_
        refine g_callv (g_runV S hC (As := [.int (sX4_coffeeOfPortion_r σ q)]) (rest := []) (k := q) hq hKq (by decide) rfl (kX4_servePortion l E σ q hq hKq (sX4_coffeeOfPortion_r σ q)) (cwV 1 S.2.2.2.2 gX1_serveOne_X4_servePortion rfl rfl rfl (by decide +kernel) ⟨Nat.le_of_ble_eq_true rfl, Nat.le_of_ble_eq_true rfl⟩) rfl rfl (Nat.le_of_ble_eq_true rfl) dX1_serveOne_44 ⟨Nat.le_of_ble_eq_true rfl, Nat.le_of_ble_eq_true rfl⟩) ?_
        refine g_nm (fun S1 hS1 => ?_)
        refine g_aload_n S 1 dX1_serveOne_47 rfl ?_
        refine g_dup S dX1_serveOne_48 rfl ?_
        refine gg1 S hC hiX1 hk hKk 2 (by decide) (by decide +kernel) dX1_serveOne_49 ?_
        refine g_const S dX1_serveOne_52 (v := 1) rfl ?_
        refine g_isub S dX1_serveOne_53 ?_
        refine gp1 S hC hiX1 hk hKk 2 (by decide) (by decide +kernel) dX1_serveOne_54 ?_
        refine g_nm (fun S2 hS2 => ?_)
        refine g_aload_n S 1 dX1_serveOne_57 rfl ?_
        refine g_dup S dX1_serveOne_58 rfl ?_
        refine gg1 S hC hiX1 hk hKk 3 (by decide) (by decide +kernel) dX1_serveOne_59 ?_
        refine g_const S dX1_serveOne_62 (v := 1) rfl ?_
        refine g_iadd S dX1_serveOne_63 ?_
        refine gp1 S hC hiX1 hk hKk 3 (by decide) (by decide +kernel) dX1_serveOne_64 ?_
        refine g_nm (fun S3 hS3 => ?_)
        refine g_const S dX1_serveOne_67 (v := 1) rfl ?_
        exact g_zret S hr hlocks dX1_serveOne_68 rfl (by subst hS3 hS2 hS1; unfold sX1_serveOne_r; (try dsimp only); rw [if_neg c_1, if_neg c_2, if_pos c_3]) (by subst hS3 hS2 hS1; unfold sX1_serveOne_s; (try dsimp only); rw [if_neg c_1, if_neg c_2, if_pos c_3]) (Nat.le_of_ble_eq_true rfl) (Nat.le_of_ble_eq_true rfl)
      · skip
        refine g_aload_n S 1 dX1_serveOne_30 rfl ?_
        refine g_dup S dX1_serveOne_31 rfl ?_
        refine gg1 S hC hiX1 hk hKk 4 (by decide) (by decide +kernel) dX1_serveOne_32 ?_
        refine g_const S dX1_serveOne_35 (v := 1) rfl ?_
        refine g_iadd S dX1_serveOne_36 ?_
        refine gp1 S hC hiX1 hk hKk 4 (by decide) (by decide +kernel) dX1_serveOne_37 ?_
        refine g_nm (fun S4 hS4 => ?_)
        refine g_const S dX1_serveOne_40 (v := 0) rfl ?_
        exact g_zret S hr hlocks dX1_serveOne_41 rfl (by subst hS4; unfold sX1_serveOne_r; (try dsimp only); rw [if_neg c_1, if_neg c_2, if_neg c_3]) (by subst hS4; unfold sX1_serveOne_s; (try dsimp only); rw [if_neg c_1, if_neg c_2, if_neg c_3]) (Nat.le_of_ble_eq_true rfl) (Nat.le_of_ble_eq_true rfl)
    · skip
      refine g_const S dX1_serveOne_20 (v := 0) rfl ?_
      exact g_zret S hr hlocks dX1_serveOne_21 rfl (by rw [sX1_serveOne_r, if_neg c_1, if_pos c_2]) (by rw [sX1_serveOne_s, if_neg c_1, if_pos c_2]) (Nat.le_of_ble_eq_true rfl) (Nat.le_of_ble_eq_true rfl)
def sX1_serveDay_r (σ : gS) (k : Nat) (q : Nat) : Int32 := let S1 := sX1_serveOne_s σ k q; if sX1_serveOne_r σ k q = 0 then ((0 : Int32)) else (if sX1_serveOne_r S1 k q = 0 then ((1 : Int32)) else ((2 : Int32)))
def sX1_serveDay_s (σ : gS) (k : Nat) (q : Nat) : gS := let S1 := sX1_serveOne_s σ k q; if sX1_serveOne_r σ k q = 0 then (S1) else (let S2 := sX1_serveOne_s S1 k q; if sX1_serveOne_r S1 k q = 0 then (S2) else (S2))
set_option maxRecDepth 100000 in
set_option maxHeartbeats 4000000 in
theorem kX1_serveDay (l : Launch) (E : gT) (σ : gS) (k : Nat) (hk : k < 65) (hKk : gK k = 1) (q : Nat) (hq : q < 65) (hKq : gK q = 4) : gMi l yX1_serveDay wsX1_serveDay ({ frames := 3, cells := 0, slots := 0, locals := 66 }) 0 0 E σ [.ref (E.2.2 k), .ref (E.2.2 q)] (sX1_serveDay_r σ k q) (sX1_serveDay_s σ k q) := by
  refine g_met (mc := 0) (ms := 0) (nL := 3) (ret := (some .int)) (by decide) rfl (lv := [(0, .ref (E.2.2 k)), (1, .ref (E.2.2 q))]) rfl (Nat.le_of_ble_eq_true rfl) ?_
  intro p e s m below meth c S hr hlocks hC
  refine g_const S dX1_serveDay_0 (v := 0) rfl ?_
  refine g_istore_n S [(2, .int (0 : Int32)), (0, .ref (E.2.2 k)), (1, .ref (E.2.2 q))] dX1_serveDay_1 (by decide) rfl ?_
  refine g_iload_n S 0 dX1_serveDay_2 rfl ?_
  refine g_const S dX1_serveDay_3 (v := 2) rfl ?_
  refine g_icmp_ge S 21 dX1_serveDay_4 (by decide) (fun c_1 => absurd c_1 (by decide)) (fun c_1 => ?_)
  refine g_aload_n S 1 dX1_serveDay_7 rfl ?_
  refine g_aload_n S 2 dX1_serveDay_8 rfl ?_
  refine g_calli (g_runV S hC (As := [.ref (E.2.2 q)]) (rest := []) (k := k) hk hKk (by decide) rfl (kX1_serveOne l E σ k hk hKk q hq hKq) (cwV 1 S.2.2.2.2 gX1_serveDay_X1_serveOne rfl rfl rfl (by decide +kernel) ⟨Nat.le_of_ble_eq_true rfl, Nat.le_of_ble_eq_true rfl⟩) rfl rfl (Nat.le_of_ble_eq_true rfl) dX1_serveDay_9 ⟨Nat.le_of_ble_eq_true rfl, Nat.le_of_ble_eq_true rfl⟩) ?_
  refine g_nm (fun S1 hS1 => ?_)
  refine g_if_eq S 21 dX1_serveDay_12 (by decide) (fun c_2 => ?_) (fun c_2 => ?_)
  · skip
    refine g_iload_n S 0 dX1_serveDay_21 rfl ?_
    exact g_iret S hr hlocks dX1_serveDay_22 (by subst hS1; unfold sX1_serveDay_r; (try dsimp only); rw [if_pos c_2]) (by subst hS1; unfold sX1_serveDay_s; (try dsimp only); rw [if_pos c_2]) (Nat.le_of_ble_eq_true rfl) (Nat.le_of_ble_eq_true rfl)
  · skip
    refine g_iinc S [(2, .int (1 : Int32)), (0, .ref (E.2.2 k)), (1, .ref (E.2.2 q))] 0 (1 : Int32) dX1_serveDay_15 rfl rfl (by decide) rfl ?_
    refine g_goto S 2 dX1_serveDay_18 (by decide) ?_
    refine g_iload_n S 0 dX1_serveDay_2 rfl ?_
    refine g_const S dX1_serveDay_3 (v := 2) rfl ?_
    refine g_icmp_ge S 21 dX1_serveDay_4 (by decide) (fun c_3 => absurd c_3 (by decide)) (fun c_3 => ?_)
    refine g_aload_n S 1 dX1_serveDay_7 rfl ?_
    refine g_aload_n S 2 dX1_serveDay_8 rfl ?_
    refine g_calli (g_runV S hC (As := [.ref (E.2.2 q)]) (rest := []) (k := k) hk hKk (by decide) rfl (kX1_serveOne l E S1 k hk hKk q hq hKq) (cwV 1 S.2.2.2.2 gX1_serveDay_X1_serveOne rfl rfl rfl (by decide +kernel) ⟨Nat.le_of_ble_eq_true rfl, Nat.le_of_ble_eq_true rfl⟩) rfl rfl (Nat.le_of_ble_eq_true rfl) dX1_serveDay_9 ⟨Nat.le_of_ble_eq_true rfl, Nat.le_of_ble_eq_true rfl⟩) ?_
    refine g_nm (fun S2 hS2 => ?_)
    refine g_if_eq S 21 dX1_serveDay_12 (by decide) (fun c_4 => ?_) (fun c_4 => ?_)
    · skip
      refine g_iload_n S 0 dX1_serveDay_21 rfl ?_
      exact g_iret S hr hlocks dX1_serveDay_22 (by subst hS2 hS1; unfold sX1_serveDay_r; (try dsimp only); rw [if_neg c_2, if_pos c_4]) (by subst hS2 hS1; unfold sX1_serveDay_s; (try dsimp only); rw [if_neg c_2, if_pos c_4]) (Nat.le_of_ble_eq_true rfl) (Nat.le_of_ble_eq_true rfl)
    · skip
      refine g_iinc S [(2, .int (2 : Int32)), (0, .ref (E.2.2 k)), (1, .ref (E.2.2 q))] 0 (2 : Int32) dX1_serveDay_15 rfl rfl (by decide) rfl ?_
      refine g_goto S 2 dX1_serveDay_18 (by decide) ?_
      refine g_iload_n S 0 dX1_serveDay_2 rfl ?_
      refine g_const S dX1_serveDay_3 (v := 2) rfl ?_
      refine g_icmp_ge S 21 dX1_serveDay_4 (by decide) (fun c_5 => ?_) (fun c_5 => absurd (by decide) c_5)
      refine g_iload_n S 0 dX1_serveDay_21 rfl ?_
      exact g_iret S hr hlocks dX1_serveDay_22 (by subst hS2 hS1; unfold sX1_serveDay_r; (try dsimp only); rw [if_neg c_2, if_neg c_4]) (by subst hS2 hS1; unfold sX1_serveDay_s; (try dsimp only); rw [if_neg c_2, if_neg c_4]) (Nat.le_of_ble_eq_true rfl) (Nat.le_of_ble_eq_true rfl)
def sX1_become_s (σ : gS) (k : Nat) (o : Nat) : gS := let S1 := gu σ k 0 (σ.1 o 0); let S2 := gu S1 k 1 (S1.1 o 1); let S3 := gu S2 k 2 (S2.1 o 2); let S4 := gu S3 k 3 (S3.1 o 3); let S5 := gu S4 k 4 (S4.1 o 4); S5
set_option maxRecDepth 100000 in
set_option maxHeartbeats 4000000 in
theorem kX1_become (l : Launch) (E : gT) (σ : gS) (k : Nat) (hk : k < 65) (hKk : gK k = 1) (o : Nat) (ho : o < 65) (hKo : gK o = 1) : gMv l yX1_become wsX1_become ({ frames := 0, cells := 0, slots := 0, locals := 0 }) 0 0 E σ [.ref (E.2.2 k), .ref (E.2.2 o)] (sX1_become_s σ k o) := by
  refine g_met (mc := 0) (ms := 0) (nL := 2) (ret := none) (by decide) rfl (lv := [(0, .ref (E.2.2 k)), (1, .ref (E.2.2 o))]) rfl (Nat.le_of_ble_eq_true rfl) ?_
  intro p e s m below meth c S hr hlocks hC
  have hiX1 : ∀ w ∈ wsX10, w ∈ wsX1_become := by decide +kernel
  refine g_aload_n S 0 dX1_become_0 rfl ?_
  refine g_aload_n S 1 dX1_become_1 rfl ?_
  refine gg1 S hC hiX1 ho hKo 0 (by decide) (by decide +kernel) dX1_become_2 ?_
  refine gp1 S hC hiX1 hk hKk 0 (by decide) (by decide +kernel) dX1_become_5 ?_
  refine g_nm (fun S1 hS1 => ?_)
  refine g_aload_n S 0 dX1_become_8 rfl ?_
  refine g_aload_n S 1 dX1_become_9 rfl ?_
  refine gg1 S hC hiX1 ho hKo 1 (by decide) (by decide +kernel) dX1_become_10 ?_
  refine gp1 S hC hiX1 hk hKk 1 (by decide) (by decide +kernel) dX1_become_13 ?_
  refine g_nm (fun S2 hS2 => ?_)
  refine g_aload_n S 0 dX1_become_16 rfl ?_
  refine g_aload_n S 1 dX1_become_17 rfl ?_
  refine gg1 S hC hiX1 ho hKo 2 (by decide) (by decide +kernel) dX1_become_18 ?_
  refine gp1 S hC hiX1 hk hKk 2 (by decide) (by decide +kernel) dX1_become_21 ?_
  refine g_nm (fun S3 hS3 => ?_)
  refine g_aload_n S 0 dX1_become_24 rfl ?_
  refine g_aload_n S 1 dX1_become_25 rfl ?_
  refine gg1 S hC hiX1 ho hKo 3 (by decide) (by decide +kernel) dX1_become_26 ?_
  refine gp1 S hC hiX1 hk hKk 3 (by decide) (by decide +kernel) dX1_become_29 ?_
  refine g_nm (fun S4 hS4 => ?_)
  refine g_aload_n S 0 dX1_become_32 rfl ?_
  refine g_aload_n S 1 dX1_become_33 rfl ?_
  refine gg1 S hC hiX1 ho hKo 4 (by decide) (by decide +kernel) dX1_become_34 ?_
  refine gp1 S hC hiX1 hk hKk 4 (by decide) (by decide +kernel) dX1_become_37 ?_
  refine g_nm (fun S5 hS5 => ?_)
  exact g_vret S hr hlocks dX1_become_40 (by subst hS5 hS4 hS3 hS2 hS1; rfl) (Nat.le_of_ble_eq_true rfl) (Nat.le_of_ble_eq_true rfl)
def sX1_size_r (σ : gS) (k : Nat) : Int32 := (5 : Int32)
set_option maxRecDepth 100000 in
set_option maxHeartbeats 4000000 in
theorem kX1_size (l : Launch) (E : gT) (σ : gS) (k : Nat) (hk : k < 65) (hKk : gK k = 1) : gMi l yX1_size wsX1_size ({ frames := 0, cells := 0, slots := 0, locals := 0 }) 0 0 E σ [.ref (E.2.2 k)] (sX1_size_r σ k) σ := by
  refine g_met (mc := 0) (ms := 0) (nL := 1) (ret := (some .int)) (by decide) rfl (lv := [(0, .ref (E.2.2 k))]) rfl (Nat.le_of_ble_eq_true rfl) ?_
  intro p e s m below meth c S hr hlocks hC
  refine g_const S dX1_size_0 (v := 5) rfl ?_
  exact g_iret S hr hlocks dX1_size_1 rfl rfl (Nat.le_of_ble_eq_true rfl) (Nat.le_of_ble_eq_true rfl)
def sX1_tell_r (σ : gS) (k w : Nat) : Int32 := σ.1 k w
set_option maxRecDepth 100000 in
set_option maxHeartbeats 4000000 in
theorem kX1_tell (l : Launch) (E : gT) (σ : gS) (k : Nat) (hk : k < 65) (hKk : gK k = 1) (w : Nat) (hw : w < 5) : gMi l yX1_tell wsX1_tell ({ frames := 0, cells := 0, slots := 0, locals := 0 }) 0 0 E σ [.ref (E.2.2 k), .int (nI w)] (sX1_tell_r σ k w) σ := by
  refine g_met (mc := 0) (ms := 0) (nL := 2) (ret := (some .int)) (by decide) rfl (lv := [(0, .ref (E.2.2 k)), (1, .int (nI w))]) rfl (Nat.le_of_ble_eq_true rfl) ?_
  intro p e s m below meth c S hr hlocks hC
  have hiX1 : ∀ w ∈ wsX10, w ∈ wsX1_tell := by decide +kernel
  rcases (show w = 0 ∨ w = 1 ∨ w = 2 ∨ w = 3 ∨ w = 4 by omega) with rfl | rfl | rfl | rfl | rfl
  · skip
    refine g_iload_n S 1 dX1_tell_0 rfl ?_
    refine g_tabIn S 32 dX1_tell_1 (by decide) (by decide) rfl (by decide) ?_
    refine g_aload_n S 0 dX1_tell_32 rfl ?_
    refine gg1 S hC hiX1 hk hKk 0 (by decide) (by decide +kernel) dX1_tell_33 ?_
    exact g_iret S hr hlocks dX1_tell_36 rfl rfl (Nat.le_of_ble_eq_true rfl) (Nat.le_of_ble_eq_true rfl)
  · skip
    refine g_iload_n S 1 dX1_tell_0 rfl ?_
    refine g_tabIn S 37 dX1_tell_1 (by decide) (by decide) rfl (by decide) ?_
    refine g_aload_n S 0 dX1_tell_37 rfl ?_
    refine gg1 S hC hiX1 hk hKk 1 (by decide) (by decide +kernel) dX1_tell_38 ?_
    exact g_iret S hr hlocks dX1_tell_41 rfl rfl (Nat.le_of_ble_eq_true rfl) (Nat.le_of_ble_eq_true rfl)
  · skip
    refine g_iload_n S 1 dX1_tell_0 rfl ?_
    refine g_tabIn S 42 dX1_tell_1 (by decide) (by decide) rfl (by decide) ?_
    refine g_aload_n S 0 dX1_tell_42 rfl ?_
    refine gg1 S hC hiX1 hk hKk 2 (by decide) (by decide +kernel) dX1_tell_43 ?_
    exact g_iret S hr hlocks dX1_tell_46 rfl rfl (Nat.le_of_ble_eq_true rfl) (Nat.le_of_ble_eq_true rfl)
  · skip
    refine g_iload_n S 1 dX1_tell_0 rfl ?_
    refine g_tabIn S 47 dX1_tell_1 (by decide) (by decide) rfl (by decide) ?_
    refine g_aload_n S 0 dX1_tell_47 rfl ?_
    refine gg1 S hC hiX1 hk hKk 3 (by decide) (by decide +kernel) dX1_tell_48 ?_
    exact g_iret S hr hlocks dX1_tell_51 rfl rfl (Nat.le_of_ble_eq_true rfl) (Nat.le_of_ble_eq_true rfl)
  · skip
    refine g_iload_n S 1 dX1_tell_0 rfl ?_
    refine g_tabOut S 52 dX1_tell_1 (by decide) (by decide) ?_
    refine g_aload_n S 0 dX1_tell_52 rfl ?_
    refine gg1 S hC hiX1 hk hKk 4 (by decide) (by decide +kernel) dX1_tell_53 ?_
    exact g_iret S hr hlocks dX1_tell_56 rfl rfl (Nat.le_of_ble_eq_true rfl) (Nat.le_of_ble_eq_true rfl)
def sX2_install_s (σ : gS) (k : Nat) (a : Int32) (b : Int32) : gS := let S1 := gu σ k 0 a; let S2 := gu S1 k 1 b; S2
set_option maxRecDepth 100000 in
set_option maxHeartbeats 4000000 in
theorem kX2_install (l : Launch) (E : gT) (σ : gS) (k : Nat) (hk : k < 65) (hKk : gK k = 2) (a : Int32) (b : Int32) : gMv l yX2_install wsX2_install ({ frames := 0, cells := 0, slots := 0, locals := 0 }) 0 0 E σ [.ref (E.2.2 k), .int a, .int b] (sX2_install_s σ k a b) := by
  refine g_met (mc := 0) (ms := 0) (nL := 3) (ret := none) (by decide) rfl (lv := [(0, .ref (E.2.2 k)), (1, .int a), (2, .int b)]) rfl (Nat.le_of_ble_eq_true rfl) ?_
  intro p e s m below meth c S hr hlocks hC
  have hiX2 : ∀ w ∈ wsX20, w ∈ wsX2_install := by decide +kernel
  refine g_aload_n S 0 dX2_install_0 rfl ?_
  refine g_iload_n S 1 dX2_install_1 rfl ?_
  refine gp2 S hC hiX2 hk hKk 0 (by decide) (by decide +kernel) dX2_install_2 ?_
  refine g_nm (fun S1 hS1 => ?_)
  refine g_aload_n S 0 dX2_install_5 rfl ?_
  refine g_iload_n S 2 dX2_install_6 rfl ?_
  refine gp2 S hC hiX2 hk hKk 1 (by decide) (by decide +kernel) dX2_install_7 ?_
  refine g_nm (fun S2 hS2 => ?_)
  exact g_vret S hr hlocks dX2_install_10 (by subst hS2 hS1; rfl) (Nat.le_of_ble_eq_true rfl) (Nat.le_of_ble_eq_true rfl)
def sX2_fill_s (σ : gS) (k : Nat) (a : Int32) (b : Int32) : gS := let S1 := gu σ k 2 a; let S2 := gu S1 k 3 b; let S3 := gu S2 k 4 (0 : Int32); S3
set_option maxRecDepth 100000 in
set_option maxHeartbeats 4000000 in
theorem kX2_fill (l : Launch) (E : gT) (σ : gS) (k : Nat) (hk : k < 65) (hKk : gK k = 2) (a : Int32) (b : Int32) : gMv l yX2_fill wsX2_fill ({ frames := 0, cells := 0, slots := 0, locals := 0 }) 0 0 E σ [.ref (E.2.2 k), .int a, .int b] (sX2_fill_s σ k a b) := by
  refine g_met (mc := 0) (ms := 0) (nL := 3) (ret := none) (by decide) rfl (lv := [(0, .ref (E.2.2 k)), (1, .int a), (2, .int b)]) rfl (Nat.le_of_ble_eq_true rfl) ?_
  intro p e s m below meth c S hr hlocks hC
  have hiX2 : ∀ w ∈ wsX20, w ∈ wsX2_fill := by decide +kernel
  refine g_aload_n S 0 dX2_fill_0 rfl ?_
  refine g_iload_n S 1 dX2_fill_1 rfl ?_
  refine gp2 S hC hiX2 hk hKk 2 (by decide) (by decide +kernel) dX2_fill_2 ?_
  refine g_nm (fun S1 hS1 => ?_)
  refine g_aload_n S 0 dX2_fill_5 rfl ?_
  refine g_iload_n S 2 dX2_fill_6 rfl ?_
  refine gp2 S hC hiX2 hk hKk 3 (by decide) (by decide +kernel) dX2_fill_7 ?_
  refine g_nm (fun S2 hS2 => ?_)
  refine g_aload_n S 0 dX2_fill_10 rfl ?_
  refine g_const S dX2_fill_11 (v := 0) rfl ?_
  refine gp2 S hC hiX2 hk hKk 4 (by decide) (by decide +kernel) dX2_fill_12 ?_
  refine g_nm (fun S3 hS3 => ?_)
  exact g_vret S hr hlocks dX2_fill_15 (by subst hS3 hS2 hS1; rfl) (Nat.le_of_ble_eq_true rfl) (Nat.le_of_ble_eq_true rfl)
def sX2_done_r (σ : gS) (k : Nat) : Int32 := if σ.1 k 2 = 0 then ((12 : Int32)) else ((8 : Int32))
set_option maxRecDepth 100000 in
set_option maxHeartbeats 4000000 in
theorem kX2_done (l : Launch) (E : gT) (σ : gS) (k : Nat) (hk : k < 65) (hKk : gK k = 2) : gMi l yX2_done wsX2_done ({ frames := 0, cells := 0, slots := 0, locals := 0 }) 0 0 E σ [.ref (E.2.2 k)] (sX2_done_r σ k) σ := by
  refine g_met (mc := 0) (ms := 0) (nL := 1) (ret := (some .int)) (by decide) rfl (lv := [(0, .ref (E.2.2 k))]) rfl (Nat.le_of_ble_eq_true rfl) ?_
  intro p e s m below meth c S hr hlocks hC
  have hiX2 : ∀ w ∈ wsX20, w ∈ wsX2_done := by decide +kernel
  refine g_aload_n S 0 dX2_done_0 rfl ?_
  refine gg2 S hC hiX2 hk hKk 2 (by decide) (by decide +kernel) dX2_done_1 ?_
  refine g_if_ne S 12 dX2_done_4 (by decide) (fun c_1 => ?_) (fun c_1 => ?_)
  · skip
    refine g_bipush S dX2_done_12 (v := 8) rfl ?_
    exact g_iret S hr hlocks dX2_done_14 (by rw [sX2_done_r, if_neg c_1]) rfl (Nat.le_of_ble_eq_true rfl) (Nat.le_of_ble_eq_true rfl)
  · skip
    refine g_bipush S dX2_done_7 (v := 12) rfl ?_
    refine g_goto S 14 dX2_done_9 (by decide) ?_
    exact g_iret S hr hlocks dX2_done_14 (by rw [sX2_done_r, if_pos c_1]) rfl (Nat.le_of_ble_eq_true rfl) (Nat.le_of_ble_eq_true rfl)
def sX2_burnt_r (σ : gS) (k : Nat) : Int32 := if σ.1 k 2 = 0 then ((24 : Int32)) else ((15 : Int32))
set_option maxRecDepth 100000 in
set_option maxHeartbeats 4000000 in
theorem kX2_burnt (l : Launch) (E : gT) (σ : gS) (k : Nat) (hk : k < 65) (hKk : gK k = 2) : gMi l yX2_burnt wsX2_burnt ({ frames := 0, cells := 0, slots := 0, locals := 0 }) 0 0 E σ [.ref (E.2.2 k)] (sX2_burnt_r σ k) σ := by
  refine g_met (mc := 0) (ms := 0) (nL := 1) (ret := (some .int)) (by decide) rfl (lv := [(0, .ref (E.2.2 k))]) rfl (Nat.le_of_ble_eq_true rfl) ?_
  intro p e s m below meth c S hr hlocks hC
  have hiX2 : ∀ w ∈ wsX20, w ∈ wsX2_burnt := by decide +kernel
  refine g_aload_n S 0 dX2_burnt_0 rfl ?_
  refine gg2 S hC hiX2 hk hKk 2 (by decide) (by decide +kernel) dX2_burnt_1 ?_
  refine g_if_ne S 12 dX2_burnt_4 (by decide) (fun c_1 => ?_) (fun c_1 => ?_)
  · skip
    refine g_bipush S dX2_burnt_12 (v := 15) rfl ?_
    exact g_iret S hr hlocks dX2_burnt_14 (by rw [sX2_burnt_r, if_neg c_1]) rfl (Nat.le_of_ble_eq_true rfl) (Nat.le_of_ble_eq_true rfl)
  · skip
    refine g_bipush S dX2_burnt_7 (v := 24) rfl ?_
    refine g_goto S 14 dX2_burnt_9 (by decide) ?_
    exact g_iret S hr hlocks dX2_burnt_14 (by rw [sX2_burnt_r, if_pos c_1]) rfl (Nat.le_of_ble_eq_true rfl) (Nat.le_of_ble_eq_true rfl)
def sX2_levelAfter_r (σ : gS) (k : Nat) (a : Int32) : Int32 := if σ.1 k 2 = (-1 : Int32) then ((0 : Int32)) else (gmin (a + (σ.1 k 1)) (sX2_burnt_r σ k))
set_option maxRecDepth 100000 in
set_option maxHeartbeats 4000000 in
theorem kX2_levelAfter (l : Launch) (E : gT) (σ : gS) (k : Nat) (hk : k < 65) (hKk : gK k = 2) (a : Int32) : gMi l yX2_levelAfter wsX2_levelAfter ({ frames := 1, cells := 0, slots := 0, locals := 24 }) 0 0 E σ [.ref (E.2.2 k), .int a] (sX2_levelAfter_r σ k a) σ := by
  refine g_met (mc := 0) (ms := 0) (nL := 2) (ret := (some .int)) (by decide) rfl (lv := [(0, .ref (E.2.2 k)), (1, .int a)]) rfl (Nat.le_of_ble_eq_true rfl) ?_
  intro p e s m below meth c S hr hlocks hC
  have hiX2 : ∀ w ∈ wsX20, w ∈ wsX2_levelAfter := by decide +kernel
  refine g_aload_n S 0 dX2_levelAfter_0 rfl ?_
  refine gg2 S hC hiX2 hk hKk 2 (by decide) (by decide +kernel) dX2_levelAfter_1 ?_
  refine g_const S dX2_levelAfter_4 (v := (-1)) rfl ?_
  refine g_icmp_ne S 10 dX2_levelAfter_5 (by decide) (fun c_1 => ?_) (fun c_1 => ?_)
  · skip
    refine g_iload_n S 1 dX2_levelAfter_10 rfl ?_
    refine g_aload_n S 0 dX2_levelAfter_11 rfl ?_
    refine gg2 S hC hiX2 hk hKk 1 (by decide) (by decide +kernel) dX2_levelAfter_12 ?_
    refine g_iadd S dX2_levelAfter_15 ?_
    refine g_aload_n S 0 dX2_levelAfter_16 rfl ?_
    refine g_calli (g_runV S hC (As := []) (rest := [.int (a + (σ.1 k 1))]) (k := k) hk hKk (by decide) rfl (kX2_burnt l E σ k hk hKk) (cwV 0 S.2.2.2.2 gX2_levelAfter_X2_burnt rfl rfl rfl (by decide +kernel) ⟨Nat.le_of_ble_eq_true rfl, Nat.le_of_ble_eq_true rfl⟩) rfl rfl (Nat.le_of_ble_eq_true rfl) dX2_levelAfter_17 ⟨Nat.le_of_ble_eq_true rfl, Nat.le_of_ble_eq_true rfl⟩) ?_
    refine g_mn S (by decide +kernel) (by decide +kernel) (by decide +kernel) (by decide +kernel) (Nat.le_of_ble_eq_true rfl) (Nat.le_of_ble_eq_true rfl) (Nat.le_of_ble_eq_true rfl) (Nat.le_of_ble_eq_true rfl) dX2_levelAfter_20 ?_
    exact g_iret S hr hlocks dX2_levelAfter_23 (by rw [sX2_levelAfter_r, if_neg c_1]) rfl (Nat.le_of_ble_eq_true rfl) (Nat.le_of_ble_eq_true rfl)
  · skip
    refine g_const S dX2_levelAfter_8 (v := 0) rfl ?_
    exact g_iret S hr hlocks dX2_levelAfter_9 (by rw [sX2_levelAfter_r, if_pos c_1]) rfl (Nat.le_of_ble_eq_true rfl) (Nat.le_of_ble_eq_true rfl)
def sX2_warm_s (σ : gS) (k : Nat) : gS := let S1 := gu σ k 4 (sX2_levelAfter_r σ k (σ.1 k 4)); S1
set_option maxRecDepth 100000 in
set_option maxHeartbeats 4000000 in
theorem kX2_warm (l : Launch) (E : gT) (σ : gS) (k : Nat) (hk : k < 65) (hKk : gK k = 2) : gMv l yX2_warm wsX2_warm ({ frames := 2, cells := 0, slots := 0, locals := 45 }) 0 0 E σ [.ref (E.2.2 k)] (sX2_warm_s σ k) := by
  refine g_met (mc := 0) (ms := 0) (nL := 1) (ret := none) (by decide) rfl (lv := [(0, .ref (E.2.2 k))]) rfl (Nat.le_of_ble_eq_true rfl) ?_
  intro p e s m below meth c S hr hlocks hC
  have hiX2 : ∀ w ∈ wsX20, w ∈ wsX2_warm := by decide +kernel
  refine g_aload_n S 0 dX2_warm_0 rfl ?_
  refine g_aload_n S 0 dX2_warm_1 rfl ?_
  refine g_aload_n S 0 dX2_warm_2 rfl ?_
  refine gg2 S hC hiX2 hk hKk 4 (by decide) (by decide +kernel) dX2_warm_3 ?_
  refine g_calli (g_runV S hC (As := [.int (σ.1 k 4)]) (rest := [.ref (E.2.2 k)]) (k := k) hk hKk (by decide) rfl (kX2_levelAfter l E σ k hk hKk (σ.1 k 4)) (cwV 1 S.2.2.2.2 gX2_warm_X2_levelAfter rfl rfl rfl (by decide +kernel) ⟨Nat.le_of_ble_eq_true rfl, Nat.le_of_ble_eq_true rfl⟩) rfl rfl (Nat.le_of_ble_eq_true rfl) dX2_warm_6 ⟨Nat.le_of_ble_eq_true rfl, Nat.le_of_ble_eq_true rfl⟩) ?_
  refine gp2 S hC hiX2 hk hKk 4 (by decide) (by decide +kernel) dX2_warm_9 ?_
  refine g_nm (fun S1 hS1 => ?_)
  exact g_vret S hr hlocks dX2_warm_12 (by subst hS1; rfl) (Nat.le_of_ble_eq_true rfl) (Nat.le_of_ble_eq_true rfl)
def sX2_partsAt_r (σ : gS) (k : Nat) (a : Int32) : Int32 := if σ.1 k 2 = (-1 : Int32) then ((0 : Int32)) else (if a < sX2_done_r σ k then ((0 : Int32)) else (if a < sX2_burnt_r σ k then (if σ.1 k 2 = 0 then ((((σ.1 k 3) * (6 : Int32)) * ((sX2_burnt_r σ k) - a)) / ((sX2_burnt_r σ k) - (sX2_done_r σ k))) else ((((σ.1 k 3) * (8 : Int32)) * ((sX2_burnt_r σ k) - a)) / ((sX2_burnt_r σ k) - (sX2_done_r σ k)))) else ((0 : Int32))))
set_option maxRecDepth 100000 in
set_option maxHeartbeats 4000000 in
theorem kX2_partsAt (l : Launch) (E : gT) (σ : gS) (k : Nat) (hk : k < 65) (hKk : gK k = 2) (a : Int32) : gMi l yX2_partsAt wsX2_partsAt ({ frames := 1, cells := 0, slots := 0, locals := 20 }) 0 0 E σ [.ref (E.2.2 k), .int a] (sX2_partsAt_r σ k a) σ := by
  refine g_met (mc := 0) (ms := 0) (nL := 3) (ret := (some .int)) (by decide) rfl (lv := [(0, .ref (E.2.2 k)), (1, .int a)]) rfl (Nat.le_of_ble_eq_true rfl) ?_
  intro p e s m below meth c S hr hlocks hC
  have hiX2 : ∀ w ∈ wsX20, w ∈ wsX2_partsAt := by decide +kernel
  refine g_aload_n S 0 dX2_partsAt_0 rfl ?_
  refine gg2 S hC hiX2 hk hKk 2 (by decide) (by decide +kernel) dX2_partsAt_1 ?_
  refine g_const S dX2_partsAt_4 (v := (-1)) rfl ?_
  refine g_icmp_eq S 24 dX2_partsAt_5 (by decide) (fun c_1 => ?_) (fun c_1 => ?_)
  · skip
    refine g_const S dX2_partsAt_24 (v := 0) rfl ?_
    exact g_iret S hr hlocks dX2_partsAt_25 (by rw [sX2_partsAt_r, if_pos c_1]) rfl (Nat.le_of_ble_eq_true rfl) (Nat.le_of_ble_eq_true rfl)
  · skip
    refine g_iload_n S 1 dX2_partsAt_8 rfl ?_
    refine g_aload_n S 0 dX2_partsAt_9 rfl ?_
    refine g_calli (g_runV S hC (As := []) (rest := [.int a]) (k := k) hk hKk (by decide) rfl (kX2_done l E σ k hk hKk) (cwV 0 S.2.2.2.2 gX2_partsAt_X2_done rfl rfl rfl (by decide +kernel) ⟨Nat.le_of_ble_eq_true rfl, Nat.le_of_ble_eq_true rfl⟩) rfl rfl (Nat.le_of_ble_eq_true rfl) dX2_partsAt_10 ⟨Nat.le_of_ble_eq_true rfl, Nat.le_of_ble_eq_true rfl⟩) ?_
    refine g_icmp_lt S 24 dX2_partsAt_13 (by decide) (fun c_2 => ?_) (fun c_2 => ?_)
    · skip
      refine g_const S dX2_partsAt_24 (v := 0) rfl ?_
      exact g_iret S hr hlocks dX2_partsAt_25 (by rw [sX2_partsAt_r, if_neg c_1, if_pos c_2]) rfl (Nat.le_of_ble_eq_true rfl) (Nat.le_of_ble_eq_true rfl)
    · skip
      refine g_iload_n S 1 dX2_partsAt_16 rfl ?_
      refine g_aload_n S 0 dX2_partsAt_17 rfl ?_
      refine g_calli (g_runV S hC (As := []) (rest := [.int a]) (k := k) hk hKk (by decide) rfl (kX2_burnt l E σ k hk hKk) (cwV 0 S.2.2.2.2 gX2_partsAt_X2_burnt rfl rfl rfl (by decide +kernel) ⟨Nat.le_of_ble_eq_true rfl, Nat.le_of_ble_eq_true rfl⟩) rfl rfl (Nat.le_of_ble_eq_true rfl) dX2_partsAt_18 ⟨Nat.le_of_ble_eq_true rfl, Nat.le_of_ble_eq_true rfl⟩) ?_
      refine g_icmp_lt S 26 dX2_partsAt_21 (by decide) (fun c_3 => ?_) (fun c_3 => ?_)
      · skip
        refine g_aload_n S 0 dX2_partsAt_26 rfl ?_
        refine gg2 S hC hiX2 hk hKk 2 (by decide) (by decide +kernel) dX2_partsAt_27 ?_
        refine g_if_ne S 38 dX2_partsAt_30 (by decide) (fun c_4 => ?_) (fun c_4 => ?_)
        · skip
          refine g_bipush S dX2_partsAt_38 (v := 8) rfl ?_
          refine g_istore_n S [(2, .int (8 : Int32)), (0, .ref (E.2.2 k)), (1, .int a)] dX2_partsAt_40 (by decide) rfl ?_
          refine g_aload_n S 1 dX2_partsAt_41 rfl ?_
          refine gg2 S hC hiX2 hk hKk 3 (by decide) (by decide +kernel) dX2_partsAt_42 ?_
          refine g_iload_n S 0 dX2_partsAt_45 rfl ?_
          refine g_imul S dX2_partsAt_46 ?_
          refine g_aload_n S 1 dX2_partsAt_47 rfl ?_
          refine g_calli (g_runV S hC (As := []) (rest := [.int ((σ.1 k 3) * (8 : Int32))]) (k := k) hk hKk (by decide) rfl (kX2_burnt l E σ k hk hKk) (cwV 0 S.2.2.2.2 gX2_partsAt_X2_burnt rfl rfl rfl (by decide +kernel) ⟨Nat.le_of_ble_eq_true rfl, Nat.le_of_ble_eq_true rfl⟩) rfl rfl (Nat.le_of_ble_eq_true rfl) dX2_partsAt_48 ⟨Nat.le_of_ble_eq_true rfl, Nat.le_of_ble_eq_true rfl⟩) ?_
          refine g_iload_n S 2 dX2_partsAt_51 rfl ?_
          refine g_isub S dX2_partsAt_52 ?_
          refine g_imul S dX2_partsAt_53 ?_
          refine g_aload_n S 1 dX2_partsAt_54 rfl ?_
          refine g_calli (g_runV S hC (As := []) (rest := [.int (((σ.1 k 3) * (8 : Int32)) * ((sX2_burnt_r σ k) - a))]) (k := k) hk hKk (by decide) rfl (kX2_burnt l E σ k hk hKk) (cwV 0 S.2.2.2.2 gX2_partsAt_X2_burnt rfl rfl rfl (by decide +kernel) ⟨Nat.le_of_ble_eq_true rfl, Nat.le_of_ble_eq_true rfl⟩) rfl rfl (Nat.le_of_ble_eq_true rfl) dX2_partsAt_55 ⟨Nat.le_of_ble_eq_true rfl, Nat.le_of_ble_eq_true rfl⟩) ?_
          refine g_aload_n S 1 dX2_partsAt_58 rfl ?_
          refine g_calli (g_runV S hC (As := []) (rest := [.int (sX2_burnt_r σ k), .int (((σ.1 k 3) * (8 : Int32)) * ((sX2_burnt_r σ k) - a))]) (k := k) hk hKk (by decide) rfl (kX2_done l E σ k hk hKk) (cwV 0 S.2.2.2.2 gX2_partsAt_X2_done rfl rfl rfl (by decide +kernel) ⟨Nat.le_of_ble_eq_true rfl, Nat.le_of_ble_eq_true rfl⟩) rfl rfl (Nat.le_of_ble_eq_true rfl) dX2_partsAt_59 ⟨Nat.le_of_ble_eq_true rfl, Nat.le_of_ble_eq_true rfl⟩) ?_
          refine g_isub S dX2_partsAt_62 ?_
          refine g_idiv S dX2_partsAt_63 (by unfold sX2_burnt_r sX2_done_r; split <;> decide) ?_
          exact g_iret S hr hlocks dX2_partsAt_64 (by rw [sX2_partsAt_r, if_neg c_1, if_neg c_2, if_pos c_3, if_neg c_4]) rfl (Nat.le_of_ble_eq_true rfl) (Nat.le_of_ble_eq_true rfl)
        · skip
          refine g_bipush S dX2_partsAt_33 (v := 6) rfl ?_
          refine g_goto S 40 dX2_partsAt_35 (by decide) ?_
          refine g_istore_n S [(2, .int (6 : Int32)), (0, .ref (E.2.2 k)), (1, .int a)] dX2_partsAt_40 (by decide) rfl ?_
          refine g_aload_n S 1 dX2_partsAt_41 rfl ?_
          refine gg2 S hC hiX2 hk hKk 3 (by decide) (by decide +kernel) dX2_partsAt_42 ?_
          refine g_iload_n S 0 dX2_partsAt_45 rfl ?_
          refine g_imul S dX2_partsAt_46 ?_
          refine g_aload_n S 1 dX2_partsAt_47 rfl ?_
          refine g_calli (g_runV S hC (As := []) (rest := [.int ((σ.1 k 3) * (6 : Int32))]) (k := k) hk hKk (by decide) rfl (kX2_burnt l E σ k hk hKk) (cwV 0 S.2.2.2.2 gX2_partsAt_X2_burnt rfl rfl rfl (by decide +kernel) ⟨Nat.le_of_ble_eq_true rfl, Nat.le_of_ble_eq_true rfl⟩) rfl rfl (Nat.le_of_ble_eq_true rfl) dX2_partsAt_48 ⟨Nat.le_of_ble_eq_true rfl, Nat.le_of_ble_eq_true rfl⟩) ?_
          refine g_iload_n S 2 dX2_partsAt_51 rfl ?_
          refine g_isub S dX2_partsAt_52 ?_
          refine g_imul S dX2_partsAt_53 ?_
          refine g_aload_n S 1 dX2_partsAt_54 rfl ?_
          refine g_calli (g_runV S hC (As := []) (rest := [.int (((σ.1 k 3) * (6 : Int32)) * ((sX2_burnt_r σ k) - a))]) (k := k) hk hKk (by decide) rfl (kX2_burnt l E σ k hk hKk) (cwV 0 S.2.2.2.2 gX2_partsAt_X2_burnt rfl rfl rfl (by decide +kernel) ⟨Nat.le_of_ble_eq_true rfl, Nat.le_of_ble_eq_true rfl⟩) rfl rfl (Nat.le_of_ble_eq_true rfl) dX2_partsAt_55 ⟨Nat.le_of_ble_eq_true rfl, Nat.le_of_ble_eq_true rfl⟩) ?_
          refine g_aload_n S 1 dX2_partsAt_58 rfl ?_
          refine g_calli (g_runV S hC (As := []) (rest := [.int (sX2_burnt_r σ k), .int (((σ.1 k 3) * (6 : Int32)) * ((sX2_burnt_r σ k) - a))]) (k := k) hk hKk (by decide) rfl (kX2_done l E σ k hk hKk) (cwV 0 S.2.2.2.2 gX2_partsAt_X2_done rfl rfl rfl (by decide +kernel) ⟨Nat.le_of_ble_eq_true rfl, Nat.le_of_ble_eq_true rfl⟩) rfl rfl (Nat.le_of_ble_eq_true rfl) dX2_partsAt_59 ⟨Nat.le_of_ble_eq_true rfl, Nat.le_of_ble_eq_true rfl⟩) ?_
          refine g_isub S dX2_partsAt_62 ?_
          refine g_idiv S dX2_partsAt_63 (by unfold sX2_burnt_r sX2_done_r; split <;> decide) ?_
          exact g_iret S hr hlocks dX2_partsAt_64 (by rw [sX2_partsAt_r, if_neg c_1, if_neg c_2, if_pos c_3, if_pos c_4]) rfl (Nat.le_of_ble_eq_true rfl) (Nat.le_of_ble_eq_true rfl)
      · skip
        refine g_const S dX2_partsAt_24 (v := 0) rfl ?_
        exact g_iret S hr hlocks dX2_partsAt_25 (by rw [sX2_partsAt_r, if_neg c_1, if_neg c_2, if_neg c_3]) rfl (Nat.le_of_ble_eq_true rfl) (Nat.le_of_ble_eq_true rfl)
def sX2_become_s (σ : gS) (k : Nat) (o : Nat) : gS := let S1 := gu σ k 0 (σ.1 o 0); let S2 := gu S1 k 1 (S1.1 o 1); let S3 := gu S2 k 2 (S2.1 o 2); let S4 := gu S3 k 3 (S3.1 o 3); let S5 := gu S4 k 4 (S4.1 o 4); S5
set_option maxRecDepth 100000 in
set_option maxHeartbeats 4000000 in
theorem kX2_become (l : Launch) (E : gT) (σ : gS) (k : Nat) (hk : k < 65) (hKk : gK k = 2) (o : Nat) (ho : o < 65) (hKo : gK o = 2) : gMv l yX2_become wsX2_become ({ frames := 0, cells := 0, slots := 0, locals := 0 }) 0 0 E σ [.ref (E.2.2 k), .ref (E.2.2 o)] (sX2_become_s σ k o) := by
  refine g_met (mc := 0) (ms := 0) (nL := 2) (ret := none) (by decide) rfl (lv := [(0, .ref (E.2.2 k)), (1, .ref (E.2.2 o))]) rfl (Nat.le_of_ble_eq_true rfl) ?_
  intro p e s m below meth c S hr hlocks hC
  have hiX2 : ∀ w ∈ wsX20, w ∈ wsX2_become := by decide +kernel
  refine g_aload_n S 0 dX2_become_0 rfl ?_
  refine g_aload_n S 1 dX2_become_1 rfl ?_
  refine gg2 S hC hiX2 ho hKo 0 (by decide) (by decide +kernel) dX2_become_2 ?_
  refine gp2 S hC hiX2 hk hKk 0 (by decide) (by decide +kernel) dX2_become_5 ?_
  refine g_nm (fun S1 hS1 => ?_)
  refine g_aload_n S 0 dX2_become_8 rfl ?_
  refine g_aload_n S 1 dX2_become_9 rfl ?_
  refine gg2 S hC hiX2 ho hKo 1 (by decide) (by decide +kernel) dX2_become_10 ?_
  refine gp2 S hC hiX2 hk hKk 1 (by decide) (by decide +kernel) dX2_become_13 ?_
  refine g_nm (fun S2 hS2 => ?_)
  refine g_aload_n S 0 dX2_become_16 rfl ?_
  refine g_aload_n S 1 dX2_become_17 rfl ?_
  refine gg2 S hC hiX2 ho hKo 2 (by decide) (by decide +kernel) dX2_become_18 ?_
  refine gp2 S hC hiX2 hk hKk 2 (by decide) (by decide +kernel) dX2_become_21 ?_
  refine g_nm (fun S3 hS3 => ?_)
  refine g_aload_n S 0 dX2_become_24 rfl ?_
  refine g_aload_n S 1 dX2_become_25 rfl ?_
  refine gg2 S hC hiX2 ho hKo 3 (by decide) (by decide +kernel) dX2_become_26 ?_
  refine gp2 S hC hiX2 hk hKk 3 (by decide) (by decide +kernel) dX2_become_29 ?_
  refine g_nm (fun S4 hS4 => ?_)
  refine g_aload_n S 0 dX2_become_32 rfl ?_
  refine g_aload_n S 1 dX2_become_33 rfl ?_
  refine gg2 S hC hiX2 ho hKo 4 (by decide) (by decide +kernel) dX2_become_34 ?_
  refine gp2 S hC hiX2 hk hKk 4 (by decide) (by decide +kernel) dX2_become_37 ?_
  refine g_nm (fun S5 hS5 => ?_)
  exact g_vret S hr hlocks dX2_become_40 (by subst hS5 hS4 hS3 hS2 hS1; rfl) (Nat.le_of_ble_eq_true rfl) (Nat.le_of_ble_eq_true rfl)
def sX2_size_r (σ : gS) (k : Nat) : Int32 := (6 : Int32)
set_option maxRecDepth 100000 in
set_option maxHeartbeats 4000000 in
theorem kX2_size (l : Launch) (E : gT) (σ : gS) (k : Nat) (hk : k < 65) (hKk : gK k = 2) : gMi l yX2_size wsX2_size ({ frames := 0, cells := 0, slots := 0, locals := 0 }) 0 0 E σ [.ref (E.2.2 k)] (sX2_size_r σ k) σ := by
  refine g_met (mc := 0) (ms := 0) (nL := 1) (ret := (some .int)) (by decide) rfl (lv := [(0, .ref (E.2.2 k))]) rfl (Nat.le_of_ble_eq_true rfl) ?_
  intro p e s m below meth c S hr hlocks hC
  refine g_bipush S dX2_size_0 (v := 6) rfl ?_
  exact g_iret S hr hlocks dX2_size_2 rfl rfl (Nat.le_of_ble_eq_true rfl) (Nat.le_of_ble_eq_true rfl)
def sX2_tell_r (σ : gS) (k w : Nat) : Int32 := if w = 5 then sX2_partsAt_r σ k (σ.1 k 4) else σ.1 k w
set_option maxRecDepth 100000 in
set_option maxHeartbeats 4000000 in
theorem kX2_tell (l : Launch) (E : gT) (σ : gS) (k : Nat) (hk : k < 65) (hKk : gK k = 2) (w : Nat) (hw : w < 6) : gMi l yX2_tell wsX2_tell ({ frames := 2, cells := 0, slots := 0, locals := 42 }) 0 0 E σ [.ref (E.2.2 k), .int (nI w)] (sX2_tell_r σ k w) σ := by
  refine g_met (mc := 0) (ms := 0) (nL := 2) (ret := (some .int)) (by decide) rfl (lv := [(0, .ref (E.2.2 k)), (1, .int (nI w))]) rfl (Nat.le_of_ble_eq_true rfl) ?_
  intro p e s m below meth c S hr hlocks hC
  have hiX2 : ∀ w ∈ wsX20, w ∈ wsX2_tell := by decide +kernel
  rcases (show w = 0 ∨ w = 1 ∨ w = 2 ∨ w = 3 ∨ w = 4 ∨ w = 5 by omega) with rfl | rfl | rfl | rfl | rfl | rfl
  · skip
    refine g_iload_n S 1 dX2_tell_0 rfl ?_
    refine g_tabIn S 36 dX2_tell_1 (by decide) (by decide) rfl (by decide) ?_
    refine g_aload_n S 0 dX2_tell_36 rfl ?_
    refine gg2 S hC hiX2 hk hKk 0 (by decide) (by decide +kernel) dX2_tell_37 ?_
    exact g_iret S hr hlocks dX2_tell_40 rfl rfl (Nat.le_of_ble_eq_true rfl) (Nat.le_of_ble_eq_true rfl)
  · skip
    refine g_iload_n S 1 dX2_tell_0 rfl ?_
    refine g_tabIn S 41 dX2_tell_1 (by decide) (by decide) rfl (by decide) ?_
    refine g_aload_n S 0 dX2_tell_41 rfl ?_
    refine gg2 S hC hiX2 hk hKk 1 (by decide) (by decide +kernel) dX2_tell_42 ?_
    exact g_iret S hr hlocks dX2_tell_45 rfl rfl (Nat.le_of_ble_eq_true rfl) (Nat.le_of_ble_eq_true rfl)
  · skip
    refine g_iload_n S 1 dX2_tell_0 rfl ?_
    refine g_tabIn S 46 dX2_tell_1 (by decide) (by decide) rfl (by decide) ?_
    refine g_aload_n S 0 dX2_tell_46 rfl ?_
    refine gg2 S hC hiX2 hk hKk 2 (by decide) (by decide +kernel) dX2_tell_47 ?_
    exact g_iret S hr hlocks dX2_tell_50 rfl rfl (Nat.le_of_ble_eq_true rfl) (Nat.le_of_ble_eq_true rfl)
  · skip
    refine g_iload_n S 1 dX2_tell_0 rfl ?_
    refine g_tabIn S 51 dX2_tell_1 (by decide) (by decide) rfl (by decide) ?_
    refine g_aload_n S 0 dX2_tell_51 rfl ?_
    refine gg2 S hC hiX2 hk hKk 3 (by decide) (by decide +kernel) dX2_tell_52 ?_
    exact g_iret S hr hlocks dX2_tell_55 rfl rfl (Nat.le_of_ble_eq_true rfl) (Nat.le_of_ble_eq_true rfl)
  · skip
    refine g_iload_n S 1 dX2_tell_0 rfl ?_
    refine g_tabIn S 56 dX2_tell_1 (by decide) (by decide) rfl (by decide) ?_
    refine g_aload_n S 0 dX2_tell_56 rfl ?_
    refine gg2 S hC hiX2 hk hKk 4 (by decide) (by decide +kernel) dX2_tell_57 ?_
    exact g_iret S hr hlocks dX2_tell_60 rfl rfl (Nat.le_of_ble_eq_true rfl) (Nat.le_of_ble_eq_true rfl)
  · skip
    refine g_iload_n S 1 dX2_tell_0 rfl ?_
    refine g_tabOut S 61 dX2_tell_1 (by decide) (by decide) ?_
    refine g_aload_n S 0 dX2_tell_61 rfl ?_
    refine g_aload_n S 0 dX2_tell_62 rfl ?_
    refine gg2 S hC hiX2 hk hKk 4 (by decide) (by decide +kernel) dX2_tell_63 ?_
    refine g_calli (g_runV S hC (As := [.int (σ.1 k 4)]) (rest := []) (k := k) hk hKk (by decide) rfl (kX2_partsAt l E σ k hk hKk (σ.1 k 4)) (cwV 1 S.2.2.2.2 gX2_tell_X2_partsAt rfl rfl rfl (by decide +kernel) ⟨Nat.le_of_ble_eq_true rfl, Nat.le_of_ble_eq_true rfl⟩) rfl rfl (Nat.le_of_ble_eq_true rfl) dX2_tell_66 ⟨Nat.le_of_ble_eq_true rfl, Nat.le_of_ble_eq_true rfl⟩) ?_
    exact g_iret S hr hlocks dX2_tell_69 rfl rfl (Nat.le_of_ble_eq_true rfl) (Nat.le_of_ble_eq_true rfl)
def sX3_hire_s (σ : gS) (k : Nat) (a : Int32) (b : Int32) : gS := let S1 := gu σ k 0 a; let S2 := gu S1 k 1 b; S2
set_option maxRecDepth 100000 in
set_option maxHeartbeats 4000000 in
theorem kX3_hire (l : Launch) (E : gT) (σ : gS) (k : Nat) (hk : k < 65) (hKk : gK k = 3) (a : Int32) (b : Int32) : gMv l yX3_hire wsX3_hire ({ frames := 0, cells := 0, slots := 0, locals := 0 }) 0 0 E σ [.ref (E.2.2 k), .int a, .int b] (sX3_hire_s σ k a b) := by
  refine g_met (mc := 0) (ms := 0) (nL := 3) (ret := none) (by decide) rfl (lv := [(0, .ref (E.2.2 k)), (1, .int a), (2, .int b)]) rfl (Nat.le_of_ble_eq_true rfl) ?_
  intro p e s m below meth c S hr hlocks hC
  have hiX3 : ∀ w ∈ wsX30, w ∈ wsX3_hire := by decide +kernel
  refine g_aload_n S 0 dX3_hire_0 rfl ?_
  refine g_iload_n S 1 dX3_hire_1 rfl ?_
  refine gp3 S hC hiX3 hk hKk 0 (by decide) (by decide +kernel) dX3_hire_2 ?_
  refine g_nm (fun S1 hS1 => ?_)
  refine g_aload_n S 0 dX3_hire_5 rfl ?_
  refine g_iload_n S 2 dX3_hire_6 rfl ?_
  refine gp3 S hC hiX3 hk hKk 1 (by decide) (by decide +kernel) dX3_hire_7 ?_
  refine g_nm (fun S2 hS2 => ?_)
  exact g_vret S hr hlocks dX3_hire_10 (by subst hS2 hS1; rfl) (Nat.le_of_ble_eq_true rfl) (Nat.le_of_ble_eq_true rfl)
def sX3_setOut_s (σ : gS) (k : Nat) : gS := let S1 := gu σ k 2 (1 : Int32); let S2 := gu S1 k 3 (S1.1 k 0); S2
set_option maxRecDepth 100000 in
set_option maxHeartbeats 4000000 in
theorem kX3_setOut (l : Launch) (E : gT) (σ : gS) (k : Nat) (hk : k < 65) (hKk : gK k = 3) : gMv l yX3_setOut wsX3_setOut ({ frames := 0, cells := 0, slots := 0, locals := 0 }) 0 0 E σ [.ref (E.2.2 k)] (sX3_setOut_s σ k) := by
  refine g_met (mc := 0) (ms := 0) (nL := 1) (ret := none) (by decide) rfl (lv := [(0, .ref (E.2.2 k))]) rfl (Nat.le_of_ble_eq_true rfl) ?_
  intro p e s m below meth c S hr hlocks hC
  have hiX3 : ∀ w ∈ wsX30, w ∈ wsX3_setOut := by decide +kernel
  refine g_aload_n S 0 dX3_setOut_0 rfl ?_
  refine g_const S dX3_setOut_1 (v := 1) rfl ?_
  refine gp3 S hC hiX3 hk hKk 2 (by decide) (by decide +kernel) dX3_setOut_2 ?_
  refine g_nm (fun S1 hS1 => ?_)
  refine g_aload_n S 0 dX3_setOut_5 rfl ?_
  refine g_aload_n S 0 dX3_setOut_6 rfl ?_
  refine gg3 S hC hiX3 hk hKk 0 (by decide) (by decide +kernel) dX3_setOut_7 ?_
  refine gp3 S hC hiX3 hk hKk 3 (by decide) (by decide +kernel) dX3_setOut_10 ?_
  refine g_nm (fun S2 hS2 => ?_)
  exact g_vret S hr hlocks dX3_setOut_13 (by subst hS2 hS1; rfl) (Nat.le_of_ble_eq_true rfl) (Nat.le_of_ble_eq_true rfl)
def sX3_daysToBorder_r (σ : gS) (k : Nat) : Int32 := (σ.1 k 0) - ((σ.1 k 0) / (2 : Int32))
set_option maxRecDepth 100000 in
set_option maxHeartbeats 4000000 in
theorem kX3_daysToBorder (l : Launch) (E : gT) (σ : gS) (k : Nat) (hk : k < 65) (hKk : gK k = 3) : gMi l yX3_daysToBorder wsX3_daysToBorder ({ frames := 0, cells := 0, slots := 0, locals := 0 }) 0 0 E σ [.ref (E.2.2 k)] (sX3_daysToBorder_r σ k) σ := by
  refine g_met (mc := 0) (ms := 0) (nL := 1) (ret := (some .int)) (by decide) rfl (lv := [(0, .ref (E.2.2 k))]) rfl (Nat.le_of_ble_eq_true rfl) ?_
  intro p e s m below meth c S hr hlocks hC
  have hiX3 : ∀ w ∈ wsX30, w ∈ wsX3_daysToBorder := by decide +kernel
  refine g_aload_n S 0 dX3_daysToBorder_0 rfl ?_
  refine gg3 S hC hiX3 hk hKk 0 (by decide) (by decide +kernel) dX3_daysToBorder_1 ?_
  refine g_aload_n S 0 dX3_daysToBorder_4 rfl ?_
  refine gg3 S hC hiX3 hk hKk 0 (by decide) (by decide +kernel) dX3_daysToBorder_5 ?_
  refine g_const S dX3_daysToBorder_8 (v := 2) rfl ?_
  refine g_idiv S dX3_daysToBorder_9 (by decide) ?_
  refine g_isub S dX3_daysToBorder_10 ?_
  exact g_iret S hr hlocks dX3_daysToBorder_11 rfl rfl (Nat.le_of_ble_eq_true rfl) (Nat.le_of_ble_eq_true rfl)
def sX3_comeHome_r (σ : gS) (k : Nat) : Int32 := if σ.1 k 2 = (1 : Int32) then (σ.1 k 1) else ((0 : Int32))
def sX3_comeHome_s (σ : gS) (k : Nat) : gS := if σ.1 k 2 = (1 : Int32) then (let S2 := gu σ k 2 (0 : Int32); S2) else (let S1 := gu σ k 2 (0 : Int32); S1)
set_option maxRecDepth 100000 in
set_option maxHeartbeats 4000000 in
theorem kX3_comeHome (l : Launch) (E : gT) (σ : gS) (k : Nat) (hk : k < 65) (hKk : gK k = 3) : gMi l yX3_comeHome wsX3_comeHome ({ frames := 0, cells := 0, slots := 0, locals := 0 }) 0 0 E σ [.ref (E.2.2 k)] (sX3_comeHome_r σ k) (sX3_comeHome_s σ k) := by
  refine g_met (mc := 0) (ms := 0) (nL := 2) (ret := (some .int)) (by decide) rfl (lv := [(0, .ref (E.2.2 k))]) rfl (Nat.le_of_ble_eq_true rfl) ?_
  intro p e s m below meth c S hr hlocks hC
  have hiX3 : ∀ w ∈ wsX30, w ∈ wsX3_comeHome := by decide +kernel
  refine g_aload_n S 0 dX3_comeHome_0 rfl ?_
  refine gg3 S hC hiX3 hk hKk 2 (by decide) (by decide +kernel) dX3_comeHome_1 ?_
  refine g_const S dX3_comeHome_4 (v := 1) rfl ?_
  refine g_icmp_ne S 15 dX3_comeHome_5 (by decide) (fun c_1 => ?_) (fun c_1 => ?_)
  · skip
    refine g_const S dX3_comeHome_15 (v := 0) rfl ?_
    refine g_istore_n S [(1, .int (0 : Int32)), (0, .ref (E.2.2 k))] dX3_comeHome_16 (by decide) rfl ?_
    refine g_aload_n S 1 dX3_comeHome_17 rfl ?_
    refine g_const S dX3_comeHome_18 (v := 0) rfl ?_
    refine gp3 S hC hiX3 hk hKk 2 (by decide) (by decide +kernel) dX3_comeHome_19 ?_
    refine g_nm (fun S1 hS1 => ?_)
    refine g_iload_n S 0 dX3_comeHome_22 rfl ?_
    exact g_iret S hr hlocks dX3_comeHome_23 (by subst hS1; unfold sX3_comeHome_r; (try dsimp only); rw [if_neg c_1]) (by subst hS1; unfold sX3_comeHome_s; (try dsimp only); rw [if_neg c_1]) (Nat.le_of_ble_eq_true rfl) (Nat.le_of_ble_eq_true rfl)
  · skip
    refine g_aload_n S 0 dX3_comeHome_8 rfl ?_
    refine gg3 S hC hiX3 hk hKk 1 (by decide) (by decide +kernel) dX3_comeHome_9 ?_
    refine g_goto S 16 dX3_comeHome_12 (by decide) ?_
    refine g_istore_n S [(1, .int (σ.1 k 1)), (0, .ref (E.2.2 k))] dX3_comeHome_16 (by decide) rfl ?_
    refine g_aload_n S 1 dX3_comeHome_17 rfl ?_
    refine g_const S dX3_comeHome_18 (v := 0) rfl ?_
    refine gp3 S hC hiX3 hk hKk 2 (by decide) (by decide +kernel) dX3_comeHome_19 ?_
    refine g_nm (fun S2 hS2 => ?_)
    refine g_iload_n S 0 dX3_comeHome_22 rfl ?_
    exact g_iret S hr hlocks dX3_comeHome_23 (by subst hS2; unfold sX3_comeHome_r; (try dsimp only); rw [if_pos c_1]) (by subst hS2; unfold sX3_comeHome_s; (try dsimp only); rw [if_pos c_1]) (Nat.le_of_ble_eq_true rfl) (Nat.le_of_ble_eq_true rfl)
def sX3_travel_r (σ : gS) (k : Nat) (a : Int32) : Int32 := if σ.1 k 2 = 0 then ((0 : Int32)) else (let S1 := gu σ k 3 ((σ.1 k 3) - (1 : Int32)); if S1.1 k 2 = (1 : Int32) then (if S1.1 k 3 = (S1.1 k 0) / (2 : Int32) then (if a = 0 then (if S1.1 k 3 ≤ 0 then (sX3_comeHome_r S1 k) else ((0 : Int32))) else (let S5 := gu S1 k 2 (2 : Int32); let S6 := gu S5 k 3 (10 : Int32); let S7 := gu S6 k 4 ((S6.1 k 4) + (1 : Int32)); if S7.1 k 3 ≤ 0 then (sX3_comeHome_r S7 k) else ((0 : Int32)))) else (if S1.1 k 3 ≤ 0 then (sX3_comeHome_r S1 k) else ((0 : Int32)))) else (if S1.1 k 3 ≤ 0 then (sX3_comeHome_r S1 k) else ((0 : Int32))))
def sX3_travel_s (σ : gS) (k : Nat) (a : Int32) : gS := if σ.1 k 2 = 0 then (σ) else (let S1 := gu σ k 3 ((σ.1 k 3) - (1 : Int32)); if S1.1 k 2 = (1 : Int32) then (if S1.1 k 3 = (S1.1 k 0) / (2 : Int32) then (if a = 0 then (if S1.1 k 3 ≤ 0 then (let S4 := sX3_comeHome_s S1 k; S4) else (S1)) else (let S5 := gu S1 k 2 (2 : Int32); let S6 := gu S5 k 3 (10 : Int32); let S7 := gu S6 k 4 ((S6.1 k 4) + (1 : Int32)); if S7.1 k 3 ≤ 0 then (let S8 := sX3_comeHome_s S7 k; S8) else (S7))) else (if S1.1 k 3 ≤ 0 then (let S3 := sX3_comeHome_s S1 k; S3) else (S1))) else (if S1.1 k 3 ≤ 0 then (let S2 := sX3_comeHome_s S1 k; S2) else (S1)))
set_option maxRecDepth 100000 in
set_option maxHeartbeats 4000000 in
theorem kX3_travel (l : Launch) (E : gT) (σ : gS) (k : Nat) (hk : k < 65) (hKk : gK k = 3) (a : Int32) : gMi l yX3_travel wsX3_travel ({ frames := 1, cells := 0, slots := 0, locals := 21 }) 0 0 E σ [.ref (E.2.2 k), .int a] (sX3_travel_r σ k a) (sX3_travel_s σ k a) := by
  refine g_met (mc := 0) (ms := 0) (nL := 2) (ret := (some .int)) (by decide) rfl (lv := [(0, .ref (E.2.2 k)), (1, .int a)]) rfl (Nat.le_of_ble_eq_true rfl) ?_
  intro p e s m below meth c S hr hlocks hC
  have hiX3 : ∀ w ∈ wsX30, w ∈ wsX3_travel := by decide +kernel
  refine g_aload_n S 0 dX3_travel_0 rfl ?_
  refine gg3 S hC hiX3 hk hKk 2 (by decide) (by decide +kernel) dX3_travel_1 ?_
  refine g_if_ne S 9 dX3_travel_4 (by decide) (fun c_1 => ?_) (fun c_1 => ?_)
  · skip
    refine g_aload_n S 0 dX3_travel_9 rfl ?_
    refine g_dup S dX3_travel_10 rfl ?_
    refine gg3 S hC hiX3 hk hKk 3 (by decide) (by decide +kernel) dX3_travel_11 ?_
    refine g_const S dX3_travel_14 (v := 1) rfl ?_
    refine g_isub S dX3_travel_15 ?_
    refine gp3 S hC hiX3 hk hKk 3 (by decide) (by decide +kernel) dX3_travel_16 ?_
    refine g_nm (fun S1 hS1 => ?_)
    refine g_aload_n S 0 dX3_travel_19 rfl ?_
    refine gg3 S hC hiX3 hk hKk 2 (by decide) (by decide +kernel) dX3_travel_20 ?_
    refine g_const S dX3_travel_23 (v := 1) rfl ?_
    refine g_icmp_ne S 65 dX3_travel_24 (by decide) (fun c_2 => ?_) (fun c_2 => ?_)
    · skip
      refine g_aload_n S 0 dX3_travel_65 rfl ?_
      refine gg3 S hC hiX3 hk hKk 3 (by decide) (by decide +kernel) dX3_travel_66 ?_
      refine g_if_le S 76 dX3_travel_69 (by decide) (fun c_3 => ?_) (fun c_3 => ?_)
      · skip
        refine g_aload_n S 0 dX3_travel_76 rfl ?_
        refine g_calli (g_runV S hC (As := []) (rest := []) (k := k) hk hKk (by decide) rfl (kX3_comeHome l E S1 k hk hKk) (cwV 0 S.2.2.2.2 gX3_travel_X3_comeHome rfl rfl rfl (by decide +kernel) ⟨Nat.le_of_ble_eq_true rfl, Nat.le_of_ble_eq_true rfl⟩) rfl rfl (Nat.le_of_ble_eq_true rfl) dX3_travel_77 ⟨Nat.le_of_ble_eq_true rfl, Nat.le_of_ble_eq_true rfl⟩) ?_
        refine g_nm (fun S2 hS2 => ?_)
        exact g_iret S hr hlocks dX3_travel_80 (by subst hS2 hS1; unfold sX3_travel_r; (try dsimp only); rw [if_neg c_1, if_neg c_2, if_pos c_3]) (by subst hS2 hS1; unfold sX3_travel_s; (try dsimp only); rw [if_neg c_1, if_neg c_2, if_pos c_3]) (Nat.le_of_ble_eq_true rfl) (Nat.le_of_ble_eq_true rfl)
      · skip
        refine g_const S dX3_travel_72 (v := 0) rfl ?_
        refine g_goto S 80 dX3_travel_73 (by decide) ?_
        exact g_iret S hr hlocks dX3_travel_80 (by subst hS1; unfold sX3_travel_r; (try dsimp only); rw [if_neg c_1, if_neg c_2, if_neg c_3]) (by subst hS1; unfold sX3_travel_s; (try dsimp only); rw [if_neg c_1, if_neg c_2, if_neg c_3]) (Nat.le_of_ble_eq_true rfl) (Nat.le_of_ble_eq_true rfl)
    · skip
      refine g_aload_n S 0 dX3_travel_27 rfl ?_
      refine gg3 S hC hiX3 hk hKk 3 (by decide) (by decide +kernel) dX3_travel_28 ?_
      refine g_aload_n S 0 dX3_travel_31 rfl ?_
      refine gg3 S hC hiX3 hk hKk 0 (by decide) (by decide +kernel) dX3_travel_32 ?_
      refine g_const S dX3_travel_35 (v := 2) rfl ?_
      refine g_idiv S dX3_travel_36 (by decide) ?_
      refine g_icmp_ne S 65 dX3_travel_37 (by decide) (fun c_4 => ?_) (fun c_4 => ?_)
      · skip
        refine g_aload_n S 0 dX3_travel_65 rfl ?_
        refine gg3 S hC hiX3 hk hKk 3 (by decide) (by decide +kernel) dX3_travel_66 ?_
        refine g_if_le S 76 dX3_travel_69 (by decide) (fun c_5 => ?_) (fun c_5 => ?_)
        · skip
          refine g_aload_n S 0 dX3_travel_76 rfl ?_
          refine g_calli (g_runV S hC (As := []) (rest := []) (k := k) hk hKk (by decide) rfl (kX3_comeHome l E S1 k hk hKk) (cwV 0 S.2.2.2.2 gX3_travel_X3_comeHome rfl rfl rfl (by decide +kernel) ⟨Nat.le_of_ble_eq_true rfl, Nat.le_of_ble_eq_true rfl⟩) rfl rfl (Nat.le_of_ble_eq_true rfl) dX3_travel_77 ⟨Nat.le_of_ble_eq_true rfl, Nat.le_of_ble_eq_true rfl⟩) ?_
          refine g_nm (fun S3 hS3 => ?_)
          exact g_iret S hr hlocks dX3_travel_80 (by subst hS3 hS1; unfold sX3_travel_r; (try dsimp only); rw [if_neg c_1, if_pos c_2, if_neg c_4, if_pos c_5]) (by subst hS3 hS1; unfold sX3_travel_s; (try dsimp only); rw [if_neg c_1, if_pos c_2, if_neg c_4, if_pos c_5]) (Nat.le_of_ble_eq_true rfl) (Nat.le_of_ble_eq_true rfl)
        · skip
          refine g_const S dX3_travel_72 (v := 0) rfl ?_
          refine g_goto S 80 dX3_travel_73 (by decide) ?_
          exact g_iret S hr hlocks dX3_travel_80 (by subst hS1; unfold sX3_travel_r; (try dsimp only); rw [if_neg c_1, if_pos c_2, if_neg c_4, if_neg c_5]) (by subst hS1; unfold sX3_travel_s; (try dsimp only); rw [if_neg c_1, if_pos c_2, if_neg c_4, if_neg c_5]) (Nat.le_of_ble_eq_true rfl) (Nat.le_of_ble_eq_true rfl)
      · skip
        refine g_iload_n S 1 dX3_travel_40 rfl ?_
        refine g_if_eq S 65 dX3_travel_41 (by decide) (fun c_6 => ?_) (fun c_6 => ?_)
        · skip
          refine g_aload_n S 0 dX3_travel_65 rfl ?_
          refine gg3 S hC hiX3 hk hKk 3 (by decide) (by decide +kernel) dX3_travel_66 ?_
          refine g_if_le S 76 dX3_travel_69 (by decide) (fun c_7 => ?_) (fun c_7 => ?_)
          · skip
            refine g_aload_n S 0 dX3_travel_76 rfl ?_
            refine g_calli (g_runV S hC (As := []) (rest := []) (k := k) hk hKk (by decide) rfl (kX3_comeHome l E S1 k hk hKk) (cwV 0 S.2.2.2.2 gX3_travel_X3_comeHome rfl rfl rfl (by decide +kernel) ⟨Nat.le_of_ble_eq_true rfl, Nat.le_of_ble_eq_true rfl⟩) rfl rfl (Nat.le_of_ble_eq_true rfl) dX3_travel_77 ⟨Nat.le_of_ble_eq_true rfl, Nat.le_of_ble_eq_true rfl⟩) ?_
            refine g_nm (fun S4 hS4 => ?_)
            exact g_iret S hr hlocks dX3_travel_80 (by subst hS4 hS1; unfold sX3_travel_r; (try dsimp only); rw [if_neg c_1, if_pos c_2, if_pos c_4, if_pos c_6, if_pos c_7]) (by subst hS4 hS1; unfold sX3_travel_s; (try dsimp only); rw [if_neg c_1, if_pos c_2, if_pos c_4, if_pos c_6, if_pos c_7]) (Nat.le_of_ble_eq_true rfl) (Nat.le_of_ble_eq_true rfl)
          · skip
            refine g_const S dX3_travel_72 (v := 0) rfl ?_
            refine g_goto S 80 dX3_travel_73 (by decide) ?_
            exact g_iret S hr hlocks dX3_travel_80 (by subst hS1; unfold sX3_travel_r; (try dsimp only); rw [if_neg c_1, if_pos c_2, if_pos c_4, if_pos c_6, if_neg c_7]) (by subst hS1; unfold sX3_travel_s; (try dsimp only); rw [if_neg c_1, if_pos c_2, if_pos c_4, if_pos c_6, if_neg c_7]) (Nat.le_of_ble_eq_true rfl) (Nat.le_of_ble_eq_true rfl)
        · skip
          refine g_aload_n S 0 dX3_travel_44 rfl ?_
          refine g_const S dX3_travel_45 (v := 2) rfl ?_
          refine gp3 S hC hiX3 hk hKk 2 (by decide) (by decide +kernel) dX3_travel_46 ?_
          refine g_nm (fun S5 hS5 => ?_)
          refine g_aload_n S 0 dX3_travel_49 rfl ?_
          refine g_bipush S dX3_travel_50 (v := 10) rfl ?_
          refine gp3 S hC hiX3 hk hKk 3 (by decide) (by decide +kernel) dX3_travel_52 ?_
          refine g_nm (fun S6 hS6 => ?_)
          refine g_aload_n S 0 dX3_travel_55 rfl ?_
          refine g_dup S dX3_travel_56 rfl ?_
          refine gg3 S hC hiX3 hk hKk 4 (by decide) (by decide +kernel) dX3_travel_57 ?_
          refine g_const S dX3_travel_60 (v := 1) rfl ?_
          refine g_iadd S dX3_travel_61 ?_
          refine gp3 S hC hiX3 hk hKk 4 (by decide) (by decide +kernel) dX3_travel_62 ?_
          refine g_nm (fun S7 hS7 => ?_)
          refine g_aload_n S 0 dX3_travel_65 rfl ?_
          refine gg3 S hC hiX3 hk hKk 3 (by decide) (by decide +kernel) dX3_travel_66 ?_
          refine g_if_le S 76 dX3_travel_69 (by decide) (fun c_8 => ?_) (fun c_8 => ?_)
          · skip
            refine g_aload_n S 0 dX3_travel_76 rfl ?_
            refine g_calli (g_runV S hC (As := []) (rest := []) (k := k) hk hKk (by decide) rfl (kX3_comeHome l E S7 k hk hKk) (cwV 0 S.2.2.2.2 gX3_travel_X3_comeHome rfl rfl rfl (by decide +kernel) ⟨Nat.le_of_ble_eq_true rfl, Nat.le_of_ble_eq_true rfl⟩) rfl rfl (Nat.le_of_ble_eq_true rfl) dX3_travel_77 ⟨Nat.le_of_ble_eq_true rfl, Nat.le_of_ble_eq_true rfl⟩) ?_
            refine g_nm (fun S8 hS8 => ?_)
            exact g_iret S hr hlocks dX3_travel_80 (by subst hS8 hS7 hS6 hS5 hS1; unfold sX3_travel_r; (try dsimp only); rw [if_neg c_1, if_pos c_2, if_pos c_4, if_neg c_6, if_pos c_8]) (by subst hS8 hS7 hS6 hS5 hS1; unfold sX3_travel_s; (try dsimp only); rw [if_neg c_1, if_pos c_2, if_pos c_4, if_neg c_6, if_pos c_8]) (Nat.le_of_ble_eq_true rfl) (Nat.le_of_ble_eq_true rfl)
          · skip
            refine g_const S dX3_travel_72 (v := 0) rfl ?_
            refine g_goto S 80 dX3_travel_73 (by decide) ?_
            exact g_iret S hr hlocks dX3_travel_80 (by subst hS7 hS6 hS5 hS1; unfold sX3_travel_r; (try dsimp only); rw [if_neg c_1, if_pos c_2, if_pos c_4, if_neg c_6, if_neg c_8]) (by subst hS7 hS6 hS5 hS1; unfold sX3_travel_s; (try dsimp only); rw [if_neg c_1, if_pos c_2, if_pos c_4, if_neg c_6, if_neg c_8]) (Nat.le_of_ble_eq_true rfl) (Nat.le_of_ble_eq_true rfl)
  · skip
    refine g_const S dX3_travel_7 (v := 0) rfl ?_
    exact g_iret S hr hlocks dX3_travel_8 (by rw [sX3_travel_r, if_pos c_1]) (by rw [sX3_travel_s, if_pos c_1]) (Nat.le_of_ble_eq_true rfl) (Nat.le_of_ble_eq_true rfl)
def sX3_become_s (σ : gS) (k : Nat) (o : Nat) : gS := let S1 := gu σ k 0 (σ.1 o 0); let S2 := gu S1 k 1 (S1.1 o 1); let S3 := gu S2 k 2 (S2.1 o 2); let S4 := gu S3 k 3 (S3.1 o 3); let S5 := gu S4 k 4 (S4.1 o 4); S5
set_option maxRecDepth 100000 in
set_option maxHeartbeats 4000000 in
theorem kX3_become (l : Launch) (E : gT) (σ : gS) (k : Nat) (hk : k < 65) (hKk : gK k = 3) (o : Nat) (ho : o < 65) (hKo : gK o = 3) : gMv l yX3_become wsX3_become ({ frames := 0, cells := 0, slots := 0, locals := 0 }) 0 0 E σ [.ref (E.2.2 k), .ref (E.2.2 o)] (sX3_become_s σ k o) := by
  refine g_met (mc := 0) (ms := 0) (nL := 2) (ret := none) (by decide) rfl (lv := [(0, .ref (E.2.2 k)), (1, .ref (E.2.2 o))]) rfl (Nat.le_of_ble_eq_true rfl) ?_
  intro p e s m below meth c S hr hlocks hC
  have hiX3 : ∀ w ∈ wsX30, w ∈ wsX3_become := by decide +kernel
  refine g_aload_n S 0 dX3_become_0 rfl ?_
  refine g_aload_n S 1 dX3_become_1 rfl ?_
  refine gg3 S hC hiX3 ho hKo 0 (by decide) (by decide +kernel) dX3_become_2 ?_
  refine gp3 S hC hiX3 hk hKk 0 (by decide) (by decide +kernel) dX3_become_5 ?_
  refine g_nm (fun S1 hS1 => ?_)
  refine g_aload_n S 0 dX3_become_8 rfl ?_
  refine g_aload_n S 1 dX3_become_9 rfl ?_
  refine gg3 S hC hiX3 ho hKo 1 (by decide) (by decide +kernel) dX3_become_10 ?_
  refine gp3 S hC hiX3 hk hKk 1 (by decide) (by decide +kernel) dX3_become_13 ?_
  refine g_nm (fun S2 hS2 => ?_)
  refine g_aload_n S 0 dX3_become_16 rfl ?_
  refine g_aload_n S 1 dX3_become_17 rfl ?_
  refine gg3 S hC hiX3 ho hKo 2 (by decide) (by decide +kernel) dX3_become_18 ?_
  refine gp3 S hC hiX3 hk hKk 2 (by decide) (by decide +kernel) dX3_become_21 ?_
  refine g_nm (fun S3 hS3 => ?_)
  refine g_aload_n S 0 dX3_become_24 rfl ?_
  refine g_aload_n S 1 dX3_become_25 rfl ?_
  refine gg3 S hC hiX3 ho hKo 3 (by decide) (by decide +kernel) dX3_become_26 ?_
  refine gp3 S hC hiX3 hk hKk 3 (by decide) (by decide +kernel) dX3_become_29 ?_
  refine g_nm (fun S4 hS4 => ?_)
  refine g_aload_n S 0 dX3_become_32 rfl ?_
  refine g_aload_n S 1 dX3_become_33 rfl ?_
  refine gg3 S hC hiX3 ho hKo 4 (by decide) (by decide +kernel) dX3_become_34 ?_
  refine gp3 S hC hiX3 hk hKk 4 (by decide) (by decide +kernel) dX3_become_37 ?_
  refine g_nm (fun S5 hS5 => ?_)
  exact g_vret S hr hlocks dX3_become_40 (by subst hS5 hS4 hS3 hS2 hS1; rfl) (Nat.le_of_ble_eq_true rfl) (Nat.le_of_ble_eq_true rfl)
def sX3_size_r (σ : gS) (k : Nat) : Int32 := (5 : Int32)
set_option maxRecDepth 100000 in
set_option maxHeartbeats 4000000 in
theorem kX3_size (l : Launch) (E : gT) (σ : gS) (k : Nat) (hk : k < 65) (hKk : gK k = 3) : gMi l yX3_size wsX3_size ({ frames := 0, cells := 0, slots := 0, locals := 0 }) 0 0 E σ [.ref (E.2.2 k)] (sX3_size_r σ k) σ := by
  refine g_met (mc := 0) (ms := 0) (nL := 1) (ret := (some .int)) (by decide) rfl (lv := [(0, .ref (E.2.2 k))]) rfl (Nat.le_of_ble_eq_true rfl) ?_
  intro p e s m below meth c S hr hlocks hC
  refine g_const S dX3_size_0 (v := 5) rfl ?_
  exact g_iret S hr hlocks dX3_size_1 rfl rfl (Nat.le_of_ble_eq_true rfl) (Nat.le_of_ble_eq_true rfl)
def sX3_tell_r (σ : gS) (k w : Nat) : Int32 := σ.1 k w
set_option maxRecDepth 100000 in
set_option maxHeartbeats 4000000 in
theorem kX3_tell (l : Launch) (E : gT) (σ : gS) (k : Nat) (hk : k < 65) (hKk : gK k = 3) (w : Nat) (hw : w < 5) : gMi l yX3_tell wsX3_tell ({ frames := 0, cells := 0, slots := 0, locals := 0 }) 0 0 E σ [.ref (E.2.2 k), .int (nI w)] (sX3_tell_r σ k w) σ := by
  refine g_met (mc := 0) (ms := 0) (nL := 2) (ret := (some .int)) (by decide) rfl (lv := [(0, .ref (E.2.2 k)), (1, .int (nI w))]) rfl (Nat.le_of_ble_eq_true rfl) ?_
  intro p e s m below meth c S hr hlocks hC
  have hiX3 : ∀ w ∈ wsX30, w ∈ wsX3_tell := by decide +kernel
  rcases (show w = 0 ∨ w = 1 ∨ w = 2 ∨ w = 3 ∨ w = 4 by omega) with rfl | rfl | rfl | rfl | rfl
  · skip
    refine g_iload_n S 1 dX3_tell_0 rfl ?_
    refine g_tabIn S 32 dX3_tell_1 (by decide) (by decide) rfl (by decide) ?_
    refine g_aload_n S 0 dX3_tell_32 rfl ?_
    refine gg3 S hC hiX3 hk hKk 0 (by decide) (by decide +kernel) dX3_tell_33 ?_
    exact g_iret S hr hlocks dX3_tell_36 rfl rfl (Nat.le_of_ble_eq_true rfl) (Nat.le_of_ble_eq_true rfl)
  · skip
    refine g_iload_n S 1 dX3_tell_0 rfl ?_
    refine g_tabIn S 37 dX3_tell_1 (by decide) (by decide) rfl (by decide) ?_
    refine g_aload_n S 0 dX3_tell_37 rfl ?_
    refine gg3 S hC hiX3 hk hKk 1 (by decide) (by decide +kernel) dX3_tell_38 ?_
    exact g_iret S hr hlocks dX3_tell_41 rfl rfl (Nat.le_of_ble_eq_true rfl) (Nat.le_of_ble_eq_true rfl)
  · skip
    refine g_iload_n S 1 dX3_tell_0 rfl ?_
    refine g_tabIn S 42 dX3_tell_1 (by decide) (by decide) rfl (by decide) ?_
    refine g_aload_n S 0 dX3_tell_42 rfl ?_
    refine gg3 S hC hiX3 hk hKk 2 (by decide) (by decide +kernel) dX3_tell_43 ?_
    exact g_iret S hr hlocks dX3_tell_46 rfl rfl (Nat.le_of_ble_eq_true rfl) (Nat.le_of_ble_eq_true rfl)
  · skip
    refine g_iload_n S 1 dX3_tell_0 rfl ?_
    refine g_tabIn S 47 dX3_tell_1 (by decide) (by decide) rfl (by decide) ?_
    refine g_aload_n S 0 dX3_tell_47 rfl ?_
    refine gg3 S hC hiX3 hk hKk 3 (by decide) (by decide +kernel) dX3_tell_48 ?_
    exact g_iret S hr hlocks dX3_tell_51 rfl rfl (Nat.le_of_ble_eq_true rfl) (Nat.le_of_ble_eq_true rfl)
  · skip
    refine g_iload_n S 1 dX3_tell_0 rfl ?_
    refine g_tabOut S 52 dX3_tell_1 (by decide) (by decide) ?_
    refine g_aload_n S 0 dX3_tell_52 rfl ?_
    refine gg3 S hC hiX3 hk hKk 4 (by decide) (by decide +kernel) dX3_tell_53 ?_
    exact g_iret S hr hlocks dX3_tell_56 rfl rfl (Nat.le_of_ble_eq_true rfl) (Nat.le_of_ble_eq_true rfl)
end
