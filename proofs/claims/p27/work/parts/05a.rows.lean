section HA
variable {p : Program} {l : Launch} {e : Env} {R : Room} {s : State} {m : MethodId} {args : Array Value} {below : List Frame} {meth : Method} {c : Code} {Q : State → Prop}
variable {cc : ByteArray} {nL : Nat} {Ts : List Cond} {own : String} {E : gT} {σ σ' : gS} {cells slots pc : Nat} {lv lv' : List (Nat × Value)} {rest st0 : List Value}
theorem g_sipush (S : CallFix p m c cc nL s args Ts own) {n : Int} {v : Int32} (d : decode cc pc = .ok (.sipush n, 3)) (hv : (Int16.ofInt n).toInt32 = v) (kk : gJ p l e R s m args below meth c Q nL E σ cells slots (pc + 3) lv (.int v :: rest)) : gJ p l e R s m args below meth c Q nL E σ cells slots pc lv rest :=
  fun H locs ls hP hS hl => lv_sipush S.1 S.2.1 d hv (kk H locs ls hP hS hl)
theorem g_ior (S : CallFix p m c cc nL s args Ts own) {x y : Int32} (d : decode cc pc = .ok (.ior, 1)) (kk : gJ p l e R s m args below meth c Q nL E σ cells slots (pc + 1) lv (.int (x ||| y) :: rest)) : gJ p l e R s m args below meth c Q nL E σ cells slots pc lv (.int y :: .int x :: rest) :=
  fun H locs ls hP hS hl => lv_ior S.1 S.2.1 d (kk H locs ls hP hS hl)
theorem g_ishl (S : CallFix p m c cc nL s args Ts own) {x y : Int32} (d : decode cc pc = .ok (.ishl, 1)) (kk : gJ p l e R s m args below meth c Q nL E σ cells slots (pc + 1) lv (.int (x <<< (y &&& 31)) :: rest)) : gJ p l e R s m args below meth c Q nL E σ cells slots pc lv (.int y :: .int x :: rest) :=
  fun H locs ls hP hS hl => lv_ishl S.1 S.2.1 d (kk H locs ls hP hS hl)
theorem g_ldc (S : CallFix p m c cc nL s args Ts own) {index : Nat} {v : Int32} (hw : Cond.constant own index v ∈ Ts) (d : decode cc pc = .ok (.ldc index, 2)) (kk : gJ p l e R s m args below meth c Q nL E σ cells slots (pc + 2) lv (.int v :: rest)) : gJ p l e R s m args below meth c Q nL E σ cells slots pc lv rest :=
  fun H locs ls hP hS hl => lv_ldc S.1 S.2.1 S.2.2.2.1 (S.2.2.2.2 _ hw) d (kk H locs ls hP hS hl)
/-- two ways to one point, with one number or the other -/
theorem g_sel {pcj : Nat} {a b : Int32} {st : List Value} (C : Prop) [Decidable C] (kk : gJ p l e R s m args below meth c Q nL E σ cells slots pcj lv (.int (if C then a else b) :: rest)) (kb : ((C → gJ p l e R s m args below meth c Q nL E σ cells slots pcj lv (.int a :: rest)) ∧ (¬ C → gJ p l e R s m args below meth c Q nL E σ cells slots pcj lv (.int b :: rest))) → gJ p l e R s m args below meth c Q nL E σ cells slots pc lv st) : gJ p l e R s m args below meth c Q nL E σ cells slots pc lv st :=
  kb ⟨fun h => by rw [if_pos h] at kk; exact kk, fun h => by rw [if_neg h] at kk; exact kk⟩
/-- the script: its length, its cells -/
theorem g_slen (S : CallFix p m c cc nL s args Ts own) (hC : gC E s) (d : decode cc pc = .ok (.arraylength, 1)) (kk : gJ p l e R s m args below meth c Q nL E σ cells slots (pc + 1) lv (.int (nI (gSl E)) :: rest)) : gJ p l e R s m args below meth c Q nL E σ cells slots pc lv (.ref (gSb E) :: rest) := by
  obtain ⟨_, ⟨n1, _, _, _, _, x1, x2, x3⟩, _⟩ := hC
  exact fun H locs ls hP hS hl => va_slen S.1 S.2.1 x1 (Nat.lt_of_lt_of_le x2 n1) (fun z => absurd z (Nat.not_le_of_lt x2)) hS d (kk H locs ls hP hS hl)
theorem g_sld (S : CallFix p m c cc nL s args Ts own) (hC : gC E s) (j : Nat) {i : Int32} (hi : i = nI j) (hj : j < gSl E) (d : decode cc pc = .ok (.iaload, 1)) (kk : gJ p l e R s m args below meth c Q nL E σ cells slots (pc + 1) lv (.int (E.1.2.2.2 j) :: rest)) : gJ p l e R s m args below meth c Q nL E σ cells slots pc lv (.int i :: .ref (gSb E) :: rest) := by
  obtain ⟨_, ⟨n1, _, _, _, _, x1, x2, x3⟩, _⟩ := hC
  intro H locs ls hP hS hl
  have hcl : i.toNatClampNeg = j := by rw [hi]; exact nI_clamp (by omega)
  refine va_sld S.1 S.2.1 x1 (Nat.lt_of_lt_of_le x2 n1) (fun z => absurd z (Nat.not_le_of_lt x2)) hS (by rw [hi]; exact vp_in_nI hj (by omega)) d ?_
  rw [hcl]
  exact kk H locs ls hP hS hl
/-! cells behind the places -/
def gx (E : gT) (q : Nat) (e : va_E) : gT := ((E.1.1, E.1.2.1, gXs E ++ [(q, e)], E.1.2.2.2), E.2)
abbrev gQ (f : Nat → Option Nat) : (Nat → Int32) ⊕ (Nat → Int64) ⊕ (Nat → UInt32) ⊕ (Nat → UInt64) ⊕ (Nat → Option Nat) := .inr (.inr (.inr (.inr f)))
theorem gl_gx {q : Nat} {e : va_E} : gl (gx E q e) σ = gl E σ ++ [(q, e)] := by
  show (List.range 58).map (fun k => (E.2.2 k, gw E σ k)) ++ (gXs E ++ [(q, e)]) = _
  rw [← List.append_assoc]
  rfl
theorem gC.x {q : Nat} {e : va_E} (h : gC E s) : gC (gx E q e) s := h
theorem nK_int {D : va_G} {cl : List vw_C} {tys : List (ClassId × FieldType)} {s : State} {a b : ClassId} (i j : Nat) (hK : va_K D cl tys s) (hi : tys[i]? = some (a, .int)) (hj : tys[j]? = some (b, .int)) : a = b := by
  have h1 : s.vm.findClass _ = some a := (hK.2 i _ hi).2
  have h2 : s.vm.findClass _ = some b := (hK.2 j _ hj).2
  exact Option.some.inj (h1.symm.trans h2)
theorem n_nn {n : Nat} (h : n < 2 ^ 31) : ¬ nI n < 0 := by
  rw [Int32.lt_iff_toInt_lt, nI_toInt h, Int32.toInt_zero]
  omega
theorem n_at {α : Type} (l : List α) (a : α) : (l ++ [a])[l.length]? = some a := by simp
theorem n_set {α : Type} (l : List α) (a b : α) : (l ++ [a]).set l.length b = l ++ [b] := by simp
/-- a new row of numbers -/
theorem g_newX (S : CallFix p m c cc nL s args Ts own) (hC : gC E s) {n : Int32} (N : Nat) (hn : n = nI N) (hN : N ≤ 16) (harr : Cond.arrayClass .int ∈ Ts) (hcells : cells + 1 ≤ R.cells) (hslots : slots + N ≤ R.slots) (d : decode cc pc = .ok (.newarray .int, 2))
    (kk : ∀ q : Nat, gJ p l e R s m args below meth c Q nL (gx E q (.inl (E.2.1 0, N, .inl (fun _ => 0)))) σ (cells + 1) (slots + N) (pc + 2) lv (.ref q :: rest)) : gJ p l e R s m args below meth c Q nL E σ cells slots pc lv (.int n :: rest) := by
  subst hn
  intro H locs ls hP hS hl
  refine va_newa (atype := .int) (ty := .int) (N' := N) (a0 := (N, .inl (fun _ => 0))) S.1 S.2.1 (S.2.2.2.2 _ harr) rfl hC.1 hP.1 hP.2 hS hC.new (fun _ => rfl) (n_nn (by omega)) (nI_clamp (by omega)) (by show N * 4 ≤ 536870912; omega) hcells hslots d (fun q cA H1 hK1 hP1 hD1 hS1 => ?_)
  obtain rfl : cA = E.2.1 0 := nK_int 6 0 hK1 rfl rfl
  exact kk q H1 locs ls ⟨by rw [gl_gx]; exact hP1, by rw [gl_gx]; exact hD1⟩ hS1 hl
/-- .. a number put into it, read out of it -/
theorem g_iastX (S : CallFix p m c cc nL s args Ts own) (hC : gC E s) {q N : Nat} {f : Nat → Int32} (j : Nat) {i x : Int32} (hi : i = nI j) (hj : j < N) (hN : N ≤ 16) (d : decode cc pc = .ok (.iastore, 1))
    (kk : gJ p l e R s m args below meth c Q nL (gx E q (.inl (E.2.1 0, N, .inl (upd f j x)))) σ cells slots (pc + 1) lv rest) : gJ p l e R s m args below meth c Q nL (gx E q (.inl (E.2.1 0, N, .inl f))) σ cells slots pc lv (.int x :: .int i :: .ref q :: rest) := by
  intro H locs ls hP hS hl
  have hcl : i.toNatClampNeg = j := by rw [hi]; exact nI_clamp (by omega)
  obtain ⟨h1, h2⟩ := hP
  rw [gl_gx] at h1 h2
  refine va_iast (D := E.1.1) (cl := vwCl) (tys := gTys E) S.1 S.2.1 hC.1 h1 h2 hS (gl E σ).length 0 (n_at _ _) rfl (by rw [hi]; exact vp_in_nI hj (by omega)) d (fun H1 locs1 hP1 hD1 hS1 => ?_)
  rw [n_set, hcl] at hP1 hD1
  exact kk H1 locs1 ls ⟨by rw [gl_gx]; exact hP1, by rw [gl_gx]; exact hD1⟩ hS1 hl
theorem g_ialdX (S : CallFix p m c cc nL s args Ts own) (hC : gC E s) {q N : Nat} {f : Nat → Int32} (j : Nat) {i : Int32} (hi : i = nI j) (hj : j < N) (hN : N ≤ 16) (d : decode cc pc = .ok (.iaload, 1))
    (kk : gJ p l e R s m args below meth c Q nL (gx E q (.inl (E.2.1 0, N, .inl f))) σ cells slots (pc + 1) lv (.int (f j) :: rest)) : gJ p l e R s m args below meth c Q nL (gx E q (.inl (E.2.1 0, N, .inl f))) σ cells slots pc lv (.int i :: .ref q :: rest) := by
  intro H locs ls hP hS hl
  have hcl : i.toNatClampNeg = j := by rw [hi]; exact nI_clamp (by omega)
  have h1 := hP.1
  rw [gl_gx] at h1
  refine va_iald (D := E.1.1) (cl := vwCl) (tys := gTys E) S.1 S.2.1 hC.1 h1 (gl E σ).length 0 (n_at _ _) rfl (by rw [hi]; exact vp_in_nI hj (by omega)) d ?_
  rw [hcl]
  exact kk H locs ls hP hS hl
/-- .. forgotten -/
theorem gP.drop {q : Nat} {e : va_E} {H : Heap} (hP : gP (gx E q e) σ H) : gP E σ H := by
  obtain ⟨h1, h2⟩ := hP
  rw [gl_gx] at h1 h2
  have key : ∀ (k : Nat) (x : Nat × va_E), (gl E σ)[k]? = some x → (gl E σ ++ [(q, e)])[k]? = some x := fun k x hk => by
    rw [List.getElem?_append_left (List.getElem?_eq_some_iff.mp hk).1]
    exact hk
  exact ⟨va_P.by h1 (fun k => k) key, va_D.by h2 (fun k => k) key (fun i j _ _ h => h)⟩
theorem g_dropX {q : Nat} {y : va_E} (kk : gJ p l e R s m args below meth c Q nL E σ cells slots pc lv rest) : gJ p l e R s m args below meth c Q nL (gx E q y) σ cells slots pc lv rest :=
  fun H locs ls hP hS hl => kk H locs ls hP.drop hS hl
/-- a new row of rows -/
theorem g_newQ (S : CallFix p m c cc nL s args Ts own) (hC : gC E s) {n : Int32} (N : Nat) (hn : n = nI N) (hN : N ≤ 16) {index : Nat} (hcl : Cond.classLink own index (FieldType.array .int).toString ∈ Ts) (hcells : cells + 1 ≤ R.cells) (hslots : slots + N ≤ R.slots) (d : decode cc pc = .ok (.anewarray index, 3))
    (kk : ∀ q : Nat, gJ p l e R s m args below meth c Q nL (gx E q (.inl (E.2.1 1, N, gQ (fun _ => none)))) σ (cells + 1) (slots + N) (pc + 3) lv (.ref q :: rest)) : gJ p l e R s m args below meth c Q nL E σ cells slots pc lv (.int n :: rest) := by
  subst hn
  intro H locs ls hP hS hl
  have hcN : (nI N).toNatClampNeg = N := nI_clamp (by omega)
  have hover : (Cond.arrayOver (.array .int)).before args s = true := hC.2.2.1.2.2
  refine W.anewA (t := .int) S.1 S.2.1 S.2.2.2.1 (S.2.2.2.2 _ hcl) hover rfl d rfl (n_nn (by omega)) (by rw [hcN]; omega) hcells (by rw [hcN]; exact hslots) fun cA kA comp f1 f2 f3 f4 => ?_
  rw [hcN]
  have hr : s.vm.findClass ("[" ++ (FieldType.array .int).toString) = some (E.2.1 1) := (hC.1.2 1 _ rfl).2
  obtain rfl : cA = E.2.1 1 := Option.some.inj (f1.symm.trans hr)
  generalize hH1 : H.push ({ cls := E.2.1 1, slots := Array.replicate N .null, vm := .none } : Cell) = H1
  have z1 : H1.size = H.size + 1 := by rw [← hH1, Array.size_push]
  have e1 : H1[H.size]? = some (arrV (E.2.1 1) N (fun _ => .null)) := by rw [← hH1, Array.getElem?_push_size, ← arrV_new]
  have o1 : ∀ q : Nat, q < H.size → H1[q]? = H[q]? := fun q hq => by rw [← hH1, Array.getElem?_push, if_neg (Nat.ne_of_lt hq)]
  have hk : ∀ (k : Nat) (x : Nat × va_E), (gl E σ)[k]? = some x → H1[x.1]? = H[x.1]? := fun k x hx => o1 x.1 ((hP.1 k x hx).lt)
  refine kk H.size H1 locs ls ⟨?_, ?_⟩ ⟨Nat.le_trans hS.1 (by omega), fun x h1 h2 => (o1 x (Nat.lt_of_lt_of_le h1 hS.1)).trans (hS.2.1 x h1 h2), hS.2.2⟩ hl
  · rw [gl_gx]
    refine (hP.1.kept hk).app (fun k x hx => ?_)
    have hz : k < 1 := (List.getElem?_eq_some_iff.mp hx).1
    rw [show k = 0 by omega] at hx
    cases hx
    show H1[H.size]? = some (vp_cell _ _)
    rw [vp_cell_q]
    exact e1
  · rw [gl_gx]
    exact hP.2.push hP.1 rfl (Nat.le_trans hC.2.1.1 hS.1)
/-- .. a row put into it -/
theorem g_astQ (S : CallFix p m c cc nL s args Ts own) (hC : gC E s) {q N : Nat} {f : Nat → Option Nat} (j : Nat) {i : Int32} (hi : i = nI j) (hj : j < N) (hN : N ≤ 16) {v : Nat} (w : Nat) {L : Nat} {fr : Nat → Int32} (hv : (gl E σ)[w]? = some (v, .inl (E.2.1 0, L, .inl fr))) (d : decode cc pc = .ok (.aastore, 1))
    (kk : gJ p l e R s m args below meth c Q nL (gx E q (.inl (E.2.1 1, N, gQ (va_up f j (some v))))) σ cells slots (pc + 1) lv rest) : gJ p l e R s m args below meth c Q nL (gx E q (.inl (E.2.1 1, N, gQ f))) σ cells slots pc lv (.ref v :: .int i :: .ref q :: rest) := by
  intro H locs ls hP hS hl
  have hcl : i.toNatClampNeg = j := by rw [hi]; exact nI_clamp (by omega)
  have hin : vp_in i N := by rw [hi]; exact vp_in_nI hj (by omega)
  have h0 : ¬ i < 0 := fun q => hin (Or.inl q)
  have hover : (Cond.arrayOver (.array .int)).before #[] s = true := hC.2.2.1.2.2
  obtain ⟨comp, cA, kA, hcomp, -, hkA, hkindA, hnameA⟩ := arrayOverA_spec hover
  have hr : s.vm.findClass ("[" ++ (FieldType.array .int).toString) = some (E.2.1 1) := (hC.1.2 1 _ rfl).2
  have hr0 : s.vm.findClass (FieldType.array .int).toString = some (E.2.1 0) := (hC.1.2 0 _ rfl).2
  obtain rfl : cA = E.2.1 1 := Option.some.inj (hnameA.symm.trans hr)
  obtain rfl : comp = E.2.1 0 := Option.some.inj (hcomp.symm.trans hr0)
  obtain ⟨kC, hkC, -⟩ := Vm.findClass_spec hcomp
  obtain ⟨h1, h2⟩ := hP
  rw [gl_gx] at h1 h2
  have hq := n_at (gl E σ) (q, (.inl (E.2.1 1, N, gQ f) : va_E))
  have hcv : va_at E.1.1 vwCl (v, .inl (E.2.1 0, L, .inl fr)) H := h1 w _ (by rw [List.getElem?_append_left (List.getElem?_eq_some_iff.mp hv).1]; exact hv)
  have hcq : va_at E.1.1 vwCl (q, .inl (E.2.1 1, N, gQ f)) H := h1 _ _ hq
  refine W.aast S.1 S.2.1 hcq (fun q h => by cases h) (fun h => by cases h) hkA hkindA rfl hkC ⟨h0, by show _ < (arrV _ _ _).slots.size; rw [arrV_size, hcl]; exact hj⟩ hcv (fun q h => by cases h) hkC (by show s.vm.assignable (E.2.1 0) (E.2.1 0) = true; unfold Vm.assignable; rw [Vm.assignableAux.eq_2]; simp) rfl rfl d fun H1 e9 z oq => ?_
  have hat : va_at E.1.1 vwCl (q, .inl (E.2.1 1, N, gQ (va_up f j (some v)))) H1 := by
    show H1[q]? = some (vp_cell _ _)
    rw [e9]
    show some ((vp_cell _ _).setSlot _ _) = _
    rw [vp_cell_q, vp_cell_q, arrV_store, hcl]
    congr 2
    funext x
    by_cases hx : x = j
    · subst hx
      simp [updV, va_up, va_rf]
    · simp [updV, va_up, hx]
  have hP1 := h1.set h2 hq hat oq
  have hD1 : va_D (gA E 0) ((gl E σ ++ [(q, (.inl (E.2.1 1, N, gQ f) : va_E))]).set (gl E σ).length (q, .inl (E.2.1 1, N, gQ (va_up f j (some v))))) := h2.set hq
  rw [n_set] at hP1 hD1
  exact kk H1 _ ls ⟨by rw [gl_gx]; exact hP1, by rw [gl_gx]; exact hD1⟩ (hS.put z oq (h2.2 _ _ hq)) hl
end HA
theorem gI_add {x y : Int32} {a b : Nat} (hx : x = nI a) (hy : y = nI b) : x + y = nI (a + b) := by rw [hx, hy]; exact nI_add a b
theorem gI_mul {x y : Int32} {a b : Nat} (hx : x = nI a) (hy : y = nI b) : x * y = nI (a * b) := by rw [hx, hy]; exact pk_mul a b
theorem gNo_lt {E : gT} {s : State} {o : Nat} (hC : gC E s) (ho : o < 4) : gNo E o < 2 ^ 31 := Nat.lt_of_le_of_lt (gNo_le hC ho) (by decide)
section HR
variable {p : Program} {l : Launch} {e : Env} {R : Room} {s : State} {m : MethodId} {args : Array Value} {below : List Frame} {meth : Method} {c : Code} {Q : State → Prop}
variable {cc : ByteArray} {nL : Nat} {Ts : List Cond} {own : String} {E : gT} {σ σ' : gS} {cells slots pc : Nat} {lv lv' : List (Nat × Value)} {rest st0 : List Value}
/-- methods that answer a cell -/
abbrev gRr (E : gT) (σ : gS) (r : Nat) (sz : Nat) : Array Value → State → Outcome → State → Prop := va_Qr (fun (_ : Unit) => True) (fun _ a t => a = r ∧ gBt E σ t) (gA E sz)
def gMr (l : Launch) (y : MethodName) (ws : List Cond) (rm : Room) (mc ms : Nat) (E : gT) (σ : gS) (av : List Value) (r : Nat) (σ' : gS) : Prop := ∀ sz, Met l y ws rm (gPre E σ sz av) (gRr E σ' r sz) mc ms (gA E sz)
theorem g_aret (S : CallFix p m c cc nL s args Ts own) {rt : FieldType} (hr : meth.sig.returnType = some rt) (hrt : (∃ n, rt = .object n) ∨ ∃ t, rt = .array t) (hlocks : meth.locks = false) {r r' : Nat} {mc ms : Nat} (d : decode cc pc = .ok (.areturn, 1)) (h1 : r = r') (h2 : σ = σ') (h3 : cells ≤ mc) (h4 : slots ≤ ms) :
    gJ p l e R s m args below meth c (MQ below (gRr E σ' r' s.heap.size) args s mc ms (gA E s.heap.size)) nL E σ cells slots pc lv [.ref r] := by
  subst h1; subst h2
  exact fun H locs ls hP hS hl => W.widen h3 h4 (W.aret S.1 S.2.1 hr hrt (Or.inr ⟨_, rfl⟩) (fun t ht _ => ⟨⟨(), r, rfl, trivial, rfl, by show gP _ _ t.heap; rw [ht]; exact hP⟩, hS.F ht⟩) hS.2.2 d)
variable {mc ms : Nat} {a : Array Value}
theorem g_callr {r : Nat} (hr : gRun p l e R s m args below meth c nL E σ cells slots pc lv st0 rest (fun sz => gRr E σ' r sz a) mc ms) (kk : gJ p l e R s m args below meth c Q nL E σ' (cells + mc) (slots + ms) (pc + 3) lv (.ref r :: rest)) : gJ p l e R s m args below meth c Q nL E σ cells slots pc lv st0 := by
  intro H locs ls hP hS hl
  refine va_callr (hr H locs ls hP hS hl) hS (fun q _ h => gA_mono hS.1 q h) (gA_mono hS.1) (fun u ra t H1 locs1 ht hvm hr' hB hz hk hS1 => ?_)
  obtain ⟨rfl, hB⟩ := hB
  have hB : gP _ _ t.heap := hB
  rw [ht] at hB
  exact kk H1 locs1 ls hB hS1 hl
end HR
/-! a day's number -/
def dB (σ : gS) (k : Nat) : Prop := ∃ n, σ.1 29 0 = nI n ∧ n + k < 5000
theorem dB.le {σ : gS} {a b : Nat} (h : dB σ b) (hab : a ≤ b) : dB σ a := by
  obtain ⟨n, h1, h2⟩ := h
  exact ⟨n, h1, by omega⟩
theorem dB.of {σ τ : gS} {k : Nat} (h : dB σ k) (e : τ.1 29 0 = σ.1 29 0) : dB τ k := by
  obtain ⟨n, h1, h2⟩ := h
  exact ⟨n, e.trans h1, h2⟩
theorem dB.next {σ τ : gS} {k : Nat} (h : dB σ (k + 1)) (e : τ.1 29 0 = σ.1 29 0 + 1) : dB τ k := by
  obtain ⟨n, h1, h2⟩ := h
  exact ⟨n + 1, by rw [e, h1, nI_1], by omega⟩
theorem day7 {d : Int32} (h : ∃ n, d = nI n ∧ n < 5000) : ∃ r, r < 7 ∧ d - d / 7 * 7 = nI r := by
  obtain ⟨n, rfl, hn⟩ := h
  exact ⟨n % 7, Nat.mod_lt _ (by decide), pk_rem (d := 7) (by omega) (by decide) (by decide)⟩
theorem day7_ne {d : Int32} (h : ∃ n, d = nI n ∧ n < 5000) : ¬ (1 : Int32) <<< ((d - d / 7 * 7) &&& 31) = 0 := by
  obtain ⟨r, hr, e⟩ := day7 h
  rw [e]
  have key : ∀ r, r < 7 → ¬ (1 : Int32) <<< (nI r &&& 31) = 0 := by decide +kernel
  exact key r hr
theorem dB_itr {f : Nat → gS → gS} {d : Nat} {σ : gS} (h : ∀ (j : Nat) (x : gS) (k : Nat), dB x (k + 1) → dB (f j x) k) : ∀ i, i ≤ d → dB σ d → dB (itr f i σ) (d - i)
  | 0, _, hd => hd
  | i + 1, hi, hd => by
    have := dB_itr h i (by omega) hd
    exact h _ _ _ (by rw [show d - (i + 1) + 1 = d - i by omega]; exact this)
