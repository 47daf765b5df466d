/-! the law's own body: what holds all along it -/
theorem lg_cmp_self (x : Int64) : lg_cmp x x = 0 := by
  unfold lg_cmp
  simp
def gLC (p : Program) (l : Launch) (s : State) (m : MethodId) (meth : Method) (c : Code) (b L : Nat) (xs : Nat → Int32) (E : gT) : Prop :=
  CallFix p m c cL_law 9 s #[.ref b] wsL_law RL ∧ meth.sig.returnType = some .boolean ∧ meth.locks = false ∧ gC E s ∧ va_X b L xs s s.heap ∧ b < s.heap.size ∧ (∀ k, k < 65 → s.heap.size ≤ E.2.2 k) ∧ l.stackTraces = false ∧ L ≤ 2048
def lvL (E : gT) (b j : Nat) : List (Nat × Value) := [(4, .int (nI j)), (3, .ref (E.2.2 64)), (2, .ref (E.2.2 57)), (1, .ref (E.2.2 0)), (0, .ref b)]
/-- a point of the law -/
def gLJ (p : Program) (l : Launch) (e : Env) (s : State) (m : MethodId) (below : List Frame) (meth : Method) (c : Code) (b : Nat) (d0 : Drawn) (E : gT) (σ : gS) (cells slots pc : Nat) (lv : List (Nat × Value)) (st : List Value) : Prop :=
  gJ p l e room_1 (s.setDrawn d0) m #[.ref b] below meth c (lw_Z below #[.ref b] s) 9 E σ cells slots pc lv st
section GL
variable {p : Program} {l : Launch} {e : Env} {R : Room} {s : State} {m : MethodId} {args : Array Value} {below : List Frame} {meth : Method} {c : Code} {Q : State → Prop} {d0 : Drawn}
variable {cc : ByteArray} {nL : Nat} {Ts : List Cond} {own : String} {E : gT} {σ σ' : gS} {cells slots pc b L : Nat} {xs : Nat → Int32} {lv lv' : List (Nat × Value)} {rest st0 : List Value}
theorem gLC.nA (h : gLC p l s m meth c b L xs E) : ¬ gA E s.heap.size b := by
  rintro (⟨k, hk, he⟩ | hge)
  · have := h.2.2.2.2.2.2.1 k hk
    have := h.2.2.2.2.2.1
    omega
  · have := h.2.2.2.2.2.1
    omega
theorem g_sld (C : gLC p l s m meth c b L xs E) (S : CallFix p m c cc nL (s.setDrawn d0) args Ts own) {i : Int32} {q : Nat} (hi : i = nI q) (hq : q < L) (d : decode cc pc = .ok (.iaload, 1))
    (kk : gJ p l e R (s.setDrawn d0) m args below meth c Q nL E σ cells slots (pc + 1) lv (.int (xs q) :: rest)) : gJ p l e R (s.setDrawn d0) m args below meth c Q nL E σ cells slots pc lv (.int i :: .ref b :: rest) := by
  intro H locs ls hP hS hl
  have hL := C.2.2.2.2.2.2.2.2
  have hcl : i.toNatClampNeg = q := by rw [hi]; exact nI_clamp (by omega)
  refine va_sld (s := s.setDrawn d0) S.1 S.2.1 (C.2.2.2.2.1) C.2.2.2.2.2.1 C.nA hS (by rw [hi]; exact vp_in_nI hq (by omega)) d ?_
  rw [hcl]
  exact kk H locs ls hP hS hl
theorem g_slen (C : gLC p l s m meth c b L xs E) (S : CallFix p m c cc nL (s.setDrawn d0) args Ts own) (d : decode cc pc = .ok (.arraylength, 1))
    (kk : gJ p l e R (s.setDrawn d0) m args below meth c Q nL E σ cells slots (pc + 1) lv (.int (nI L) :: rest)) : gJ p l e R (s.setDrawn d0) m args below meth c Q nL E σ cells slots pc lv (.ref b :: rest) :=
  fun H locs ls hP hS hl => va_slen (s := s.setDrawn d0) S.1 S.2.1 (C.2.2.2.2.1) C.2.2.2.2.2.1 C.nA hS d (kk H locs ls hP hS hl)
/-- the law's end -/
theorem gL_ret (C : gLC p l s m meth c b L xs E) (hd0 : s.drawn.sameBut d0 lw_cs) (hc : cells ≤ 672043) (hs : slots ≤ 7079974) (d : decode cL_law pc = .ok (.ireturn, 1)) : gLJ p l e s m below meth c b d0 E σ cells slots pc lv [.int 1] := by
  intro H locs ls hP hS hl
  refine va_forget (fun q hq => ?_) (W.widen hc hs (lw_ret hd0 C.1.1 C.1.2.1 C.2.1 C.2.2.1 d))
  rcases hS.2.2 q hq with ⟨k, hk, he⟩ | h
  · have h9 : s.heap.size ≤ E.2.2 k := C.2.2.2.2.2.2.1 k hk
    rw [he]
    exact h9
  · exact h
end GL
