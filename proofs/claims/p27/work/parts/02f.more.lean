section GO
variable {p : Program} {l : Launch} {e : Env} {R : Room} {s : State} {m : MethodId} {args : Array Value} {below : List Frame} {meth : Method} {c : Code} {Q : State → Prop}
variable {cc : ByteArray} {nL : Nat} {Ts : List Cond} {own : String} {E : gT} {σ σ' : gS} {cells slots pc : Nat} {lv lv' : List (Nat × Value)} {rest st0 : List Value}
/-- the town's base place, or the trial's -/
def gTw (t : Nat) : Prop := t = 1
theorem gTw.lt {t : Nat} (h : gTw t) {j : Nat} (hj : j < 28) : t + j < 58 := by obtain rfl : t = 1 := h <;> omega
theorem gTw.lt2 {t : Nat} (h : gTw t) {a i : Nat} (hj : a + i < 28) : t + a + i < 58 := by obtain rfl : t = 1 := h <;> omega
theorem gTw.town {t : Nat} (h : gTw t) : gK t = 5 := by obtain rfl : t = 1 := h <;> rfl
theorem gTw.r1 {t : Nat} (h : gTw t) : gK (t + 1) = 10 := by obtain rfl : t = 1 := h <;> rfl
theorem gTw.r2 {t : Nat} (h : gTw t) : gK (t + 2) = 11 := by obtain rfl : t = 1 := h <;> rfl
theorem gTw.r3 {t : Nat} (h : gTw t) : gK (t + 3) = 12 := by obtain rfl : t = 1 := h <;> rfl
theorem gTw.r4 {t : Nat} (h : gTw t) : gK (t + 4) = 13 := by obtain rfl : t = 1 := h <;> rfl
theorem gTw.store {t : Nat} (h : gTw t) : gK (t + 5) = 4 := by obtain rfl : t = 1 := h <;> rfl
theorem gTw.bed {t : Nat} (h : gTw t) {i : Nat} (hi : i < 4) : gK (t + 6 + i) = 0 := by
  obtain rfl : t = 1 := h <;> rcases (show i = 0 ∨ i = 1 ∨ i = 2 ∨ i = 3 by omega) with rfl | rfl | rfl | rfl <;> rfl
theorem gTw.drum {t : Nat} (h : gTw t) {i : Nat} (hi : i < 4) : gK (t + 10 + i) = 2 := by
  obtain rfl : t = 1 := h <;> rcases (show i = 0 ∨ i = 1 ∨ i = 2 ∨ i = 3 by omega) with rfl | rfl | rfl | rfl <;> rfl
theorem gTw.smug {t : Nat} (h : gTw t) {i : Nat} (hi : i < 4) : gK (t + 14 + i) = 3 := by
  obtain rfl : t = 1 := h <;> rcases (show i = 0 ∨ i = 1 ∨ i = 2 ∨ i = 3 by omega) with rfl | rfl | rfl | rfl <;> rfl
theorem gTw.card {t : Nat} (h : gTw t) {i : Nat} (hi : i < 10) : gK (t + 18 + i) = 1 := by
  obtain rfl : t = 1 := h <;> rcases (show i = 0 ∨ i = 1 ∨ i = 2 ∨ i = 3 ∨ i = 4 ∨ i = 5 ∨ i = 6 ∨ i = 7 ∨ i = 8 ∨ i = 9 by omega) with rfl | rfl | rfl | rfl | rfl | rfl | rfl | rfl | rfl | rfl <;> rfl
theorem ga10 (S : CallFix p m c cc nL s args Ts own) (hC : gC E s) {k : Nat} (hk : k < 58) (hkd : gK k = 10) (j : Nat) {i : Int32} (hi : i = nI j) (hj : j < 4) (q : Nat) (hq : k + 5 + j = q) (d : decode cc pc = .ok (.aaload, 1)) (kk : gJ p l e R s m args below meth c Q nL E σ cells slots (pc + 1) lv (.ref (E.2.2 q) :: rest)) : gJ p l e R s m args below meth c Q nL E σ cells slots pc lv (.int i :: .ref (E.2.2 k) :: rest) :=
  g_aald S hC hk 10 4 5 2 2 (by unfold gw; rw [hkd]; try rfl) rfl (by omega) j hi hj q hq d kk
theorem ga11 (S : CallFix p m c cc nL s args Ts own) (hC : gC E s) {k : Nat} (hk : k < 58) (hkd : gK k = 11) (j : Nat) {i : Int32} (hi : i = nI j) (hj : j < 4) (q : Nat) (hq : k + 8 + j = q) (d : decode cc pc = .ok (.aaload, 1)) (kk : gJ p l e R s m args below meth c Q nL E σ cells slots (pc + 1) lv (.ref (E.2.2 q) :: rest)) : gJ p l e R s m args below meth c Q nL E σ cells slots pc lv (.int i :: .ref (E.2.2 k) :: rest) :=
  g_aald S hC hk 11 4 8 3 3 (by unfold gw; rw [hkd]; try rfl) rfl (by omega) j hi hj q hq d kk
theorem ga12 (S : CallFix p m c cc nL s args Ts own) (hC : gC E s) {k : Nat} (hk : k < 58) (hkd : gK k = 12) (j : Nat) {i : Int32} (hi : i = nI j) (hj : j < 4) (q : Nat) (hq : k + 11 + j = q) (d : decode cc pc = .ok (.aaload, 1)) (kk : gJ p l e R s m args below meth c Q nL E σ cells slots (pc + 1) lv (.ref (E.2.2 q) :: rest)) : gJ p l e R s m args below meth c Q nL E σ cells slots pc lv (.int i :: .ref (E.2.2 k) :: rest) :=
  g_aald S hC hk 12 4 11 4 4 (by unfold gw; rw [hkd]; try rfl) rfl (by omega) j hi hj q hq d kk
theorem ga13 (S : CallFix p m c cc nL s args Ts own) (hC : gC E s) {k : Nat} (hk : k < 58) (hkd : gK k = 13) (j : Nat) {i : Int32} (hi : i = nI j) (hj : j < 10) (q : Nat) (hq : k + 14 + j = q) (d : decode cc pc = .ok (.aaload, 1)) (kk : gJ p l e R s m args below meth c Q nL E σ cells slots (pc + 1) lv (.ref (E.2.2 q) :: rest)) : gJ p l e R s m args below meth c Q nL E σ cells slots pc lv (.int i :: .ref (E.2.2 k) :: rest) :=
  g_aald S hC hk 13 10 14 5 5 (by unfold gw; rw [hkd]; try rfl) rfl (by omega) j hi hj q hq d kk
/-- from one point to the same, otherwise written -/
theorem g_to {st st' : List Value} (k : gJ p l e R s m args below meth c Q nL E σ' cells slots pc lv' st') (h1 : σ = σ') (h2 : lv = lv') (h3 : st = st') : gJ p l e R s m args below meth c Q nL E σ cells slots pc lv st := by
  subst h1; subst h2; subst h3; exact k
/-- a loop that counts up: its world, its locals by the count -/
theorem g_loop (N : Nat) (Fs : Nat → gS) (Fl : Nat → List (Nat × Value)) (st : List Value) (h1 : σ = Fs 0) (h2 : lv = Fl 0)
    (hs : ∀ i, i < N → gJ p l e R s m args below meth c Q nL E (Fs (i + 1)) cells slots pc (Fl (i + 1)) st → gJ p l e R s m args below meth c Q nL E (Fs i) cells slots pc (Fl i) st)
    (hx : gJ p l e R s m args below meth c Q nL E (Fs N) cells slots pc (Fl N) st) : gJ p l e R s m args below meth c Q nL E σ cells slots pc lv st := by
  subst h1; subst h2
  have key : ∀ d i, i + d = N → gJ p l e R s m args below meth c Q nL E (Fs i) cells slots pc (Fl i) st := by
    intro d
    induction d with
    | zero => intro i hi; obtain rfl : i = N := by omega
              exact hx
    | succ d ih => intro i hi; exact hs i (by omega) (ih (i + 1) (by omega))
  exact key N 0 (by omega)
/-- numbers written as literals -/
theorem gI (n : Nat) : (OfNat.ofNat n : Int32) = nI n := rfl
end GO
/-- n steps of a thing, the first step's number 0 -/
def itr {α : Type} (f : Nat → α → α) : Nat → α → α
  | 0, a => a
  | n + 1, a => f n (itr f n a)
