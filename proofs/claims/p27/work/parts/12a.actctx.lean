/-! the law's act: where it stands, what it comes to -/
abbrev actR : Room := { frames := 9, cells := 8, slots := 64, locals := 200 }
/-- a world that grew out of E -/
def AR (E E' : gT) : Prop := E'.1.1 = E.1.1 ∧ E'.2.1 = E.2.1 ∧ (∀ k, 4 < k → E'.1.2.1 k = E.1.2.1 k) ∧ E'.1.2.2.2 = E.1.2.2.2 ∧ gXs E' = [] ∧ (∀ k, k < 32 → E'.2.2 k = E.2.2 k) ∧ NB E'
theorem AR.rf {E : gT} (h : gXs E = []) (hb : NB E) : AR E E := ⟨rfl, rfl, fun _ _ => rfl, rfl, h, fun _ _ => rfl, hb⟩
theorem AR.trans {E E' E'' : gT} (h : AR E E') (h2 : AR E' E'') : AR E E'' := by
  obtain ⟨a1, a2, a3, a4, a5, a6, a7⟩ := h
  obtain ⟨b1, b2, b3, b4, b5, b6, b7⟩ := h2
  exact ⟨b1.trans a1, b2.trans a2, fun k hk => (b3 k hk).trans (a3 k hk), b4.trans a4, b5, fun k hk => (b6 k hk).trans (a6 k hk), b7⟩
theorem AR.N0 {E E' : gT} (h : AR E E') : gN0 E' = gN0 E := h.2.2.1 100 (by decide)
theorem AR.C {E E' : gT} {s : State} (h : AR E E') (hC : gC E s) : gC E' s := by
  obtain ⟨a1, a2, a3, a4, a5, a6, a7⟩ := h
  obtain ⟨h1, ⟨n1, n2, n3, n4, n5, x1, x2, x3⟩, h3, h5⟩ := hC
  have e0 : gN0 E' = gN0 E := a3 100 (by decide)
  have e2 : gSb E' = gSb E := a3 102 (by decide)
  have e3 : gSl E' = gSl E := a3 103 (by decide)
  have eA : gA E' 0 = gA E 0 := by unfold gA; rw [e0]
  have eT : gTys E' = gTys E := by unfold gTys; rw [a2]
  refine ⟨by rw [a1, eT]; exact h1, ⟨by rw [e0]; exact n1, a7.1, a7.2.1, a7.2.2.1, a7.2.2.2, by rw [e2, e3, a4]; exact x1, by rw [e2, e0]; exact x2, by rw [e3]; exact x3⟩, h3, by rw [eA]; exact h5⟩
def actQ (E : gT) (D B S0 : Nat) (r : Int32) (u : gT × gS) : Prop := r = 1 ∧ AR E u.1 ∧ INV u.1 (D + 4) (B + 1000) (S0 + 80) u.2
def gAC (p : Program) (l : Launch) (s : State) (m : MethodId) (args : Array Value) (meth : Method) (c : Code) (E : gT) (σ : gS) (D B S0 : Nat) : Prop :=
  CallFix p m c cL_act 21 s args wsL_act RL ∧ meth.sig.returnType = some .boolean ∧ meth.locks = false ∧ gC E s ∧ l.stackTraces = false ∧ gXs E = [] ∧ (NV E D B S0 σ ∧ RQ E σ σ) ∧ D + 4 < 4999 ∧ B + 1000 < 2 ^ 29 ∧ S0 + 110 < 2 ^ 30
/-- E0: the world at act's entry; E: the one now -/
def gJA (p : Program) (l : Launch) (e : Env) (s : State) (m : MethodId) (args : Array Value) (below : List Frame) (meth : Method) (c : Code) (E0 : gT) (D B S0 : Nat) (E : gT) (σ : gS) (cells slots pc : Nat) (lv : List (Nat × Value)) (st : List Value) : Prop :=
  gJ p l e actR s m args below meth c (MQ below (va_Qi (actQ E0 D B S0) (fun (u : gT × gS) t => gP u.1 u.2 t.heap) (gA E0 s.heap.size)) args s 8 64 (gA E0 s.heap.size)) 21 E σ cells slots pc lv st
theorem act_le {E : gT} {σ : gS} {D B S0 D' B' S' : Nat} (h : INV E D' B' S' σ) (hD : D' ≤ D + 4 := by omega) (hB : B' ≤ B + 1000 := by omega) (hS : S' ≤ S0 + 80 := by omega) : INV E (D + 4) (B + 1000) (S0 + 80) σ := h.le hD hB hS
section AC
variable {p : Program} {l : Launch} {e : Env} {s : State} {m : MethodId} {args : Array Value} {below : List Frame} {meth : Method} {c : Code} {E E0 : gT} {σ : gS} {D B S0 : Nat} {x : Int32}
theorem act_end (S : CallFix p m c cL_act 21 s args wsL_act RL) (hr : meth.sig.returnType = some .boolean) (hlocks : meth.locks = false) {pc cells slots : Nat} {lv : List (Nat × Value)} {r : Int32} (d : decode cL_act pc = .ok (.ireturn, 1)) (h1 : r = 1) (hI : INV E (D + 4) (B + 1000) (S0 + 80) σ) (hA : AR E0 E) (h3 : cells ≤ 8) (h4 : slots ≤ 64) :
    gJ p l e actR s m args below meth c (MQ below (va_Qi (actQ E0 D B S0) (fun (u : gT × gS) t => gP u.1 u.2 t.heap) (gA E0 s.heap.size)) args s 8 64 (gA E0 s.heap.size)) 21 E σ cells slots pc lv [.int r] := by
  subst h1
  intro H locs ls hP hS hl
  have eA : gA E s.heap.size = gA E0 s.heap.size := by unfold gA; rw [hA.N0]
  rw [eA] at hS
  exact W.widen h3 h4 (W.zret S.1 S.2.1 hr rfl (fun t ht _ => ⟨⟨1, (E, σ), rfl, ⟨rfl, hA, hI⟩, by show gP E σ t.heap; rw [ht]; exact hP⟩, hS.F ht⟩) hS.2.2 d)
theorem pos_of_ne {n : Nat} (h : ¬ nI n = 0) : 0 < n := Nat.pos_of_ne_zero (fun z => h (by rw [z]; rfl))
end AC
