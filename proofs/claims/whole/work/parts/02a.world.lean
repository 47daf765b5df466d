/-! THE WORLD OF THE WHOLE SYSTEM, BY PLACES. Place 0: the class's object; 1..28 its town (1 the town, 2..5 its four rows, 6 its store, 7..10 beds, 11..14 drums, 15..18 smugglers, 19..28 cards); 29..56 the trial likewise; 57 the reference, 58..63 its six rows; 64 the law's out. What moves is a table of numbers: place, field (or index). -/
abbrev gT : Type := va_G × (Nat → ClassId) × (Nat → Nat)
abbrev gS : Type := (Nat → Nat → Int32) × (Nat → Int64)
def gTown : List Nat := [5, 10, 11, 12, 13, 4, 0, 0, 0, 0, 2, 2, 2, 2, 3, 3, 3, 3, 1, 1, 1, 1, 1, 1, 1, 1, 1, 1]
def gTab : List Nat := [6] ++ gTown ++ gTown ++ [7, 8, 8, 8, 8, 8, 8, 9]
def gK (k : Nat) : Nat := gTab.getD k 99
def gN (c : Nat) : Nat := [3, 5, 5, 5, 7].getD c 0
def gLen (k : Nat) : Nat := [8, 4, 8, 20, 72, 72].getD (k - 58) 0
def gO (σ : gS) (k c : Nat) : va_E := .inr (c, (List.range (gN c)).map (fun j => Value.int (σ.1 k j)))
/-- what lies at a place -/
def gw (E : gT) (σ : gS) (k : Nat) : va_E := match gK k with
  | 5 => .inr (5, [.ref (E.2.2 (k + 1)), .ref (E.2.2 (k + 2)), .ref (E.2.2 (k + 3)), .ref (E.2.2 (k + 4)), .ref (E.2.2 (k + 5)), .int (σ.1 k 5), .int (σ.1 k 6), .int (σ.1 k 7), .int (σ.1 k 8), .int (σ.1 k 9), .int (σ.1 k 10)])
  | 6 => .inr (6, [.ref (E.2.2 1), .ref (E.2.2 29)])
  | 7 => .inr (7, [.int (σ.1 k 0), .int (σ.1 k 1), .int (σ.1 k 2), .int (σ.1 k 3), .int (σ.1 k 4), .ref (E.2.2 (k + 1)), .ref (E.2.2 (k + 2)), .ref (E.2.2 (k + 3)), .ref (E.2.2 (k + 4)), .ref (E.2.2 (k + 5)), .ref (E.2.2 (k + 6))])
  | 8 => .inl (E.2.1 0, gLen k, .inl (σ.1 k))
  | 9 => .inl (E.2.1 1, 1, .inr (.inl σ.2))
  | 10 => .inl (E.2.1 2, 4, .inr (.inr (.inr (.inr (fun j => some (E.2.2 (k + 5 + j)))))))
  | 11 => .inl (E.2.1 3, 4, .inr (.inr (.inr (.inr (fun j => some (E.2.2 (k + 8 + j)))))))
  | 12 => .inl (E.2.1 4, 4, .inr (.inr (.inr (.inr (fun j => some (E.2.2 (k + 11 + j)))))))
  | 13 => .inl (E.2.1 5, 10, .inr (.inr (.inr (.inr (fun j => some (E.2.2 (k + 14 + j)))))))
  | c => gO σ k c
def gl (E : gT) (σ : gS) : va_W := (List.range 65).map (fun k => (E.2.2 k, gw E σ k))
def gTys (E : gT) : List (ClassId × FieldType) := [(E.2.1 0, .int), (E.2.1 1, .long), (E.2.1 2, .object RX0), (E.2.1 3, .object RX2), (E.2.1 4, .object RX3), (E.2.1 5, .object RX1)]
/-- a number put -/
def gu (σ : gS) (k j : Nat) (v : Int32) : gS := (fun a b => if a = k ∧ b = j then v else σ.1 a b, σ.2)
/-- the law's out put -/
def go (σ : gS) (v : Nat → Int64) : gS := (σ.1, v)
theorem gl_at {E : gT} {σ : gS} {k : Nat} (h : k < 65) : (gl E σ)[k]? = some (E.2.2 k, gw E σ k) := by
  simp [gl, h]
theorem gl_len {E : gT} {σ : gS} : (gl E σ).length = 65 := by simp [gl]
theorem gl_set {E : gT} {σ σ' : gS} {k : Nat} (h : k < 65) (hq : ∀ q, q ≠ k → gw E σ' q = gw E σ q) : (gl E σ).set k (E.2.2 k, gw E σ' k) = gl E σ' := by
  apply List.ext_getElem?
  intro j
  by_cases hj : j = k
  · subst hj
    rw [List.getElem?_set_self (by rw [gl_len]; exact h), gl_at h]
  · rw [List.getElem?_set_ne (Ne.symm hj)]
    by_cases hl : j < 65
    · rw [gl_at hl, gl_at hl, hq j hj]
    · rw [List.getElem?_eq_none (by rw [gl_len]; omega), List.getElem?_eq_none (by rw [gl_len]; omega)]
theorem gu_ne {σ : gS} {k j q : Nat} {v : Int32} (h : q ≠ k) : (gu σ k j v).1 q = σ.1 q := by
  funext b
  simp [gu, h]
theorem gu_at {σ : gS} {k j : Nat} {v : Int32} (b : Nat) : (gu σ k j v).1 k b = if b = j then v else σ.1 k b := by
  simp [gu]
theorem gw_ne {E : gT} {σ σ' : gS} {q : Nat} (h : σ'.1 q = σ.1 q) (h2 : σ'.2 = σ.2) : gw E σ' q = gw E σ q := by
  simp only [gw, gO, h, h2]
theorem gw_gu {E : gT} {σ : gS} {k j q : Nat} {v : Int32} (h : q ≠ k) : gw E (gu σ k j v) q = gw E σ q := gw_ne (gu_ne h) rfl
theorem gK_o {E : gT} {σ : gS} {k c : Nat} (h : gK k = c) (hc : c < 5) : gw E σ k = gO σ k c := by
  unfold gw
  rw [h]
  rcases (show c = 0 ∨ c = 1 ∨ c = 2 ∨ c = 3 ∨ c = 4 by omega) with rfl | rfl | rfl | rfl | rfl <;> rfl
theorem gO_get {σ : gS} {k c j : Nat} (h : j < gN c) : ((List.range (gN c)).map (fun j => Value.int (σ.1 k j)))[j]? = some (.int (σ.1 k j)) := by
  simp [h]
theorem gO_set {σ : gS} {k c j : Nat} {v : Int32} : ((List.range (gN c)).map (fun j => Value.int (σ.1 k j))).set j (.int v) = (List.range (gN c)).map (fun i => Value.int ((gu σ k j v).1 k i)) := by
  apply List.ext_getElem?
  intro i
  rw [List.getElem?_set]
  by_cases h : j = i
  · subst h
    by_cases h2 : j < gN c
    · simp [h2, gu]
    · simp [h2]
  · rw [if_neg h]
    by_cases h2 : i < gN c
    · simp [h2, gu, Ne.symm h]
    · simp [h2]
/-- which cells may be changed: the world's and new ones -/
def gA (E : gT) (sz : Nat) : Nat → Prop := fun q => (∃ k, k < 65 ∧ q = E.2.2 k) ∨ sz ≤ q
theorem gA_mono {E : gT} {a b : Nat} (h : a ≤ b) : ∀ q, gA E b q → gA E a q := fun _ hq => hq.elim Or.inl (fun hq => Or.inr (Nat.le_trans h hq))
theorem gA_at {E : gT} {sz k : Nat} (h : k < 65) : gA E sz (E.2.2 k) := Or.inl ⟨k, h, rfl⟩
theorem gA_new {E : gT} {sz : Nat} : ∀ q, sz ≤ q → gA E sz q := fun _ h => Or.inr h
/-- statics, texts, classes that a throw, a handler and the reference's tables need -/
def gX (A : Nat → Prop) (U : State) (H : Heap) : Prop :=
  (vx_Zq Bundle.tN "UNASSIGNED_STACK" Bundle.steD A U H ∧ vx_Zq Bundle.tN "SUPPRESSED_SENTINEL" Bundle.listD A U H) ∧
  ((∃ a, vk_R RX7 141 "only 1 to 6 can be foreseen" a U) ∧ (∃ a, vk_R RX7 180 "there is no such number" a U) ∧ (∃ a, vk_R RX7 184 "the number is too small or too great" a U) ∧ (∃ a, vk_R RX7 189 "this cannot be done as things are" a U)) ∧
  (∃ t, va_Z RX8 "DONE" "[I" (.ref t) A U H ∧ va_T .int t 2 (fun j => .int (if j = 0 then 12 else 8)) A U H) ∧
  (∃ t, va_Z RX8 "BURNT" "[I" (.ref t) A U H ∧ va_T .int t 2 (fun j => .int (if j = 0 then 24 else 15)) A U H) ∧
  (∃ t, va_Z RX8 "TIMES" "[I" (.ref t) A U H ∧ va_T .int t 2 (fun j => .int (if j = 0 then 6 else 8)) A U H)
theorem gX.moved {A : Nat → Prop} {u U : State} {H : Heap} (hv : U.vm = u.vm) (h : gX A u H) : gX A U H := by
  have ha : u.vm.Alike U.vm := by rw [hv]; exact Vm.Alike.refl _
  obtain ⟨⟨a1, a2⟩, ⟨⟨q1, b1⟩, ⟨q2, b2⟩, ⟨q3, b3⟩, ⟨q4, b4⟩⟩, ⟨t1, c1, d1⟩, ⟨t2, c2, d2⟩, ⟨t3, c3, d3⟩⟩ := h
  exact ⟨⟨a1.moved ha, a2.moved ha⟩, ⟨⟨q1, b1.same hv⟩, ⟨q2, b2.same hv⟩, ⟨q3, b3.same hv⟩, ⟨q4, b4.same hv⟩⟩, ⟨t1, c1.moved ha, d1.moved ha⟩, ⟨t2, c2.moved ha, d2.moved ha⟩, ⟨t3, c3.moved ha, d3.moved ha⟩⟩
theorem gX.warm {A B : Nat → Prop} {s U : State} {H H1 : Heap} (hW : s.WarmedH U.vm) (hq : ∀ a : Nat, a < H.size → ¬ A a → H1[a]? = H[a]?) (hAB : ∀ q, B q → A q) (h : gX A s H) : gX B U H1 := by
  have ha := hW.alike
  obtain ⟨⟨a1, a2⟩, ⟨⟨q1, b1⟩, ⟨q2, b2⟩, ⟨q3, b3⟩, ⟨q4, b4⟩⟩, ⟨t1, c1, d1⟩, ⟨t2, c2, d2⟩, ⟨t3, c3, d3⟩⟩ := h
  exact ⟨⟨((a1.kept hq).narrow hAB).moved ha, ((a2.kept hq).narrow hAB).moved ha⟩, ⟨⟨q1, b1.warm hW⟩, ⟨q2, b2.warm hW⟩, ⟨q3, b3.warm hW⟩, ⟨q4, b4.warm hW⟩⟩, ⟨t1, ((c1.kept hq).narrow hAB).moved ha, ((d1.kept hq).narrow hAB).moved ha⟩, ⟨t2, ((c2.kept hq).narrow hAB).moved ha, ((d2.kept hq).narrow hAB).moved ha⟩, ⟨t3, ((c3.kept hq).narrow hAB).moved ha, ((d3.kept hq).narrow hAB).moved ha⟩⟩
abbrev gIA : String := "java/lang/IllegalArgumentException"
abbrev gIS : String := "java/lang/IllegalStateException"
abbrev gIO : String := "java/lang/IndexOutOfBoundsException"
/-- words that a class's tables alone don't keep: what is declared, what may be cast, what not -/
def gF (U : State) : Prop :=
  (va_Nw (.declares ⟨RX5, "size", "()I"⟩) U ∧ va_Nw (.declares ⟨RX5, "tell", "(I)I"⟩) U ∧ va_Nw (.declares (Bundle.initS "java/lang/RuntimeException")) U ∧ va_Nw (.declares (Bundle.initS "java/lang/Exception")) U ∧ va_Nw (.declares (Bundle.initS Bundle.tN)) U) ∧
  (va_Nw (.castable gIA gIA) U ∧ va_Nw (.castable gIS gIS) U ∧ va_Nw (.castable gIO gIO) U) ∧
  (va_Nc gIS gIA U ∧ va_Nc gIA gIO U ∧ va_Nc gIS gIO U ∧ va_Nc gIO gIA U)
theorem gF.warm {s U : State} (hW : s.WarmedH U.vm) (h : gF s) : gF U := by
  obtain ⟨⟨a1, a2, a3, a4, a5⟩, ⟨b1, b2, b3⟩, ⟨n1, n2, n3, n4⟩⟩ := h
  have ha := hW.alike
  exact ⟨⟨va_Nw.warmD hW a1, va_Nw.warmD hW a2, va_Nw.warmD hW a3, va_Nw.warmD hW a4, va_Nw.warmD hW a5⟩, ⟨va_Nw.warmC hW b1, va_Nw.warmC hW b2, va_Nw.warmC hW b3⟩, ⟨n1.moved ha, n2.moved ha, n3.moved ha, n4.moved ha⟩⟩
theorem gF.same {u U : State} (hv : U.vm = u.vm) (h : gF u) : gF U := by
  obtain ⟨⟨a1, a2, a3, a4, a5⟩, ⟨b1, b2, b3⟩, ⟨n1, n2, n3, n4⟩⟩ := h
  have ha : u.vm.Alike U.vm := by rw [hv]; exact Vm.Alike.refl _
  exact ⟨⟨va_Nw.same rfl hv.symm a1, va_Nw.same rfl hv.symm a2, va_Nw.same rfl hv.symm a3, va_Nw.same rfl hv.symm a4, va_Nw.same rfl hv.symm a5⟩, ⟨va_Nw.same rfl hv.symm b1, va_Nw.same rfl hv.symm b2, va_Nw.same rfl hv.symm b3⟩, ⟨n1.moved ha, n2.moved ha, n3.moved ha, n4.moved ha⟩⟩
/-- what holds of the tables and of all that lies about the world, at any method's entry -/
def gC (E : gT) (U : State) : Prop :=
  va_K E.1 vwCl (gTys E) U ∧ (∀ i j, i < 65 → j < 65 → E.2.2 i = E.2.2 j → i = j) ∧ gF U ∧ gX (gA E U.heap.size) U U.heap
theorem gC.same {E : gT} {u U : State} (hv : U.vm = u.vm) (hh : U.heap = u.heap) (h : gC E u) : gC E U := by
  obtain ⟨h1, h2, h3, h5⟩ := h
  refine ⟨h1.moved (by rw [hv]; exact Vm.Alike.refl _), h2, h3.same hv, ?_⟩
  rw [hh]
  exact h5.moved hv
theorem gC.go {E : gT} {s U : State} {H : Heap} {locs : List Loc} (h : gC E s) (hS : va_S (gA E s.heap.size) s.heap H locs) (hU : U.heap = H) (hW : s.WarmedH U.vm) : gC E U := by
  obtain ⟨h1, h2, h3, h5⟩ := h
  refine ⟨h1.moved hW.alike, h2, h3.warm hW, ?_⟩
  rw [hU]
  exact h5.warm hW hS.2.1 (gA_mono hS.1)
theorem gC.D {E : gT} {s : State} {σ : gS} {sz : Nat} (h : gC E s) : va_D (gA E sz) (gl E σ) := by
  have key : ∀ (k : Nat) (q : Nat × va_E), (gl E σ)[k]? = some q → k < 65 ∧ q.1 = E.2.2 k := by
    intro k q hk
    have hl : k < 65 := by have := (List.getElem?_eq_some_iff.mp hk).1; rwa [gl_len] at this
    rw [gl_at hl] at hk
    cases hk
    exact ⟨hl, rfl⟩
  refine ⟨fun i j p q hi hj hpq => ?_, fun k q hk => ?_⟩
  · obtain ⟨l1, e1⟩ := key i p hi
    obtain ⟨l2, e2⟩ := key j q hj
    exact h.2.1 i j l1 l2 (by rw [← e1, ← e2]; exact hpq)
  · obtain ⟨l1, e1⟩ := key k q hk
    rw [e1]
    exact gA_at l1
