/-! THE WORLD, BY PLACES. Place 0: the class's object; 1..28 its town (1 the town, 2..5 its four rows, 6 its store, 7..10 beds, 11..14 drums, 15..18 smugglers, 19..28 cards); 29 the law's Sim, 30 its store, 31 its parts, 32..35 its rows of rows (beds, drums, smugglers, cards), 36..57 the rows (36.. beds, 40.. drums, 44.. smugglers, 48.. cards). A row that isn't made yet: the like object of the class's trial town lies at its place. Behind the places: further cells (what is being made). What moves is a table of numbers: place, field (or index). How many rows there are, and the addresses, stand in E. -/
abbrev gT : Type := (va_G × (Nat → Nat) × va_W × (Nat → Int32)) × (Nat → ClassId) × (Nat → Nat)
abbrev gS : Type := (Nat → Nat → Int32) × (Nat → Int64)
def gTown : List Nat := [5, 10, 11, 12, 13, 4, 0, 0, 0, 0, 2, 2, 2, 2, 3, 3, 3, 3, 1, 1, 1, 1, 1, 1, 1, 1, 1, 1]
def gTab : List Nat := [6] ++ gTown ++ [7, 8, 8, 14, 14, 14, 14, 15, 15, 15, 15, 15, 15, 15, 15, 15, 15, 15, 15, 15, 15, 15, 15, 15, 15, 15, 15, 15, 15]
def gK (k : Nat) : Nat := gTab.getD k 99
def gN (c : Nat) : Nat := [3, 5, 5, 5, 7].getD c 0
/-- how many rows of the sort o (0 beds, 1 drums, 2 smugglers, 3 cards) -/
abbrev gNo (E : gT) (o : Nat) : Nat := E.1.2.1 o
/-- from here on the heap is the law's own -/
abbrev gN0 (E : gT) : Nat := E.1.2.1 100
abbrev gTr (E : gT) : Nat := E.1.2.1 101
/-- the script: its cell, its length; what lies behind the places -/
abbrev gSb (E : gT) : Nat := E.1.2.1 102
abbrev gSl (E : gT) : Nat := E.1.2.1 103
abbrev gXs (E : gT) : va_W := E.1.2.2.1
/-- of a row's place: its sort, its number, its length, the kind of what lies there before -/
def gqS (k : Nat) : Nat := if k < 40 then 0 else if k < 44 then 1 else if k < 48 then 2 else 3
def gqI (k : Nat) : Nat := k - (36 + 4 * gqS k)
def gqL (k : Nat) : Nat := if k < 40 then 3 else 5
def gqK (k : Nat) : Nat := [0, 2, 3, 1].getD (gqS k) 0
def gO (σ : gS) (k c : Nat) : va_E := .inr (c, (List.range (gN c)).map (fun j => Value.int (σ.1 k j)))
/-- what lies at a place -/
def gw (E : gT) (σ : gS) (k : Nat) : va_E := match gK k with
  | 5 => .inr (5, [.ref (E.2.2 (k + 1)), .ref (E.2.2 (k + 2)), .ref (E.2.2 (k + 3)), .ref (E.2.2 (k + 4)), .ref (E.2.2 (k + 5)), .int (σ.1 k 5), .int (σ.1 k 6), .int (σ.1 k 7), .int (σ.1 k 8), .int (σ.1 k 9), .int (σ.1 k 10)])
  | 6 => .inr (6, [.ref (E.2.2 1), .ref (gTr E)])
  | 7 => .inr (7, [.int (σ.1 k 0), .ref (E.2.2 30), .ref (E.2.2 31), .int (σ.1 k 3), .int (σ.1 k 4), .int (σ.1 k 5), .int (σ.1 k 6), .ref (E.2.2 32), .ref (E.2.2 33), .ref (E.2.2 34), .ref (E.2.2 35)])
  | 8 => .inl (E.2.1 0, 2, .inl (σ.1 k))
  | 10 => .inl (E.2.1 2, 4, .inr (.inr (.inr (.inr (fun j => some (E.2.2 (k + 5 + j)))))))
  | 11 => .inl (E.2.1 3, 4, .inr (.inr (.inr (.inr (fun j => some (E.2.2 (k + 8 + j)))))))
  | 12 => .inl (E.2.1 4, 4, .inr (.inr (.inr (.inr (fun j => some (E.2.2 (k + 11 + j)))))))
  | 13 => .inl (E.2.1 5, 10, .inr (.inr (.inr (.inr (fun j => some (E.2.2 (k + 14 + j)))))))
  | 14 => .inl (E.2.1 1, gNo E (k - 32), .inr (.inr (.inr (.inr (fun j => some (E.2.2 (36 + 4 * (k - 32) + j)))))))
  | 15 => if gqI k < gNo E (gqS k) then .inl (E.2.1 0, gqL k, .inl (σ.1 k)) else gO σ k (gqK k)
  | c => gO σ k c
/-- the places, and what lies behind them -/
def gl (E : gT) (σ : gS) : va_W := (List.range 58).map (fun k => (E.2.2 k, gw E σ k)) ++ gXs E
def gTys (E : gT) : List (ClassId × FieldType) := [(E.2.1 0, .int), (E.2.1 1, .array .int), (E.2.1 2, .object RX0), (E.2.1 3, .object RX2), (E.2.1 4, .object RX3), (E.2.1 5, .object RX1)]
/-- which cells may be changed: the law's own -/
def gA (E : gT) (_ : Nat) : Nat → Prop := fun q => gN0 E ≤ q
/-- the heap holds the world, its cells apart -/
def gP (E : gT) (σ : gS) (H : Heap) : Prop := va_P E.1.1 vwCl (gl E σ) H ∧ va_D (gA E 0) (gl E σ)
/-- a number put -/
def gu (σ : gS) (k j : Nat) (v : Int32) : gS := (fun a b => if a = k ∧ b = j then v else σ.1 a b, σ.2)
theorem gl_plen {E : gT} {σ : gS} : ((List.range 58).map (fun k => (E.2.2 k, gw E σ k))).length = 58 := by simp
theorem gl_at {E : gT} {σ : gS} {k : Nat} (h : k < 58) : (gl E σ)[k]? = some (E.2.2 k, gw E σ k) := by
  unfold gl
  rw [List.getElem?_append_left (by rw [gl_plen]; exact h)]
  simp [h]
theorem gl_x {E : gT} {σ : gS} {k : Nat} : (gl E σ)[58 + k]? = (gXs E)[k]? := by
  unfold gl
  rw [List.getElem?_append_right (by rw [gl_plen]; omega), gl_plen]
  congr 1
  omega
theorem gl_len {E : gT} {σ : gS} : (gl E σ).length = 58 + (gXs E).length := by simp [gl]
theorem gl_set {E : gT} {σ σ' : gS} {k : Nat} (h : k < 58) (hq : ∀ q, q ≠ k → gw E σ' q = gw E σ q) : (gl E σ).set k (E.2.2 k, gw E σ' k) = gl E σ' := by
  apply List.ext_getElem?
  intro j
  by_cases hj : j = k
  · subst hj
    rw [List.getElem?_set_self (by rw [gl_len]; omega), gl_at h]
  · rw [List.getElem?_set_ne (Ne.symm hj)]
    by_cases hl : j < 58
    · rw [gl_at hl, gl_at hl, hq j hj]
    · obtain ⟨i, rfl⟩ : ∃ i, j = 58 + i := ⟨j - 58, by omega⟩
      rw [gl_x, gl_x]
theorem gu_ne {σ : gS} {k j q : Nat} {v : Int32} (h : q ≠ k) : (gu σ k j v).1 q = σ.1 q := by
  funext b
  simp [gu, h]
theorem gu_at {σ : gS} {k j : Nat} {v : Int32} (b : Nat) : (gu σ k j v).1 k b = if b = j then v else σ.1 k b := by
  simp [gu]
theorem gw_ne {E : gT} {σ σ' : gS} {q : Nat} (h : σ'.1 q = σ.1 q) : gw E σ' q = gw E σ q := by
  simp only [gw, gO, h]
theorem gw_gu {E : gT} {σ : gS} {k j q : Nat} {v : Int32} (h : q ≠ k) : gw E (gu σ k j v) q = gw E σ q := gw_ne (gu_ne h)
theorem gK_o {E : gT} {σ : gS} {k c : Nat} (h : gK k = c) (hc : c < 5) : gw E σ k = gO σ k c := by
  unfold gw
  rw [h]
  rcases (show c = 0 ∨ c = 1 ∨ c = 2 ∨ c = 3 ∨ c = 4 by omega) with rfl | rfl | rfl | rfl | rfl <;> rfl
theorem gO_get {σ : gS} {k c j : Nat} (h : j < gN c) : ((List.range (gN c)).map (fun j => Value.int (σ.1 k j)))[j]? = some (.int (σ.1 k j)) := by
  simp [h]
theorem gO_set {σ : gS} {k c j : Nat} {v : Int32} : ((List.range (gN c)).map (fun j => Value.int (σ.1 k j))).set j (.int v) = (List.range (gN c)).map (fun i => Value.int ((gu σ k j v).1 k i)) := by
  apply List.ext_getElem?
  intro i
  rw [List.getElem?_set]
  by_cases h : j = i
  · subst h
    by_cases h2 : j < gN c
    · simp [h2, gu]
    · simp [h2]
  · rw [if_neg h]
    by_cases h2 : i < gN c
    · simp [h2, gu, Ne.symm h]
    · simp [h2]
theorem gA_mono {E : gT} {a b : Nat} (_ : a ≤ b) : ∀ q, gA E b q → gA E a q := fun _ hq => hq
/-- statics and texts that a throw needs -/
def gX (A : Nat → Prop) (U : State) (H : Heap) : Prop :=
  (vx_Zq Bundle.tN "UNASSIGNED_STACK" Bundle.steD A U H ∧ vx_Zq Bundle.tN "SUPPRESSED_SENTINEL" Bundle.listD A U H) ∧
  ((∃ a, vk_R RX7 180 "there is no such number" a U) ∧ (∃ a, vk_R RX7 184 "the number is too small or too great" a U) ∧ (∃ a, vk_R RX7 189 "this cannot be done as things are" a U))
theorem gX.moved {A : Nat → Prop} {u U : State} {H : Heap} (hv : U.vm = u.vm) (h : gX A u H) : gX A U H := by
  have ha : u.vm.Alike U.vm := by rw [hv]; exact Vm.Alike.refl _
  obtain ⟨⟨a1, a2⟩, ⟨⟨q2, b2⟩, ⟨q3, b3⟩, ⟨q4, b4⟩⟩⟩ := h
  exact ⟨⟨a1.moved ha, a2.moved ha⟩, ⟨⟨q2, b2.same hv⟩, ⟨q3, b3.same hv⟩, ⟨q4, b4.same hv⟩⟩⟩
theorem gX.warm {A B : Nat → Prop} {s U : State} {H H1 : Heap} (hW : s.WarmedH U.vm) (hq : ∀ a : Nat, a < H.size → ¬ A a → H1[a]? = H[a]?) (hAB : ∀ q, B q → A q) (h : gX A s H) : gX B U H1 := by
  have ha := hW.alike
  obtain ⟨⟨a1, a2⟩, ⟨⟨q2, b2⟩, ⟨q3, b3⟩, ⟨q4, b4⟩⟩⟩ := h
  exact ⟨⟨((a1.kept hq).narrow hAB).moved ha, ((a2.kept hq).narrow hAB).moved ha⟩, ⟨⟨q2, b2.warm hW⟩, ⟨q3, b3.warm hW⟩, ⟨q4, b4.warm hW⟩⟩⟩
abbrev gIA : String := "java/lang/IllegalArgumentException"
abbrev gIS : String := "java/lang/IllegalStateException"
abbrev gIO : String := "java/lang/IndexOutOfBoundsException"
/-- words that a class's tables alone don't keep: what is declared, what may be cast, rows of rows -/
def gF (U : State) : Prop :=
  (va_Nw (.declares ⟨RX5, "size", "()I"⟩) U ∧ va_Nw (.declares ⟨RX5, "tell", "(I)I"⟩) U ∧ va_Nw (.declares (Bundle.initS "java/lang/RuntimeException")) U ∧ va_Nw (.declares (Bundle.initS "java/lang/Exception")) U ∧ va_Nw (.declares (Bundle.initS Bundle.tN)) U) ∧
  (va_Nw (.castable gIA gIA) U ∧ va_Nw (.castable gIS gIS) U ∧ va_Nw (.castable gIO gIO) U) ∧
  (Cond.arrayOver (.array .int)).before #[] U = true
theorem gF.warm {s U : State} (hW : s.WarmedH U.vm) (h : gF s) : gF U := by
  obtain ⟨⟨a1, a2, a3, a4, a5⟩, ⟨b1, b2, b3⟩, n1⟩ := h
  exact ⟨⟨va_Nw.warmD hW a1, va_Nw.warmD hW a2, va_Nw.warmD hW a3, va_Nw.warmD hW a4, va_Nw.warmD hW a5⟩, ⟨va_Nw.warmC hW b1, va_Nw.warmC hW b2, va_Nw.warmC hW b3⟩, over_moved hW.alike n1⟩
theorem gF.same {u U : State} (hv : U.vm = u.vm) (h : gF u) : gF U := by
  obtain ⟨⟨a1, a2, a3, a4, a5⟩, ⟨b1, b2, b3⟩, n1⟩ := h
  have ha : u.vm.Alike U.vm := by rw [hv]; exact Vm.Alike.refl _
  exact ⟨⟨va_Nw.same rfl hv.symm a1, va_Nw.same rfl hv.symm a2, va_Nw.same rfl hv.symm a3, va_Nw.same rfl hv.symm a4, va_Nw.same rfl hv.symm a5⟩, ⟨va_Nw.same rfl hv.symm b1, va_Nw.same rfl hv.symm b2, va_Nw.same rfl hv.symm b3⟩, over_moved ha n1⟩
/-- what holds of the tables and of all that lies about the world, at any method's entry -/
def gC (E : gT) (U : State) : Prop :=
  va_K E.1.1 vwCl (gTys E) U ∧ (gN0 E ≤ U.heap.size ∧ gNo E 0 ≤ 4 ∧ gNo E 1 ≤ 4 ∧ gNo E 2 ≤ 4 ∧ gNo E 3 ≤ 10 ∧ (va_X (gSb E) (gSl E) E.1.2.2.2 U U.heap ∧ gSb E < gN0 E ∧ gSl E ≤ 260)) ∧ gF U ∧ gX (gA E 0) U U.heap
theorem gC.same {E : gT} {u U : State} (hv : U.vm = u.vm) (hh : U.heap = u.heap) (h : gC E u) : gC E U := by
  obtain ⟨h1, ⟨n1, n2, n3, n4, n5, x1, x2, x3⟩, h3, h5⟩ := h
  have ha : u.vm.Alike U.vm := by rw [hv]; exact Vm.Alike.refl _
  refine ⟨h1.moved ha, ⟨by rw [hh]; exact n1, n2, n3, n4, n5, ?_, x2, x3⟩, h3.same hv, ?_⟩
  · rw [hh]
    exact x1.moved ha
  · rw [hh]
    exact h5.moved hv
theorem gC.go {E : gT} {s U : State} {H : Heap} {locs : List Loc} (h : gC E s) (hS : va_S (gA E s.heap.size) s.heap H locs) (hU : U.heap = H) (hW : s.WarmedH U.vm) : gC E U := by
  obtain ⟨h1, ⟨n1, n2, n3, n4, n5, x1, x2, x3⟩, h3, h5⟩ := h
  refine ⟨h1.moved hW.alike, ⟨by rw [hU]; exact Nat.le_trans n1 hS.1, n2, n3, n4, n5, ?_, x2, x3⟩, h3.warm hW, ?_⟩
  · rw [hU]
    exact (x1.kept (hS.2.1 _ (Nat.lt_of_lt_of_le x2 n1) (fun z => absurd z (Nat.not_le_of_lt x2)))).moved hW.alike
  · rw [hU]
    exact h5.warm hW hS.2.1 (fun _ h => h)
theorem gC.new {E : gT} {s : State} {sz : Nat} (h : gC E s) : ∀ q, s.heap.size ≤ q → gA E sz q := fun _ hq => Nat.le_trans h.2.1.1 hq
