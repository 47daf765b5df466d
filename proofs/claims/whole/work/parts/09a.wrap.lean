section GW
variable {p : Program} {l : Launch} {e : Env} {R : Room} {s : State} {m : MethodId} {args : Array Value} {below : List Frame} {meth : Method} {c : Code} {Q : State → Prop}
variable {cc : ByteArray} {nL : Nat} {Ts : List Cond} {own : String} {E : gT} {σ σ' : gS} {cells slots pc : Nat} {lv lv' : List (Nat × Value)} {rest st0 : List Value}
/-- a method with handlers -/
theorem g_metW {y : MethodName} {ws ws' : List Cond} {rm : Room} {mc ms : Nat} {av : List Value} {ret : Option FieldType} {hh : List (Nat × Nat × Nat × Nat)} {Qc : Nat → Array Value → State → Outcome → State → Prop} (hy : plainName y.cls = true) (hw : ws = Cond.codeWith y cc nL ret hh :: ws') (hlv : lv_args 0 av = lv) (hsz : (lg_sl av).length ≤ nL)
    (body : ∀ (p : Program) (e : Env) (s : State) (m : MethodId) (below : List Frame) (meth : Method) (c : Code), CallFix p m c cc nL s av.toArray ws y.cls → meth.sig.returnType = ret → meth.locks = false → c.exceptionTable.toList = tableOf hh → gC E s →
      gJ p l e rm s m av.toArray below meth c (MQ below (Qc s.heap.size) av.toArray s mc ms (gA E s.heap.size)) nL E σ 0 0 0 lv []) : ∀ sz, Met l y ws rm (gPre E σ sz av) (Qc sz) mc ms (gA E sz) := by
  intro sz
  refine va_MetW (cc := cc) (maxL := nL) (ret := ret) (hh := hh) hy hw ?_
  intro p e s m args below meth c s₁ B hml hv
  obtain ⟨rfl, rfl, hC, hP⟩ := hv
  have hts := atoms_spec (ws := ws) B.pre
  exact g_ent (k := fun _ => True) (ls := #[]) hlv hsz (body p e s m below meth c ⟨B.exec, B.bytes, hml, findClass_of_methodNamed B.named, hts⟩ B.returns B.notSynchronized (vx_table (x := y) B (hts _ (by rw [hw]; exact List.mem_cons_self))) hC) hP
end GW
theorem tX7_bed (σ : gS) (a : Int32) (b : Int32) : sX7_bed_t σ a b = 0 ∨ sX7_bed_t σ a b = 1 ∨ sX7_bed_t σ a b = 2 := by
  unfold sX7_bed_t sX7_checkNumber_t
  repeat' split
  all_goals first | exact Or.inl rfl | exact Or.inr (Or.inl rfl) | exact Or.inr (Or.inr (rfl))
def sL_bed_r (σ : gS) (a : Int32) (b : Int32) : Int32 := if sX7_bed_t σ a b = 0 then (0 : Int32) else if sX7_bed_t σ a b = 1 then 1 else 2
def sL_bed_s (σ : gS) (a : Int32) (b : Int32) : gS := if sX7_bed_t σ a b = 0 then go (sX7_bed_s σ a b) (vp_updL (sX7_bed_s σ a b).2 0 (Int32.toInt64 (sX7_bed_r σ a b))) else (sX7_bed_s σ a b)
set_option maxRecDepth 100000 in
set_option maxHeartbeats 4000000 in
theorem kL_bed (l : Launch) (hfl : l.stackTraces = false) (E : gT) (σ : gS) (a : Int32) (b : Int32) (hok : tOK σ 1) : gMi l yL_bed wsL_bed ({ frames := 8, cells := 3, slots := 18, locals := 134 }) 3 18 E σ [.ref (E.2.2 0), .int a, .int b, .ref (E.2.2 64)] (sL_bed_r σ a b) (sL_bed_s σ a b) := by
  refine g_metW (mc := 3) (ms := 18) (nL := 5) (ret := some .int) (by decide) rfl (lv := [(0, .ref (E.2.2 0)), (1, .int a), (2, .int b), (3, .ref (E.2.2 64))]) rfl (Nat.le_of_ble_eq_true rfl) ?_
  intro p e s m below meth c S hr hlocks htab hC
  refine g_aload_n S 3 dL_bed_0 rfl ?_
  refine g_const S dL_bed_1 (v := 0) rfl ?_
  refine g_aload_n S 0 dL_bed_2 rfl ?_
  refine g_iload_n S 1 dL_bed_3 rfl ?_
  refine g_iload_n S 2 dL_bed_4 rfl ?_
  refine g_callxi (g_xunV S hC (As := [.int a, .int b]) (rest := [.int (0 : Int32), .ref (E.2.2 64)]) (k := 0) (by decide) rfl (by decide) rfl (kX7_bed l hfl E σ a b hok) (cwV 2 S.2.2.2.2 gL_bed_X7_bed rfl rfl rfl (by decide +kernel) ⟨Nat.le_of_ble_eq_true rfl, Nat.le_of_ble_eq_true rfl⟩) rfl rfl (Nat.le_of_ble_eq_true rfl) dL_bed_5 ⟨Nat.le_of_ble_eq_true rfl, Nat.le_of_ble_eq_true rfl⟩) (fun hx => ?_) (fun h0 => ?_)
  · rcases tX7_bed σ a b with h | h | h
    · exact absurd h hx
    · rw [h]
      refine g_catch S (name := gIA) [] ⟨0, 10, 13, 13⟩ [⟨0, 10, 17, 15⟩] htab (fun z hz => absurd hz List.not_mem_nil) (by decide) (by decide) (by decide +kernel) hC.2.2.1.2.1.1 (fun q => ?_)
      refine g_astore S [(4, .ref q), (0, .ref (E.2.2 0)), (1, .int a), (2, .int b), (3, .ref (E.2.2 64))] dL_bed_13 (by decide) rfl ?_
      refine g_const S dL_bed_15 (v := 1) rfl ?_
      exact g_iret S hr hlocks dL_bed_16 (by unfold sL_bed_r; rw [h]; rfl) (by unfold sL_bed_s; rw [h]; rfl) (Nat.le_of_ble_eq_true rfl) (Nat.le_of_ble_eq_true rfl)
    · rw [h]
      refine g_catch S (name := gIS) [⟨0, 10, 13, 13⟩] ⟨0, 10, 17, 15⟩ [] htab (List.forall_mem_cons.mpr ⟨(Or.inr ⟨by decide, gIA, S.2.2.2.2 _ (by decide +kernel), hC.2.2.1.2.2.1⟩), (fun _ hz => absurd hz List.not_mem_nil)⟩) (by decide) (by decide) (by decide +kernel) hC.2.2.1.2.1.2.1 (fun q => ?_)
      refine g_astore S [(4, .ref q), (0, .ref (E.2.2 0)), (1, .int a), (2, .int b), (3, .ref (E.2.2 64))] dL_bed_17 (by decide) rfl ?_
      refine g_const S dL_bed_19 (v := 2) rfl ?_
      exact g_iret S hr hlocks dL_bed_20 (by unfold sL_bed_r; rw [h]; rfl) (by unfold sL_bed_s; rw [h]; rfl) (Nat.le_of_ble_eq_true rfl) (Nat.le_of_ble_eq_true rfl)
  · skip
    refine g_i2l S dL_bed_8 ?_
    refine g_last S hC rfl dL_bed_9 ?_
    refine g_goto S 21 dL_bed_10 (by decide) ?_
    refine g_const S dL_bed_21 (v := 0) rfl ?_
    exact g_iret S hr hlocks dL_bed_22 (by unfold sL_bed_r; rw [if_pos h0]) (by unfold sL_bed_s; rw [if_pos h0]) (Nat.le_of_ble_eq_true rfl) (Nat.le_of_ble_eq_true rfl)
theorem tX7_drum (σ : gS) (a : Int32) (b : Int32) : sX7_drum_t σ a b = 0 ∨ sX7_drum_t σ a b = 1 ∨ sX7_drum_t σ a b = 2 := by
  unfold sX7_drum_t sX7_checkNumber_t
  repeat' split
  all_goals first | exact Or.inl rfl | exact Or.inr (Or.inl rfl) | exact Or.inr (Or.inr (rfl))
def sL_drum_r (σ : gS) (a : Int32) (b : Int32) : Int32 := if sX7_drum_t σ a b = 0 then (0 : Int32) else if sX7_drum_t σ a b = 1 then 1 else 2
def sL_drum_s (σ : gS) (a : Int32) (b : Int32) : gS := if sX7_drum_t σ a b = 0 then go (sX7_drum_s σ a b) (vp_updL (sX7_drum_s σ a b).2 0 (Int32.toInt64 (sX7_drum_r σ a b))) else (sX7_drum_s σ a b)
set_option maxRecDepth 100000 in
set_option maxHeartbeats 4000000 in
theorem kL_drum (l : Launch) (hfl : l.stackTraces = false) (E : gT) (σ : gS) (a : Int32) (b : Int32) (hok : tOK σ 1) : gMi l yL_drum wsL_drum ({ frames := 8, cells := 3, slots := 18, locals := 134 }) 3 18 E σ [.ref (E.2.2 0), .int a, .int b, .ref (E.2.2 64)] (sL_drum_r σ a b) (sL_drum_s σ a b) := by
  refine g_metW (mc := 3) (ms := 18) (nL := 5) (ret := some .int) (by decide) rfl (lv := [(0, .ref (E.2.2 0)), (1, .int a), (2, .int b), (3, .ref (E.2.2 64))]) rfl (Nat.le_of_ble_eq_true rfl) ?_
  intro p e s m below meth c S hr hlocks htab hC
  refine g_aload_n S 3 dL_drum_0 rfl ?_
  refine g_const S dL_drum_1 (v := 0) rfl ?_
  refine g_aload_n S 0 dL_drum_2 rfl ?_
  refine g_iload_n S 1 dL_drum_3 rfl ?_
  refine g_iload_n S 2 dL_drum_4 rfl ?_
  refine g_callxi (g_xunV S hC (As := [.int a, .int b]) (rest := [.int (0 : Int32), .ref (E.2.2 64)]) (k := 0) (by decide) rfl (by decide) rfl (kX7_drum l hfl E σ a b hok) (cwV 2 S.2.2.2.2 gL_drum_X7_drum rfl rfl rfl (by decide +kernel) ⟨Nat.le_of_ble_eq_true rfl, Nat.le_of_ble_eq_true rfl⟩) rfl rfl (Nat.le_of_ble_eq_true rfl) dL_drum_5 ⟨Nat.le_of_ble_eq_true rfl, Nat.le_of_ble_eq_true rfl⟩) (fun hx => ?_) (fun h0 => ?_)
  · rcases tX7_drum σ a b with h | h | h
    · exact absurd h hx
    · rw [h]
      refine g_catch S (name := gIA) [] ⟨0, 10, 13, 13⟩ [⟨0, 10, 17, 15⟩] htab (fun z hz => absurd hz List.not_mem_nil) (by decide) (by decide) (by decide +kernel) hC.2.2.1.2.1.1 (fun q => ?_)
      refine g_astore S [(4, .ref q), (0, .ref (E.2.2 0)), (1, .int a), (2, .int b), (3, .ref (E.2.2 64))] dL_drum_13 (by decide) rfl ?_
      refine g_const S dL_drum_15 (v := 1) rfl ?_
      exact g_iret S hr hlocks dL_drum_16 (by unfold sL_drum_r; rw [h]; rfl) (by unfold sL_drum_s; rw [h]; rfl) (Nat.le_of_ble_eq_true rfl) (Nat.le_of_ble_eq_true rfl)
    · rw [h]
      refine g_catch S (name := gIS) [⟨0, 10, 13, 13⟩] ⟨0, 10, 17, 15⟩ [] htab (List.forall_mem_cons.mpr ⟨(Or.inr ⟨by decide, gIA, S.2.2.2.2 _ (by decide +kernel), hC.2.2.1.2.2.1⟩), (fun _ hz => absurd hz List.not_mem_nil)⟩) (by decide) (by decide) (by decide +kernel) hC.2.2.1.2.1.2.1 (fun q => ?_)
      refine g_astore S [(4, .ref q), (0, .ref (E.2.2 0)), (1, .int a), (2, .int b), (3, .ref (E.2.2 64))] dL_drum_17 (by decide) rfl ?_
      refine g_const S dL_drum_19 (v := 2) rfl ?_
      exact g_iret S hr hlocks dL_drum_20 (by unfold sL_drum_r; rw [h]; rfl) (by unfold sL_drum_s; rw [h]; rfl) (Nat.le_of_ble_eq_true rfl) (Nat.le_of_ble_eq_true rfl)
  · skip
    refine g_i2l S dL_drum_8 ?_
    refine g_last S hC rfl dL_drum_9 ?_
    refine g_goto S 21 dL_drum_10 (by decide) ?_
    refine g_const S dL_drum_21 (v := 0) rfl ?_
    exact g_iret S hr hlocks dL_drum_22 (by unfold sL_drum_r; rw [if_pos h0]) (by unfold sL_drum_s; rw [if_pos h0]) (Nat.le_of_ble_eq_true rfl) (Nat.le_of_ble_eq_true rfl)
theorem tX7_smuggler (σ : gS) (a : Int32) (b : Int32) : sX7_smuggler_t σ a b = 0 ∨ sX7_smuggler_t σ a b = 1 ∨ sX7_smuggler_t σ a b = 2 := by
  unfold sX7_smuggler_t sX7_checkNumber_t
  repeat' split
  all_goals first | exact Or.inl rfl | exact Or.inr (Or.inl rfl) | exact Or.inr (Or.inr (rfl))
def sL_smuggler_r (σ : gS) (a : Int32) (b : Int32) : Int32 := if sX7_smuggler_t σ a b = 0 then (0 : Int32) else if sX7_smuggler_t σ a b = 1 then 1 else 2
def sL_smuggler_s (σ : gS) (a : Int32) (b : Int32) : gS := if sX7_smuggler_t σ a b = 0 then go (sX7_smuggler_s σ a b) (vp_updL (sX7_smuggler_s σ a b).2 0 (Int32.toInt64 (sX7_smuggler_r σ a b))) else (sX7_smuggler_s σ a b)
set_option maxRecDepth 100000 in
set_option maxHeartbeats 4000000 in
theorem kL_smuggler (l : Launch) (hfl : l.stackTraces = false) (E : gT) (σ : gS) (a : Int32) (b : Int32) (hok : tOK σ 1) : gMi l yL_smuggler wsL_smuggler ({ frames := 8, cells := 3, slots := 18, locals := 134 }) 3 18 E σ [.ref (E.2.2 0), .int a, .int b, .ref (E.2.2 64)] (sL_smuggler_r σ a b) (sL_smuggler_s σ a b) := by
  refine g_metW (mc := 3) (ms := 18) (nL := 5) (ret := some .int) (by decide) rfl (lv := [(0, .ref (E.2.2 0)), (1, .int a), (2, .int b), (3, .ref (E.2.2 64))]) rfl (Nat.le_of_ble_eq_true rfl) ?_
  intro p e s m below meth c S hr hlocks htab hC
  refine g_aload_n S 3 dL_smuggler_0 rfl ?_
  refine g_const S dL_smuggler_1 (v := 0) rfl ?_
  refine g_aload_n S 0 dL_smuggler_2 rfl ?_
  refine g_iload_n S 1 dL_smuggler_3 rfl ?_
  refine g_iload_n S 2 dL_smuggler_4 rfl ?_
  refine g_callxi (g_xunV S hC (As := [.int a, .int b]) (rest := [.int (0 : Int32), .ref (E.2.2 64)]) (k := 0) (by decide) rfl (by decide) rfl (kX7_smuggler l hfl E σ a b hok) (cwV 2 S.2.2.2.2 gL_smuggler_X7_smuggler rfl rfl rfl (by decide +kernel) ⟨Nat.le_of_ble_eq_true rfl, Nat.le_of_ble_eq_true rfl⟩) rfl rfl (Nat.le_of_ble_eq_true rfl) dL_smuggler_5 ⟨Nat.le_of_ble_eq_true rfl, Nat.le_of_ble_eq_true rfl⟩) (fun hx => ?_) (fun h0 => ?_)
  · rcases tX7_smuggler σ a b with h | h | h
    · exact absurd h hx
    · rw [h]
      refine g_catch S (name := gIA) [] ⟨0, 10, 13, 13⟩ [⟨0, 10, 17, 15⟩] htab (fun z hz => absurd hz List.not_mem_nil) (by decide) (by decide) (by decide +kernel) hC.2.2.1.2.1.1 (fun q => ?_)
      refine g_astore S [(4, .ref q), (0, .ref (E.2.2 0)), (1, .int a), (2, .int b), (3, .ref (E.2.2 64))] dL_smuggler_13 (by decide) rfl ?_
      refine g_const S dL_smuggler_15 (v := 1) rfl ?_
      exact g_iret S hr hlocks dL_smuggler_16 (by unfold sL_smuggler_r; rw [h]; rfl) (by unfold sL_smuggler_s; rw [h]; rfl) (Nat.le_of_ble_eq_true rfl) (Nat.le_of_ble_eq_true rfl)
    · rw [h]
      refine g_catch S (name := gIS) [⟨0, 10, 13, 13⟩] ⟨0, 10, 17, 15⟩ [] htab (List.forall_mem_cons.mpr ⟨(Or.inr ⟨by decide, gIA, S.2.2.2.2 _ (by decide +kernel), hC.2.2.1.2.2.1⟩), (fun _ hz => absurd hz List.not_mem_nil)⟩) (by decide) (by decide) (by decide +kernel) hC.2.2.1.2.1.2.1 (fun q => ?_)
      refine g_astore S [(4, .ref q), (0, .ref (E.2.2 0)), (1, .int a), (2, .int b), (3, .ref (E.2.2 64))] dL_smuggler_17 (by decide) rfl ?_
      refine g_const S dL_smuggler_19 (v := 2) rfl ?_
      exact g_iret S hr hlocks dL_smuggler_20 (by unfold sL_smuggler_r; rw [h]; rfl) (by unfold sL_smuggler_s; rw [h]; rfl) (Nat.le_of_ble_eq_true rfl) (Nat.le_of_ble_eq_true rfl)
  · skip
    refine g_i2l S dL_smuggler_8 ?_
    refine g_last S hC rfl dL_smuggler_9 ?_
    refine g_goto S 21 dL_smuggler_10 (by decide) ?_
    refine g_const S dL_smuggler_21 (v := 0) rfl ?_
    exact g_iret S hr hlocks dL_smuggler_22 (by unfold sL_smuggler_r; rw [if_pos h0]) (by unfold sL_smuggler_s; rw [if_pos h0]) (Nat.le_of_ble_eq_true rfl) (Nat.le_of_ble_eq_true rfl)
theorem tX7_card (σ : gS) (a : Int32) (b : Int32) : sX7_card_t σ a b = 0 ∨ sX7_card_t σ a b = 1 ∨ sX7_card_t σ a b = 2 := by
  unfold sX7_card_t sX7_checkNumber_t
  repeat' split
  all_goals first | exact Or.inl rfl | exact Or.inr (Or.inl rfl) | exact Or.inr (Or.inr (rfl))
def sL_card_r (σ : gS) (a : Int32) (b : Int32) : Int32 := if sX7_card_t σ a b = 0 then (0 : Int32) else if sX7_card_t σ a b = 1 then 1 else 2
def sL_card_s (σ : gS) (a : Int32) (b : Int32) : gS := if sX7_card_t σ a b = 0 then go (sX7_card_s σ a b) (vp_updL (sX7_card_s σ a b).2 0 (Int32.toInt64 (sX7_card_r σ a b))) else (sX7_card_s σ a b)
set_option maxRecDepth 100000 in
set_option maxHeartbeats 4000000 in
theorem kL_card (l : Launch) (hfl : l.stackTraces = false) (E : gT) (σ : gS) (a : Int32) (b : Int32) (hok : tOK σ 1) : gMi l yL_card wsL_card ({ frames := 8, cells := 3, slots := 18, locals := 134 }) 3 18 E σ [.ref (E.2.2 0), .int a, .int b, .ref (E.2.2 64)] (sL_card_r σ a b) (sL_card_s σ a b) := by
  refine g_metW (mc := 3) (ms := 18) (nL := 5) (ret := some .int) (by decide) rfl (lv := [(0, .ref (E.2.2 0)), (1, .int a), (2, .int b), (3, .ref (E.2.2 64))]) rfl (Nat.le_of_ble_eq_true rfl) ?_
  intro p e s m below meth c S hr hlocks htab hC
  refine g_aload_n S 3 dL_card_0 rfl ?_
  refine g_const S dL_card_1 (v := 0) rfl ?_
  refine g_aload_n S 0 dL_card_2 rfl ?_
  refine g_iload_n S 1 dL_card_3 rfl ?_
  refine g_iload_n S 2 dL_card_4 rfl ?_
  refine g_callxi (g_xunV S hC (As := [.int a, .int b]) (rest := [.int (0 : Int32), .ref (E.2.2 64)]) (k := 0) (by decide) rfl (by decide) rfl (kX7_card l hfl E σ a b hok) (cwV 2 S.2.2.2.2 gL_card_X7_card rfl rfl rfl (by decide +kernel) ⟨Nat.le_of_ble_eq_true rfl, Nat.le_of_ble_eq_true rfl⟩) rfl rfl (Nat.le_of_ble_eq_true rfl) dL_card_5 ⟨Nat.le_of_ble_eq_true rfl, Nat.le_of_ble_eq_true rfl⟩) (fun hx => ?_) (fun h0 => ?_)
  · rcases tX7_card σ a b with h | h | h
    · exact absurd h hx
    · rw [h]
      refine g_catch S (name := gIA) [] ⟨0, 10, 13, 13⟩ [⟨0, 10, 17, 15⟩] htab (fun z hz => absurd hz List.not_mem_nil) (by decide) (by decide) (by decide +kernel) hC.2.2.1.2.1.1 (fun q => ?_)
      refine g_astore S [(4, .ref q), (0, .ref (E.2.2 0)), (1, .int a), (2, .int b), (3, .ref (E.2.2 64))] dL_card_13 (by decide) rfl ?_
      refine g_const S dL_card_15 (v := 1) rfl ?_
      exact g_iret S hr hlocks dL_card_16 (by unfold sL_card_r; rw [h]; rfl) (by unfold sL_card_s; rw [h]; rfl) (Nat.le_of_ble_eq_true rfl) (Nat.le_of_ble_eq_true rfl)
    · rw [h]
      refine g_catch S (name := gIS) [⟨0, 10, 13, 13⟩] ⟨0, 10, 17, 15⟩ [] htab (List.forall_mem_cons.mpr ⟨(Or.inr ⟨by decide, gIA, S.2.2.2.2 _ (by decide +kernel), hC.2.2.1.2.2.1⟩), (fun _ hz => absurd hz List.not_mem_nil)⟩) (by decide) (by decide) (by decide +kernel) hC.2.2.1.2.1.2.1 (fun q => ?_)
      refine g_astore S [(4, .ref q), (0, .ref (E.2.2 0)), (1, .int a), (2, .int b), (3, .ref (E.2.2 64))] dL_card_17 (by decide) rfl ?_
      refine g_const S dL_card_19 (v := 2) rfl ?_
      exact g_iret S hr hlocks dL_card_20 (by unfold sL_card_r; rw [h]; rfl) (by unfold sL_card_s; rw [h]; rfl) (Nat.le_of_ble_eq_true rfl) (Nat.le_of_ble_eq_true rfl)
  · skip
    refine g_i2l S dL_card_8 ?_
    refine g_last S hC rfl dL_card_9 ?_
    refine g_goto S 21 dL_card_10 (by decide) ?_
    refine g_const S dL_card_21 (v := 0) rfl ?_
    exact g_iret S hr hlocks dL_card_22 (by unfold sL_card_r; rw [if_pos h0]) (by unfold sL_card_s; rw [if_pos h0]) (Nat.le_of_ble_eq_true rfl) (Nat.le_of_ble_eq_true rfl)
theorem tX7_setPatrol (σ : gS) (a : Int32) : sX7_setPatrol_t σ a = 0 ∨ sX7_setPatrol_t σ a = 1 := by
  unfold sX7_setPatrol_t sX7_checkNumber_t
  repeat' split
  all_goals first | exact Or.inl rfl | exact Or.inr (rfl)
def sL_setPatrol_r (σ : gS) (a : Int32) : Int32 := if sX7_setPatrol_t σ a = 0 then (0 : Int32) else 1
def sL_setPatrol_s (σ : gS) (a : Int32) : gS := if sX7_setPatrol_t σ a = 0 then go (sX7_setPatrol_s σ a) (vp_updL (sX7_setPatrol_s σ a).2 0 (Int32.toInt64 (sX7_setPatrol_r σ a))) else (sX7_setPatrol_s σ a)
set_option maxRecDepth 100000 in
set_option maxHeartbeats 4000000 in
theorem kL_setPatrol (l : Launch) (hfl : l.stackTraces = false) (E : gT) (σ : gS) (a : Int32) : gMi l yL_setPatrol wsL_setPatrol ({ frames := 8, cells := 1, slots := 6, locals := 134 }) 1 6 E σ [.ref (E.2.2 0), .int a, .ref (E.2.2 64)] (sL_setPatrol_r σ a) (sL_setPatrol_s σ a) := by
  refine g_metW (mc := 1) (ms := 6) (nL := 4) (ret := some .int) (by decide) rfl (lv := [(0, .ref (E.2.2 0)), (1, .int a), (2, .ref (E.2.2 64))]) rfl (Nat.le_of_ble_eq_true rfl) ?_
  intro p e s m below meth c S hr hlocks htab hC
  refine g_aload_n S 2 dL_setPatrol_0 rfl ?_
  refine g_const S dL_setPatrol_1 (v := 0) rfl ?_
  refine g_aload_n S 0 dL_setPatrol_2 rfl ?_
  refine g_iload_n S 1 dL_setPatrol_3 rfl ?_
  refine g_callxi (g_xunV S hC (As := [.int a]) (rest := [.int (0 : Int32), .ref (E.2.2 64)]) (k := 0) (by decide) rfl (by decide) rfl (kX7_setPatrol l hfl E σ a) (cwV 1 S.2.2.2.2 gL_setPatrol_X7_setPatrol rfl rfl rfl (by decide +kernel) ⟨Nat.le_of_ble_eq_true rfl, Nat.le_of_ble_eq_true rfl⟩) rfl rfl (Nat.le_of_ble_eq_true rfl) dL_setPatrol_4 ⟨Nat.le_of_ble_eq_true rfl, Nat.le_of_ble_eq_true rfl⟩) (fun hx => ?_) (fun h0 => ?_)
  · rcases tX7_setPatrol σ a with h | h
    · exact absurd h hx
    · rw [h]
      refine g_catch S (name := gIA) [] ⟨0, 9, 12, 13⟩ [] htab (fun z hz => absurd hz List.not_mem_nil) (by decide) (by decide) (by decide +kernel) hC.2.2.1.2.1.1 (fun q => ?_)
      refine g_astore_n S [(3, .ref q), (0, .ref (E.2.2 0)), (1, .int a), (2, .ref (E.2.2 64))] dL_setPatrol_12 (by decide) rfl ?_
      refine g_const S dL_setPatrol_13 (v := 1) rfl ?_
      exact g_iret S hr hlocks dL_setPatrol_14 (by unfold sL_setPatrol_r; rw [h]; rfl) (by unfold sL_setPatrol_s; rw [h]; rfl) (Nat.le_of_ble_eq_true rfl) (Nat.le_of_ble_eq_true rfl)
  · skip
    refine g_i2l S dL_setPatrol_7 ?_
    refine g_last S hC rfl dL_setPatrol_8 ?_
    refine g_goto S 15 dL_setPatrol_9 (by decide) ?_
    refine g_const S dL_setPatrol_15 (v := 0) rfl ?_
    exact g_iret S hr hlocks dL_setPatrol_16 (by unfold sL_setPatrol_r; rw [if_pos h0]) (by unfold sL_setPatrol_s; rw [if_pos h0]) (Nat.le_of_ble_eq_true rfl) (Nat.le_of_ble_eq_true rfl)
theorem tX7_setShare (σ : gS) (a : Int32) : sX7_setShare_t σ a = 0 ∨ sX7_setShare_t σ a = 1 := by
  unfold sX7_setShare_t sX7_checkNumber_t
  repeat' split
  all_goals first | exact Or.inl rfl | exact Or.inr (rfl)
def sL_setShare_r (σ : gS) (a : Int32) : Int32 := if sX7_setShare_t σ a = 0 then (0 : Int32) else 1
def sL_setShare_s (σ : gS) (a : Int32) : gS := if sX7_setShare_t σ a = 0 then go (sX7_setShare_s σ a) (vp_updL (sX7_setShare_s σ a).2 0 (Int32.toInt64 (sX7_setShare_r σ a))) else (sX7_setShare_s σ a)
set_option maxRecDepth 100000 in
set_option maxHeartbeats 4000000 in
theorem kL_setShare (l : Launch) (hfl : l.stackTraces = false) (E : gT) (σ : gS) (a : Int32) : gMi l yL_setShare wsL_setShare ({ frames := 8, cells := 1, slots := 6, locals := 134 }) 1 6 E σ [.ref (E.2.2 0), .int a, .ref (E.2.2 64)] (sL_setShare_r σ a) (sL_setShare_s σ a) := by
  refine g_metW (mc := 1) (ms := 6) (nL := 4) (ret := some .int) (by decide) rfl (lv := [(0, .ref (E.2.2 0)), (1, .int a), (2, .ref (E.2.2 64))]) rfl (Nat.le_of_ble_eq_true rfl) ?_
  intro p e s m below meth c S hr hlocks htab hC
  refine g_aload_n S 2 dL_setShare_0 rfl ?_
  refine g_const S dL_setShare_1 (v := 0) rfl ?_
  refine g_aload_n S 0 dL_setShare_2 rfl ?_
  refine g_iload_n S 1 dL_setShare_3 rfl ?_
  refine g_callxi (g_xunV S hC (As := [.int a]) (rest := [.int (0 : Int32), .ref (E.2.2 64)]) (k := 0) (by decide) rfl (by decide) rfl (kX7_setShare l hfl E σ a) (cwV 1 S.2.2.2.2 gL_setShare_X7_setShare rfl rfl rfl (by decide +kernel) ⟨Nat.le_of_ble_eq_true rfl, Nat.le_of_ble_eq_true rfl⟩) rfl rfl (Nat.le_of_ble_eq_true rfl) dL_setShare_4 ⟨Nat.le_of_ble_eq_true rfl, Nat.le_of_ble_eq_true rfl⟩) (fun hx => ?_) (fun h0 => ?_)
  · rcases tX7_setShare σ a with h | h
    · exact absurd h hx
    · rw [h]
      refine g_catch S (name := gIA) [] ⟨0, 9, 12, 13⟩ [] htab (fun z hz => absurd hz List.not_mem_nil) (by decide) (by decide) (by decide +kernel) hC.2.2.1.2.1.1 (fun q => ?_)
      refine g_astore_n S [(3, .ref q), (0, .ref (E.2.2 0)), (1, .int a), (2, .ref (E.2.2 64))] dL_setShare_12 (by decide) rfl ?_
      refine g_const S dL_setShare_13 (v := 1) rfl ?_
      exact g_iret S hr hlocks dL_setShare_14 (by unfold sL_setShare_r; rw [h]; rfl) (by unfold sL_setShare_s; rw [h]; rfl) (Nat.le_of_ble_eq_true rfl) (Nat.le_of_ble_eq_true rfl)
  · skip
    refine g_i2l S dL_setShare_7 ?_
    refine g_last S hC rfl dL_setShare_8 ?_
    refine g_goto S 15 dL_setShare_9 (by decide) ?_
    refine g_const S dL_setShare_15 (v := 0) rfl ?_
    exact g_iret S hr hlocks dL_setShare_16 (by unfold sL_setShare_r; rw [if_pos h0]) (by unfold sL_setShare_s; rw [if_pos h0]) (Nat.le_of_ble_eq_true rfl) (Nat.le_of_ble_eq_true rfl)
theorem tX7_setHeat (σ : gS) (a : Int32) (b : Int32) : sX7_setHeat_t σ a b = 0 ∨ sX7_setHeat_t σ a b = 3 ∨ sX7_setHeat_t σ a b = 1 := by
  unfold sX7_setHeat_t sX7_checkNumber_t sX7_checkIndex_t
  repeat' split
  all_goals first | exact Or.inl rfl | exact Or.inr (Or.inl rfl) | exact Or.inr (Or.inr (rfl))
def sL_setHeat_r (σ : gS) (a : Int32) (b : Int32) : Int32 := if sX7_setHeat_t σ a b = 0 then (0 : Int32) else if sX7_setHeat_t σ a b = 3 then 1 else 2
def sL_setHeat_s (σ : gS) (a : Int32) (b : Int32) : gS := if sX7_setHeat_t σ a b = 0 then go (sX7_setHeat_s σ a b) (vp_updL (sX7_setHeat_s σ a b).2 0 (Int32.toInt64 (sX7_setHeat_r σ a b))) else (sX7_setHeat_s σ a b)
set_option maxRecDepth 100000 in
set_option maxHeartbeats 4000000 in
theorem kL_setHeat (l : Launch) (hfl : l.stackTraces = false) (E : gT) (σ : gS) (a : Int32) (b : Int32) (hok : tOK σ 1) : gMi l yL_setHeat wsL_setHeat ({ frames := 8, cells := 2, slots := 12, locals := 135 }) 2 12 E σ [.ref (E.2.2 0), .int a, .int b, .ref (E.2.2 64)] (sL_setHeat_r σ a b) (sL_setHeat_s σ a b) := by
  refine g_metW (mc := 2) (ms := 12) (nL := 5) (ret := some .int) (by decide) rfl (lv := [(0, .ref (E.2.2 0)), (1, .int a), (2, .int b), (3, .ref (E.2.2 64))]) rfl (Nat.le_of_ble_eq_true rfl) ?_
  intro p e s m below meth c S hr hlocks htab hC
  refine g_aload_n S 3 dL_setHeat_0 rfl ?_
  refine g_const S dL_setHeat_1 (v := 0) rfl ?_
  refine g_aload_n S 0 dL_setHeat_2 rfl ?_
  refine g_iload_n S 1 dL_setHeat_3 rfl ?_
  refine g_iload_n S 2 dL_setHeat_4 rfl ?_
  refine g_callxi (g_xunV S hC (As := [.int a, .int b]) (rest := [.int (0 : Int32), .ref (E.2.2 64)]) (k := 0) (by decide) rfl (by decide) rfl (kX7_setHeat l hfl E σ a b hok) (cwV 2 S.2.2.2.2 gL_setHeat_X7_setHeat rfl rfl rfl (by decide +kernel) ⟨Nat.le_of_ble_eq_true rfl, Nat.le_of_ble_eq_true rfl⟩) rfl rfl (Nat.le_of_ble_eq_true rfl) dL_setHeat_5 ⟨Nat.le_of_ble_eq_true rfl, Nat.le_of_ble_eq_true rfl⟩) (fun hx => ?_) (fun h0 => ?_)
  · rcases tX7_setHeat σ a b with h | h | h
    · exact absurd h hx
    · rw [h]
      refine g_catch S (name := gIO) [] ⟨0, 10, 13, 36⟩ [⟨0, 10, 17, 13⟩] htab (fun z hz => absurd hz List.not_mem_nil) (by decide) (by decide) (by decide +kernel) hC.2.2.1.2.1.2.2 (fun q => ?_)
      refine g_astore S [(4, .ref q), (0, .ref (E.2.2 0)), (1, .int a), (2, .int b), (3, .ref (E.2.2 64))] dL_setHeat_13 (by decide) rfl ?_
      refine g_const S dL_setHeat_15 (v := 1) rfl ?_
      exact g_iret S hr hlocks dL_setHeat_16 (by unfold sL_setHeat_r; rw [h]; rfl) (by unfold sL_setHeat_s; rw [h]; rfl) (Nat.le_of_ble_eq_true rfl) (Nat.le_of_ble_eq_true rfl)
    · rw [h]
      refine g_catch S (name := gIA) [⟨0, 10, 13, 36⟩] ⟨0, 10, 17, 13⟩ [] htab (List.forall_mem_cons.mpr ⟨(Or.inr ⟨by decide, gIO, S.2.2.2.2 _ (by decide +kernel), hC.2.2.1.2.2.2.1⟩), (fun _ hz => absurd hz List.not_mem_nil)⟩) (by decide) (by decide) (by decide +kernel) hC.2.2.1.2.1.1 (fun q => ?_)
      refine g_astore S [(4, .ref q), (0, .ref (E.2.2 0)), (1, .int a), (2, .int b), (3, .ref (E.2.2 64))] dL_setHeat_17 (by decide) rfl ?_
      refine g_const S dL_setHeat_19 (v := 2) rfl ?_
      exact g_iret S hr hlocks dL_setHeat_20 (by unfold sL_setHeat_r; rw [h]; rfl) (by unfold sL_setHeat_s; rw [h]; rfl) (Nat.le_of_ble_eq_true rfl) (Nat.le_of_ble_eq_true rfl)
  · skip
    refine g_i2l S dL_setHeat_8 ?_
    refine g_last S hC rfl dL_setHeat_9 ?_
    refine g_goto S 21 dL_setHeat_10 (by decide) ?_
    refine g_const S dL_setHeat_21 (v := 0) rfl ?_
    exact g_iret S hr hlocks dL_setHeat_22 (by unfold sL_setHeat_r; rw [if_pos h0]) (by unfold sL_setHeat_s; rw [if_pos h0]) (Nat.le_of_ble_eq_true rfl) (Nat.le_of_ble_eq_true rfl)
theorem tX7_dig (σ : gS) (a : Int32) (b : Int32) : sX7_dig_t σ a b = 0 ∨ sX7_dig_t σ a b = 3 ∨ sX7_dig_t σ a b = 1 ∨ sX7_dig_t σ a b = 2 := by
  unfold sX7_dig_t sX7_checkNumber_t sX7_checkIndex_t
  repeat' split
  all_goals first | exact Or.inl rfl | exact Or.inr (Or.inl rfl) | exact Or.inr (Or.inr (Or.inl rfl)) | exact Or.inr (Or.inr (Or.inr (rfl)))
def sL_dig_r (σ : gS) (a : Int32) (b : Int32) : Int32 := if sX7_dig_t σ a b = 0 then (0 : Int32) else if sX7_dig_t σ a b = 3 then 1 else if sX7_dig_t σ a b = 1 then 2 else 3
def sL_dig_s (σ : gS) (a : Int32) (b : Int32) : gS := if sX7_dig_t σ a b = 0 then go (sX7_dig_s σ a b) (vp_updL (sX7_dig_s σ a b).2 0 (Int32.toInt64 (sX7_dig_r σ a b))) else (sX7_dig_s σ a b)
set_option maxRecDepth 100000 in
set_option maxHeartbeats 4000000 in
theorem kL_dig (l : Launch) (hfl : l.stackTraces = false) (E : gT) (σ : gS) (a : Int32) (b : Int32) (hok : tOK σ 1) : gMi l yL_dig wsL_dig ({ frames := 8, cells := 3, slots := 18, locals := 134 }) 3 18 E σ [.ref (E.2.2 0), .int a, .int b, .ref (E.2.2 64)] (sL_dig_r σ a b) (sL_dig_s σ a b) := by
  refine g_metW (mc := 3) (ms := 18) (nL := 5) (ret := some .int) (by decide) rfl (lv := [(0, .ref (E.2.2 0)), (1, .int a), (2, .int b), (3, .ref (E.2.2 64))]) rfl (Nat.le_of_ble_eq_true rfl) ?_
  intro p e s m below meth c S hr hlocks htab hC
  refine g_aload_n S 3 dL_dig_0 rfl ?_
  refine g_const S dL_dig_1 (v := 0) rfl ?_
  refine g_aload_n S 0 dL_dig_2 rfl ?_
  refine g_iload_n S 1 dL_dig_3 rfl ?_
  refine g_iload_n S 2 dL_dig_4 rfl ?_
  refine g_callxi (g_xunV S hC (As := [.int a, .int b]) (rest := [.int (0 : Int32), .ref (E.2.2 64)]) (k := 0) (by decide) rfl (by decide) rfl (kX7_dig l hfl E σ a b hok) (cwV 2 S.2.2.2.2 gL_dig_X7_dig rfl rfl rfl (by decide +kernel) ⟨Nat.le_of_ble_eq_true rfl, Nat.le_of_ble_eq_true rfl⟩) rfl rfl (Nat.le_of_ble_eq_true rfl) dL_dig_5 ⟨Nat.le_of_ble_eq_true rfl, Nat.le_of_ble_eq_true rfl⟩) (fun hx => ?_) (fun h0 => ?_)
  · rcases tX7_dig σ a b with h | h | h | h
    · exact absurd h hx
    · rw [h]
      refine g_catch S (name := gIO) [] ⟨0, 10, 13, 36⟩ [⟨0, 10, 17, 13⟩, ⟨0, 10, 21, 15⟩] htab (fun z hz => absurd hz List.not_mem_nil) (by decide) (by decide) (by decide +kernel) hC.2.2.1.2.1.2.2 (fun q => ?_)
      refine g_astore S [(4, .ref q), (0, .ref (E.2.2 0)), (1, .int a), (2, .int b), (3, .ref (E.2.2 64))] dL_dig_13 (by decide) rfl ?_
      refine g_const S dL_dig_15 (v := 1) rfl ?_
      exact g_iret S hr hlocks dL_dig_16 (by unfold sL_dig_r; rw [h]; rfl) (by unfold sL_dig_s; rw [h]; rfl) (Nat.le_of_ble_eq_true rfl) (Nat.le_of_ble_eq_true rfl)
    · rw [h]
      refine g_catch S (name := gIA) [⟨0, 10, 13, 36⟩] ⟨0, 10, 17, 13⟩ [⟨0, 10, 21, 15⟩] htab (List.forall_mem_cons.mpr ⟨(Or.inr ⟨by decide, gIO, S.2.2.2.2 _ (by decide +kernel), hC.2.2.1.2.2.2.1⟩), (fun _ hz => absurd hz List.not_mem_nil)⟩) (by decide) (by decide) (by decide +kernel) hC.2.2.1.2.1.1 (fun q => ?_)
      refine g_astore S [(4, .ref q), (0, .ref (E.2.2 0)), (1, .int a), (2, .int b), (3, .ref (E.2.2 64))] dL_dig_17 (by decide) rfl ?_
      refine g_const S dL_dig_19 (v := 2) rfl ?_
      exact g_iret S hr hlocks dL_dig_20 (by unfold sL_dig_r; rw [h]; rfl) (by unfold sL_dig_s; rw [h]; rfl) (Nat.le_of_ble_eq_true rfl) (Nat.le_of_ble_eq_true rfl)
    · rw [h]
      refine g_catch S (name := gIS) [⟨0, 10, 13, 36⟩, ⟨0, 10, 17, 13⟩] ⟨0, 10, 21, 15⟩ [] htab (List.forall_mem_cons.mpr ⟨(Or.inr ⟨by decide, gIO, S.2.2.2.2 _ (by decide +kernel), hC.2.2.1.2.2.2.2.1⟩), (List.forall_mem_cons.mpr ⟨(Or.inr ⟨by decide, gIA, S.2.2.2.2 _ (by decide +kernel), hC.2.2.1.2.2.1⟩), (fun _ hz => absurd hz List.not_mem_nil)⟩)⟩) (by decide) (by decide) (by decide +kernel) hC.2.2.1.2.1.2.1 (fun q => ?_)
      refine g_astore S [(4, .ref q), (0, .ref (E.2.2 0)), (1, .int a), (2, .int b), (3, .ref (E.2.2 64))] dL_dig_21 (by decide) rfl ?_
      refine g_const S dL_dig_23 (v := 3) rfl ?_
      exact g_iret S hr hlocks dL_dig_24 (by unfold sL_dig_r; rw [h]; rfl) (by unfold sL_dig_s; rw [h]; rfl) (Nat.le_of_ble_eq_true rfl) (Nat.le_of_ble_eq_true rfl)
  · skip
    refine g_i2l S dL_dig_8 ?_
    refine g_last S hC rfl dL_dig_9 ?_
    refine g_goto S 25 dL_dig_10 (by decide) ?_
    refine g_const S dL_dig_25 (v := 0) rfl ?_
    exact g_iret S hr hlocks dL_dig_26 (by unfold sL_dig_r; rw [if_pos h0]) (by unfold sL_dig_s; rw [if_pos h0]) (Nat.le_of_ble_eq_true rfl) (Nat.le_of_ble_eq_true rfl)
theorem tX7_give (σ : gS) (a : Int32) (b : Int32) : sX7_give_t σ a b = 0 ∨ sX7_give_t σ a b = 3 ∨ sX7_give_t σ a b = 1 := by
  unfold sX7_give_t sX7_checkNumber_t sX7_checkIndex_t
  repeat' split
  all_goals first | exact Or.inl rfl | exact Or.inr (Or.inl rfl) | exact Or.inr (Or.inr (rfl))
def sL_give_r (σ : gS) (a : Int32) (b : Int32) : Int32 := if sX7_give_t σ a b = 0 then (0 : Int32) else if sX7_give_t σ a b = 3 then 1 else 2
def sL_give_s (σ : gS) (a : Int32) (b : Int32) : gS := if sX7_give_t σ a b = 0 then go (sX7_give_s σ a b) (vp_updL (sX7_give_s σ a b).2 0 (Int32.toInt64 (sX7_give_r σ a b))) else (sX7_give_s σ a b)
set_option maxRecDepth 100000 in
set_option maxHeartbeats 4000000 in
theorem kL_give (l : Launch) (hfl : l.stackTraces = false) (E : gT) (σ : gS) (a : Int32) (b : Int32) : gMi l yL_give wsL_give ({ frames := 8, cells := 2, slots := 12, locals := 134 }) 2 12 E σ [.ref (E.2.2 0), .int a, .int b, .ref (E.2.2 64)] (sL_give_r σ a b) (sL_give_s σ a b) := by
  refine g_metW (mc := 2) (ms := 12) (nL := 5) (ret := some .int) (by decide) rfl (lv := [(0, .ref (E.2.2 0)), (1, .int a), (2, .int b), (3, .ref (E.2.2 64))]) rfl (Nat.le_of_ble_eq_true rfl) ?_
  intro p e s m below meth c S hr hlocks htab hC
  refine g_aload_n S 3 dL_give_0 rfl ?_
  refine g_const S dL_give_1 (v := 0) rfl ?_
  refine g_aload_n S 0 dL_give_2 rfl ?_
  refine g_iload_n S 1 dL_give_3 rfl ?_
  refine g_iload_n S 2 dL_give_4 rfl ?_
  refine g_callxi (g_xunV S hC (As := [.int a, .int b]) (rest := [.int (0 : Int32), .ref (E.2.2 64)]) (k := 0) (by decide) rfl (by decide) rfl (kX7_give l hfl E σ a b) (cwV 2 S.2.2.2.2 gL_give_X7_give rfl rfl rfl (by decide +kernel) ⟨Nat.le_of_ble_eq_true rfl, Nat.le_of_ble_eq_true rfl⟩) rfl rfl (Nat.le_of_ble_eq_true rfl) dL_give_5 ⟨Nat.le_of_ble_eq_true rfl, Nat.le_of_ble_eq_true rfl⟩) (fun hx => ?_) (fun h0 => ?_)
  · rcases tX7_give σ a b with h | h | h
    · exact absurd h hx
    · rw [h]
      refine g_catch S (name := gIO) [] ⟨0, 10, 13, 36⟩ [⟨0, 10, 17, 13⟩] htab (fun z hz => absurd hz List.not_mem_nil) (by decide) (by decide) (by decide +kernel) hC.2.2.1.2.1.2.2 (fun q => ?_)
      refine g_astore S [(4, .ref q), (0, .ref (E.2.2 0)), (1, .int a), (2, .int b), (3, .ref (E.2.2 64))] dL_give_13 (by decide) rfl ?_
      refine g_const S dL_give_15 (v := 1) rfl ?_
      exact g_iret S hr hlocks dL_give_16 (by unfold sL_give_r; rw [h]; rfl) (by unfold sL_give_s; rw [h]; rfl) (Nat.le_of_ble_eq_true rfl) (Nat.le_of_ble_eq_true rfl)
    · rw [h]
      refine g_catch S (name := gIA) [⟨0, 10, 13, 36⟩] ⟨0, 10, 17, 13⟩ [] htab (List.forall_mem_cons.mpr ⟨(Or.inr ⟨by decide, gIO, S.2.2.2.2 _ (by decide +kernel), hC.2.2.1.2.2.2.1⟩), (fun _ hz => absurd hz List.not_mem_nil)⟩) (by decide) (by decide) (by decide +kernel) hC.2.2.1.2.1.1 (fun q => ?_)
      refine g_astore S [(4, .ref q), (0, .ref (E.2.2 0)), (1, .int a), (2, .int b), (3, .ref (E.2.2 64))] dL_give_17 (by decide) rfl ?_
      refine g_const S dL_give_19 (v := 2) rfl ?_
      exact g_iret S hr hlocks dL_give_20 (by unfold sL_give_r; rw [h]; rfl) (by unfold sL_give_s; rw [h]; rfl) (Nat.le_of_ble_eq_true rfl) (Nat.le_of_ble_eq_true rfl)
  · skip
    refine g_i2l S dL_give_8 ?_
    refine g_last S hC rfl dL_give_9 ?_
    refine g_goto S 21 dL_give_10 (by decide) ?_
    refine g_const S dL_give_21 (v := 0) rfl ?_
    exact g_iret S hr hlocks dL_give_22 (by unfold sL_give_r; rw [if_pos h0]) (by unfold sL_give_s; rw [if_pos h0]) (Nat.le_of_ble_eq_true rfl) (Nat.le_of_ble_eq_true rfl)
theorem tX7_load (σ : gS) (a : Int32) (b : Int32) (n : Int32) : sX7_load_t σ a b n = 0 ∨ sX7_load_t σ a b n = 3 ∨ sX7_load_t σ a b n = 1 ∨ sX7_load_t σ a b n = 2 := by
  unfold sX7_load_t sX7_checkNumber_t sX7_checkIndex_t
  repeat' split
  all_goals first | exact Or.inl rfl | exact Or.inr (Or.inl rfl) | exact Or.inr (Or.inr (Or.inl rfl)) | exact Or.inr (Or.inr (Or.inr (rfl)))
def sL_load_r (σ : gS) (a : Int32) (b : Int32) (n : Int32) : Int32 := if sX7_load_t σ a b n = 0 then (0 : Int32) else if sX7_load_t σ a b n = 3 then 1 else if sX7_load_t σ a b n = 1 then 2 else 3
def sL_load_s (σ : gS) (a : Int32) (b : Int32) (n : Int32) : gS := if sX7_load_t σ a b n = 0 then go (sX7_load_s σ a b n) (vp_updL (sX7_load_s σ a b n).2 0 (Int32.toInt64 (sX7_load_r σ a b n))) else (sX7_load_s σ a b n)
set_option maxRecDepth 100000 in
set_option maxHeartbeats 4000000 in
theorem kL_load (l : Launch) (hfl : l.stackTraces = false) (E : gT) (σ : gS) (a : Int32) (b : Int32) (n : Int32) (hok : tOK σ 1) : gMi l yL_load wsL_load ({ frames := 8, cells := 5, slots := 30, locals := 135 }) 5 30 E σ [.ref (E.2.2 0), .int a, .int b, .int n, .ref (E.2.2 64)] (sL_load_r σ a b n) (sL_load_s σ a b n) := by
  refine g_metW (mc := 5) (ms := 30) (nL := 6) (ret := some .int) (by decide) rfl (lv := [(0, .ref (E.2.2 0)), (1, .int a), (2, .int b), (3, .int n), (4, .ref (E.2.2 64))]) rfl (Nat.le_of_ble_eq_true rfl) ?_
  intro p e s m below meth c S hr hlocks htab hC
  refine g_aload S 4 dL_load_0 rfl ?_
  refine g_const S dL_load_2 (v := 0) rfl ?_
  refine g_aload_n S 0 dL_load_3 rfl ?_
  refine g_iload_n S 1 dL_load_4 rfl ?_
  refine g_iload_n S 2 dL_load_5 rfl ?_
  refine g_iload_n S 3 dL_load_6 rfl ?_
  refine g_callxi (g_xunV S hC (As := [.int a, .int b, .int n]) (rest := [.int (0 : Int32), .ref (E.2.2 64)]) (k := 0) (by decide) rfl (by decide) rfl (kX7_load l hfl E σ a b n hok) (cwV 3 S.2.2.2.2 gL_load_X7_load rfl rfl rfl (by decide +kernel) ⟨Nat.le_of_ble_eq_true rfl, Nat.le_of_ble_eq_true rfl⟩) rfl rfl (Nat.le_of_ble_eq_true rfl) dL_load_7 ⟨Nat.le_of_ble_eq_true rfl, Nat.le_of_ble_eq_true rfl⟩) (fun hx => ?_) (fun h0 => ?_)
  · rcases tX7_load σ a b n with h | h | h | h
    · exact absurd h hx
    · rw [h]
      refine g_catch S (name := gIO) [] ⟨0, 12, 15, 36⟩ [⟨0, 12, 19, 13⟩, ⟨0, 12, 23, 15⟩] htab (fun z hz => absurd hz List.not_mem_nil) (by decide) (by decide) (by decide +kernel) hC.2.2.1.2.1.2.2 (fun q => ?_)
      refine g_astore S [(5, .ref q), (0, .ref (E.2.2 0)), (1, .int a), (2, .int b), (3, .int n), (4, .ref (E.2.2 64))] dL_load_15 (by decide) rfl ?_
      refine g_const S dL_load_17 (v := 1) rfl ?_
      exact g_iret S hr hlocks dL_load_18 (by unfold sL_load_r; rw [h]; rfl) (by unfold sL_load_s; rw [h]; rfl) (Nat.le_of_ble_eq_true rfl) (Nat.le_of_ble_eq_true rfl)
    · rw [h]
      refine g_catch S (name := gIA) [⟨0, 12, 15, 36⟩] ⟨0, 12, 19, 13⟩ [⟨0, 12, 23, 15⟩] htab (List.forall_mem_cons.mpr ⟨(Or.inr ⟨by decide, gIO, S.2.2.2.2 _ (by decide +kernel), hC.2.2.1.2.2.2.1⟩), (fun _ hz => absurd hz List.not_mem_nil)⟩) (by decide) (by decide) (by decide +kernel) hC.2.2.1.2.1.1 (fun q => ?_)
      refine g_astore S [(5, .ref q), (0, .ref (E.2.2 0)), (1, .int a), (2, .int b), (3, .int n), (4, .ref (E.2.2 64))] dL_load_19 (by decide) rfl ?_
      refine g_const S dL_load_21 (v := 2) rfl ?_
      exact g_iret S hr hlocks dL_load_22 (by unfold sL_load_r; rw [h]; rfl) (by unfold sL_load_s; rw [h]; rfl) (Nat.le_of_ble_eq_true rfl) (Nat.le_of_ble_eq_true rfl)
    · rw [h]
      refine g_catch S (name := gIS) [⟨0, 12, 15, 36⟩, ⟨0, 12, 19, 13⟩] ⟨0, 12, 23, 15⟩ [] htab (List.forall_mem_cons.mpr ⟨(Or.inr ⟨by decide, gIO, S.2.2.2.2 _ (by decide +kernel), hC.2.2.1.2.2.2.2.1⟩), (List.forall_mem_cons.mpr ⟨(Or.inr ⟨by decide, gIA, S.2.2.2.2 _ (by decide +kernel), hC.2.2.1.2.2.1⟩), (fun _ hz => absurd hz List.not_mem_nil)⟩)⟩) (by decide) (by decide) (by decide +kernel) hC.2.2.1.2.1.2.1 (fun q => ?_)
      refine g_astore S [(5, .ref q), (0, .ref (E.2.2 0)), (1, .int a), (2, .int b), (3, .int n), (4, .ref (E.2.2 64))] dL_load_23 (by decide) rfl ?_
      refine g_const S dL_load_25 (v := 3) rfl ?_
      exact g_iret S hr hlocks dL_load_26 (by unfold sL_load_r; rw [h]; rfl) (by unfold sL_load_s; rw [h]; rfl) (Nat.le_of_ble_eq_true rfl) (Nat.le_of_ble_eq_true rfl)
  · skip
    refine g_i2l S dL_load_10 ?_
    refine g_last S hC rfl dL_load_11 ?_
    refine g_goto S 27 dL_load_12 (by decide) ?_
    refine g_const S dL_load_27 (v := 0) rfl ?_
    exact g_iret S hr hlocks dL_load_28 (by unfold sL_load_r; rw [if_pos h0]) (by unfold sL_load_s; rw [if_pos h0]) (Nat.le_of_ble_eq_true rfl) (Nat.le_of_ble_eq_true rfl)
theorem tX7_take (σ : gS) (a : Int32) : sX7_take_t σ a = 0 ∨ sX7_take_t σ a = 3 ∨ sX7_take_t σ a = 2 := by
  unfold sX7_take_t sX7_checkIndex_t
  repeat' split
  all_goals first | exact Or.inl rfl | exact Or.inr (Or.inl rfl) | exact Or.inr (Or.inr (rfl))
def sL_take_r (σ : gS) (a : Int32) : Int32 := if sX7_take_t σ a = 0 then (0 : Int32) else if sX7_take_t σ a = 3 then 1 else 2
def sL_take_s (σ : gS) (a : Int32) : gS := if sX7_take_t σ a = 0 then go (sX7_take_s σ a) (vp_updL (sX7_take_s σ a).2 0 (Int32.toInt64 (sX7_take_r σ a))) else (sX7_take_s σ a)
set_option maxRecDepth 100000 in
set_option maxHeartbeats 4000000 in
theorem kL_take (l : Launch) (hfl : l.stackTraces = false) (E : gT) (σ : gS) (a : Int32) (hok : tOK σ 1) : gMi l yL_take wsL_take ({ frames := 8, cells := 2, slots := 12, locals := 134 }) 2 12 E σ [.ref (E.2.2 0), .int a, .ref (E.2.2 64)] (sL_take_r σ a) (sL_take_s σ a) := by
  refine g_metW (mc := 2) (ms := 12) (nL := 4) (ret := some .int) (by decide) rfl (lv := [(0, .ref (E.2.2 0)), (1, .int a), (2, .ref (E.2.2 64))]) rfl (Nat.le_of_ble_eq_true rfl) ?_
  intro p e s m below meth c S hr hlocks htab hC
  refine g_aload_n S 2 dL_take_0 rfl ?_
  refine g_const S dL_take_1 (v := 0) rfl ?_
  refine g_aload_n S 0 dL_take_2 rfl ?_
  refine g_iload_n S 1 dL_take_3 rfl ?_
  refine g_callxi (g_xunV S hC (As := [.int a]) (rest := [.int (0 : Int32), .ref (E.2.2 64)]) (k := 0) (by decide) rfl (by decide) rfl (kX7_take l hfl E σ a hok) (cwV 1 S.2.2.2.2 gL_take_X7_take rfl rfl rfl (by decide +kernel) ⟨Nat.le_of_ble_eq_true rfl, Nat.le_of_ble_eq_true rfl⟩) rfl rfl (Nat.le_of_ble_eq_true rfl) dL_take_4 ⟨Nat.le_of_ble_eq_true rfl, Nat.le_of_ble_eq_true rfl⟩) (fun hx => ?_) (fun h0 => ?_)
  · rcases tX7_take σ a with h | h | h
    · exact absurd h hx
    · rw [h]
      refine g_catch S (name := gIO) [] ⟨0, 9, 12, 36⟩ [⟨0, 9, 15, 15⟩] htab (fun z hz => absurd hz List.not_mem_nil) (by decide) (by decide) (by decide +kernel) hC.2.2.1.2.1.2.2 (fun q => ?_)
      refine g_astore_n S [(3, .ref q), (0, .ref (E.2.2 0)), (1, .int a), (2, .ref (E.2.2 64))] dL_take_12 (by decide) rfl ?_
      refine g_const S dL_take_13 (v := 1) rfl ?_
      exact g_iret S hr hlocks dL_take_14 (by unfold sL_take_r; rw [h]; rfl) (by unfold sL_take_s; rw [h]; rfl) (Nat.le_of_ble_eq_true rfl) (Nat.le_of_ble_eq_true rfl)
    · rw [h]
      refine g_catch S (name := gIS) [⟨0, 9, 12, 36⟩] ⟨0, 9, 15, 15⟩ [] htab (List.forall_mem_cons.mpr ⟨(Or.inr ⟨by decide, gIO, S.2.2.2.2 _ (by decide +kernel), hC.2.2.1.2.2.2.2.1⟩), (fun _ hz => absurd hz List.not_mem_nil)⟩) (by decide) (by decide) (by decide +kernel) hC.2.2.1.2.1.2.1 (fun q => ?_)
      refine g_astore_n S [(3, .ref q), (0, .ref (E.2.2 0)), (1, .int a), (2, .ref (E.2.2 64))] dL_take_15 (by decide) rfl ?_
      refine g_const S dL_take_16 (v := 2) rfl ?_
      exact g_iret S hr hlocks dL_take_17 (by unfold sL_take_r; rw [h]; rfl) (by unfold sL_take_s; rw [h]; rfl) (Nat.le_of_ble_eq_true rfl) (Nat.le_of_ble_eq_true rfl)
  · skip
    refine g_i2l S dL_take_7 ?_
    refine g_last S hC rfl dL_take_8 ?_
    refine g_goto S 18 dL_take_9 (by decide) ?_
    refine g_const S dL_take_18 (v := 0) rfl ?_
    exact g_iret S hr hlocks dL_take_19 (by unfold sL_take_r; rw [if_pos h0]) (by unfold sL_take_s; rw [if_pos h0]) (Nat.le_of_ble_eq_true rfl) (Nat.le_of_ble_eq_true rfl)
theorem tX7_send (σ : gS) (a : Int32) : sX7_send_t σ a = 0 ∨ sX7_send_t σ a = 3 ∨ sX7_send_t σ a = 2 := by
  unfold sX7_send_t sX7_checkIndex_t
  repeat' split
  all_goals first | exact Or.inl rfl | exact Or.inr (Or.inl rfl) | exact Or.inr (Or.inr (rfl))
def sL_send_r (σ : gS) (a : Int32) : Int32 := if sX7_send_t σ a = 0 then (0 : Int32) else if sX7_send_t σ a = 3 then 1 else 2
def sL_send_s (σ : gS) (a : Int32) : gS := if sX7_send_t σ a = 0 then go (sX7_send_s σ a) (vp_updL (sX7_send_s σ a).2 0 (Int32.toInt64 (sX7_send_r σ a))) else (sX7_send_s σ a)
set_option maxRecDepth 100000 in
set_option maxHeartbeats 4000000 in
theorem kL_send (l : Launch) (hfl : l.stackTraces = false) (E : gT) (σ : gS) (a : Int32) (hok : tOK σ 1) : gMi l yL_send wsL_send ({ frames := 8, cells := 2, slots := 12, locals := 132 }) 2 12 E σ [.ref (E.2.2 0), .int a, .ref (E.2.2 64)] (sL_send_r σ a) (sL_send_s σ a) := by
  refine g_metW (mc := 2) (ms := 12) (nL := 4) (ret := some .int) (by decide) rfl (lv := [(0, .ref (E.2.2 0)), (1, .int a), (2, .ref (E.2.2 64))]) rfl (Nat.le_of_ble_eq_true rfl) ?_
  intro p e s m below meth c S hr hlocks htab hC
  refine g_aload_n S 2 dL_send_0 rfl ?_
  refine g_const S dL_send_1 (v := 0) rfl ?_
  refine g_aload_n S 0 dL_send_2 rfl ?_
  refine g_iload_n S 1 dL_send_3 rfl ?_
  refine g_callxi (g_xunV S hC (As := [.int a]) (rest := [.int (0 : Int32), .ref (E.2.2 64)]) (k := 0) (by decide) rfl (by decide) rfl (kX7_send l hfl E σ a hok) (cwV 1 S.2.2.2.2 gL_send_X7_send rfl rfl rfl (by decide +kernel) ⟨Nat.le_of_ble_eq_true rfl, Nat.le_of_ble_eq_true rfl⟩) rfl rfl (Nat.le_of_ble_eq_true rfl) dL_send_4 ⟨Nat.le_of_ble_eq_true rfl, Nat.le_of_ble_eq_true rfl⟩) (fun hx => ?_) (fun h0 => ?_)
  · rcases tX7_send σ a with h | h | h
    · exact absurd h hx
    · rw [h]
      refine g_catch S (name := gIO) [] ⟨0, 9, 12, 36⟩ [⟨0, 9, 15, 15⟩] htab (fun z hz => absurd hz List.not_mem_nil) (by decide) (by decide) (by decide +kernel) hC.2.2.1.2.1.2.2 (fun q => ?_)
      refine g_astore_n S [(3, .ref q), (0, .ref (E.2.2 0)), (1, .int a), (2, .ref (E.2.2 64))] dL_send_12 (by decide) rfl ?_
      refine g_const S dL_send_13 (v := 1) rfl ?_
      exact g_iret S hr hlocks dL_send_14 (by unfold sL_send_r; rw [h]; rfl) (by unfold sL_send_s; rw [h]; rfl) (Nat.le_of_ble_eq_true rfl) (Nat.le_of_ble_eq_true rfl)
    · rw [h]
      refine g_catch S (name := gIS) [⟨0, 9, 12, 36⟩] ⟨0, 9, 15, 15⟩ [] htab (List.forall_mem_cons.mpr ⟨(Or.inr ⟨by decide, gIO, S.2.2.2.2 _ (by decide +kernel), hC.2.2.1.2.2.2.2.1⟩), (fun _ hz => absurd hz List.not_mem_nil)⟩) (by decide) (by decide) (by decide +kernel) hC.2.2.1.2.1.2.1 (fun q => ?_)
      refine g_astore_n S [(3, .ref q), (0, .ref (E.2.2 0)), (1, .int a), (2, .ref (E.2.2 64))] dL_send_15 (by decide) rfl ?_
      refine g_const S dL_send_16 (v := 2) rfl ?_
      exact g_iret S hr hlocks dL_send_17 (by unfold sL_send_r; rw [h]; rfl) (by unfold sL_send_s; rw [h]; rfl) (Nat.le_of_ble_eq_true rfl) (Nat.le_of_ble_eq_true rfl)
  · skip
    refine g_i2l S dL_send_7 ?_
    refine g_last S hC rfl dL_send_8 ?_
    refine g_goto S 18 dL_send_9 (by decide) ?_
    refine g_const S dL_send_18 (v := 0) rfl ?_
    exact g_iret S hr hlocks dL_send_19 (by unfold sL_send_r; rw [if_pos h0]) (by unfold sL_send_s; rw [if_pos h0]) (Nat.le_of_ble_eq_true rfl) (Nat.le_of_ble_eq_true rfl)
theorem tX7_about (σ : gS) (a : Int32) (b : Int32) : sX7_about_t σ a b = 0 ∨ sX7_about_t σ a b = 3 := by
  unfold sX7_about_t sX7_ask_k0_t sX7_checkIndex_t
  repeat' split
  all_goals first | exact Or.inl rfl | exact Or.inr (rfl)
def sL_about_r (σ : gS) (a : Int32) (b : Int32) : Int32 := if sX7_about_t σ a b = 0 then (0 : Int32) else 1
def sL_about_s (σ : gS) (a : Int32) (b : Int32) : gS := if sX7_about_t σ a b = 0 then go σ (vp_updL σ.2 0 (Int32.toInt64 (sX7_about_r σ a b))) else σ
set_option maxRecDepth 100000 in
set_option maxHeartbeats 4000000 in
theorem kL_about (l : Launch) (hfl : l.stackTraces = false) (E : gT) (σ : gS) (a : Int32) (b : Int32) (hok : tOK σ 1) : gMi l yL_about wsL_about ({ frames := 9, cells := 2, slots := 12, locals := 154 }) 2 12 E σ [.ref (E.2.2 0), .int a, .int b, .ref (E.2.2 64)] (sL_about_r σ a b) (sL_about_s σ a b) := by
  refine g_metW (mc := 2) (ms := 12) (nL := 5) (ret := some .int) (by decide) rfl (lv := [(0, .ref (E.2.2 0)), (1, .int a), (2, .int b), (3, .ref (E.2.2 64))]) rfl (Nat.le_of_ble_eq_true rfl) ?_
  intro p e s m below meth c S hr hlocks htab hC
  refine g_aload_n S 3 dL_about_0 rfl ?_
  refine g_const S dL_about_1 (v := 0) rfl ?_
  refine g_aload_n S 0 dL_about_2 rfl ?_
  refine g_iload_n S 1 dL_about_3 rfl ?_
  refine g_iload_n S 2 dL_about_4 rfl ?_
  refine g_callxi (g_xunV S hC (As := [.int a, .int b]) (rest := [.int (0 : Int32), .ref (E.2.2 64)]) (k := 0) (by decide) rfl (by decide) rfl (kX7_about l hfl E σ a b hok) (cwV 2 S.2.2.2.2 gL_about_X7_about rfl rfl rfl (by decide +kernel) ⟨Nat.le_of_ble_eq_true rfl, Nat.le_of_ble_eq_true rfl⟩) rfl rfl (Nat.le_of_ble_eq_true rfl) dL_about_5 ⟨Nat.le_of_ble_eq_true rfl, Nat.le_of_ble_eq_true rfl⟩) (fun hx => ?_) (fun h0 => ?_)
  · rcases tX7_about σ a b with h | h
    · exact absurd h hx
    · rw [h]
      refine g_catch S (name := gIO) [] ⟨0, 10, 13, 36⟩ [] htab (fun z hz => absurd hz List.not_mem_nil) (by decide) (by decide) (by decide +kernel) hC.2.2.1.2.1.2.2 (fun q => ?_)
      refine g_astore S [(4, .ref q), (0, .ref (E.2.2 0)), (1, .int a), (2, .int b), (3, .ref (E.2.2 64))] dL_about_13 (by decide) rfl ?_
      refine g_const S dL_about_15 (v := 1) rfl ?_
      exact g_iret S hr hlocks dL_about_16 (by unfold sL_about_r; rw [h]; rfl) (by unfold sL_about_s; rw [h]; rfl) (Nat.le_of_ble_eq_true rfl) (Nat.le_of_ble_eq_true rfl)
  · skip
    refine g_i2l S dL_about_8 ?_
    refine g_last S hC rfl dL_about_9 ?_
    refine g_goto S 17 dL_about_10 (by decide) ?_
    refine g_const S dL_about_17 (v := 0) rfl ?_
    exact g_iret S hr hlocks dL_about_18 (by unfold sL_about_r; rw [if_pos h0]) (by unfold sL_about_s; rw [if_pos h0]) (Nat.le_of_ble_eq_true rfl) (Nat.le_of_ble_eq_true rfl)
theorem tX7_roast (σ : gS) (a : Int32) (b : Int32) : sX7_roast_t σ a b = 0 ∨ sX7_roast_t σ a b = 3 := by
  unfold sX7_roast_t sX7_ask_k2_t sX7_checkIndex_t
  repeat' split
  all_goals first | exact Or.inl rfl | exact Or.inr (rfl)
def sL_roast_r (σ : gS) (a : Int32) (b : Int32) : Int32 := if sX7_roast_t σ a b = 0 then (0 : Int32) else 1
def sL_roast_s (σ : gS) (a : Int32) (b : Int32) : gS := if sX7_roast_t σ a b = 0 then go σ (vp_updL σ.2 0 (Int32.toInt64 (sX7_roast_r σ a b))) else σ
set_option maxRecDepth 100000 in
set_option maxHeartbeats 4000000 in
theorem kL_roast (l : Launch) (hfl : l.stackTraces = false) (E : gT) (σ : gS) (a : Int32) (b : Int32) (hok : tOK σ 1) : gMi l yL_roast wsL_roast ({ frames := 9, cells := 2, slots := 12, locals := 154 }) 2 12 E σ [.ref (E.2.2 0), .int a, .int b, .ref (E.2.2 64)] (sL_roast_r σ a b) (sL_roast_s σ a b) := by
  refine g_metW (mc := 2) (ms := 12) (nL := 5) (ret := some .int) (by decide) rfl (lv := [(0, .ref (E.2.2 0)), (1, .int a), (2, .int b), (3, .ref (E.2.2 64))]) rfl (Nat.le_of_ble_eq_true rfl) ?_
  intro p e s m below meth c S hr hlocks htab hC
  refine g_aload_n S 3 dL_roast_0 rfl ?_
  refine g_const S dL_roast_1 (v := 0) rfl ?_
  refine g_aload_n S 0 dL_roast_2 rfl ?_
  refine g_iload_n S 1 dL_roast_3 rfl ?_
  refine g_iload_n S 2 dL_roast_4 rfl ?_
  refine g_callxi (g_xunV S hC (As := [.int a, .int b]) (rest := [.int (0 : Int32), .ref (E.2.2 64)]) (k := 0) (by decide) rfl (by decide) rfl (kX7_roast l hfl E σ a b hok) (cwV 2 S.2.2.2.2 gL_roast_X7_roast rfl rfl rfl (by decide +kernel) ⟨Nat.le_of_ble_eq_true rfl, Nat.le_of_ble_eq_true rfl⟩) rfl rfl (Nat.le_of_ble_eq_true rfl) dL_roast_5 ⟨Nat.le_of_ble_eq_true rfl, Nat.le_of_ble_eq_true rfl⟩) (fun hx => ?_) (fun h0 => ?_)
  · rcases tX7_roast σ a b with h | h
    · exact absurd h hx
    · rw [h]
      refine g_catch S (name := gIO) [] ⟨0, 10, 13, 36⟩ [] htab (fun z hz => absurd hz List.not_mem_nil) (by decide) (by decide) (by decide +kernel) hC.2.2.1.2.1.2.2 (fun q => ?_)
      refine g_astore S [(4, .ref q), (0, .ref (E.2.2 0)), (1, .int a), (2, .int b), (3, .ref (E.2.2 64))] dL_roast_13 (by decide) rfl ?_
      refine g_const S dL_roast_15 (v := 1) rfl ?_
      exact g_iret S hr hlocks dL_roast_16 (by unfold sL_roast_r; rw [h]; rfl) (by unfold sL_roast_s; rw [h]; rfl) (Nat.le_of_ble_eq_true rfl) (Nat.le_of_ble_eq_true rfl)
  · skip
    refine g_i2l S dL_roast_8 ?_
    refine g_last S hC rfl dL_roast_9 ?_
    refine g_goto S 17 dL_roast_10 (by decide) ?_
    refine g_const S dL_roast_17 (v := 0) rfl ?_
    exact g_iret S hr hlocks dL_roast_18 (by unfold sL_roast_r; rw [if_pos h0]) (by unfold sL_roast_s; rw [if_pos h0]) (Nat.le_of_ble_eq_true rfl) (Nat.le_of_ble_eq_true rfl)
theorem tX7_told (σ : gS) (a : Int32) (b : Int32) : sX7_told_t σ a b = 0 ∨ sX7_told_t σ a b = 3 := by
  unfold sX7_told_t sX7_ask_k3_t sX7_checkIndex_t
  repeat' split
  all_goals first | exact Or.inl rfl | exact Or.inr (rfl)
def sL_told_r (σ : gS) (a : Int32) (b : Int32) : Int32 := if sX7_told_t σ a b = 0 then (0 : Int32) else 1
def sL_told_s (σ : gS) (a : Int32) (b : Int32) : gS := if sX7_told_t σ a b = 0 then go σ (vp_updL σ.2 0 (Int32.toInt64 (sX7_told_r σ a b))) else σ
set_option maxRecDepth 100000 in
set_option maxHeartbeats 4000000 in
theorem kL_told (l : Launch) (hfl : l.stackTraces = false) (E : gT) (σ : gS) (a : Int32) (b : Int32) (hok : tOK σ 1) : gMi l yL_told wsL_told ({ frames := 9, cells := 2, slots := 12, locals := 154 }) 2 12 E σ [.ref (E.2.2 0), .int a, .int b, .ref (E.2.2 64)] (sL_told_r σ a b) (sL_told_s σ a b) := by
  refine g_metW (mc := 2) (ms := 12) (nL := 5) (ret := some .int) (by decide) rfl (lv := [(0, .ref (E.2.2 0)), (1, .int a), (2, .int b), (3, .ref (E.2.2 64))]) rfl (Nat.le_of_ble_eq_true rfl) ?_
  intro p e s m below meth c S hr hlocks htab hC
  refine g_aload_n S 3 dL_told_0 rfl ?_
  refine g_const S dL_told_1 (v := 0) rfl ?_
  refine g_aload_n S 0 dL_told_2 rfl ?_
  refine g_iload_n S 1 dL_told_3 rfl ?_
  refine g_iload_n S 2 dL_told_4 rfl ?_
  refine g_callxi (g_xunV S hC (As := [.int a, .int b]) (rest := [.int (0 : Int32), .ref (E.2.2 64)]) (k := 0) (by decide) rfl (by decide) rfl (kX7_told l hfl E σ a b hok) (cwV 2 S.2.2.2.2 gL_told_X7_told rfl rfl rfl (by decide +kernel) ⟨Nat.le_of_ble_eq_true rfl, Nat.le_of_ble_eq_true rfl⟩) rfl rfl (Nat.le_of_ble_eq_true rfl) dL_told_5 ⟨Nat.le_of_ble_eq_true rfl, Nat.le_of_ble_eq_true rfl⟩) (fun hx => ?_) (fun h0 => ?_)
  · rcases tX7_told σ a b with h | h
    · exact absurd h hx
    · rw [h]
      refine g_catch S (name := gIO) [] ⟨0, 10, 13, 36⟩ [] htab (fun z hz => absurd hz List.not_mem_nil) (by decide) (by decide) (by decide +kernel) hC.2.2.1.2.1.2.2 (fun q => ?_)
      refine g_astore S [(4, .ref q), (0, .ref (E.2.2 0)), (1, .int a), (2, .int b), (3, .ref (E.2.2 64))] dL_told_13 (by decide) rfl ?_
      refine g_const S dL_told_15 (v := 1) rfl ?_
      exact g_iret S hr hlocks dL_told_16 (by unfold sL_told_r; rw [h]; rfl) (by unfold sL_told_s; rw [h]; rfl) (Nat.le_of_ble_eq_true rfl) (Nat.le_of_ble_eq_true rfl)
  · skip
    refine g_i2l S dL_told_8 ?_
    refine g_last S hC rfl dL_told_9 ?_
    refine g_goto S 17 dL_told_10 (by decide) ?_
    refine g_const S dL_told_17 (v := 0) rfl ?_
    exact g_iret S hr hlocks dL_told_18 (by unfold sL_told_r; rw [if_pos h0]) (by unfold sL_told_s; rw [if_pos h0]) (Nat.le_of_ble_eq_true rfl) (Nat.le_of_ble_eq_true rfl)
theorem tX7_ration (σ : gS) (a : Int32) (b : Int32) : sX7_ration_t σ a b = 0 ∨ sX7_ration_t σ a b = 3 := by
  unfold sX7_ration_t sX7_ask_k1_t sX7_checkIndex_t
  repeat' split
  all_goals first | exact Or.inl rfl | exact Or.inr (rfl)
def sL_ration_r (σ : gS) (a : Int32) (b : Int32) : Int32 := if sX7_ration_t σ a b = 0 then (0 : Int32) else 1
def sL_ration_s (σ : gS) (a : Int32) (b : Int32) : gS := if sX7_ration_t σ a b = 0 then go σ (vp_updL σ.2 0 (Int32.toInt64 (sX7_ration_r σ a b))) else σ
set_option maxRecDepth 100000 in
set_option maxHeartbeats 4000000 in
theorem kL_ration (l : Launch) (hfl : l.stackTraces = false) (E : gT) (σ : gS) (a : Int32) (b : Int32) (hok : tOK σ 1) : gMi l yL_ration wsL_ration ({ frames := 9, cells := 2, slots := 12, locals := 154 }) 2 12 E σ [.ref (E.2.2 0), .int a, .int b, .ref (E.2.2 64)] (sL_ration_r σ a b) (sL_ration_s σ a b) := by
  refine g_metW (mc := 2) (ms := 12) (nL := 5) (ret := some .int) (by decide) rfl (lv := [(0, .ref (E.2.2 0)), (1, .int a), (2, .int b), (3, .ref (E.2.2 64))]) rfl (Nat.le_of_ble_eq_true rfl) ?_
  intro p e s m below meth c S hr hlocks htab hC
  refine g_aload_n S 3 dL_ration_0 rfl ?_
  refine g_const S dL_ration_1 (v := 0) rfl ?_
  refine g_aload_n S 0 dL_ration_2 rfl ?_
  refine g_iload_n S 1 dL_ration_3 rfl ?_
  refine g_iload_n S 2 dL_ration_4 rfl ?_
  refine g_callxi (g_xunV S hC (As := [.int a, .int b]) (rest := [.int (0 : Int32), .ref (E.2.2 64)]) (k := 0) (by decide) rfl (by decide) rfl (kX7_ration l hfl E σ a b hok) (cwV 2 S.2.2.2.2 gL_ration_X7_ration rfl rfl rfl (by decide +kernel) ⟨Nat.le_of_ble_eq_true rfl, Nat.le_of_ble_eq_true rfl⟩) rfl rfl (Nat.le_of_ble_eq_true rfl) dL_ration_5 ⟨Nat.le_of_ble_eq_true rfl, Nat.le_of_ble_eq_true rfl⟩) (fun hx => ?_) (fun h0 => ?_)
  · rcases tX7_ration σ a b with h | h
    · exact absurd h hx
    · rw [h]
      refine g_catch S (name := gIO) [] ⟨0, 10, 13, 36⟩ [] htab (fun z hz => absurd hz List.not_mem_nil) (by decide) (by decide) (by decide +kernel) hC.2.2.1.2.1.2.2 (fun q => ?_)
      refine g_astore S [(4, .ref q), (0, .ref (E.2.2 0)), (1, .int a), (2, .int b), (3, .ref (E.2.2 64))] dL_ration_13 (by decide) rfl ?_
      refine g_const S dL_ration_15 (v := 1) rfl ?_
      exact g_iret S hr hlocks dL_ration_16 (by unfold sL_ration_r; rw [h]; rfl) (by unfold sL_ration_s; rw [h]; rfl) (Nat.le_of_ble_eq_true rfl) (Nat.le_of_ble_eq_true rfl)
  · skip
    refine g_i2l S dL_ration_8 ?_
    refine g_last S hC rfl dL_ration_9 ?_
    refine g_goto S 17 dL_ration_10 (by decide) ?_
    refine g_const S dL_ration_17 (v := 0) rfl ?_
    exact g_iret S hr hlocks dL_ration_18 (by unfold sL_ration_r; rw [if_pos h0]) (by unfold sL_ration_s; rw [if_pos h0]) (Nat.le_of_ble_eq_true rfl) (Nat.le_of_ble_eq_true rfl)
theorem tX7_count (σ : gS) (a : Int32) : sX7_count_t σ a = 0 ∨ sX7_count_t σ a = 3 := by
  unfold sX7_count_t sX7_ask_k5_t sX7_checkIndex_t
  repeat' split
  all_goals first | exact Or.inl rfl | exact Or.inr (rfl)
def sL_count_r (σ : gS) (a : Int32) : Int32 := if sX7_count_t σ a = 0 then (0 : Int32) else 1
def sL_count_s (σ : gS) (a : Int32) : gS := if sX7_count_t σ a = 0 then go σ (vp_updL σ.2 0 (Int32.toInt64 (sX7_count_r σ a))) else σ
set_option maxRecDepth 100000 in
set_option maxHeartbeats 4000000 in
theorem kL_count (l : Launch) (hfl : l.stackTraces = false) (E : gT) (σ : gS) (a : Int32) : gMi l yL_count wsL_count ({ frames := 9, cells := 1, slots := 6, locals := 153 }) 1 6 E σ [.ref (E.2.2 0), .int a, .ref (E.2.2 64)] (sL_count_r σ a) (sL_count_s σ a) := by
  refine g_metW (mc := 1) (ms := 6) (nL := 4) (ret := some .int) (by decide) rfl (lv := [(0, .ref (E.2.2 0)), (1, .int a), (2, .ref (E.2.2 64))]) rfl (Nat.le_of_ble_eq_true rfl) ?_
  intro p e s m below meth c S hr hlocks htab hC
  refine g_aload_n S 2 dL_count_0 rfl ?_
  refine g_const S dL_count_1 (v := 0) rfl ?_
  refine g_aload_n S 0 dL_count_2 rfl ?_
  refine g_iload_n S 1 dL_count_3 rfl ?_
  refine g_callxi (g_xunV S hC (As := [.int a]) (rest := [.int (0 : Int32), .ref (E.2.2 64)]) (k := 0) (by decide) rfl (by decide) rfl (kX7_count l hfl E σ a) (cwV 1 S.2.2.2.2 gL_count_X7_count rfl rfl rfl (by decide +kernel) ⟨Nat.le_of_ble_eq_true rfl, Nat.le_of_ble_eq_true rfl⟩) rfl rfl (Nat.le_of_ble_eq_true rfl) dL_count_4 ⟨Nat.le_of_ble_eq_true rfl, Nat.le_of_ble_eq_true rfl⟩) (fun hx => ?_) (fun h0 => ?_)
  · rcases tX7_count σ a with h | h
    · exact absurd h hx
    · rw [h]
      refine g_catch S (name := gIO) [] ⟨0, 9, 12, 36⟩ [] htab (fun z hz => absurd hz List.not_mem_nil) (by decide) (by decide) (by decide +kernel) hC.2.2.1.2.1.2.2 (fun q => ?_)
      refine g_astore_n S [(3, .ref q), (0, .ref (E.2.2 0)), (1, .int a), (2, .ref (E.2.2 64))] dL_count_12 (by decide) rfl ?_
      refine g_const S dL_count_13 (v := 1) rfl ?_
      exact g_iret S hr hlocks dL_count_14 (by unfold sL_count_r; rw [h]; rfl) (by unfold sL_count_s; rw [h]; rfl) (Nat.le_of_ble_eq_true rfl) (Nat.le_of_ble_eq_true rfl)
  · skip
    refine g_i2l S dL_count_7 ?_
    refine g_last S hC rfl dL_count_8 ?_
    refine g_goto S 15 dL_count_9 (by decide) ?_
    refine g_const S dL_count_15 (v := 0) rfl ?_
    exact g_iret S hr hlocks dL_count_16 (by unfold sL_count_r; rw [if_pos h0]) (by unfold sL_count_s; rw [if_pos h0]) (Nat.le_of_ble_eq_true rfl) (Nat.le_of_ble_eq_true rfl)
theorem tX7_pass (σ : gS) (a : Int32) : sX7_pass_t σ a = 0 ∨ sX7_pass_t σ a = 1 := by
  unfold sX7_pass_t sX7_checkNumber_t
  repeat' split
  all_goals first | exact Or.inl rfl | exact Or.inr (rfl)
def sL_pass_r (σ : gS) (a : Int32) : Int32 := if sX7_pass_t σ a = 0 then (0 : Int32) else 1
def sL_pass_s (σ : gS) (a : Int32) : gS := if sX7_pass_t σ a = 0 then go (sX7_pass_s σ a) (vp_updL (sX7_pass_s σ a).2 0 (Int32.toInt64 (sX7_pass_r σ a))) else (sX7_pass_s σ a)
set_option maxRecDepth 100000 in
set_option maxHeartbeats 4000000 in
theorem kL_pass (l : Launch) (hfl : l.stackTraces = false) (E : gT) (σ : gS) (a : Int32) (hok : tOK σ 1) : gMi l yL_pass wsL_pass ({ frames := 8, cells := 1, slots := 6, locals := 154 }) 1 6 E σ [.ref (E.2.2 0), .int a, .ref (E.2.2 64)] (sL_pass_r σ a) (sL_pass_s σ a) := by
  refine g_metW (mc := 1) (ms := 6) (nL := 4) (ret := some .int) (by decide) rfl (lv := [(0, .ref (E.2.2 0)), (1, .int a), (2, .ref (E.2.2 64))]) rfl (Nat.le_of_ble_eq_true rfl) ?_
  intro p e s m below meth c S hr hlocks htab hC
  refine g_aload_n S 2 dL_pass_0 rfl ?_
  refine g_const S dL_pass_1 (v := 0) rfl ?_
  refine g_aload_n S 0 dL_pass_2 rfl ?_
  refine g_iload_n S 1 dL_pass_3 rfl ?_
  refine g_callxi (g_xunV S hC (As := [.int a]) (rest := [.int (0 : Int32), .ref (E.2.2 64)]) (k := 0) (by decide) rfl (by decide) rfl (kX7_pass l hfl E σ a hok) (cwV 1 S.2.2.2.2 gL_pass_X7_pass rfl rfl rfl (by decide +kernel) ⟨Nat.le_of_ble_eq_true rfl, Nat.le_of_ble_eq_true rfl⟩) rfl rfl (Nat.le_of_ble_eq_true rfl) dL_pass_4 ⟨Nat.le_of_ble_eq_true rfl, Nat.le_of_ble_eq_true rfl⟩) (fun hx => ?_) (fun h0 => ?_)
  · rcases tX7_pass σ a with h | h
    · exact absurd h hx
    · rw [h]
      refine g_catch S (name := gIA) [] ⟨0, 9, 12, 13⟩ [] htab (fun z hz => absurd hz List.not_mem_nil) (by decide) (by decide) (by decide +kernel) hC.2.2.1.2.1.1 (fun q => ?_)
      refine g_astore_n S [(3, .ref q), (0, .ref (E.2.2 0)), (1, .int a), (2, .ref (E.2.2 64))] dL_pass_12 (by decide) rfl ?_
      refine g_const S dL_pass_13 (v := 1) rfl ?_
      exact g_iret S hr hlocks dL_pass_14 (by unfold sL_pass_r; rw [h]; rfl) (by unfold sL_pass_s; rw [h]; rfl) (Nat.le_of_ble_eq_true rfl) (Nat.le_of_ble_eq_true rfl)
  · skip
    refine g_i2l S dL_pass_7 ?_
    refine g_last S hC rfl dL_pass_8 ?_
    refine g_goto S 15 dL_pass_9 (by decide) ?_
    refine g_const S dL_pass_15 (v := 0) rfl ?_
    exact g_iret S hr hlocks dL_pass_16 (by unfold sL_pass_r; rw [if_pos h0]) (by unfold sL_pass_s; rw [if_pos h0]) (Nat.le_of_ble_eq_true rfl) (Nat.le_of_ble_eq_true rfl)
theorem tX7_foresee (σ : gS) (a : Int32) (b : Int32) : sX7_foresee_t σ a b = 0 ∨ sX7_foresee_t σ a b = 1 ∨ sX7_foresee_t σ a b = 3 := by
  unfold sX7_foresee_t sX7_checkNumber_t
  repeat' split
  all_goals first | exact Or.inl rfl | exact Or.inr (Or.inl rfl) | exact Or.inr (Or.inr (rfl))
def sL_foresee_r (σ : gS) (a : Int32) (b : Int32) : Int32 := if sX7_foresee_t σ a b = 0 then (0 : Int32) else if sX7_foresee_t σ a b = 1 then 1 else 2
def sL_foresee_s (σ : gS) (a : Int32) (b : Int32) : gS := if sX7_foresee_t σ a b = 0 then go (sX7_foresee_s σ a b) (vp_updL (sX7_foresee_s σ a b).2 0 (Int32.toInt64 (sX7_foresee_r σ a b))) else (sX7_foresee_s σ a b)
set_option maxRecDepth 100000 in
set_option maxHeartbeats 4000000 in
theorem kL_foresee (l : Launch) (hfl : l.stackTraces = false) (E : gT) (σ : gS) (a : Int32) (b : Int32) (hok : tOK σ 1) : gMi l yL_foresee wsL_foresee ({ frames := 8, cells := 2, slots := 12, locals := 155 }) 2 12 E σ [.ref (E.2.2 0), .int a, .int b, .ref (E.2.2 64)] (sL_foresee_r σ a b) (sL_foresee_s σ a b) := by
  refine g_metW (mc := 2) (ms := 12) (nL := 5) (ret := some .int) (by decide) rfl (lv := [(0, .ref (E.2.2 0)), (1, .int a), (2, .int b), (3, .ref (E.2.2 64))]) rfl (Nat.le_of_ble_eq_true rfl) ?_
  intro p e s m below meth c S hr hlocks htab hC
  refine g_aload_n S 3 dL_foresee_0 rfl ?_
  refine g_const S dL_foresee_1 (v := 0) rfl ?_
  refine g_aload_n S 0 dL_foresee_2 rfl ?_
  refine g_iload_n S 1 dL_foresee_3 rfl ?_
  refine g_iload_n S 2 dL_foresee_4 rfl ?_
  refine g_callxi (g_xunV S hC (As := [.int a, .int b]) (rest := [.int (0 : Int32), .ref (E.2.2 64)]) (k := 0) (by decide) rfl (by decide) rfl (kX7_foresee l hfl E σ a b hok) (cwV 2 S.2.2.2.2 gL_foresee_X7_foresee rfl rfl rfl (by decide +kernel) ⟨Nat.le_of_ble_eq_true rfl, Nat.le_of_ble_eq_true rfl⟩) rfl rfl (Nat.le_of_ble_eq_true rfl) dL_foresee_5 ⟨Nat.le_of_ble_eq_true rfl, Nat.le_of_ble_eq_true rfl⟩) (fun hx => ?_) (fun h0 => ?_)
  · rcases tX7_foresee σ a b with h | h | h
    · exact absurd h hx
    · rw [h]
      refine g_catch S (name := gIA) [] ⟨0, 10, 13, 13⟩ [⟨0, 10, 17, 36⟩] htab (fun z hz => absurd hz List.not_mem_nil) (by decide) (by decide) (by decide +kernel) hC.2.2.1.2.1.1 (fun q => ?_)
      refine g_astore S [(4, .ref q), (0, .ref (E.2.2 0)), (1, .int a), (2, .int b), (3, .ref (E.2.2 64))] dL_foresee_13 (by decide) rfl ?_
      refine g_const S dL_foresee_15 (v := 1) rfl ?_
      exact g_iret S hr hlocks dL_foresee_16 (by unfold sL_foresee_r; rw [h]; rfl) (by unfold sL_foresee_s; rw [h]; rfl) (Nat.le_of_ble_eq_true rfl) (Nat.le_of_ble_eq_true rfl)
    · rw [h]
      refine g_catch S (name := gIO) [⟨0, 10, 13, 13⟩] ⟨0, 10, 17, 36⟩ [] htab (List.forall_mem_cons.mpr ⟨(Or.inr ⟨by decide, gIA, S.2.2.2.2 _ (by decide +kernel), hC.2.2.1.2.2.2.2.2⟩), (fun _ hz => absurd hz List.not_mem_nil)⟩) (by decide) (by decide) (by decide +kernel) hC.2.2.1.2.1.2.2 (fun q => ?_)
      refine g_astore S [(4, .ref q), (0, .ref (E.2.2 0)), (1, .int a), (2, .int b), (3, .ref (E.2.2 64))] dL_foresee_17 (by decide) rfl ?_
      refine g_const S dL_foresee_19 (v := 2) rfl ?_
      exact g_iret S hr hlocks dL_foresee_20 (by unfold sL_foresee_r; rw [h]; rfl) (by unfold sL_foresee_s; rw [h]; rfl) (Nat.le_of_ble_eq_true rfl) (Nat.le_of_ble_eq_true rfl)
  · skip
    refine g_i2l S dL_foresee_8 ?_
    refine g_last S hC rfl dL_foresee_9 ?_
    refine g_goto S 21 dL_foresee_10 (by decide) ?_
    refine g_const S dL_foresee_21 (v := 0) rfl ?_
    exact g_iret S hr hlocks dL_foresee_22 (by unfold sL_foresee_r; rw [if_pos h0]) (by unfold sL_foresee_s; rw [if_pos h0]) (Nat.le_of_ble_eq_true rfl) (Nat.le_of_ble_eq_true rfl)
theorem tX7_ready (σ : gS) (a : Int32) : sX7_ready_t σ a = 0 ∨ sX7_ready_t σ a = 3 := by
  unfold sX7_ready_t sX7_checkIndex_t
  repeat' split
  all_goals first | exact Or.inl rfl | exact Or.inr (rfl)
def sL_ready_r (σ : gS) (a : Int32) : Int32 := if sX7_ready_t σ a = 0 then (0 : Int32) else 1
def sL_ready_s (σ : gS) (a : Int32) : gS := if sX7_ready_t σ a = 0 then go σ (vp_updL σ.2 0 (Int32.toInt64 (sX7_ready_r σ a))) else σ
set_option maxRecDepth 100000 in
set_option maxHeartbeats 4000000 in
theorem kL_ready (l : Launch) (hfl : l.stackTraces = false) (E : gT) (σ : gS) (a : Int32) (hok : tOK σ 1) : gMi l yL_ready wsL_ready ({ frames := 8, cells := 1, slots := 6, locals := 132 }) 1 6 E σ [.ref (E.2.2 0), .int a, .ref (E.2.2 64)] (sL_ready_r σ a) (sL_ready_s σ a) := by
  refine g_metW (mc := 1) (ms := 6) (nL := 4) (ret := some .int) (by decide) rfl (lv := [(0, .ref (E.2.2 0)), (1, .int a), (2, .ref (E.2.2 64))]) rfl (Nat.le_of_ble_eq_true rfl) ?_
  intro p e s m below meth c S hr hlocks htab hC
  refine g_aload_n S 2 dL_ready_0 rfl ?_
  refine g_const S dL_ready_1 (v := 0) rfl ?_
  refine g_aload_n S 0 dL_ready_2 rfl ?_
  refine g_iload_n S 1 dL_ready_3 rfl ?_
  refine g_callxi (g_xunV S hC (As := [.int a]) (rest := [.int (0 : Int32), .ref (E.2.2 64)]) (k := 0) (by decide) rfl (by decide) rfl (kX7_ready l hfl E σ a hok) (cwV 1 S.2.2.2.2 gL_ready_X7_ready rfl rfl rfl (by decide +kernel) ⟨Nat.le_of_ble_eq_true rfl, Nat.le_of_ble_eq_true rfl⟩) rfl rfl (Nat.le_of_ble_eq_true rfl) dL_ready_4 ⟨Nat.le_of_ble_eq_true rfl, Nat.le_of_ble_eq_true rfl⟩) (fun hx => ?_) (fun h0 => ?_)
  · rcases tX7_ready σ a with h | h
    · exact absurd h hx
    · rw [h]
      refine g_catch S (name := gIO) [] ⟨0, 9, 12, 36⟩ [] htab (fun z hz => absurd hz List.not_mem_nil) (by decide) (by decide) (by decide +kernel) hC.2.2.1.2.1.2.2 (fun q => ?_)
      refine g_astore_n S [(3, .ref q), (0, .ref (E.2.2 0)), (1, .int a), (2, .ref (E.2.2 64))] dL_ready_12 (by decide) rfl ?_
      refine g_const S dL_ready_13 (v := 1) rfl ?_
      exact g_iret S hr hlocks dL_ready_14 (by unfold sL_ready_r; rw [h]; rfl) (by unfold sL_ready_s; rw [h]; rfl) (Nat.le_of_ble_eq_true rfl) (Nat.le_of_ble_eq_true rfl)
  · skip
    refine g_i2l S dL_ready_7 ?_
    refine g_last S hC rfl dL_ready_8 ?_
    refine g_goto S 15 dL_ready_9 (by decide) ?_
    refine g_const S dL_ready_15 (v := 0) rfl ?_
    exact g_iret S hr hlocks dL_ready_16 (by unfold sL_ready_r; rw [if_pos h0]) (by unfold sL_ready_s; rw [if_pos h0]) (Nat.le_of_ble_eq_true rfl) (Nat.le_of_ble_eq_true rfl)
theorem tX7_caught (σ : gS) (a : Int32) (b : Int32) : sX7_caught_t σ a b = 0 ∨ sX7_caught_t σ a b = 3 ∨ sX7_caught_t σ a b = 1 ∨ sX7_caught_t σ a b = 2 := by
  unfold sX7_caught_t sX7_checkNumber_t sX7_checkIndex_t
  repeat' split
  all_goals first | exact Or.inl rfl | exact Or.inr (Or.inl rfl) | exact Or.inr (Or.inr (Or.inl rfl)) | exact Or.inr (Or.inr (Or.inr (rfl)))
def sL_caught_r (σ : gS) (a : Int32) (b : Int32) : Int32 := if sX7_caught_t σ a b = 0 then (0 : Int32) else if sX7_caught_t σ a b = 3 then 1 else if sX7_caught_t σ a b = 1 then 2 else 3
def sL_caught_s (σ : gS) (a : Int32) (b : Int32) : gS := if sX7_caught_t σ a b = 0 then go σ (vp_updL σ.2 0 (if sX7_caught_r σ a b = 0 then (0 : Int64) else 1)) else σ
set_option maxRecDepth 100000 in
set_option maxHeartbeats 4000000 in
theorem kL_caught (l : Launch) (hfl : l.stackTraces = false) (E : gT) (σ : gS) (a : Int32) (b : Int32) (hok : tOK σ 1) : gMi l yL_caught wsL_caught ({ frames := 8, cells := 3, slots := 18, locals := 134 }) 3 18 E σ [.ref (E.2.2 0), .int a, .int b, .ref (E.2.2 64)] (sL_caught_r σ a b) (sL_caught_s σ a b) := by
  refine g_metW (mc := 3) (ms := 18) (nL := 5) (ret := some .int) (by decide) rfl (lv := [(0, .ref (E.2.2 0)), (1, .int a), (2, .int b), (3, .ref (E.2.2 64))]) rfl (Nat.le_of_ble_eq_true rfl) ?_
  intro p e s m below meth c S hr hlocks htab hC
  refine g_aload_n S 3 dL_caught_0 rfl ?_
  refine g_const S dL_caught_1 (v := 0) rfl ?_
  refine g_aload_n S 0 dL_caught_2 rfl ?_
  refine g_iload_n S 1 dL_caught_3 rfl ?_
  refine g_iload_n S 2 dL_caught_4 rfl ?_
  refine g_callxi (g_xunV S hC (As := [.int a, .int b]) (rest := [.int (0 : Int32), .ref (E.2.2 64)]) (k := 0) (by decide) rfl (by decide) rfl (kX7_caught l hfl E σ a b hok) (cwV 2 S.2.2.2.2 gL_caught_X7_caught rfl rfl rfl (by decide +kernel) ⟨Nat.le_of_ble_eq_true rfl, Nat.le_of_ble_eq_true rfl⟩) rfl rfl (Nat.le_of_ble_eq_true rfl) dL_caught_5 ⟨Nat.le_of_ble_eq_true rfl, Nat.le_of_ble_eq_true rfl⟩) (fun hx => ?_) (fun h0 => ?_)
  · rcases tX7_caught σ a b with h | h | h | h
    · exact absurd h hx
    · rw [h]
      refine g_catch S (name := gIO) [] ⟨0, 17, 20, 36⟩ [⟨0, 17, 24, 13⟩, ⟨0, 17, 28, 15⟩] htab (fun z hz => absurd hz List.not_mem_nil) (by decide) (by decide) (by decide +kernel) hC.2.2.1.2.1.2.2 (fun q => ?_)
      refine g_astore S [(4, .ref q), (0, .ref (E.2.2 0)), (1, .int a), (2, .int b), (3, .ref (E.2.2 64))] dL_caught_20 (by decide) rfl ?_
      refine g_const S dL_caught_22 (v := 1) rfl ?_
      exact g_iret S hr hlocks dL_caught_23 (by unfold sL_caught_r; rw [h]; rfl) (by unfold sL_caught_s; rw [h]; rfl) (Nat.le_of_ble_eq_true rfl) (Nat.le_of_ble_eq_true rfl)
    · rw [h]
      refine g_catch S (name := gIA) [⟨0, 17, 20, 36⟩] ⟨0, 17, 24, 13⟩ [⟨0, 17, 28, 15⟩] htab (List.forall_mem_cons.mpr ⟨(Or.inr ⟨by decide, gIO, S.2.2.2.2 _ (by decide +kernel), hC.2.2.1.2.2.2.1⟩), (fun _ hz => absurd hz List.not_mem_nil)⟩) (by decide) (by decide) (by decide +kernel) hC.2.2.1.2.1.1 (fun q => ?_)
      refine g_astore S [(4, .ref q), (0, .ref (E.2.2 0)), (1, .int a), (2, .int b), (3, .ref (E.2.2 64))] dL_caught_24 (by decide) rfl ?_
      refine g_const S dL_caught_26 (v := 2) rfl ?_
      exact g_iret S hr hlocks dL_caught_27 (by unfold sL_caught_r; rw [h]; rfl) (by unfold sL_caught_s; rw [h]; rfl) (Nat.le_of_ble_eq_true rfl) (Nat.le_of_ble_eq_true rfl)
    · rw [h]
      refine g_catch S (name := gIS) [⟨0, 17, 20, 36⟩, ⟨0, 17, 24, 13⟩] ⟨0, 17, 28, 15⟩ [] htab (List.forall_mem_cons.mpr ⟨(Or.inr ⟨by decide, gIO, S.2.2.2.2 _ (by decide +kernel), hC.2.2.1.2.2.2.2.1⟩), (List.forall_mem_cons.mpr ⟨(Or.inr ⟨by decide, gIA, S.2.2.2.2 _ (by decide +kernel), hC.2.2.1.2.2.1⟩), (fun _ hz => absurd hz List.not_mem_nil)⟩)⟩) (by decide) (by decide) (by decide +kernel) hC.2.2.1.2.1.2.1 (fun q => ?_)
      refine g_astore S [(4, .ref q), (0, .ref (E.2.2 0)), (1, .int a), (2, .int b), (3, .ref (E.2.2 64))] dL_caught_28 (by decide) rfl ?_
      refine g_const S dL_caught_30 (v := 3) rfl ?_
      exact g_iret S hr hlocks dL_caught_31 (by unfold sL_caught_r; rw [h]; rfl) (by unfold sL_caught_s; rw [h]; rfl) (Nat.le_of_ble_eq_true rfl) (Nat.le_of_ble_eq_true rfl)
  · refine g_if_eq S 15 dL_caught_8 (by decide) (fun c1 => ?_) (fun c1 => ?_)
    · skip
      refine g_lconst S dL_caught_15 (v := 0) rfl ?_
      refine g_last S hC rfl dL_caught_16 ?_
      refine g_goto S 32 dL_caught_17 (by decide) ?_
      refine g_const S dL_caught_32 (v := 0) rfl ?_
      exact g_iret S hr hlocks dL_caught_33 (by unfold sL_caught_r; rw [if_pos h0]) (by unfold sL_caught_s; rw [if_pos h0, if_pos c1]) (Nat.le_of_ble_eq_true rfl) (Nat.le_of_ble_eq_true rfl)
    · skip
      refine g_lconst S dL_caught_11 (v := 1) rfl ?_
      refine g_goto S 16 dL_caught_12 (by decide) ?_
      refine g_last S hC rfl dL_caught_16 ?_
      refine g_goto S 32 dL_caught_17 (by decide) ?_
      refine g_const S dL_caught_32 (v := 0) rfl ?_
      exact g_iret S hr hlocks dL_caught_33 (by unfold sL_caught_r; rw [if_pos h0]) (by unfold sL_caught_s; rw [if_pos h0, if_neg c1]) (Nat.le_of_ble_eq_true rfl) (Nat.le_of_ble_eq_true rfl)
theorem tX7_advise (σ : gS) (a : Int32) : sX7_advise_t σ a = 0 ∨ sX7_advise_t σ a = 1 := by
  unfold sX7_advise_t sX7_checkNumber_t
  repeat' split
  all_goals first | exact Or.inl rfl | exact Or.inr (rfl)
def sL_advise_r (σ : gS) (a : Int32) : Int32 := if sX7_advise_t σ a = 0 then (0 : Int32) else 1
def sL_advise_s (σ : gS) (a : Int32) : gS := if sX7_advise_t σ a = 0 then go (sX7_advise_s σ a) (vp_updL (sX7_advise_s σ a).2 0 (Int32.toInt64 (sX7_advise_r σ a))) else (sX7_advise_s σ a)
set_option maxRecDepth 100000 in
set_option maxHeartbeats 4000000 in
theorem kL_advise (l : Launch) (hfl : l.stackTraces = false) (E : gT) (σ : gS) (a : Int32) (hok : tOK σ 1) : gMi l yL_advise wsL_advise ({ frames := 8, cells := 1, slots := 6, locals := 158 }) 1 6 E σ [.ref (E.2.2 0), .int a, .ref (E.2.2 64)] (sL_advise_r σ a) (sL_advise_s σ a) := by
  refine g_metW (mc := 1) (ms := 6) (nL := 4) (ret := some .int) (by decide) rfl (lv := [(0, .ref (E.2.2 0)), (1, .int a), (2, .ref (E.2.2 64))]) rfl (Nat.le_of_ble_eq_true rfl) ?_
  intro p e s m below meth c S hr hlocks htab hC
  refine g_aload_n S 2 dL_advise_0 rfl ?_
  refine g_const S dL_advise_1 (v := 0) rfl ?_
  refine g_aload_n S 0 dL_advise_2 rfl ?_
  refine g_iload_n S 1 dL_advise_3 rfl ?_
  refine g_callxi (g_xunV S hC (As := [.int a]) (rest := [.int (0 : Int32), .ref (E.2.2 64)]) (k := 0) (by decide) rfl (by decide) rfl (kX7_advise l hfl E σ a hok) (cwV 1 S.2.2.2.2 gL_advise_X7_advise rfl rfl rfl (by decide +kernel) ⟨Nat.le_of_ble_eq_true rfl, Nat.le_of_ble_eq_true rfl⟩) rfl rfl (Nat.le_of_ble_eq_true rfl) dL_advise_4 ⟨Nat.le_of_ble_eq_true rfl, Nat.le_of_ble_eq_true rfl⟩) (fun hx => ?_) (fun h0 => ?_)
  · rcases tX7_advise σ a with h | h
    · exact absurd h hx
    · rw [h]
      refine g_catch S (name := gIA) [] ⟨0, 9, 12, 13⟩ [] htab (fun z hz => absurd hz List.not_mem_nil) (by decide) (by decide) (by decide +kernel) hC.2.2.1.2.1.1 (fun q => ?_)
      refine g_astore_n S [(3, .ref q), (0, .ref (E.2.2 0)), (1, .int a), (2, .ref (E.2.2 64))] dL_advise_12 (by decide) rfl ?_
      refine g_const S dL_advise_13 (v := 1) rfl ?_
      exact g_iret S hr hlocks dL_advise_14 (by unfold sL_advise_r; rw [h]; rfl) (by unfold sL_advise_s; rw [h]; rfl) (Nat.le_of_ble_eq_true rfl) (Nat.le_of_ble_eq_true rfl)
  · skip
    refine g_i2l S dL_advise_7 ?_
    refine g_last S hC rfl dL_advise_8 ?_
    refine g_goto S 15 dL_advise_9 (by decide) ?_
    refine g_const S dL_advise_15 (v := 0) rfl ?_
    exact g_iret S hr hlocks dL_advise_16 (by unfold sL_advise_r; rw [if_pos h0]) (by unfold sL_advise_s; rw [if_pos h0]) (Nat.le_of_ble_eq_true rfl) (Nat.le_of_ble_eq_true rfl)
