/-! the law's small methods -/
def bel (v : Int32) (n : Nat) : Nat := v.toBitVec.toNat % 2 ^ 31 % n
theorem bel_lt {v : Int32} {n : Nat} (h : 0 < n) : bel v n < n := Nat.mod_lt _ h
def cel (E : gT) (k : Nat) : Int32 := if k < gSl E then E.1.2.2.2 k else 790386105 * (nI k + 3)
set_option maxRecDepth 100000 in
theorem kL_below (l : Launch) (E : gT) (σ : gS) (v n : Int32) (nn : Nat) (hn : n = nI nn) (h0 : 0 < nn) (h1 : nn < 2 ^ 31) : gMi l yL_below wsL_below ({ frames := 0, cells := 0, slots := 0, locals := 0 }) 0 0 E σ [.int v, .int n] (nI (bel v nn)) σ := by
  subst hn
  refine g_met (mc := 0) (ms := 0) (nL := 2) (ret := (some .int)) (by decide) rfl (lv := [(0, .int v), (1, .int (nI nn))]) rfl (Nat.le_of_ble_eq_true rfl) ?_
  intro p e s m below meth c S hr hlocks hC
  refine g_iload_n S 0 dL_below_0 rfl ?_
  refine g_ldc S (v := 2147483647) (by decide +kernel) dL_below_1 ?_
  refine g_iand S dL_below_3 ?_
  refine g_iload_n S 1 dL_below_4 rfl ?_
  refine g_irem S dL_below_5 (fun z => by have := (nI_eq (b := 0) h1 (by decide)).mp z; omega) ?_
  refine g_iret S hr hlocks dL_below_6 ?_ rfl (Nat.le_of_ble_eq_true rfl) (Nat.le_of_ble_eq_true rfl)
  rw [pk_and v 31 (by decide), pk_rem (Nat.mod_lt _ (by decide)) h0 h1]
  rfl
set_option maxRecDepth 100000 in
theorem kL_cell (l : Launch) (E : gT) (σ : gS) (k : Int32) (kn : Nat) (hk : k = nI kn) (hkn : kn < 1000) : gMi l yL_cell wsL_cell ({ frames := 0, cells := 0, slots := 0, locals := 0 }) 0 0 E σ [.ref (gSb E), .int k] (cel E kn) σ := by
  subst hk
  refine g_met (mc := 0) (ms := 0) (nL := 2) (ret := (some .int)) (by decide) rfl (lv := [(0, .ref (gSb E)), (1, .int (nI kn))]) rfl (Nat.le_of_ble_eq_true rfl) ?_
  intro p e s m below meth c S hr hlocks hC
  have hl := hC.2.1.2.2.2.2.2.2.2
  refine g_iload_n S 1 dL_cell_0 rfl ?_
  refine g_aload_n S 0 dL_cell_1 rfl ?_
  refine g_slen S hC dL_cell_2 ?_
  refine g_icmp_ge S 12 dL_cell_3 (by decide) (fun c1 => ?_) (fun c1 => ?_)
  · have c2 : ¬ kn < gSl E := fun z => absurd c1 (nI_ge z (by omega))
    refine g_ldc S (v := 790386105) (by decide +kernel) dL_cell_12 ?_
    refine g_iload_n S 1 dL_cell_14 rfl ?_
    refine g_const S dL_cell_15 (v := 3) rfl ?_
    refine g_iadd S dL_cell_16 ?_
    refine g_imul S dL_cell_17 ?_
    exact g_iret S hr hlocks dL_cell_18 (by unfold cel; rw [if_neg c2]) rfl (Nat.le_of_ble_eq_true rfl) (Nat.le_of_ble_eq_true rfl)
  · have c2 : kn < gSl E := Nat.lt_of_not_le (fun z => c1 (nI_le z (by omega)))
    refine g_aload_n S 0 dL_cell_6 rfl ?_
    refine g_iload_n S 1 dL_cell_7 rfl ?_
    refine g_sld S hC kn rfl c2 dL_cell_8 ?_
    refine g_goto S 18 dL_cell_9 (by decide) ?_
    exact g_iret S hr hlocks dL_cell_18 (by unfold cel; rw [if_pos c2]) rfl (Nat.le_of_ble_eq_true rfl) (Nat.le_of_ble_eq_true rfl)
/-- what Sim tells -/
def cntF (σ : gS) : Nat → Int32 := upd (upd (upd (upd (upd (upd (upd (upd (upd (fun _ => 0) 0 (σ.1 29 0)) 1 (σ.1 30 0)) 2 (σ.1 30 1)) 3 (σ.1 31 0)) 4 (σ.1 31 1)) 5 (σ.1 29 3)) 6 (σ.1 29 4)) 7 (σ.1 29 5)) 8 (σ.1 29 6)
set_option maxRecDepth 100000 in
theorem kX8_counted (l : Launch) (E : gT) (σ : gS) (w : Nat) (hw : w < 9) : gMi l yX8_counted wsX8_counted ({ frames := 0, cells := 1, slots := 9, locals := 0 }) 1 9 E σ [.ref (E.2.2 29), .int (nI w)] (cntF σ w) σ := by
  refine g_met (mc := 1) (ms := 9) (nL := 3) (ret := (some .int)) (by decide) rfl (lv := [(0, .ref (E.2.2 29)), (1, .int (nI w))]) rfl (Nat.le_of_ble_eq_true rfl) ?_
  intro p e s m below meth c S hr hlocks hC
  have hiX8 : ∀ w ∈ wsX80, w ∈ wsX8_counted := by decide +kernel
  refine g_bipush S dX8_counted_0 (v := 9) rfl ?_
  refine g_newX S hC 9 rfl (by decide) (by decide +kernel) (Nat.le_of_ble_eq_true rfl) (Nat.le_of_ble_eq_true rfl) dX8_counted_2 (fun q => ?_)
  refine g_dup S dX8_counted_4 rfl ?_
  refine g_const S dX8_counted_5 (v := 0) rfl ?_
  refine g_aload_n S 0 dX8_counted_6 rfl ?_
  refine gg7 (E := gx E q (.inl (E.2.1 0, 9, .inl (fun _ => 0)))) S hC hiX8 0 (by decide) (by decide +kernel) dX8_counted_7 ?_
  refine g_iastX S hC 0 rfl (by decide) (by decide) dX8_counted_10 ?_
  refine g_dup S dX8_counted_11 rfl ?_
  refine g_const S dX8_counted_12 (v := 1) rfl ?_
  refine g_aload_n S 0 dX8_counted_13 rfl ?_
  refine gg7r (E := gx E q (.inl (E.2.1 0, 9, .inl (upd (fun _ => 0) 0 (σ.1 29 0))))) S hC hiX8 1 30 (by decide) (by decide +kernel) dX8_counted_14 ?_
  refine g_const S dX8_counted_17 (v := 0) rfl ?_
  refine g_iald (E := gx E q (.inl (E.2.1 0, 9, .inl (upd (fun _ => 0) 0 (σ.1 29 0))))) S hC (k := 30) (by decide) rfl 0 rfl (by decide) dX8_counted_18 ?_
  refine g_iastX S hC 1 rfl (by decide) (by decide) dX8_counted_19 ?_
  refine g_dup S dX8_counted_20 rfl ?_
  refine g_const S dX8_counted_21 (v := 2) rfl ?_
  refine g_aload_n S 0 dX8_counted_22 rfl ?_
  refine gg7r (E := gx E q (.inl (E.2.1 0, 9, .inl (upd (upd (fun _ => 0) 0 (σ.1 29 0)) 1 (σ.1 30 0))))) S hC hiX8 1 30 (by decide) (by decide +kernel) dX8_counted_23 ?_
  refine g_const S dX8_counted_26 (v := 1) rfl ?_
  refine g_iald (E := gx E q (.inl (E.2.1 0, 9, .inl (upd (upd (fun _ => 0) 0 (σ.1 29 0)) 1 (σ.1 30 0))))) S hC (k := 30) (by decide) rfl 1 rfl (by decide) dX8_counted_27 ?_
  refine g_iastX S hC 2 rfl (by decide) (by decide) dX8_counted_28 ?_
  refine g_dup S dX8_counted_29 rfl ?_
  refine g_const S dX8_counted_30 (v := 3) rfl ?_
  refine g_aload_n S 0 dX8_counted_31 rfl ?_
  refine gg7r (E := gx E q (.inl (E.2.1 0, 9, .inl (upd (upd (upd (fun _ => 0) 0 (σ.1 29 0)) 1 (σ.1 30 0)) 2 (σ.1 30 1))))) S hC hiX8 2 31 (by decide) (by decide +kernel) dX8_counted_32 ?_
  refine g_const S dX8_counted_35 (v := 0) rfl ?_
  refine g_iald (E := gx E q (.inl (E.2.1 0, 9, .inl (upd (upd (upd (fun _ => 0) 0 (σ.1 29 0)) 1 (σ.1 30 0)) 2 (σ.1 30 1))))) S hC (k := 31) (by decide) rfl 0 rfl (by decide) dX8_counted_36 ?_
  refine g_iastX S hC 3 rfl (by decide) (by decide) dX8_counted_37 ?_
  refine g_dup S dX8_counted_38 rfl ?_
  refine g_const S dX8_counted_39 (v := 4) rfl ?_
  refine g_aload_n S 0 dX8_counted_40 rfl ?_
  refine gg7r (E := gx E q (.inl (E.2.1 0, 9, .inl (upd (upd (upd (upd (fun _ => 0) 0 (σ.1 29 0)) 1 (σ.1 30 0)) 2 (σ.1 30 1)) 3 (σ.1 31 0))))) S hC hiX8 2 31 (by decide) (by decide +kernel) dX8_counted_41 ?_
  refine g_const S dX8_counted_44 (v := 1) rfl ?_
  refine g_iald (E := gx E q (.inl (E.2.1 0, 9, .inl (upd (upd (upd (upd (fun _ => 0) 0 (σ.1 29 0)) 1 (σ.1 30 0)) 2 (σ.1 30 1)) 3 (σ.1 31 0))))) S hC (k := 31) (by decide) rfl 1 rfl (by decide) dX8_counted_45 ?_
  refine g_iastX S hC 4 rfl (by decide) (by decide) dX8_counted_46 ?_
  refine g_dup S dX8_counted_47 rfl ?_
  refine g_const S dX8_counted_48 (v := 5) rfl ?_
  refine g_aload_n S 0 dX8_counted_49 rfl ?_
  refine gg7 (E := gx E q (.inl (E.2.1 0, 9, .inl (upd (upd (upd (upd (upd (fun _ => 0) 0 (σ.1 29 0)) 1 (σ.1 30 0)) 2 (σ.1 30 1)) 3 (σ.1 31 0)) 4 (σ.1 31 1))))) S hC hiX8 3 (by decide) (by decide +kernel) dX8_counted_50 ?_
  refine g_iastX S hC 5 rfl (by decide) (by decide) dX8_counted_53 ?_
  refine g_dup S dX8_counted_54 rfl ?_
  refine g_bipush S dX8_counted_55 (v := 6) rfl ?_
  refine g_aload_n S 0 dX8_counted_57 rfl ?_
  refine gg7 (E := gx E q (.inl (E.2.1 0, 9, .inl (upd (upd (upd (upd (upd (upd (fun _ => 0) 0 (σ.1 29 0)) 1 (σ.1 30 0)) 2 (σ.1 30 1)) 3 (σ.1 31 0)) 4 (σ.1 31 1)) 5 (σ.1 29 3))))) S hC hiX8 4 (by decide) (by decide +kernel) dX8_counted_58 ?_
  refine g_iastX S hC 6 rfl (by decide) (by decide) dX8_counted_61 ?_
  refine g_dup S dX8_counted_62 rfl ?_
  refine g_bipush S dX8_counted_63 (v := 7) rfl ?_
  refine g_aload_n S 0 dX8_counted_65 rfl ?_
  refine gg7 (E := gx E q (.inl (E.2.1 0, 9, .inl (upd (upd (upd (upd (upd (upd (upd (fun _ => 0) 0 (σ.1 29 0)) 1 (σ.1 30 0)) 2 (σ.1 30 1)) 3 (σ.1 31 0)) 4 (σ.1 31 1)) 5 (σ.1 29 3)) 6 (σ.1 29 4))))) S hC hiX8 5 (by decide) (by decide +kernel) dX8_counted_66 ?_
  refine g_iastX S hC 7 rfl (by decide) (by decide) dX8_counted_69 ?_
  refine g_dup S dX8_counted_70 rfl ?_
  refine g_bipush S dX8_counted_71 (v := 8) rfl ?_
  refine g_aload_n S 0 dX8_counted_73 rfl ?_
  refine gg7 (E := gx E q (.inl (E.2.1 0, 9, .inl (upd (upd (upd (upd (upd (upd (upd (upd (fun _ => 0) 0 (σ.1 29 0)) 1 (σ.1 30 0)) 2 (σ.1 30 1)) 3 (σ.1 31 0)) 4 (σ.1 31 1)) 5 (σ.1 29 3)) 6 (σ.1 29 4)) 7 (σ.1 29 5))))) S hC hiX8 6 (by decide) (by decide +kernel) dX8_counted_74 ?_
  refine g_iastX S hC 8 rfl (by decide) (by decide) dX8_counted_77 ?_
  refine g_astore_n S [(2, .ref q), (0, .ref (E.2.2 29)), (1, .int (nI w))] dX8_counted_78 (by decide) rfl ?_
  refine g_aload_n S 0 dX8_counted_79 rfl ?_
  refine g_iload_n S 2 dX8_counted_80 rfl ?_
  refine g_ialdX S hC w rfl hw (by decide) dX8_counted_81 ?_
  refine g_dropX ?_
  exact g_iret S hr hlocks dX8_counted_82 rfl rfl (Nat.le_of_ble_eq_true rfl) (Nat.le_of_ble_eq_true rfl)
section WT
variable {p : Program} {l : Launch} {e : Env} {R : Room} {s : State} {m : MethodId} {args : Array Value} {below : List Frame} {meth : Method} {c : Code} {Q : State → Prop}
variable {cc : ByteArray} {nL : Nat} {Ts : List Cond} {own : String} {E : gT} {σ σ' : gS} {cells slots pc : Nat} {lv lv' : List (Nat × Value)} {rest st0 : List Value}
/-- the new row of rows, as far as it is filled -/
def gnp (E : gT) (o i : Nat) : Nat → Option Nat := fun j => if j < i then some (E.2.2 (36 + 4 * o + j)) else none
theorem gnp_0 {o : Nat} : gnp E o 0 = fun _ => none := by
  funext j
  unfold gnp
  rw [if_neg (by omega)]
theorem gnp_s {o i : Nat} : va_up (gnp E o i) i (some (E.2.2 (36 + 4 * o + i))) = gnp E o (i + 1) := by
  funext j
  unfold gnp va_up
  by_cases c : j = i
  · subst c
    rw [if_pos rfl, if_pos (by omega)]
  · rw [if_neg c]
    dsimp only
    by_cases c2 : j < i
    · rw [if_pos c2, if_pos (by omega)]
    · rw [if_neg c2, if_neg (by omega)]
theorem gnp_l {o a : Nat} : va_up (gnp E o (gNo E o)) (gNo E o) (some a) = gnq E o a := by
  funext j
  unfold gnp gnq va_up
  by_cases c : j = gNo E o
  · subst c
    rw [if_pos rfl, if_neg (by omega), if_pos rfl]
  · rw [if_neg c]
    dsimp only
    by_cases c2 : j < gNo E o
    · rw [if_pos c2, if_pos c2]
    · rw [if_neg c2, if_neg c2, if_neg c]
/-- with's loop -/
theorem with_loop (S : CallFix p m c cL_with 4 s args wsL_with RL) (hC : gC E s) {o a L q : Nat} {f : Nat → Int32} (hn : gqR o (gNo E o)) (hx : gJ p l e R s m args below meth c Q 4 (gx (gx E a (.inl (E.2.1 0, L, .inl f))) q (.inl (E.2.1 1, gNo E o + 1, gQ (gnp E o (gNo E o))))) σ cells slots 28 [(3, .int (nI (gNo E o))), (2, .ref q), (0, .ref (E.2.2 (32 + o))), (1, .ref a)] []) :
    ∀ d i, i + d = gNo E o → gJ p l e R s m args below meth c Q 4 (gx (gx E a (.inl (E.2.1 0, L, .inl f))) q (.inl (E.2.1 1, gNo E o + 1, gQ (gnp E o i)))) σ cells slots 10 [(3, .int (nI i)), (2, .ref q), (0, .ref (E.2.2 (32 + o))), (1, .ref a)] [] := by
  have ho : o < 4 := by rcases hn with h | h | h | h <;> omega
  have hN := gNo_lt hC ho
  have hN2 := gNo_le hC ho
  intro d
  induction d with
  | zero =>
    intro i hi
    obtain rfl : i = gNo E o := by omega
    refine g_iload_n S 0 dL_with_10 rfl ?_
    refine g_aload_n S 2 dL_with_11 rfl ?_
    refine g_alenR (E := gx (gx E a (.inl (E.2.1 0, L, .inl f))) q (.inl (E.2.1 1, gNo E o + 1, gQ (gnp E o (gNo E o))))) S hC o rfl ho dL_with_12 ?_
    exact g_icmp_ge S 28 dL_with_13 (by decide) (fun _ => hx) (fun c1 => absurd (Int32.le_refl _) c1)
  | succ d ih =>
    intro i hi
    have hi2 : i < gNo E o := by omega
    have hR := gqR.of (i := i) hC ho hi2
    refine g_iload_n S 0 dL_with_10 rfl ?_
    refine g_aload_n S 2 dL_with_11 rfl ?_
    refine g_alenR (E := gx (gx E a (.inl (E.2.1 0, L, .inl f))) q (.inl (E.2.1 1, gNo E o + 1, gQ (gnp E o i)))) S hC o rfl ho dL_with_12 ?_
    refine g_icmp_ge S 28 dL_with_13 (by decide) (fun c1 => absurd c1 (nI_ge hi2 hN)) (fun _ => ?_)
    refine g_aload_n S 1 dL_with_16 rfl ?_
    refine g_iload_n S 0 dL_with_17 rfl ?_
    refine g_aload_n S 2 dL_with_18 rfl ?_
    refine g_iload_n S 0 dL_with_19 rfl ?_
    refine g_aaldR (E := gx (gx E a (.inl (E.2.1 0, L, .inl f))) q (.inl (E.2.1 1, gNo E o + 1, gQ (gnp E o i)))) S hC o rfl ho i rfl hi2 (36 + 4 * o + i) rfl dL_with_20 ?_
    refine g_astQ (E := gx E a (.inl (E.2.1 0, L, .inl f))) S hC i rfl (by omega) (by omega) (v := E.2.2 (36 + 4 * o + i)) (36 + 4 * o + i) (L := if o = 0 then 3 else 5) (fr := σ.1 (36 + 4 * o + i)) ?_ dL_with_21 ?_
    · rw [gl_at hR.lt, hR.w (E := gx E a (.inl (E.2.1 0, L, .inl f))) hi2]
      rfl
    · refine g_iinc S [(3, .int (nI (i + 1))), (2, .ref q), (0, .ref (E.2.2 (32 + o))), (1, .ref a)] 0 (nI (i + 1)) dL_with_22 rfl (by exact nI_1 i) (by decide) rfl ?_
      refine g_goto S 10 dL_with_25 (by decide) ?_
      have k := ih (i + 1) (by omega)
      rw [← gnp_s] at k
      exact k
end WT
set_option maxRecDepth 100000 in
theorem kL_with (l : Launch) (E : gT) (σ : gS) (o : Nat) (hn : gqR o (gNo E o)) (a L : Nat) (f : Nat → Int32) : ∀ sz, Met l yL_with wsL_with ({ frames := 0, cells := 1, slots := 11, locals := 0 }) (gPre (gx E a (.inl (E.2.1 0, L, .inl f))) σ sz [.ref (E.2.2 (32 + o)), .ref a]) (va_Qr (fun _ : Unit => True) (fun _ q t => gP (gx (gx E a (.inl (E.2.1 0, L, .inl f))) q (.inl (E.2.1 1, gNo E o + 1, gQ (gnq E o a)))) σ t.heap) (gA E sz)) 1 11 (gA E sz) := by
  have ho : o < 4 := by rcases hn with h | h | h | h <;> omega
  have hn10 : gNo E o < 10 := by rcases hn with h | h | h | h <;> omega
  refine g_met (E := gx E a (.inl (E.2.1 0, L, .inl f))) (mc := 1) (ms := 11) (nL := 4) (ret := some (.array (.array .int))) (Qc := fun sz => va_Qr (fun _ : Unit => True) (fun _ q t => gP (gx (gx E a (.inl (E.2.1 0, L, .inl f))) q (.inl (E.2.1 1, gNo E o + 1, gQ (gnq E o a)))) σ t.heap) (gA E sz)) (by decide) rfl (lv := [(0, .ref (E.2.2 (32 + o))), (1, .ref a)]) rfl (Nat.le_of_ble_eq_true rfl) ?_
  intro p e s m below meth c S hr hlocks hC
  have hC0 : gC E s := hC
  have hN := gNo_lt hC0 ho
  refine g_aload_n S 0 dL_with_0 rfl ?_
  refine g_alenR (E := gx E a (.inl (E.2.1 0, L, .inl f))) S hC o rfl ho dL_with_1 ?_
  refine g_const S dL_with_2 (v := 1) rfl ?_
  refine g_iadd S dL_with_3 ?_
  refine g_newQ (E := gx E a (.inl (E.2.1 0, L, .inl f))) S hC (gNo E o + 1) (nI_1 _) (by omega) (by decide +kernel) (Nat.le_of_ble_eq_true rfl) (by show 0 + (gNo E o + 1) ≤ 11; omega) dL_with_4 (fun q => ?_)
  refine g_wid (k := 1) (n := 11) (Nat.le_of_ble_eq_true rfl) (by show 0 + (gNo E o + 1) ≤ 11; omega) ?_
  refine g_astore_n S [(2, .ref q), (0, .ref (E.2.2 (32 + o))), (1, .ref a)] dL_with_7 (by decide) rfl ?_
  refine g_const S dL_with_8 (v := 0) rfl ?_
  refine g_istore_n S [(3, .int (nI 0)), (2, .ref q), (0, .ref (E.2.2 (32 + o))), (1, .ref a)] dL_with_9 (by decide) rfl ?_
  have k := with_loop (l := l) (e := e) (R := { frames := 0, cells := 1, slots := 11, locals := 0 }) (below := below) (meth := meth) (Q := MQ below (va_Qr (fun _ : Unit => True) (fun _ q t => gP (gx (gx E a (.inl (E.2.1 0, L, .inl f))) q (.inl (E.2.1 1, gNo E o + 1, gQ (gnq E o a)))) σ t.heap) (gA E s.heap.size)) [Value.ref (E.2.2 (32 + o)), .ref a].toArray s 1 11 (gA E s.heap.size)) (σ := σ) (cells := 1) (slots := 11) (a := a) (L := L) (q := q) (f := f) S hC0 hn ?_ (gNo E o) 0 (by omega)
  · rw [gnp_0] at k
    exact k
  · refine g_aload_n S 1 dL_with_28 rfl ?_
    refine g_aload_n S 2 dL_with_29 rfl ?_
    refine g_alenR (E := gx (gx E a (.inl (E.2.1 0, L, .inl f))) q (.inl (E.2.1 1, gNo E o + 1, gQ (gnp E o (gNo E o))))) S hC o rfl ho dL_with_30 ?_
    refine g_aload_n S 3 dL_with_31 rfl ?_
    refine g_astQ (E := gx E a (.inl (E.2.1 0, L, .inl f))) S hC (gNo E o) rfl (by omega) (by omega) (v := a) ((gl E σ).length) (L := L) (fr := f) (by rw [gl_gx]; exact n_at _ _) dL_with_32 ?_
    rw [gnp_l]
    refine g_aload_n S 1 dL_with_33 rfl ?_
    exact fun H locs ls hP hS hl => W.aret S.1 S.2.1 hr (Or.inr ⟨_, rfl⟩) (Or.inr ⟨_, rfl⟩) (fun t ht _ => ⟨⟨(), q, rfl, trivial, by show gP _ _ t.heap; rw [ht]; exact hP⟩, hS.F ht⟩) hS.2.2 dL_with_34
section CQ
variable {p : Program} {l : Launch} {e : Env} {R : Room} {s : State} {m : MethodId} {args : Array Value} {below : List Frame} {meth : Method} {c : Code} {Q : State → Prop}
variable {cc : ByteArray} {nL : Nat} {Ts : List Cond} {own : String} {E : gT} {σ σ' : gS} {cells slots pc : Nat} {lv lv' : List (Nat × Value)} {rest st0 : List Value} {mc ms : Nat} {a : Array Value}
/-- behind a call that answers a new cell -/
theorem g_callq {F : Nat → gT} (hF : ∀ q, gN0 (F q) = gN0 E) (hr : gRun p l e R s m args below meth c nL E σ cells slots pc lv st0 rest (fun sz => va_Qr (fun _ : Unit => True) (fun _ q t => gP (F q) σ' t.heap) (gA E sz) a) mc ms) (kk : ∀ q : Nat, gJ p l e R s m args below meth c Q nL (F q) σ' (cells + mc) (slots + ms) (pc + 3) lv (.ref q :: rest)) : gJ p l e R s m args below meth c Q nL E σ cells slots pc lv st0 := by
  intro H locs ls hP hS hl
  refine va_callr (hr H locs ls hP hS hl) hS (fun q _ h => gA_mono hS.1 q h) (gA_mono hS.1) (fun u ra t H1 locs1 ht hvm hr' hB hz hk hS1 => ?_)
  have hB : gP (F ra) σ' t.heap := hB
  rw [ht] at hB
  have eA : gA (F ra) s.heap.size = gA E s.heap.size := by unfold gA; rw [hF]
  exact kk ra H1 locs1 ls hB (by rw [eA]; exact hS1) hl
end CQ
