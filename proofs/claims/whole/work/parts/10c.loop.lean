theorem i32_gt {n L : Nat} (hn : n ≤ 4000) (hL : L ≤ 2048) : (nI L - 4 < nI n) ↔ (L < n + 4) := by
  have e1 : (nI L).toInt = (L : Int) := nI_toInt (by omega)
  have e2 : (nI n).toInt = (n : Int) := nI_toInt (by omega)
  have e3 : (nI L - 4).toInt = (L : Int) - 4 := pk_sub_toInt (b := 4) (by omega) (by omega)
  rw [Int32.lt_iff_toInt_lt, e3, e2]
  omega
theorem sw24 (v : Int32) : (∃ k : Nat, k < 24 ∧ v = nI k) ∨ (v.toInt < 0 ∨ 23 < v.toInt) := by
  by_cases h : 0 ≤ v.toInt ∧ v.toInt < (24 : Nat)
  · exact Or.inl (vp_in_of (vp_in_iff.mpr h) (by decide))
  · right
    omega
def ok_bed (I : Nat → gS → Prop) : Prop := ∀ (n : Nat) (σ : gS) (a b : Int32), n < 512 → I n σ → tOK σ 1 ∧ mOK (sL_bed_s σ a b) ∧ (sX8_bed_s (sL_bed_s σ a b) a b).1 57 0 = sL_bed_r σ a b ∧ (sL_bed_r σ a b = 0 → (sX8_bed_s (sL_bed_s σ a b) a b).2 0 = (Int32.toInt64 (sX8_bed_r (sL_bed_s σ a b) a b))) ∧ I (n + 1) (sX8_bed_s (sL_bed_s σ a b) a b)
def ok_drum (I : Nat → gS → Prop) : Prop := ∀ (n : Nat) (σ : gS) (a b : Int32), n < 512 → I n σ → tOK σ 1 ∧ mOK (sL_drum_s σ a b) ∧ (sX8_drum_s (sL_drum_s σ a b) a b).1 57 0 = sL_drum_r σ a b ∧ (sL_drum_r σ a b = 0 → (sX8_drum_s (sL_drum_s σ a b) a b).2 0 = (Int32.toInt64 (sX8_drum_r (sL_drum_s σ a b) a b))) ∧ I (n + 1) (sX8_drum_s (sL_drum_s σ a b) a b)
def ok_smuggler (I : Nat → gS → Prop) : Prop := ∀ (n : Nat) (σ : gS) (a b : Int32), n < 512 → I n σ → tOK σ 1 ∧ mOK (sL_smuggler_s σ a b) ∧ (sX8_smuggler_s (sL_smuggler_s σ a b) a b).1 57 0 = sL_smuggler_r σ a b ∧ (sL_smuggler_r σ a b = 0 → (sX8_smuggler_s (sL_smuggler_s σ a b) a b).2 0 = (Int32.toInt64 (sX8_smuggler_r (sL_smuggler_s σ a b) a b))) ∧ I (n + 1) (sX8_smuggler_s (sL_smuggler_s σ a b) a b)
def ok_card (I : Nat → gS → Prop) : Prop := ∀ (n : Nat) (σ : gS) (a b : Int32), n < 512 → I n σ → tOK σ 1 ∧ mOK (sL_card_s σ a b) ∧ (sX8_card_s (sL_card_s σ a b) a b).1 57 0 = sL_card_r σ a b ∧ (sL_card_r σ a b = 0 → (sX8_card_s (sL_card_s σ a b) a b).2 0 = (Int32.toInt64 (sX8_card_r (sL_card_s σ a b) a b))) ∧ I (n + 1) (sX8_card_s (sL_card_s σ a b) a b)
def ok_setPatrol (I : Nat → gS → Prop) : Prop := ∀ (n : Nat) (σ : gS) (a : Int32), n < 512 → I n σ → tOK σ 1 ∧ mOK (sL_setPatrol_s σ a) ∧ (sX8_setPatrol_s (sL_setPatrol_s σ a) a).1 57 0 = sL_setPatrol_r σ a ∧ (sL_setPatrol_r σ a = 0 → (sX8_setPatrol_s (sL_setPatrol_s σ a) a).2 0 = (Int32.toInt64 (sX8_setPatrol_r (sL_setPatrol_s σ a) a))) ∧ I (n + 1) (sX8_setPatrol_s (sL_setPatrol_s σ a) a)
def ok_setShare (I : Nat → gS → Prop) : Prop := ∀ (n : Nat) (σ : gS) (a : Int32), n < 512 → I n σ → tOK σ 1 ∧ mOK (sL_setShare_s σ a) ∧ (sX8_setShare_s (sL_setShare_s σ a) a).1 57 0 = sL_setShare_r σ a ∧ (sL_setShare_r σ a = 0 → (sX8_setShare_s (sL_setShare_s σ a) a).2 0 = (Int32.toInt64 (sX8_setShare_r (sL_setShare_s σ a) a))) ∧ I (n + 1) (sX8_setShare_s (sL_setShare_s σ a) a)
def ok_setHeat (I : Nat → gS → Prop) : Prop := ∀ (n : Nat) (σ : gS) (a b : Int32), n < 512 → I n σ → tOK σ 1 ∧ mOK (sL_setHeat_s σ a b) ∧ (sX8_setHeat_s (sL_setHeat_s σ a b) a b).1 57 0 = sL_setHeat_r σ a b ∧ (sL_setHeat_r σ a b = 0 → (sX8_setHeat_s (sL_setHeat_s σ a b) a b).2 0 = (Int32.toInt64 (sX8_setHeat_r (sL_setHeat_s σ a b) a b))) ∧ I (n + 1) (sX8_setHeat_s (sL_setHeat_s σ a b) a b)
def ok_dig (I : Nat → gS → Prop) : Prop := ∀ (n : Nat) (σ : gS) (a b : Int32), n < 512 → I n σ → tOK σ 1 ∧ mOK (sL_dig_s σ a b) ∧ (sX8_dig_s (sL_dig_s σ a b) a b).1 57 0 = sL_dig_r σ a b ∧ (sL_dig_r σ a b = 0 → (sX8_dig_s (sL_dig_s σ a b) a b).2 0 = (Int32.toInt64 (sX8_dig_r (sL_dig_s σ a b) a b))) ∧ I (n + 1) (sX8_dig_s (sL_dig_s σ a b) a b)
def ok_give (I : Nat → gS → Prop) : Prop := ∀ (n : Nat) (σ : gS) (a b : Int32), n < 512 → I n σ → tOK σ 1 ∧ mOK (sL_give_s σ a b) ∧ (sX8_give_s (sL_give_s σ a b) a b).1 57 0 = sL_give_r σ a b ∧ (sL_give_r σ a b = 0 → (sX8_give_s (sL_give_s σ a b) a b).2 0 = (Int32.toInt64 (sX8_give_r (sL_give_s σ a b) a b))) ∧ I (n + 1) (sX8_give_s (sL_give_s σ a b) a b)
def ok_load (I : Nat → gS → Prop) : Prop := ∀ (n : Nat) (σ : gS) (a b n3 : Int32), n < 512 → I n σ → tOK σ 1 ∧ mOK (sL_load_s σ a b n3) ∧ (sX8_load_s (sL_load_s σ a b n3) a b n3).1 57 0 = sL_load_r σ a b n3 ∧ (sL_load_r σ a b n3 = 0 → (sX8_load_s (sL_load_s σ a b n3) a b n3).2 0 = (Int32.toInt64 (sX8_load_r (sL_load_s σ a b n3) a b n3))) ∧ I (n + 1) (sX8_load_s (sL_load_s σ a b n3) a b n3)
def ok_take (I : Nat → gS → Prop) : Prop := ∀ (n : Nat) (σ : gS) (a : Int32), n < 512 → I n σ → tOK σ 1 ∧ mOK (sL_take_s σ a) ∧ (sX8_take_s (sL_take_s σ a) a).1 57 0 = sL_take_r σ a ∧ (sL_take_r σ a = 0 → (sX8_take_s (sL_take_s σ a) a).2 0 = (Int32.toInt64 (sX8_take_r (sL_take_s σ a) a))) ∧ I (n + 1) (sX8_take_s (sL_take_s σ a) a)
def ok_send (I : Nat → gS → Prop) : Prop := ∀ (n : Nat) (σ : gS) (a : Int32), n < 512 → I n σ → tOK σ 1 ∧ mOK (sL_send_s σ a) ∧ (sX8_send_s (sL_send_s σ a) a).1 57 0 = sL_send_r σ a ∧ (sL_send_r σ a = 0 → (sX8_send_s (sL_send_s σ a) a).2 0 = (Int32.toInt64 (sX8_send_r (sL_send_s σ a) a))) ∧ I (n + 1) (sX8_send_s (sL_send_s σ a) a)
def ok_about (I : Nat → gS → Prop) : Prop := ∀ (n : Nat) (σ : gS) (a b : Int32), n < 512 → I n σ → tOK σ 1 ∧ mOK (sL_about_s σ a b) ∧ (sX8_about_s (sL_about_s σ a b) a b).1 57 0 = sL_about_r σ a b ∧ (sL_about_r σ a b = 0 → (sX8_about_s (sL_about_s σ a b) a b).2 0 = (Int32.toInt64 (sX8_about_r (sL_about_s σ a b) a b))) ∧ I (n + 1) (sX8_about_s (sL_about_s σ a b) a b)
def ok_roast (I : Nat → gS → Prop) : Prop := ∀ (n : Nat) (σ : gS) (a b : Int32), n < 512 → I n σ → tOK σ 1 ∧ mOK (sL_roast_s σ a b) ∧ (sX8_roast_s (sL_roast_s σ a b) a b).1 57 0 = sL_roast_r σ a b ∧ (sL_roast_r σ a b = 0 → (sX8_roast_s (sL_roast_s σ a b) a b).2 0 = (Int32.toInt64 (sX8_roast_r (sL_roast_s σ a b) a b))) ∧ I (n + 1) (sX8_roast_s (sL_roast_s σ a b) a b)
def ok_told (I : Nat → gS → Prop) : Prop := ∀ (n : Nat) (σ : gS) (a b : Int32), n < 512 → I n σ → tOK σ 1 ∧ mOK (sL_told_s σ a b) ∧ (sX8_told_s (sL_told_s σ a b) a b).1 57 0 = sL_told_r σ a b ∧ (sL_told_r σ a b = 0 → (sX8_told_s (sL_told_s σ a b) a b).2 0 = (Int32.toInt64 (sX8_told_r (sL_told_s σ a b) a b))) ∧ I (n + 1) (sX8_told_s (sL_told_s σ a b) a b)
def ok_ration (I : Nat → gS → Prop) : Prop := ∀ (n : Nat) (σ : gS) (a b : Int32), n < 512 → I n σ → tOK σ 1 ∧ mOK (sL_ration_s σ a b) ∧ (sX8_ration_s (sL_ration_s σ a b) a b).1 57 0 = sL_ration_r σ a b ∧ (sL_ration_r σ a b = 0 → (sX8_ration_s (sL_ration_s σ a b) a b).2 0 = (Int32.toInt64 (sX8_ration_r (sL_ration_s σ a b) a b))) ∧ I (n + 1) (sX8_ration_s (sL_ration_s σ a b) a b)
def ok_count (I : Nat → gS → Prop) : Prop := ∀ (n : Nat) (σ : gS) (a : Int32), n < 512 → I n σ → tOK σ 1 ∧ mOK (sL_count_s σ a) ∧ (sX8_count_s (sL_count_s σ a) a).1 57 0 = sL_count_r σ a ∧ (sL_count_r σ a = 0 → (sX8_count_s (sL_count_s σ a) a).2 0 = (Int32.toInt64 (sX8_count_r (sL_count_s σ a) a))) ∧ I (n + 1) (sX8_count_s (sL_count_s σ a) a)
def ok_pass (I : Nat → gS → Prop) : Prop := ∀ (n : Nat) (σ : gS) (a : Int32), n < 512 → I n σ → tOK σ 1 ∧ mOK (sL_pass_s σ a) ∧ (sX8_pass_s (sL_pass_s σ a) a).1 57 0 = sL_pass_r σ a ∧ (sL_pass_r σ a = 0 → (sX8_pass_s (sL_pass_s σ a) a).2 0 = (Int32.toInt64 (sX8_pass_r (sL_pass_s σ a) a))) ∧ I (n + 1) (sX8_pass_s (sL_pass_s σ a) a)
def ok_foresee (I : Nat → gS → Prop) : Prop := ∀ (n : Nat) (σ : gS) (a b : Int32), n < 512 → I n σ → tOK σ 1 ∧ mOK (sL_foresee_s σ a b) ∧ (sX8_foresee_s (sL_foresee_s σ a b) a b).1 57 0 = sL_foresee_r σ a b ∧ (sL_foresee_r σ a b = 0 → (sX8_foresee_s (sL_foresee_s σ a b) a b).2 0 = (Int32.toInt64 (sX8_foresee_r (sL_foresee_s σ a b) a b))) ∧ I (n + 1) (sX8_foresee_s (sL_foresee_s σ a b) a b)
def ok_ready (I : Nat → gS → Prop) : Prop := ∀ (n : Nat) (σ : gS) (a : Int32), n < 512 → I n σ → tOK σ 1 ∧ mOK (sL_ready_s σ a) ∧ (sX8_ready_s (sL_ready_s σ a) a).1 57 0 = sL_ready_r σ a ∧ (sL_ready_r σ a = 0 → (sX8_ready_s (sL_ready_s σ a) a).2 0 = (Int32.toInt64 (sX8_ready_r (sL_ready_s σ a) a))) ∧ I (n + 1) (sX8_ready_s (sL_ready_s σ a) a)
def ok_caught (I : Nat → gS → Prop) : Prop := ∀ (n : Nat) (σ : gS) (a b : Int32), n < 512 → I n σ → tOK σ 1 ∧ mOK (sL_caught_s σ a b) ∧ (sX8_caught_s (sL_caught_s σ a b) a b).1 57 0 = sL_caught_r σ a b ∧ (sL_caught_r σ a b = 0 → (sX8_caught_s (sL_caught_s σ a b) a b).2 0 = (if (sX8_caught_r (sL_caught_s σ a b) a b) = 0 then (0 : Int64) else 1)) ∧ I (n + 1) (sX8_caught_s (sL_caught_s σ a b) a b)
def ok_advise (I : Nat → gS → Prop) : Prop := ∀ (n : Nat) (σ : gS) (a : Int32), n < 512 → I n σ → tOK σ 1 ∧ mOK (sL_advise_s σ a) ∧ (sX8_advise_s (sL_advise_s σ a) a).1 57 0 = sL_advise_r σ a ∧ (sL_advise_r σ a = 0 → (sX8_advise_s (sL_advise_s σ a) a).2 0 = (Int32.toInt64 (sX8_advise_r (sL_advise_s σ a) a))) ∧ I (n + 1) (sX8_advise_s (sL_advise_s σ a) a)
def ok_mean (I : Nat → gS → Prop) : Prop := ∀ (n : Nat) (σ : gS), n < 512 → I n σ → mOK σ ∧ sX7_mean_r σ = sX8_mean_r σ ∧ I (n + 1) (sX8_mean_s σ)
def ok_digest (I : Nat → gS → Prop) : Prop := ∀ (n : Nat) (σ : gS), n < 512 → I n σ → tOK σ 1 ∧ mOK σ ∧ sX7_digest_r σ = sX8_digest_r σ ∧ I (n + 1) (sX8_digest_s σ)
def ok_none (I : Nat → gS → Prop) : Prop := ∀ (n : Nat) (σ : gS), n < 512 → I n σ → I (n + 1) σ
def ok_all (I : Nat → gS → Prop) : Prop := ok_bed I ∧ ok_drum I ∧ ok_smuggler I ∧ ok_card I ∧ ok_setPatrol I ∧ ok_setShare I ∧ ok_setHeat I ∧ ok_dig I ∧ ok_give I ∧ ok_load I ∧ ok_take I ∧ ok_send I ∧ ok_about I ∧ ok_roast I ∧ ok_told I ∧ ok_ration I ∧ ok_count I ∧ ok_pass I ∧ ok_foresee I ∧ ok_ready I ∧ ok_caught I ∧ ok_advise I ∧ ok_mean I ∧ ok_digest I ∧ ok_none I
section GLL
variable {p : Program} {l : Launch} {e : Env} {s : State} {m : MethodId} {below : List Frame} {meth : Method} {c : Code} {b L : Nat} {xs : Nat → Int32} {E : gT} {σ : gS} {d0 : Drawn} {cells slots j : Nat}
set_option maxRecDepth 100000 in
theorem law_inc {n : Nat} (C : gLC p l s m meth c b L xs E) (k : gLJ p l e s m below meth c b d0 E σ cells slots 23 (lvL E b (4 * (n + 1))) []) : gLJ p l e s m below meth c b d0 E σ cells slots 1622 (lvL E b (4 * n)) [] := by
  unfold gLJ at k ⊢
  unfold lvL at k ⊢
  have S := gS_dr C.1 d0
  refine g_iinc S [(4, .int (nI (4 * (n + 1)))), (3, .ref (E.2.2 64)), (2, .ref (E.2.2 57)), (1, .ref (E.2.2 0)), (0, .ref b)] 0 (nI (4 * (n + 1))) dL_law_1622 rfl (nI_add (4 * n) 4) (by decide) rfl ?_
  refine g_goto S 23 dL_law_1625 (by decide) ?_
  exact k
set_option maxRecDepth 100000 in
set_option maxHeartbeats 4000000 in
theorem law_loop (C : gLC p l s m meth c b L xs E) {I : Nat → gS → Prop} (hI : ok_all I) : ∀ (f n : Nat) (d0 : Drawn) (σ : gS) (cells slots : Nat), L ≤ 4 * (n + f) + 3 → 4 * n ≤ L → s.drawn.sameBut d0 lw_cs → I n σ → cells ≤ 1000 + 5 * n → slots ≤ 10000 + 30 * n →
    gLJ p l e s m below meth c b d0 E σ cells slots 23 (lvL E b (4 * n)) [] := by
  obtain ⟨i_bed, i_drum, i_smuggler, i_card, i_setPatrol, i_setShare, i_setHeat, i_dig, i_give, i_load, i_take, i_send, i_about, i_roast, i_told, i_ration, i_count, i_pass, i_foresee, i_ready, i_caught, i_advise, i_mean, i_digest, i_none⟩ := hI
  have hL := C.2.2.2.2.2.2.2.2
  intro f
  induction f with
  | zero =>
    intro n d0 σ cells slots h1 h2 hd0 hi hc hs
    unfold gLJ
    unfold lvL
    have S := gS_dr C.1 d0
    refine g_iload S 0 dL_law_23 rfl ?_
    refine g_aload_n S 4 dL_law_25 rfl ?_
    refine g_slen C S dL_law_26 ?_
    refine g_const S dL_law_27 (v := 4) rfl ?_
    refine g_isub S dL_law_28 ?_
    refine g_icmp_gt S 1628 dL_law_29 (by decide) (fun c1 => ?_) (fun c1 => absurd ((i32_gt (by omega) hL).mpr (by omega)) c1)
    refine g_const S dL_law_1628 (v := 1) rfl ?_
    exact gL_ret C hd0 (by omega) (by omega) dL_law_1629
  | succ f ih =>
    intro n d0 σ cells slots h1 h2 hd0 hi hc hs
    by_cases hend : L < 4 * n + 4
    · unfold gLJ
      unfold lvL
      have S := gS_dr C.1 d0
      refine g_iload S 0 dL_law_23 rfl ?_
      refine g_aload_n S 4 dL_law_25 rfl ?_
      refine g_slen C S dL_law_26 ?_
      refine g_const S dL_law_27 (v := 4) rfl ?_
      refine g_isub S dL_law_28 ?_
      refine g_icmp_gt S 1628 dL_law_29 (by decide) (fun c1 => ?_) (fun c1 => absurd ((i32_gt (by omega) hL).mpr hend) c1)
      refine g_const S dL_law_1628 (v := 1) rfl ?_
      exact gL_ret C hd0 (by omega) (by omega) dL_law_1629
    have hn : n < 512 := by omega
    have hj : 4 * n + 3 < L := by omega
    have go : ∀ (d1 : Drawn) (σ1 : gS) (k1 s1 : Nat), s.drawn.sameBut d1 lw_cs → I (n + 1) σ1 → k1 ≤ cells + 5 → s1 ≤ slots + 30 → gLJ p l e s m below meth c b d1 E σ1 k1 s1 1622 (lvL E b (4 * n)) [] :=
      fun d1 σ1 k1 s1 q1 q2 q3 q4 => law_inc C (ih (n + 1) d1 σ1 k1 s1 (by omega) (by omega) q1 q2 (by omega) (by omega))
    suffices K : ∀ v : Int32, v = xs (4 * n) &&& 31 → gLJ p l e s m below meth c b d0 E σ cells slots 39 (lvL E b (4 * n)) [.int v] by
      have K := K _ rfl
      unfold gLJ at K ⊢
      unfold lvL at K ⊢
      have S := gS_dr C.1 d0
      refine g_iload S 0 dL_law_23 rfl ?_
      refine g_aload_n S 4 dL_law_25 rfl ?_
      refine g_slen C S dL_law_26 ?_
      refine g_const S dL_law_27 (v := 4) rfl ?_
      refine g_isub S dL_law_28 ?_
      refine g_icmp_gt S 1628 dL_law_29 (by decide) (fun c1 => absurd ((i32_gt (by omega) hL).mp c1) hend) (fun c1 => ?_)
      refine g_aload_n S 4 dL_law_32 rfl ?_
      refine g_iload S 0 dL_law_33 rfl ?_
      refine g_sld C S (q := 4 * n) rfl (by omega) dL_law_35 ?_
      refine g_bipush S dL_law_36 (v := 31) rfl ?_
      refine g_iand S dL_law_38 ?_
      exact K
    intro v _
    have S := gS_dr C.1 d0
    rcases sw24 v with ⟨k, hk, rfl⟩ | ho
    · rcases (show k = 0 ∨ k = 1 ∨ k = 2 ∨ k = 3 ∨ k = 4 ∨ k = 5 ∨ k = 6 ∨ k = 7 ∨ k = 8 ∨ k = 9 ∨ k = 10 ∨ k = 11 ∨ k = 12 ∨ k = 13 ∨ k = 14 ∨ k = 15 ∨ k = 16 ∨ k = 17 ∨ k = 18 ∨ k = 19 ∨ k = 20 ∨ k = 21 ∨ k = 22 ∨ k = 23 by omega) with rfl | rfl | rfl | rfl | rfl | rfl | rfl | rfl | rfl | rfl | rfl | rfl | rfl | rfl | rfl | rfl | rfl | rfl | rfl | rfl | rfl | rfl | rfl | rfl
      · refine g_tabIn S 148 dL_law_39 (by decide) (by decide) rfl (by decide) ?_
        obtain ⟨q1, q2, q3, q4, q5⟩ := i_bed n σ (xs (4 * n + 1)) (xs (4 * n + 2)) hn hi
        exact law_bed C hj (by omega) (by omega) q1 q2 q3 q4 (go d0 _ _ _ hd0 q5 (by omega) (by omega))
      · refine g_tabIn S 216 dL_law_39 (by decide) (by decide) rfl (by decide) ?_
        obtain ⟨q1, q2, q3, q4, q5⟩ := i_drum n σ (xs (4 * n + 1)) (xs (4 * n + 2)) hn hi
        exact law_drum C hj (by omega) (by omega) q1 q2 q3 q4 (go d0 _ _ _ hd0 q5 (by omega) (by omega))
      · refine g_tabIn S 284 dL_law_39 (by decide) (by decide) rfl (by decide) ?_
        obtain ⟨q1, q2, q3, q4, q5⟩ := i_smuggler n σ (xs (4 * n + 1)) (xs (4 * n + 2)) hn hi
        exact law_smuggler C hj (by omega) (by omega) q1 q2 q3 q4 (go d0 _ _ _ hd0 q5 (by omega) (by omega))
      · refine g_tabIn S 352 dL_law_39 (by decide) (by decide) rfl (by decide) ?_
        obtain ⟨q1, q2, q3, q4, q5⟩ := i_card n σ (xs (4 * n + 1)) (xs (4 * n + 2)) hn hi
        exact law_card C hj (by omega) (by omega) q1 q2 q3 q4 (go d0 _ _ _ hd0 q5 (by omega) (by omega))
      · refine g_tabIn S 420 dL_law_39 (by decide) (by decide) rfl (by decide) ?_
        obtain ⟨q1, q2, q3, q4, q5⟩ := i_setPatrol n σ (xs (4 * n + 1)) hn hi
        exact law_setPatrol C hj (by omega) (by omega) q3 q4 (go d0 _ _ _ hd0 q5 (by omega) (by omega))
      · refine g_tabIn S 476 dL_law_39 (by decide) (by decide) rfl (by decide) ?_
        obtain ⟨q1, q2, q3, q4, q5⟩ := i_setShare n σ (xs (4 * n + 1)) hn hi
        exact law_setShare C hj (by omega) (by omega) q3 q4 (go d0 _ _ _ hd0 q5 (by omega) (by omega))
      · refine g_tabIn S 532 dL_law_39 (by decide) (by decide) rfl (by decide) ?_
        obtain ⟨q1, q2, q3, q4, q5⟩ := i_setHeat n σ (xs (4 * n + 1)) (xs (4 * n + 2)) hn hi
        exact law_setHeat C hj (by omega) (by omega) q1 q2 q3 q4 (go d0 _ _ _ hd0 q5 (by omega) (by omega))
      · refine g_tabIn S 600 dL_law_39 (by decide) (by decide) rfl (by decide) ?_
        obtain ⟨q1, q2, q3, q4, q5⟩ := i_dig n σ (xs (4 * n + 1)) (xs (4 * n + 2)) hn hi
        exact law_dig C hj (by omega) (by omega) q1 q2 q3 q4 (go d0 _ _ _ hd0 q5 (by omega) (by omega))
      · refine g_tabIn S 668 dL_law_39 (by decide) (by decide) rfl (by decide) ?_
        obtain ⟨q1, q2, q3, q4, q5⟩ := i_give n σ (xs (4 * n + 1)) (xs (4 * n + 2)) hn hi
        exact law_give C hj (by omega) (by omega) q3 q4 (go d0 _ _ _ hd0 q5 (by omega) (by omega))
      · refine g_tabIn S 736 dL_law_39 (by decide) (by decide) rfl (by decide) ?_
        obtain ⟨q1, q2, q3, q4, q5⟩ := i_load n σ (xs (4 * n + 1)) (xs (4 * n + 2)) (xs (4 * n + 3)) hn hi
        exact law_load C hj (by omega) (by omega) q1 q2 q3 q4 (go d0 _ _ _ hd0 q5 (by omega) (by omega))
      · refine g_tabIn S 816 dL_law_39 (by decide) (by decide) rfl (by decide) ?_
        obtain ⟨q1, q2, q3, q4, q5⟩ := i_take n σ (xs (4 * n + 1)) hn hi
        exact law_take C hj (by omega) (by omega) q1 q2 q3 q4 (go d0 _ _ _ hd0 q5 (by omega) (by omega))
      · refine g_tabIn S 872 dL_law_39 (by decide) (by decide) rfl (by decide) ?_
        obtain ⟨q1, q2, q3, q4, q5⟩ := i_send n σ (xs (4 * n + 1)) hn hi
        exact law_send C hj (by omega) (by omega) q1 q2 q3 q4 (go d0 _ _ _ hd0 q5 (by omega) (by omega))
      · refine g_tabIn S 928 dL_law_39 (by decide) (by decide) rfl (by decide) ?_
        obtain ⟨q1, q2, q3, q4, q5⟩ := i_about n σ (xs (4 * n + 1)) (xs (4 * n + 2)) hn hi
        exact law_about C hj (by omega) (by omega) q1 q2 q3 q4 (go d0 _ _ _ hd0 q5 (by omega) (by omega))
      · refine g_tabIn S 996 dL_law_39 (by decide) (by decide) rfl (by decide) ?_
        obtain ⟨q1, q2, q3, q4, q5⟩ := i_roast n σ (xs (4 * n + 1)) (xs (4 * n + 2)) hn hi
        exact law_roast C hj (by omega) (by omega) q1 q2 q3 q4 (go d0 _ _ _ hd0 q5 (by omega) (by omega))
      · refine g_tabIn S 1064 dL_law_39 (by decide) (by decide) rfl (by decide) ?_
        obtain ⟨q1, q2, q3, q4, q5⟩ := i_told n σ (xs (4 * n + 1)) (xs (4 * n + 2)) hn hi
        exact law_told C hj (by omega) (by omega) q1 q2 q3 q4 (go d0 _ _ _ hd0 q5 (by omega) (by omega))
      · refine g_tabIn S 1132 dL_law_39 (by decide) (by decide) rfl (by decide) ?_
        obtain ⟨q1, q2, q3, q4, q5⟩ := i_ration n σ (xs (4 * n + 1)) (xs (4 * n + 2)) hn hi
        exact law_ration C hj (by omega) (by omega) q1 q2 q3 q4 (go d0 _ _ _ hd0 q5 (by omega) (by omega))
      · refine g_tabIn S 1200 dL_law_39 (by decide) (by decide) rfl (by decide) ?_
        obtain ⟨q1, q2, q3, q4, q5⟩ := i_count n σ (xs (4 * n + 1)) hn hi
        exact law_count C hj (by omega) (by omega) q3 q4 (go d0 _ _ _ hd0 q5 (by omega) (by omega))
      · refine g_tabIn S 1256 dL_law_39 (by decide) (by decide) rfl (by decide) ?_
        obtain ⟨q1, q2, q3, q4, q5⟩ := i_pass n σ (xs (4 * n + 1)) hn hi
        exact law_pass C hj (by omega) (by omega) q1 q2 q3 q4 (go d0 _ _ _ hd0 q5 (by omega) (by omega))
      · refine g_tabIn S 1312 dL_law_39 (by decide) (by decide) rfl (by decide) ?_
        obtain ⟨q1, q2, q3, q4, q5⟩ := i_foresee n σ (xs (4 * n + 1)) (xs (4 * n + 2)) hn hi
        exact law_foresee C hj (by omega) (by omega) q1 q2 q3 q4 (go d0 _ _ _ hd0 q5 (by omega) (by omega))
      · refine g_tabIn S 1380 dL_law_39 (by decide) (by decide) rfl (by decide) ?_
        obtain ⟨q1, q2, q3, q4, q5⟩ := i_ready n σ (xs (4 * n + 1)) hn hi
        exact law_ready C hj (by omega) (by omega) q1 q2 q3 q4 (go d0 _ _ _ hd0 q5 (by omega) (by omega))
      · refine g_tabIn S 1436 dL_law_39 (by decide) (by decide) rfl (by decide) ?_
        obtain ⟨q1, q2, q3, q4, q5⟩ := i_caught n σ (xs (4 * n + 1)) (xs (4 * n + 2)) hn hi
        exact law_caught C hj (by omega) (by omega) q1 q2 q3 q4 (go d0 _ _ _ hd0 q5 (by omega) (by omega))
      · refine g_tabIn S 1511 dL_law_39 (by decide) (by decide) rfl (by decide) ?_
        obtain ⟨q1, q2, q3, q4, q5⟩ := i_advise n σ (xs (4 * n + 1)) hn hi
        exact law_advise C hj (by omega) (by omega) q1 q2 q3 q4 (go d0 _ _ _ hd0 q5 (by omega) (by omega))
      · refine g_tabIn S 1567 dL_law_39 (by decide) (by decide) rfl (by decide) ?_
        obtain ⟨q1, q2, q3⟩ := i_mean n σ hn hi
        exact law_mean C hd0 (by omega) (by omega) q1 q2 (fun d1 hd1 => go d1 _ _ _ hd1 q3 (by omega) (by omega))
      · refine g_tabIn S 1608 dL_law_39 (by decide) (by decide) rfl (by decide) ?_
        obtain ⟨q0, q1, q2, q3⟩ := i_digest n σ hn hi
        exact law_digest C (by omega) (by omega) q0 q1 q2 (go d0 _ _ _ hd0 q3 (by omega) (by omega))
    · refine g_tabOut S 1622 dL_law_39 ho (by decide) ?_
      exact go d0 _ _ _ hd0 (i_none n σ hn hi) (by omega) (by omega)
end GLL
