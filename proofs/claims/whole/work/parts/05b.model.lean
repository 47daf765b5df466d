def sX8_thrown_r (σ : gS) : Int32 := σ.1 57 0
set_option maxRecDepth 100000 in
set_option maxHeartbeats 4000000 in
theorem kX8_thrown (l : Launch) (E : gT) (σ : gS) : gMi l yX8_thrown wsX8_thrown ({ frames := 0, cells := 0, slots := 0, locals := 0 }) 0 0 E σ [.ref (E.2.2 57)] (sX8_thrown_r σ) σ := by
  refine g_met (mc := 0) (ms := 0) (nL := 1) (ret := (some .int)) (by decide) rfl (lv := [(0, .ref (E.2.2 57))]) rfl (Nat.le_of_ble_eq_true rfl) ?_
  intro p e s m below meth c S hr hlocks hC
  have hiX8 : ∀ w ∈ wsX80, w ∈ wsX8_thrown := by decide +kernel
  refine g_aload_n S 0 dX8_thrown_0 rfl ?_
  refine gg7 S hC hiX8 (by decide) rfl 0 (by decide) (by decide +kernel) dX8_thrown_1 ?_
  exact g_iret S hr hlocks dX8_thrown_4 rfl rfl (Nat.le_of_ble_eq_true rfl) (Nat.le_of_ble_eq_true rfl)
def sX8_fail_r (σ : gS) (a : Int32) : Int32 := (0 : Int32)
def sX8_fail_s (σ : gS) (a : Int32) : gS := let S1 := gu σ 57 0 a; S1
theorem fX8_fail (σ : gS) (a : Int32) (x : Nat) (hx57 : x ≠ 57) : (sX8_fail_s σ a).1 x = σ.1 x := by
  unfold sX8_fail_s
  (try dsimp only)
  (repeat' split)
  all_goals (simp [gu_ne, gcp, *])
set_option maxRecDepth 100000 in
set_option maxHeartbeats 4000000 in
theorem kX8_fail (l : Launch) (E : gT) (σ : gS) (a : Int32) : gMi l yX8_fail wsX8_fail ({ frames := 0, cells := 0, slots := 0, locals := 0 }) 0 0 E σ [.ref (E.2.2 57), .int a] (sX8_fail_r σ a) (sX8_fail_s σ a) := by
  refine g_met (mc := 0) (ms := 0) (nL := 2) (ret := (some .int)) (by decide) rfl (lv := [(0, .ref (E.2.2 57)), (1, .int a)]) rfl (Nat.le_of_ble_eq_true rfl) ?_
  intro p e s m below meth c S hr hlocks hC
  have hiX8 : ∀ w ∈ wsX80, w ∈ wsX8_fail := by decide +kernel
  refine g_aload_n S 0 dX8_fail_0 rfl ?_
  refine g_iload_n S 1 dX8_fail_1 rfl ?_
  refine gp7 S hC hiX8 (by decide) rfl 0 (by decide) (by decide +kernel) dX8_fail_2 ?_
  refine g_nm (fun S1 hS1 => ?_)
  refine g_const S dX8_fail_5 (v := 0) rfl ?_
  exact g_iret S hr hlocks dX8_fail_6 (by subst hS1; rfl) (by subst hS1; rfl) (Nat.le_of_ble_eq_true rfl) (Nat.le_of_ble_eq_true rfl)
def sX8_isIn_r (σ : gS) (a : Int32) (b : Int32) (n : Int32) : Int32 := if a < b then ((0 : Int32)) else (if n < a then ((0 : Int32)) else ((1 : Int32)))
theorem bX8_isIn (σ : gS) (a : Int32) (b : Int32) (n : Int32) : sX8_isIn_r σ a b n = 0 ∨ sX8_isIn_r σ a b n = 1 := by
  unfold sX8_isIn_r
  repeat' split
  all_goals first | exact Or.inl rfl | exact Or.inr rfl
set_option maxRecDepth 100000 in
set_option maxHeartbeats 4000000 in
theorem kX8_isIn (l : Launch) (E : gT) (σ : gS) (a : Int32) (b : Int32) (n : Int32) : gMi l yX8_isIn wsX8_isIn ({ frames := 0, cells := 0, slots := 0, locals := 0 }) 0 0 E σ [.int a, .int b, .int n] (sX8_isIn_r σ a b n) σ := by
  refine g_met (mc := 0) (ms := 0) (nL := 3) (ret := (some .boolean)) (by decide) rfl (lv := [(0, .int a), (1, .int b), (2, .int n)]) rfl (Nat.le_of_ble_eq_true rfl) ?_
  intro p e s m below meth c S hr hlocks hC
  refine g_iload_n S 0 dX8_isIn_0 rfl ?_
  refine g_iload_n S 1 dX8_isIn_1 rfl ?_
  refine g_icmp_lt S 14 dX8_isIn_2 (by decide) (fun c_1 => ?_) (fun c_1 => ?_)
  · skip
    refine g_const S dX8_isIn_14 (v := 0) rfl ?_
    exact g_zret S hr hlocks dX8_isIn_15 rfl (by rw [sX8_isIn_r, if_pos c_1]) rfl (Nat.le_of_ble_eq_true rfl) (Nat.le_of_ble_eq_true rfl)
  · skip
    refine g_iload_n S 0 dX8_isIn_5 rfl ?_
    refine g_iload_n S 2 dX8_isIn_6 rfl ?_
    refine g_icmp_gt S 14 dX8_isIn_7 (by decide) (fun c_2 => ?_) (fun c_2 => ?_)
    · skip
      refine g_const S dX8_isIn_14 (v := 0) rfl ?_
      exact g_zret S hr hlocks dX8_isIn_15 rfl (by rw [sX8_isIn_r, if_neg c_1, if_pos c_2]) rfl (Nat.le_of_ble_eq_true rfl) (Nat.le_of_ble_eq_true rfl)
    · skip
      refine g_const S dX8_isIn_10 (v := 1) rfl ?_
      refine g_goto S 15 dX8_isIn_11 (by decide) ?_
      exact g_zret S hr hlocks dX8_isIn_15 rfl (by rw [sX8_isIn_r, if_neg c_1, if_neg c_2]) rfl (Nat.le_of_ble_eq_true rfl) (Nat.le_of_ble_eq_true rfl)
def sX8_isDrum_r (σ : gS) (a : Int32) : Int32 := sX8_isIn_r σ a (0 : Int32) ((σ.1 57 2) - (1 : Int32))
theorem bX8_isDrum (σ : gS) (a : Int32) : sX8_isDrum_r σ a = 0 ∨ sX8_isDrum_r σ a = 1 := by
  unfold sX8_isDrum_r
  repeat' split
  all_goals first | exact Or.inl rfl | exact Or.inr rfl | (exact bX8_isIn _ _ _ _)
set_option maxRecDepth 100000 in
set_option maxHeartbeats 4000000 in
theorem kX8_isDrum (l : Launch) (E : gT) (σ : gS) (a : Int32) : gMi l yX8_isDrum wsX8_isDrum ({ frames := 1, cells := 0, slots := 0, locals := 22 }) 0 0 E σ [.ref (E.2.2 57), .int a] (sX8_isDrum_r σ a) σ := by
  refine g_met (mc := 0) (ms := 0) (nL := 2) (ret := (some .boolean)) (by decide) rfl (lv := [(0, .ref (E.2.2 57)), (1, .int a)]) rfl (Nat.le_of_ble_eq_true rfl) ?_
  intro p e s m below meth c S hr hlocks hC
  have hiX8 : ∀ w ∈ wsX80, w ∈ wsX8_isDrum := by decide +kernel
  refine g_iload_n S 1 dX8_isDrum_0 rfl ?_
  refine g_const S dX8_isDrum_1 (v := 0) rfl ?_
  refine g_aload_n S 0 dX8_isDrum_2 rfl ?_
  refine gg7 S hC hiX8 (by decide) rfl 2 (by decide) (by decide +kernel) dX8_isDrum_3 ?_
  refine g_const S dX8_isDrum_6 (v := 1) rfl ?_
  refine g_isub S dX8_isDrum_7 ?_
  refine g_calli (g_runS S hC (As := [.int a, .int (0 : Int32), .int ((σ.1 57 2) - (1 : Int32))]) (rest := []) (kX8_isIn l E σ a (0 : Int32) ((σ.1 57 2) - (1 : Int32))) (va_cwS 3 S.2.2.2.2 gX8_isDrum_X8_isIn rfl rfl rfl (by decide +kernel) ⟨Nat.le_of_ble_eq_true rfl, Nat.le_of_ble_eq_true rfl⟩) rfl rfl (Nat.le_of_ble_eq_true rfl) dX8_isDrum_8 ⟨Nat.le_of_ble_eq_true rfl, Nat.le_of_ble_eq_true rfl⟩) ?_
  exact g_zret S hr hlocks dX8_isDrum_11 (g_nb (bX8_isIn σ a (0 : Int32) ((σ.1 57 2) - (1 : Int32)))) rfl rfl (Nat.le_of_ble_eq_true rfl) (Nat.le_of_ble_eq_true rfl)
def sX8_isSmuggler_r (σ : gS) (a : Int32) : Int32 := sX8_isIn_r σ a (0 : Int32) ((σ.1 57 3) - (1 : Int32))
theorem bX8_isSmuggler (σ : gS) (a : Int32) : sX8_isSmuggler_r σ a = 0 ∨ sX8_isSmuggler_r σ a = 1 := by
  unfold sX8_isSmuggler_r
  repeat' split
  all_goals first | exact Or.inl rfl | exact Or.inr rfl | (exact bX8_isIn _ _ _ _)
set_option maxRecDepth 100000 in
set_option maxHeartbeats 4000000 in
theorem kX8_isSmuggler (l : Launch) (E : gT) (σ : gS) (a : Int32) : gMi l yX8_isSmuggler wsX8_isSmuggler ({ frames := 1, cells := 0, slots := 0, locals := 22 }) 0 0 E σ [.ref (E.2.2 57), .int a] (sX8_isSmuggler_r σ a) σ := by
  refine g_met (mc := 0) (ms := 0) (nL := 2) (ret := (some .boolean)) (by decide) rfl (lv := [(0, .ref (E.2.2 57)), (1, .int a)]) rfl (Nat.le_of_ble_eq_true rfl) ?_
  intro p e s m below meth c S hr hlocks hC
  have hiX8 : ∀ w ∈ wsX80, w ∈ wsX8_isSmuggler := by decide +kernel
  refine g_iload_n S 1 dX8_isSmuggler_0 rfl ?_
  refine g_const S dX8_isSmuggler_1 (v := 0) rfl ?_
  refine g_aload_n S 0 dX8_isSmuggler_2 rfl ?_
  refine gg7 S hC hiX8 (by decide) rfl 3 (by decide) (by decide +kernel) dX8_isSmuggler_3 ?_
  refine g_const S dX8_isSmuggler_6 (v := 1) rfl ?_
  refine g_isub S dX8_isSmuggler_7 ?_
  refine g_calli (g_runS S hC (As := [.int a, .int (0 : Int32), .int ((σ.1 57 3) - (1 : Int32))]) (rest := []) (kX8_isIn l E σ a (0 : Int32) ((σ.1 57 3) - (1 : Int32))) (va_cwS 3 S.2.2.2.2 gX8_isSmuggler_X8_isIn rfl rfl rfl (by decide +kernel) ⟨Nat.le_of_ble_eq_true rfl, Nat.le_of_ble_eq_true rfl⟩) rfl rfl (Nat.le_of_ble_eq_true rfl) dX8_isSmuggler_8 ⟨Nat.le_of_ble_eq_true rfl, Nat.le_of_ble_eq_true rfl⟩) ?_
  exact g_zret S hr hlocks dX8_isSmuggler_11 (g_nb (bX8_isIn σ a (0 : Int32) ((σ.1 57 3) - (1 : Int32)))) rfl rfl (Nat.le_of_ble_eq_true rfl) (Nat.le_of_ble_eq_true rfl)
theorem md_ix {σ : gS} {x N : Int32} (n : Nat) (hN : N = nI n) (hn : n ≤ 10) (h : ¬ sX8_isIn_r σ x 0 (N - 1) = 0) : x.toNatClampNeg < n ∧ x = nI x.toNatClampNeg := by
  unfold sX8_isIn_r at h
  subst hN
  have ec : (nI n - 1).toInt = (n : Int) - 1 := pk_sub_toInt (a := n) (b := 1) (by omega) (by omega)
  by_cases h1 : x < 0
  · rw [if_pos h1] at h; exact absurd rfl h
  · rw [if_neg h1] at h
    by_cases h2 : nI n - 1 < x
    · rw [if_pos h2] at h; exact absurd rfl h
    · have e1 := Int32.not_lt.mp h1
      have e2 := Int32.not_lt.mp h2
      rw [Int32.le_iff_toInt_le, Int32.toInt_zero] at e1
      rw [Int32.le_iff_toInt_le, ec] at e2
      have e3 : x.toNatClampNeg = x.toInt.toNat := rfl
      have e4 : x = nI x.toInt.toNat := by
        apply Int32.toInt_inj.mp
        rw [nI_toInt (by omega)]
        omega
      rw [e3]
      exact ⟨by omega, e4⟩
theorem mi_nm {σ : gS} {x : Int32} {lo hi : Nat} (hh : hi < 2 ^ 31) (hl : lo ≤ hi) (h : ¬ sX8_isIn_r σ x (nI lo) (nI hi) = 0) : (lo ≤ x.toNatClampNeg ∧ x.toNatClampNeg ≤ hi) ∧ x = nI x.toNatClampNeg := by
  unfold sX8_isIn_r at h
  by_cases h1 : x < nI lo
  · rw [if_pos h1] at h; exact absurd rfl h
  · rw [if_neg h1] at h
    by_cases h2 : nI hi < x
    · rw [if_pos h2] at h; exact absurd rfl h
    · exact in_nm hh hl h1 (Int32.not_lt.mp h2)
theorem md_dr {σ : gS} {x : Int32} (n : Nat) (hN : σ.1 57 2 = nI n) (hn : n ≤ 10) (h : ¬ sX8_isDrum_r σ x = 0) : x.toNatClampNeg < n ∧ x = nI x.toNatClampNeg := md_ix n hN hn h
theorem md_sm {σ : gS} {x : Int32} (n : Nat) (hN : σ.1 57 3 = nI n) (hn : n ≤ 10) (h : ¬ sX8_isSmuggler_r σ x = 0) : x.toNatClampNeg < n ∧ x = nI x.toNatClampNeg := md_ix n hN hn h
def sX8_keep_s (σ : gS) : gS := let S1 := gcp σ 62 63 72; S1
theorem fX8_keep (σ : gS) (x : Nat) (hx63 : x ≠ 63) : (sX8_keep_s σ).1 x = σ.1 x := by
  unfold sX8_keep_s
  (try dsimp only)
  (repeat' split)
  all_goals (simp [gu_ne, gcp, *])
set_option maxRecDepth 100000 in
set_option maxHeartbeats 4000000 in
theorem kX8_keep (l : Launch) (E : gT) (σ : gS) : gMv l yX8_keep wsX8_keep ({ frames := 1, cells := 0, slots := 0, locals := 60 }) 0 0 E σ [.ref (E.2.2 57)] (sX8_keep_s σ) := by
  refine g_met (mc := 0) (ms := 0) (nL := 1) (ret := none) (by decide) rfl (lv := [(0, .ref (E.2.2 57))]) rfl (Nat.le_of_ble_eq_true rfl) ?_
  intro p e s m below meth c S hr hlocks hC
  have hiX8 : ∀ w ∈ wsX80, w ∈ wsX8_keep := by decide +kernel
  refine g_aload_n S 0 dX8_keep_0 rfl ?_
  refine gg7r S hC hiX8 (by decide) rfl 9 (by decide) (by decide +kernel) dX8_keep_1 ?_
  refine g_const S dX8_keep_4 (v := 0) rfl ?_
  refine g_aload_n S 0 dX8_keep_5 rfl ?_
  refine gg7r S hC hiX8 (by decide) rfl 10 (by decide) (by decide +kernel) dX8_keep_6 ?_
  refine g_const S dX8_keep_9 (v := 0) rfl ?_
  refine g_bipush S dX8_keep_10 (v := 72) rfl ?_
  refine g_copy S hC (a := 62) (b := 63) (by decide) (by decide) rfl rfl rfl rfl rfl rfl (by decide +kernel) (by decide +kernel) (by decide +kernel) (by decide +kernel) (Nat.le_of_ble_eq_true rfl) (Nat.le_of_ble_eq_true rfl) dX8_keep_12 ?_
  refine g_nm (fun S1 hS1 => ?_)
  exact g_vret S hr hlocks dX8_keep_15 (by subst hS1; rfl) (Nat.le_of_ble_eq_true rfl) (Nat.le_of_ble_eq_true rfl)
theorem okX8_keep {σ : gS} (h : mOK σ) : mOK (sX8_keep_s σ) := h.of (fun _ _ _ => by rw [fX8_keep _ _ (by decide)]) (fun d hd => by rw [fX8_keep _ _ (by decide)]; exact h.2 d hd)
def sX8_bringBack_s (σ : gS) : gS := let S1 := gcp σ 63 62 72; S1
theorem fX8_bringBack (σ : gS) (x : Nat) (hx62 : x ≠ 62) : (sX8_bringBack_s σ).1 x = σ.1 x := by
  unfold sX8_bringBack_s
  (try dsimp only)
  (repeat' split)
  all_goals (simp [gu_ne, gcp, *])
set_option maxRecDepth 100000 in
set_option maxHeartbeats 4000000 in
theorem kX8_bringBack (l : Launch) (E : gT) (σ : gS) : gMv l yX8_bringBack wsX8_bringBack ({ frames := 1, cells := 0, slots := 0, locals := 60 }) 0 0 E σ [.ref (E.2.2 57)] (sX8_bringBack_s σ) := by
  refine g_met (mc := 0) (ms := 0) (nL := 1) (ret := none) (by decide) rfl (lv := [(0, .ref (E.2.2 57))]) rfl (Nat.le_of_ble_eq_true rfl) ?_
  intro p e s m below meth c S hr hlocks hC
  have hiX8 : ∀ w ∈ wsX80, w ∈ wsX8_bringBack := by decide +kernel
  refine g_aload_n S 0 dX8_bringBack_0 rfl ?_
  refine gg7r S hC hiX8 (by decide) rfl 10 (by decide) (by decide +kernel) dX8_bringBack_1 ?_
  refine g_const S dX8_bringBack_4 (v := 0) rfl ?_
  refine g_aload_n S 0 dX8_bringBack_5 rfl ?_
  refine gg7r S hC hiX8 (by decide) rfl 9 (by decide) (by decide +kernel) dX8_bringBack_6 ?_
  refine g_const S dX8_bringBack_9 (v := 0) rfl ?_
  refine g_bipush S dX8_bringBack_10 (v := 72) rfl ?_
  refine g_copy S hC (a := 63) (b := 62) (by decide) (by decide) rfl rfl rfl rfl rfl rfl (by decide +kernel) (by decide +kernel) (by decide +kernel) (by decide +kernel) (Nat.le_of_ble_eq_true rfl) (Nat.le_of_ble_eq_true rfl) dX8_bringBack_12 ?_
  refine g_nm (fun S1 hS1 => ?_)
  exact g_vret S hr hlocks dX8_bringBack_15 (by subst hS1; rfl) (Nat.le_of_ble_eq_true rfl) (Nat.le_of_ble_eq_true rfl)
theorem okX8_bringBack {σ : gS} (h : mOK σ) (hk : lOK σ 63) : mOK (sX8_bringBack_s σ) := h.of (fun _ _ _ => by rw [fX8_bringBack _ _ (by decide)]) (fun d hd => by
  have e : (sX8_bringBack_s σ).1 62 (14 + 4 * d + 1) = σ.1 63 (14 + 4 * d + 1) := by
    unfold sX8_bringBack_s
    simp only [gcp]
    rw [if_pos ⟨trivial, by omega⟩]
  rw [e]
  exact hk d hd)
def sX8_dr_r (σ : gS) (dn : Nat) (wn : Nat) : Int32 := σ.1 62 ((14 + (4 * dn)) + wn)
set_option maxRecDepth 100000 in
set_option maxHeartbeats 4000000 in
theorem kX8_dr (l : Launch) (E : gT) (σ : gS) (d : Int32) (dn : Nat) (hd : d = nI dn) (hdn : dn < 4) (w : Int32) (wn : Nat) (hw : w = nI wn) (hwn : wn < 4) : gMi l yX8_dr wsX8_dr ({ frames := 0, cells := 0, slots := 0, locals := 0 }) 0 0 E σ [.ref (E.2.2 57), .int d, .int w] (sX8_dr_r σ dn wn) σ := by
  refine g_met (mc := 0) (ms := 0) (nL := 3) (ret := (some .int)) (by decide) rfl (lv := [(0, .ref (E.2.2 57)), (1, .int d), (2, .int w)]) rfl (Nat.le_of_ble_eq_true rfl) ?_
  intro p e s m below meth c S hr hlocks hC
  have hiX8 : ∀ w ∈ wsX80, w ∈ wsX8_dr := by decide +kernel
  refine g_aload_n S 0 dX8_dr_0 rfl ?_
  refine gg7r S hC hiX8 (by decide) rfl 9 (by decide) (by decide +kernel) dX8_dr_1 ?_
  refine g_bipush S dX8_dr_4 (v := 14) rfl ?_
  refine g_const S dX8_dr_6 (v := 4) rfl ?_
  refine g_iload_n S 1 dX8_dr_7 rfl ?_
  refine g_imul S dX8_dr_8 ?_
  refine g_iadd S dX8_dr_9 ?_
  refine g_iload_n S 2 dX8_dr_10 rfl ?_
  refine g_iadd S dX8_dr_11 ?_
  refine g_iald S hC (by decide) rfl ((14 + (4 * dn)) + wn) (gI_add (gI_add rfl (gI_mul rfl hd)) hw) (show (14 + (4 * dn)) + wn < 72 by omega) (by decide) dX8_dr_12 ?_
  exact g_iret S hr hlocks dX8_dr_13 rfl rfl (Nat.le_of_ble_eq_true rfl) (Nat.le_of_ble_eq_true rfl)
def sX8_letDrum_s (σ : gS) (dn : Nat) (wn : Nat) (a : Int32) : gS := let S1 := gu σ 62 ((14 + (4 * dn)) + wn) a; S1
theorem fX8_letDrum (σ : gS) (dn : Nat) (wn : Nat) (a : Int32) (x : Nat) (hx62 : x ≠ 62) : (sX8_letDrum_s σ dn wn a).1 x = σ.1 x := by
  unfold sX8_letDrum_s
  (try dsimp only)
  (repeat' split)
  all_goals (simp [gu_ne, gcp, *])
set_option maxRecDepth 100000 in
set_option maxHeartbeats 4000000 in
theorem kX8_letDrum (l : Launch) (E : gT) (σ : gS) (d : Int32) (dn : Nat) (hd : d = nI dn) (hdn : dn < 4) (w : Int32) (wn : Nat) (hw : w = nI wn) (hwn : wn < 4) (a : Int32) : gMv l yX8_letDrum wsX8_letDrum ({ frames := 0, cells := 0, slots := 0, locals := 0 }) 0 0 E σ [.ref (E.2.2 57), .int d, .int w, .int a] (sX8_letDrum_s σ dn wn a) := by
  refine g_met (mc := 0) (ms := 0) (nL := 4) (ret := none) (by decide) rfl (lv := [(0, .ref (E.2.2 57)), (1, .int d), (2, .int w), (3, .int a)]) rfl (Nat.le_of_ble_eq_true rfl) ?_
  intro p e s m below meth c S hr hlocks hC
  have hiX8 : ∀ w ∈ wsX80, w ∈ wsX8_letDrum := by decide +kernel
  refine g_aload_n S 0 dX8_letDrum_0 rfl ?_
  refine gg7r S hC hiX8 (by decide) rfl 9 (by decide) (by decide +kernel) dX8_letDrum_1 ?_
  refine g_bipush S dX8_letDrum_4 (v := 14) rfl ?_
  refine g_const S dX8_letDrum_6 (v := 4) rfl ?_
  refine g_iload_n S 1 dX8_letDrum_7 rfl ?_
  refine g_imul S dX8_letDrum_8 ?_
  refine g_iadd S dX8_letDrum_9 ?_
  refine g_iload_n S 2 dX8_letDrum_10 rfl ?_
  refine g_iadd S dX8_letDrum_11 ?_
  refine g_iload_n S 3 dX8_letDrum_12 rfl ?_
  refine g_iast S hC (by decide) rfl ((14 + (4 * dn)) + wn) (gI_add (gI_add rfl (gI_mul rfl hd)) hw) (show (14 + (4 * dn)) + wn < 72 by omega) (by decide) dX8_letDrum_13 ?_
  refine g_nm (fun S1 hS1 => ?_)
  exact g_vret S hr hlocks dX8_letDrum_14 (by subst hS1; rfl) (Nat.le_of_ble_eq_true rfl) (Nat.le_of_ble_eq_true rfl)
theorem okX8_letDrum {σ : gS} {d w : Nat} {a : Int32} (hw : w < 4) (hw2 : w ≠ 1) (h : mOK σ) : mOK (sX8_letDrum_s σ d w a) := mOK.now (n := 14 + 4 * d + w) rfl (fun d2 _ => by omega) h
def sX8_sm_r (σ : gS) (dn : Nat) (wn : Nat) : Int32 := σ.1 62 ((30 + (3 * dn)) + wn)
set_option maxRecDepth 100000 in
set_option maxHeartbeats 4000000 in
theorem kX8_sm (l : Launch) (E : gT) (σ : gS) (d : Int32) (dn : Nat) (hd : d = nI dn) (hdn : dn < 4) (w : Int32) (wn : Nat) (hw : w = nI wn) (hwn : wn < 3) : gMi l yX8_sm wsX8_sm ({ frames := 0, cells := 0, slots := 0, locals := 0 }) 0 0 E σ [.ref (E.2.2 57), .int d, .int w] (sX8_sm_r σ dn wn) σ := by
  refine g_met (mc := 0) (ms := 0) (nL := 3) (ret := (some .int)) (by decide) rfl (lv := [(0, .ref (E.2.2 57)), (1, .int d), (2, .int w)]) rfl (Nat.le_of_ble_eq_true rfl) ?_
  intro p e s m below meth c S hr hlocks hC
  have hiX8 : ∀ w ∈ wsX80, w ∈ wsX8_sm := by decide +kernel
  refine g_aload_n S 0 dX8_sm_0 rfl ?_
  refine gg7r S hC hiX8 (by decide) rfl 9 (by decide) (by decide +kernel) dX8_sm_1 ?_
  refine g_bipush S dX8_sm_4 (v := 30) rfl ?_
  refine g_const S dX8_sm_6 (v := 3) rfl ?_
  refine g_iload_n S 1 dX8_sm_7 rfl ?_
  refine g_imul S dX8_sm_8 ?_
  refine g_iadd S dX8_sm_9 ?_
  refine g_iload_n S 2 dX8_sm_10 rfl ?_
  refine g_iadd S dX8_sm_11 ?_
  refine g_iald S hC (by decide) rfl ((30 + (3 * dn)) + wn) (gI_add (gI_add rfl (gI_mul rfl hd)) hw) (show (30 + (3 * dn)) + wn < 72 by omega) (by decide) dX8_sm_12 ?_
  exact g_iret S hr hlocks dX8_sm_13 rfl rfl (Nat.le_of_ble_eq_true rfl) (Nat.le_of_ble_eq_true rfl)
def sX8_letSmuggler_s (σ : gS) (dn : Nat) (a : Int32) (b : Int32) : gS := let S1 := gu σ 62 ((30 + (3 * dn)) + 0) a; let S2 := gu S1 62 ((30 + (3 * dn)) + 1) b; S2
theorem fX8_letSmuggler (σ : gS) (dn : Nat) (a : Int32) (b : Int32) (x : Nat) (hx62 : x ≠ 62) : (sX8_letSmuggler_s σ dn a b).1 x = σ.1 x := by
  unfold sX8_letSmuggler_s
  (try dsimp only)
  (repeat' split)
  all_goals (simp [gu_ne, gcp, *])
set_option maxRecDepth 100000 in
set_option maxHeartbeats 4000000 in
theorem kX8_letSmuggler (l : Launch) (E : gT) (σ : gS) (d : Int32) (dn : Nat) (hd : d = nI dn) (hdn : dn < 4) (a : Int32) (b : Int32) : gMv l yX8_letSmuggler wsX8_letSmuggler ({ frames := 0, cells := 0, slots := 0, locals := 0 }) 0 0 E σ [.ref (E.2.2 57), .int d, .int a, .int b] (sX8_letSmuggler_s σ dn a b) := by
  refine g_met (mc := 0) (ms := 0) (nL := 4) (ret := none) (by decide) rfl (lv := [(0, .ref (E.2.2 57)), (1, .int d), (2, .int a), (3, .int b)]) rfl (Nat.le_of_ble_eq_true rfl) ?_
  intro p e s m below meth c S hr hlocks hC
  have hiX8 : ∀ w ∈ wsX80, w ∈ wsX8_letSmuggler := by decide +kernel
  refine g_aload_n S 0 dX8_letSmuggler_0 rfl ?_
  refine gg7r S hC hiX8 (by decide) rfl 9 (by decide) (by decide +kernel) dX8_letSmuggler_1 ?_
  refine g_bipush S dX8_letSmuggler_4 (v := 30) rfl ?_
  refine g_const S dX8_letSmuggler_6 (v := 3) rfl ?_
  refine g_iload_n S 1 dX8_letSmuggler_7 rfl ?_
  refine g_imul S dX8_letSmuggler_8 ?_
  refine g_iadd S dX8_letSmuggler_9 ?_
  refine g_const S dX8_letSmuggler_10 (v := 0) rfl ?_
  refine g_iadd S dX8_letSmuggler_11 ?_
  refine g_iload_n S 2 dX8_letSmuggler_12 rfl ?_
  refine g_iast S hC (by decide) rfl ((30 + (3 * dn)) + 0) (gI_add (gI_add rfl (gI_mul rfl hd)) rfl) (show (30 + (3 * dn)) + 0 < 72 by omega) (by decide) dX8_letSmuggler_13 ?_
  refine g_nm (fun S1 hS1 => ?_)
  refine g_aload_n S 0 dX8_letSmuggler_14 rfl ?_
  refine gg7r S hC hiX8 (by decide) rfl 9 (by decide) (by decide +kernel) dX8_letSmuggler_15 ?_
  refine g_bipush S dX8_letSmuggler_18 (v := 30) rfl ?_
  refine g_const S dX8_letSmuggler_20 (v := 3) rfl ?_
  refine g_iload_n S 1 dX8_letSmuggler_21 rfl ?_
  refine g_imul S dX8_letSmuggler_22 ?_
  refine g_iadd S dX8_letSmuggler_23 ?_
  refine g_const S dX8_letSmuggler_24 (v := 1) rfl ?_
  refine g_iadd S dX8_letSmuggler_25 ?_
  refine g_iload_n S 3 dX8_letSmuggler_26 rfl ?_
  refine g_iast S hC (by decide) rfl ((30 + (3 * dn)) + 1) (gI_add (gI_add rfl (gI_mul rfl hd)) rfl) (show (30 + (3 * dn)) + 1 < 72 by omega) (by decide) dX8_letSmuggler_27 ?_
  refine g_nm (fun S2 hS2 => ?_)
  exact g_vret S hr hlocks dX8_letSmuggler_28 (by subst hS2 hS1; rfl) (Nat.le_of_ble_eq_true rfl) (Nat.le_of_ble_eq_true rfl)
theorem okX8_letSmuggler {σ : gS} {d : Nat} {a b : Int32} (h : mOK σ) : mOK (sX8_letSmuggler_s σ d a b) := by
  unfold sX8_letSmuggler_s
  exact mOK.now (n := 30 + 3 * d + 1) rfl (fun d2 _ => by omega) (mOK.now (n := 30 + 3 * d + 0) rfl (fun d2 _ => by omega) h)
def sX8_ca_r (σ : gS) (dn : Nat) (wn : Nat) : Int32 := σ.1 62 ((42 + (3 * dn)) + wn)
set_option maxRecDepth 100000 in
set_option maxHeartbeats 4000000 in
theorem kX8_ca (l : Launch) (E : gT) (σ : gS) (d : Int32) (dn : Nat) (hd : d = nI dn) (hdn : dn < 10) (w : Int32) (wn : Nat) (hw : w = nI wn) (hwn : wn < 3) : gMi l yX8_ca wsX8_ca ({ frames := 0, cells := 0, slots := 0, locals := 0 }) 0 0 E σ [.ref (E.2.2 57), .int d, .int w] (sX8_ca_r σ dn wn) σ := by
  refine g_met (mc := 0) (ms := 0) (nL := 3) (ret := (some .int)) (by decide) rfl (lv := [(0, .ref (E.2.2 57)), (1, .int d), (2, .int w)]) rfl (Nat.le_of_ble_eq_true rfl) ?_
  intro p e s m below meth c S hr hlocks hC
  have hiX8 : ∀ w ∈ wsX80, w ∈ wsX8_ca := by decide +kernel
  refine g_aload_n S 0 dX8_ca_0 rfl ?_
  refine gg7r S hC hiX8 (by decide) rfl 9 (by decide) (by decide +kernel) dX8_ca_1 ?_
  refine g_bipush S dX8_ca_4 (v := 42) rfl ?_
  refine g_const S dX8_ca_6 (v := 3) rfl ?_
  refine g_iload_n S 1 dX8_ca_7 rfl ?_
  refine g_imul S dX8_ca_8 ?_
  refine g_iadd S dX8_ca_9 ?_
  refine g_iload_n S 2 dX8_ca_10 rfl ?_
  refine g_iadd S dX8_ca_11 ?_
  refine g_iald S hC (by decide) rfl ((42 + (3 * dn)) + wn) (gI_add (gI_add rfl (gI_mul rfl hd)) hw) (show (42 + (3 * dn)) + wn < 72 by omega) (by decide) dX8_ca_12 ?_
  exact g_iret S hr hlocks dX8_ca_13 rfl rfl (Nat.le_of_ble_eq_true rfl) (Nat.le_of_ble_eq_true rfl)
def sX8_moreCard_s (σ : gS) (dn : Nat) (wn : Nat) (a : Int32) : gS := let S1 := gu σ 62 ((42 + (3 * dn)) + wn) ((σ.1 62 ((42 + (3 * dn)) + wn)) + a); S1
theorem fX8_moreCard (σ : gS) (dn : Nat) (wn : Nat) (a : Int32) (x : Nat) (hx62 : x ≠ 62) : (sX8_moreCard_s σ dn wn a).1 x = σ.1 x := by
  unfold sX8_moreCard_s
  (try dsimp only)
  (repeat' split)
  all_goals (simp [gu_ne, gcp, *])
set_option maxRecDepth 100000 in
set_option maxHeartbeats 4000000 in
theorem kX8_moreCard (l : Launch) (E : gT) (σ : gS) (d : Int32) (dn : Nat) (hd : d = nI dn) (hdn : dn < 10) (w : Int32) (wn : Nat) (hw : w = nI wn) (hwn : wn < 3) (a : Int32) : gMv l yX8_moreCard wsX8_moreCard ({ frames := 0, cells := 0, slots := 0, locals := 0 }) 0 0 E σ [.ref (E.2.2 57), .int d, .int w, .int a] (sX8_moreCard_s σ dn wn a) := by
  refine g_met (mc := 0) (ms := 0) (nL := 4) (ret := none) (by decide) rfl (lv := [(0, .ref (E.2.2 57)), (1, .int d), (2, .int w), (3, .int a)]) rfl (Nat.le_of_ble_eq_true rfl) ?_
  intro p e s m below meth c S hr hlocks hC
  have hiX8 : ∀ w ∈ wsX80, w ∈ wsX8_moreCard := by decide +kernel
  refine g_aload_n S 0 dX8_moreCard_0 rfl ?_
  refine gg7r S hC hiX8 (by decide) rfl 9 (by decide) (by decide +kernel) dX8_moreCard_1 ?_
  refine g_bipush S dX8_moreCard_4 (v := 42) rfl ?_
  refine g_const S dX8_moreCard_6 (v := 3) rfl ?_
  refine g_iload_n S 1 dX8_moreCard_7 rfl ?_
  refine g_imul S dX8_moreCard_8 ?_
  refine g_iadd S dX8_moreCard_9 ?_
  refine g_iload_n S 2 dX8_moreCard_10 rfl ?_
  refine g_iadd S dX8_moreCard_11 ?_
  refine g_dup2 S dX8_moreCard_12 rfl rfl ?_
  refine g_iald S hC (by decide) rfl ((42 + (3 * dn)) + wn) (gI_add (gI_add rfl (gI_mul rfl hd)) hw) (show (42 + (3 * dn)) + wn < 72 by omega) (by decide) dX8_moreCard_13 ?_
  refine g_iload_n S 3 dX8_moreCard_14 rfl ?_
  refine g_iadd S dX8_moreCard_15 ?_
  refine g_iast S hC (by decide) rfl ((42 + (3 * dn)) + wn) (gI_add (gI_add rfl (gI_mul rfl hd)) hw) (show (42 + (3 * dn)) + wn < 72 by omega) (by decide) dX8_moreCard_16 ?_
  refine g_nm (fun S1 hS1 => ?_)
  exact g_vret S hr hlocks dX8_moreCard_17 (by subst hS1; rfl) (Nat.le_of_ble_eq_true rfl) (Nat.le_of_ble_eq_true rfl)
theorem okX8_moreCard {σ : gS} {d w : Nat} {a : Int32} (h : mOK σ) : mOK (sX8_moreCard_s σ d w a) := mOK.now (n := 42 + 3 * d + w) rfl (fun d2 _ => by omega) h
def sX8_bed_r (σ : gS) (a : Int32) (b : Int32) : Int32 := let S1 := gu σ 57 0 (0 : Int32); if sX8_isIn_r S1 a (0 : Int32) (9 : Int32) = 0 then (sX8_fail_r S1 (1 : Int32)) else (if sX8_isIn_r S1 b (1 : Int32) (99 : Int32) = 0 then (sX8_fail_r S1 (1 : Int32)) else (if S1.1 57 1 = (4 : Int32) then (sX8_fail_r S1 (2 : Int32)) else (let S3 := gu S1 58 (2 * (mB σ 1)) a; let S4 := gu S3 58 ((2 * (mB σ 1)) + 1) b; let S5 := gu S4 57 1 ((S4.1 57 1) + (1 : Int32)); (S5.1 57 1) - (1 : Int32))))
def sX8_bed_s (σ : gS) (a : Int32) (b : Int32) : gS := let S1 := gu σ 57 0 (0 : Int32); if sX8_isIn_r S1 a (0 : Int32) (9 : Int32) = 0 then (let S2 := sX8_fail_s S1 (1 : Int32); S2) else (if sX8_isIn_r S1 b (1 : Int32) (99 : Int32) = 0 then (let S7 := sX8_fail_s S1 (1 : Int32); S7) else (if S1.1 57 1 = (4 : Int32) then (let S6 := sX8_fail_s S1 (2 : Int32); S6) else (let S3 := gu S1 58 (2 * (mB σ 1)) a; let S4 := gu S3 58 ((2 * (mB σ 1)) + 1) b; let S5 := gu S4 57 1 ((S4.1 57 1) + (1 : Int32)); S5)))
theorem fX8_bed (σ : gS) (a : Int32) (b : Int32) (x : Nat) (hx57 : x ≠ 57) (hx58 : x ≠ 58) : (sX8_bed_s σ a b).1 x = σ.1 x := by
  unfold sX8_bed_s
  (try dsimp only)
  (repeat' split)
  all_goals (simp [gu_ne, gcp, fX8_fail, *])
set_option maxRecDepth 100000 in
set_option maxHeartbeats 4000000 in
theorem kX8_bed (l : Launch) (E : gT) (σ : gS) (a : Int32) (b : Int32) (hok : mOK σ) : gMi l yX8_bed wsX8_bed ({ frames := 1, cells := 0, slots := 0, locals := 22 }) 0 0 E σ [.ref (E.2.2 57), .int a, .int b] (sX8_bed_r σ a b) (sX8_bed_s σ a b) := by
  refine g_met (mc := 0) (ms := 0) (nL := 3) (ret := (some .int)) (by decide) rfl (lv := [(0, .ref (E.2.2 57)), (1, .int a), (2, .int b)]) rfl (Nat.le_of_ble_eq_true rfl) ?_
  intro p e s m below meth c S hr hlocks hC
  have hiX8 : ∀ w ∈ wsX80, w ∈ wsX8_bed := by decide +kernel
  refine g_aload_n S 0 dX8_bed_0 rfl ?_
  refine g_const S dX8_bed_1 (v := 0) rfl ?_
  refine gp7 S hC hiX8 (by decide) rfl 0 (by decide) (by decide +kernel) dX8_bed_2 ?_
  refine g_nm (fun S1 hS1 => ?_)
  have kqS1 := kq_p0 hS1 (kq_0)
  have okS1 := mOK.p0 hS1 (hok)
  refine g_iload_n S 1 dX8_bed_5 rfl ?_
  refine g_const S dX8_bed_6 (v := 0) rfl ?_
  refine g_bipush S dX8_bed_7 (v := 9) rfl ?_
  refine g_calli (g_runS S hC (As := [.int a, .int (0 : Int32), .int (9 : Int32)]) (rest := []) (kX8_isIn l E S1 a (0 : Int32) (9 : Int32)) (va_cwS 3 S.2.2.2.2 gX8_bed_X8_isIn rfl rfl rfl (by decide +kernel) ⟨Nat.le_of_ble_eq_true rfl, Nat.le_of_ble_eq_true rfl⟩) rfl rfl (Nat.le_of_ble_eq_true rfl) dX8_bed_9 ⟨Nat.le_of_ble_eq_true rfl, Nat.le_of_ble_eq_true rfl⟩) ?_
  refine g_if_eq S 25 dX8_bed_12 (by decide) (fun c_1 => ?_) (fun c_1 => ?_)
  · skip
    refine g_aload_n S 0 dX8_bed_25 rfl ?_
    refine g_const S dX8_bed_26 (v := 1) rfl ?_
    refine g_calli (g_runV S hC (As := [.int (1 : Int32)]) (rest := []) (k := 57) (by decide) rfl (by decide) rfl (kX8_fail l E S1 (1 : Int32)) (cwV 1 S.2.2.2.2 gX8_bed_X8_fail rfl rfl rfl (by decide +kernel) ⟨Nat.le_of_ble_eq_true rfl, Nat.le_of_ble_eq_true rfl⟩) rfl rfl (Nat.le_of_ble_eq_true rfl) dX8_bed_27 ⟨Nat.le_of_ble_eq_true rfl, Nat.le_of_ble_eq_true rfl⟩) ?_
    refine g_nm (fun S2 hS2 => ?_)
    exact g_iret S hr hlocks dX8_bed_30 (by subst hS2 hS1; unfold sX8_bed_r; (try dsimp only); rw [if_pos c_1]) (by subst hS2 hS1; unfold sX8_bed_s; (try dsimp only); rw [if_pos c_1]) (Nat.le_of_ble_eq_true rfl) (Nat.le_of_ble_eq_true rfl)
  · skip
    refine g_iload_n S 2 dX8_bed_15 rfl ?_
    refine g_const S dX8_bed_16 (v := 1) rfl ?_
    refine g_bipush S dX8_bed_17 (v := 99) rfl ?_
    refine g_calli (g_runS S hC (As := [.int b, .int (1 : Int32), .int (99 : Int32)]) (rest := []) (kX8_isIn l E S1 b (1 : Int32) (99 : Int32)) (va_cwS 3 S.2.2.2.2 gX8_bed_X8_isIn rfl rfl rfl (by decide +kernel) ⟨Nat.le_of_ble_eq_true rfl, Nat.le_of_ble_eq_true rfl⟩) rfl rfl (Nat.le_of_ble_eq_true rfl) dX8_bed_19 ⟨Nat.le_of_ble_eq_true rfl, Nat.le_of_ble_eq_true rfl⟩) ?_
    refine g_if_ne S 31 dX8_bed_22 (by decide) (fun c_2 => ?_) (fun c_2 => ?_)
    · skip
      refine g_aload_n S 0 dX8_bed_31 rfl ?_
      refine gg7 S hC hiX8 (by decide) rfl 1 (by decide) (by decide +kernel) dX8_bed_32 ?_
      refine g_const S dX8_bed_35 (v := 4) rfl ?_
      refine g_icmp_ne S 45 dX8_bed_36 (by decide) (fun c_3 => ?_) (fun c_3 => ?_)
      · skip
        have hle := hok.le1
        have hlt : mB σ 1 < 4 := mcnt (m := 4) ((kqS1 1 (by decide)).trans (hok.eq 1 (by decide) (by decide))) hle (by assumption)
        refine g_aload_n S 0 dX8_bed_45 rfl ?_
        refine gg7r S hC hiX8 (by decide) rfl 5 (by decide) (by decide +kernel) dX8_bed_46 ?_
        refine g_const S dX8_bed_49 (v := 2) rfl ?_
        refine g_aload_n S 0 dX8_bed_50 rfl ?_
        refine gg7 S hC hiX8 (by decide) rfl 1 (by decide) (by decide +kernel) dX8_bed_51 ?_
        refine g_imul S dX8_bed_54 ?_
        refine g_iload_n S 1 dX8_bed_55 rfl ?_
        refine g_iast S hC (by decide) rfl (2 * (mB σ 1)) (gI_mul rfl ((kqS1 1 (by decide)).trans (hok.eq 1 (by decide) (by decide)))) (show 2 * (mB σ 1) < 8 by omega) (by decide) dX8_bed_56 ?_
        refine g_nm (fun S3 hS3 => ?_)
        have kqS3 := kq_pr hS3 (by decide) (kqS1)
        refine g_aload_n S 0 dX8_bed_57 rfl ?_
        refine gg7r S hC hiX8 (by decide) rfl 5 (by decide) (by decide +kernel) dX8_bed_58 ?_
        refine g_const S dX8_bed_61 (v := 2) rfl ?_
        refine g_aload_n S 0 dX8_bed_62 rfl ?_
        refine gg7 S hC hiX8 (by decide) rfl 1 (by decide) (by decide +kernel) dX8_bed_63 ?_
        refine g_imul S dX8_bed_66 ?_
        refine g_const S dX8_bed_67 (v := 1) rfl ?_
        refine g_iadd S dX8_bed_68 ?_
        refine g_iload_n S 2 dX8_bed_69 rfl ?_
        refine g_iast S hC (by decide) rfl ((2 * (mB σ 1)) + 1) (gI_add (gI_mul rfl ((kqS3 1 (by decide)).trans (hok.eq 1 (by decide) (by decide)))) rfl) (show (2 * (mB σ 1)) + 1 < 8 by omega) (by decide) dX8_bed_70 ?_
        refine g_nm (fun S4 hS4 => ?_)
        have kqS4 := kq_pr hS4 (by decide) (kqS3)
        refine g_aload_n S 0 dX8_bed_71 rfl ?_
        refine g_dup S dX8_bed_72 rfl ?_
        refine gg7 S hC hiX8 (by decide) rfl 1 (by decide) (by decide +kernel) dX8_bed_73 ?_
        refine g_const S dX8_bed_76 (v := 1) rfl ?_
        refine g_iadd S dX8_bed_77 ?_
        refine gp7 S hC hiX8 (by decide) rfl 1 (by decide) (by decide +kernel) dX8_bed_78 ?_
        refine g_nm (fun S5 hS5 => ?_)
        refine g_aload_n S 0 dX8_bed_81 rfl ?_
        refine gg7 S hC hiX8 (by decide) rfl 1 (by decide) (by decide +kernel) dX8_bed_82 ?_
        refine g_const S dX8_bed_85 (v := 1) rfl ?_
        refine g_isub S dX8_bed_86 ?_
        exact g_iret S hr hlocks dX8_bed_87 (by subst hS5 hS4 hS3 hS1; unfold sX8_bed_r; (try dsimp only); rw [if_neg c_1, if_neg c_2, if_neg c_3]) (by subst hS5 hS4 hS3 hS1; unfold sX8_bed_s; (try dsimp only); rw [if_neg c_1, if_neg c_2, if_neg c_3]) (Nat.le_of_ble_eq_true rfl) (Nat.le_of_ble_eq_true rfl)
      · skip
        refine g_aload_n S 0 dX8_bed_39 rfl ?_
        refine g_const S dX8_bed_40 (v := 2) rfl ?_
        refine g_calli (g_runV S hC (As := [.int (2 : Int32)]) (rest := []) (k := 57) (by decide) rfl (by decide) rfl (kX8_fail l E S1 (2 : Int32)) (cwV 1 S.2.2.2.2 gX8_bed_X8_fail rfl rfl rfl (by decide +kernel) ⟨Nat.le_of_ble_eq_true rfl, Nat.le_of_ble_eq_true rfl⟩) rfl rfl (Nat.le_of_ble_eq_true rfl) dX8_bed_41 ⟨Nat.le_of_ble_eq_true rfl, Nat.le_of_ble_eq_true rfl⟩) ?_
        refine g_nm (fun S6 hS6 => ?_)
        exact g_iret S hr hlocks dX8_bed_44 (by subst hS6 hS1; unfold sX8_bed_r; (try dsimp only); rw [if_neg c_1, if_neg c_2, if_pos c_3]) (by subst hS6 hS1; unfold sX8_bed_s; (try dsimp only); rw [if_neg c_1, if_neg c_2, if_pos c_3]) (Nat.le_of_ble_eq_true rfl) (Nat.le_of_ble_eq_true rfl)
    · skip
      refine g_aload_n S 0 dX8_bed_25 rfl ?_
      refine g_const S dX8_bed_26 (v := 1) rfl ?_
      refine g_calli (g_runV S hC (As := [.int (1 : Int32)]) (rest := []) (k := 57) (by decide) rfl (by decide) rfl (kX8_fail l E S1 (1 : Int32)) (cwV 1 S.2.2.2.2 gX8_bed_X8_fail rfl rfl rfl (by decide +kernel) ⟨Nat.le_of_ble_eq_true rfl, Nat.le_of_ble_eq_true rfl⟩) rfl rfl (Nat.le_of_ble_eq_true rfl) dX8_bed_27 ⟨Nat.le_of_ble_eq_true rfl, Nat.le_of_ble_eq_true rfl⟩) ?_
      refine g_nm (fun S7 hS7 => ?_)
      exact g_iret S hr hlocks dX8_bed_30 (by subst hS7 hS1; unfold sX8_bed_r; (try dsimp only); rw [if_neg c_1, if_pos c_2]) (by subst hS7 hS1; unfold sX8_bed_s; (try dsimp only); rw [if_neg c_1, if_pos c_2]) (Nat.le_of_ble_eq_true rfl) (Nat.le_of_ble_eq_true rfl)
def sX8_drum_r (σ : gS) (a : Int32) (b : Int32) : Int32 := let S1 := gu σ 57 0 (0 : Int32); if sX8_isIn_r S1 a (1 : Int32) (40 : Int32) = 0 then (sX8_fail_r S1 (1 : Int32)) else (if sX8_isIn_r S1 b (0 : Int32) (9 : Int32) = 0 then (sX8_fail_r S1 (1 : Int32)) else (if S1.1 57 2 = (4 : Int32) then (sX8_fail_r S1 (2 : Int32)) else (let S3 := gu S1 59 (mB σ 2) a; let S4 := sX8_letDrum_s S3 (mB σ 2) 0 b; let S5 := sX8_letDrum_s S4 (mB σ 2) 1 (-1 : Int32); let S6 := gu S5 57 2 ((S5.1 57 2) + (1 : Int32)); (S6.1 57 2) - (1 : Int32))))
def sX8_drum_s (σ : gS) (a : Int32) (b : Int32) : gS := let S1 := gu σ 57 0 (0 : Int32); if sX8_isIn_r S1 a (1 : Int32) (40 : Int32) = 0 then (let S2 := sX8_fail_s S1 (1 : Int32); S2) else (if sX8_isIn_r S1 b (0 : Int32) (9 : Int32) = 0 then (let S8 := sX8_fail_s S1 (1 : Int32); S8) else (if S1.1 57 2 = (4 : Int32) then (let S7 := sX8_fail_s S1 (2 : Int32); S7) else (let S3 := gu S1 59 (mB σ 2) a; let S4 := sX8_letDrum_s S3 (mB σ 2) 0 b; let S5 := sX8_letDrum_s S4 (mB σ 2) 1 (-1 : Int32); let S6 := gu S5 57 2 ((S5.1 57 2) + (1 : Int32)); S6)))
theorem fX8_drum (σ : gS) (a : Int32) (b : Int32) (x : Nat) (hx57 : x ≠ 57) (hx59 : x ≠ 59) (hx62 : x ≠ 62) : (sX8_drum_s σ a b).1 x = σ.1 x := by
  unfold sX8_drum_s
  (try dsimp only)
  (repeat' split)
  all_goals (simp [gu_ne, gcp, fX8_fail, fX8_letDrum, *])
set_option maxRecDepth 100000 in
set_option maxHeartbeats 4000000 in
theorem kX8_drum (l : Launch) (E : gT) (σ : gS) (a : Int32) (b : Int32) (hok : mOK σ) : gMi l yX8_drum wsX8_drum ({ frames := 1, cells := 0, slots := 0, locals := 23 }) 0 0 E σ [.ref (E.2.2 57), .int a, .int b] (sX8_drum_r σ a b) (sX8_drum_s σ a b) := by
  refine g_met (mc := 0) (ms := 0) (nL := 3) (ret := (some .int)) (by decide) rfl (lv := [(0, .ref (E.2.2 57)), (1, .int a), (2, .int b)]) rfl (Nat.le_of_ble_eq_true rfl) ?_
  intro p e s m below meth c S hr hlocks hC
  have hiX8 : ∀ w ∈ wsX80, w ∈ wsX8_drum := by decide +kernel
  refine g_aload_n S 0 dX8_drum_0 rfl ?_
  refine g_const S dX8_drum_1 (v := 0) rfl ?_
  refine gp7 S hC hiX8 (by decide) rfl 0 (by decide) (by decide +kernel) dX8_drum_2 ?_
  refine g_nm (fun S1 hS1 => ?_)
  have kqS1 := kq_p0 hS1 (kq_0)
  have okS1 := mOK.p0 hS1 (hok)
  refine g_iload_n S 1 dX8_drum_5 rfl ?_
  refine g_const S dX8_drum_6 (v := 1) rfl ?_
  refine g_bipush S dX8_drum_7 (v := 40) rfl ?_
  refine g_calli (g_runS S hC (As := [.int a, .int (1 : Int32), .int (40 : Int32)]) (rest := []) (kX8_isIn l E S1 a (1 : Int32) (40 : Int32)) (va_cwS 3 S.2.2.2.2 gX8_drum_X8_isIn rfl rfl rfl (by decide +kernel) ⟨Nat.le_of_ble_eq_true rfl, Nat.le_of_ble_eq_true rfl⟩) rfl rfl (Nat.le_of_ble_eq_true rfl) dX8_drum_9 ⟨Nat.le_of_ble_eq_true rfl, Nat.le_of_ble_eq_true rfl⟩) ?_
  refine g_if_eq S 25 dX8_drum_12 (by decide) (fun c_1 => ?_) (fun c_1 => ?_)
  · skip
    refine g_aload_n S 0 dX8_drum_25 rfl ?_
    refine g_const S dX8_drum_26 (v := 1) rfl ?_
    refine g_calli (g_runV S hC (As := [.int (1 : Int32)]) (rest := []) (k := 57) (by decide) rfl (by decide) rfl (kX8_fail l E S1 (1 : Int32)) (cwV 1 S.2.2.2.2 gX8_drum_X8_fail rfl rfl rfl (by decide +kernel) ⟨Nat.le_of_ble_eq_true rfl, Nat.le_of_ble_eq_true rfl⟩) rfl rfl (Nat.le_of_ble_eq_true rfl) dX8_drum_27 ⟨Nat.le_of_ble_eq_true rfl, Nat.le_of_ble_eq_true rfl⟩) ?_
    refine g_nm (fun S2 hS2 => ?_)
    exact g_iret S hr hlocks dX8_drum_30 (by subst hS2 hS1; unfold sX8_drum_r; (try dsimp only); rw [if_pos c_1]) (by subst hS2 hS1; unfold sX8_drum_s; (try dsimp only); rw [if_pos c_1]) (Nat.le_of_ble_eq_true rfl) (Nat.le_of_ble_eq_true rfl)
  · skip
    refine g_iload_n S 2 dX8_drum_15 rfl ?_
    refine g_const S dX8_drum_16 (v := 0) rfl ?_
    refine g_bipush S dX8_drum_17 (v := 9) rfl ?_
    refine g_calli (g_runS S hC (As := [.int b, .int (0 : Int32), .int (9 : Int32)]) (rest := []) (kX8_isIn l E S1 b (0 : Int32) (9 : Int32)) (va_cwS 3 S.2.2.2.2 gX8_drum_X8_isIn rfl rfl rfl (by decide +kernel) ⟨Nat.le_of_ble_eq_true rfl, Nat.le_of_ble_eq_true rfl⟩) rfl rfl (Nat.le_of_ble_eq_true rfl) dX8_drum_19 ⟨Nat.le_of_ble_eq_true rfl, Nat.le_of_ble_eq_true rfl⟩) ?_
    refine g_if_ne S 31 dX8_drum_22 (by decide) (fun c_2 => ?_) (fun c_2 => ?_)
    · skip
      refine g_aload_n S 0 dX8_drum_31 rfl ?_
      refine gg7 S hC hiX8 (by decide) rfl 2 (by decide) (by decide +kernel) dX8_drum_32 ?_
      refine g_const S dX8_drum_35 (v := 4) rfl ?_
      refine g_icmp_ne S 45 dX8_drum_36 (by decide) (fun c_3 => ?_) (fun c_3 => ?_)
      · skip
        have hle := hok.le2
        have hlt : mB σ 2 < 4 := mcnt (m := 4) ((kqS1 2 (by decide)).trans (hok.eq 2 (by decide) (by decide))) hle (by assumption)
        refine g_aload_n S 0 dX8_drum_45 rfl ?_
        refine gg7r S hC hiX8 (by decide) rfl 6 (by decide) (by decide +kernel) dX8_drum_46 ?_
        refine g_aload_n S 0 dX8_drum_49 rfl ?_
        refine gg7 S hC hiX8 (by decide) rfl 2 (by decide) (by decide +kernel) dX8_drum_50 ?_
        refine g_iload_n S 1 dX8_drum_53 rfl ?_
        refine g_iast S hC (by decide) rfl (mB σ 2) ((kqS1 2 (by decide)).trans (hok.eq 2 (by decide) (by decide))) (show mB σ 2 < 4 by omega) (by decide) dX8_drum_54 ?_
        refine g_nm (fun S3 hS3 => ?_)
        have kqS3 := kq_pr hS3 (by decide) (kqS1)
        refine g_aload_n S 0 dX8_drum_55 rfl ?_
        refine g_aload_n S 0 dX8_drum_56 rfl ?_
        refine gg7 S hC hiX8 (by decide) rfl 2 (by decide) (by decide +kernel) dX8_drum_57 ?_
        refine g_const S dX8_drum_60 (v := 0) rfl ?_
        refine g_iload_n S 2 dX8_drum_61 rfl ?_
        refine g_callv (g_runV S hC (As := [.int (S3.1 57 2), .int (0 : Int32), .int b]) (rest := []) (k := 57) (by decide) rfl (by decide) rfl (kX8_letDrum l E S3 (S3.1 57 2) (mB σ 2) ((kqS3 2 (by decide)).trans (hok.eq 2 (by decide) (by decide))) (by omega) (0 : Int32) 0 rfl (by decide) b) (cwV 3 S.2.2.2.2 gX8_drum_X8_letDrum rfl rfl rfl (by decide +kernel) ⟨Nat.le_of_ble_eq_true rfl, Nat.le_of_ble_eq_true rfl⟩) rfl rfl (Nat.le_of_ble_eq_true rfl) dX8_drum_62 ⟨Nat.le_of_ble_eq_true rfl, Nat.le_of_ble_eq_true rfl⟩) ?_
        refine g_nm (fun S4 hS4 => ?_)
        have kqS4 := kq_c hS4 (fun i hi => congrFun (fX8_letDrum _ _ _ _ 57 (by decide) ) i) (kqS3)
        refine g_aload_n S 0 dX8_drum_65 rfl ?_
        refine g_aload_n S 0 dX8_drum_66 rfl ?_
        refine gg7 S hC hiX8 (by decide) rfl 2 (by decide) (by decide +kernel) dX8_drum_67 ?_
        refine g_const S dX8_drum_70 (v := 1) rfl ?_
        refine g_const S dX8_drum_71 (v := (-1)) rfl ?_
        refine g_callv (g_runV S hC (As := [.int (S4.1 57 2), .int (1 : Int32), .int (-1 : Int32)]) (rest := []) (k := 57) (by decide) rfl (by decide) rfl (kX8_letDrum l E S4 (S4.1 57 2) (mB σ 2) ((kqS4 2 (by decide)).trans (hok.eq 2 (by decide) (by decide))) (by omega) (1 : Int32) 1 rfl (by decide) (-1 : Int32)) (cwV 3 S.2.2.2.2 gX8_drum_X8_letDrum rfl rfl rfl (by decide +kernel) ⟨Nat.le_of_ble_eq_true rfl, Nat.le_of_ble_eq_true rfl⟩) rfl rfl (Nat.le_of_ble_eq_true rfl) dX8_drum_72 ⟨Nat.le_of_ble_eq_true rfl, Nat.le_of_ble_eq_true rfl⟩) ?_
        refine g_nm (fun S5 hS5 => ?_)
        have kqS5 := kq_c hS5 (fun i hi => congrFun (fX8_letDrum _ _ _ _ 57 (by decide) ) i) (kqS4)
        refine g_aload_n S 0 dX8_drum_75 rfl ?_
        refine g_dup S dX8_drum_76 rfl ?_
        refine gg7 S hC hiX8 (by decide) rfl 2 (by decide) (by decide +kernel) dX8_drum_77 ?_
        refine g_const S dX8_drum_80 (v := 1) rfl ?_
        refine g_iadd S dX8_drum_81 ?_
        refine gp7 S hC hiX8 (by decide) rfl 2 (by decide) (by decide +kernel) dX8_drum_82 ?_
        refine g_nm (fun S6 hS6 => ?_)
        refine g_aload_n S 0 dX8_drum_85 rfl ?_
        refine gg7 S hC hiX8 (by decide) rfl 2 (by decide) (by decide +kernel) dX8_drum_86 ?_
        refine g_const S dX8_drum_89 (v := 1) rfl ?_
        refine g_isub S dX8_drum_90 ?_
        exact g_iret S hr hlocks dX8_drum_91 (by subst hS6 hS5 hS4 hS3 hS1; unfold sX8_drum_r; (try dsimp only); rw [if_neg c_1, if_neg c_2, if_neg c_3]) (by subst hS6 hS5 hS4 hS3 hS1; unfold sX8_drum_s; (try dsimp only); rw [if_neg c_1, if_neg c_2, if_neg c_3]) (Nat.le_of_ble_eq_true rfl) (Nat.le_of_ble_eq_true rfl)
      · skip
        refine g_aload_n S 0 dX8_drum_39 rfl ?_
        refine g_const S dX8_drum_40 (v := 2) rfl ?_
        refine g_calli (g_runV S hC (As := [.int (2 : Int32)]) (rest := []) (k := 57) (by decide) rfl (by decide) rfl (kX8_fail l E S1 (2 : Int32)) (cwV 1 S.2.2.2.2 gX8_drum_X8_fail rfl rfl rfl (by decide +kernel) ⟨Nat.le_of_ble_eq_true rfl, Nat.le_of_ble_eq_true rfl⟩) rfl rfl (Nat.le_of_ble_eq_true rfl) dX8_drum_41 ⟨Nat.le_of_ble_eq_true rfl, Nat.le_of_ble_eq_true rfl⟩) ?_
        refine g_nm (fun S7 hS7 => ?_)
        exact g_iret S hr hlocks dX8_drum_44 (by subst hS7 hS1; unfold sX8_drum_r; (try dsimp only); rw [if_neg c_1, if_neg c_2, if_pos c_3]) (by subst hS7 hS1; unfold sX8_drum_s; (try dsimp only); rw [if_neg c_1, if_neg c_2, if_pos c_3]) (Nat.le_of_ble_eq_true rfl) (Nat.le_of_ble_eq_true rfl)
    · skip
      refine g_aload_n S 0 dX8_drum_25 rfl ?_
      refine g_const S dX8_drum_26 (v := 1) rfl ?_
      refine g_calli (g_runV S hC (As := [.int (1 : Int32)]) (rest := []) (k := 57) (by decide) rfl (by decide) rfl (kX8_fail l E S1 (1 : Int32)) (cwV 1 S.2.2.2.2 gX8_drum_X8_fail rfl rfl rfl (by decide +kernel) ⟨Nat.le_of_ble_eq_true rfl, Nat.le_of_ble_eq_true rfl⟩) rfl rfl (Nat.le_of_ble_eq_true rfl) dX8_drum_27 ⟨Nat.le_of_ble_eq_true rfl, Nat.le_of_ble_eq_true rfl⟩) ?_
      refine g_nm (fun S8 hS8 => ?_)
      exact g_iret S hr hlocks dX8_drum_30 (by subst hS8 hS1; unfold sX8_drum_r; (try dsimp only); rw [if_neg c_1, if_pos c_2]) (by subst hS8 hS1; unfold sX8_drum_s; (try dsimp only); rw [if_neg c_1, if_pos c_2]) (Nat.le_of_ble_eq_true rfl) (Nat.le_of_ble_eq_true rfl)
def sX8_smuggler_r (σ : gS) (a : Int32) (b : Int32) : Int32 := let S1 := gu σ 57 0 (0 : Int32); if sX8_isIn_r S1 a (2 : Int32) (14 : Int32) = 0 then (sX8_fail_r S1 (1 : Int32)) else (if sX8_isIn_r S1 b (1 : Int32) (30 : Int32) = 0 then (sX8_fail_r S1 (1 : Int32)) else (if S1.1 57 3 = (4 : Int32) then (sX8_fail_r S1 (2 : Int32)) else (let S3 := gu S1 60 (2 * (mB σ 3)) a; let S4 := gu S3 60 ((2 * (mB σ 3)) + 1) b; let S5 := gu S4 57 3 ((S4.1 57 3) + (1 : Int32)); (S5.1 57 3) - (1 : Int32))))
def sX8_smuggler_s (σ : gS) (a : Int32) (b : Int32) : gS := let S1 := gu σ 57 0 (0 : Int32); if sX8_isIn_r S1 a (2 : Int32) (14 : Int32) = 0 then (let S2 := sX8_fail_s S1 (1 : Int32); S2) else (if sX8_isIn_r S1 b (1 : Int32) (30 : Int32) = 0 then (let S7 := sX8_fail_s S1 (1 : Int32); S7) else (if S1.1 57 3 = (4 : Int32) then (let S6 := sX8_fail_s S1 (2 : Int32); S6) else (let S3 := gu S1 60 (2 * (mB σ 3)) a; let S4 := gu S3 60 ((2 * (mB σ 3)) + 1) b; let S5 := gu S4 57 3 ((S4.1 57 3) + (1 : Int32)); S5)))
theorem fX8_smuggler (σ : gS) (a : Int32) (b : Int32) (x : Nat) (hx57 : x ≠ 57) (hx60 : x ≠ 60) : (sX8_smuggler_s σ a b).1 x = σ.1 x := by
  unfold sX8_smuggler_s
  (try dsimp only)
  (repeat' split)
  all_goals (simp [gu_ne, gcp, fX8_fail, *])
set_option maxRecDepth 100000 in
set_option maxHeartbeats 4000000 in
theorem kX8_smuggler (l : Launch) (E : gT) (σ : gS) (a : Int32) (b : Int32) (hok : mOK σ) : gMi l yX8_smuggler wsX8_smuggler ({ frames := 1, cells := 0, slots := 0, locals := 22 }) 0 0 E σ [.ref (E.2.2 57), .int a, .int b] (sX8_smuggler_r σ a b) (sX8_smuggler_s σ a b) := by
  refine g_met (mc := 0) (ms := 0) (nL := 3) (ret := (some .int)) (by decide) rfl (lv := [(0, .ref (E.2.2 57)), (1, .int a), (2, .int b)]) rfl (Nat.le_of_ble_eq_true rfl) ?_
  intro p e s m below meth c S hr hlocks hC
  have hiX8 : ∀ w ∈ wsX80, w ∈ wsX8_smuggler := by decide +kernel
  refine g_aload_n S 0 dX8_smuggler_0 rfl ?_
  refine g_const S dX8_smuggler_1 (v := 0) rfl ?_
  refine gp7 S hC hiX8 (by decide) rfl 0 (by decide) (by decide +kernel) dX8_smuggler_2 ?_
  refine g_nm (fun S1 hS1 => ?_)
  have kqS1 := kq_p0 hS1 (kq_0)
  have okS1 := mOK.p0 hS1 (hok)
  refine g_iload_n S 1 dX8_smuggler_5 rfl ?_
  refine g_const S dX8_smuggler_6 (v := 2) rfl ?_
  refine g_bipush S dX8_smuggler_7 (v := 14) rfl ?_
  refine g_calli (g_runS S hC (As := [.int a, .int (2 : Int32), .int (14 : Int32)]) (rest := []) (kX8_isIn l E S1 a (2 : Int32) (14 : Int32)) (va_cwS 3 S.2.2.2.2 gX8_smuggler_X8_isIn rfl rfl rfl (by decide +kernel) ⟨Nat.le_of_ble_eq_true rfl, Nat.le_of_ble_eq_true rfl⟩) rfl rfl (Nat.le_of_ble_eq_true rfl) dX8_smuggler_9 ⟨Nat.le_of_ble_eq_true rfl, Nat.le_of_ble_eq_true rfl⟩) ?_
  refine g_if_eq S 25 dX8_smuggler_12 (by decide) (fun c_1 => ?_) (fun c_1 => ?_)
  · skip
    refine g_aload_n S 0 dX8_smuggler_25 rfl ?_
    refine g_const S dX8_smuggler_26 (v := 1) rfl ?_
    refine g_calli (g_runV S hC (As := [.int (1 : Int32)]) (rest := []) (k := 57) (by decide) rfl (by decide) rfl (kX8_fail l E S1 (1 : Int32)) (cwV 1 S.2.2.2.2 gX8_smuggler_X8_fail rfl rfl rfl (by decide +kernel) ⟨Nat.le_of_ble_eq_true rfl, Nat.le_of_ble_eq_true rfl⟩) rfl rfl (Nat.le_of_ble_eq_true rfl) dX8_smuggler_27 ⟨Nat.le_of_ble_eq_true rfl, Nat.le_of_ble_eq_true rfl⟩) ?_
    refine g_nm (fun S2 hS2 => ?_)
    exact g_iret S hr hlocks dX8_smuggler_30 (by subst hS2 hS1; unfold sX8_smuggler_r; (try dsimp only); rw [if_pos c_1]) (by subst hS2 hS1; unfold sX8_smuggler_s; (try dsimp only); rw [if_pos c_1]) (Nat.le_of_ble_eq_true rfl) (Nat.le_of_ble_eq_true rfl)
  · skip
    refine g_iload_n S 2 dX8_smuggler_15 rfl ?_
    refine g_const S dX8_smuggler_16 (v := 1) rfl ?_
    refine g_bipush S dX8_smuggler_17 (v := 30) rfl ?_
    refine g_calli (g_runS S hC (As := [.int b, .int (1 : Int32), .int (30 : Int32)]) (rest := []) (kX8_isIn l E S1 b (1 : Int32) (30 : Int32)) (va_cwS 3 S.2.2.2.2 gX8_smuggler_X8_isIn rfl rfl rfl (by decide +kernel) ⟨Nat.le_of_ble_eq_true rfl, Nat.le_of_ble_eq_true rfl⟩) rfl rfl (Nat.le_of_ble_eq_true rfl) dX8_smuggler_19 ⟨Nat.le_of_ble_eq_true rfl, Nat.le_of_ble_eq_true rfl⟩) ?_
    refine g_if_ne S 31 dX8_smuggler_22 (by decide) (fun c_2 => ?_) (fun c_2 => ?_)
    · skip
      refine g_aload_n S 0 dX8_smuggler_31 rfl ?_
      refine gg7 S hC hiX8 (by decide) rfl 3 (by decide) (by decide +kernel) dX8_smuggler_32 ?_
      refine g_const S dX8_smuggler_35 (v := 4) rfl ?_
      refine g_icmp_ne S 45 dX8_smuggler_36 (by decide) (fun c_3 => ?_) (fun c_3 => ?_)
      · skip
        have hle := hok.le3
        have hlt : mB σ 3 < 4 := mcnt (m := 4) ((kqS1 3 (by decide)).trans (hok.eq 3 (by decide) (by decide))) hle (by assumption)
        refine g_aload_n S 0 dX8_smuggler_45 rfl ?_
        refine gg7r S hC hiX8 (by decide) rfl 7 (by decide) (by decide +kernel) dX8_smuggler_46 ?_
        refine g_const S dX8_smuggler_49 (v := 2) rfl ?_
        refine g_aload_n S 0 dX8_smuggler_50 rfl ?_
        refine gg7 S hC hiX8 (by decide) rfl 3 (by decide) (by decide +kernel) dX8_smuggler_51 ?_
        refine g_imul S dX8_smuggler_54 ?_
        refine g_iload_n S 1 dX8_smuggler_55 rfl ?_
        refine g_iast S hC (by decide) rfl (2 * (mB σ 3)) (gI_mul rfl ((kqS1 3 (by decide)).trans (hok.eq 3 (by decide) (by decide)))) (show 2 * (mB σ 3) < 8 by omega) (by decide) dX8_smuggler_56 ?_
        refine g_nm (fun S3 hS3 => ?_)
        have kqS3 := kq_pr hS3 (by decide) (kqS1)
        refine g_aload_n S 0 dX8_smuggler_57 rfl ?_
        refine gg7r S hC hiX8 (by decide) rfl 7 (by decide) (by decide +kernel) dX8_smuggler_58 ?_
        refine g_const S dX8_smuggler_61 (v := 2) rfl ?_
        refine g_aload_n S 0 dX8_smuggler_62 rfl ?_
        refine gg7 S hC hiX8 (by decide) rfl 3 (by decide) (by decide +kernel) dX8_smuggler_63 ?_
        refine g_imul S dX8_smuggler_66 ?_
        refine g_const S dX8_smuggler_67 (v := 1) rfl ?_
        refine g_iadd S dX8_smuggler_68 ?_
        refine g_iload_n S 2 dX8_smuggler_69 rfl ?_
        refine g_iast S hC (by decide) rfl ((2 * (mB σ 3)) + 1) (gI_add (gI_mul rfl ((kqS3 3 (by decide)).trans (hok.eq 3 (by decide) (by decide)))) rfl) (show (2 * (mB σ 3)) + 1 < 8 by omega) (by decide) dX8_smuggler_70 ?_
        refine g_nm (fun S4 hS4 => ?_)
        have kqS4 := kq_pr hS4 (by decide) (kqS3)
        refine g_aload_n S 0 dX8_smuggler_71 rfl ?_
        refine g_dup S dX8_smuggler_72 rfl ?_
        refine gg7 S hC hiX8 (by decide) rfl 3 (by decide) (by decide +kernel) dX8_smuggler_73 ?_
        refine g_const S dX8_smuggler_76 (v := 1) rfl ?_
        refine g_iadd S dX8_smuggler_77 ?_
        refine gp7 S hC hiX8 (by decide) rfl 3 (by decide) (by decide +kernel) dX8_smuggler_78 ?_
        refine g_nm (fun S5 hS5 => ?_)
        refine g_aload_n S 0 dX8_smuggler_81 rfl ?_
        refine gg7 S hC hiX8 (by decide) rfl 3 (by decide) (by decide +kernel) dX8_smuggler_82 ?_
        refine g_const S dX8_smuggler_85 (v := 1) rfl ?_
        refine g_isub S dX8_smuggler_86 ?_
        exact g_iret S hr hlocks dX8_smuggler_87 (by subst hS5 hS4 hS3 hS1; unfold sX8_smuggler_r; (try dsimp only); rw [if_neg c_1, if_neg c_2, if_neg c_3]) (by subst hS5 hS4 hS3 hS1; unfold sX8_smuggler_s; (try dsimp only); rw [if_neg c_1, if_neg c_2, if_neg c_3]) (Nat.le_of_ble_eq_true rfl) (Nat.le_of_ble_eq_true rfl)
      · skip
        refine g_aload_n S 0 dX8_smuggler_39 rfl ?_
        refine g_const S dX8_smuggler_40 (v := 2) rfl ?_
        refine g_calli (g_runV S hC (As := [.int (2 : Int32)]) (rest := []) (k := 57) (by decide) rfl (by decide) rfl (kX8_fail l E S1 (2 : Int32)) (cwV 1 S.2.2.2.2 gX8_smuggler_X8_fail rfl rfl rfl (by decide +kernel) ⟨Nat.le_of_ble_eq_true rfl, Nat.le_of_ble_eq_true rfl⟩) rfl rfl (Nat.le_of_ble_eq_true rfl) dX8_smuggler_41 ⟨Nat.le_of_ble_eq_true rfl, Nat.le_of_ble_eq_true rfl⟩) ?_
        refine g_nm (fun S6 hS6 => ?_)
        exact g_iret S hr hlocks dX8_smuggler_44 (by subst hS6 hS1; unfold sX8_smuggler_r; (try dsimp only); rw [if_neg c_1, if_neg c_2, if_pos c_3]) (by subst hS6 hS1; unfold sX8_smuggler_s; (try dsimp only); rw [if_neg c_1, if_neg c_2, if_pos c_3]) (Nat.le_of_ble_eq_true rfl) (Nat.le_of_ble_eq_true rfl)
    · skip
      refine g_aload_n S 0 dX8_smuggler_25 rfl ?_
      refine g_const S dX8_smuggler_26 (v := 1) rfl ?_
      refine g_calli (g_runV S hC (As := [.int (1 : Int32)]) (rest := []) (k := 57) (by decide) rfl (by decide) rfl (kX8_fail l E S1 (1 : Int32)) (cwV 1 S.2.2.2.2 gX8_smuggler_X8_fail rfl rfl rfl (by decide +kernel) ⟨Nat.le_of_ble_eq_true rfl, Nat.le_of_ble_eq_true rfl⟩) rfl rfl (Nat.le_of_ble_eq_true rfl) dX8_smuggler_27 ⟨Nat.le_of_ble_eq_true rfl, Nat.le_of_ble_eq_true rfl⟩) ?_
      refine g_nm (fun S7 hS7 => ?_)
      exact g_iret S hr hlocks dX8_smuggler_30 (by subst hS7 hS1; unfold sX8_smuggler_r; (try dsimp only); rw [if_neg c_1, if_pos c_2]) (by subst hS7 hS1; unfold sX8_smuggler_s; (try dsimp only); rw [if_neg c_1, if_pos c_2]) (Nat.le_of_ble_eq_true rfl) (Nat.le_of_ble_eq_true rfl)
def sX8_card_r (σ : gS) (a : Int32) (b : Int32) : Int32 := let S1 := gu σ 57 0 (0 : Int32); if sX8_isIn_r S1 a (1 : Int32) (9 : Int32) = 0 then (sX8_fail_r S1 (1 : Int32)) else (if sX8_isIn_r S1 b (0 : Int32) (10 : Int32) = 0 then (sX8_fail_r S1 (1 : Int32)) else (if S1.1 57 4 = (10 : Int32) then (sX8_fail_r S1 (2 : Int32)) else (let S3 := gu S1 61 (2 * (mB σ 4)) a; let S4 := gu S3 61 ((2 * (mB σ 4)) + 1) b; let S5 := sX8_moreCard_s S4 (mB σ 4) 0 a; let S6 := gu S5 57 4 ((S5.1 57 4) + (1 : Int32)); (S6.1 57 4) - (1 : Int32))))
def sX8_card_s (σ : gS) (a : Int32) (b : Int32) : gS := let S1 := gu σ 57 0 (0 : Int32); if sX8_isIn_r S1 a (1 : Int32) (9 : Int32) = 0 then (let S2 := sX8_fail_s S1 (1 : Int32); S2) else (if sX8_isIn_r S1 b (0 : Int32) (10 : Int32) = 0 then (let S8 := sX8_fail_s S1 (1 : Int32); S8) else (if S1.1 57 4 = (10 : Int32) then (let S7 := sX8_fail_s S1 (2 : Int32); S7) else (let S3 := gu S1 61 (2 * (mB σ 4)) a; let S4 := gu S3 61 ((2 * (mB σ 4)) + 1) b; let S5 := sX8_moreCard_s S4 (mB σ 4) 0 a; let S6 := gu S5 57 4 ((S5.1 57 4) + (1 : Int32)); S6)))
theorem fX8_card (σ : gS) (a : Int32) (b : Int32) (x : Nat) (hx57 : x ≠ 57) (hx61 : x ≠ 61) (hx62 : x ≠ 62) : (sX8_card_s σ a b).1 x = σ.1 x := by
  unfold sX8_card_s
  (try dsimp only)
  (repeat' split)
  all_goals (simp [gu_ne, gcp, fX8_fail, fX8_moreCard, *])
set_option maxRecDepth 100000 in
set_option maxHeartbeats 4000000 in
theorem kX8_card (l : Launch) (E : gT) (σ : gS) (a : Int32) (b : Int32) (hok : mOK σ) : gMi l yX8_card wsX8_card ({ frames := 1, cells := 0, slots := 0, locals := 23 }) 0 0 E σ [.ref (E.2.2 57), .int a, .int b] (sX8_card_r σ a b) (sX8_card_s σ a b) := by
  refine g_met (mc := 0) (ms := 0) (nL := 3) (ret := (some .int)) (by decide) rfl (lv := [(0, .ref (E.2.2 57)), (1, .int a), (2, .int b)]) rfl (Nat.le_of_ble_eq_true rfl) ?_
  intro p e s m below meth c S hr hlocks hC
  have hiX8 : ∀ w ∈ wsX80, w ∈ wsX8_card := by decide +kernel
  refine g_aload_n S 0 dX8_card_0 rfl ?_
  refine g_const S dX8_card_1 (v := 0) rfl ?_
  refine gp7 S hC hiX8 (by decide) rfl 0 (by decide) (by decide +kernel) dX8_card_2 ?_
  refine g_nm (fun S1 hS1 => ?_)
  have kqS1 := kq_p0 hS1 (kq_0)
  have okS1 := mOK.p0 hS1 (hok)
  refine g_iload_n S 1 dX8_card_5 rfl ?_
  refine g_const S dX8_card_6 (v := 1) rfl ?_
  refine g_bipush S dX8_card_7 (v := 9) rfl ?_
  refine g_calli (g_runS S hC (As := [.int a, .int (1 : Int32), .int (9 : Int32)]) (rest := []) (kX8_isIn l E S1 a (1 : Int32) (9 : Int32)) (va_cwS 3 S.2.2.2.2 gX8_card_X8_isIn rfl rfl rfl (by decide +kernel) ⟨Nat.le_of_ble_eq_true rfl, Nat.le_of_ble_eq_true rfl⟩) rfl rfl (Nat.le_of_ble_eq_true rfl) dX8_card_9 ⟨Nat.le_of_ble_eq_true rfl, Nat.le_of_ble_eq_true rfl⟩) ?_
  refine g_if_eq S 25 dX8_card_12 (by decide) (fun c_1 => ?_) (fun c_1 => ?_)
  · skip
    refine g_aload_n S 0 dX8_card_25 rfl ?_
    refine g_const S dX8_card_26 (v := 1) rfl ?_
    refine g_calli (g_runV S hC (As := [.int (1 : Int32)]) (rest := []) (k := 57) (by decide) rfl (by decide) rfl (kX8_fail l E S1 (1 : Int32)) (cwV 1 S.2.2.2.2 gX8_card_X8_fail rfl rfl rfl (by decide +kernel) ⟨Nat.le_of_ble_eq_true rfl, Nat.le_of_ble_eq_true rfl⟩) rfl rfl (Nat.le_of_ble_eq_true rfl) dX8_card_27 ⟨Nat.le_of_ble_eq_true rfl, Nat.le_of_ble_eq_true rfl⟩) ?_
    refine g_nm (fun S2 hS2 => ?_)
    exact g_iret S hr hlocks dX8_card_30 (by subst hS2 hS1; unfold sX8_card_r; (try dsimp only); rw [if_pos c_1]) (by subst hS2 hS1; unfold sX8_card_s; (try dsimp only); rw [if_pos c_1]) (Nat.le_of_ble_eq_true rfl) (Nat.le_of_ble_eq_true rfl)
  · skip
    refine g_iload_n S 2 dX8_card_15 rfl ?_
    refine g_const S dX8_card_16 (v := 0) rfl ?_
    refine g_bipush S dX8_card_17 (v := 10) rfl ?_
    refine g_calli (g_runS S hC (As := [.int b, .int (0 : Int32), .int (10 : Int32)]) (rest := []) (kX8_isIn l E S1 b (0 : Int32) (10 : Int32)) (va_cwS 3 S.2.2.2.2 gX8_card_X8_isIn rfl rfl rfl (by decide +kernel) ⟨Nat.le_of_ble_eq_true rfl, Nat.le_of_ble_eq_true rfl⟩) rfl rfl (Nat.le_of_ble_eq_true rfl) dX8_card_19 ⟨Nat.le_of_ble_eq_true rfl, Nat.le_of_ble_eq_true rfl⟩) ?_
    refine g_if_ne S 31 dX8_card_22 (by decide) (fun c_2 => ?_) (fun c_2 => ?_)
    · skip
      refine g_aload_n S 0 dX8_card_31 rfl ?_
      refine gg7 S hC hiX8 (by decide) rfl 4 (by decide) (by decide +kernel) dX8_card_32 ?_
      refine g_bipush S dX8_card_35 (v := 10) rfl ?_
      refine g_icmp_ne S 46 dX8_card_37 (by decide) (fun c_3 => ?_) (fun c_3 => ?_)
      · skip
        have hle := hok.le4
        have hlt : mB σ 4 < 10 := mcnt (m := 10) ((kqS1 4 (by decide)).trans (hok.eq 4 (by decide) (by decide))) hle (by assumption)
        refine g_aload_n S 0 dX8_card_46 rfl ?_
        refine gg7r S hC hiX8 (by decide) rfl 8 (by decide) (by decide +kernel) dX8_card_47 ?_
        refine g_const S dX8_card_50 (v := 2) rfl ?_
        refine g_aload_n S 0 dX8_card_51 rfl ?_
        refine gg7 S hC hiX8 (by decide) rfl 4 (by decide) (by decide +kernel) dX8_card_52 ?_
        refine g_imul S dX8_card_55 ?_
        refine g_iload_n S 1 dX8_card_56 rfl ?_
        refine g_iast S hC (by decide) rfl (2 * (mB σ 4)) (gI_mul rfl ((kqS1 4 (by decide)).trans (hok.eq 4 (by decide) (by decide)))) (show 2 * (mB σ 4) < 20 by omega) (by decide) dX8_card_57 ?_
        refine g_nm (fun S3 hS3 => ?_)
        have kqS3 := kq_pr hS3 (by decide) (kqS1)
        refine g_aload_n S 0 dX8_card_58 rfl ?_
        refine gg7r S hC hiX8 (by decide) rfl 8 (by decide) (by decide +kernel) dX8_card_59 ?_
        refine g_const S dX8_card_62 (v := 2) rfl ?_
        refine g_aload_n S 0 dX8_card_63 rfl ?_
        refine gg7 S hC hiX8 (by decide) rfl 4 (by decide) (by decide +kernel) dX8_card_64 ?_
        refine g_imul S dX8_card_67 ?_
        refine g_const S dX8_card_68 (v := 1) rfl ?_
        refine g_iadd S dX8_card_69 ?_
        refine g_iload_n S 2 dX8_card_70 rfl ?_
        refine g_iast S hC (by decide) rfl ((2 * (mB σ 4)) + 1) (gI_add (gI_mul rfl ((kqS3 4 (by decide)).trans (hok.eq 4 (by decide) (by decide)))) rfl) (show (2 * (mB σ 4)) + 1 < 20 by omega) (by decide) dX8_card_71 ?_
        refine g_nm (fun S4 hS4 => ?_)
        have kqS4 := kq_pr hS4 (by decide) (kqS3)
        refine g_aload_n S 0 dX8_card_72 rfl ?_
        refine g_aload_n S 0 dX8_card_73 rfl ?_
        refine gg7 S hC hiX8 (by decide) rfl 4 (by decide) (by decide +kernel) dX8_card_74 ?_
        refine g_const S dX8_card_77 (v := 0) rfl ?_
        refine g_iload_n S 1 dX8_card_78 rfl ?_
        refine g_callv (g_runV S hC (As := [.int (S4.1 57 4), .int (0 : Int32), .int a]) (rest := []) (k := 57) (by decide) rfl (by decide) rfl (kX8_moreCard l E S4 (S4.1 57 4) (mB σ 4) ((kqS4 4 (by decide)).trans (hok.eq 4 (by decide) (by decide))) (by omega) (0 : Int32) 0 rfl (by decide) a) (cwV 3 S.2.2.2.2 gX8_card_X8_moreCard rfl rfl rfl (by decide +kernel) ⟨Nat.le_of_ble_eq_true rfl, Nat.le_of_ble_eq_true rfl⟩) rfl rfl (Nat.le_of_ble_eq_true rfl) dX8_card_79 ⟨Nat.le_of_ble_eq_true rfl, Nat.le_of_ble_eq_true rfl⟩) ?_
        refine g_nm (fun S5 hS5 => ?_)
        have kqS5 := kq_c hS5 (fun i hi => congrFun (fX8_moreCard _ _ _ _ 57 (by decide) ) i) (kqS4)
        refine g_aload_n S 0 dX8_card_82 rfl ?_
        refine g_dup S dX8_card_83 rfl ?_
        refine gg7 S hC hiX8 (by decide) rfl 4 (by decide) (by decide +kernel) dX8_card_84 ?_
        refine g_const S dX8_card_87 (v := 1) rfl ?_
        refine g_iadd S dX8_card_88 ?_
        refine gp7 S hC hiX8 (by decide) rfl 4 (by decide) (by decide +kernel) dX8_card_89 ?_
        refine g_nm (fun S6 hS6 => ?_)
        refine g_aload_n S 0 dX8_card_92 rfl ?_
        refine gg7 S hC hiX8 (by decide) rfl 4 (by decide) (by decide +kernel) dX8_card_93 ?_
        refine g_const S dX8_card_96 (v := 1) rfl ?_
        refine g_isub S dX8_card_97 ?_
        exact g_iret S hr hlocks dX8_card_98 (by subst hS6 hS5 hS4 hS3 hS1; unfold sX8_card_r; (try dsimp only); rw [if_neg c_1, if_neg c_2, if_neg c_3]) (by subst hS6 hS5 hS4 hS3 hS1; unfold sX8_card_s; (try dsimp only); rw [if_neg c_1, if_neg c_2, if_neg c_3]) (Nat.le_of_ble_eq_true rfl) (Nat.le_of_ble_eq_true rfl)
      · skip
        refine g_aload_n S 0 dX8_card_40 rfl ?_
        refine g_const S dX8_card_41 (v := 2) rfl ?_
        refine g_calli (g_runV S hC (As := [.int (2 : Int32)]) (rest := []) (k := 57) (by decide) rfl (by decide) rfl (kX8_fail l E S1 (2 : Int32)) (cwV 1 S.2.2.2.2 gX8_card_X8_fail rfl rfl rfl (by decide +kernel) ⟨Nat.le_of_ble_eq_true rfl, Nat.le_of_ble_eq_true rfl⟩) rfl rfl (Nat.le_of_ble_eq_true rfl) dX8_card_42 ⟨Nat.le_of_ble_eq_true rfl, Nat.le_of_ble_eq_true rfl⟩) ?_
        refine g_nm (fun S7 hS7 => ?_)
        exact g_iret S hr hlocks dX8_card_45 (by subst hS7 hS1; unfold sX8_card_r; (try dsimp only); rw [if_neg c_1, if_neg c_2, if_pos c_3]) (by subst hS7 hS1; unfold sX8_card_s; (try dsimp only); rw [if_neg c_1, if_neg c_2, if_pos c_3]) (Nat.le_of_ble_eq_true rfl) (Nat.le_of_ble_eq_true rfl)
    · skip
      refine g_aload_n S 0 dX8_card_25 rfl ?_
      refine g_const S dX8_card_26 (v := 1) rfl ?_
      refine g_calli (g_runV S hC (As := [.int (1 : Int32)]) (rest := []) (k := 57) (by decide) rfl (by decide) rfl (kX8_fail l E S1 (1 : Int32)) (cwV 1 S.2.2.2.2 gX8_card_X8_fail rfl rfl rfl (by decide +kernel) ⟨Nat.le_of_ble_eq_true rfl, Nat.le_of_ble_eq_true rfl⟩) rfl rfl (Nat.le_of_ble_eq_true rfl) dX8_card_27 ⟨Nat.le_of_ble_eq_true rfl, Nat.le_of_ble_eq_true rfl⟩) ?_
      refine g_nm (fun S8 hS8 => ?_)
      exact g_iret S hr hlocks dX8_card_30 (by subst hS8 hS1; unfold sX8_card_r; (try dsimp only); rw [if_neg c_1, if_pos c_2]) (by subst hS8 hS1; unfold sX8_card_s; (try dsimp only); rw [if_neg c_1, if_pos c_2]) (Nat.le_of_ble_eq_true rfl) (Nat.le_of_ble_eq_true rfl)
def sX8_change_r (σ : gS) (wn : Nat) (a : Int32) (b : Int32) : Int32 := if sX8_isIn_r σ a (0 : Int32) b = 0 then (sX8_fail_r σ (1 : Int32)) else (σ.1 62 wn)
def sX8_change_s (σ : gS) (wn : Nat) (a : Int32) (b : Int32) : gS := if sX8_isIn_r σ a (0 : Int32) b = 0 then (let S2 := sX8_fail_s σ (1 : Int32); S2) else (let S1 := gu σ 62 wn a; S1)
theorem fX8_change (σ : gS) (wn : Nat) (a : Int32) (b : Int32) (x : Nat) (hx57 : x ≠ 57) (hx62 : x ≠ 62) : (sX8_change_s σ wn a b).1 x = σ.1 x := by
  unfold sX8_change_s
  (try dsimp only)
  (repeat' split)
  all_goals (simp [gu_ne, gcp, fX8_fail, *])
set_option maxRecDepth 100000 in
set_option maxHeartbeats 4000000 in
theorem kX8_change (l : Launch) (E : gT) (σ : gS) (w : Int32) (wn : Nat) (hw : w = nI wn) (hwn : wn < 72) (a : Int32) (b : Int32) : gMi l yX8_change wsX8_change ({ frames := 1, cells := 0, slots := 0, locals := 22 }) 0 0 E σ [.ref (E.2.2 57), .int w, .int a, .int b] (sX8_change_r σ wn a b) (sX8_change_s σ wn a b) := by
  refine g_met (mc := 0) (ms := 0) (nL := 5) (ret := (some .int)) (by decide) rfl (lv := [(0, .ref (E.2.2 57)), (1, .int w), (2, .int a), (3, .int b)]) rfl (Nat.le_of_ble_eq_true rfl) ?_
  intro p e s m below meth c S hr hlocks hC
  have hiX8 : ∀ w ∈ wsX80, w ∈ wsX8_change := by decide +kernel
  refine g_iload_n S 2 dX8_change_0 rfl ?_
  refine g_const S dX8_change_1 (v := 0) rfl ?_
  refine g_iload_n S 3 dX8_change_2 rfl ?_
  refine g_calli (g_runS S hC (As := [.int a, .int (0 : Int32), .int b]) (rest := []) (kX8_isIn l E σ a (0 : Int32) b) (va_cwS 3 S.2.2.2.2 gX8_change_X8_isIn rfl rfl rfl (by decide +kernel) ⟨Nat.le_of_ble_eq_true rfl, Nat.le_of_ble_eq_true rfl⟩) rfl rfl (Nat.le_of_ble_eq_true rfl) dX8_change_3 ⟨Nat.le_of_ble_eq_true rfl, Nat.le_of_ble_eq_true rfl⟩) ?_
  refine g_if_ne S 15 dX8_change_6 (by decide) (fun c_1 => ?_) (fun c_1 => ?_)
  · skip
    refine g_aload_n S 0 dX8_change_15 rfl ?_
    refine gg7r S hC hiX8 (by decide) rfl 9 (by decide) (by decide +kernel) dX8_change_16 ?_
    refine g_iload_n S 1 dX8_change_19 rfl ?_
    refine g_iald S hC (by decide) rfl wn hw (show wn < 72 by omega) (by decide) dX8_change_20 ?_
    refine g_istore S [(4, .int (σ.1 62 wn)), (0, .ref (E.2.2 57)), (1, .int w), (2, .int a), (3, .int b)] dX8_change_21 (by decide) rfl ?_
    refine g_aload_n S 1 dX8_change_23 rfl ?_
    refine gg7r S hC hiX8 (by decide) rfl 9 (by decide) (by decide +kernel) dX8_change_24 ?_
    refine g_iload_n S 2 dX8_change_27 rfl ?_
    refine g_iload_n S 3 dX8_change_28 rfl ?_
    refine g_iast S hC (by decide) rfl wn hw (show wn < 72 by omega) (by decide) dX8_change_29 ?_
    refine g_nm (fun S1 hS1 => ?_)
    refine g_iload S 0 dX8_change_30 rfl ?_
    exact g_iret S hr hlocks dX8_change_32 (by subst hS1; unfold sX8_change_r; (try dsimp only); rw [if_neg c_1]) (by subst hS1; unfold sX8_change_s; (try dsimp only); rw [if_neg c_1]) (Nat.le_of_ble_eq_true rfl) (Nat.le_of_ble_eq_true rfl)
  · skip
    refine g_aload_n S 0 dX8_change_9 rfl ?_
    refine g_const S dX8_change_10 (v := 1) rfl ?_
    refine g_calli (g_runV S hC (As := [.int (1 : Int32)]) (rest := []) (k := 57) (by decide) rfl (by decide) rfl (kX8_fail l E σ (1 : Int32)) (cwV 1 S.2.2.2.2 gX8_change_X8_fail rfl rfl rfl (by decide +kernel) ⟨Nat.le_of_ble_eq_true rfl, Nat.le_of_ble_eq_true rfl⟩) rfl rfl (Nat.le_of_ble_eq_true rfl) dX8_change_11 ⟨Nat.le_of_ble_eq_true rfl, Nat.le_of_ble_eq_true rfl⟩) ?_
    refine g_nm (fun S2 hS2 => ?_)
    exact g_iret S hr hlocks dX8_change_14 (by subst hS2; unfold sX8_change_r; (try dsimp only); rw [if_pos c_1]) (by subst hS2; unfold sX8_change_s; (try dsimp only); rw [if_pos c_1]) (Nat.le_of_ble_eq_true rfl) (Nat.le_of_ble_eq_true rfl)
def sX8_setPatrol_r (σ : gS) (a : Int32) : Int32 := let S1 := gu σ 57 0 (0 : Int32); sX8_change_r S1 8 a (127 : Int32)
def sX8_setPatrol_s (σ : gS) (a : Int32) : gS := let S1 := gu σ 57 0 (0 : Int32); let S2 := sX8_change_s S1 8 a (127 : Int32); S2
theorem fX8_setPatrol (σ : gS) (a : Int32) (x : Nat) (hx57 : x ≠ 57) (hx62 : x ≠ 62) : (sX8_setPatrol_s σ a).1 x = σ.1 x := by
  unfold sX8_setPatrol_s
  (try dsimp only)
  (repeat' split)
  all_goals (simp [gu_ne, gcp, fX8_change, *])
set_option maxRecDepth 100000 in
set_option maxHeartbeats 4000000 in
theorem kX8_setPatrol (l : Launch) (E : gT) (σ : gS) (a : Int32) : gMi l yX8_setPatrol wsX8_setPatrol ({ frames := 2, cells := 0, slots := 0, locals := 46 }) 0 0 E σ [.ref (E.2.2 57), .int a] (sX8_setPatrol_r σ a) (sX8_setPatrol_s σ a) := by
  refine g_met (mc := 0) (ms := 0) (nL := 2) (ret := (some .int)) (by decide) rfl (lv := [(0, .ref (E.2.2 57)), (1, .int a)]) rfl (Nat.le_of_ble_eq_true rfl) ?_
  intro p e s m below meth c S hr hlocks hC
  have hiX8 : ∀ w ∈ wsX80, w ∈ wsX8_setPatrol := by decide +kernel
  refine g_aload_n S 0 dX8_setPatrol_0 rfl ?_
  refine g_const S dX8_setPatrol_1 (v := 0) rfl ?_
  refine gp7 S hC hiX8 (by decide) rfl 0 (by decide) (by decide +kernel) dX8_setPatrol_2 ?_
  refine g_nm (fun S1 hS1 => ?_)
  have kqS1 := kq_p0 hS1 (kq_0)
  refine g_aload_n S 0 dX8_setPatrol_5 rfl ?_
  refine g_bipush S dX8_setPatrol_6 (v := 8) rfl ?_
  refine g_iload_n S 1 dX8_setPatrol_8 rfl ?_
  refine g_bipush S dX8_setPatrol_9 (v := 127) rfl ?_
  refine g_calli (g_runV S hC (As := [.int (8 : Int32), .int a, .int (127 : Int32)]) (rest := []) (k := 57) (by decide) rfl (by decide) rfl (kX8_change l E S1 (8 : Int32) 8 rfl (by decide) a (127 : Int32)) (cwV 3 S.2.2.2.2 gX8_setPatrol_X8_change rfl rfl rfl (by decide +kernel) ⟨Nat.le_of_ble_eq_true rfl, Nat.le_of_ble_eq_true rfl⟩) rfl rfl (Nat.le_of_ble_eq_true rfl) dX8_setPatrol_11 ⟨Nat.le_of_ble_eq_true rfl, Nat.le_of_ble_eq_true rfl⟩) ?_
  refine g_nm (fun S2 hS2 => ?_)
  exact g_iret S hr hlocks dX8_setPatrol_14 (by subst hS2 hS1; rfl) (by subst hS2 hS1; rfl) (Nat.le_of_ble_eq_true rfl) (Nat.le_of_ble_eq_true rfl)
def sX8_setShare_r (σ : gS) (a : Int32) : Int32 := let S1 := gu σ 57 0 (0 : Int32); sX8_change_r S1 7 a (10 : Int32)
def sX8_setShare_s (σ : gS) (a : Int32) : gS := let S1 := gu σ 57 0 (0 : Int32); let S2 := sX8_change_s S1 7 a (10 : Int32); S2
theorem fX8_setShare (σ : gS) (a : Int32) (x : Nat) (hx57 : x ≠ 57) (hx62 : x ≠ 62) : (sX8_setShare_s σ a).1 x = σ.1 x := by
  unfold sX8_setShare_s
  (try dsimp only)
  (repeat' split)
  all_goals (simp [gu_ne, gcp, fX8_change, *])
set_option maxRecDepth 100000 in
set_option maxHeartbeats 4000000 in
theorem kX8_setShare (l : Launch) (E : gT) (σ : gS) (a : Int32) : gMi l yX8_setShare wsX8_setShare ({ frames := 2, cells := 0, slots := 0, locals := 46 }) 0 0 E σ [.ref (E.2.2 57), .int a] (sX8_setShare_r σ a) (sX8_setShare_s σ a) := by
  refine g_met (mc := 0) (ms := 0) (nL := 2) (ret := (some .int)) (by decide) rfl (lv := [(0, .ref (E.2.2 57)), (1, .int a)]) rfl (Nat.le_of_ble_eq_true rfl) ?_
  intro p e s m below meth c S hr hlocks hC
  have hiX8 : ∀ w ∈ wsX80, w ∈ wsX8_setShare := by decide +kernel
  refine g_aload_n S 0 dX8_setShare_0 rfl ?_
  refine g_const S dX8_setShare_1 (v := 0) rfl ?_
  refine gp7 S hC hiX8 (by decide) rfl 0 (by decide) (by decide +kernel) dX8_setShare_2 ?_
  refine g_nm (fun S1 hS1 => ?_)
  have kqS1 := kq_p0 hS1 (kq_0)
  refine g_aload_n S 0 dX8_setShare_5 rfl ?_
  refine g_bipush S dX8_setShare_6 (v := 7) rfl ?_
  refine g_iload_n S 1 dX8_setShare_8 rfl ?_
  refine g_bipush S dX8_setShare_9 (v := 10) rfl ?_
  refine g_calli (g_runV S hC (As := [.int (7 : Int32), .int a, .int (10 : Int32)]) (rest := []) (k := 57) (by decide) rfl (by decide) rfl (kX8_change l E S1 (7 : Int32) 7 rfl (by decide) a (10 : Int32)) (cwV 3 S.2.2.2.2 gX8_setShare_X8_change rfl rfl rfl (by decide +kernel) ⟨Nat.le_of_ble_eq_true rfl, Nat.le_of_ble_eq_true rfl⟩) rfl rfl (Nat.le_of_ble_eq_true rfl) dX8_setShare_11 ⟨Nat.le_of_ble_eq_true rfl, Nat.le_of_ble_eq_true rfl⟩) ?_
  refine g_nm (fun S2 hS2 => ?_)
  exact g_iret S hr hlocks dX8_setShare_14 (by subst hS2 hS1; rfl) (by subst hS2 hS1; rfl) (Nat.le_of_ble_eq_true rfl) (Nat.le_of_ble_eq_true rfl)
def sX8_setHeat_r (σ : gS) (a : Int32) (b : Int32) : Int32 := let S1 := gu σ 57 0 (0 : Int32); if sX8_isDrum_r S1 a = 0 then (sX8_fail_r S1 (1 : Int32)) else (if sX8_isIn_r S1 b (0 : Int32) (9 : Int32) = 0 then (sX8_fail_r S1 (2 : Int32)) else (sX8_dr_r S1 a.toNatClampNeg 0))
def sX8_setHeat_s (σ : gS) (a : Int32) (b : Int32) : gS := let S1 := gu σ 57 0 (0 : Int32); if sX8_isDrum_r S1 a = 0 then (let S4 := sX8_fail_s S1 (1 : Int32); S4) else (if sX8_isIn_r S1 b (0 : Int32) (9 : Int32) = 0 then (let S3 := sX8_fail_s S1 (2 : Int32); S3) else (let S2 := sX8_letDrum_s S1 a.toNatClampNeg 0 b; S2))
theorem fX8_setHeat (σ : gS) (a : Int32) (b : Int32) (x : Nat) (hx57 : x ≠ 57) (hx62 : x ≠ 62) : (sX8_setHeat_s σ a b).1 x = σ.1 x := by
  unfold sX8_setHeat_s
  (try dsimp only)
  (repeat' split)
  all_goals (simp [gu_ne, gcp, fX8_fail, fX8_letDrum, *])
set_option maxRecDepth 100000 in
set_option maxHeartbeats 4000000 in
theorem kX8_setHeat (l : Launch) (E : gT) (σ : gS) (a : Int32) (b : Int32) (hok : mOK σ) : gMi l yX8_setHeat wsX8_setHeat ({ frames := 2, cells := 0, slots := 0, locals := 43 }) 0 0 E σ [.ref (E.2.2 57), .int a, .int b] (sX8_setHeat_r σ a b) (sX8_setHeat_s σ a b) := by
  refine g_met (mc := 0) (ms := 0) (nL := 4) (ret := (some .int)) (by decide) rfl (lv := [(0, .ref (E.2.2 57)), (1, .int a), (2, .int b)]) rfl (Nat.le_of_ble_eq_true rfl) ?_
  intro p e s m below meth c S hr hlocks hC
  have hiX8 : ∀ w ∈ wsX80, w ∈ wsX8_setHeat := by decide +kernel
  refine g_aload_n S 0 dX8_setHeat_0 rfl ?_
  refine g_const S dX8_setHeat_1 (v := 0) rfl ?_
  refine gp7 S hC hiX8 (by decide) rfl 0 (by decide) (by decide +kernel) dX8_setHeat_2 ?_
  refine g_nm (fun S1 hS1 => ?_)
  have kqS1 := kq_p0 hS1 (kq_0)
  have okS1 := mOK.p0 hS1 (hok)
  refine g_aload_n S 0 dX8_setHeat_5 rfl ?_
  refine g_iload_n S 1 dX8_setHeat_6 rfl ?_
  refine g_calli (g_runV S hC (As := [.int a]) (rest := []) (k := 57) (by decide) rfl (by decide) rfl (kX8_isDrum l E S1 a) (cwV 1 S.2.2.2.2 gX8_setHeat_X8_isDrum rfl rfl rfl (by decide +kernel) ⟨Nat.le_of_ble_eq_true rfl, Nat.le_of_ble_eq_true rfl⟩) rfl rfl (Nat.le_of_ble_eq_true rfl) dX8_setHeat_7 ⟨Nat.le_of_ble_eq_true rfl, Nat.le_of_ble_eq_true rfl⟩) ?_
  refine g_if_ne S 19 dX8_setHeat_10 (by decide) (fun c_1 => ?_) (fun c_1 => ?_)
  · skip
    refine g_iload_n S 2 dX8_setHeat_19 rfl ?_
    refine g_const S dX8_setHeat_20 (v := 0) rfl ?_
    refine g_bipush S dX8_setHeat_21 (v := 9) rfl ?_
    refine g_calli (g_runS S hC (As := [.int b, .int (0 : Int32), .int (9 : Int32)]) (rest := []) (kX8_isIn l E S1 b (0 : Int32) (9 : Int32)) (va_cwS 3 S.2.2.2.2 gX8_setHeat_X8_isIn rfl rfl rfl (by decide +kernel) ⟨Nat.le_of_ble_eq_true rfl, Nat.le_of_ble_eq_true rfl⟩) rfl rfl (Nat.le_of_ble_eq_true rfl) dX8_setHeat_23 ⟨Nat.le_of_ble_eq_true rfl, Nat.le_of_ble_eq_true rfl⟩) ?_
    refine g_if_ne S 35 dX8_setHeat_26 (by decide) (fun c_2 => ?_) (fun c_2 => ?_)
    · skip
      have hle := hok.le2
      obtain ⟨hbb, hbe⟩ := md_dr (mB σ 2) ((kqS1 2 (by decide)).trans (hok.eq 2 (by decide) (by decide))) (by omega) (by assumption)
      have hbl : a.toNatClampNeg < 4 := by omega
      refine g_aload_n S 0 dX8_setHeat_35 rfl ?_
      refine g_iload_n S 1 dX8_setHeat_36 rfl ?_
      refine g_const S dX8_setHeat_37 (v := 0) rfl ?_
      refine g_calli (g_runV S hC (As := [.int a, .int (0 : Int32)]) (rest := []) (k := 57) (by decide) rfl (by decide) rfl (kX8_dr l E S1 a a.toNatClampNeg hbe (by omega) (0 : Int32) 0 rfl (by decide)) (cwV 2 S.2.2.2.2 gX8_setHeat_X8_dr rfl rfl rfl (by decide +kernel) ⟨Nat.le_of_ble_eq_true rfl, Nat.le_of_ble_eq_true rfl⟩) rfl rfl (Nat.le_of_ble_eq_true rfl) dX8_setHeat_38 ⟨Nat.le_of_ble_eq_true rfl, Nat.le_of_ble_eq_true rfl⟩) ?_
      refine g_istore_n S [(3, .int (sX8_dr_r S1 a.toNatClampNeg 0)), (0, .ref (E.2.2 57)), (1, .int a), (2, .int b)] dX8_setHeat_41 (by decide) rfl ?_
      refine g_aload_n S 1 dX8_setHeat_42 rfl ?_
      refine g_iload_n S 2 dX8_setHeat_43 rfl ?_
      refine g_const S dX8_setHeat_44 (v := 0) rfl ?_
      refine g_iload_n S 3 dX8_setHeat_45 rfl ?_
      refine g_callv (g_runV S hC (As := [.int a, .int (0 : Int32), .int b]) (rest := []) (k := 57) (by decide) rfl (by decide) rfl (kX8_letDrum l E S1 a a.toNatClampNeg hbe (by omega) (0 : Int32) 0 rfl (by decide) b) (cwV 3 S.2.2.2.2 gX8_setHeat_X8_letDrum rfl rfl rfl (by decide +kernel) ⟨Nat.le_of_ble_eq_true rfl, Nat.le_of_ble_eq_true rfl⟩) rfl rfl (Nat.le_of_ble_eq_true rfl) dX8_setHeat_46 ⟨Nat.le_of_ble_eq_true rfl, Nat.le_of_ble_eq_true rfl⟩) ?_
      refine g_nm (fun S2 hS2 => ?_)
      have kqS2 := kq_c hS2 (fun i hi => congrFun (fX8_letDrum _ _ _ _ 57 (by decide) ) i) (kqS1)
      have okS2 : mOK S2 := by rw [hS2]; exact okX8_letDrum (by omega) (by decide) (okS1)
      refine g_iload_n S 0 dX8_setHeat_49 rfl ?_
      exact g_iret S hr hlocks dX8_setHeat_50 (by subst hS2 hS1; unfold sX8_setHeat_r; (try dsimp only); rw [if_neg c_1, if_neg c_2]) (by subst hS2 hS1; unfold sX8_setHeat_s; (try dsimp only); rw [if_neg c_1, if_neg c_2]) (Nat.le_of_ble_eq_true rfl) (Nat.le_of_ble_eq_true rfl)
    · skip
      refine g_aload_n S 0 dX8_setHeat_29 rfl ?_
      refine g_const S dX8_setHeat_30 (v := 2) rfl ?_
      refine g_calli (g_runV S hC (As := [.int (2 : Int32)]) (rest := []) (k := 57) (by decide) rfl (by decide) rfl (kX8_fail l E S1 (2 : Int32)) (cwV 1 S.2.2.2.2 gX8_setHeat_X8_fail rfl rfl rfl (by decide +kernel) ⟨Nat.le_of_ble_eq_true rfl, Nat.le_of_ble_eq_true rfl⟩) rfl rfl (Nat.le_of_ble_eq_true rfl) dX8_setHeat_31 ⟨Nat.le_of_ble_eq_true rfl, Nat.le_of_ble_eq_true rfl⟩) ?_
      refine g_nm (fun S3 hS3 => ?_)
      exact g_iret S hr hlocks dX8_setHeat_34 (by subst hS3 hS1; unfold sX8_setHeat_r; (try dsimp only); rw [if_neg c_1, if_pos c_2]) (by subst hS3 hS1; unfold sX8_setHeat_s; (try dsimp only); rw [if_neg c_1, if_pos c_2]) (Nat.le_of_ble_eq_true rfl) (Nat.le_of_ble_eq_true rfl)
  · skip
    refine g_aload_n S 0 dX8_setHeat_13 rfl ?_
    refine g_const S dX8_setHeat_14 (v := 1) rfl ?_
    refine g_calli (g_runV S hC (As := [.int (1 : Int32)]) (rest := []) (k := 57) (by decide) rfl (by decide) rfl (kX8_fail l E S1 (1 : Int32)) (cwV 1 S.2.2.2.2 gX8_setHeat_X8_fail rfl rfl rfl (by decide +kernel) ⟨Nat.le_of_ble_eq_true rfl, Nat.le_of_ble_eq_true rfl⟩) rfl rfl (Nat.le_of_ble_eq_true rfl) dX8_setHeat_15 ⟨Nat.le_of_ble_eq_true rfl, Nat.le_of_ble_eq_true rfl⟩) ?_
    refine g_nm (fun S4 hS4 => ?_)
    exact g_iret S hr hlocks dX8_setHeat_18 (by subst hS4 hS1; unfold sX8_setHeat_r; (try dsimp only); rw [if_pos c_1]) (by subst hS4 hS1; unfold sX8_setHeat_s; (try dsimp only); rw [if_pos c_1]) (Nat.le_of_ble_eq_true rfl) (Nat.le_of_ble_eq_true rfl)
def sX8_dig_r (σ : gS) (a : Int32) (b : Int32) : Int32 := let S1 := gu σ 57 0 (0 : Int32); if sX8_isIn_r S1 a (0 : Int32) ((S1.1 57 1) - (1 : Int32)) = 0 then (sX8_fail_r S1 (1 : Int32)) else (if sX8_isIn_r S1 b (1 : Int32) (99 : Int32) = 0 then (sX8_fail_r S1 (2 : Int32)) else (if b ≤ S1.1 62 (10 + a.toNatClampNeg) then (let S2 := gu S1 62 (10 + a.toNatClampNeg) ((S1.1 62 (10 + a.toNatClampNeg)) - b); let S3 := gu S2 62 1 ((S2.1 62 1) + b); S3.1 62 (10 + a.toNatClampNeg)) else (sX8_fail_r S1 (3 : Int32))))
def sX8_dig_s (σ : gS) (a : Int32) (b : Int32) : gS := let S1 := gu σ 57 0 (0 : Int32); if sX8_isIn_r S1 a (0 : Int32) ((S1.1 57 1) - (1 : Int32)) = 0 then (let S6 := sX8_fail_s S1 (1 : Int32); S6) else (if sX8_isIn_r S1 b (1 : Int32) (99 : Int32) = 0 then (let S5 := sX8_fail_s S1 (2 : Int32); S5) else (if b ≤ S1.1 62 (10 + a.toNatClampNeg) then (let S2 := gu S1 62 (10 + a.toNatClampNeg) ((S1.1 62 (10 + a.toNatClampNeg)) - b); let S3 := gu S2 62 1 ((S2.1 62 1) + b); S3) else (let S4 := sX8_fail_s S1 (3 : Int32); S4)))
theorem fX8_dig (σ : gS) (a : Int32) (b : Int32) (x : Nat) (hx57 : x ≠ 57) (hx62 : x ≠ 62) : (sX8_dig_s σ a b).1 x = σ.1 x := by
  unfold sX8_dig_s
  (try dsimp only)
  (repeat' split)
  all_goals (simp [gu_ne, gcp, fX8_fail, *])
set_option maxRecDepth 100000 in
set_option maxHeartbeats 4000000 in
theorem kX8_dig (l : Launch) (E : gT) (σ : gS) (a : Int32) (b : Int32) (hok : mOK σ) : gMi l yX8_dig wsX8_dig ({ frames := 1, cells := 0, slots := 0, locals := 22 }) 0 0 E σ [.ref (E.2.2 57), .int a, .int b] (sX8_dig_r σ a b) (sX8_dig_s σ a b) := by
  refine g_met (mc := 0) (ms := 0) (nL := 3) (ret := (some .int)) (by decide) rfl (lv := [(0, .ref (E.2.2 57)), (1, .int a), (2, .int b)]) rfl (Nat.le_of_ble_eq_true rfl) ?_
  intro p e s m below meth c S hr hlocks hC
  have hiX8 : ∀ w ∈ wsX80, w ∈ wsX8_dig := by decide +kernel
  refine g_aload_n S 0 dX8_dig_0 rfl ?_
  refine g_const S dX8_dig_1 (v := 0) rfl ?_
  refine gp7 S hC hiX8 (by decide) rfl 0 (by decide) (by decide +kernel) dX8_dig_2 ?_
  refine g_nm (fun S1 hS1 => ?_)
  have kqS1 := kq_p0 hS1 (kq_0)
  have okS1 := mOK.p0 hS1 (hok)
  refine g_iload_n S 1 dX8_dig_5 rfl ?_
  refine g_const S dX8_dig_6 (v := 0) rfl ?_
  refine g_aload_n S 0 dX8_dig_7 rfl ?_
  refine gg7 S hC hiX8 (by decide) rfl 1 (by decide) (by decide +kernel) dX8_dig_8 ?_
  refine g_const S dX8_dig_11 (v := 1) rfl ?_
  refine g_isub S dX8_dig_12 ?_
  refine g_calli (g_runS S hC (As := [.int a, .int (0 : Int32), .int ((S1.1 57 1) - (1 : Int32))]) (rest := []) (kX8_isIn l E S1 a (0 : Int32) ((S1.1 57 1) - (1 : Int32))) (va_cwS 3 S.2.2.2.2 gX8_dig_X8_isIn rfl rfl rfl (by decide +kernel) ⟨Nat.le_of_ble_eq_true rfl, Nat.le_of_ble_eq_true rfl⟩) rfl rfl (Nat.le_of_ble_eq_true rfl) dX8_dig_13 ⟨Nat.le_of_ble_eq_true rfl, Nat.le_of_ble_eq_true rfl⟩) ?_
  refine g_if_ne S 25 dX8_dig_16 (by decide) (fun c_1 => ?_) (fun c_1 => ?_)
  · skip
    refine g_iload_n S 2 dX8_dig_25 rfl ?_
    refine g_const S dX8_dig_26 (v := 1) rfl ?_
    refine g_bipush S dX8_dig_27 (v := 99) rfl ?_
    refine g_calli (g_runS S hC (As := [.int b, .int (1 : Int32), .int (99 : Int32)]) (rest := []) (kX8_isIn l E S1 b (1 : Int32) (99 : Int32)) (va_cwS 3 S.2.2.2.2 gX8_dig_X8_isIn rfl rfl rfl (by decide +kernel) ⟨Nat.le_of_ble_eq_true rfl, Nat.le_of_ble_eq_true rfl⟩) rfl rfl (Nat.le_of_ble_eq_true rfl) dX8_dig_29 ⟨Nat.le_of_ble_eq_true rfl, Nat.le_of_ble_eq_true rfl⟩) ?_
    refine g_if_ne S 41 dX8_dig_32 (by decide) (fun c_2 => ?_) (fun c_2 => ?_)
    · skip
      have hle := hok.le1
      obtain ⟨hbb, hbe⟩ := md_ix (mB σ 1) ((kqS1 1 (by decide)).trans (hok.eq 1 (by decide) (by decide))) (by omega) (by assumption)
      have hbl : a.toNatClampNeg < 4 := by omega
      refine g_aload_n S 0 dX8_dig_41 rfl ?_
      refine gg7r S hC hiX8 (by decide) rfl 9 (by decide) (by decide +kernel) dX8_dig_42 ?_
      refine g_bipush S dX8_dig_45 (v := 10) rfl ?_
      refine g_iload_n S 1 dX8_dig_47 rfl ?_
      refine g_iadd S dX8_dig_48 ?_
      refine g_iald S hC (by decide) rfl (10 + a.toNatClampNeg) (gI_add rfl hbe) (show 10 + a.toNatClampNeg < 72 by omega) (by decide) dX8_dig_49 ?_
      refine g_iload_n S 2 dX8_dig_50 rfl ?_
      refine g_icmp_ge S 60 dX8_dig_51 (by decide) (fun c_3 => ?_) (fun c_3 => ?_)
      · skip
        refine g_aload_n S 0 dX8_dig_60 rfl ?_
        refine gg7r S hC hiX8 (by decide) rfl 9 (by decide) (by decide +kernel) dX8_dig_61 ?_
        refine g_bipush S dX8_dig_64 (v := 10) rfl ?_
        refine g_iload_n S 1 dX8_dig_66 rfl ?_
        refine g_iadd S dX8_dig_67 ?_
        refine g_dup2 S dX8_dig_68 rfl rfl ?_
        refine g_iald S hC (by decide) rfl (10 + a.toNatClampNeg) (gI_add rfl hbe) (show 10 + a.toNatClampNeg < 72 by omega) (by decide) dX8_dig_69 ?_
        refine g_iload_n S 2 dX8_dig_70 rfl ?_
        refine g_isub S dX8_dig_71 ?_
        refine g_iast S hC (by decide) rfl (10 + a.toNatClampNeg) (gI_add rfl hbe) (show 10 + a.toNatClampNeg < 72 by omega) (by decide) dX8_dig_72 ?_
        refine g_nm (fun S2 hS2 => ?_)
        have kqS2 := kq_pr hS2 (by decide) (kqS1)
        refine g_aload_n S 0 dX8_dig_73 rfl ?_
        refine gg7r S hC hiX8 (by decide) rfl 9 (by decide) (by decide +kernel) dX8_dig_74 ?_
        refine g_const S dX8_dig_77 (v := 1) rfl ?_
        refine g_dup2 S dX8_dig_78 rfl rfl ?_
        refine g_iald S hC (by decide) rfl 1 rfl (by decide) (by decide) dX8_dig_79 ?_
        refine g_iload_n S 2 dX8_dig_80 rfl ?_
        refine g_iadd S dX8_dig_81 ?_
        refine g_iast S hC (by decide) rfl 1 rfl (by decide) (by decide) dX8_dig_82 ?_
        refine g_nm (fun S3 hS3 => ?_)
        have kqS3 := kq_pr hS3 (by decide) (kqS2)
        refine g_aload_n S 0 dX8_dig_83 rfl ?_
        refine gg7r S hC hiX8 (by decide) rfl 9 (by decide) (by decide +kernel) dX8_dig_84 ?_
        refine g_bipush S dX8_dig_87 (v := 10) rfl ?_
        refine g_iload_n S 1 dX8_dig_89 rfl ?_
        refine g_iadd S dX8_dig_90 ?_
        refine g_iald S hC (by decide) rfl (10 + a.toNatClampNeg) (gI_add rfl hbe) (show 10 + a.toNatClampNeg < 72 by omega) (by decide) dX8_dig_91 ?_
        exact g_iret S hr hlocks dX8_dig_92 (by subst hS3 hS2 hS1; unfold sX8_dig_r; (try dsimp only); rw [if_neg c_1, if_neg c_2, if_pos c_3]) (by subst hS3 hS2 hS1; unfold sX8_dig_s; (try dsimp only); rw [if_neg c_1, if_neg c_2, if_pos c_3]) (Nat.le_of_ble_eq_true rfl) (Nat.le_of_ble_eq_true rfl)
      · skip
        refine g_aload_n S 0 dX8_dig_54 rfl ?_
        refine g_const S dX8_dig_55 (v := 3) rfl ?_
        refine g_calli (g_runV S hC (As := [.int (3 : Int32)]) (rest := []) (k := 57) (by decide) rfl (by decide) rfl (kX8_fail l E S1 (3 : Int32)) (cwV 1 S.2.2.2.2 gX8_dig_X8_fail rfl rfl rfl (by decide +kernel) ⟨Nat.le_of_ble_eq_true rfl, Nat.le_of_ble_eq_true rfl⟩) rfl rfl (Nat.le_of_ble_eq_true rfl) dX8_dig_56 ⟨Nat.le_of_ble_eq_true rfl, Nat.le_of_ble_eq_true rfl⟩) ?_
        refine g_nm (fun S4 hS4 => ?_)
        exact g_iret S hr hlocks dX8_dig_59 (by subst hS4 hS1; unfold sX8_dig_r; (try dsimp only); rw [if_neg c_1, if_neg c_2, if_neg c_3]) (by subst hS4 hS1; unfold sX8_dig_s; (try dsimp only); rw [if_neg c_1, if_neg c_2, if_neg c_3]) (Nat.le_of_ble_eq_true rfl) (Nat.le_of_ble_eq_true rfl)
    · skip
      refine g_aload_n S 0 dX8_dig_35 rfl ?_
      refine g_const S dX8_dig_36 (v := 2) rfl ?_
      refine g_calli (g_runV S hC (As := [.int (2 : Int32)]) (rest := []) (k := 57) (by decide) rfl (by decide) rfl (kX8_fail l E S1 (2 : Int32)) (cwV 1 S.2.2.2.2 gX8_dig_X8_fail rfl rfl rfl (by decide +kernel) ⟨Nat.le_of_ble_eq_true rfl, Nat.le_of_ble_eq_true rfl⟩) rfl rfl (Nat.le_of_ble_eq_true rfl) dX8_dig_37 ⟨Nat.le_of_ble_eq_true rfl, Nat.le_of_ble_eq_true rfl⟩) ?_
      refine g_nm (fun S5 hS5 => ?_)
      exact g_iret S hr hlocks dX8_dig_40 (by subst hS5 hS1; unfold sX8_dig_r; (try dsimp only); rw [if_neg c_1, if_pos c_2]) (by subst hS5 hS1; unfold sX8_dig_s; (try dsimp only); rw [if_neg c_1, if_pos c_2]) (Nat.le_of_ble_eq_true rfl) (Nat.le_of_ble_eq_true rfl)
  · skip
    refine g_aload_n S 0 dX8_dig_19 rfl ?_
    refine g_const S dX8_dig_20 (v := 1) rfl ?_
    refine g_calli (g_runV S hC (As := [.int (1 : Int32)]) (rest := []) (k := 57) (by decide) rfl (by decide) rfl (kX8_fail l E S1 (1 : Int32)) (cwV 1 S.2.2.2.2 gX8_dig_X8_fail rfl rfl rfl (by decide +kernel) ⟨Nat.le_of_ble_eq_true rfl, Nat.le_of_ble_eq_true rfl⟩) rfl rfl (Nat.le_of_ble_eq_true rfl) dX8_dig_21 ⟨Nat.le_of_ble_eq_true rfl, Nat.le_of_ble_eq_true rfl⟩) ?_
    refine g_nm (fun S6 hS6 => ?_)
    exact g_iret S hr hlocks dX8_dig_24 (by subst hS6 hS1; unfold sX8_dig_r; (try dsimp only); rw [if_pos c_1]) (by subst hS6 hS1; unfold sX8_dig_s; (try dsimp only); rw [if_pos c_1]) (Nat.le_of_ble_eq_true rfl) (Nat.le_of_ble_eq_true rfl)
def sX8_give_r (σ : gS) (a : Int32) (b : Int32) : Int32 := let S1 := gu σ 57 0 (0 : Int32); if sX8_isIn_r S1 a (0 : Int32) (1 : Int32) = 0 then (sX8_fail_r S1 (1 : Int32)) else (if sX8_isIn_r S1 b (1 : Int32) (99 : Int32) = 0 then (sX8_fail_r S1 (2 : Int32)) else (let S2 := gu S1 62 (1 + a.toNatClampNeg) ((S1.1 62 (1 + a.toNatClampNeg)) + b); S2.1 62 (1 + a.toNatClampNeg)))
def sX8_give_s (σ : gS) (a : Int32) (b : Int32) : gS := let S1 := gu σ 57 0 (0 : Int32); if sX8_isIn_r S1 a (0 : Int32) (1 : Int32) = 0 then (let S4 := sX8_fail_s S1 (1 : Int32); S4) else (if sX8_isIn_r S1 b (1 : Int32) (99 : Int32) = 0 then (let S3 := sX8_fail_s S1 (2 : Int32); S3) else (let S2 := gu S1 62 (1 + a.toNatClampNeg) ((S1.1 62 (1 + a.toNatClampNeg)) + b); S2))
theorem fX8_give (σ : gS) (a : Int32) (b : Int32) (x : Nat) (hx57 : x ≠ 57) (hx62 : x ≠ 62) : (sX8_give_s σ a b).1 x = σ.1 x := by
  unfold sX8_give_s
  (try dsimp only)
  (repeat' split)
  all_goals (simp [gu_ne, gcp, fX8_fail, *])
set_option maxRecDepth 100000 in
set_option maxHeartbeats 4000000 in
theorem kX8_give (l : Launch) (E : gT) (σ : gS) (a : Int32) (b : Int32) : gMi l yX8_give wsX8_give ({ frames := 1, cells := 0, slots := 0, locals := 22 }) 0 0 E σ [.ref (E.2.2 57), .int a, .int b] (sX8_give_r σ a b) (sX8_give_s σ a b) := by
  refine g_met (mc := 0) (ms := 0) (nL := 3) (ret := (some .int)) (by decide) rfl (lv := [(0, .ref (E.2.2 57)), (1, .int a), (2, .int b)]) rfl (Nat.le_of_ble_eq_true rfl) ?_
  intro p e s m below meth c S hr hlocks hC
  have hiX8 : ∀ w ∈ wsX80, w ∈ wsX8_give := by decide +kernel
  refine g_aload_n S 0 dX8_give_0 rfl ?_
  refine g_const S dX8_give_1 (v := 0) rfl ?_
  refine gp7 S hC hiX8 (by decide) rfl 0 (by decide) (by decide +kernel) dX8_give_2 ?_
  refine g_nm (fun S1 hS1 => ?_)
  have kqS1 := kq_p0 hS1 (kq_0)
  refine g_iload_n S 1 dX8_give_5 rfl ?_
  refine g_const S dX8_give_6 (v := 0) rfl ?_
  refine g_const S dX8_give_7 (v := 1) rfl ?_
  refine g_calli (g_runS S hC (As := [.int a, .int (0 : Int32), .int (1 : Int32)]) (rest := []) (kX8_isIn l E S1 a (0 : Int32) (1 : Int32)) (va_cwS 3 S.2.2.2.2 gX8_give_X8_isIn rfl rfl rfl (by decide +kernel) ⟨Nat.le_of_ble_eq_true rfl, Nat.le_of_ble_eq_true rfl⟩) rfl rfl (Nat.le_of_ble_eq_true rfl) dX8_give_8 ⟨Nat.le_of_ble_eq_true rfl, Nat.le_of_ble_eq_true rfl⟩) ?_
  refine g_if_ne S 20 dX8_give_11 (by decide) (fun c_1 => ?_) (fun c_1 => ?_)
  · skip
    refine g_iload_n S 2 dX8_give_20 rfl ?_
    refine g_const S dX8_give_21 (v := 1) rfl ?_
    refine g_bipush S dX8_give_22 (v := 99) rfl ?_
    refine g_calli (g_runS S hC (As := [.int b, .int (1 : Int32), .int (99 : Int32)]) (rest := []) (kX8_isIn l E S1 b (1 : Int32) (99 : Int32)) (va_cwS 3 S.2.2.2.2 gX8_give_X8_isIn rfl rfl rfl (by decide +kernel) ⟨Nat.le_of_ble_eq_true rfl, Nat.le_of_ble_eq_true rfl⟩) rfl rfl (Nat.le_of_ble_eq_true rfl) dX8_give_24 ⟨Nat.le_of_ble_eq_true rfl, Nat.le_of_ble_eq_true rfl⟩) ?_
    refine g_if_ne S 36 dX8_give_27 (by decide) (fun c_2 => ?_) (fun c_2 => ?_)
    · skip
      obtain ⟨⟨_, hbb0⟩, hbe⟩ := mi_nm (lo := 0) (hi := 1) (by decide) (by decide) (x := a) (by assumption)
      refine g_aload_n S 0 dX8_give_36 rfl ?_
      refine gg7r S hC hiX8 (by decide) rfl 9 (by decide) (by decide +kernel) dX8_give_37 ?_
      refine g_const S dX8_give_40 (v := 1) rfl ?_
      refine g_iload_n S 1 dX8_give_41 rfl ?_
      refine g_iadd S dX8_give_42 ?_
      refine g_dup2 S dX8_give_43 rfl rfl ?_
      refine g_iald S hC (by decide) rfl (1 + a.toNatClampNeg) (gI_add rfl hbe) (show 1 + a.toNatClampNeg < 72 by omega) (by decide) dX8_give_44 ?_
      refine g_iload_n S 2 dX8_give_45 rfl ?_
      refine g_iadd S dX8_give_46 ?_
      refine g_iast S hC (by decide) rfl (1 + a.toNatClampNeg) (gI_add rfl hbe) (show 1 + a.toNatClampNeg < 72 by omega) (by decide) dX8_give_47 ?_
      refine g_nm (fun S2 hS2 => ?_)
      have kqS2 := kq_pr hS2 (by decide) (kqS1)
      refine g_aload_n S 0 dX8_give_48 rfl ?_
      refine gg7r S hC hiX8 (by decide) rfl 9 (by decide) (by decide +kernel) dX8_give_49 ?_
      refine g_const S dX8_give_52 (v := 1) rfl ?_
      refine g_iload_n S 1 dX8_give_53 rfl ?_
      refine g_iadd S dX8_give_54 ?_
      refine g_iald S hC (by decide) rfl (1 + a.toNatClampNeg) (gI_add rfl hbe) (show 1 + a.toNatClampNeg < 72 by omega) (by decide) dX8_give_55 ?_
      exact g_iret S hr hlocks dX8_give_56 (by subst hS2 hS1; unfold sX8_give_r; (try dsimp only); rw [if_neg c_1, if_neg c_2]) (by subst hS2 hS1; unfold sX8_give_s; (try dsimp only); rw [if_neg c_1, if_neg c_2]) (Nat.le_of_ble_eq_true rfl) (Nat.le_of_ble_eq_true rfl)
    · skip
      refine g_aload_n S 0 dX8_give_30 rfl ?_
      refine g_const S dX8_give_31 (v := 2) rfl ?_
      refine g_calli (g_runV S hC (As := [.int (2 : Int32)]) (rest := []) (k := 57) (by decide) rfl (by decide) rfl (kX8_fail l E S1 (2 : Int32)) (cwV 1 S.2.2.2.2 gX8_give_X8_fail rfl rfl rfl (by decide +kernel) ⟨Nat.le_of_ble_eq_true rfl, Nat.le_of_ble_eq_true rfl⟩) rfl rfl (Nat.le_of_ble_eq_true rfl) dX8_give_32 ⟨Nat.le_of_ble_eq_true rfl, Nat.le_of_ble_eq_true rfl⟩) ?_
      refine g_nm (fun S3 hS3 => ?_)
      exact g_iret S hr hlocks dX8_give_35 (by subst hS3 hS1; unfold sX8_give_r; (try dsimp only); rw [if_neg c_1, if_pos c_2]) (by subst hS3 hS1; unfold sX8_give_s; (try dsimp only); rw [if_neg c_1, if_pos c_2]) (Nat.le_of_ble_eq_true rfl) (Nat.le_of_ble_eq_true rfl)
  · skip
    refine g_aload_n S 0 dX8_give_14 rfl ?_
    refine g_const S dX8_give_15 (v := 1) rfl ?_
    refine g_calli (g_runV S hC (As := [.int (1 : Int32)]) (rest := []) (k := 57) (by decide) rfl (by decide) rfl (kX8_fail l E S1 (1 : Int32)) (cwV 1 S.2.2.2.2 gX8_give_X8_fail rfl rfl rfl (by decide +kernel) ⟨Nat.le_of_ble_eq_true rfl, Nat.le_of_ble_eq_true rfl⟩) rfl rfl (Nat.le_of_ble_eq_true rfl) dX8_give_16 ⟨Nat.le_of_ble_eq_true rfl, Nat.le_of_ble_eq_true rfl⟩) ?_
    refine g_nm (fun S4 hS4 => ?_)
    exact g_iret S hr hlocks dX8_give_19 (by subst hS4 hS1; unfold sX8_give_r; (try dsimp only); rw [if_pos c_1]) (by subst hS4 hS1; unfold sX8_give_s; (try dsimp only); rw [if_pos c_1]) (Nat.le_of_ble_eq_true rfl) (Nat.le_of_ble_eq_true rfl)
def sX8_load_r (σ : gS) (a : Int32) (b : Int32) (n : Int32) : Int32 := let S1 := gu σ 57 0 (0 : Int32); if sX8_isDrum_r S1 a = 0 then (sX8_fail_r S1 (1 : Int32)) else (if sX8_isIn_r S1 b (0 : Int32) (1 : Int32) = 0 then (sX8_fail_r S1 (1 : Int32)) else (if sX8_isIn_r S1 n (1 : Int32) (S1.1 59 a.toNatClampNeg) = 0 then (sX8_fail_r S1 (2 : Int32)) else (if sX8_dr_r S1 a.toNatClampNeg 1 = (-1 : Int32) then (if n ≤ S1.1 62 (1 + b.toNatClampNeg) then (let S4 := gu S1 62 (1 + b.toNatClampNeg) ((S1.1 62 (1 + b.toNatClampNeg)) - n); let S5 := sX8_letDrum_s S4 a.toNatClampNeg 1 b; let S6 := sX8_letDrum_s S5 a.toNatClampNeg 2 n; let S7 := sX8_letDrum_s S6 a.toNatClampNeg 3 (0 : Int32); S7.1 62 (1 + b.toNatClampNeg)) else (sX8_fail_r S1 (3 : Int32))) else (sX8_fail_r S1 (3 : Int32)))))
def sX8_load_s (σ : gS) (a : Int32) (b : Int32) (n : Int32) : gS := let S1 := gu σ 57 0 (0 : Int32); if sX8_isDrum_r S1 a = 0 then (let S2 := sX8_fail_s S1 (1 : Int32); S2) else (if sX8_isIn_r S1 b (0 : Int32) (1 : Int32) = 0 then (let S10 := sX8_fail_s S1 (1 : Int32); S10) else (if sX8_isIn_r S1 n (1 : Int32) (S1.1 59 a.toNatClampNeg) = 0 then (let S9 := sX8_fail_s S1 (2 : Int32); S9) else (if sX8_dr_r S1 a.toNatClampNeg 1 = (-1 : Int32) then (if n ≤ S1.1 62 (1 + b.toNatClampNeg) then (let S4 := gu S1 62 (1 + b.toNatClampNeg) ((S1.1 62 (1 + b.toNatClampNeg)) - n); let S5 := sX8_letDrum_s S4 a.toNatClampNeg 1 b; let S6 := sX8_letDrum_s S5 a.toNatClampNeg 2 n; let S7 := sX8_letDrum_s S6 a.toNatClampNeg 3 (0 : Int32); S7) else (let S8 := sX8_fail_s S1 (3 : Int32); S8)) else (let S3 := sX8_fail_s S1 (3 : Int32); S3))))
theorem fX8_load (σ : gS) (a : Int32) (b : Int32) (n : Int32) (x : Nat) (hx57 : x ≠ 57) (hx62 : x ≠ 62) : (sX8_load_s σ a b n).1 x = σ.1 x := by
  unfold sX8_load_s
  (try dsimp only)
  (repeat' split)
  all_goals (simp [gu_ne, gcp, fX8_fail, fX8_letDrum, *])
set_option maxRecDepth 100000 in
set_option maxHeartbeats 4000000 in
theorem kX8_load (l : Launch) (E : gT) (σ : gS) (a : Int32) (b : Int32) (n : Int32) (hok : mOK σ) : gMi l yX8_load wsX8_load ({ frames := 2, cells := 0, slots := 0, locals := 43 }) 0 0 E σ [.ref (E.2.2 57), .int a, .int b, .int n] (sX8_load_r σ a b n) (sX8_load_s σ a b n) := by
  refine g_met (mc := 0) (ms := 0) (nL := 4) (ret := (some .int)) (by decide) rfl (lv := [(0, .ref (E.2.2 57)), (1, .int a), (2, .int b), (3, .int n)]) rfl (Nat.le_of_ble_eq_true rfl) ?_
  intro p e s m below meth c S hr hlocks hC
  have hiX8 : ∀ w ∈ wsX80, w ∈ wsX8_load := by decide +kernel
  refine g_aload_n S 0 dX8_load_0 rfl ?_
  refine g_const S dX8_load_1 (v := 0) rfl ?_
  refine gp7 S hC hiX8 (by decide) rfl 0 (by decide) (by decide +kernel) dX8_load_2 ?_
  refine g_nm (fun S1 hS1 => ?_)
  have kqS1 := kq_p0 hS1 (kq_0)
  have okS1 := mOK.p0 hS1 (hok)
  refine g_aload_n S 0 dX8_load_5 rfl ?_
  refine g_iload_n S 1 dX8_load_6 rfl ?_
  refine g_calli (g_runV S hC (As := [.int a]) (rest := []) (k := 57) (by decide) rfl (by decide) rfl (kX8_isDrum l E S1 a) (cwV 1 S.2.2.2.2 gX8_load_X8_isDrum rfl rfl rfl (by decide +kernel) ⟨Nat.le_of_ble_eq_true rfl, Nat.le_of_ble_eq_true rfl⟩) rfl rfl (Nat.le_of_ble_eq_true rfl) dX8_load_7 ⟨Nat.le_of_ble_eq_true rfl, Nat.le_of_ble_eq_true rfl⟩) ?_
  refine g_if_eq S 22 dX8_load_10 (by decide) (fun c_1 => ?_) (fun c_1 => ?_)
  · skip
    refine g_aload_n S 0 dX8_load_22 rfl ?_
    refine g_const S dX8_load_23 (v := 1) rfl ?_
    refine g_calli (g_runV S hC (As := [.int (1 : Int32)]) (rest := []) (k := 57) (by decide) rfl (by decide) rfl (kX8_fail l E S1 (1 : Int32)) (cwV 1 S.2.2.2.2 gX8_load_X8_fail rfl rfl rfl (by decide +kernel) ⟨Nat.le_of_ble_eq_true rfl, Nat.le_of_ble_eq_true rfl⟩) rfl rfl (Nat.le_of_ble_eq_true rfl) dX8_load_24 ⟨Nat.le_of_ble_eq_true rfl, Nat.le_of_ble_eq_true rfl⟩) ?_
    refine g_nm (fun S2 hS2 => ?_)
    exact g_iret S hr hlocks dX8_load_27 (by subst hS2 hS1; unfold sX8_load_r; (try dsimp only); rw [if_pos c_1]) (by subst hS2 hS1; unfold sX8_load_s; (try dsimp only); rw [if_pos c_1]) (Nat.le_of_ble_eq_true rfl) (Nat.le_of_ble_eq_true rfl)
  · skip
    refine g_iload_n S 2 dX8_load_13 rfl ?_
    refine g_const S dX8_load_14 (v := 0) rfl ?_
    refine g_const S dX8_load_15 (v := 1) rfl ?_
    refine g_calli (g_runS S hC (As := [.int b, .int (0 : Int32), .int (1 : Int32)]) (rest := []) (kX8_isIn l E S1 b (0 : Int32) (1 : Int32)) (va_cwS 3 S.2.2.2.2 gX8_load_X8_isIn rfl rfl rfl (by decide +kernel) ⟨Nat.le_of_ble_eq_true rfl, Nat.le_of_ble_eq_true rfl⟩) rfl rfl (Nat.le_of_ble_eq_true rfl) dX8_load_16 ⟨Nat.le_of_ble_eq_true rfl, Nat.le_of_ble_eq_true rfl⟩) ?_
    refine g_if_ne S 28 dX8_load_19 (by decide) (fun c_2 => ?_) (fun c_2 => ?_)
    · skip
      have hle := hok.le2
      obtain ⟨hbb, hbe⟩ := md_dr (mB σ 2) ((kqS1 2 (by decide)).trans (hok.eq 2 (by decide) (by decide))) (by omega) (by assumption)
      have hbl : a.toNatClampNeg < 4 := by omega
      refine g_iload_n S 3 dX8_load_28 rfl ?_
      refine g_const S dX8_load_29 (v := 1) rfl ?_
      refine g_aload_n S 0 dX8_load_30 rfl ?_
      refine gg7r S hC hiX8 (by decide) rfl 6 (by decide) (by decide +kernel) dX8_load_31 ?_
      refine g_iload_n S 1 dX8_load_34 rfl ?_
      refine g_iald S hC (by decide) rfl a.toNatClampNeg hbe (show a.toNatClampNeg < 4 by omega) (by decide) dX8_load_35 ?_
      refine g_calli (g_runS S hC (As := [.int n, .int (1 : Int32), .int (S1.1 59 a.toNatClampNeg)]) (rest := []) (kX8_isIn l E S1 n (1 : Int32) (S1.1 59 a.toNatClampNeg)) (va_cwS 3 S.2.2.2.2 gX8_load_X8_isIn rfl rfl rfl (by decide +kernel) ⟨Nat.le_of_ble_eq_true rfl, Nat.le_of_ble_eq_true rfl⟩) rfl rfl (Nat.le_of_ble_eq_true rfl) dX8_load_36 ⟨Nat.le_of_ble_eq_true rfl, Nat.le_of_ble_eq_true rfl⟩) ?_
      refine g_if_ne S 48 dX8_load_39 (by decide) (fun c_3 => ?_) (fun c_3 => ?_)
      · skip
        obtain ⟨⟨_, hbb0⟩, hbe2⟩ := mi_nm (lo := 0) (hi := 1) (by decide) (by decide) (x := b) (by assumption)
        refine g_aload_n S 0 dX8_load_48 rfl ?_
        refine g_iload_n S 1 dX8_load_49 rfl ?_
        refine g_const S dX8_load_50 (v := 1) rfl ?_
        refine g_calli (g_runV S hC (As := [.int a, .int (1 : Int32)]) (rest := []) (k := 57) (by decide) rfl (by decide) rfl (kX8_dr l E S1 a a.toNatClampNeg hbe (by omega) (1 : Int32) 1 rfl (by decide)) (cwV 2 S.2.2.2.2 gX8_load_X8_dr rfl rfl rfl (by decide +kernel) ⟨Nat.le_of_ble_eq_true rfl, Nat.le_of_ble_eq_true rfl⟩) rfl rfl (Nat.le_of_ble_eq_true rfl) dX8_load_51 ⟨Nat.le_of_ble_eq_true rfl, Nat.le_of_ble_eq_true rfl⟩) ?_
        refine g_const S dX8_load_54 (v := (-1)) rfl ?_
        refine g_icmp_ne S 70 dX8_load_55 (by decide) (fun c_4 => ?_) (fun c_4 => ?_)
        · skip
          refine g_aload_n S 0 dX8_load_70 rfl ?_
          refine g_const S dX8_load_71 (v := 3) rfl ?_
          refine g_calli (g_runV S hC (As := [.int (3 : Int32)]) (rest := []) (k := 57) (by decide) rfl (by decide) rfl (kX8_fail l E S1 (3 : Int32)) (cwV 1 S.2.2.2.2 gX8_load_X8_fail rfl rfl rfl (by decide +kernel) ⟨Nat.le_of_ble_eq_true rfl, Nat.le_of_ble_eq_true rfl⟩) rfl rfl (Nat.le_of_ble_eq_true rfl) dX8_load_72 ⟨Nat.le_of_ble_eq_true rfl, Nat.le_of_ble_eq_true rfl⟩) ?_
          refine g_nm (fun S3 hS3 => ?_)
          exact g_iret S hr hlocks dX8_load_75 (by subst hS3 hS1; unfold sX8_load_r; (try dsimp only); rw [if_neg c_1, if_neg c_2, if_neg c_3, if_neg c_4]) (by subst hS3 hS1; unfold sX8_load_s; (try dsimp only); rw [if_neg c_1, if_neg c_2, if_neg c_3, if_neg c_4]) (Nat.le_of_ble_eq_true rfl) (Nat.le_of_ble_eq_true rfl)
        · skip
          refine g_aload_n S 0 dX8_load_58 rfl ?_
          refine gg7r S hC hiX8 (by decide) rfl 9 (by decide) (by decide +kernel) dX8_load_59 ?_
          refine g_const S dX8_load_62 (v := 1) rfl ?_
          refine g_iload_n S 2 dX8_load_63 rfl ?_
          refine g_iadd S dX8_load_64 ?_
          refine g_iald S hC (by decide) rfl (1 + b.toNatClampNeg) (gI_add rfl hbe2) (show 1 + b.toNatClampNeg < 72 by omega) (by decide) dX8_load_65 ?_
          refine g_iload_n S 3 dX8_load_66 rfl ?_
          refine g_icmp_ge S 76 dX8_load_67 (by decide) (fun c_5 => ?_) (fun c_5 => ?_)
          · skip
            refine g_aload_n S 0 dX8_load_76 rfl ?_
            refine gg7r S hC hiX8 (by decide) rfl 9 (by decide) (by decide +kernel) dX8_load_77 ?_
            refine g_const S dX8_load_80 (v := 1) rfl ?_
            refine g_iload_n S 2 dX8_load_81 rfl ?_
            refine g_iadd S dX8_load_82 ?_
            refine g_dup2 S dX8_load_83 rfl rfl ?_
            refine g_iald S hC (by decide) rfl (1 + b.toNatClampNeg) (gI_add rfl hbe2) (show 1 + b.toNatClampNeg < 72 by omega) (by decide) dX8_load_84 ?_
            refine g_iload_n S 3 dX8_load_85 rfl ?_
            refine g_isub S dX8_load_86 ?_
            refine g_iast S hC (by decide) rfl (1 + b.toNatClampNeg) (gI_add rfl hbe2) (show 1 + b.toNatClampNeg < 72 by omega) (by decide) dX8_load_87 ?_
            refine g_nm (fun S4 hS4 => ?_)
            have kqS4 := kq_pr hS4 (by decide) (kqS1)
            refine g_aload_n S 0 dX8_load_88 rfl ?_
            refine g_iload_n S 1 dX8_load_89 rfl ?_
            refine g_const S dX8_load_90 (v := 1) rfl ?_
            refine g_iload_n S 2 dX8_load_91 rfl ?_
            refine g_callv (g_runV S hC (As := [.int a, .int (1 : Int32), .int b]) (rest := []) (k := 57) (by decide) rfl (by decide) rfl (kX8_letDrum l E S4 a a.toNatClampNeg hbe (by omega) (1 : Int32) 1 rfl (by decide) b) (cwV 3 S.2.2.2.2 gX8_load_X8_letDrum rfl rfl rfl (by decide +kernel) ⟨Nat.le_of_ble_eq_true rfl, Nat.le_of_ble_eq_true rfl⟩) rfl rfl (Nat.le_of_ble_eq_true rfl) dX8_load_92 ⟨Nat.le_of_ble_eq_true rfl, Nat.le_of_ble_eq_true rfl⟩) ?_
            refine g_nm (fun S5 hS5 => ?_)
            have kqS5 := kq_c hS5 (fun i hi => congrFun (fX8_letDrum _ _ _ _ 57 (by decide) ) i) (kqS4)
            refine g_aload_n S 0 dX8_load_95 rfl ?_
            refine g_iload_n S 1 dX8_load_96 rfl ?_
            refine g_const S dX8_load_97 (v := 2) rfl ?_
            refine g_iload_n S 3 dX8_load_98 rfl ?_
            refine g_callv (g_runV S hC (As := [.int a, .int (2 : Int32), .int n]) (rest := []) (k := 57) (by decide) rfl (by decide) rfl (kX8_letDrum l E S5 a a.toNatClampNeg hbe (by omega) (2 : Int32) 2 rfl (by decide) n) (cwV 3 S.2.2.2.2 gX8_load_X8_letDrum rfl rfl rfl (by decide +kernel) ⟨Nat.le_of_ble_eq_true rfl, Nat.le_of_ble_eq_true rfl⟩) rfl rfl (Nat.le_of_ble_eq_true rfl) dX8_load_99 ⟨Nat.le_of_ble_eq_true rfl, Nat.le_of_ble_eq_true rfl⟩) ?_
            refine g_nm (fun S6 hS6 => ?_)
            have kqS6 := kq_c hS6 (fun i hi => congrFun (fX8_letDrum _ _ _ _ 57 (by decide) ) i) (kqS5)
            refine g_aload_n S 0 dX8_load_102 rfl ?_
            refine g_iload_n S 1 dX8_load_103 rfl ?_
            refine g_const S dX8_load_104 (v := 3) rfl ?_
            refine g_const S dX8_load_105 (v := 0) rfl ?_
            refine g_callv (g_runV S hC (As := [.int a, .int (3 : Int32), .int (0 : Int32)]) (rest := []) (k := 57) (by decide) rfl (by decide) rfl (kX8_letDrum l E S6 a a.toNatClampNeg hbe (by omega) (3 : Int32) 3 rfl (by decide) (0 : Int32)) (cwV 3 S.2.2.2.2 gX8_load_X8_letDrum rfl rfl rfl (by decide +kernel) ⟨Nat.le_of_ble_eq_true rfl, Nat.le_of_ble_eq_true rfl⟩) rfl rfl (Nat.le_of_ble_eq_true rfl) dX8_load_106 ⟨Nat.le_of_ble_eq_true rfl, Nat.le_of_ble_eq_true rfl⟩) ?_
            refine g_nm (fun S7 hS7 => ?_)
            have kqS7 := kq_c hS7 (fun i hi => congrFun (fX8_letDrum _ _ _ _ 57 (by decide) ) i) (kqS6)
            refine g_aload_n S 0 dX8_load_109 rfl ?_
            refine gg7r S hC hiX8 (by decide) rfl 9 (by decide) (by decide +kernel) dX8_load_110 ?_
            refine g_const S dX8_load_113 (v := 1) rfl ?_
            refine g_iload_n S 2 dX8_load_114 rfl ?_
            refine g_iadd S dX8_load_115 ?_
            refine g_iald S hC (by decide) rfl (1 + b.toNatClampNeg) (gI_add rfl hbe2) (show 1 + b.toNatClampNeg < 72 by omega) (by decide) dX8_load_116 ?_
            exact g_iret S hr hlocks dX8_load_117 (by subst hS7 hS6 hS5 hS4 hS1; unfold sX8_load_r; (try dsimp only); rw [if_neg c_1, if_neg c_2, if_neg c_3, if_pos c_4, if_pos c_5]) (by subst hS7 hS6 hS5 hS4 hS1; unfold sX8_load_s; (try dsimp only); rw [if_neg c_1, if_neg c_2, if_neg c_3, if_pos c_4, if_pos c_5]) (Nat.le_of_ble_eq_true rfl) (Nat.le_of_ble_eq_true rfl)
          · skip
            refine g_aload_n S 0 dX8_load_70 rfl ?_
            refine g_const S dX8_load_71 (v := 3) rfl ?_
            refine g_calli (g_runV S hC (As := [.int (3 : Int32)]) (rest := []) (k := 57) (by decide) rfl (by decide) rfl (kX8_fail l E S1 (3 : Int32)) (cwV 1 S.2.2.2.2 gX8_load_X8_fail rfl rfl rfl (by decide +kernel) ⟨Nat.le_of_ble_eq_true rfl, Nat.le_of_ble_eq_true rfl⟩) rfl rfl (Nat.le_of_ble_eq_true rfl) dX8_load_72 ⟨Nat.le_of_ble_eq_true rfl, Nat.le_of_ble_eq_true rfl⟩) ?_
            refine g_nm (fun S8 hS8 => ?_)
            exact g_iret S hr hlocks dX8_load_75 (by subst hS8 hS1; unfold sX8_load_r; (try dsimp only); rw [if_neg c_1, if_neg c_2, if_neg c_3, if_pos c_4, if_neg c_5]) (by subst hS8 hS1; unfold sX8_load_s; (try dsimp only); rw [if_neg c_1, if_neg c_2, if_neg c_3, if_pos c_4, if_neg c_5]) (Nat.le_of_ble_eq_true rfl) (Nat.le_of_ble_eq_true rfl)
      · skip
        refine g_aload_n S 0 dX8_load_42 rfl ?_
        refine g_const S dX8_load_43 (v := 2) rfl ?_
        refine g_calli (g_runV S hC (As := [.int (2 : Int32)]) (rest := []) (k := 57) (by decide) rfl (by decide) rfl (kX8_fail l E S1 (2 : Int32)) (cwV 1 S.2.2.2.2 gX8_load_X8_fail rfl rfl rfl (by decide +kernel) ⟨Nat.le_of_ble_eq_true rfl, Nat.le_of_ble_eq_true rfl⟩) rfl rfl (Nat.le_of_ble_eq_true rfl) dX8_load_44 ⟨Nat.le_of_ble_eq_true rfl, Nat.le_of_ble_eq_true rfl⟩) ?_
        refine g_nm (fun S9 hS9 => ?_)
        exact g_iret S hr hlocks dX8_load_47 (by subst hS9 hS1; unfold sX8_load_r; (try dsimp only); rw [if_neg c_1, if_neg c_2, if_pos c_3]) (by subst hS9 hS1; unfold sX8_load_s; (try dsimp only); rw [if_neg c_1, if_neg c_2, if_pos c_3]) (Nat.le_of_ble_eq_true rfl) (Nat.le_of_ble_eq_true rfl)
    · skip
      refine g_aload_n S 0 dX8_load_22 rfl ?_
      refine g_const S dX8_load_23 (v := 1) rfl ?_
      refine g_calli (g_runV S hC (As := [.int (1 : Int32)]) (rest := []) (k := 57) (by decide) rfl (by decide) rfl (kX8_fail l E S1 (1 : Int32)) (cwV 1 S.2.2.2.2 gX8_load_X8_fail rfl rfl rfl (by decide +kernel) ⟨Nat.le_of_ble_eq_true rfl, Nat.le_of_ble_eq_true rfl⟩) rfl rfl (Nat.le_of_ble_eq_true rfl) dX8_load_24 ⟨Nat.le_of_ble_eq_true rfl, Nat.le_of_ble_eq_true rfl⟩) ?_
      refine g_nm (fun S10 hS10 => ?_)
      exact g_iret S hr hlocks dX8_load_27 (by subst hS10 hS1; unfold sX8_load_r; (try dsimp only); rw [if_neg c_1, if_pos c_2]) (by subst hS10 hS1; unfold sX8_load_s; (try dsimp only); rw [if_neg c_1, if_pos c_2]) (Nat.le_of_ble_eq_true rfl) (Nat.le_of_ble_eq_true rfl)
def sX8_yields_r (σ : gS) (kn : Nat) (a : Int32) (b : Int32) : Int32 := if b < (if kn = 0 then 12 else 8) then ((0 : Int32)) else (if b < (if kn = 0 then 24 else 15) then (((a * (if kn = 0 then 6 else 8)) * ((if kn = 0 then 24 else 15) - b)) / ((if kn = 0 then 24 else 15) - (if kn = 0 then 12 else 8))) else ((0 : Int32)))
set_option maxRecDepth 100000 in
set_option maxHeartbeats 4000000 in
theorem kX8_yields (l : Launch) (E : gT) (σ : gS) (k : Int32) (kn : Nat) (hk : k = nI kn) (hkn : kn < 2) (a : Int32) (b : Int32) : gMi l yX8_yields wsX8_yields ({ frames := 0, cells := 0, slots := 0, locals := 0 }) 0 0 E σ [.int k, .int a, .int b] (sX8_yields_r σ kn a b) σ := by
  refine g_met (mc := 0) (ms := 0) (nL := 3) (ret := (some .int)) (by decide) rfl (lv := [(0, .int k), (1, .int a), (2, .int b)]) rfl (Nat.le_of_ble_eq_true rfl) ?_
  intro p e s m below meth c S hr hlocks hC
  refine g_iload_n S 2 dX8_yields_0 rfl ?_
  obtain ⟨t_1, hZt_1, hTt_1⟩ := hC.2.2.2.2.2.1
  refine g_gets S hZt_1 (by decide +kernel) dX8_yields_1 ?_
  refine g_iload_n S 0 dX8_yields_4 rfl ?_
  refine g_ti S hTt_1 kn hk (by show kn < _; first | omega | (unfold gLen; simp; omega)) (v := .int (if kn = 0 then 12 else 8)) rfl dX8_yields_5 ?_
  refine g_icmp_lt S 18 dX8_yields_6 (by decide) (fun c_2 => ?_) (fun c_2 => ?_)
  · skip
    refine g_const S dX8_yields_18 (v := 0) rfl ?_
    exact g_iret S hr hlocks dX8_yields_19 (by rw [sX8_yields_r, if_pos c_2]) rfl (Nat.le_of_ble_eq_true rfl) (Nat.le_of_ble_eq_true rfl)
  · skip
    refine g_iload_n S 2 dX8_yields_9 rfl ?_
    obtain ⟨t_3, hZt_3, hTt_3⟩ := hC.2.2.2.2.2.2.1
    refine g_gets S hZt_3 (by decide +kernel) dX8_yields_10 ?_
    refine g_iload_n S 0 dX8_yields_13 rfl ?_
    refine g_ti S hTt_3 kn hk (by show kn < _; first | omega | (unfold gLen; simp; omega)) (v := .int (if kn = 0 then 24 else 15)) rfl dX8_yields_14 ?_
    refine g_icmp_lt S 20 dX8_yields_15 (by decide) (fun c_4 => ?_) (fun c_4 => ?_)
    · skip
      refine g_iload_n S 1 dX8_yields_20 rfl ?_
      obtain ⟨t_5, hZt_5, hTt_5⟩ := hC.2.2.2.2.2.2.2
      refine g_gets S hZt_5 (by decide +kernel) dX8_yields_21 ?_
      refine g_iload_n S 0 dX8_yields_24 rfl ?_
      refine g_ti S hTt_5 kn hk (by show kn < _; first | omega | (unfold gLen; simp; omega)) (v := .int (if kn = 0 then 6 else 8)) rfl dX8_yields_25 ?_
      refine g_imul S dX8_yields_26 ?_
      obtain ⟨t_6, hZt_6, hTt_6⟩ := hC.2.2.2.2.2.2.1
      refine g_gets S hZt_6 (by decide +kernel) dX8_yields_27 ?_
      refine g_iload_n S 0 dX8_yields_30 rfl ?_
      refine g_ti S hTt_6 kn hk (by show kn < _; first | omega | (unfold gLen; simp; omega)) (v := .int (if kn = 0 then 24 else 15)) rfl dX8_yields_31 ?_
      refine g_iload_n S 2 dX8_yields_32 rfl ?_
      refine g_isub S dX8_yields_33 ?_
      refine g_imul S dX8_yields_34 ?_
      obtain ⟨t_7, hZt_7, hTt_7⟩ := hC.2.2.2.2.2.2.1
      refine g_gets S hZt_7 (by decide +kernel) dX8_yields_35 ?_
      refine g_iload_n S 0 dX8_yields_38 rfl ?_
      refine g_ti S hTt_7 kn hk (by show kn < _; first | omega | (unfold gLen; simp; omega)) (v := .int (if kn = 0 then 24 else 15)) rfl dX8_yields_39 ?_
      obtain ⟨t_8, hZt_8, hTt_8⟩ := hC.2.2.2.2.2.1
      refine g_gets S hZt_8 (by decide +kernel) dX8_yields_40 ?_
      refine g_iload_n S 0 dX8_yields_43 rfl ?_
      refine g_ti S hTt_8 kn hk (by show kn < _; first | omega | (unfold gLen; simp; omega)) (v := .int (if kn = 0 then 12 else 8)) rfl dX8_yields_44 ?_
      refine g_isub S dX8_yields_45 ?_
      refine g_idiv S dX8_yields_46 (by split <;> decide) ?_
      exact g_iret S hr hlocks dX8_yields_47 (by rw [sX8_yields_r, if_neg c_2, if_pos c_4]) rfl (Nat.le_of_ble_eq_true rfl) (Nat.le_of_ble_eq_true rfl)
    · skip
      refine g_const S dX8_yields_18 (v := 0) rfl ?_
      exact g_iret S hr hlocks dX8_yields_19 (by rw [sX8_yields_r, if_neg c_2, if_neg c_4]) rfl (Nat.le_of_ble_eq_true rfl) (Nat.le_of_ble_eq_true rfl)
def sX8_yieldOf_r (σ : gS) (dn : Nat) : Int32 := if sX8_dr_r σ dn 1 = (-1 : Int32) then ((0 : Int32)) else (sX8_yields_r σ ((sX8_dr_r σ dn 1).toNatClampNeg) (sX8_dr_r σ dn 2) (sX8_dr_r σ dn 3))
set_option maxRecDepth 100000 in
set_option maxHeartbeats 4000000 in
theorem kX8_yieldOf (l : Launch) (E : gT) (σ : gS) (d : Int32) (dn : Nat) (hd : d = nI dn) (hdn : dn < 4) (hok : mOK σ) : gMi l yX8_yieldOf wsX8_yieldOf ({ frames := 1, cells := 0, slots := 0, locals := 22 }) 0 0 E σ [.ref (E.2.2 57), .int d] (sX8_yieldOf_r σ dn) σ := by
  refine g_met (mc := 0) (ms := 0) (nL := 2) (ret := (some .int)) (by decide) rfl (lv := [(0, .ref (E.2.2 57)), (1, .int d)]) rfl (Nat.le_of_ble_eq_true rfl) ?_
  intro p e s m below meth c S hr hlocks hC
  refine g_aload_n S 0 dX8_yieldOf_0 rfl ?_
  refine g_iload_n S 1 dX8_yieldOf_1 rfl ?_
  refine g_const S dX8_yieldOf_2 (v := 1) rfl ?_
  refine g_calli (g_runV S hC (As := [.int d, .int (1 : Int32)]) (rest := []) (k := 57) (by decide) rfl (by decide) rfl (kX8_dr l E σ d dn hd (by omega) (1 : Int32) 1 rfl (by decide)) (cwV 2 S.2.2.2.2 gX8_yieldOf_X8_dr rfl rfl rfl (by decide +kernel) ⟨Nat.le_of_ble_eq_true rfl, Nat.le_of_ble_eq_true rfl⟩) rfl rfl (Nat.le_of_ble_eq_true rfl) dX8_yieldOf_3 ⟨Nat.le_of_ble_eq_true rfl, Nat.le_of_ble_eq_true rfl⟩) ?_
  refine g_const S dX8_yieldOf_6 (v := (-1)) rfl ?_
  refine g_icmp_ne S 14 dX8_yieldOf_7 (by decide) (fun c_1 => ?_) (fun c_1 => ?_)
  · skip
    refine g_aload_n S 0 dX8_yieldOf_14 rfl ?_
    refine g_iload_n S 1 dX8_yieldOf_15 rfl ?_
    refine g_const S dX8_yieldOf_16 (v := 1) rfl ?_
    refine g_calli (g_runV S hC (As := [.int d, .int (1 : Int32)]) (rest := []) (k := 57) (by decide) rfl (by decide) rfl (kX8_dr l E σ d dn hd (by omega) (1 : Int32) 1 rfl (by decide)) (cwV 2 S.2.2.2.2 gX8_yieldOf_X8_dr rfl rfl rfl (by decide +kernel) ⟨Nat.le_of_ble_eq_true rfl, Nat.le_of_ble_eq_true rfl⟩) rfl rfl (Nat.le_of_ble_eq_true rfl) dX8_yieldOf_17 ⟨Nat.le_of_ble_eq_true rfl, Nat.le_of_ble_eq_true rfl⟩) ?_
    refine g_aload_n S 0 dX8_yieldOf_20 rfl ?_
    refine g_iload_n S 1 dX8_yieldOf_21 rfl ?_
    refine g_const S dX8_yieldOf_22 (v := 2) rfl ?_
    refine g_calli (g_runV S hC (As := [.int d, .int (2 : Int32)]) (rest := [.int (sX8_dr_r σ dn 1)]) (k := 57) (by decide) rfl (by decide) rfl (kX8_dr l E σ d dn hd (by omega) (2 : Int32) 2 rfl (by decide)) (cwV 2 S.2.2.2.2 gX8_yieldOf_X8_dr rfl rfl rfl (by decide +kernel) ⟨Nat.le_of_ble_eq_true rfl, Nat.le_of_ble_eq_true rfl⟩) rfl rfl (Nat.le_of_ble_eq_true rfl) dX8_yieldOf_23 ⟨Nat.le_of_ble_eq_true rfl, Nat.le_of_ble_eq_true rfl⟩) ?_
    refine g_aload_n S 0 dX8_yieldOf_26 rfl ?_
    refine g_iload_n S 1 dX8_yieldOf_27 rfl ?_
    refine g_const S dX8_yieldOf_28 (v := 3) rfl ?_
    refine g_calli (g_runV S hC (As := [.int d, .int (3 : Int32)]) (rest := [.int (sX8_dr_r σ dn 2), .int (sX8_dr_r σ dn 1)]) (k := 57) (by decide) rfl (by decide) rfl (kX8_dr l E σ d dn hd (by omega) (3 : Int32) 3 rfl (by decide)) (cwV 2 S.2.2.2.2 gX8_yieldOf_X8_dr rfl rfl rfl (by decide +kernel) ⟨Nat.le_of_ble_eq_true rfl, Nat.le_of_ble_eq_true rfl⟩) rfl rfl (Nat.le_of_ble_eq_true rfl) dX8_yieldOf_29 ⟨Nat.le_of_ble_eq_true rfl, Nat.le_of_ble_eq_true rfl⟩) ?_
    refine g_calli (g_runS S hC (As := [.int (sX8_dr_r σ dn 1), .int (sX8_dr_r σ dn 2), .int (sX8_dr_r σ dn 3)]) (rest := []) (kX8_yields l E σ (sX8_dr_r σ dn 1) ((sX8_dr_r σ dn 1).toNatClampNeg) (lk_nat hok.2 hdn (by assumption)).2 (lk_nat hok.2 hdn (by assumption)).1 (sX8_dr_r σ dn 2) (sX8_dr_r σ dn 3)) (va_cwS 3 S.2.2.2.2 gX8_yieldOf_X8_yields rfl rfl rfl (by decide +kernel) ⟨Nat.le_of_ble_eq_true rfl, Nat.le_of_ble_eq_true rfl⟩) rfl rfl (Nat.le_of_ble_eq_true rfl) dX8_yieldOf_32 ⟨Nat.le_of_ble_eq_true rfl, Nat.le_of_ble_eq_true rfl⟩) ?_
    exact g_iret S hr hlocks dX8_yieldOf_35 (by rw [sX8_yieldOf_r, if_neg c_1]) rfl (Nat.le_of_ble_eq_true rfl) (Nat.le_of_ble_eq_true rfl)
  · skip
    refine g_const S dX8_yieldOf_10 (v := 0) rfl ?_
    refine g_goto S 35 dX8_yieldOf_11 (by decide) ?_
    exact g_iret S hr hlocks dX8_yieldOf_35 (by rw [sX8_yieldOf_r, if_pos c_1]) rfl (Nat.le_of_ble_eq_true rfl) (Nat.le_of_ble_eq_true rfl)
def sX8_take_r (σ : gS) (a : Int32) : Int32 := let S1 := gu σ 57 0 (0 : Int32); if sX8_isDrum_r S1 a = 0 then (sX8_fail_r S1 (1 : Int32)) else (if sX8_dr_r S1 a.toNatClampNeg 1 = (-1 : Int32) then (sX8_fail_r S1 (2 : Int32)) else (sX8_yieldOf_r S1 a.toNatClampNeg))
def sX8_take_s (σ : gS) (a : Int32) : gS := let S1 := gu σ 57 0 (0 : Int32); if sX8_isDrum_r S1 a = 0 then (let S7 := sX8_fail_s S1 (1 : Int32); S7) else (if sX8_dr_r S1 a.toNatClampNeg 1 = (-1 : Int32) then (let S6 := sX8_fail_s S1 (2 : Int32); S6) else (let S2 := gu S1 62 (3 + (sX8_dr_r S1 (a.toNatClampNeg) 1).toNatClampNeg) ((S1.1 62 (3 + (sX8_dr_r S1 (a.toNatClampNeg) 1).toNatClampNeg)) + (sX8_yieldOf_r S1 a.toNatClampNeg)); let S3 := sX8_letDrum_s S2 a.toNatClampNeg 1 (-1 : Int32); let S4 := sX8_letDrum_s S3 a.toNatClampNeg 2 (0 : Int32); let S5 := sX8_letDrum_s S4 a.toNatClampNeg 3 (0 : Int32); S5))
theorem fX8_take (σ : gS) (a : Int32) (x : Nat) (hx57 : x ≠ 57) (hx62 : x ≠ 62) : (sX8_take_s σ a).1 x = σ.1 x := by
  unfold sX8_take_s
  (try dsimp only)
  (repeat' split)
  all_goals (simp [gu_ne, gcp, fX8_fail, fX8_letDrum, *])
set_option maxRecDepth 100000 in
set_option maxHeartbeats 4000000 in
theorem kX8_take (l : Launch) (E : gT) (σ : gS) (a : Int32) (hok : mOK σ) : gMi l yX8_take wsX8_take ({ frames := 2, cells := 0, slots := 0, locals := 43 }) 0 0 E σ [.ref (E.2.2 57), .int a] (sX8_take_r σ a) (sX8_take_s σ a) := by
  refine g_met (mc := 0) (ms := 0) (nL := 3) (ret := (some .int)) (by decide) rfl (lv := [(0, .ref (E.2.2 57)), (1, .int a)]) rfl (Nat.le_of_ble_eq_true rfl) ?_
  intro p e s m below meth c S hr hlocks hC
  have hiX8 : ∀ w ∈ wsX80, w ∈ wsX8_take := by decide +kernel
  refine g_aload_n S 0 dX8_take_0 rfl ?_
  refine g_const S dX8_take_1 (v := 0) rfl ?_
  refine gp7 S hC hiX8 (by decide) rfl 0 (by decide) (by decide +kernel) dX8_take_2 ?_
  refine g_nm (fun S1 hS1 => ?_)
  have kqS1 := kq_p0 hS1 (kq_0)
  have okS1 := mOK.p0 hS1 (hok)
  refine g_aload_n S 0 dX8_take_5 rfl ?_
  refine g_iload_n S 1 dX8_take_6 rfl ?_
  refine g_calli (g_runV S hC (As := [.int a]) (rest := []) (k := 57) (by decide) rfl (by decide) rfl (kX8_isDrum l E S1 a) (cwV 1 S.2.2.2.2 gX8_take_X8_isDrum rfl rfl rfl (by decide +kernel) ⟨Nat.le_of_ble_eq_true rfl, Nat.le_of_ble_eq_true rfl⟩) rfl rfl (Nat.le_of_ble_eq_true rfl) dX8_take_7 ⟨Nat.le_of_ble_eq_true rfl, Nat.le_of_ble_eq_true rfl⟩) ?_
  refine g_if_ne S 19 dX8_take_10 (by decide) (fun c_1 => ?_) (fun c_1 => ?_)
  · skip
    have hle := hok.le2
    obtain ⟨hbb, hbe⟩ := md_dr (mB σ 2) ((kqS1 2 (by decide)).trans (hok.eq 2 (by decide) (by decide))) (by omega) (by assumption)
    have hbl : a.toNatClampNeg < 4 := by omega
    refine g_aload_n S 0 dX8_take_19 rfl ?_
    refine g_iload_n S 1 dX8_take_20 rfl ?_
    refine g_const S dX8_take_21 (v := 1) rfl ?_
    refine g_calli (g_runV S hC (As := [.int a, .int (1 : Int32)]) (rest := []) (k := 57) (by decide) rfl (by decide) rfl (kX8_dr l E S1 a a.toNatClampNeg hbe (by omega) (1 : Int32) 1 rfl (by decide)) (cwV 2 S.2.2.2.2 gX8_take_X8_dr rfl rfl rfl (by decide +kernel) ⟨Nat.le_of_ble_eq_true rfl, Nat.le_of_ble_eq_true rfl⟩) rfl rfl (Nat.le_of_ble_eq_true rfl) dX8_take_22 ⟨Nat.le_of_ble_eq_true rfl, Nat.le_of_ble_eq_true rfl⟩) ?_
    refine g_const S dX8_take_25 (v := (-1)) rfl ?_
    refine g_icmp_ne S 35 dX8_take_26 (by decide) (fun c_2 => ?_) (fun c_2 => ?_)
    · skip
      have hlk := lk_nat okS1.2 hbl (by assumption)
      have hlk1 : (sX8_dr_r S1 (a.toNatClampNeg) 1).toNatClampNeg < 2 := hlk.1
      refine g_aload_n S 0 dX8_take_35 rfl ?_
      refine g_iload_n S 1 dX8_take_36 rfl ?_
      refine g_calli (g_runV S hC (As := [.int a]) (rest := []) (k := 57) (by decide) rfl (by decide) rfl (kX8_yieldOf l E S1 a a.toNatClampNeg hbe (by omega) okS1) (cwV 1 S.2.2.2.2 gX8_take_X8_yieldOf rfl rfl rfl (by decide +kernel) ⟨Nat.le_of_ble_eq_true rfl, Nat.le_of_ble_eq_true rfl⟩) rfl rfl (Nat.le_of_ble_eq_true rfl) dX8_take_37 ⟨Nat.le_of_ble_eq_true rfl, Nat.le_of_ble_eq_true rfl⟩) ?_
      refine g_istore_n S [(2, .int (sX8_yieldOf_r S1 a.toNatClampNeg)), (0, .ref (E.2.2 57)), (1, .int a)] dX8_take_40 (by decide) rfl ?_
      refine g_aload_n S 1 dX8_take_41 rfl ?_
      refine gg7r S hC hiX8 (by decide) rfl 9 (by decide) (by decide +kernel) dX8_take_42 ?_
      refine g_const S dX8_take_45 (v := 3) rfl ?_
      refine g_aload_n S 1 dX8_take_46 rfl ?_
      refine g_iload_n S 2 dX8_take_47 rfl ?_
      refine g_const S dX8_take_48 (v := 1) rfl ?_
      refine g_calli (g_runV S hC (As := [.int a, .int (1 : Int32)]) (rest := [.int (3 : Int32), .ref (E.2.2 62)]) (k := 57) (by decide) rfl (by decide) rfl (kX8_dr l E S1 a a.toNatClampNeg hbe (by omega) (1 : Int32) 1 rfl (by decide)) (cwV 2 S.2.2.2.2 gX8_take_X8_dr rfl rfl rfl (by decide +kernel) ⟨Nat.le_of_ble_eq_true rfl, Nat.le_of_ble_eq_true rfl⟩) rfl rfl (Nat.le_of_ble_eq_true rfl) dX8_take_49 ⟨Nat.le_of_ble_eq_true rfl, Nat.le_of_ble_eq_true rfl⟩) ?_
      refine g_iadd S dX8_take_52 ?_
      refine g_dup2 S dX8_take_53 rfl rfl ?_
      refine g_iald S hC (by decide) rfl (3 + (sX8_dr_r S1 (a.toNatClampNeg) 1).toNatClampNeg) ((congrArg (fun z : Int32 => 3 + z) hlk.2).trans (nI_add 3 _)) (show 3 + (sX8_dr_r S1 (a.toNatClampNeg) 1).toNatClampNeg < 72 by omega) (by decide) dX8_take_54 ?_
      refine g_iload_n S 0 dX8_take_55 rfl ?_
      refine g_iadd S dX8_take_56 ?_
      refine g_iast S hC (by decide) rfl (3 + (sX8_dr_r S1 (a.toNatClampNeg) 1).toNatClampNeg) ((congrArg (fun z : Int32 => 3 + z) hlk.2).trans (nI_add 3 _)) (show 3 + (sX8_dr_r S1 (a.toNatClampNeg) 1).toNatClampNeg < 72 by omega) (by decide) dX8_take_57 ?_
      refine g_nm (fun S2 hS2 => ?_)
      have kqS2 := kq_pr hS2 (by decide) (kqS1)
      refine g_aload_n S 1 dX8_take_58 rfl ?_
      refine g_iload_n S 2 dX8_take_59 rfl ?_
      refine g_const S dX8_take_60 (v := 1) rfl ?_
      refine g_const S dX8_take_61 (v := (-1)) rfl ?_
      refine g_callv (g_runV S hC (As := [.int a, .int (1 : Int32), .int (-1 : Int32)]) (rest := []) (k := 57) (by decide) rfl (by decide) rfl (kX8_letDrum l E S2 a a.toNatClampNeg hbe (by omega) (1 : Int32) 1 rfl (by decide) (-1 : Int32)) (cwV 3 S.2.2.2.2 gX8_take_X8_letDrum rfl rfl rfl (by decide +kernel) ⟨Nat.le_of_ble_eq_true rfl, Nat.le_of_ble_eq_true rfl⟩) rfl rfl (Nat.le_of_ble_eq_true rfl) dX8_take_62 ⟨Nat.le_of_ble_eq_true rfl, Nat.le_of_ble_eq_true rfl⟩) ?_
      refine g_nm (fun S3 hS3 => ?_)
      have kqS3 := kq_c hS3 (fun i hi => congrFun (fX8_letDrum _ _ _ _ 57 (by decide) ) i) (kqS2)
      refine g_aload_n S 1 dX8_take_65 rfl ?_
      refine g_iload_n S 2 dX8_take_66 rfl ?_
      refine g_const S dX8_take_67 (v := 2) rfl ?_
      refine g_const S dX8_take_68 (v := 0) rfl ?_
      refine g_callv (g_runV S hC (As := [.int a, .int (2 : Int32), .int (0 : Int32)]) (rest := []) (k := 57) (by decide) rfl (by decide) rfl (kX8_letDrum l E S3 a a.toNatClampNeg hbe (by omega) (2 : Int32) 2 rfl (by decide) (0 : Int32)) (cwV 3 S.2.2.2.2 gX8_take_X8_letDrum rfl rfl rfl (by decide +kernel) ⟨Nat.le_of_ble_eq_true rfl, Nat.le_of_ble_eq_true rfl⟩) rfl rfl (Nat.le_of_ble_eq_true rfl) dX8_take_69 ⟨Nat.le_of_ble_eq_true rfl, Nat.le_of_ble_eq_true rfl⟩) ?_
      refine g_nm (fun S4 hS4 => ?_)
      have kqS4 := kq_c hS4 (fun i hi => congrFun (fX8_letDrum _ _ _ _ 57 (by decide) ) i) (kqS3)
      refine g_aload_n S 1 dX8_take_72 rfl ?_
      refine g_iload_n S 2 dX8_take_73 rfl ?_
      refine g_const S dX8_take_74 (v := 3) rfl ?_
      refine g_const S dX8_take_75 (v := 0) rfl ?_
      refine g_callv (g_runV S hC (As := [.int a, .int (3 : Int32), .int (0 : Int32)]) (rest := []) (k := 57) (by decide) rfl (by decide) rfl (kX8_letDrum l E S4 a a.toNatClampNeg hbe (by omega) (3 : Int32) 3 rfl (by decide) (0 : Int32)) (cwV 3 S.2.2.2.2 gX8_take_X8_letDrum rfl rfl rfl (by decide +kernel) ⟨Nat.le_of_ble_eq_true rfl, Nat.le_of_ble_eq_true rfl⟩) rfl rfl (Nat.le_of_ble_eq_true rfl) dX8_take_76 ⟨Nat.le_of_ble_eq_true rfl, Nat.le_of_ble_eq_true rfl⟩) ?_
      refine g_nm (fun S5 hS5 => ?_)
      have kqS5 := kq_c hS5 (fun i hi => congrFun (fX8_letDrum _ _ _ _ 57 (by decide) ) i) (kqS4)
      refine g_iload_n S 0 dX8_take_79 rfl ?_
      exact g_iret S hr hlocks dX8_take_80 (by subst hS5 hS4 hS3 hS2 hS1; unfold sX8_take_r; (try dsimp only); rw [if_neg c_1, if_neg c_2]) (by subst hS5 hS4 hS3 hS2 hS1; unfold sX8_take_s; (try dsimp only); rw [if_neg c_1, if_neg c_2]) (Nat.le_of_ble_eq_true rfl) (Nat.le_of_ble_eq_true rfl)
    · skip
      refine g_aload_n S 0 dX8_take_29 rfl ?_
      refine g_const S dX8_take_30 (v := 2) rfl ?_
      refine g_calli (g_runV S hC (As := [.int (2 : Int32)]) (rest := []) (k := 57) (by decide) rfl (by decide) rfl (kX8_fail l E S1 (2 : Int32)) (cwV 1 S.2.2.2.2 gX8_take_X8_fail rfl rfl rfl (by decide +kernel) ⟨Nat.le_of_ble_eq_true rfl, Nat.le_of_ble_eq_true rfl⟩) rfl rfl (Nat.le_of_ble_eq_true rfl) dX8_take_31 ⟨Nat.le_of_ble_eq_true rfl, Nat.le_of_ble_eq_true rfl⟩) ?_
      refine g_nm (fun S6 hS6 => ?_)
      exact g_iret S hr hlocks dX8_take_34 (by subst hS6 hS1; unfold sX8_take_r; (try dsimp only); rw [if_neg c_1, if_pos c_2]) (by subst hS6 hS1; unfold sX8_take_s; (try dsimp only); rw [if_neg c_1, if_pos c_2]) (Nat.le_of_ble_eq_true rfl) (Nat.le_of_ble_eq_true rfl)
  · skip
    refine g_aload_n S 0 dX8_take_13 rfl ?_
    refine g_const S dX8_take_14 (v := 1) rfl ?_
    refine g_calli (g_runV S hC (As := [.int (1 : Int32)]) (rest := []) (k := 57) (by decide) rfl (by decide) rfl (kX8_fail l E S1 (1 : Int32)) (cwV 1 S.2.2.2.2 gX8_take_X8_fail rfl rfl rfl (by decide +kernel) ⟨Nat.le_of_ble_eq_true rfl, Nat.le_of_ble_eq_true rfl⟩) rfl rfl (Nat.le_of_ble_eq_true rfl) dX8_take_15 ⟨Nat.le_of_ble_eq_true rfl, Nat.le_of_ble_eq_true rfl⟩) ?_
    refine g_nm (fun S7 hS7 => ?_)
    exact g_iret S hr hlocks dX8_take_18 (by subst hS7 hS1; unfold sX8_take_r; (try dsimp only); rw [if_pos c_1]) (by subst hS7 hS1; unfold sX8_take_s; (try dsimp only); rw [if_pos c_1]) (Nat.le_of_ble_eq_true rfl) (Nat.le_of_ble_eq_true rfl)
def sX8_send_r (σ : gS) (a : Int32) : Int32 := let S1 := gu σ 57 0 (0 : Int32); if sX8_isSmuggler_r S1 a = 0 then (sX8_fail_r S1 (1 : Int32)) else (if sX8_sm_r S1 a.toNatClampNeg 0 = 0 then (let S2 := sX8_letSmuggler_s S1 a.toNatClampNeg (1 : Int32) (S1.1 60 (2 * a.toNatClampNeg)); sX8_sm_r S2 a.toNatClampNeg 1) else (sX8_fail_r S1 (2 : Int32)))
def sX8_send_s (σ : gS) (a : Int32) : gS := let S1 := gu σ 57 0 (0 : Int32); if sX8_isSmuggler_r S1 a = 0 then (let S4 := sX8_fail_s S1 (1 : Int32); S4) else (if sX8_sm_r S1 a.toNatClampNeg 0 = 0 then (let S2 := sX8_letSmuggler_s S1 a.toNatClampNeg (1 : Int32) (S1.1 60 (2 * a.toNatClampNeg)); S2) else (let S3 := sX8_fail_s S1 (2 : Int32); S3))
theorem fX8_send (σ : gS) (a : Int32) (x : Nat) (hx57 : x ≠ 57) (hx62 : x ≠ 62) : (sX8_send_s σ a).1 x = σ.1 x := by
  unfold sX8_send_s
  (try dsimp only)
  (repeat' split)
  all_goals (simp [gu_ne, gcp, fX8_fail, fX8_letSmuggler, *])
set_option maxRecDepth 100000 in
set_option maxHeartbeats 4000000 in
theorem kX8_send (l : Launch) (E : gT) (σ : gS) (a : Int32) (hok : mOK σ) : gMi l yX8_send wsX8_send ({ frames := 2, cells := 0, slots := 0, locals := 43 }) 0 0 E σ [.ref (E.2.2 57), .int a] (sX8_send_r σ a) (sX8_send_s σ a) := by
  refine g_met (mc := 0) (ms := 0) (nL := 2) (ret := (some .int)) (by decide) rfl (lv := [(0, .ref (E.2.2 57)), (1, .int a)]) rfl (Nat.le_of_ble_eq_true rfl) ?_
  intro p e s m below meth c S hr hlocks hC
  have hiX8 : ∀ w ∈ wsX80, w ∈ wsX8_send := by decide +kernel
  refine g_aload_n S 0 dX8_send_0 rfl ?_
  refine g_const S dX8_send_1 (v := 0) rfl ?_
  refine gp7 S hC hiX8 (by decide) rfl 0 (by decide) (by decide +kernel) dX8_send_2 ?_
  refine g_nm (fun S1 hS1 => ?_)
  have kqS1 := kq_p0 hS1 (kq_0)
  have okS1 := mOK.p0 hS1 (hok)
  refine g_aload_n S 0 dX8_send_5 rfl ?_
  refine g_iload_n S 1 dX8_send_6 rfl ?_
  refine g_calli (g_runV S hC (As := [.int a]) (rest := []) (k := 57) (by decide) rfl (by decide) rfl (kX8_isSmuggler l E S1 a) (cwV 1 S.2.2.2.2 gX8_send_X8_isSmuggler rfl rfl rfl (by decide +kernel) ⟨Nat.le_of_ble_eq_true rfl, Nat.le_of_ble_eq_true rfl⟩) rfl rfl (Nat.le_of_ble_eq_true rfl) dX8_send_7 ⟨Nat.le_of_ble_eq_true rfl, Nat.le_of_ble_eq_true rfl⟩) ?_
  refine g_if_ne S 19 dX8_send_10 (by decide) (fun c_1 => ?_) (fun c_1 => ?_)
  · skip
    have hle := hok.le3
    obtain ⟨hbb, hbe⟩ := md_sm (mB σ 3) ((kqS1 3 (by decide)).trans (hok.eq 3 (by decide) (by decide))) (by omega) (by assumption)
    have hbl : a.toNatClampNeg < 4 := by omega
    refine g_aload_n S 0 dX8_send_19 rfl ?_
    refine g_iload_n S 1 dX8_send_20 rfl ?_
    refine g_const S dX8_send_21 (v := 0) rfl ?_
    refine g_calli (g_runV S hC (As := [.int a, .int (0 : Int32)]) (rest := []) (k := 57) (by decide) rfl (by decide) rfl (kX8_sm l E S1 a a.toNatClampNeg hbe (by omega) (0 : Int32) 0 rfl (by decide)) (cwV 2 S.2.2.2.2 gX8_send_X8_sm rfl rfl rfl (by decide +kernel) ⟨Nat.le_of_ble_eq_true rfl, Nat.le_of_ble_eq_true rfl⟩) rfl rfl (Nat.le_of_ble_eq_true rfl) dX8_send_22 ⟨Nat.le_of_ble_eq_true rfl, Nat.le_of_ble_eq_true rfl⟩) ?_
    refine g_if_eq S 34 dX8_send_25 (by decide) (fun c_2 => ?_) (fun c_2 => ?_)
    · skip
      refine g_aload_n S 0 dX8_send_34 rfl ?_
      refine g_iload_n S 1 dX8_send_35 rfl ?_
      refine g_const S dX8_send_36 (v := 1) rfl ?_
      refine g_aload_n S 0 dX8_send_37 rfl ?_
      refine gg7r S hC hiX8 (by decide) rfl 7 (by decide) (by decide +kernel) dX8_send_38 ?_
      refine g_const S dX8_send_41 (v := 2) rfl ?_
      refine g_iload_n S 1 dX8_send_42 rfl ?_
      refine g_imul S dX8_send_43 ?_
      refine g_iald S hC (by decide) rfl (2 * a.toNatClampNeg) (gI_mul rfl hbe) (show 2 * a.toNatClampNeg < 8 by omega) (by decide) dX8_send_44 ?_
      refine g_callv (g_runV S hC (As := [.int a, .int (1 : Int32), .int (S1.1 60 (2 * a.toNatClampNeg))]) (rest := []) (k := 57) (by decide) rfl (by decide) rfl (kX8_letSmuggler l E S1 a a.toNatClampNeg hbe (by omega) (1 : Int32) (S1.1 60 (2 * a.toNatClampNeg))) (cwV 3 S.2.2.2.2 gX8_send_X8_letSmuggler rfl rfl rfl (by decide +kernel) ⟨Nat.le_of_ble_eq_true rfl, Nat.le_of_ble_eq_true rfl⟩) rfl rfl (Nat.le_of_ble_eq_true rfl) dX8_send_45 ⟨Nat.le_of_ble_eq_true rfl, Nat.le_of_ble_eq_true rfl⟩) ?_
      refine g_nm (fun S2 hS2 => ?_)
      have kqS2 := kq_c hS2 (fun i hi => congrFun (fX8_letSmuggler _ _ _ _ 57 (by decide) ) i) (kqS1)
      have okS2 : mOK S2 := by rw [hS2]; exact okX8_letSmuggler  (okS1)
      refine g_aload_n S 0 dX8_send_48 rfl ?_
      refine g_iload_n S 1 dX8_send_49 rfl ?_
      refine g_const S dX8_send_50 (v := 1) rfl ?_
      refine g_calli (g_runV S hC (As := [.int a, .int (1 : Int32)]) (rest := []) (k := 57) (by decide) rfl (by decide) rfl (kX8_sm l E S2 a a.toNatClampNeg hbe (by omega) (1 : Int32) 1 rfl (by decide)) (cwV 2 S.2.2.2.2 gX8_send_X8_sm rfl rfl rfl (by decide +kernel) ⟨Nat.le_of_ble_eq_true rfl, Nat.le_of_ble_eq_true rfl⟩) rfl rfl (Nat.le_of_ble_eq_true rfl) dX8_send_51 ⟨Nat.le_of_ble_eq_true rfl, Nat.le_of_ble_eq_true rfl⟩) ?_
      exact g_iret S hr hlocks dX8_send_54 (by subst hS2 hS1; unfold sX8_send_r; (try dsimp only); rw [if_neg c_1, if_pos c_2]) (by subst hS2 hS1; unfold sX8_send_s; (try dsimp only); rw [if_neg c_1, if_pos c_2]) (Nat.le_of_ble_eq_true rfl) (Nat.le_of_ble_eq_true rfl)
    · skip
      refine g_aload_n S 0 dX8_send_28 rfl ?_
      refine g_const S dX8_send_29 (v := 2) rfl ?_
      refine g_calli (g_runV S hC (As := [.int (2 : Int32)]) (rest := []) (k := 57) (by decide) rfl (by decide) rfl (kX8_fail l E S1 (2 : Int32)) (cwV 1 S.2.2.2.2 gX8_send_X8_fail rfl rfl rfl (by decide +kernel) ⟨Nat.le_of_ble_eq_true rfl, Nat.le_of_ble_eq_true rfl⟩) rfl rfl (Nat.le_of_ble_eq_true rfl) dX8_send_30 ⟨Nat.le_of_ble_eq_true rfl, Nat.le_of_ble_eq_true rfl⟩) ?_
      refine g_nm (fun S3 hS3 => ?_)
      exact g_iret S hr hlocks dX8_send_33 (by subst hS3 hS1; unfold sX8_send_r; (try dsimp only); rw [if_neg c_1, if_neg c_2]) (by subst hS3 hS1; unfold sX8_send_s; (try dsimp only); rw [if_neg c_1, if_neg c_2]) (Nat.le_of_ble_eq_true rfl) (Nat.le_of_ble_eq_true rfl)
  · skip
    refine g_aload_n S 0 dX8_send_13 rfl ?_
    refine g_const S dX8_send_14 (v := 1) rfl ?_
    refine g_calli (g_runV S hC (As := [.int (1 : Int32)]) (rest := []) (k := 57) (by decide) rfl (by decide) rfl (kX8_fail l E S1 (1 : Int32)) (cwV 1 S.2.2.2.2 gX8_send_X8_fail rfl rfl rfl (by decide +kernel) ⟨Nat.le_of_ble_eq_true rfl, Nat.le_of_ble_eq_true rfl⟩) rfl rfl (Nat.le_of_ble_eq_true rfl) dX8_send_15 ⟨Nat.le_of_ble_eq_true rfl, Nat.le_of_ble_eq_true rfl⟩) ?_
    refine g_nm (fun S4 hS4 => ?_)
    exact g_iret S hr hlocks dX8_send_18 (by subst hS4 hS1; unfold sX8_send_r; (try dsimp only); rw [if_pos c_1]) (by subst hS4 hS1; unfold sX8_send_s; (try dsimp only); rw [if_pos c_1]) (Nat.le_of_ble_eq_true rfl) (Nat.le_of_ble_eq_true rfl)
def sX8_bedIs_r (σ : gS) (dn wn : Nat) : Int32 := if wn < 2 then σ.1 58 (2 * dn + wn) else σ.1 62 (10 + dn)
set_option maxRecDepth 100000 in
set_option maxHeartbeats 4000000 in
theorem kX8_bedIs (l : Launch) (E : gT) (σ : gS) (d : Int32) (dn : Nat) (hd : d = nI dn) (hdn : dn < 4) (w : Int32) (wn : Nat) (hw : w = nI wn) (hwn : wn < 3) : gMi l yX8_bedIs wsX8_bedIs ({ frames := 0, cells := 0, slots := 0, locals := 0 }) 0 0 E σ [.ref (E.2.2 57), .int d, .int w] (sX8_bedIs_r σ dn wn) σ := by
  refine g_met (mc := 0) (ms := 0) (nL := 3) (ret := (some .int)) (by decide) rfl (lv := [(0, .ref (E.2.2 57)), (1, .int d), (2, .int w)]) rfl (Nat.le_of_ble_eq_true rfl) ?_
  intro p e s m below meth c S hr hlocks hC
  have hiX8 : ∀ w ∈ wsX80, w ∈ wsX8_bedIs := by decide +kernel
  subst hw
  rcases (show wn = 0 ∨ wn = 1 ∨ wn = 2 by omega) with rfl | rfl | rfl
  · skip
    refine g_iload_n S 2 dX8_bedIs_0 rfl ?_
    refine g_const S dX8_bedIs_1 (v := 2) rfl ?_
    refine g_icmp_ge S 18 dX8_bedIs_2 (by decide) (fun c_1 => absurd c_1 (by decide)) (fun c_1 => ?_)
    refine g_aload_n S 0 dX8_bedIs_5 rfl ?_
    refine gg7r S hC hiX8 (by decide) rfl 5 (by decide) (by decide +kernel) dX8_bedIs_6 ?_
    refine g_const S dX8_bedIs_9 (v := 2) rfl ?_
    refine g_iload_n S 1 dX8_bedIs_10 rfl ?_
    refine g_imul S dX8_bedIs_11 ?_
    refine g_iload_n S 2 dX8_bedIs_12 rfl ?_
    refine g_iadd S dX8_bedIs_13 ?_
    refine g_iald S hC (by decide) rfl ((2 * dn) + 0) (gI_add (gI_mul rfl hd) rfl) (show (2 * dn) + 0 < 8 by omega) (by decide) dX8_bedIs_14 ?_
    refine g_goto S 27 dX8_bedIs_15 (by decide) ?_
    exact g_iret S hr hlocks dX8_bedIs_27 rfl rfl (Nat.le_of_ble_eq_true rfl) (Nat.le_of_ble_eq_true rfl)
  · skip
    refine g_iload_n S 2 dX8_bedIs_0 rfl ?_
    refine g_const S dX8_bedIs_1 (v := 2) rfl ?_
    refine g_icmp_ge S 18 dX8_bedIs_2 (by decide) (fun c_2 => absurd c_2 (by decide)) (fun c_2 => ?_)
    refine g_aload_n S 0 dX8_bedIs_5 rfl ?_
    refine gg7r S hC hiX8 (by decide) rfl 5 (by decide) (by decide +kernel) dX8_bedIs_6 ?_
    refine g_const S dX8_bedIs_9 (v := 2) rfl ?_
    refine g_iload_n S 1 dX8_bedIs_10 rfl ?_
    refine g_imul S dX8_bedIs_11 ?_
    refine g_iload_n S 2 dX8_bedIs_12 rfl ?_
    refine g_iadd S dX8_bedIs_13 ?_
    refine g_iald S hC (by decide) rfl ((2 * dn) + 1) (gI_add (gI_mul rfl hd) rfl) (show (2 * dn) + 1 < 8 by omega) (by decide) dX8_bedIs_14 ?_
    refine g_goto S 27 dX8_bedIs_15 (by decide) ?_
    exact g_iret S hr hlocks dX8_bedIs_27 rfl rfl (Nat.le_of_ble_eq_true rfl) (Nat.le_of_ble_eq_true rfl)
  · skip
    refine g_iload_n S 2 dX8_bedIs_0 rfl ?_
    refine g_const S dX8_bedIs_1 (v := 2) rfl ?_
    refine g_icmp_ge S 18 dX8_bedIs_2 (by decide) (fun c_3 => ?_) (fun c_3 => absurd (by decide) c_3)
    refine g_aload_n S 0 dX8_bedIs_18 rfl ?_
    refine gg7r S hC hiX8 (by decide) rfl 9 (by decide) (by decide +kernel) dX8_bedIs_19 ?_
    refine g_bipush S dX8_bedIs_22 (v := 10) rfl ?_
    refine g_iload_n S 1 dX8_bedIs_24 rfl ?_
    refine g_iadd S dX8_bedIs_25 ?_
    refine g_iald S hC (by decide) rfl (10 + dn) (gI_add rfl hd) (show 10 + dn < 72 by omega) (by decide) dX8_bedIs_26 ?_
    exact g_iret S hr hlocks dX8_bedIs_27 rfl rfl (Nat.le_of_ble_eq_true rfl) (Nat.le_of_ble_eq_true rfl)
def sX8_about_r (σ : gS) (a : Int32) (b : Int32) : Int32 := let S1 := gu σ 57 0 (0 : Int32); if sX8_isIn_r S1 a (0 : Int32) ((S1.1 57 1) - (1 : Int32)) = 0 then (sX8_fail_r S1 (1 : Int32)) else (if sX8_isIn_r S1 b (0 : Int32) (2 : Int32) = 0 then (sX8_fail_r S1 (1 : Int32)) else (sX8_bedIs_r S1 a.toNatClampNeg b.toNatClampNeg))
def sX8_about_s (σ : gS) (a : Int32) (b : Int32) : gS := let S1 := gu σ 57 0 (0 : Int32); if sX8_isIn_r S1 a (0 : Int32) ((S1.1 57 1) - (1 : Int32)) = 0 then (let S2 := sX8_fail_s S1 (1 : Int32); S2) else (if sX8_isIn_r S1 b (0 : Int32) (2 : Int32) = 0 then (let S3 := sX8_fail_s S1 (1 : Int32); S3) else (S1))
theorem fX8_about (σ : gS) (a : Int32) (b : Int32) (x : Nat) (hx57 : x ≠ 57) : (sX8_about_s σ a b).1 x = σ.1 x := by
  unfold sX8_about_s
  (try dsimp only)
  (repeat' split)
  all_goals (simp [gu_ne, gcp, fX8_fail, *])
set_option maxRecDepth 100000 in
set_option maxHeartbeats 4000000 in
theorem kX8_about (l : Launch) (E : gT) (σ : gS) (a : Int32) (b : Int32) (hok : mOK σ) : gMi l yX8_about wsX8_about ({ frames := 1, cells := 0, slots := 0, locals := 22 }) 0 0 E σ [.ref (E.2.2 57), .int a, .int b] (sX8_about_r σ a b) (sX8_about_s σ a b) := by
  refine g_met (mc := 0) (ms := 0) (nL := 3) (ret := (some .int)) (by decide) rfl (lv := [(0, .ref (E.2.2 57)), (1, .int a), (2, .int b)]) rfl (Nat.le_of_ble_eq_true rfl) ?_
  intro p e s m below meth c S hr hlocks hC
  have hiX8 : ∀ w ∈ wsX80, w ∈ wsX8_about := by decide +kernel
  refine g_aload_n S 0 dX8_about_0 rfl ?_
  refine g_const S dX8_about_1 (v := 0) rfl ?_
  refine gp7 S hC hiX8 (by decide) rfl 0 (by decide) (by decide +kernel) dX8_about_2 ?_
  refine g_nm (fun S1 hS1 => ?_)
  have kqS1 := kq_p0 hS1 (kq_0)
  have okS1 := mOK.p0 hS1 (hok)
  refine g_iload_n S 1 dX8_about_5 rfl ?_
  refine g_const S dX8_about_6 (v := 0) rfl ?_
  refine g_aload_n S 0 dX8_about_7 rfl ?_
  refine gg7 S hC hiX8 (by decide) rfl 1 (by decide) (by decide +kernel) dX8_about_8 ?_
  refine g_const S dX8_about_11 (v := 1) rfl ?_
  refine g_isub S dX8_about_12 ?_
  refine g_calli (g_runS S hC (As := [.int a, .int (0 : Int32), .int ((S1.1 57 1) - (1 : Int32))]) (rest := []) (kX8_isIn l E S1 a (0 : Int32) ((S1.1 57 1) - (1 : Int32))) (va_cwS 3 S.2.2.2.2 gX8_about_X8_isIn rfl rfl rfl (by decide +kernel) ⟨Nat.le_of_ble_eq_true rfl, Nat.le_of_ble_eq_true rfl⟩) rfl rfl (Nat.le_of_ble_eq_true rfl) dX8_about_13 ⟨Nat.le_of_ble_eq_true rfl, Nat.le_of_ble_eq_true rfl⟩) ?_
  refine g_if_eq S 37 dX8_about_16 (by decide) (fun c_1 => ?_) (fun c_1 => ?_)
  · skip
    refine g_aload_n S 0 dX8_about_37 rfl ?_
    refine g_const S dX8_about_38 (v := 1) rfl ?_
    refine g_calli (g_runV S hC (As := [.int (1 : Int32)]) (rest := []) (k := 57) (by decide) rfl (by decide) rfl (kX8_fail l E S1 (1 : Int32)) (cwV 1 S.2.2.2.2 gX8_about_X8_fail rfl rfl rfl (by decide +kernel) ⟨Nat.le_of_ble_eq_true rfl, Nat.le_of_ble_eq_true rfl⟩) rfl rfl (Nat.le_of_ble_eq_true rfl) dX8_about_39 ⟨Nat.le_of_ble_eq_true rfl, Nat.le_of_ble_eq_true rfl⟩) ?_
    refine g_nm (fun S2 hS2 => ?_)
    exact g_iret S hr hlocks dX8_about_42 (by subst hS2 hS1; unfold sX8_about_r; (try dsimp only); rw [if_pos c_1]) (by subst hS2 hS1; unfold sX8_about_s; (try dsimp only); rw [if_pos c_1]) (Nat.le_of_ble_eq_true rfl) (Nat.le_of_ble_eq_true rfl)
  · skip
    refine g_iload_n S 2 dX8_about_19 rfl ?_
    refine g_const S dX8_about_20 (v := 0) rfl ?_
    refine g_const S dX8_about_21 (v := 2) rfl ?_
    refine g_calli (g_runS S hC (As := [.int b, .int (0 : Int32), .int (2 : Int32)]) (rest := []) (kX8_isIn l E S1 b (0 : Int32) (2 : Int32)) (va_cwS 3 S.2.2.2.2 gX8_about_X8_isIn rfl rfl rfl (by decide +kernel) ⟨Nat.le_of_ble_eq_true rfl, Nat.le_of_ble_eq_true rfl⟩) rfl rfl (Nat.le_of_ble_eq_true rfl) dX8_about_22 ⟨Nat.le_of_ble_eq_true rfl, Nat.le_of_ble_eq_true rfl⟩) ?_
    refine g_if_eq S 37 dX8_about_25 (by decide) (fun c_2 => ?_) (fun c_2 => ?_)
    · skip
      refine g_aload_n S 0 dX8_about_37 rfl ?_
      refine g_const S dX8_about_38 (v := 1) rfl ?_
      refine g_calli (g_runV S hC (As := [.int (1 : Int32)]) (rest := []) (k := 57) (by decide) rfl (by decide) rfl (kX8_fail l E S1 (1 : Int32)) (cwV 1 S.2.2.2.2 gX8_about_X8_fail rfl rfl rfl (by decide +kernel) ⟨Nat.le_of_ble_eq_true rfl, Nat.le_of_ble_eq_true rfl⟩) rfl rfl (Nat.le_of_ble_eq_true rfl) dX8_about_39 ⟨Nat.le_of_ble_eq_true rfl, Nat.le_of_ble_eq_true rfl⟩) ?_
      refine g_nm (fun S3 hS3 => ?_)
      exact g_iret S hr hlocks dX8_about_42 (by subst hS3 hS1; unfold sX8_about_r; (try dsimp only); rw [if_neg c_1, if_pos c_2]) (by subst hS3 hS1; unfold sX8_about_s; (try dsimp only); rw [if_neg c_1, if_pos c_2]) (Nat.le_of_ble_eq_true rfl) (Nat.le_of_ble_eq_true rfl)
    · skip
      have hle := hok.le1
      obtain ⟨hbb, hbe⟩ := md_ix (mB σ 1) ((kqS1 1 (by decide)).trans (hok.eq 1 (by decide) (by decide))) (by omega) (by assumption)
      have hbl : a.toNatClampNeg < 4 := by omega
      obtain ⟨⟨_, hbb0⟩, hbe2⟩ := mi_nm (lo := 0) (hi := 2) (by decide) (by decide) (x := b) (by assumption)
      refine g_aload_n S 0 dX8_about_28 rfl ?_
      refine g_iload_n S 1 dX8_about_29 rfl ?_
      refine g_iload_n S 2 dX8_about_30 rfl ?_
      refine g_calli (g_runV S hC (As := [.int a, .int b]) (rest := []) (k := 57) (by decide) rfl (by decide) rfl (kX8_bedIs l E S1 a a.toNatClampNeg hbe (by omega) b b.toNatClampNeg hbe2 (by omega)) (cwV 2 S.2.2.2.2 gX8_about_X8_bedIs rfl rfl rfl (by decide +kernel) ⟨Nat.le_of_ble_eq_true rfl, Nat.le_of_ble_eq_true rfl⟩) rfl rfl (Nat.le_of_ble_eq_true rfl) dX8_about_31 ⟨Nat.le_of_ble_eq_true rfl, Nat.le_of_ble_eq_true rfl⟩) ?_
      refine g_goto S 42 dX8_about_34 (by decide) ?_
      exact g_iret S hr hlocks dX8_about_42 (by subst hS1; unfold sX8_about_r; (try dsimp only); rw [if_neg c_1, if_neg c_2]) (by subst hS1; unfold sX8_about_s; (try dsimp only); rw [if_neg c_1, if_neg c_2]) (Nat.le_of_ble_eq_true rfl) (Nat.le_of_ble_eq_true rfl)
def sX8_drumIs_r (σ : gS) (dn wn : Nat) : Int32 := if wn = 0 then σ.1 59 dn else if wn = 5 then sX8_yieldOf_r σ dn else σ.1 62 (14 + 4 * dn + (wn - 1))
set_option maxRecDepth 100000 in
set_option maxHeartbeats 4000000 in
theorem kX8_drumIs (l : Launch) (E : gT) (σ : gS) (d : Int32) (dn : Nat) (hd : d = nI dn) (hdn : dn < 4) (w : Int32) (wn : Nat) (hw : w = nI wn) (hwn : wn < 6) (hok : mOK σ) : gMi l yX8_drumIs wsX8_drumIs ({ frames := 2, cells := 0, slots := 0, locals := 43 }) 0 0 E σ [.ref (E.2.2 57), .int d, .int w] (sX8_drumIs_r σ dn wn) σ := by
  refine g_met (mc := 0) (ms := 0) (nL := 3) (ret := (some .int)) (by decide) rfl (lv := [(0, .ref (E.2.2 57)), (1, .int d), (2, .int w)]) rfl (Nat.le_of_ble_eq_true rfl) ?_
  intro p e s m below meth c S hr hlocks hC
  have hiX8 : ∀ w ∈ wsX80, w ∈ wsX8_drumIs := by decide +kernel
  subst hw
  rcases (show wn = 0 ∨ wn = 1 ∨ wn = 2 ∨ wn = 3 ∨ wn = 4 ∨ wn = 5 by omega) with rfl | rfl | rfl | rfl | rfl | rfl
  · skip
    refine g_iload_n S 2 dX8_drumIs_0 rfl ?_
    refine g_if_ne S 13 dX8_drumIs_1 (by decide) (fun c_1 => absurd (by decide) c_1) (fun c_1 => ?_)
    refine g_aload_n S 0 dX8_drumIs_4 rfl ?_
    refine gg7r S hC hiX8 (by decide) rfl 6 (by decide) (by decide +kernel) dX8_drumIs_5 ?_
    refine g_iload_n S 1 dX8_drumIs_8 rfl ?_
    refine g_iald S hC (by decide) rfl dn hd (show dn < 4 by omega) (by decide) dX8_drumIs_9 ?_
    refine g_goto S 34 dX8_drumIs_10 (by decide) ?_
    exact g_iret S hr hlocks dX8_drumIs_34 rfl rfl (Nat.le_of_ble_eq_true rfl) (Nat.le_of_ble_eq_true rfl)
  · skip
    refine g_iload_n S 2 dX8_drumIs_0 rfl ?_
    refine g_if_ne S 13 dX8_drumIs_1 (by decide) (fun c_2 => ?_) (fun c_2 => absurd c_2 (by decide))
    refine g_iload_n S 2 dX8_drumIs_13 rfl ?_
    refine g_const S dX8_drumIs_14 (v := 5) rfl ?_
    refine g_icmp_ne S 26 dX8_drumIs_15 (by decide) (fun c_3 => ?_) (fun c_3 => absurd c_3 (by decide))
    refine g_aload_n S 0 dX8_drumIs_26 rfl ?_
    refine g_iload_n S 1 dX8_drumIs_27 rfl ?_
    refine g_iload_n S 2 dX8_drumIs_28 rfl ?_
    refine g_const S dX8_drumIs_29 (v := 1) rfl ?_
    refine g_isub S dX8_drumIs_30 ?_
    refine g_calli (g_runV S hC (As := [.int d, .int ((nI 1) - (1 : Int32))]) (rest := []) (k := 57) (by decide) rfl (by decide) rfl (kX8_dr l E σ d dn hd (by omega) ((nI 1) - (1 : Int32)) 0 (by decide) (by decide)) (cwV 2 S.2.2.2.2 gX8_drumIs_X8_dr rfl rfl rfl (by decide +kernel) ⟨Nat.le_of_ble_eq_true rfl, Nat.le_of_ble_eq_true rfl⟩) rfl rfl (Nat.le_of_ble_eq_true rfl) dX8_drumIs_31 ⟨Nat.le_of_ble_eq_true rfl, Nat.le_of_ble_eq_true rfl⟩) ?_
    exact g_iret S hr hlocks dX8_drumIs_34 rfl rfl (Nat.le_of_ble_eq_true rfl) (Nat.le_of_ble_eq_true rfl)
  · skip
    refine g_iload_n S 2 dX8_drumIs_0 rfl ?_
    refine g_if_ne S 13 dX8_drumIs_1 (by decide) (fun c_4 => ?_) (fun c_4 => absurd c_4 (by decide))
    refine g_iload_n S 2 dX8_drumIs_13 rfl ?_
    refine g_const S dX8_drumIs_14 (v := 5) rfl ?_
    refine g_icmp_ne S 26 dX8_drumIs_15 (by decide) (fun c_5 => ?_) (fun c_5 => absurd c_5 (by decide))
    refine g_aload_n S 0 dX8_drumIs_26 rfl ?_
    refine g_iload_n S 1 dX8_drumIs_27 rfl ?_
    refine g_iload_n S 2 dX8_drumIs_28 rfl ?_
    refine g_const S dX8_drumIs_29 (v := 1) rfl ?_
    refine g_isub S dX8_drumIs_30 ?_
    refine g_calli (g_runV S hC (As := [.int d, .int ((nI 2) - (1 : Int32))]) (rest := []) (k := 57) (by decide) rfl (by decide) rfl (kX8_dr l E σ d dn hd (by omega) ((nI 2) - (1 : Int32)) 1 (by decide) (by decide)) (cwV 2 S.2.2.2.2 gX8_drumIs_X8_dr rfl rfl rfl (by decide +kernel) ⟨Nat.le_of_ble_eq_true rfl, Nat.le_of_ble_eq_true rfl⟩) rfl rfl (Nat.le_of_ble_eq_true rfl) dX8_drumIs_31 ⟨Nat.le_of_ble_eq_true rfl, Nat.le_of_ble_eq_true rfl⟩) ?_
    exact g_iret S hr hlocks dX8_drumIs_34 rfl rfl (Nat.le_of_ble_eq_true rfl) (Nat.le_of_ble_eq_true rfl)
  · skip
    refine g_iload_n S 2 dX8_drumIs_0 rfl ?_
    refine g_if_ne S 13 dX8_drumIs_1 (by decide) (fun c_6 => ?_) (fun c_6 => absurd c_6 (by decide))
    refine g_iload_n S 2 dX8_drumIs_13 rfl ?_
    refine g_const S dX8_drumIs_14 (v := 5) rfl ?_
    refine g_icmp_ne S 26 dX8_drumIs_15 (by decide) (fun c_7 => ?_) (fun c_7 => absurd c_7 (by decide))
    refine g_aload_n S 0 dX8_drumIs_26 rfl ?_
    refine g_iload_n S 1 dX8_drumIs_27 rfl ?_
    refine g_iload_n S 2 dX8_drumIs_28 rfl ?_
    refine g_const S dX8_drumIs_29 (v := 1) rfl ?_
    refine g_isub S dX8_drumIs_30 ?_
    refine g_calli (g_runV S hC (As := [.int d, .int ((nI 3) - (1 : Int32))]) (rest := []) (k := 57) (by decide) rfl (by decide) rfl (kX8_dr l E σ d dn hd (by omega) ((nI 3) - (1 : Int32)) 2 (by decide) (by decide)) (cwV 2 S.2.2.2.2 gX8_drumIs_X8_dr rfl rfl rfl (by decide +kernel) ⟨Nat.le_of_ble_eq_true rfl, Nat.le_of_ble_eq_true rfl⟩) rfl rfl (Nat.le_of_ble_eq_true rfl) dX8_drumIs_31 ⟨Nat.le_of_ble_eq_true rfl, Nat.le_of_ble_eq_true rfl⟩) ?_
    exact g_iret S hr hlocks dX8_drumIs_34 rfl rfl (Nat.le_of_ble_eq_true rfl) (Nat.le_of_ble_eq_true rfl)
  · skip
    refine g_iload_n S 2 dX8_drumIs_0 rfl ?_
    refine g_if_ne S 13 dX8_drumIs_1 (by decide) (fun c_8 => ?_) (fun c_8 => absurd c_8 (by decide))
    refine g_iload_n S 2 dX8_drumIs_13 rfl ?_
    refine g_const S dX8_drumIs_14 (v := 5) rfl ?_
    refine g_icmp_ne S 26 dX8_drumIs_15 (by decide) (fun c_9 => ?_) (fun c_9 => absurd c_9 (by decide))
    refine g_aload_n S 0 dX8_drumIs_26 rfl ?_
    refine g_iload_n S 1 dX8_drumIs_27 rfl ?_
    refine g_iload_n S 2 dX8_drumIs_28 rfl ?_
    refine g_const S dX8_drumIs_29 (v := 1) rfl ?_
    refine g_isub S dX8_drumIs_30 ?_
    refine g_calli (g_runV S hC (As := [.int d, .int ((nI 4) - (1 : Int32))]) (rest := []) (k := 57) (by decide) rfl (by decide) rfl (kX8_dr l E σ d dn hd (by omega) ((nI 4) - (1 : Int32)) 3 (by decide) (by decide)) (cwV 2 S.2.2.2.2 gX8_drumIs_X8_dr rfl rfl rfl (by decide +kernel) ⟨Nat.le_of_ble_eq_true rfl, Nat.le_of_ble_eq_true rfl⟩) rfl rfl (Nat.le_of_ble_eq_true rfl) dX8_drumIs_31 ⟨Nat.le_of_ble_eq_true rfl, Nat.le_of_ble_eq_true rfl⟩) ?_
    exact g_iret S hr hlocks dX8_drumIs_34 rfl rfl (Nat.le_of_ble_eq_true rfl) (Nat.le_of_ble_eq_true rfl)
  · skip
    refine g_iload_n S 2 dX8_drumIs_0 rfl ?_
    refine g_if_ne S 13 dX8_drumIs_1 (by decide) (fun c_10 => ?_) (fun c_10 => absurd c_10 (by decide))
    refine g_iload_n S 2 dX8_drumIs_13 rfl ?_
    refine g_const S dX8_drumIs_14 (v := 5) rfl ?_
    refine g_icmp_ne S 26 dX8_drumIs_15 (by decide) (fun c_11 => absurd (by decide) c_11) (fun c_11 => ?_)
    refine g_aload_n S 0 dX8_drumIs_18 rfl ?_
    refine g_iload_n S 1 dX8_drumIs_19 rfl ?_
    refine g_calli (g_runV S hC (As := [.int d]) (rest := []) (k := 57) (by decide) rfl (by decide) rfl (kX8_yieldOf l E σ d dn hd (by omega) hok) (cwV 1 S.2.2.2.2 gX8_drumIs_X8_yieldOf rfl rfl rfl (by decide +kernel) ⟨Nat.le_of_ble_eq_true rfl, Nat.le_of_ble_eq_true rfl⟩) rfl rfl (Nat.le_of_ble_eq_true rfl) dX8_drumIs_20 ⟨Nat.le_of_ble_eq_true rfl, Nat.le_of_ble_eq_true rfl⟩) ?_
    refine g_goto S 34 dX8_drumIs_23 (by decide) ?_
    exact g_iret S hr hlocks dX8_drumIs_34 rfl rfl (Nat.le_of_ble_eq_true rfl) (Nat.le_of_ble_eq_true rfl)
def sX8_roast_r (σ : gS) (a : Int32) (b : Int32) : Int32 := let S1 := gu σ 57 0 (0 : Int32); if sX8_isDrum_r S1 a = 0 then (sX8_fail_r S1 (1 : Int32)) else (if sX8_isIn_r S1 b (0 : Int32) (5 : Int32) = 0 then (sX8_fail_r S1 (1 : Int32)) else (sX8_drumIs_r S1 a.toNatClampNeg b.toNatClampNeg))
def sX8_roast_s (σ : gS) (a : Int32) (b : Int32) : gS := let S1 := gu σ 57 0 (0 : Int32); if sX8_isDrum_r S1 a = 0 then (let S2 := sX8_fail_s S1 (1 : Int32); S2) else (if sX8_isIn_r S1 b (0 : Int32) (5 : Int32) = 0 then (let S3 := sX8_fail_s S1 (1 : Int32); S3) else (S1))
theorem fX8_roast (σ : gS) (a : Int32) (b : Int32) (x : Nat) (hx57 : x ≠ 57) : (sX8_roast_s σ a b).1 x = σ.1 x := by
  unfold sX8_roast_s
  (try dsimp only)
  (repeat' split)
  all_goals (simp [gu_ne, gcp, fX8_fail, *])
set_option maxRecDepth 100000 in
set_option maxHeartbeats 4000000 in
theorem kX8_roast (l : Launch) (E : gT) (σ : gS) (a : Int32) (b : Int32) (hok : mOK σ) : gMi l yX8_roast wsX8_roast ({ frames := 3, cells := 0, slots := 0, locals := 65 }) 0 0 E σ [.ref (E.2.2 57), .int a, .int b] (sX8_roast_r σ a b) (sX8_roast_s σ a b) := by
  refine g_met (mc := 0) (ms := 0) (nL := 3) (ret := (some .int)) (by decide) rfl (lv := [(0, .ref (E.2.2 57)), (1, .int a), (2, .int b)]) rfl (Nat.le_of_ble_eq_true rfl) ?_
  intro p e s m below meth c S hr hlocks hC
  have hiX8 : ∀ w ∈ wsX80, w ∈ wsX8_roast := by decide +kernel
  refine g_aload_n S 0 dX8_roast_0 rfl ?_
  refine g_const S dX8_roast_1 (v := 0) rfl ?_
  refine gp7 S hC hiX8 (by decide) rfl 0 (by decide) (by decide +kernel) dX8_roast_2 ?_
  refine g_nm (fun S1 hS1 => ?_)
  have kqS1 := kq_p0 hS1 (kq_0)
  have okS1 := mOK.p0 hS1 (hok)
  refine g_aload_n S 0 dX8_roast_5 rfl ?_
  refine g_iload_n S 1 dX8_roast_6 rfl ?_
  refine g_calli (g_runV S hC (As := [.int a]) (rest := []) (k := 57) (by decide) rfl (by decide) rfl (kX8_isDrum l E S1 a) (cwV 1 S.2.2.2.2 gX8_roast_X8_isDrum rfl rfl rfl (by decide +kernel) ⟨Nat.le_of_ble_eq_true rfl, Nat.le_of_ble_eq_true rfl⟩) rfl rfl (Nat.le_of_ble_eq_true rfl) dX8_roast_7 ⟨Nat.le_of_ble_eq_true rfl, Nat.le_of_ble_eq_true rfl⟩) ?_
  refine g_if_eq S 31 dX8_roast_10 (by decide) (fun c_1 => ?_) (fun c_1 => ?_)
  · skip
    refine g_aload_n S 0 dX8_roast_31 rfl ?_
    refine g_const S dX8_roast_32 (v := 1) rfl ?_
    refine g_calli (g_runV S hC (As := [.int (1 : Int32)]) (rest := []) (k := 57) (by decide) rfl (by decide) rfl (kX8_fail l E S1 (1 : Int32)) (cwV 1 S.2.2.2.2 gX8_roast_X8_fail rfl rfl rfl (by decide +kernel) ⟨Nat.le_of_ble_eq_true rfl, Nat.le_of_ble_eq_true rfl⟩) rfl rfl (Nat.le_of_ble_eq_true rfl) dX8_roast_33 ⟨Nat.le_of_ble_eq_true rfl, Nat.le_of_ble_eq_true rfl⟩) ?_
    refine g_nm (fun S2 hS2 => ?_)
    exact g_iret S hr hlocks dX8_roast_36 (by subst hS2 hS1; unfold sX8_roast_r; (try dsimp only); rw [if_pos c_1]) (by subst hS2 hS1; unfold sX8_roast_s; (try dsimp only); rw [if_pos c_1]) (Nat.le_of_ble_eq_true rfl) (Nat.le_of_ble_eq_true rfl)
  · skip
    refine g_iload_n S 2 dX8_roast_13 rfl ?_
    refine g_const S dX8_roast_14 (v := 0) rfl ?_
    refine g_const S dX8_roast_15 (v := 5) rfl ?_
    refine g_calli (g_runS S hC (As := [.int b, .int (0 : Int32), .int (5 : Int32)]) (rest := []) (kX8_isIn l E S1 b (0 : Int32) (5 : Int32)) (va_cwS 3 S.2.2.2.2 gX8_roast_X8_isIn rfl rfl rfl (by decide +kernel) ⟨Nat.le_of_ble_eq_true rfl, Nat.le_of_ble_eq_true rfl⟩) rfl rfl (Nat.le_of_ble_eq_true rfl) dX8_roast_16 ⟨Nat.le_of_ble_eq_true rfl, Nat.le_of_ble_eq_true rfl⟩) ?_
    refine g_if_eq S 31 dX8_roast_19 (by decide) (fun c_2 => ?_) (fun c_2 => ?_)
    · skip
      refine g_aload_n S 0 dX8_roast_31 rfl ?_
      refine g_const S dX8_roast_32 (v := 1) rfl ?_
      refine g_calli (g_runV S hC (As := [.int (1 : Int32)]) (rest := []) (k := 57) (by decide) rfl (by decide) rfl (kX8_fail l E S1 (1 : Int32)) (cwV 1 S.2.2.2.2 gX8_roast_X8_fail rfl rfl rfl (by decide +kernel) ⟨Nat.le_of_ble_eq_true rfl, Nat.le_of_ble_eq_true rfl⟩) rfl rfl (Nat.le_of_ble_eq_true rfl) dX8_roast_33 ⟨Nat.le_of_ble_eq_true rfl, Nat.le_of_ble_eq_true rfl⟩) ?_
      refine g_nm (fun S3 hS3 => ?_)
      exact g_iret S hr hlocks dX8_roast_36 (by subst hS3 hS1; unfold sX8_roast_r; (try dsimp only); rw [if_neg c_1, if_pos c_2]) (by subst hS3 hS1; unfold sX8_roast_s; (try dsimp only); rw [if_neg c_1, if_pos c_2]) (Nat.le_of_ble_eq_true rfl) (Nat.le_of_ble_eq_true rfl)
    · skip
      have hle := hok.le2
      obtain ⟨hbb, hbe⟩ := md_dr (mB σ 2) ((kqS1 2 (by decide)).trans (hok.eq 2 (by decide) (by decide))) (by omega) (by assumption)
      have hbl : a.toNatClampNeg < 4 := by omega
      obtain ⟨⟨_, hbb0⟩, hbe2⟩ := mi_nm (lo := 0) (hi := 5) (by decide) (by decide) (x := b) (by assumption)
      refine g_aload_n S 0 dX8_roast_22 rfl ?_
      refine g_iload_n S 1 dX8_roast_23 rfl ?_
      refine g_iload_n S 2 dX8_roast_24 rfl ?_
      refine g_calli (g_runV S hC (As := [.int a, .int b]) (rest := []) (k := 57) (by decide) rfl (by decide) rfl (kX8_drumIs l E S1 a a.toNatClampNeg hbe (by omega) b b.toNatClampNeg hbe2 (by omega) okS1) (cwV 2 S.2.2.2.2 gX8_roast_X8_drumIs rfl rfl rfl (by decide +kernel) ⟨Nat.le_of_ble_eq_true rfl, Nat.le_of_ble_eq_true rfl⟩) rfl rfl (Nat.le_of_ble_eq_true rfl) dX8_roast_25 ⟨Nat.le_of_ble_eq_true rfl, Nat.le_of_ble_eq_true rfl⟩) ?_
      refine g_goto S 36 dX8_roast_28 (by decide) ?_
      exact g_iret S hr hlocks dX8_roast_36 (by subst hS1; unfold sX8_roast_r; (try dsimp only); rw [if_neg c_1, if_neg c_2]) (by subst hS1; unfold sX8_roast_s; (try dsimp only); rw [if_neg c_1, if_neg c_2]) (Nat.le_of_ble_eq_true rfl) (Nat.le_of_ble_eq_true rfl)
def sX8_smugglerIs_r (σ : gS) (dn wn : Nat) : Int32 := if wn < 2 then σ.1 60 (2 * dn + wn) else σ.1 62 (30 + 3 * dn + (wn - 2))
set_option maxRecDepth 100000 in
set_option maxHeartbeats 4000000 in
theorem kX8_smugglerIs (l : Launch) (E : gT) (σ : gS) (d : Int32) (dn : Nat) (hd : d = nI dn) (hdn : dn < 4) (w : Int32) (wn : Nat) (hw : w = nI wn) (hwn : wn < 5) : gMi l yX8_smugglerIs wsX8_smugglerIs ({ frames := 1, cells := 0, slots := 0, locals := 22 }) 0 0 E σ [.ref (E.2.2 57), .int d, .int w] (sX8_smugglerIs_r σ dn wn) σ := by
  refine g_met (mc := 0) (ms := 0) (nL := 3) (ret := (some .int)) (by decide) rfl (lv := [(0, .ref (E.2.2 57)), (1, .int d), (2, .int w)]) rfl (Nat.le_of_ble_eq_true rfl) ?_
  intro p e s m below meth c S hr hlocks hC
  have hiX8 : ∀ w ∈ wsX80, w ∈ wsX8_smugglerIs := by decide +kernel
  subst hw
  rcases (show wn = 0 ∨ wn = 1 ∨ wn = 2 ∨ wn = 3 ∨ wn = 4 by omega) with rfl | rfl | rfl | rfl | rfl
  · skip
    refine g_iload_n S 2 dX8_smugglerIs_0 rfl ?_
    refine g_const S dX8_smugglerIs_1 (v := 2) rfl ?_
    refine g_icmp_ge S 18 dX8_smugglerIs_2 (by decide) (fun c_1 => absurd c_1 (by decide)) (fun c_1 => ?_)
    refine g_aload_n S 0 dX8_smugglerIs_5 rfl ?_
    refine gg7r S hC hiX8 (by decide) rfl 7 (by decide) (by decide +kernel) dX8_smugglerIs_6 ?_
    refine g_const S dX8_smugglerIs_9 (v := 2) rfl ?_
    refine g_iload_n S 1 dX8_smugglerIs_10 rfl ?_
    refine g_imul S dX8_smugglerIs_11 ?_
    refine g_iload_n S 2 dX8_smugglerIs_12 rfl ?_
    refine g_iadd S dX8_smugglerIs_13 ?_
    refine g_iald S hC (by decide) rfl ((2 * dn) + 0) (gI_add (gI_mul rfl hd) rfl) (show (2 * dn) + 0 < 8 by omega) (by decide) dX8_smugglerIs_14 ?_
    refine g_goto S 26 dX8_smugglerIs_15 (by decide) ?_
    exact g_iret S hr hlocks dX8_smugglerIs_26 rfl rfl (Nat.le_of_ble_eq_true rfl) (Nat.le_of_ble_eq_true rfl)
  · skip
    refine g_iload_n S 2 dX8_smugglerIs_0 rfl ?_
    refine g_const S dX8_smugglerIs_1 (v := 2) rfl ?_
    refine g_icmp_ge S 18 dX8_smugglerIs_2 (by decide) (fun c_2 => absurd c_2 (by decide)) (fun c_2 => ?_)
    refine g_aload_n S 0 dX8_smugglerIs_5 rfl ?_
    refine gg7r S hC hiX8 (by decide) rfl 7 (by decide) (by decide +kernel) dX8_smugglerIs_6 ?_
    refine g_const S dX8_smugglerIs_9 (v := 2) rfl ?_
    refine g_iload_n S 1 dX8_smugglerIs_10 rfl ?_
    refine g_imul S dX8_smugglerIs_11 ?_
    refine g_iload_n S 2 dX8_smugglerIs_12 rfl ?_
    refine g_iadd S dX8_smugglerIs_13 ?_
    refine g_iald S hC (by decide) rfl ((2 * dn) + 1) (gI_add (gI_mul rfl hd) rfl) (show (2 * dn) + 1 < 8 by omega) (by decide) dX8_smugglerIs_14 ?_
    refine g_goto S 26 dX8_smugglerIs_15 (by decide) ?_
    exact g_iret S hr hlocks dX8_smugglerIs_26 rfl rfl (Nat.le_of_ble_eq_true rfl) (Nat.le_of_ble_eq_true rfl)
  · skip
    refine g_iload_n S 2 dX8_smugglerIs_0 rfl ?_
    refine g_const S dX8_smugglerIs_1 (v := 2) rfl ?_
    refine g_icmp_ge S 18 dX8_smugglerIs_2 (by decide) (fun c_3 => ?_) (fun c_3 => absurd (by decide) c_3)
    refine g_aload_n S 0 dX8_smugglerIs_18 rfl ?_
    refine g_iload_n S 1 dX8_smugglerIs_19 rfl ?_
    refine g_iload_n S 2 dX8_smugglerIs_20 rfl ?_
    refine g_const S dX8_smugglerIs_21 (v := 2) rfl ?_
    refine g_isub S dX8_smugglerIs_22 ?_
    refine g_calli (g_runV S hC (As := [.int d, .int ((nI 2) - (2 : Int32))]) (rest := []) (k := 57) (by decide) rfl (by decide) rfl (kX8_sm l E σ d dn hd (by omega) ((nI 2) - (2 : Int32)) 0 (by decide) (by decide)) (cwV 2 S.2.2.2.2 gX8_smugglerIs_X8_sm rfl rfl rfl (by decide +kernel) ⟨Nat.le_of_ble_eq_true rfl, Nat.le_of_ble_eq_true rfl⟩) rfl rfl (Nat.le_of_ble_eq_true rfl) dX8_smugglerIs_23 ⟨Nat.le_of_ble_eq_true rfl, Nat.le_of_ble_eq_true rfl⟩) ?_
    exact g_iret S hr hlocks dX8_smugglerIs_26 rfl rfl (Nat.le_of_ble_eq_true rfl) (Nat.le_of_ble_eq_true rfl)
  · skip
    refine g_iload_n S 2 dX8_smugglerIs_0 rfl ?_
    refine g_const S dX8_smugglerIs_1 (v := 2) rfl ?_
    refine g_icmp_ge S 18 dX8_smugglerIs_2 (by decide) (fun c_4 => ?_) (fun c_4 => absurd (by decide) c_4)
    refine g_aload_n S 0 dX8_smugglerIs_18 rfl ?_
    refine g_iload_n S 1 dX8_smugglerIs_19 rfl ?_
    refine g_iload_n S 2 dX8_smugglerIs_20 rfl ?_
    refine g_const S dX8_smugglerIs_21 (v := 2) rfl ?_
    refine g_isub S dX8_smugglerIs_22 ?_
    refine g_calli (g_runV S hC (As := [.int d, .int ((nI 3) - (2 : Int32))]) (rest := []) (k := 57) (by decide) rfl (by decide) rfl (kX8_sm l E σ d dn hd (by omega) ((nI 3) - (2 : Int32)) 1 (by decide) (by decide)) (cwV 2 S.2.2.2.2 gX8_smugglerIs_X8_sm rfl rfl rfl (by decide +kernel) ⟨Nat.le_of_ble_eq_true rfl, Nat.le_of_ble_eq_true rfl⟩) rfl rfl (Nat.le_of_ble_eq_true rfl) dX8_smugglerIs_23 ⟨Nat.le_of_ble_eq_true rfl, Nat.le_of_ble_eq_true rfl⟩) ?_
    exact g_iret S hr hlocks dX8_smugglerIs_26 rfl rfl (Nat.le_of_ble_eq_true rfl) (Nat.le_of_ble_eq_true rfl)
  · skip
    refine g_iload_n S 2 dX8_smugglerIs_0 rfl ?_
    refine g_const S dX8_smugglerIs_1 (v := 2) rfl ?_
    refine g_icmp_ge S 18 dX8_smugglerIs_2 (by decide) (fun c_5 => ?_) (fun c_5 => absurd (by decide) c_5)
    refine g_aload_n S 0 dX8_smugglerIs_18 rfl ?_
    refine g_iload_n S 1 dX8_smugglerIs_19 rfl ?_
    refine g_iload_n S 2 dX8_smugglerIs_20 rfl ?_
    refine g_const S dX8_smugglerIs_21 (v := 2) rfl ?_
    refine g_isub S dX8_smugglerIs_22 ?_
    refine g_calli (g_runV S hC (As := [.int d, .int ((nI 4) - (2 : Int32))]) (rest := []) (k := 57) (by decide) rfl (by decide) rfl (kX8_sm l E σ d dn hd (by omega) ((nI 4) - (2 : Int32)) 2 (by decide) (by decide)) (cwV 2 S.2.2.2.2 gX8_smugglerIs_X8_sm rfl rfl rfl (by decide +kernel) ⟨Nat.le_of_ble_eq_true rfl, Nat.le_of_ble_eq_true rfl⟩) rfl rfl (Nat.le_of_ble_eq_true rfl) dX8_smugglerIs_23 ⟨Nat.le_of_ble_eq_true rfl, Nat.le_of_ble_eq_true rfl⟩) ?_
    exact g_iret S hr hlocks dX8_smugglerIs_26 rfl rfl (Nat.le_of_ble_eq_true rfl) (Nat.le_of_ble_eq_true rfl)
def sX8_told_r (σ : gS) (a : Int32) (b : Int32) : Int32 := let S1 := gu σ 57 0 (0 : Int32); if sX8_isSmuggler_r S1 a = 0 then (sX8_fail_r S1 (1 : Int32)) else (if sX8_isIn_r S1 b (0 : Int32) (4 : Int32) = 0 then (sX8_fail_r S1 (1 : Int32)) else (sX8_smugglerIs_r S1 a.toNatClampNeg b.toNatClampNeg))
def sX8_told_s (σ : gS) (a : Int32) (b : Int32) : gS := let S1 := gu σ 57 0 (0 : Int32); if sX8_isSmuggler_r S1 a = 0 then (let S2 := sX8_fail_s S1 (1 : Int32); S2) else (if sX8_isIn_r S1 b (0 : Int32) (4 : Int32) = 0 then (let S3 := sX8_fail_s S1 (1 : Int32); S3) else (S1))
theorem fX8_told (σ : gS) (a : Int32) (b : Int32) (x : Nat) (hx57 : x ≠ 57) : (sX8_told_s σ a b).1 x = σ.1 x := by
  unfold sX8_told_s
  (try dsimp only)
  (repeat' split)
  all_goals (simp [gu_ne, gcp, fX8_fail, *])
set_option maxRecDepth 100000 in
set_option maxHeartbeats 4000000 in
theorem kX8_told (l : Launch) (E : gT) (σ : gS) (a : Int32) (b : Int32) (hok : mOK σ) : gMi l yX8_told wsX8_told ({ frames := 2, cells := 0, slots := 0, locals := 44 }) 0 0 E σ [.ref (E.2.2 57), .int a, .int b] (sX8_told_r σ a b) (sX8_told_s σ a b) := by
  refine g_met (mc := 0) (ms := 0) (nL := 3) (ret := (some .int)) (by decide) rfl (lv := [(0, .ref (E.2.2 57)), (1, .int a), (2, .int b)]) rfl (Nat.le_of_ble_eq_true rfl) ?_
  intro p e s m below meth c S hr hlocks hC
  have hiX8 : ∀ w ∈ wsX80, w ∈ wsX8_told := by decide +kernel
  refine g_aload_n S 0 dX8_told_0 rfl ?_
  refine g_const S dX8_told_1 (v := 0) rfl ?_
  refine gp7 S hC hiX8 (by decide) rfl 0 (by decide) (by decide +kernel) dX8_told_2 ?_
  refine g_nm (fun S1 hS1 => ?_)
  have kqS1 := kq_p0 hS1 (kq_0)
  have okS1 := mOK.p0 hS1 (hok)
  refine g_aload_n S 0 dX8_told_5 rfl ?_
  refine g_iload_n S 1 dX8_told_6 rfl ?_
  refine g_calli (g_runV S hC (As := [.int a]) (rest := []) (k := 57) (by decide) rfl (by decide) rfl (kX8_isSmuggler l E S1 a) (cwV 1 S.2.2.2.2 gX8_told_X8_isSmuggler rfl rfl rfl (by decide +kernel) ⟨Nat.le_of_ble_eq_true rfl, Nat.le_of_ble_eq_true rfl⟩) rfl rfl (Nat.le_of_ble_eq_true rfl) dX8_told_7 ⟨Nat.le_of_ble_eq_true rfl, Nat.le_of_ble_eq_true rfl⟩) ?_
  refine g_if_eq S 31 dX8_told_10 (by decide) (fun c_1 => ?_) (fun c_1 => ?_)
  · skip
    refine g_aload_n S 0 dX8_told_31 rfl ?_
    refine g_const S dX8_told_32 (v := 1) rfl ?_
    refine g_calli (g_runV S hC (As := [.int (1 : Int32)]) (rest := []) (k := 57) (by decide) rfl (by decide) rfl (kX8_fail l E S1 (1 : Int32)) (cwV 1 S.2.2.2.2 gX8_told_X8_fail rfl rfl rfl (by decide +kernel) ⟨Nat.le_of_ble_eq_true rfl, Nat.le_of_ble_eq_true rfl⟩) rfl rfl (Nat.le_of_ble_eq_true rfl) dX8_told_33 ⟨Nat.le_of_ble_eq_true rfl, Nat.le_of_ble_eq_true rfl⟩) ?_
    refine g_nm (fun S2 hS2 => ?_)
    exact g_iret S hr hlocks dX8_told_36 (by subst hS2 hS1; unfold sX8_told_r; (try dsimp only); rw [if_pos c_1]) (by subst hS2 hS1; unfold sX8_told_s; (try dsimp only); rw [if_pos c_1]) (Nat.le_of_ble_eq_true rfl) (Nat.le_of_ble_eq_true rfl)
  · skip
    refine g_iload_n S 2 dX8_told_13 rfl ?_
    refine g_const S dX8_told_14 (v := 0) rfl ?_
    refine g_const S dX8_told_15 (v := 4) rfl ?_
    refine g_calli (g_runS S hC (As := [.int b, .int (0 : Int32), .int (4 : Int32)]) (rest := []) (kX8_isIn l E S1 b (0 : Int32) (4 : Int32)) (va_cwS 3 S.2.2.2.2 gX8_told_X8_isIn rfl rfl rfl (by decide +kernel) ⟨Nat.le_of_ble_eq_true rfl, Nat.le_of_ble_eq_true rfl⟩) rfl rfl (Nat.le_of_ble_eq_true rfl) dX8_told_16 ⟨Nat.le_of_ble_eq_true rfl, Nat.le_of_ble_eq_true rfl⟩) ?_
    refine g_if_eq S 31 dX8_told_19 (by decide) (fun c_2 => ?_) (fun c_2 => ?_)
    · skip
      refine g_aload_n S 0 dX8_told_31 rfl ?_
      refine g_const S dX8_told_32 (v := 1) rfl ?_
      refine g_calli (g_runV S hC (As := [.int (1 : Int32)]) (rest := []) (k := 57) (by decide) rfl (by decide) rfl (kX8_fail l E S1 (1 : Int32)) (cwV 1 S.2.2.2.2 gX8_told_X8_fail rfl rfl rfl (by decide +kernel) ⟨Nat.le_of_ble_eq_true rfl, Nat.le_of_ble_eq_true rfl⟩) rfl rfl (Nat.le_of_ble_eq_true rfl) dX8_told_33 ⟨Nat.le_of_ble_eq_true rfl, Nat.le_of_ble_eq_true rfl⟩) ?_
      refine g_nm (fun S3 hS3 => ?_)
      exact g_iret S hr hlocks dX8_told_36 (by subst hS3 hS1; unfold sX8_told_r; (try dsimp only); rw [if_neg c_1, if_pos c_2]) (by subst hS3 hS1; unfold sX8_told_s; (try dsimp only); rw [if_neg c_1, if_pos c_2]) (Nat.le_of_ble_eq_true rfl) (Nat.le_of_ble_eq_true rfl)
    · skip
      have hle := hok.le3
      obtain ⟨hbb, hbe⟩ := md_sm (mB σ 3) ((kqS1 3 (by decide)).trans (hok.eq 3 (by decide) (by decide))) (by omega) (by assumption)
      have hbl : a.toNatClampNeg < 4 := by omega
      obtain ⟨⟨_, hbb0⟩, hbe2⟩ := mi_nm (lo := 0) (hi := 4) (by decide) (by decide) (x := b) (by assumption)
      refine g_aload_n S 0 dX8_told_22 rfl ?_
      refine g_iload_n S 1 dX8_told_23 rfl ?_
      refine g_iload_n S 2 dX8_told_24 rfl ?_
      refine g_calli (g_runV S hC (As := [.int a, .int b]) (rest := []) (k := 57) (by decide) rfl (by decide) rfl (kX8_smugglerIs l E S1 a a.toNatClampNeg hbe (by omega) b b.toNatClampNeg hbe2 (by omega)) (cwV 2 S.2.2.2.2 gX8_told_X8_smugglerIs rfl rfl rfl (by decide +kernel) ⟨Nat.le_of_ble_eq_true rfl, Nat.le_of_ble_eq_true rfl⟩) rfl rfl (Nat.le_of_ble_eq_true rfl) dX8_told_25 ⟨Nat.le_of_ble_eq_true rfl, Nat.le_of_ble_eq_true rfl⟩) ?_
      refine g_goto S 36 dX8_told_28 (by decide) ?_
      exact g_iret S hr hlocks dX8_told_36 (by subst hS1; unfold sX8_told_r; (try dsimp only); rw [if_neg c_1, if_neg c_2]) (by subst hS1; unfold sX8_told_s; (try dsimp only); rw [if_neg c_1, if_neg c_2]) (Nat.le_of_ble_eq_true rfl) (Nat.le_of_ble_eq_true rfl)
def sX8_cardIs_r (σ : gS) (dn wn : Nat) : Int32 := if wn < 2 then σ.1 61 (2 * dn + wn) else σ.1 62 (42 + 3 * dn + (wn - 2))
set_option maxRecDepth 100000 in
set_option maxHeartbeats 4000000 in
theorem kX8_cardIs (l : Launch) (E : gT) (σ : gS) (d : Int32) (dn : Nat) (hd : d = nI dn) (hdn : dn < 10) (w : Int32) (wn : Nat) (hw : w = nI wn) (hwn : wn < 5) : gMi l yX8_cardIs wsX8_cardIs ({ frames := 1, cells := 0, slots := 0, locals := 22 }) 0 0 E σ [.ref (E.2.2 57), .int d, .int w] (sX8_cardIs_r σ dn wn) σ := by
  refine g_met (mc := 0) (ms := 0) (nL := 3) (ret := (some .int)) (by decide) rfl (lv := [(0, .ref (E.2.2 57)), (1, .int d), (2, .int w)]) rfl (Nat.le_of_ble_eq_true rfl) ?_
  intro p e s m below meth c S hr hlocks hC
  have hiX8 : ∀ w ∈ wsX80, w ∈ wsX8_cardIs := by decide +kernel
  subst hw
  rcases (show wn = 0 ∨ wn = 1 ∨ wn = 2 ∨ wn = 3 ∨ wn = 4 by omega) with rfl | rfl | rfl | rfl | rfl
  · skip
    refine g_iload_n S 2 dX8_cardIs_0 rfl ?_
    refine g_const S dX8_cardIs_1 (v := 2) rfl ?_
    refine g_icmp_ge S 18 dX8_cardIs_2 (by decide) (fun c_1 => absurd c_1 (by decide)) (fun c_1 => ?_)
    refine g_aload_n S 0 dX8_cardIs_5 rfl ?_
    refine gg7r S hC hiX8 (by decide) rfl 8 (by decide) (by decide +kernel) dX8_cardIs_6 ?_
    refine g_const S dX8_cardIs_9 (v := 2) rfl ?_
    refine g_iload_n S 1 dX8_cardIs_10 rfl ?_
    refine g_imul S dX8_cardIs_11 ?_
    refine g_iload_n S 2 dX8_cardIs_12 rfl ?_
    refine g_iadd S dX8_cardIs_13 ?_
    refine g_iald S hC (by decide) rfl ((2 * dn) + 0) (gI_add (gI_mul rfl hd) rfl) (show (2 * dn) + 0 < 20 by omega) (by decide) dX8_cardIs_14 ?_
    refine g_goto S 26 dX8_cardIs_15 (by decide) ?_
    exact g_iret S hr hlocks dX8_cardIs_26 rfl rfl (Nat.le_of_ble_eq_true rfl) (Nat.le_of_ble_eq_true rfl)
  · skip
    refine g_iload_n S 2 dX8_cardIs_0 rfl ?_
    refine g_const S dX8_cardIs_1 (v := 2) rfl ?_
    refine g_icmp_ge S 18 dX8_cardIs_2 (by decide) (fun c_2 => absurd c_2 (by decide)) (fun c_2 => ?_)
    refine g_aload_n S 0 dX8_cardIs_5 rfl ?_
    refine gg7r S hC hiX8 (by decide) rfl 8 (by decide) (by decide +kernel) dX8_cardIs_6 ?_
    refine g_const S dX8_cardIs_9 (v := 2) rfl ?_
    refine g_iload_n S 1 dX8_cardIs_10 rfl ?_
    refine g_imul S dX8_cardIs_11 ?_
    refine g_iload_n S 2 dX8_cardIs_12 rfl ?_
    refine g_iadd S dX8_cardIs_13 ?_
    refine g_iald S hC (by decide) rfl ((2 * dn) + 1) (gI_add (gI_mul rfl hd) rfl) (show (2 * dn) + 1 < 20 by omega) (by decide) dX8_cardIs_14 ?_
    refine g_goto S 26 dX8_cardIs_15 (by decide) ?_
    exact g_iret S hr hlocks dX8_cardIs_26 rfl rfl (Nat.le_of_ble_eq_true rfl) (Nat.le_of_ble_eq_true rfl)
  · skip
    refine g_iload_n S 2 dX8_cardIs_0 rfl ?_
    refine g_const S dX8_cardIs_1 (v := 2) rfl ?_
    refine g_icmp_ge S 18 dX8_cardIs_2 (by decide) (fun c_3 => ?_) (fun c_3 => absurd (by decide) c_3)
    refine g_aload_n S 0 dX8_cardIs_18 rfl ?_
    refine g_iload_n S 1 dX8_cardIs_19 rfl ?_
    refine g_iload_n S 2 dX8_cardIs_20 rfl ?_
    refine g_const S dX8_cardIs_21 (v := 2) rfl ?_
    refine g_isub S dX8_cardIs_22 ?_
    refine g_calli (g_runV S hC (As := [.int d, .int ((nI 2) - (2 : Int32))]) (rest := []) (k := 57) (by decide) rfl (by decide) rfl (kX8_ca l E σ d dn hd (by omega) ((nI 2) - (2 : Int32)) 0 (by decide) (by decide)) (cwV 2 S.2.2.2.2 gX8_cardIs_X8_ca rfl rfl rfl (by decide +kernel) ⟨Nat.le_of_ble_eq_true rfl, Nat.le_of_ble_eq_true rfl⟩) rfl rfl (Nat.le_of_ble_eq_true rfl) dX8_cardIs_23 ⟨Nat.le_of_ble_eq_true rfl, Nat.le_of_ble_eq_true rfl⟩) ?_
    exact g_iret S hr hlocks dX8_cardIs_26 rfl rfl (Nat.le_of_ble_eq_true rfl) (Nat.le_of_ble_eq_true rfl)
  · skip
    refine g_iload_n S 2 dX8_cardIs_0 rfl ?_
    refine g_const S dX8_cardIs_1 (v := 2) rfl ?_
    refine g_icmp_ge S 18 dX8_cardIs_2 (by decide) (fun c_4 => ?_) (fun c_4 => absurd (by decide) c_4)
    refine g_aload_n S 0 dX8_cardIs_18 rfl ?_
    refine g_iload_n S 1 dX8_cardIs_19 rfl ?_
    refine g_iload_n S 2 dX8_cardIs_20 rfl ?_
    refine g_const S dX8_cardIs_21 (v := 2) rfl ?_
    refine g_isub S dX8_cardIs_22 ?_
    refine g_calli (g_runV S hC (As := [.int d, .int ((nI 3) - (2 : Int32))]) (rest := []) (k := 57) (by decide) rfl (by decide) rfl (kX8_ca l E σ d dn hd (by omega) ((nI 3) - (2 : Int32)) 1 (by decide) (by decide)) (cwV 2 S.2.2.2.2 gX8_cardIs_X8_ca rfl rfl rfl (by decide +kernel) ⟨Nat.le_of_ble_eq_true rfl, Nat.le_of_ble_eq_true rfl⟩) rfl rfl (Nat.le_of_ble_eq_true rfl) dX8_cardIs_23 ⟨Nat.le_of_ble_eq_true rfl, Nat.le_of_ble_eq_true rfl⟩) ?_
    exact g_iret S hr hlocks dX8_cardIs_26 rfl rfl (Nat.le_of_ble_eq_true rfl) (Nat.le_of_ble_eq_true rfl)
  · skip
    refine g_iload_n S 2 dX8_cardIs_0 rfl ?_
    refine g_const S dX8_cardIs_1 (v := 2) rfl ?_
    refine g_icmp_ge S 18 dX8_cardIs_2 (by decide) (fun c_5 => ?_) (fun c_5 => absurd (by decide) c_5)
    refine g_aload_n S 0 dX8_cardIs_18 rfl ?_
    refine g_iload_n S 1 dX8_cardIs_19 rfl ?_
    refine g_iload_n S 2 dX8_cardIs_20 rfl ?_
    refine g_const S dX8_cardIs_21 (v := 2) rfl ?_
    refine g_isub S dX8_cardIs_22 ?_
    refine g_calli (g_runV S hC (As := [.int d, .int ((nI 4) - (2 : Int32))]) (rest := []) (k := 57) (by decide) rfl (by decide) rfl (kX8_ca l E σ d dn hd (by omega) ((nI 4) - (2 : Int32)) 2 (by decide) (by decide)) (cwV 2 S.2.2.2.2 gX8_cardIs_X8_ca rfl rfl rfl (by decide +kernel) ⟨Nat.le_of_ble_eq_true rfl, Nat.le_of_ble_eq_true rfl⟩) rfl rfl (Nat.le_of_ble_eq_true rfl) dX8_cardIs_23 ⟨Nat.le_of_ble_eq_true rfl, Nat.le_of_ble_eq_true rfl⟩) ?_
    exact g_iret S hr hlocks dX8_cardIs_26 rfl rfl (Nat.le_of_ble_eq_true rfl) (Nat.le_of_ble_eq_true rfl)
def sX8_ration_r (σ : gS) (a : Int32) (b : Int32) : Int32 := let S1 := gu σ 57 0 (0 : Int32); if sX8_isIn_r S1 a (0 : Int32) ((S1.1 57 4) - (1 : Int32)) = 0 then (sX8_fail_r S1 (1 : Int32)) else (if sX8_isIn_r S1 b (0 : Int32) (4 : Int32) = 0 then (sX8_fail_r S1 (1 : Int32)) else (sX8_cardIs_r S1 a.toNatClampNeg b.toNatClampNeg))
def sX8_ration_s (σ : gS) (a : Int32) (b : Int32) : gS := let S1 := gu σ 57 0 (0 : Int32); if sX8_isIn_r S1 a (0 : Int32) ((S1.1 57 4) - (1 : Int32)) = 0 then (let S2 := sX8_fail_s S1 (1 : Int32); S2) else (if sX8_isIn_r S1 b (0 : Int32) (4 : Int32) = 0 then (let S3 := sX8_fail_s S1 (1 : Int32); S3) else (S1))
theorem fX8_ration (σ : gS) (a : Int32) (b : Int32) (x : Nat) (hx57 : x ≠ 57) : (sX8_ration_s σ a b).1 x = σ.1 x := by
  unfold sX8_ration_s
  (try dsimp only)
  (repeat' split)
  all_goals (simp [gu_ne, gcp, fX8_fail, *])
set_option maxRecDepth 100000 in
set_option maxHeartbeats 4000000 in
theorem kX8_ration (l : Launch) (E : gT) (σ : gS) (a : Int32) (b : Int32) (hok : mOK σ) : gMi l yX8_ration wsX8_ration ({ frames := 2, cells := 0, slots := 0, locals := 44 }) 0 0 E σ [.ref (E.2.2 57), .int a, .int b] (sX8_ration_r σ a b) (sX8_ration_s σ a b) := by
  refine g_met (mc := 0) (ms := 0) (nL := 3) (ret := (some .int)) (by decide) rfl (lv := [(0, .ref (E.2.2 57)), (1, .int a), (2, .int b)]) rfl (Nat.le_of_ble_eq_true rfl) ?_
  intro p e s m below meth c S hr hlocks hC
  have hiX8 : ∀ w ∈ wsX80, w ∈ wsX8_ration := by decide +kernel
  refine g_aload_n S 0 dX8_ration_0 rfl ?_
  refine g_const S dX8_ration_1 (v := 0) rfl ?_
  refine gp7 S hC hiX8 (by decide) rfl 0 (by decide) (by decide +kernel) dX8_ration_2 ?_
  refine g_nm (fun S1 hS1 => ?_)
  have kqS1 := kq_p0 hS1 (kq_0)
  have okS1 := mOK.p0 hS1 (hok)
  refine g_iload_n S 1 dX8_ration_5 rfl ?_
  refine g_const S dX8_ration_6 (v := 0) rfl ?_
  refine g_aload_n S 0 dX8_ration_7 rfl ?_
  refine gg7 S hC hiX8 (by decide) rfl 4 (by decide) (by decide +kernel) dX8_ration_8 ?_
  refine g_const S dX8_ration_11 (v := 1) rfl ?_
  refine g_isub S dX8_ration_12 ?_
  refine g_calli (g_runS S hC (As := [.int a, .int (0 : Int32), .int ((S1.1 57 4) - (1 : Int32))]) (rest := []) (kX8_isIn l E S1 a (0 : Int32) ((S1.1 57 4) - (1 : Int32))) (va_cwS 3 S.2.2.2.2 gX8_ration_X8_isIn rfl rfl rfl (by decide +kernel) ⟨Nat.le_of_ble_eq_true rfl, Nat.le_of_ble_eq_true rfl⟩) rfl rfl (Nat.le_of_ble_eq_true rfl) dX8_ration_13 ⟨Nat.le_of_ble_eq_true rfl, Nat.le_of_ble_eq_true rfl⟩) ?_
  refine g_if_eq S 37 dX8_ration_16 (by decide) (fun c_1 => ?_) (fun c_1 => ?_)
  · skip
    refine g_aload_n S 0 dX8_ration_37 rfl ?_
    refine g_const S dX8_ration_38 (v := 1) rfl ?_
    refine g_calli (g_runV S hC (As := [.int (1 : Int32)]) (rest := []) (k := 57) (by decide) rfl (by decide) rfl (kX8_fail l E S1 (1 : Int32)) (cwV 1 S.2.2.2.2 gX8_ration_X8_fail rfl rfl rfl (by decide +kernel) ⟨Nat.le_of_ble_eq_true rfl, Nat.le_of_ble_eq_true rfl⟩) rfl rfl (Nat.le_of_ble_eq_true rfl) dX8_ration_39 ⟨Nat.le_of_ble_eq_true rfl, Nat.le_of_ble_eq_true rfl⟩) ?_
    refine g_nm (fun S2 hS2 => ?_)
    exact g_iret S hr hlocks dX8_ration_42 (by subst hS2 hS1; unfold sX8_ration_r; (try dsimp only); rw [if_pos c_1]) (by subst hS2 hS1; unfold sX8_ration_s; (try dsimp only); rw [if_pos c_1]) (Nat.le_of_ble_eq_true rfl) (Nat.le_of_ble_eq_true rfl)
  · skip
    refine g_iload_n S 2 dX8_ration_19 rfl ?_
    refine g_const S dX8_ration_20 (v := 0) rfl ?_
    refine g_const S dX8_ration_21 (v := 4) rfl ?_
    refine g_calli (g_runS S hC (As := [.int b, .int (0 : Int32), .int (4 : Int32)]) (rest := []) (kX8_isIn l E S1 b (0 : Int32) (4 : Int32)) (va_cwS 3 S.2.2.2.2 gX8_ration_X8_isIn rfl rfl rfl (by decide +kernel) ⟨Nat.le_of_ble_eq_true rfl, Nat.le_of_ble_eq_true rfl⟩) rfl rfl (Nat.le_of_ble_eq_true rfl) dX8_ration_22 ⟨Nat.le_of_ble_eq_true rfl, Nat.le_of_ble_eq_true rfl⟩) ?_
    refine g_if_eq S 37 dX8_ration_25 (by decide) (fun c_2 => ?_) (fun c_2 => ?_)
    · skip
      refine g_aload_n S 0 dX8_ration_37 rfl ?_
      refine g_const S dX8_ration_38 (v := 1) rfl ?_
      refine g_calli (g_runV S hC (As := [.int (1 : Int32)]) (rest := []) (k := 57) (by decide) rfl (by decide) rfl (kX8_fail l E S1 (1 : Int32)) (cwV 1 S.2.2.2.2 gX8_ration_X8_fail rfl rfl rfl (by decide +kernel) ⟨Nat.le_of_ble_eq_true rfl, Nat.le_of_ble_eq_true rfl⟩) rfl rfl (Nat.le_of_ble_eq_true rfl) dX8_ration_39 ⟨Nat.le_of_ble_eq_true rfl, Nat.le_of_ble_eq_true rfl⟩) ?_
      refine g_nm (fun S3 hS3 => ?_)
      exact g_iret S hr hlocks dX8_ration_42 (by subst hS3 hS1; unfold sX8_ration_r; (try dsimp only); rw [if_neg c_1, if_pos c_2]) (by subst hS3 hS1; unfold sX8_ration_s; (try dsimp only); rw [if_neg c_1, if_pos c_2]) (Nat.le_of_ble_eq_true rfl) (Nat.le_of_ble_eq_true rfl)
    · skip
      have hle := hok.le4
      obtain ⟨hbb, hbe⟩ := md_ix (mB σ 4) ((kqS1 4 (by decide)).trans (hok.eq 4 (by decide) (by decide))) (by omega) (by assumption)
      have hbl : a.toNatClampNeg < 10 := by omega
      obtain ⟨⟨_, hbb0⟩, hbe2⟩ := mi_nm (lo := 0) (hi := 4) (by decide) (by decide) (x := b) (by assumption)
      refine g_aload_n S 0 dX8_ration_28 rfl ?_
      refine g_iload_n S 1 dX8_ration_29 rfl ?_
      refine g_iload_n S 2 dX8_ration_30 rfl ?_
      refine g_calli (g_runV S hC (As := [.int a, .int b]) (rest := []) (k := 57) (by decide) rfl (by decide) rfl (kX8_cardIs l E S1 a a.toNatClampNeg hbe (by omega) b b.toNatClampNeg hbe2 (by omega)) (cwV 2 S.2.2.2.2 gX8_ration_X8_cardIs rfl rfl rfl (by decide +kernel) ⟨Nat.le_of_ble_eq_true rfl, Nat.le_of_ble_eq_true rfl⟩) rfl rfl (Nat.le_of_ble_eq_true rfl) dX8_ration_31 ⟨Nat.le_of_ble_eq_true rfl, Nat.le_of_ble_eq_true rfl⟩) ?_
      refine g_goto S 42 dX8_ration_34 (by decide) ?_
      exact g_iret S hr hlocks dX8_ration_42 (by subst hS1; unfold sX8_ration_r; (try dsimp only); rw [if_neg c_1, if_neg c_2]) (by subst hS1; unfold sX8_ration_s; (try dsimp only); rw [if_neg c_1, if_neg c_2]) (Nat.le_of_ble_eq_true rfl) (Nat.le_of_ble_eq_true rfl)
def sX8_count_r (σ : gS) (a : Int32) : Int32 := let S1 := gu σ 57 0 (0 : Int32); if sX8_isIn_r S1 a (0 : Int32) (8 : Int32) = 0 then (sX8_fail_r S1 (1 : Int32)) else (S1.1 62 a.toNatClampNeg)
def sX8_count_s (σ : gS) (a : Int32) : gS := let S1 := gu σ 57 0 (0 : Int32); if sX8_isIn_r S1 a (0 : Int32) (8 : Int32) = 0 then (let S2 := sX8_fail_s S1 (1 : Int32); S2) else (S1)
theorem fX8_count (σ : gS) (a : Int32) (x : Nat) (hx57 : x ≠ 57) : (sX8_count_s σ a).1 x = σ.1 x := by
  unfold sX8_count_s
  (try dsimp only)
  (repeat' split)
  all_goals (simp [gu_ne, gcp, fX8_fail, *])
set_option maxRecDepth 100000 in
set_option maxHeartbeats 4000000 in
theorem kX8_count (l : Launch) (E : gT) (σ : gS) (a : Int32) : gMi l yX8_count wsX8_count ({ frames := 1, cells := 0, slots := 0, locals := 22 }) 0 0 E σ [.ref (E.2.2 57), .int a] (sX8_count_r σ a) (sX8_count_s σ a) := by
  refine g_met (mc := 0) (ms := 0) (nL := 2) (ret := (some .int)) (by decide) rfl (lv := [(0, .ref (E.2.2 57)), (1, .int a)]) rfl (Nat.le_of_ble_eq_true rfl) ?_
  intro p e s m below meth c S hr hlocks hC
  have hiX8 : ∀ w ∈ wsX80, w ∈ wsX8_count := by decide +kernel
  refine g_aload_n S 0 dX8_count_0 rfl ?_
  refine g_const S dX8_count_1 (v := 0) rfl ?_
  refine gp7 S hC hiX8 (by decide) rfl 0 (by decide) (by decide +kernel) dX8_count_2 ?_
  refine g_nm (fun S1 hS1 => ?_)
  have kqS1 := kq_p0 hS1 (kq_0)
  refine g_iload_n S 1 dX8_count_5 rfl ?_
  refine g_const S dX8_count_6 (v := 0) rfl ?_
  refine g_bipush S dX8_count_7 (v := 8) rfl ?_
  refine g_calli (g_runS S hC (As := [.int a, .int (0 : Int32), .int (8 : Int32)]) (rest := []) (kX8_isIn l E S1 a (0 : Int32) (8 : Int32)) (va_cwS 3 S.2.2.2.2 gX8_count_X8_isIn rfl rfl rfl (by decide +kernel) ⟨Nat.le_of_ble_eq_true rfl, Nat.le_of_ble_eq_true rfl⟩) rfl rfl (Nat.le_of_ble_eq_true rfl) dX8_count_9 ⟨Nat.le_of_ble_eq_true rfl, Nat.le_of_ble_eq_true rfl⟩) ?_
  refine g_if_eq S 24 dX8_count_12 (by decide) (fun c_1 => ?_) (fun c_1 => ?_)
  · skip
    refine g_aload_n S 0 dX8_count_24 rfl ?_
    refine g_const S dX8_count_25 (v := 1) rfl ?_
    refine g_calli (g_runV S hC (As := [.int (1 : Int32)]) (rest := []) (k := 57) (by decide) rfl (by decide) rfl (kX8_fail l E S1 (1 : Int32)) (cwV 1 S.2.2.2.2 gX8_count_X8_fail rfl rfl rfl (by decide +kernel) ⟨Nat.le_of_ble_eq_true rfl, Nat.le_of_ble_eq_true rfl⟩) rfl rfl (Nat.le_of_ble_eq_true rfl) dX8_count_26 ⟨Nat.le_of_ble_eq_true rfl, Nat.le_of_ble_eq_true rfl⟩) ?_
    refine g_nm (fun S2 hS2 => ?_)
    exact g_iret S hr hlocks dX8_count_29 (by subst hS2 hS1; unfold sX8_count_r; (try dsimp only); rw [if_pos c_1]) (by subst hS2 hS1; unfold sX8_count_s; (try dsimp only); rw [if_pos c_1]) (Nat.le_of_ble_eq_true rfl) (Nat.le_of_ble_eq_true rfl)
  · skip
    obtain ⟨⟨_, hbb0⟩, hbe⟩ := mi_nm (lo := 0) (hi := 8) (by decide) (by decide) (x := a) (by assumption)
    refine g_aload_n S 0 dX8_count_15 rfl ?_
    refine gg7r S hC hiX8 (by decide) rfl 9 (by decide) (by decide +kernel) dX8_count_16 ?_
    refine g_iload_n S 1 dX8_count_19 rfl ?_
    refine g_iald S hC (by decide) rfl a.toNatClampNeg hbe (show a.toNatClampNeg < 72 by omega) (by decide) dX8_count_20 ?_
    refine g_goto S 29 dX8_count_21 (by decide) ?_
    exact g_iret S hr hlocks dX8_count_29 (by subst hS1; unfold sX8_count_r; (try dsimp only); rw [if_neg c_1]) (by subst hS1; unfold sX8_count_s; (try dsimp only); rw [if_neg c_1]) (Nat.le_of_ble_eq_true rfl) (Nat.le_of_ble_eq_true rfl)
