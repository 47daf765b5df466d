def sX7_checkIndex_t (σ : gS) (a : Int32) (b : Int32) : Nat := if a < 0 then (3) else (if a < b then (0) else (3))
set_option maxRecDepth 100000 in
set_option maxHeartbeats 4000000 in
theorem kX7_checkIndex (l : Launch) (hfl : l.stackTraces = false) (E : gT) (σ : gS) (a : Int32) (b : Int32) : gYv l yX7_checkIndex wsX7_checkIndex ({ frames := 6, cells := 1, slots := 6, locals := 90 }) 1 6 E σ [.int a, .int b] (sX7_checkIndex_t σ a b) σ := by
  refine g_vmet (mc := 1) (ms := 6) (nL := 2) (ret := none) (by decide) rfl (lv := [(0, .int a), (1, .int b)]) rfl (Nat.le_of_ble_eq_true rfl) ?_
  intro p e s m below meth c S hr hlocks hout hC
  refine g_iload_n S 0 dX7_checkIndex_0 rfl ?_
  refine g_if_lt S 9 dX7_checkIndex_1 (by decide) (fun c_1 => ?_) (fun c_1 => ?_)
  · skip
    exact g_throw S hC hfl hlocks hout (cls := "java/lang/IndexOutOfBoundsException") (names := ["java/lang/RuntimeException", "java/lang/Exception"]) 3 (by decide) rfl (by decide +kernel) (by decide +kernel) (by decide +kernel) (by decide +kernel) hC.2.2.2.2.1 (by decide +kernel) (by decide +kernel) (by decide +kernel) dX7_checkIndex_9 dX7_checkIndex_12 dX7_checkIndex_13 dX7_checkIndex_15 dX7_checkIndex_18 (Nat.le_of_ble_eq_true rfl) (Nat.le_of_ble_eq_true rfl) (Nat.le_of_ble_eq_true rfl) (Nat.le_of_ble_eq_true rfl) (Nat.le_of_ble_eq_true rfl) (Nat.le_of_ble_eq_true rfl) (by rw [sX7_checkIndex_t, if_pos c_1]) rfl
  · skip
    refine g_iload_n S 0 dX7_checkIndex_4 rfl ?_
    refine g_iload_n S 1 dX7_checkIndex_5 rfl ?_
    refine g_icmp_lt S 19 dX7_checkIndex_6 (by decide) (fun c_2 => ?_) (fun c_2 => ?_)
    · skip
      exact g_xvret S hr hlocks dX7_checkIndex_19 (by rw [sX7_checkIndex_t, if_neg c_1, if_pos c_2]) rfl (Nat.le_of_ble_eq_true rfl) (Nat.le_of_ble_eq_true rfl)
    · skip
      exact g_throw S hC hfl hlocks hout (cls := "java/lang/IndexOutOfBoundsException") (names := ["java/lang/RuntimeException", "java/lang/Exception"]) 3 (by decide) rfl (by decide +kernel) (by decide +kernel) (by decide +kernel) (by decide +kernel) hC.2.2.2.2.1 (by decide +kernel) (by decide +kernel) (by decide +kernel) dX7_checkIndex_9 dX7_checkIndex_12 dX7_checkIndex_13 dX7_checkIndex_15 dX7_checkIndex_18 (Nat.le_of_ble_eq_true rfl) (Nat.le_of_ble_eq_true rfl) (Nat.le_of_ble_eq_true rfl) (Nat.le_of_ble_eq_true rfl) (Nat.le_of_ble_eq_true rfl) (Nat.le_of_ble_eq_true rfl) (by rw [sX7_checkIndex_t, if_neg c_1, if_neg c_2]) rfl
def sX7_checkNumber_t (σ : gS) (a : Int32) (b : Int32) (n : Int32) : Nat := if a < b then (1) else (if a ≤ n then (0) else (1))
set_option maxRecDepth 100000 in
set_option maxHeartbeats 4000000 in
theorem kX7_checkNumber (l : Launch) (hfl : l.stackTraces = false) (E : gT) (σ : gS) (a : Int32) (b : Int32) (n : Int32) : gYv l yX7_checkNumber wsX7_checkNumber ({ frames := 6, cells := 1, slots := 6, locals := 90 }) 1 6 E σ [.int a, .int b, .int n] (sX7_checkNumber_t σ a b n) σ := by
  refine g_vmet (mc := 1) (ms := 6) (nL := 3) (ret := none) (by decide) rfl (lv := [(0, .int a), (1, .int b), (2, .int n)]) rfl (Nat.le_of_ble_eq_true rfl) ?_
  intro p e s m below meth c S hr hlocks hout hC
  refine g_iload_n S 0 dX7_checkNumber_0 rfl ?_
  refine g_iload_n S 1 dX7_checkNumber_1 rfl ?_
  refine g_icmp_lt S 10 dX7_checkNumber_2 (by decide) (fun c_1 => ?_) (fun c_1 => ?_)
  · skip
    exact g_throw S hC hfl hlocks hout (cls := "java/lang/IllegalArgumentException") (names := ["java/lang/RuntimeException", "java/lang/Exception"]) 1 (by decide) rfl (by decide +kernel) (by decide +kernel) (by decide +kernel) (by decide +kernel) hC.2.2.2.2.2.1 (by decide +kernel) (by decide +kernel) (by decide +kernel) dX7_checkNumber_10 dX7_checkNumber_13 dX7_checkNumber_14 dX7_checkNumber_16 dX7_checkNumber_19 (Nat.le_of_ble_eq_true rfl) (Nat.le_of_ble_eq_true rfl) (Nat.le_of_ble_eq_true rfl) (Nat.le_of_ble_eq_true rfl) (Nat.le_of_ble_eq_true rfl) (Nat.le_of_ble_eq_true rfl) (by rw [sX7_checkNumber_t, if_pos c_1]) rfl
  · skip
    refine g_iload_n S 0 dX7_checkNumber_5 rfl ?_
    refine g_iload_n S 2 dX7_checkNumber_6 rfl ?_
    refine g_icmp_le S 20 dX7_checkNumber_7 (by decide) (fun c_2 => ?_) (fun c_2 => ?_)
    · skip
      exact g_xvret S hr hlocks dX7_checkNumber_20 (by rw [sX7_checkNumber_t, if_neg c_1, if_pos c_2]) rfl (Nat.le_of_ble_eq_true rfl) (Nat.le_of_ble_eq_true rfl)
    · skip
      exact g_throw S hC hfl hlocks hout (cls := "java/lang/IllegalArgumentException") (names := ["java/lang/RuntimeException", "java/lang/Exception"]) 1 (by decide) rfl (by decide +kernel) (by decide +kernel) (by decide +kernel) (by decide +kernel) hC.2.2.2.2.2.1 (by decide +kernel) (by decide +kernel) (by decide +kernel) dX7_checkNumber_10 dX7_checkNumber_13 dX7_checkNumber_14 dX7_checkNumber_16 dX7_checkNumber_19 (Nat.le_of_ble_eq_true rfl) (Nat.le_of_ble_eq_true rfl) (Nat.le_of_ble_eq_true rfl) (Nat.le_of_ble_eq_true rfl) (Nat.le_of_ble_eq_true rfl) (Nat.le_of_ble_eq_true rfl) (by rw [sX7_checkNumber_t, if_neg c_1, if_neg c_2]) rfl
theorem ck_nm {σ : gS} {x : Int32} {lo hi : Nat} (hh : hi < 2 ^ 31) (hl : lo ≤ hi) (h : sX7_checkNumber_t σ x (nI lo) (nI hi) = 0) : (lo ≤ x.toNatClampNeg ∧ x.toNatClampNeg ≤ hi) ∧ x = nI x.toNatClampNeg := by
  unfold sX7_checkNumber_t at h
  by_cases h1 : x < nI lo
  · rw [if_pos h1] at h; exact absurd h (by decide)
  · rw [if_neg h1] at h
    by_cases h2 : x ≤ nI hi
    · have e1 := Int32.not_lt.mp h1
      rw [Int32.le_iff_toInt_le, nI_toInt (by omega)] at e1 h2
      have e3 : x.toNatClampNeg = x.toInt.toNat := rfl
      have e4 : x = nI x.toInt.toNat := by
        apply Int32.toInt_inj.mp
        rw [nI_toInt (by omega)]
        omega
      rw [e3]
      exact ⟨by omega, e4⟩
    · rw [if_neg h2] at h; exact absurd h (by decide)
theorem ck_ix {σ : gS} {x N : Int32} (n : Nat) (hN : N = nI n) (hn : n < 2 ^ 31) (h : sX7_checkIndex_t σ x N = 0) : x.toNatClampNeg < n ∧ x = nI x.toNatClampNeg := by
  unfold sX7_checkIndex_t at h
  subst hN
  by_cases h1 : x < 0
  · rw [if_pos h1] at h; exact absurd h (by decide)
  · rw [if_neg h1] at h
    by_cases h2 : x < nI n
    · have e1 := Int32.not_lt.mp h1
      rw [Int32.le_iff_toInt_le, Int32.toInt_zero] at e1
      rw [Int32.lt_iff_toInt_lt, nI_toInt (by omega)] at h2
      have e3 : x.toNatClampNeg = x.toInt.toNat := rfl
      have e4 : x = nI x.toInt.toNat := by
        apply Int32.toInt_inj.mp
        rw [nI_toInt (by omega)]
        omega
      rw [e3]
      exact ⟨by omega, e4⟩
    · rw [if_neg h2] at h; exact absurd h (by decide)
theorem cnt_lt {x : Int32} {k : Nat} (n : Nat) (hn : n < 2 ^ 31) (h : x = nI k) (hk : k ≤ 10) (h2 : ¬ nI n ≤ x) : k < n := by
  rcases Nat.lt_or_ge k n with q | q
  · exact q
  · exact absurd (by rw [h]; exact nI_le q (by omega)) h2
def sX7_checkState_t (σ : gS) (a : Int32) : Nat := if a = 0 then (2) else (0)
set_option maxRecDepth 100000 in
set_option maxHeartbeats 4000000 in
theorem kX7_checkState (l : Launch) (hfl : l.stackTraces = false) (E : gT) (σ : gS) (a : Int32) : gYv l yX7_checkState wsX7_checkState ({ frames := 6, cells := 1, slots := 6, locals := 90 }) 1 6 E σ [.int a] (sX7_checkState_t σ a) σ := by
  refine g_vmet (mc := 1) (ms := 6) (nL := 1) (ret := none) (by decide) rfl (lv := [(0, .int a)]) rfl (Nat.le_of_ble_eq_true rfl) ?_
  intro p e s m below meth c S hr hlocks hout hC
  refine g_iload_n S 0 dX7_checkState_0 rfl ?_
  refine g_if_ne S 14 dX7_checkState_1 (by decide) (fun c_1 => ?_) (fun c_1 => ?_)
  · skip
    exact g_xvret S hr hlocks dX7_checkState_14 (by rw [sX7_checkState_t, if_neg c_1]) rfl (Nat.le_of_ble_eq_true rfl) (Nat.le_of_ble_eq_true rfl)
  · skip
    exact g_throw S hC hfl hlocks hout (cls := "java/lang/IllegalStateException") (names := ["java/lang/RuntimeException", "java/lang/Exception"]) 2 (by decide) rfl (by decide +kernel) (by decide +kernel) (by decide +kernel) (by decide +kernel) hC.2.2.2.2.2.2 (by decide +kernel) (by decide +kernel) (by decide +kernel) dX7_checkState_4 dX7_checkState_7 dX7_checkState_8 dX7_checkState_10 dX7_checkState_13 (Nat.le_of_ble_eq_true rfl) (Nat.le_of_ble_eq_true rfl) (Nat.le_of_ble_eq_true rfl) (Nat.le_of_ble_eq_true rfl) (Nat.le_of_ble_eq_true rfl) (Nat.le_of_ble_eq_true rfl) (by rw [sX7_checkState_t, if_pos c_1]) rfl
def sX7_ask_k0_r (σ : gS) (k : Nat) (a : Int32) : Int32 := if sX7_checkIndex_t σ a (sX0_size_r σ k) = 0 then (sX0_tell_r σ k a.toNatClampNeg) else (0)
def sX7_ask_k0_t (σ : gS) (k : Nat) (a : Int32) : Nat := if sX7_checkIndex_t σ a (sX0_size_r σ k) = 0 then (0) else (sX7_checkIndex_t σ a (sX0_size_r σ k))
set_option maxRecDepth 100000 in
set_option maxHeartbeats 4000000 in
theorem kX7_ask_k0 (l : Launch) (hfl : l.stackTraces = false) (E : gT) (σ : gS) (k : Nat) (hk : k < 58) (hKk : gK k = 0) (a : Int32) : gYi l yX7_ask wsX7_ask ({ frames := 7, cells := 1, slots := 6, locals := 111 }) 1 6 E σ [.ref (E.2.2 k), .int a] (sX7_ask_k0_t σ k a) (sX7_ask_k0_r σ k a) σ := by
  refine g_vmet (mc := 1) (ms := 6) (nL := 2) (ret := (some .int)) (by decide) rfl (lv := [(0, .ref (E.2.2 k)), (1, .int a)]) rfl (Nat.le_of_ble_eq_true rfl) ?_
  intro p e s m below meth c S hr hlocks hout hC
  refine g_iload_n S 1 dX7_ask_0 rfl ?_
  refine g_aload_n S 0 dX7_ask_1 rfl ?_
  refine g_calli (g_runU S hC (As := []) (rest := [.int a]) (k := k) hk hKk (by decide) rfl (kX0_size l E σ k hk hKk) (va_cwA 0 S.2.2.2.2 gX7_ask_X0_size_u192X0 rfl rfl rfl hC.2.2.1.1.1 (by decide +kernel) ⟨Nat.le_of_ble_eq_true rfl, Nat.le_of_ble_eq_true rfl⟩) rfl rfl (Nat.le_of_ble_eq_true rfl) dX7_ask_2 ⟨Nat.le_of_ble_eq_true rfl, Nat.le_of_ble_eq_true rfl⟩) ?_
  refine g_callxv (g_xunS S hC (As := [.int a, .int (sX0_size_r σ k)]) (rest := []) (kX7_checkIndex l hfl E σ a (sX0_size_r σ k)) (va_cwS 2 S.2.2.2.2 gX7_ask_X7_checkIndex rfl rfl rfl (by decide +kernel) ⟨Nat.le_of_ble_eq_true rfl, Nat.le_of_ble_eq_true rfl⟩) rfl rfl (Nat.le_of_ble_eq_true rfl) dX7_ask_5 ⟨Nat.le_of_ble_eq_true rfl, Nat.le_of_ble_eq_true rfl⟩) (fun c_1 => g_out hlocks hout c_1 (by rw [sX7_ask_k0_t, if_neg c_1]) rfl (Nat.le_of_ble_eq_true rfl) (Nat.le_of_ble_eq_true rfl)) (fun c_1 => ?_)
  obtain ⟨hbb, hbe⟩ := ck_ix 3 rfl (by decide) c_1
  refine g_aload_n S 0 dX7_ask_8 rfl ?_
  refine g_iload_n S 1 dX7_ask_9 rfl ?_
  refine g_top (y := nI a.toNatClampNeg) hbe ?_
  refine g_calli (g_runU S hC (As := [.int (nI a.toNatClampNeg)]) (rest := []) (k := k) hk hKk (by decide) rfl (kX0_tell l E σ k hk hKk a.toNatClampNeg (by first | decide | omega)) (va_cwA 1 S.2.2.2.2 gX7_ask_X0_tell_u197X0 rfl rfl rfl hC.2.2.1.1.2.1 (by decide +kernel) ⟨Nat.le_of_ble_eq_true rfl, Nat.le_of_ble_eq_true rfl⟩) rfl rfl (Nat.le_of_ble_eq_true rfl) dX7_ask_10 ⟨Nat.le_of_ble_eq_true rfl, Nat.le_of_ble_eq_true rfl⟩) ?_
  exact g_xiret S hr hlocks dX7_ask_13 (by rw [sX7_ask_k0_t, if_pos c_1]) (by rw [sX7_ask_k0_r, if_pos c_1]) rfl (Nat.le_of_ble_eq_true rfl) (Nat.le_of_ble_eq_true rfl)
def sX7_ask_k1_r (σ : gS) (k : Nat) (a : Int32) : Int32 := if sX7_checkIndex_t σ a (sX1_size_r σ k) = 0 then (sX1_tell_r σ k a.toNatClampNeg) else (0)
def sX7_ask_k1_t (σ : gS) (k : Nat) (a : Int32) : Nat := if sX7_checkIndex_t σ a (sX1_size_r σ k) = 0 then (0) else (sX7_checkIndex_t σ a (sX1_size_r σ k))
set_option maxRecDepth 100000 in
set_option maxHeartbeats 4000000 in
theorem kX7_ask_k1 (l : Launch) (hfl : l.stackTraces = false) (E : gT) (σ : gS) (k : Nat) (hk : k < 58) (hKk : gK k = 1) (a : Int32) : gYi l yX7_ask wsX7_ask ({ frames := 7, cells := 1, slots := 6, locals := 111 }) 1 6 E σ [.ref (E.2.2 k), .int a] (sX7_ask_k1_t σ k a) (sX7_ask_k1_r σ k a) σ := by
  refine g_vmet (mc := 1) (ms := 6) (nL := 2) (ret := (some .int)) (by decide) rfl (lv := [(0, .ref (E.2.2 k)), (1, .int a)]) rfl (Nat.le_of_ble_eq_true rfl) ?_
  intro p e s m below meth c S hr hlocks hout hC
  refine g_iload_n S 1 dX7_ask_0 rfl ?_
  refine g_aload_n S 0 dX7_ask_1 rfl ?_
  refine g_calli (g_runU S hC (As := []) (rest := [.int a]) (k := k) hk hKk (by decide) rfl (kX1_size l E σ k hk hKk) (va_cwA 0 S.2.2.2.2 gX7_ask_X1_size_u192X1 rfl rfl rfl hC.2.2.1.1.1 (by decide +kernel) ⟨Nat.le_of_ble_eq_true rfl, Nat.le_of_ble_eq_true rfl⟩) rfl rfl (Nat.le_of_ble_eq_true rfl) dX7_ask_2 ⟨Nat.le_of_ble_eq_true rfl, Nat.le_of_ble_eq_true rfl⟩) ?_
  refine g_callxv (g_xunS S hC (As := [.int a, .int (sX1_size_r σ k)]) (rest := []) (kX7_checkIndex l hfl E σ a (sX1_size_r σ k)) (va_cwS 2 S.2.2.2.2 gX7_ask_X7_checkIndex rfl rfl rfl (by decide +kernel) ⟨Nat.le_of_ble_eq_true rfl, Nat.le_of_ble_eq_true rfl⟩) rfl rfl (Nat.le_of_ble_eq_true rfl) dX7_ask_5 ⟨Nat.le_of_ble_eq_true rfl, Nat.le_of_ble_eq_true rfl⟩) (fun c_1 => g_out hlocks hout c_1 (by rw [sX7_ask_k1_t, if_neg c_1]) rfl (Nat.le_of_ble_eq_true rfl) (Nat.le_of_ble_eq_true rfl)) (fun c_1 => ?_)
  obtain ⟨hbb, hbe⟩ := ck_ix 5 rfl (by decide) c_1
  refine g_aload_n S 0 dX7_ask_8 rfl ?_
  refine g_iload_n S 1 dX7_ask_9 rfl ?_
  refine g_top (y := nI a.toNatClampNeg) hbe ?_
  refine g_calli (g_runU S hC (As := [.int (nI a.toNatClampNeg)]) (rest := []) (k := k) hk hKk (by decide) rfl (kX1_tell l E σ k hk hKk a.toNatClampNeg (by first | decide | omega)) (va_cwA 1 S.2.2.2.2 gX7_ask_X1_tell_u197X1 rfl rfl rfl hC.2.2.1.1.2.1 (by decide +kernel) ⟨Nat.le_of_ble_eq_true rfl, Nat.le_of_ble_eq_true rfl⟩) rfl rfl (Nat.le_of_ble_eq_true rfl) dX7_ask_10 ⟨Nat.le_of_ble_eq_true rfl, Nat.le_of_ble_eq_true rfl⟩) ?_
  exact g_xiret S hr hlocks dX7_ask_13 (by rw [sX7_ask_k1_t, if_pos c_1]) (by rw [sX7_ask_k1_r, if_pos c_1]) rfl (Nat.le_of_ble_eq_true rfl) (Nat.le_of_ble_eq_true rfl)
def sX7_ask_k2_r (σ : gS) (k : Nat) (a : Int32) : Int32 := if sX7_checkIndex_t σ a (sX2_size_r σ k) = 0 then (sX2_tell_r σ k a.toNatClampNeg) else (0)
def sX7_ask_k2_t (σ : gS) (k : Nat) (a : Int32) : Nat := if sX7_checkIndex_t σ a (sX2_size_r σ k) = 0 then (0) else (sX7_checkIndex_t σ a (sX2_size_r σ k))
set_option maxRecDepth 100000 in
set_option maxHeartbeats 4000000 in
theorem kX7_ask_k2 (l : Launch) (hfl : l.stackTraces = false) (E : gT) (σ : gS) (k : Nat) (hk : k < 58) (hKk : gK k = 2) (a : Int32) : gYi l yX7_ask wsX7_ask ({ frames := 7, cells := 1, slots := 6, locals := 111 }) 1 6 E σ [.ref (E.2.2 k), .int a] (sX7_ask_k2_t σ k a) (sX7_ask_k2_r σ k a) σ := by
  refine g_vmet (mc := 1) (ms := 6) (nL := 2) (ret := (some .int)) (by decide) rfl (lv := [(0, .ref (E.2.2 k)), (1, .int a)]) rfl (Nat.le_of_ble_eq_true rfl) ?_
  intro p e s m below meth c S hr hlocks hout hC
  refine g_iload_n S 1 dX7_ask_0 rfl ?_
  refine g_aload_n S 0 dX7_ask_1 rfl ?_
  refine g_calli (g_runU S hC (As := []) (rest := [.int a]) (k := k) hk hKk (by decide) rfl (kX2_size l E σ k hk hKk) (va_cwA 0 S.2.2.2.2 gX7_ask_X2_size_u192X2 rfl rfl rfl hC.2.2.1.1.1 (by decide +kernel) ⟨Nat.le_of_ble_eq_true rfl, Nat.le_of_ble_eq_true rfl⟩) rfl rfl (Nat.le_of_ble_eq_true rfl) dX7_ask_2 ⟨Nat.le_of_ble_eq_true rfl, Nat.le_of_ble_eq_true rfl⟩) ?_
  refine g_callxv (g_xunS S hC (As := [.int a, .int (sX2_size_r σ k)]) (rest := []) (kX7_checkIndex l hfl E σ a (sX2_size_r σ k)) (va_cwS 2 S.2.2.2.2 gX7_ask_X7_checkIndex rfl rfl rfl (by decide +kernel) ⟨Nat.le_of_ble_eq_true rfl, Nat.le_of_ble_eq_true rfl⟩) rfl rfl (Nat.le_of_ble_eq_true rfl) dX7_ask_5 ⟨Nat.le_of_ble_eq_true rfl, Nat.le_of_ble_eq_true rfl⟩) (fun c_1 => g_out hlocks hout c_1 (by rw [sX7_ask_k2_t, if_neg c_1]) rfl (Nat.le_of_ble_eq_true rfl) (Nat.le_of_ble_eq_true rfl)) (fun c_1 => ?_)
  obtain ⟨hbb, hbe⟩ := ck_ix 6 rfl (by decide) c_1
  refine g_aload_n S 0 dX7_ask_8 rfl ?_
  refine g_iload_n S 1 dX7_ask_9 rfl ?_
  refine g_top (y := nI a.toNatClampNeg) hbe ?_
  refine g_calli (g_runU S hC (As := [.int (nI a.toNatClampNeg)]) (rest := []) (k := k) hk hKk (by decide) rfl (kX2_tell l E σ k hk hKk a.toNatClampNeg (by first | decide | omega)) (va_cwA 1 S.2.2.2.2 gX7_ask_X2_tell_u197X2 rfl rfl rfl hC.2.2.1.1.2.1 (by decide +kernel) ⟨Nat.le_of_ble_eq_true rfl, Nat.le_of_ble_eq_true rfl⟩) rfl rfl (Nat.le_of_ble_eq_true rfl) dX7_ask_10 ⟨Nat.le_of_ble_eq_true rfl, Nat.le_of_ble_eq_true rfl⟩) ?_
  exact g_xiret S hr hlocks dX7_ask_13 (by rw [sX7_ask_k2_t, if_pos c_1]) (by rw [sX7_ask_k2_r, if_pos c_1]) rfl (Nat.le_of_ble_eq_true rfl) (Nat.le_of_ble_eq_true rfl)
def sX7_ask_k3_r (σ : gS) (k : Nat) (a : Int32) : Int32 := if sX7_checkIndex_t σ a (sX3_size_r σ k) = 0 then (sX3_tell_r σ k a.toNatClampNeg) else (0)
def sX7_ask_k3_t (σ : gS) (k : Nat) (a : Int32) : Nat := if sX7_checkIndex_t σ a (sX3_size_r σ k) = 0 then (0) else (sX7_checkIndex_t σ a (sX3_size_r σ k))
set_option maxRecDepth 100000 in
set_option maxHeartbeats 4000000 in
theorem kX7_ask_k3 (l : Launch) (hfl : l.stackTraces = false) (E : gT) (σ : gS) (k : Nat) (hk : k < 58) (hKk : gK k = 3) (a : Int32) : gYi l yX7_ask wsX7_ask ({ frames := 7, cells := 1, slots := 6, locals := 111 }) 1 6 E σ [.ref (E.2.2 k), .int a] (sX7_ask_k3_t σ k a) (sX7_ask_k3_r σ k a) σ := by
  refine g_vmet (mc := 1) (ms := 6) (nL := 2) (ret := (some .int)) (by decide) rfl (lv := [(0, .ref (E.2.2 k)), (1, .int a)]) rfl (Nat.le_of_ble_eq_true rfl) ?_
  intro p e s m below meth c S hr hlocks hout hC
  refine g_iload_n S 1 dX7_ask_0 rfl ?_
  refine g_aload_n S 0 dX7_ask_1 rfl ?_
  refine g_calli (g_runU S hC (As := []) (rest := [.int a]) (k := k) hk hKk (by decide) rfl (kX3_size l E σ k hk hKk) (va_cwA 0 S.2.2.2.2 gX7_ask_X3_size_u192X3 rfl rfl rfl hC.2.2.1.1.1 (by decide +kernel) ⟨Nat.le_of_ble_eq_true rfl, Nat.le_of_ble_eq_true rfl⟩) rfl rfl (Nat.le_of_ble_eq_true rfl) dX7_ask_2 ⟨Nat.le_of_ble_eq_true rfl, Nat.le_of_ble_eq_true rfl⟩) ?_
  refine g_callxv (g_xunS S hC (As := [.int a, .int (sX3_size_r σ k)]) (rest := []) (kX7_checkIndex l hfl E σ a (sX3_size_r σ k)) (va_cwS 2 S.2.2.2.2 gX7_ask_X7_checkIndex rfl rfl rfl (by decide +kernel) ⟨Nat.le_of_ble_eq_true rfl, Nat.le_of_ble_eq_true rfl⟩) rfl rfl (Nat.le_of_ble_eq_true rfl) dX7_ask_5 ⟨Nat.le_of_ble_eq_true rfl, Nat.le_of_ble_eq_true rfl⟩) (fun c_1 => g_out hlocks hout c_1 (by rw [sX7_ask_k3_t, if_neg c_1]) rfl (Nat.le_of_ble_eq_true rfl) (Nat.le_of_ble_eq_true rfl)) (fun c_1 => ?_)
  obtain ⟨hbb, hbe⟩ := ck_ix 5 rfl (by decide) c_1
  refine g_aload_n S 0 dX7_ask_8 rfl ?_
  refine g_iload_n S 1 dX7_ask_9 rfl ?_
  refine g_top (y := nI a.toNatClampNeg) hbe ?_
  refine g_calli (g_runU S hC (As := [.int (nI a.toNatClampNeg)]) (rest := []) (k := k) hk hKk (by decide) rfl (kX3_tell l E σ k hk hKk a.toNatClampNeg (by first | decide | omega)) (va_cwA 1 S.2.2.2.2 gX7_ask_X3_tell_u197X3 rfl rfl rfl hC.2.2.1.1.2.1 (by decide +kernel) ⟨Nat.le_of_ble_eq_true rfl, Nat.le_of_ble_eq_true rfl⟩) rfl rfl (Nat.le_of_ble_eq_true rfl) dX7_ask_10 ⟨Nat.le_of_ble_eq_true rfl, Nat.le_of_ble_eq_true rfl⟩) ?_
  exact g_xiret S hr hlocks dX7_ask_13 (by rw [sX7_ask_k3_t, if_pos c_1]) (by rw [sX7_ask_k3_r, if_pos c_1]) rfl (Nat.le_of_ble_eq_true rfl) (Nat.le_of_ble_eq_true rfl)
def sX7_ask_k5_r (σ : gS) (t : Nat) (a : Int32) : Int32 := if sX7_checkIndex_t σ a (sX6_size_r σ t) = 0 then (sX6_tell_r σ t a.toNatClampNeg) else (0)
def sX7_ask_k5_t (σ : gS) (t : Nat) (a : Int32) : Nat := if sX7_checkIndex_t σ a (sX6_size_r σ t) = 0 then (0) else (sX7_checkIndex_t σ a (sX6_size_r σ t))
set_option maxRecDepth 100000 in
set_option maxHeartbeats 4000000 in
theorem kX7_ask_k5 (l : Launch) (hfl : l.stackTraces = false) (E : gT) (σ : gS) (t : Nat) (ht : gTw t) (a : Int32) : gYi l yX7_ask wsX7_ask ({ frames := 7, cells := 1, slots := 6, locals := 111 }) 1 6 E σ [.ref (E.2.2 t), .int a] (sX7_ask_k5_t σ t a) (sX7_ask_k5_r σ t a) σ := by
  refine g_vmet (mc := 1) (ms := 6) (nL := 2) (ret := (some .int)) (by decide) rfl (lv := [(0, .ref (E.2.2 t)), (1, .int a)]) rfl (Nat.le_of_ble_eq_true rfl) ?_
  intro p e s m below meth c S hr hlocks hout hC
  refine g_iload_n S 1 dX7_ask_0 rfl ?_
  refine g_aload_n S 0 dX7_ask_1 rfl ?_
  refine g_calli (g_runU S hC (As := []) (rest := [.int a]) (k := t) (ht.lt (j := 0) (by decide)) ht.town (by decide) rfl (kX6_size l E σ t ht) (va_cwA 0 S.2.2.2.2 gX7_ask_X6_size_u192X6 rfl rfl rfl hC.2.2.1.1.1 (by decide +kernel) ⟨Nat.le_of_ble_eq_true rfl, Nat.le_of_ble_eq_true rfl⟩) rfl rfl (Nat.le_of_ble_eq_true rfl) dX7_ask_2 ⟨Nat.le_of_ble_eq_true rfl, Nat.le_of_ble_eq_true rfl⟩) ?_
  refine g_callxv (g_xunS S hC (As := [.int a, .int (sX6_size_r σ t)]) (rest := []) (kX7_checkIndex l hfl E σ a (sX6_size_r σ t)) (va_cwS 2 S.2.2.2.2 gX7_ask_X7_checkIndex rfl rfl rfl (by decide +kernel) ⟨Nat.le_of_ble_eq_true rfl, Nat.le_of_ble_eq_true rfl⟩) rfl rfl (Nat.le_of_ble_eq_true rfl) dX7_ask_5 ⟨Nat.le_of_ble_eq_true rfl, Nat.le_of_ble_eq_true rfl⟩) (fun c_1 => g_out hlocks hout c_1 (by rw [sX7_ask_k5_t, if_neg c_1]) rfl (Nat.le_of_ble_eq_true rfl) (Nat.le_of_ble_eq_true rfl)) (fun c_1 => ?_)
  obtain ⟨hbb, hbe⟩ := ck_ix 9 rfl (by decide) c_1
  refine g_aload_n S 0 dX7_ask_8 rfl ?_
  refine g_iload_n S 1 dX7_ask_9 rfl ?_
  refine g_top (y := nI a.toNatClampNeg) hbe ?_
  refine g_calli (g_runU S hC (As := [.int (nI a.toNatClampNeg)]) (rest := []) (k := t) (ht.lt (j := 0) (by decide)) ht.town (by decide) rfl (kX6_tell l E σ t ht a.toNatClampNeg (by first | decide | omega)) (va_cwA 1 S.2.2.2.2 gX7_ask_X6_tell_u197X6 rfl rfl rfl hC.2.2.1.1.2.1 (by decide +kernel) ⟨Nat.le_of_ble_eq_true rfl, Nat.le_of_ble_eq_true rfl⟩) rfl rfl (Nat.le_of_ble_eq_true rfl) dX7_ask_10 ⟨Nat.le_of_ble_eq_true rfl, Nat.le_of_ble_eq_true rfl⟩) ?_
  exact g_xiret S hr hlocks dX7_ask_13 (by rw [sX7_ask_k5_t, if_pos c_1]) (by rw [sX7_ask_k5_r, if_pos c_1]) rfl (Nat.le_of_ble_eq_true rfl) (Nat.le_of_ble_eq_true rfl)
def sX7_bed_r (σ : gS) (a : Int32) (b : Int32) : Int32 := if sX7_checkNumber_t σ a (0 : Int32) (9 : Int32) = 0 then (if sX7_checkNumber_t σ b (1 : Int32) (99 : Int32) = 0 then (if (4 : Int32) ≤ σ.1 1 5 then (0) else (let S1 := sX0_lay_s σ (1 + 6 + (tB σ 1 5)) a b; S1.1 1 5)) else (0)) else (0)
def sX7_bed_s (σ : gS) (a : Int32) (b : Int32) : gS := if sX7_checkNumber_t σ a (0 : Int32) (9 : Int32) = 0 then (if sX7_checkNumber_t σ b (1 : Int32) (99 : Int32) = 0 then (if (4 : Int32) ≤ σ.1 1 5 then (σ) else (let S1 := sX0_lay_s σ (1 + 6 + (tB σ 1 5)) a b; let S2 := gu S1 1 5 ((S1.1 1 5) + (1 : Int32)); S2)) else (σ)) else (σ)
def sX7_bed_t (σ : gS) (a : Int32) (b : Int32) : Nat := if sX7_checkNumber_t σ a (0 : Int32) (9 : Int32) = 0 then (if sX7_checkNumber_t σ b (1 : Int32) (99 : Int32) = 0 then (if (4 : Int32) ≤ σ.1 1 5 then (2) else (0)) else (sX7_checkNumber_t σ b (1 : Int32) (99 : Int32))) else (sX7_checkNumber_t σ a (0 : Int32) (9 : Int32))
set_option maxRecDepth 100000 in
set_option maxHeartbeats 4000000 in
theorem kX7_bed (l : Launch) (hfl : l.stackTraces = false) (E : gT) (σ : gS) (a : Int32) (b : Int32) (hok : tOK σ 1) : gYi l yX7_bed wsX7_bed ({ frames := 7, cells := 3, slots := 18, locals := 112 }) 3 18 E σ [.ref (E.2.2 0), .int a, .int b] (sX7_bed_t σ a b) (sX7_bed_r σ a b) (sX7_bed_s σ a b) := by
  refine g_vmet (mc := 3) (ms := 18) (nL := 3) (ret := (some .int)) (by decide) rfl (lv := [(0, .ref (E.2.2 0)), (1, .int a), (2, .int b)]) rfl (Nat.le_of_ble_eq_true rfl) ?_
  intro p e s m below meth c S hr hlocks hout hC
  have hiX6 : ∀ w ∈ wsX60, w ∈ wsX7_bed := by decide +kernel
  have hiX7 : ∀ w ∈ wsX70, w ∈ wsX7_bed := by decide +kernel
  refine g_iload_n S 1 dX7_bed_0 rfl ?_
  refine g_const S dX7_bed_1 (v := 0) rfl ?_
  refine g_bipush S dX7_bed_2 (v := 9) rfl ?_
  refine g_callxv (g_xunS S hC (As := [.int a, .int (0 : Int32), .int (9 : Int32)]) (rest := []) (kX7_checkNumber l hfl E σ a (0 : Int32) (9 : Int32)) (va_cwS 3 S.2.2.2.2 gX7_bed_X7_checkNumber rfl rfl rfl (by decide +kernel) ⟨Nat.le_of_ble_eq_true rfl, Nat.le_of_ble_eq_true rfl⟩) rfl rfl (Nat.le_of_ble_eq_true rfl) dX7_bed_4 ⟨Nat.le_of_ble_eq_true rfl, Nat.le_of_ble_eq_true rfl⟩) (fun c_1 => g_out hlocks hout c_1 (by rw [sX7_bed_t, if_neg c_1]) (by rw [sX7_bed_s, if_neg c_1]) (Nat.le_of_ble_eq_true rfl) (Nat.le_of_ble_eq_true rfl)) (fun c_1 => ?_)
  refine g_iload_n S 2 dX7_bed_7 rfl ?_
  refine g_const S dX7_bed_8 (v := 1) rfl ?_
  refine g_bipush S dX7_bed_9 (v := 99) rfl ?_
  refine g_callxv (g_xunS S hC (As := [.int b, .int (1 : Int32), .int (99 : Int32)]) (rest := []) (kX7_checkNumber l hfl E σ b (1 : Int32) (99 : Int32)) (va_cwS 3 S.2.2.2.2 gX7_bed_X7_checkNumber rfl rfl rfl (by decide +kernel) ⟨Nat.le_of_ble_eq_true rfl, Nat.le_of_ble_eq_true rfl⟩) rfl rfl (Nat.le_of_ble_eq_true rfl) dX7_bed_11 ⟨Nat.le_of_ble_eq_true rfl, Nat.le_of_ble_eq_true rfl⟩) (fun c_2 => g_out hlocks hout c_2 (by rw [sX7_bed_t, if_pos c_1, if_neg c_2]) (by rw [sX7_bed_s, if_pos c_1, if_neg c_2]) (Nat.le_of_ble_eq_true rfl) (Nat.le_of_ble_eq_true rfl)) (fun c_2 => ?_)
  refine g_aload_n S 0 dX7_bed_14 rfl ?_
  refine gg6 S hC hiX7 (by decide +kernel) dX7_bed_15 ?_
  refine gg5 S hC hiX6 (by decide) rfl 5 (by decide) (by decide +kernel) dX7_bed_18 ?_
  refine g_const S dX7_bed_21 (v := 4) rfl ?_
  refine g_icmp_ge S 29 dX7_bed_22 (by decide) (fun c_3 => ?_) (fun c_3 => ?_)
  · skip
    refine g_const S dX7_bed_29 (v := 0) rfl ?_
    refine g_callxv (g_xunS S hC (As := [.int (0 : Int32)]) (rest := []) (kX7_checkState l hfl E σ (0 : Int32)) (va_cwS 1 S.2.2.2.2 gX7_bed_X7_checkState rfl rfl rfl (by decide +kernel) ⟨Nat.le_of_ble_eq_true rfl, Nat.le_of_ble_eq_true rfl⟩) rfl rfl (Nat.le_of_ble_eq_true rfl) dX7_bed_30 ⟨Nat.le_of_ble_eq_true rfl, Nat.le_of_ble_eq_true rfl⟩) (fun c_4 => g_out hlocks hout c_4 (by refine Eq.trans (by rw [sX7_bed_t, if_pos c_1, if_pos c_2, if_pos c_3]) ?_; unfold sX7_checkState_t; simp) (by rw [sX7_bed_s, if_pos c_1, if_pos c_2, if_pos c_3]) (Nat.le_of_ble_eq_true rfl) (Nat.le_of_ble_eq_true rfl)) (fun c_4 => absurd c_4 (by unfold sX7_checkState_t; simp))
  · skip
    refine g_const S dX7_bed_25 (v := 1) rfl ?_
    refine g_goto S 30 dX7_bed_26 (by decide) ?_
    refine g_callxv (g_xunS S hC (As := [.int (1 : Int32)]) (rest := []) (kX7_checkState l hfl E σ (1 : Int32)) (va_cwS 1 S.2.2.2.2 gX7_bed_X7_checkState rfl rfl rfl (by decide +kernel) ⟨Nat.le_of_ble_eq_true rfl, Nat.le_of_ble_eq_true rfl⟩) rfl rfl (Nat.le_of_ble_eq_true rfl) dX7_bed_30 ⟨Nat.le_of_ble_eq_true rfl, Nat.le_of_ble_eq_true rfl⟩) (fun c_5 => absurd (by unfold sX7_checkState_t; simp) c_5) (fun c_5 => ?_)
    have hle := hok.le5
    have hlt : tB σ 1 5 < 4 := cnt_lt 4 (by decide) (hok.eq 5 (by decide) (by decide)) (by omega) (by assumption)
    refine g_aload_n S 0 dX7_bed_33 rfl ?_
    refine gg6 S hC hiX7 (by decide +kernel) dX7_bed_34 ?_
    refine gg5r S hC hiX6 (by decide) rfl 0 (by decide) (by decide +kernel) dX7_bed_37 ?_
    refine g_aload_n S 0 dX7_bed_40 rfl ?_
    refine gg6 S hC hiX7 (by decide +kernel) dX7_bed_41 ?_
    refine gg5 S hC hiX6 (by decide) rfl 5 (by decide) (by decide +kernel) dX7_bed_44 ?_
    refine ga10 S hC (by decide) rfl (tB σ 1 5) (hok.eq 5 (by decide) (by decide)) (by first | assumption | omega) (1 + 6 + (tB σ 1 5)) (by omega) dX7_bed_47 ?_
    refine g_iload_n S 1 dX7_bed_48 rfl ?_
    refine g_iload_n S 2 dX7_bed_49 rfl ?_
    refine g_callv (g_runV S hC (As := [.int a, .int b]) (rest := []) (k := 1 + 6 + (tB σ 1 5)) (gT1.lt2 (a := 6) (by omega)) (gT1.bed (by omega)) (by decide) rfl (kX0_lay l E σ (1 + 6 + (tB σ 1 5)) (gT1.lt2 (a := 6) (by omega)) (gT1.bed (by omega)) a b) (cwV 2 S.2.2.2.2 gX7_bed_X0_lay rfl rfl rfl (by decide +kernel) ⟨Nat.le_of_ble_eq_true rfl, Nat.le_of_ble_eq_true rfl⟩) rfl rfl (Nat.le_of_ble_eq_true rfl) dX7_bed_50 ⟨Nat.le_of_ble_eq_true rfl, Nat.le_of_ble_eq_true rfl⟩) ?_
    refine g_nm (fun S1 hS1 => ?_)
    refine g_aload_n S 0 dX7_bed_53 rfl ?_
    refine gg6 S hC hiX7 (by decide +kernel) dX7_bed_54 ?_
    refine g_dup S dX7_bed_57 rfl ?_
    refine gg5 S hC hiX6 (by decide) rfl 5 (by decide) (by decide +kernel) dX7_bed_58 ?_
    refine g_dup_x1 S dX7_bed_61 rfl rfl ?_
    refine g_const S dX7_bed_62 (v := 1) rfl ?_
    refine g_iadd S dX7_bed_63 ?_
    refine gp5 S hC hiX6 (by decide) rfl 5 (by decide) (by decide +kernel) dX7_bed_64 ?_
    refine g_nm (fun S2 hS2 => ?_)
    exact g_xiret S hr hlocks dX7_bed_67 (by subst hS2 hS1; unfold sX7_bed_t; (try dsimp only); rw [if_pos c_1, if_pos c_2, if_neg c_3]) (by subst hS2 hS1; unfold sX7_bed_r; (try dsimp only); rw [if_pos c_1, if_pos c_2, if_neg c_3]) (by subst hS2 hS1; unfold sX7_bed_s; (try dsimp only); rw [if_pos c_1, if_pos c_2, if_neg c_3]) (Nat.le_of_ble_eq_true rfl) (Nat.le_of_ble_eq_true rfl)
def sX7_drum_r (σ : gS) (a : Int32) (b : Int32) : Int32 := if sX7_checkNumber_t σ a (1 : Int32) (40 : Int32) = 0 then (if sX7_checkNumber_t σ b (0 : Int32) (9 : Int32) = 0 then (if (4 : Int32) ≤ σ.1 1 6 then (0) else (let S1 := sX2_install_s σ (1 + 10 + (tB σ 1 6)) a b; S1.1 1 6)) else (0)) else (0)
def sX7_drum_s (σ : gS) (a : Int32) (b : Int32) : gS := if sX7_checkNumber_t σ a (1 : Int32) (40 : Int32) = 0 then (if sX7_checkNumber_t σ b (0 : Int32) (9 : Int32) = 0 then (if (4 : Int32) ≤ σ.1 1 6 then (σ) else (let S1 := sX2_install_s σ (1 + 10 + (tB σ 1 6)) a b; let S2 := gu S1 1 6 ((S1.1 1 6) + (1 : Int32)); S2)) else (σ)) else (σ)
def sX7_drum_t (σ : gS) (a : Int32) (b : Int32) : Nat := if sX7_checkNumber_t σ a (1 : Int32) (40 : Int32) = 0 then (if sX7_checkNumber_t σ b (0 : Int32) (9 : Int32) = 0 then (if (4 : Int32) ≤ σ.1 1 6 then (2) else (0)) else (sX7_checkNumber_t σ b (0 : Int32) (9 : Int32))) else (sX7_checkNumber_t σ a (1 : Int32) (40 : Int32))
set_option maxRecDepth 100000 in
set_option maxHeartbeats 4000000 in
theorem kX7_drum (l : Launch) (hfl : l.stackTraces = false) (E : gT) (σ : gS) (a : Int32) (b : Int32) (hok : tOK σ 1) : gYi l yX7_drum wsX7_drum ({ frames := 7, cells := 3, slots := 18, locals := 112 }) 3 18 E σ [.ref (E.2.2 0), .int a, .int b] (sX7_drum_t σ a b) (sX7_drum_r σ a b) (sX7_drum_s σ a b) := by
  refine g_vmet (mc := 3) (ms := 18) (nL := 3) (ret := (some .int)) (by decide) rfl (lv := [(0, .ref (E.2.2 0)), (1, .int a), (2, .int b)]) rfl (Nat.le_of_ble_eq_true rfl) ?_
  intro p e s m below meth c S hr hlocks hout hC
  have hiX6 : ∀ w ∈ wsX60, w ∈ wsX7_drum := by decide +kernel
  have hiX7 : ∀ w ∈ wsX70, w ∈ wsX7_drum := by decide +kernel
  refine g_iload_n S 1 dX7_drum_0 rfl ?_
  refine g_const S dX7_drum_1 (v := 1) rfl ?_
  refine g_bipush S dX7_drum_2 (v := 40) rfl ?_
  refine g_callxv (g_xunS S hC (As := [.int a, .int (1 : Int32), .int (40 : Int32)]) (rest := []) (kX7_checkNumber l hfl E σ a (1 : Int32) (40 : Int32)) (va_cwS 3 S.2.2.2.2 gX7_drum_X7_checkNumber rfl rfl rfl (by decide +kernel) ⟨Nat.le_of_ble_eq_true rfl, Nat.le_of_ble_eq_true rfl⟩) rfl rfl (Nat.le_of_ble_eq_true rfl) dX7_drum_4 ⟨Nat.le_of_ble_eq_true rfl, Nat.le_of_ble_eq_true rfl⟩) (fun c_1 => g_out hlocks hout c_1 (by rw [sX7_drum_t, if_neg c_1]) (by rw [sX7_drum_s, if_neg c_1]) (Nat.le_of_ble_eq_true rfl) (Nat.le_of_ble_eq_true rfl)) (fun c_1 => ?_)
  refine g_iload_n S 2 dX7_drum_7 rfl ?_
  refine g_const S dX7_drum_8 (v := 0) rfl ?_
  refine g_bipush S dX7_drum_9 (v := 9) rfl ?_
  refine g_callxv (g_xunS S hC (As := [.int b, .int (0 : Int32), .int (9 : Int32)]) (rest := []) (kX7_checkNumber l hfl E σ b (0 : Int32) (9 : Int32)) (va_cwS 3 S.2.2.2.2 gX7_drum_X7_checkNumber rfl rfl rfl (by decide +kernel) ⟨Nat.le_of_ble_eq_true rfl, Nat.le_of_ble_eq_true rfl⟩) rfl rfl (Nat.le_of_ble_eq_true rfl) dX7_drum_11 ⟨Nat.le_of_ble_eq_true rfl, Nat.le_of_ble_eq_true rfl⟩) (fun c_2 => g_out hlocks hout c_2 (by rw [sX7_drum_t, if_pos c_1, if_neg c_2]) (by rw [sX7_drum_s, if_pos c_1, if_neg c_2]) (Nat.le_of_ble_eq_true rfl) (Nat.le_of_ble_eq_true rfl)) (fun c_2 => ?_)
  refine g_aload_n S 0 dX7_drum_14 rfl ?_
  refine gg6 S hC hiX7 (by decide +kernel) dX7_drum_15 ?_
  refine gg5 S hC hiX6 (by decide) rfl 6 (by decide) (by decide +kernel) dX7_drum_18 ?_
  refine g_const S dX7_drum_21 (v := 4) rfl ?_
  refine g_icmp_ge S 29 dX7_drum_22 (by decide) (fun c_3 => ?_) (fun c_3 => ?_)
  · skip
    refine g_const S dX7_drum_29 (v := 0) rfl ?_
    refine g_callxv (g_xunS S hC (As := [.int (0 : Int32)]) (rest := []) (kX7_checkState l hfl E σ (0 : Int32)) (va_cwS 1 S.2.2.2.2 gX7_drum_X7_checkState rfl rfl rfl (by decide +kernel) ⟨Nat.le_of_ble_eq_true rfl, Nat.le_of_ble_eq_true rfl⟩) rfl rfl (Nat.le_of_ble_eq_true rfl) dX7_drum_30 ⟨Nat.le_of_ble_eq_true rfl, Nat.le_of_ble_eq_true rfl⟩) (fun c_4 => g_out hlocks hout c_4 (by refine Eq.trans (by rw [sX7_drum_t, if_pos c_1, if_pos c_2, if_pos c_3]) ?_; unfold sX7_checkState_t; simp) (by rw [sX7_drum_s, if_pos c_1, if_pos c_2, if_pos c_3]) (Nat.le_of_ble_eq_true rfl) (Nat.le_of_ble_eq_true rfl)) (fun c_4 => absurd c_4 (by unfold sX7_checkState_t; simp))
  · skip
    refine g_const S dX7_drum_25 (v := 1) rfl ?_
    refine g_goto S 30 dX7_drum_26 (by decide) ?_
    refine g_callxv (g_xunS S hC (As := [.int (1 : Int32)]) (rest := []) (kX7_checkState l hfl E σ (1 : Int32)) (va_cwS 1 S.2.2.2.2 gX7_drum_X7_checkState rfl rfl rfl (by decide +kernel) ⟨Nat.le_of_ble_eq_true rfl, Nat.le_of_ble_eq_true rfl⟩) rfl rfl (Nat.le_of_ble_eq_true rfl) dX7_drum_30 ⟨Nat.le_of_ble_eq_true rfl, Nat.le_of_ble_eq_true rfl⟩) (fun c_5 => absurd (by unfold sX7_checkState_t; simp) c_5) (fun c_5 => ?_)
    have hle := hok.le6
    have hlt : tB σ 1 6 < 4 := cnt_lt 4 (by decide) (hok.eq 6 (by decide) (by decide)) (by omega) (by assumption)
    refine g_aload_n S 0 dX7_drum_33 rfl ?_
    refine gg6 S hC hiX7 (by decide +kernel) dX7_drum_34 ?_
    refine gg5r S hC hiX6 (by decide) rfl 1 (by decide) (by decide +kernel) dX7_drum_37 ?_
    refine g_aload_n S 0 dX7_drum_40 rfl ?_
    refine gg6 S hC hiX7 (by decide +kernel) dX7_drum_41 ?_
    refine gg5 S hC hiX6 (by decide) rfl 6 (by decide) (by decide +kernel) dX7_drum_44 ?_
    refine ga11 S hC (by decide) rfl (tB σ 1 6) (hok.eq 6 (by decide) (by decide)) (by first | assumption | omega) (1 + 10 + (tB σ 1 6)) (by omega) dX7_drum_47 ?_
    refine g_iload_n S 1 dX7_drum_48 rfl ?_
    refine g_iload_n S 2 dX7_drum_49 rfl ?_
    refine g_callv (g_runV S hC (As := [.int a, .int b]) (rest := []) (k := 1 + 10 + (tB σ 1 6)) (gT1.lt2 (a := 10) (by omega)) (gT1.drum (by omega)) (by decide) rfl (kX2_install l E σ (1 + 10 + (tB σ 1 6)) (gT1.lt2 (a := 10) (by omega)) (gT1.drum (by omega)) a b) (cwV 2 S.2.2.2.2 gX7_drum_X2_install rfl rfl rfl (by decide +kernel) ⟨Nat.le_of_ble_eq_true rfl, Nat.le_of_ble_eq_true rfl⟩) rfl rfl (Nat.le_of_ble_eq_true rfl) dX7_drum_50 ⟨Nat.le_of_ble_eq_true rfl, Nat.le_of_ble_eq_true rfl⟩) ?_
    refine g_nm (fun S1 hS1 => ?_)
    refine g_aload_n S 0 dX7_drum_53 rfl ?_
    refine gg6 S hC hiX7 (by decide +kernel) dX7_drum_54 ?_
    refine g_dup S dX7_drum_57 rfl ?_
    refine gg5 S hC hiX6 (by decide) rfl 6 (by decide) (by decide +kernel) dX7_drum_58 ?_
    refine g_dup_x1 S dX7_drum_61 rfl rfl ?_
    refine g_const S dX7_drum_62 (v := 1) rfl ?_
    refine g_iadd S dX7_drum_63 ?_
    refine gp5 S hC hiX6 (by decide) rfl 6 (by decide) (by decide +kernel) dX7_drum_64 ?_
    refine g_nm (fun S2 hS2 => ?_)
    exact g_xiret S hr hlocks dX7_drum_67 (by subst hS2 hS1; unfold sX7_drum_t; (try dsimp only); rw [if_pos c_1, if_pos c_2, if_neg c_3]) (by subst hS2 hS1; unfold sX7_drum_r; (try dsimp only); rw [if_pos c_1, if_pos c_2, if_neg c_3]) (by subst hS2 hS1; unfold sX7_drum_s; (try dsimp only); rw [if_pos c_1, if_pos c_2, if_neg c_3]) (Nat.le_of_ble_eq_true rfl) (Nat.le_of_ble_eq_true rfl)
def sX7_smuggler_r (σ : gS) (a : Int32) (b : Int32) : Int32 := if sX7_checkNumber_t σ a (2 : Int32) (14 : Int32) = 0 then (if sX7_checkNumber_t σ b (1 : Int32) (30 : Int32) = 0 then (if (4 : Int32) ≤ σ.1 1 7 then (0) else (let S1 := sX3_hire_s σ (1 + 14 + (tB σ 1 7)) a b; S1.1 1 7)) else (0)) else (0)
def sX7_smuggler_s (σ : gS) (a : Int32) (b : Int32) : gS := if sX7_checkNumber_t σ a (2 : Int32) (14 : Int32) = 0 then (if sX7_checkNumber_t σ b (1 : Int32) (30 : Int32) = 0 then (if (4 : Int32) ≤ σ.1 1 7 then (σ) else (let S1 := sX3_hire_s σ (1 + 14 + (tB σ 1 7)) a b; let S2 := gu S1 1 7 ((S1.1 1 7) + (1 : Int32)); S2)) else (σ)) else (σ)
def sX7_smuggler_t (σ : gS) (a : Int32) (b : Int32) : Nat := if sX7_checkNumber_t σ a (2 : Int32) (14 : Int32) = 0 then (if sX7_checkNumber_t σ b (1 : Int32) (30 : Int32) = 0 then (if (4 : Int32) ≤ σ.1 1 7 then (2) else (0)) else (sX7_checkNumber_t σ b (1 : Int32) (30 : Int32))) else (sX7_checkNumber_t σ a (2 : Int32) (14 : Int32))
set_option maxRecDepth 100000 in
set_option maxHeartbeats 4000000 in
theorem kX7_smuggler (l : Launch) (hfl : l.stackTraces = false) (E : gT) (σ : gS) (a : Int32) (b : Int32) (hok : tOK σ 1) : gYi l yX7_smuggler wsX7_smuggler ({ frames := 7, cells := 3, slots := 18, locals := 112 }) 3 18 E σ [.ref (E.2.2 0), .int a, .int b] (sX7_smuggler_t σ a b) (sX7_smuggler_r σ a b) (sX7_smuggler_s σ a b) := by
  refine g_vmet (mc := 3) (ms := 18) (nL := 3) (ret := (some .int)) (by decide) rfl (lv := [(0, .ref (E.2.2 0)), (1, .int a), (2, .int b)]) rfl (Nat.le_of_ble_eq_true rfl) ?_
  intro p e s m below meth c S hr hlocks hout hC
  have hiX6 : ∀ w ∈ wsX60, w ∈ wsX7_smuggler := by decide +kernel
  have hiX7 : ∀ w ∈ wsX70, w ∈ wsX7_smuggler := by decide +kernel
  refine g_iload_n S 1 dX7_smuggler_0 rfl ?_
  refine g_const S dX7_smuggler_1 (v := 2) rfl ?_
  refine g_bipush S dX7_smuggler_2 (v := 14) rfl ?_
  refine g_callxv (g_xunS S hC (As := [.int a, .int (2 : Int32), .int (14 : Int32)]) (rest := []) (kX7_checkNumber l hfl E σ a (2 : Int32) (14 : Int32)) (va_cwS 3 S.2.2.2.2 gX7_smuggler_X7_checkNumber rfl rfl rfl (by decide +kernel) ⟨Nat.le_of_ble_eq_true rfl, Nat.le_of_ble_eq_true rfl⟩) rfl rfl (Nat.le_of_ble_eq_true rfl) dX7_smuggler_4 ⟨Nat.le_of_ble_eq_true rfl, Nat.le_of_ble_eq_true rfl⟩) (fun c_1 => g_out hlocks hout c_1 (by rw [sX7_smuggler_t, if_neg c_1]) (by rw [sX7_smuggler_s, if_neg c_1]) (Nat.le_of_ble_eq_true rfl) (Nat.le_of_ble_eq_true rfl)) (fun c_1 => ?_)
  refine g_iload_n S 2 dX7_smuggler_7 rfl ?_
  refine g_const S dX7_smuggler_8 (v := 1) rfl ?_
  refine g_bipush S dX7_smuggler_9 (v := 30) rfl ?_
  refine g_callxv (g_xunS S hC (As := [.int b, .int (1 : Int32), .int (30 : Int32)]) (rest := []) (kX7_checkNumber l hfl E σ b (1 : Int32) (30 : Int32)) (va_cwS 3 S.2.2.2.2 gX7_smuggler_X7_checkNumber rfl rfl rfl (by decide +kernel) ⟨Nat.le_of_ble_eq_true rfl, Nat.le_of_ble_eq_true rfl⟩) rfl rfl (Nat.le_of_ble_eq_true rfl) dX7_smuggler_11 ⟨Nat.le_of_ble_eq_true rfl, Nat.le_of_ble_eq_true rfl⟩) (fun c_2 => g_out hlocks hout c_2 (by rw [sX7_smuggler_t, if_pos c_1, if_neg c_2]) (by rw [sX7_smuggler_s, if_pos c_1, if_neg c_2]) (Nat.le_of_ble_eq_true rfl) (Nat.le_of_ble_eq_true rfl)) (fun c_2 => ?_)
  refine g_aload_n S 0 dX7_smuggler_14 rfl ?_
  refine gg6 S hC hiX7 (by decide +kernel) dX7_smuggler_15 ?_
  refine gg5 S hC hiX6 (by decide) rfl 7 (by decide) (by decide +kernel) dX7_smuggler_18 ?_
  refine g_const S dX7_smuggler_21 (v := 4) rfl ?_
  refine g_icmp_ge S 29 dX7_smuggler_22 (by decide) (fun c_3 => ?_) (fun c_3 => ?_)
  · skip
    refine g_const S dX7_smuggler_29 (v := 0) rfl ?_
    refine g_callxv (g_xunS S hC (As := [.int (0 : Int32)]) (rest := []) (kX7_checkState l hfl E σ (0 : Int32)) (va_cwS 1 S.2.2.2.2 gX7_smuggler_X7_checkState rfl rfl rfl (by decide +kernel) ⟨Nat.le_of_ble_eq_true rfl, Nat.le_of_ble_eq_true rfl⟩) rfl rfl (Nat.le_of_ble_eq_true rfl) dX7_smuggler_30 ⟨Nat.le_of_ble_eq_true rfl, Nat.le_of_ble_eq_true rfl⟩) (fun c_4 => g_out hlocks hout c_4 (by refine Eq.trans (by rw [sX7_smuggler_t, if_pos c_1, if_pos c_2, if_pos c_3]) ?_; unfold sX7_checkState_t; simp) (by rw [sX7_smuggler_s, if_pos c_1, if_pos c_2, if_pos c_3]) (Nat.le_of_ble_eq_true rfl) (Nat.le_of_ble_eq_true rfl)) (fun c_4 => absurd c_4 (by unfold sX7_checkState_t; simp))
  · skip
    refine g_const S dX7_smuggler_25 (v := 1) rfl ?_
    refine g_goto S 30 dX7_smuggler_26 (by decide) ?_
    refine g_callxv (g_xunS S hC (As := [.int (1 : Int32)]) (rest := []) (kX7_checkState l hfl E σ (1 : Int32)) (va_cwS 1 S.2.2.2.2 gX7_smuggler_X7_checkState rfl rfl rfl (by decide +kernel) ⟨Nat.le_of_ble_eq_true rfl, Nat.le_of_ble_eq_true rfl⟩) rfl rfl (Nat.le_of_ble_eq_true rfl) dX7_smuggler_30 ⟨Nat.le_of_ble_eq_true rfl, Nat.le_of_ble_eq_true rfl⟩) (fun c_5 => absurd (by unfold sX7_checkState_t; simp) c_5) (fun c_5 => ?_)
    have hle := hok.le7
    have hlt : tB σ 1 7 < 4 := cnt_lt 4 (by decide) (hok.eq 7 (by decide) (by decide)) (by omega) (by assumption)
    refine g_aload_n S 0 dX7_smuggler_33 rfl ?_
    refine gg6 S hC hiX7 (by decide +kernel) dX7_smuggler_34 ?_
    refine gg5r S hC hiX6 (by decide) rfl 2 (by decide) (by decide +kernel) dX7_smuggler_37 ?_
    refine g_aload_n S 0 dX7_smuggler_40 rfl ?_
    refine gg6 S hC hiX7 (by decide +kernel) dX7_smuggler_41 ?_
    refine gg5 S hC hiX6 (by decide) rfl 7 (by decide) (by decide +kernel) dX7_smuggler_44 ?_
    refine ga12 S hC (by decide) rfl (tB σ 1 7) (hok.eq 7 (by decide) (by decide)) (by first | assumption | omega) (1 + 14 + (tB σ 1 7)) (by omega) dX7_smuggler_47 ?_
    refine g_iload_n S 1 dX7_smuggler_48 rfl ?_
    refine g_iload_n S 2 dX7_smuggler_49 rfl ?_
    refine g_callv (g_runV S hC (As := [.int a, .int b]) (rest := []) (k := 1 + 14 + (tB σ 1 7)) (gT1.lt2 (a := 14) (by omega)) (gT1.smug (by omega)) (by decide) rfl (kX3_hire l E σ (1 + 14 + (tB σ 1 7)) (gT1.lt2 (a := 14) (by omega)) (gT1.smug (by omega)) a b) (cwV 2 S.2.2.2.2 gX7_smuggler_X3_hire rfl rfl rfl (by decide +kernel) ⟨Nat.le_of_ble_eq_true rfl, Nat.le_of_ble_eq_true rfl⟩) rfl rfl (Nat.le_of_ble_eq_true rfl) dX7_smuggler_50 ⟨Nat.le_of_ble_eq_true rfl, Nat.le_of_ble_eq_true rfl⟩) ?_
    refine g_nm (fun S1 hS1 => ?_)
    refine g_aload_n S 0 dX7_smuggler_53 rfl ?_
    refine gg6 S hC hiX7 (by decide +kernel) dX7_smuggler_54 ?_
    refine g_dup S dX7_smuggler_57 rfl ?_
    refine gg5 S hC hiX6 (by decide) rfl 7 (by decide) (by decide +kernel) dX7_smuggler_58 ?_
    refine g_dup_x1 S dX7_smuggler_61 rfl rfl ?_
    refine g_const S dX7_smuggler_62 (v := 1) rfl ?_
    refine g_iadd S dX7_smuggler_63 ?_
    refine gp5 S hC hiX6 (by decide) rfl 7 (by decide) (by decide +kernel) dX7_smuggler_64 ?_
    refine g_nm (fun S2 hS2 => ?_)
    exact g_xiret S hr hlocks dX7_smuggler_67 (by subst hS2 hS1; unfold sX7_smuggler_t; (try dsimp only); rw [if_pos c_1, if_pos c_2, if_neg c_3]) (by subst hS2 hS1; unfold sX7_smuggler_r; (try dsimp only); rw [if_pos c_1, if_pos c_2, if_neg c_3]) (by subst hS2 hS1; unfold sX7_smuggler_s; (try dsimp only); rw [if_pos c_1, if_pos c_2, if_neg c_3]) (Nat.le_of_ble_eq_true rfl) (Nat.le_of_ble_eq_true rfl)
def sX7_card_r (σ : gS) (a : Int32) (b : Int32) : Int32 := if sX7_checkNumber_t σ a (1 : Int32) (9 : Int32) = 0 then (if sX7_checkNumber_t σ b (0 : Int32) (10 : Int32) = 0 then (if (10 : Int32) ≤ σ.1 1 8 then (0) else (let S1 := sX1_issue_s σ (1 + 18 + (tB σ 1 8)) a b; S1.1 1 8)) else (0)) else (0)
def sX7_card_s (σ : gS) (a : Int32) (b : Int32) : gS := if sX7_checkNumber_t σ a (1 : Int32) (9 : Int32) = 0 then (if sX7_checkNumber_t σ b (0 : Int32) (10 : Int32) = 0 then (if (10 : Int32) ≤ σ.1 1 8 then (σ) else (let S1 := sX1_issue_s σ (1 + 18 + (tB σ 1 8)) a b; let S2 := gu S1 1 8 ((S1.1 1 8) + (1 : Int32)); S2)) else (σ)) else (σ)
def sX7_card_t (σ : gS) (a : Int32) (b : Int32) : Nat := if sX7_checkNumber_t σ a (1 : Int32) (9 : Int32) = 0 then (if sX7_checkNumber_t σ b (0 : Int32) (10 : Int32) = 0 then (if (10 : Int32) ≤ σ.1 1 8 then (2) else (0)) else (sX7_checkNumber_t σ b (0 : Int32) (10 : Int32))) else (sX7_checkNumber_t σ a (1 : Int32) (9 : Int32))
set_option maxRecDepth 100000 in
set_option maxHeartbeats 4000000 in
theorem kX7_card (l : Launch) (hfl : l.stackTraces = false) (E : gT) (σ : gS) (a : Int32) (b : Int32) (hok : tOK σ 1) : gYi l yX7_card wsX7_card ({ frames := 7, cells := 3, slots := 18, locals := 112 }) 3 18 E σ [.ref (E.2.2 0), .int a, .int b] (sX7_card_t σ a b) (sX7_card_r σ a b) (sX7_card_s σ a b) := by
  refine g_vmet (mc := 3) (ms := 18) (nL := 3) (ret := (some .int)) (by decide) rfl (lv := [(0, .ref (E.2.2 0)), (1, .int a), (2, .int b)]) rfl (Nat.le_of_ble_eq_true rfl) ?_
  intro p e s m below meth c S hr hlocks hout hC
  have hiX6 : ∀ w ∈ wsX60, w ∈ wsX7_card := by decide +kernel
  have hiX7 : ∀ w ∈ wsX70, w ∈ wsX7_card := by decide +kernel
  refine g_iload_n S 1 dX7_card_0 rfl ?_
  refine g_const S dX7_card_1 (v := 1) rfl ?_
  refine g_bipush S dX7_card_2 (v := 9) rfl ?_
  refine g_callxv (g_xunS S hC (As := [.int a, .int (1 : Int32), .int (9 : Int32)]) (rest := []) (kX7_checkNumber l hfl E σ a (1 : Int32) (9 : Int32)) (va_cwS 3 S.2.2.2.2 gX7_card_X7_checkNumber rfl rfl rfl (by decide +kernel) ⟨Nat.le_of_ble_eq_true rfl, Nat.le_of_ble_eq_true rfl⟩) rfl rfl (Nat.le_of_ble_eq_true rfl) dX7_card_4 ⟨Nat.le_of_ble_eq_true rfl, Nat.le_of_ble_eq_true rfl⟩) (fun c_1 => g_out hlocks hout c_1 (by rw [sX7_card_t, if_neg c_1]) (by rw [sX7_card_s, if_neg c_1]) (Nat.le_of_ble_eq_true rfl) (Nat.le_of_ble_eq_true rfl)) (fun c_1 => ?_)
  refine g_iload_n S 2 dX7_card_7 rfl ?_
  refine g_const S dX7_card_8 (v := 0) rfl ?_
  refine g_bipush S dX7_card_9 (v := 10) rfl ?_
  refine g_callxv (g_xunS S hC (As := [.int b, .int (0 : Int32), .int (10 : Int32)]) (rest := []) (kX7_checkNumber l hfl E σ b (0 : Int32) (10 : Int32)) (va_cwS 3 S.2.2.2.2 gX7_card_X7_checkNumber rfl rfl rfl (by decide +kernel) ⟨Nat.le_of_ble_eq_true rfl, Nat.le_of_ble_eq_true rfl⟩) rfl rfl (Nat.le_of_ble_eq_true rfl) dX7_card_11 ⟨Nat.le_of_ble_eq_true rfl, Nat.le_of_ble_eq_true rfl⟩) (fun c_2 => g_out hlocks hout c_2 (by rw [sX7_card_t, if_pos c_1, if_neg c_2]) (by rw [sX7_card_s, if_pos c_1, if_neg c_2]) (Nat.le_of_ble_eq_true rfl) (Nat.le_of_ble_eq_true rfl)) (fun c_2 => ?_)
  refine g_aload_n S 0 dX7_card_14 rfl ?_
  refine gg6 S hC hiX7 (by decide +kernel) dX7_card_15 ?_
  refine gg5 S hC hiX6 (by decide) rfl 8 (by decide) (by decide +kernel) dX7_card_18 ?_
  refine g_bipush S dX7_card_21 (v := 10) rfl ?_
  refine g_icmp_ge S 30 dX7_card_23 (by decide) (fun c_3 => ?_) (fun c_3 => ?_)
  · skip
    refine g_const S dX7_card_30 (v := 0) rfl ?_
    refine g_callxv (g_xunS S hC (As := [.int (0 : Int32)]) (rest := []) (kX7_checkState l hfl E σ (0 : Int32)) (va_cwS 1 S.2.2.2.2 gX7_card_X7_checkState rfl rfl rfl (by decide +kernel) ⟨Nat.le_of_ble_eq_true rfl, Nat.le_of_ble_eq_true rfl⟩) rfl rfl (Nat.le_of_ble_eq_true rfl) dX7_card_31 ⟨Nat.le_of_ble_eq_true rfl, Nat.le_of_ble_eq_true rfl⟩) (fun c_4 => g_out hlocks hout c_4 (by refine Eq.trans (by rw [sX7_card_t, if_pos c_1, if_pos c_2, if_pos c_3]) ?_; unfold sX7_checkState_t; simp) (by rw [sX7_card_s, if_pos c_1, if_pos c_2, if_pos c_3]) (Nat.le_of_ble_eq_true rfl) (Nat.le_of_ble_eq_true rfl)) (fun c_4 => absurd c_4 (by unfold sX7_checkState_t; simp))
  · skip
    refine g_const S dX7_card_26 (v := 1) rfl ?_
    refine g_goto S 31 dX7_card_27 (by decide) ?_
    refine g_callxv (g_xunS S hC (As := [.int (1 : Int32)]) (rest := []) (kX7_checkState l hfl E σ (1 : Int32)) (va_cwS 1 S.2.2.2.2 gX7_card_X7_checkState rfl rfl rfl (by decide +kernel) ⟨Nat.le_of_ble_eq_true rfl, Nat.le_of_ble_eq_true rfl⟩) rfl rfl (Nat.le_of_ble_eq_true rfl) dX7_card_31 ⟨Nat.le_of_ble_eq_true rfl, Nat.le_of_ble_eq_true rfl⟩) (fun c_5 => absurd (by unfold sX7_checkState_t; simp) c_5) (fun c_5 => ?_)
    have hle := hok.le8
    have hlt : tB σ 1 8 < 10 := cnt_lt 10 (by decide) (hok.eq 8 (by decide) (by decide)) (by omega) (by assumption)
    refine g_aload_n S 0 dX7_card_34 rfl ?_
    refine gg6 S hC hiX7 (by decide +kernel) dX7_card_35 ?_
    refine gg5r S hC hiX6 (by decide) rfl 3 (by decide) (by decide +kernel) dX7_card_38 ?_
    refine g_aload_n S 0 dX7_card_41 rfl ?_
    refine gg6 S hC hiX7 (by decide +kernel) dX7_card_42 ?_
    refine gg5 S hC hiX6 (by decide) rfl 8 (by decide) (by decide +kernel) dX7_card_45 ?_
    refine ga13 S hC (by decide) rfl (tB σ 1 8) (hok.eq 8 (by decide) (by decide)) (by first | assumption | omega) (1 + 18 + (tB σ 1 8)) (by omega) dX7_card_48 ?_
    refine g_iload_n S 1 dX7_card_49 rfl ?_
    refine g_iload_n S 2 dX7_card_50 rfl ?_
    refine g_callv (g_runV S hC (As := [.int a, .int b]) (rest := []) (k := 1 + 18 + (tB σ 1 8)) (gT1.lt2 (a := 18) (by omega)) (gT1.card (by omega)) (by decide) rfl (kX1_issue l E σ (1 + 18 + (tB σ 1 8)) (gT1.lt2 (a := 18) (by omega)) (gT1.card (by omega)) a b) (cwV 2 S.2.2.2.2 gX7_card_X1_issue rfl rfl rfl (by decide +kernel) ⟨Nat.le_of_ble_eq_true rfl, Nat.le_of_ble_eq_true rfl⟩) rfl rfl (Nat.le_of_ble_eq_true rfl) dX7_card_51 ⟨Nat.le_of_ble_eq_true rfl, Nat.le_of_ble_eq_true rfl⟩) ?_
    refine g_nm (fun S1 hS1 => ?_)
    refine g_aload_n S 0 dX7_card_54 rfl ?_
    refine gg6 S hC hiX7 (by decide +kernel) dX7_card_55 ?_
    refine g_dup S dX7_card_58 rfl ?_
    refine gg5 S hC hiX6 (by decide) rfl 8 (by decide) (by decide +kernel) dX7_card_59 ?_
    refine g_dup_x1 S dX7_card_62 rfl rfl ?_
    refine g_const S dX7_card_63 (v := 1) rfl ?_
    refine g_iadd S dX7_card_64 ?_
    refine gp5 S hC hiX6 (by decide) rfl 8 (by decide) (by decide +kernel) dX7_card_65 ?_
    refine g_nm (fun S2 hS2 => ?_)
    exact g_xiret S hr hlocks dX7_card_68 (by subst hS2 hS1; unfold sX7_card_t; (try dsimp only); rw [if_pos c_1, if_pos c_2, if_neg c_3]) (by subst hS2 hS1; unfold sX7_card_r; (try dsimp only); rw [if_pos c_1, if_pos c_2, if_neg c_3]) (by subst hS2 hS1; unfold sX7_card_s; (try dsimp only); rw [if_pos c_1, if_pos c_2, if_neg c_3]) (Nat.le_of_ble_eq_true rfl) (Nat.le_of_ble_eq_true rfl)
def sX7_setPatrol_r (σ : gS) (a : Int32) : Int32 := if sX7_checkNumber_t σ a (0 : Int32) (127 : Int32) = 0 then (σ.1 1 10) else (0)
def sX7_setPatrol_s (σ : gS) (a : Int32) : gS := if sX7_checkNumber_t σ a (0 : Int32) (127 : Int32) = 0 then (let S1 := gu σ 1 10 a; S1) else (σ)
def sX7_setPatrol_t (σ : gS) (a : Int32) : Nat := if sX7_checkNumber_t σ a (0 : Int32) (127 : Int32) = 0 then (0) else (sX7_checkNumber_t σ a (0 : Int32) (127 : Int32))
set_option maxRecDepth 100000 in
set_option maxHeartbeats 4000000 in
theorem kX7_setPatrol (l : Launch) (hfl : l.stackTraces = false) (E : gT) (σ : gS) (a : Int32) : gYi l yX7_setPatrol wsX7_setPatrol ({ frames := 7, cells := 1, slots := 6, locals := 112 }) 1 6 E σ [.ref (E.2.2 0), .int a] (sX7_setPatrol_t σ a) (sX7_setPatrol_r σ a) (sX7_setPatrol_s σ a) := by
  refine g_vmet (mc := 1) (ms := 6) (nL := 3) (ret := (some .int)) (by decide) rfl (lv := [(0, .ref (E.2.2 0)), (1, .int a)]) rfl (Nat.le_of_ble_eq_true rfl) ?_
  intro p e s m below meth c S hr hlocks hout hC
  have hiX6 : ∀ w ∈ wsX60, w ∈ wsX7_setPatrol := by decide +kernel
  have hiX7 : ∀ w ∈ wsX70, w ∈ wsX7_setPatrol := by decide +kernel
  refine g_iload_n S 1 dX7_setPatrol_0 rfl ?_
  refine g_const S dX7_setPatrol_1 (v := 0) rfl ?_
  refine g_bipush S dX7_setPatrol_2 (v := 127) rfl ?_
  refine g_callxv (g_xunS S hC (As := [.int a, .int (0 : Int32), .int (127 : Int32)]) (rest := []) (kX7_checkNumber l hfl E σ a (0 : Int32) (127 : Int32)) (va_cwS 3 S.2.2.2.2 gX7_setPatrol_X7_checkNumber rfl rfl rfl (by decide +kernel) ⟨Nat.le_of_ble_eq_true rfl, Nat.le_of_ble_eq_true rfl⟩) rfl rfl (Nat.le_of_ble_eq_true rfl) dX7_setPatrol_4 ⟨Nat.le_of_ble_eq_true rfl, Nat.le_of_ble_eq_true rfl⟩) (fun c_1 => g_out hlocks hout c_1 (by rw [sX7_setPatrol_t, if_neg c_1]) (by rw [sX7_setPatrol_s, if_neg c_1]) (Nat.le_of_ble_eq_true rfl) (Nat.le_of_ble_eq_true rfl)) (fun c_1 => ?_)
  refine g_aload_n S 0 dX7_setPatrol_7 rfl ?_
  refine gg6 S hC hiX7 (by decide +kernel) dX7_setPatrol_8 ?_
  refine gg5 S hC hiX6 (by decide) rfl 10 (by decide) (by decide +kernel) dX7_setPatrol_11 ?_
  refine g_istore_n S [(2, .int (σ.1 1 10)), (0, .ref (E.2.2 0)), (1, .int a)] dX7_setPatrol_14 (by decide) rfl ?_
  refine g_aload_n S 1 dX7_setPatrol_15 rfl ?_
  refine gg6 S hC hiX7 (by decide +kernel) dX7_setPatrol_16 ?_
  refine g_iload_n S 2 dX7_setPatrol_19 rfl ?_
  refine gp5 S hC hiX6 (by decide) rfl 10 (by decide) (by decide +kernel) dX7_setPatrol_20 ?_
  refine g_nm (fun S1 hS1 => ?_)
  refine g_iload_n S 0 dX7_setPatrol_23 rfl ?_
  exact g_xiret S hr hlocks dX7_setPatrol_24 (by subst hS1; unfold sX7_setPatrol_t; (try dsimp only); rw [if_pos c_1]) (by subst hS1; unfold sX7_setPatrol_r; (try dsimp only); rw [if_pos c_1]) (by subst hS1; unfold sX7_setPatrol_s; (try dsimp only); rw [if_pos c_1]) (Nat.le_of_ble_eq_true rfl) (Nat.le_of_ble_eq_true rfl)
def sX7_setShare_r (σ : gS) (a : Int32) : Int32 := if sX7_checkNumber_t σ a (0 : Int32) (10 : Int32) = 0 then (σ.1 6 4) else (0)
def sX7_setShare_s (σ : gS) (a : Int32) : gS := if sX7_checkNumber_t σ a (0 : Int32) (10 : Int32) = 0 then (let S1 := gu σ 6 4 a; S1) else (σ)
def sX7_setShare_t (σ : gS) (a : Int32) : Nat := if sX7_checkNumber_t σ a (0 : Int32) (10 : Int32) = 0 then (0) else (sX7_checkNumber_t σ a (0 : Int32) (10 : Int32))
set_option maxRecDepth 100000 in
set_option maxHeartbeats 4000000 in
theorem kX7_setShare (l : Launch) (hfl : l.stackTraces = false) (E : gT) (σ : gS) (a : Int32) : gYi l yX7_setShare wsX7_setShare ({ frames := 7, cells := 1, slots := 6, locals := 112 }) 1 6 E σ [.ref (E.2.2 0), .int a] (sX7_setShare_t σ a) (sX7_setShare_r σ a) (sX7_setShare_s σ a) := by
  refine g_vmet (mc := 1) (ms := 6) (nL := 3) (ret := (some .int)) (by decide) rfl (lv := [(0, .ref (E.2.2 0)), (1, .int a)]) rfl (Nat.le_of_ble_eq_true rfl) ?_
  intro p e s m below meth c S hr hlocks hout hC
  have hiX4 : ∀ w ∈ wsX40, w ∈ wsX7_setShare := by decide +kernel
  have hiX6 : ∀ w ∈ wsX60, w ∈ wsX7_setShare := by decide +kernel
  have hiX7 : ∀ w ∈ wsX70, w ∈ wsX7_setShare := by decide +kernel
  refine g_iload_n S 1 dX7_setShare_0 rfl ?_
  refine g_const S dX7_setShare_1 (v := 0) rfl ?_
  refine g_bipush S dX7_setShare_2 (v := 10) rfl ?_
  refine g_callxv (g_xunS S hC (As := [.int a, .int (0 : Int32), .int (10 : Int32)]) (rest := []) (kX7_checkNumber l hfl E σ a (0 : Int32) (10 : Int32)) (va_cwS 3 S.2.2.2.2 gX7_setShare_X7_checkNumber rfl rfl rfl (by decide +kernel) ⟨Nat.le_of_ble_eq_true rfl, Nat.le_of_ble_eq_true rfl⟩) rfl rfl (Nat.le_of_ble_eq_true rfl) dX7_setShare_4 ⟨Nat.le_of_ble_eq_true rfl, Nat.le_of_ble_eq_true rfl⟩) (fun c_1 => g_out hlocks hout c_1 (by rw [sX7_setShare_t, if_neg c_1]) (by rw [sX7_setShare_s, if_neg c_1]) (Nat.le_of_ble_eq_true rfl) (Nat.le_of_ble_eq_true rfl)) (fun c_1 => ?_)
  refine g_aload_n S 0 dX7_setShare_7 rfl ?_
  refine gg6 S hC hiX7 (by decide +kernel) dX7_setShare_8 ?_
  refine gg5r S hC hiX6 (by decide) rfl 4 (by decide) (by decide +kernel) dX7_setShare_11 ?_
  refine gg4 S hC hiX4 (by decide) rfl 4 (by decide) (by decide +kernel) dX7_setShare_14 ?_
  refine g_istore_n S [(2, .int (σ.1 6 4)), (0, .ref (E.2.2 0)), (1, .int a)] dX7_setShare_17 (by decide) rfl ?_
  refine g_aload_n S 1 dX7_setShare_18 rfl ?_
  refine gg6 S hC hiX7 (by decide +kernel) dX7_setShare_19 ?_
  refine gg5r S hC hiX6 (by decide) rfl 4 (by decide) (by decide +kernel) dX7_setShare_22 ?_
  refine g_iload_n S 2 dX7_setShare_25 rfl ?_
  refine gp4 S hC hiX4 (by decide) rfl 4 (by decide) (by decide +kernel) dX7_setShare_26 ?_
  refine g_nm (fun S1 hS1 => ?_)
  refine g_iload_n S 0 dX7_setShare_29 rfl ?_
  exact g_xiret S hr hlocks dX7_setShare_30 (by subst hS1; unfold sX7_setShare_t; (try dsimp only); rw [if_pos c_1]) (by subst hS1; unfold sX7_setShare_r; (try dsimp only); rw [if_pos c_1]) (by subst hS1; unfold sX7_setShare_s; (try dsimp only); rw [if_pos c_1]) (Nat.le_of_ble_eq_true rfl) (Nat.le_of_ble_eq_true rfl)
def sX7_setHeat_r (σ : gS) (a : Int32) (b : Int32) : Int32 := if sX7_checkIndex_t σ a (σ.1 1 6) = 0 then (if sX7_checkNumber_t σ b (0 : Int32) (9 : Int32) = 0 then (σ.1 (1 + 10 + (a.toNatClampNeg)) 1) else (0)) else (0)
def sX7_setHeat_s (σ : gS) (a : Int32) (b : Int32) : gS := if sX7_checkIndex_t σ a (σ.1 1 6) = 0 then (if sX7_checkNumber_t σ b (0 : Int32) (9 : Int32) = 0 then (let S1 := gu σ (1 + 10 + (a.toNatClampNeg)) 1 b; S1) else (σ)) else (σ)
def sX7_setHeat_t (σ : gS) (a : Int32) (b : Int32) : Nat := if sX7_checkIndex_t σ a (σ.1 1 6) = 0 then (if sX7_checkNumber_t σ b (0 : Int32) (9 : Int32) = 0 then (0) else (sX7_checkNumber_t σ b (0 : Int32) (9 : Int32))) else (sX7_checkIndex_t σ a (σ.1 1 6))
set_option maxRecDepth 100000 in
set_option maxHeartbeats 4000000 in
theorem kX7_setHeat (l : Launch) (hfl : l.stackTraces = false) (E : gT) (σ : gS) (a : Int32) (b : Int32) (hok : tOK σ 1) : gYi l yX7_setHeat wsX7_setHeat ({ frames := 7, cells := 2, slots := 12, locals := 112 }) 2 12 E σ [.ref (E.2.2 0), .int a, .int b] (sX7_setHeat_t σ a b) (sX7_setHeat_r σ a b) (sX7_setHeat_s σ a b) := by
  refine g_vmet (mc := 2) (ms := 12) (nL := 4) (ret := (some .int)) (by decide) rfl (lv := [(0, .ref (E.2.2 0)), (1, .int a), (2, .int b)]) rfl (Nat.le_of_ble_eq_true rfl) ?_
  intro p e s m below meth c S hr hlocks hout hC
  have hiX2 : ∀ w ∈ wsX20, w ∈ wsX7_setHeat := by decide +kernel
  have hiX6 : ∀ w ∈ wsX60, w ∈ wsX7_setHeat := by decide +kernel
  have hiX7 : ∀ w ∈ wsX70, w ∈ wsX7_setHeat := by decide +kernel
  refine g_iload_n S 1 dX7_setHeat_0 rfl ?_
  refine g_aload_n S 0 dX7_setHeat_1 rfl ?_
  refine gg6 S hC hiX7 (by decide +kernel) dX7_setHeat_2 ?_
  refine gg5 S hC hiX6 (by decide) rfl 6 (by decide) (by decide +kernel) dX7_setHeat_5 ?_
  refine g_callxv (g_xunS S hC (As := [.int a, .int (σ.1 1 6)]) (rest := []) (kX7_checkIndex l hfl E σ a (σ.1 1 6)) (va_cwS 2 S.2.2.2.2 gX7_setHeat_X7_checkIndex rfl rfl rfl (by decide +kernel) ⟨Nat.le_of_ble_eq_true rfl, Nat.le_of_ble_eq_true rfl⟩) rfl rfl (Nat.le_of_ble_eq_true rfl) dX7_setHeat_8 ⟨Nat.le_of_ble_eq_true rfl, Nat.le_of_ble_eq_true rfl⟩) (fun c_1 => g_out hlocks hout c_1 (by rw [sX7_setHeat_t, if_neg c_1]) (by rw [sX7_setHeat_s, if_neg c_1]) (Nat.le_of_ble_eq_true rfl) (Nat.le_of_ble_eq_true rfl)) (fun c_1 => ?_)
  have hle := hok.le6
  obtain ⟨hbb, hbe⟩ := ck_ix (tB σ 1 6) (hok.eq 6 (by decide) (by decide)) (by omega) c_1
  have hbl : a.toNatClampNeg < 4 := by omega
  refine g_iload_n S 2 dX7_setHeat_11 rfl ?_
  refine g_const S dX7_setHeat_12 (v := 0) rfl ?_
  refine g_bipush S dX7_setHeat_13 (v := 9) rfl ?_
  refine g_callxv (g_xunS S hC (As := [.int b, .int (0 : Int32), .int (9 : Int32)]) (rest := []) (kX7_checkNumber l hfl E σ b (0 : Int32) (9 : Int32)) (va_cwS 3 S.2.2.2.2 gX7_setHeat_X7_checkNumber rfl rfl rfl (by decide +kernel) ⟨Nat.le_of_ble_eq_true rfl, Nat.le_of_ble_eq_true rfl⟩) rfl rfl (Nat.le_of_ble_eq_true rfl) dX7_setHeat_15 ⟨Nat.le_of_ble_eq_true rfl, Nat.le_of_ble_eq_true rfl⟩) (fun c_2 => g_out hlocks hout c_2 (by rw [sX7_setHeat_t, if_pos c_1, if_neg c_2]) (by rw [sX7_setHeat_s, if_pos c_1, if_neg c_2]) (Nat.le_of_ble_eq_true rfl) (Nat.le_of_ble_eq_true rfl)) (fun c_2 => ?_)
  refine g_aload_n S 0 dX7_setHeat_18 rfl ?_
  refine gg6 S hC hiX7 (by decide +kernel) dX7_setHeat_19 ?_
  refine gg5r S hC hiX6 (by decide) rfl 1 (by decide) (by decide +kernel) dX7_setHeat_22 ?_
  refine g_iload_n S 1 dX7_setHeat_25 rfl ?_
  refine ga11 S hC (by decide) rfl a.toNatClampNeg hbe (by first | assumption | omega) (1 + 10 + (a.toNatClampNeg)) (by omega) dX7_setHeat_26 ?_
  refine gg2 S hC hiX2 (gT1.lt2 (a := 10) (by omega)) (gT1.drum (by omega)) 1 (by decide) (by decide +kernel) dX7_setHeat_27 ?_
  refine g_istore_n S [(3, .int (σ.1 (1 + 10 + (a.toNatClampNeg)) 1)), (0, .ref (E.2.2 0)), (1, .int a), (2, .int b)] dX7_setHeat_30 (by decide) rfl ?_
  refine g_aload_n S 1 dX7_setHeat_31 rfl ?_
  refine gg6 S hC hiX7 (by decide +kernel) dX7_setHeat_32 ?_
  refine gg5r S hC hiX6 (by decide) rfl 1 (by decide) (by decide +kernel) dX7_setHeat_35 ?_
  refine g_iload_n S 2 dX7_setHeat_38 rfl ?_
  refine ga11 S hC (by decide) rfl a.toNatClampNeg hbe (by first | assumption | omega) (1 + 10 + (a.toNatClampNeg)) (by omega) dX7_setHeat_39 ?_
  refine g_iload_n S 3 dX7_setHeat_40 rfl ?_
  refine gp2 S hC hiX2 (gT1.lt2 (a := 10) (by omega)) (gT1.drum (by omega)) 1 (by decide) (by decide +kernel) dX7_setHeat_41 ?_
  refine g_nm (fun S1 hS1 => ?_)
  refine g_iload_n S 0 dX7_setHeat_44 rfl ?_
  exact g_xiret S hr hlocks dX7_setHeat_45 (by subst hS1; unfold sX7_setHeat_t; (try dsimp only); rw [if_pos c_1, if_pos c_2]) (by subst hS1; unfold sX7_setHeat_r; (try dsimp only); rw [if_pos c_1, if_pos c_2]) (by subst hS1; unfold sX7_setHeat_s; (try dsimp only); rw [if_pos c_1, if_pos c_2]) (Nat.le_of_ble_eq_true rfl) (Nat.le_of_ble_eq_true rfl)
def sX7_dig_r (σ : gS) (a : Int32) (b : Int32) : Int32 := if sX7_checkIndex_t σ a (σ.1 1 5) = 0 then (if sX7_checkNumber_t σ b (1 : Int32) (99 : Int32) = 0 then (if σ.1 (1 + 6 + (a.toNatClampNeg)) 2 < b then (0) else (let S1 := gu σ (1 + 6 + (a.toNatClampNeg)) 2 ((σ.1 (1 + 6 + (a.toNatClampNeg)) 2) - b); let S2 := sX4_add_s S1 6 (0 : Int32) b; S2.1 (1 + 6 + (a.toNatClampNeg)) 2)) else (0)) else (0)
def sX7_dig_s (σ : gS) (a : Int32) (b : Int32) : gS := if sX7_checkIndex_t σ a (σ.1 1 5) = 0 then (if sX7_checkNumber_t σ b (1 : Int32) (99 : Int32) = 0 then (if σ.1 (1 + 6 + (a.toNatClampNeg)) 2 < b then (σ) else (let S1 := gu σ (1 + 6 + (a.toNatClampNeg)) 2 ((σ.1 (1 + 6 + (a.toNatClampNeg)) 2) - b); let S2 := sX4_add_s S1 6 (0 : Int32) b; S2)) else (σ)) else (σ)
def sX7_dig_t (σ : gS) (a : Int32) (b : Int32) : Nat := if sX7_checkIndex_t σ a (σ.1 1 5) = 0 then (if sX7_checkNumber_t σ b (1 : Int32) (99 : Int32) = 0 then (if σ.1 (1 + 6 + (a.toNatClampNeg)) 2 < b then (2) else (0)) else (sX7_checkNumber_t σ b (1 : Int32) (99 : Int32))) else (sX7_checkIndex_t σ a (σ.1 1 5))
set_option maxRecDepth 100000 in
set_option maxHeartbeats 4000000 in
theorem kX7_dig (l : Launch) (hfl : l.stackTraces = false) (E : gT) (σ : gS) (a : Int32) (b : Int32) (hok : tOK σ 1) : gYi l yX7_dig wsX7_dig ({ frames := 7, cells := 3, slots := 18, locals := 112 }) 3 18 E σ [.ref (E.2.2 0), .int a, .int b] (sX7_dig_t σ a b) (sX7_dig_r σ a b) (sX7_dig_s σ a b) := by
  refine g_vmet (mc := 3) (ms := 18) (nL := 3) (ret := (some .int)) (by decide) rfl (lv := [(0, .ref (E.2.2 0)), (1, .int a), (2, .int b)]) rfl (Nat.le_of_ble_eq_true rfl) ?_
  intro p e s m below meth c S hr hlocks hout hC
  have hiX0 : ∀ w ∈ wsX00, w ∈ wsX7_dig := by decide +kernel
  have hiX6 : ∀ w ∈ wsX60, w ∈ wsX7_dig := by decide +kernel
  have hiX7 : ∀ w ∈ wsX70, w ∈ wsX7_dig := by decide +kernel
  refine g_iload_n S 1 dX7_dig_0 rfl ?_
  refine g_aload_n S 0 dX7_dig_1 rfl ?_
  refine gg6 S hC hiX7 (by decide +kernel) dX7_dig_2 ?_
  refine gg5 S hC hiX6 (by decide) rfl 5 (by decide) (by decide +kernel) dX7_dig_5 ?_
  refine g_callxv (g_xunS S hC (As := [.int a, .int (σ.1 1 5)]) (rest := []) (kX7_checkIndex l hfl E σ a (σ.1 1 5)) (va_cwS 2 S.2.2.2.2 gX7_dig_X7_checkIndex rfl rfl rfl (by decide +kernel) ⟨Nat.le_of_ble_eq_true rfl, Nat.le_of_ble_eq_true rfl⟩) rfl rfl (Nat.le_of_ble_eq_true rfl) dX7_dig_8 ⟨Nat.le_of_ble_eq_true rfl, Nat.le_of_ble_eq_true rfl⟩) (fun c_1 => g_out hlocks hout c_1 (by rw [sX7_dig_t, if_neg c_1]) (by rw [sX7_dig_s, if_neg c_1]) (Nat.le_of_ble_eq_true rfl) (Nat.le_of_ble_eq_true rfl)) (fun c_1 => ?_)
  have hle := hok.le5
  obtain ⟨hbb, hbe⟩ := ck_ix (tB σ 1 5) (hok.eq 5 (by decide) (by decide)) (by omega) c_1
  have hbl : a.toNatClampNeg < 4 := by omega
  refine g_iload_n S 2 dX7_dig_11 rfl ?_
  refine g_const S dX7_dig_12 (v := 1) rfl ?_
  refine g_bipush S dX7_dig_13 (v := 99) rfl ?_
  refine g_callxv (g_xunS S hC (As := [.int b, .int (1 : Int32), .int (99 : Int32)]) (rest := []) (kX7_checkNumber l hfl E σ b (1 : Int32) (99 : Int32)) (va_cwS 3 S.2.2.2.2 gX7_dig_X7_checkNumber rfl rfl rfl (by decide +kernel) ⟨Nat.le_of_ble_eq_true rfl, Nat.le_of_ble_eq_true rfl⟩) rfl rfl (Nat.le_of_ble_eq_true rfl) dX7_dig_15 ⟨Nat.le_of_ble_eq_true rfl, Nat.le_of_ble_eq_true rfl⟩) (fun c_2 => g_out hlocks hout c_2 (by rw [sX7_dig_t, if_pos c_1, if_neg c_2]) (by rw [sX7_dig_s, if_pos c_1, if_neg c_2]) (Nat.le_of_ble_eq_true rfl) (Nat.le_of_ble_eq_true rfl)) (fun c_2 => ?_)
  refine g_aload_n S 0 dX7_dig_18 rfl ?_
  refine gg6 S hC hiX7 (by decide +kernel) dX7_dig_19 ?_
  refine gg5r S hC hiX6 (by decide) rfl 0 (by decide) (by decide +kernel) dX7_dig_22 ?_
  refine g_iload_n S 1 dX7_dig_25 rfl ?_
  refine ga10 S hC (by decide) rfl a.toNatClampNeg hbe (by first | assumption | omega) (1 + 6 + (a.toNatClampNeg)) (by omega) dX7_dig_26 ?_
  refine gg0 S hC hiX0 (gT1.lt2 (a := 6) (by omega)) (gT1.bed (by omega)) 2 (by decide) (by decide +kernel) dX7_dig_27 ?_
  refine g_iload_n S 2 dX7_dig_30 rfl ?_
  refine g_icmp_lt S 38 dX7_dig_31 (by decide) (fun c_3 => ?_) (fun c_3 => ?_)
  · skip
    refine g_const S dX7_dig_38 (v := 0) rfl ?_
    refine g_callxv (g_xunS S hC (As := [.int (0 : Int32)]) (rest := []) (kX7_checkState l hfl E σ (0 : Int32)) (va_cwS 1 S.2.2.2.2 gX7_dig_X7_checkState rfl rfl rfl (by decide +kernel) ⟨Nat.le_of_ble_eq_true rfl, Nat.le_of_ble_eq_true rfl⟩) rfl rfl (Nat.le_of_ble_eq_true rfl) dX7_dig_39 ⟨Nat.le_of_ble_eq_true rfl, Nat.le_of_ble_eq_true rfl⟩) (fun c_4 => g_out hlocks hout c_4 (by refine Eq.trans (by rw [sX7_dig_t, if_pos c_1, if_pos c_2, if_pos c_3]) ?_; unfold sX7_checkState_t; simp) (by rw [sX7_dig_s, if_pos c_1, if_pos c_2, if_pos c_3]) (Nat.le_of_ble_eq_true rfl) (Nat.le_of_ble_eq_true rfl)) (fun c_4 => absurd c_4 (by unfold sX7_checkState_t; simp))
  · skip
    refine g_const S dX7_dig_34 (v := 1) rfl ?_
    refine g_goto S 39 dX7_dig_35 (by decide) ?_
    refine g_callxv (g_xunS S hC (As := [.int (1 : Int32)]) (rest := []) (kX7_checkState l hfl E σ (1 : Int32)) (va_cwS 1 S.2.2.2.2 gX7_dig_X7_checkState rfl rfl rfl (by decide +kernel) ⟨Nat.le_of_ble_eq_true rfl, Nat.le_of_ble_eq_true rfl⟩) rfl rfl (Nat.le_of_ble_eq_true rfl) dX7_dig_39 ⟨Nat.le_of_ble_eq_true rfl, Nat.le_of_ble_eq_true rfl⟩) (fun c_5 => absurd (by unfold sX7_checkState_t; simp) c_5) (fun c_5 => ?_)
    refine g_aload_n S 0 dX7_dig_42 rfl ?_
    refine gg6 S hC hiX7 (by decide +kernel) dX7_dig_43 ?_
    refine gg5r S hC hiX6 (by decide) rfl 0 (by decide) (by decide +kernel) dX7_dig_46 ?_
    refine g_iload_n S 1 dX7_dig_49 rfl ?_
    refine ga10 S hC (by decide) rfl a.toNatClampNeg hbe (by first | assumption | omega) (1 + 6 + (a.toNatClampNeg)) (by omega) dX7_dig_50 ?_
    refine g_dup S dX7_dig_51 rfl ?_
    refine gg0 S hC hiX0 (gT1.lt2 (a := 6) (by omega)) (gT1.bed (by omega)) 2 (by decide) (by decide +kernel) dX7_dig_52 ?_
    refine g_iload_n S 2 dX7_dig_55 rfl ?_
    refine g_isub S dX7_dig_56 ?_
    refine gp0 S hC hiX0 (gT1.lt2 (a := 6) (by omega)) (gT1.bed (by omega)) 2 (by decide) (by decide +kernel) dX7_dig_57 ?_
    refine g_nm (fun S1 hS1 => ?_)
    refine g_aload_n S 0 dX7_dig_60 rfl ?_
    refine gg6 S hC hiX7 (by decide +kernel) dX7_dig_61 ?_
    refine gg5r S hC hiX6 (by decide) rfl 4 (by decide) (by decide +kernel) dX7_dig_64 ?_
    refine g_const S dX7_dig_67 (v := 0) rfl ?_
    refine g_iload_n S 2 dX7_dig_68 rfl ?_
    refine g_callv (g_runV S hC (As := [.int (0 : Int32), .int b]) (rest := []) (k := 6) (by decide) rfl (by decide) rfl (kX4_add l E S1 6 (by decide) rfl (0 : Int32) b) (cwV 2 S.2.2.2.2 gX7_dig_X4_add rfl rfl rfl (by decide +kernel) ⟨Nat.le_of_ble_eq_true rfl, Nat.le_of_ble_eq_true rfl⟩) rfl rfl (Nat.le_of_ble_eq_true rfl) dX7_dig_69 ⟨Nat.le_of_ble_eq_true rfl, Nat.le_of_ble_eq_true rfl⟩) ?_
    refine g_nm (fun S2 hS2 => ?_)
    refine g_aload_n S 0 dX7_dig_72 rfl ?_
    refine gg6 S hC hiX7 (by decide +kernel) dX7_dig_73 ?_
    refine gg5r S hC hiX6 (by decide) rfl 0 (by decide) (by decide +kernel) dX7_dig_76 ?_
    refine g_iload_n S 1 dX7_dig_79 rfl ?_
    refine ga10 S hC (by decide) rfl a.toNatClampNeg hbe (by first | assumption | omega) (1 + 6 + (a.toNatClampNeg)) (by omega) dX7_dig_80 ?_
    refine gg0 S hC hiX0 (gT1.lt2 (a := 6) (by omega)) (gT1.bed (by omega)) 2 (by decide) (by decide +kernel) dX7_dig_81 ?_
    exact g_xiret S hr hlocks dX7_dig_84 (by subst hS2 hS1; unfold sX7_dig_t; (try dsimp only); rw [if_pos c_1, if_pos c_2, if_neg c_3]) (by subst hS2 hS1; unfold sX7_dig_r; (try dsimp only); rw [if_pos c_1, if_pos c_2, if_neg c_3]) (by subst hS2 hS1; unfold sX7_dig_s; (try dsimp only); rw [if_pos c_1, if_pos c_2, if_neg c_3]) (Nat.le_of_ble_eq_true rfl) (Nat.le_of_ble_eq_true rfl)
def sX7_give_r (σ : gS) (a : Int32) (b : Int32) : Int32 := if sX7_checkIndex_t σ a (2 : Int32) = 0 then (if sX7_checkNumber_t σ b (1 : Int32) (99 : Int32) = 0 then (let S1 := sX4_add_s σ 6 a b; sX4_stock_r S1 6 a) else (0)) else (0)
def sX7_give_s (σ : gS) (a : Int32) (b : Int32) : gS := if sX7_checkIndex_t σ a (2 : Int32) = 0 then (if sX7_checkNumber_t σ b (1 : Int32) (99 : Int32) = 0 then (let S1 := sX4_add_s σ 6 a b; S1) else (σ)) else (σ)
def sX7_give_t (σ : gS) (a : Int32) (b : Int32) : Nat := if sX7_checkIndex_t σ a (2 : Int32) = 0 then (if sX7_checkNumber_t σ b (1 : Int32) (99 : Int32) = 0 then (0) else (sX7_checkNumber_t σ b (1 : Int32) (99 : Int32))) else (sX7_checkIndex_t σ a (2 : Int32))
set_option maxRecDepth 100000 in
set_option maxHeartbeats 4000000 in
theorem kX7_give (l : Launch) (hfl : l.stackTraces = false) (E : gT) (σ : gS) (a : Int32) (b : Int32) : gYi l yX7_give wsX7_give ({ frames := 7, cells := 2, slots := 12, locals := 112 }) 2 12 E σ [.ref (E.2.2 0), .int a, .int b] (sX7_give_t σ a b) (sX7_give_r σ a b) (sX7_give_s σ a b) := by
  refine g_vmet (mc := 2) (ms := 12) (nL := 3) (ret := (some .int)) (by decide) rfl (lv := [(0, .ref (E.2.2 0)), (1, .int a), (2, .int b)]) rfl (Nat.le_of_ble_eq_true rfl) ?_
  intro p e s m below meth c S hr hlocks hout hC
  have hiX6 : ∀ w ∈ wsX60, w ∈ wsX7_give := by decide +kernel
  have hiX7 : ∀ w ∈ wsX70, w ∈ wsX7_give := by decide +kernel
  refine g_iload_n S 1 dX7_give_0 rfl ?_
  refine g_const S dX7_give_1 (v := 2) rfl ?_
  refine g_callxv (g_xunS S hC (As := [.int a, .int (2 : Int32)]) (rest := []) (kX7_checkIndex l hfl E σ a (2 : Int32)) (va_cwS 2 S.2.2.2.2 gX7_give_X7_checkIndex rfl rfl rfl (by decide +kernel) ⟨Nat.le_of_ble_eq_true rfl, Nat.le_of_ble_eq_true rfl⟩) rfl rfl (Nat.le_of_ble_eq_true rfl) dX7_give_2 ⟨Nat.le_of_ble_eq_true rfl, Nat.le_of_ble_eq_true rfl⟩) (fun c_1 => g_out hlocks hout c_1 (by rw [sX7_give_t, if_neg c_1]) (by rw [sX7_give_s, if_neg c_1]) (Nat.le_of_ble_eq_true rfl) (Nat.le_of_ble_eq_true rfl)) (fun c_1 => ?_)
  refine g_iload_n S 2 dX7_give_5 rfl ?_
  refine g_const S dX7_give_6 (v := 1) rfl ?_
  refine g_bipush S dX7_give_7 (v := 99) rfl ?_
  refine g_callxv (g_xunS S hC (As := [.int b, .int (1 : Int32), .int (99 : Int32)]) (rest := []) (kX7_checkNumber l hfl E σ b (1 : Int32) (99 : Int32)) (va_cwS 3 S.2.2.2.2 gX7_give_X7_checkNumber rfl rfl rfl (by decide +kernel) ⟨Nat.le_of_ble_eq_true rfl, Nat.le_of_ble_eq_true rfl⟩) rfl rfl (Nat.le_of_ble_eq_true rfl) dX7_give_9 ⟨Nat.le_of_ble_eq_true rfl, Nat.le_of_ble_eq_true rfl⟩) (fun c_2 => g_out hlocks hout c_2 (by rw [sX7_give_t, if_pos c_1, if_neg c_2]) (by rw [sX7_give_s, if_pos c_1, if_neg c_2]) (Nat.le_of_ble_eq_true rfl) (Nat.le_of_ble_eq_true rfl)) (fun c_2 => ?_)
  refine g_aload_n S 0 dX7_give_12 rfl ?_
  refine gg6 S hC hiX7 (by decide +kernel) dX7_give_13 ?_
  refine gg5r S hC hiX6 (by decide) rfl 4 (by decide) (by decide +kernel) dX7_give_16 ?_
  refine g_iload_n S 1 dX7_give_19 rfl ?_
  refine g_iload_n S 2 dX7_give_20 rfl ?_
  refine g_callv (g_runV S hC (As := [.int a, .int b]) (rest := []) (k := 6) (by decide) rfl (by decide) rfl (kX4_add l E σ 6 (by decide) rfl a b) (cwV 2 S.2.2.2.2 gX7_give_X4_add rfl rfl rfl (by decide +kernel) ⟨Nat.le_of_ble_eq_true rfl, Nat.le_of_ble_eq_true rfl⟩) rfl rfl (Nat.le_of_ble_eq_true rfl) dX7_give_21 ⟨Nat.le_of_ble_eq_true rfl, Nat.le_of_ble_eq_true rfl⟩) ?_
  refine g_nm (fun S1 hS1 => ?_)
  refine g_aload_n S 0 dX7_give_24 rfl ?_
  refine gg6 S hC hiX7 (by decide +kernel) dX7_give_25 ?_
  refine gg5r S hC hiX6 (by decide) rfl 4 (by decide) (by decide +kernel) dX7_give_28 ?_
  refine g_iload_n S 1 dX7_give_31 rfl ?_
  refine g_calli (g_runV S hC (As := [.int a]) (rest := []) (k := 6) (by decide) rfl (by decide) rfl (kX4_stock l E S1 6 (by decide) rfl a) (cwV 1 S.2.2.2.2 gX7_give_X4_stock rfl rfl rfl (by decide +kernel) ⟨Nat.le_of_ble_eq_true rfl, Nat.le_of_ble_eq_true rfl⟩) rfl rfl (Nat.le_of_ble_eq_true rfl) dX7_give_32 ⟨Nat.le_of_ble_eq_true rfl, Nat.le_of_ble_eq_true rfl⟩) ?_
  exact g_xiret S hr hlocks dX7_give_35 (by subst hS1; unfold sX7_give_t; (try dsimp only); rw [if_pos c_1, if_pos c_2]) (by subst hS1; unfold sX7_give_r; (try dsimp only); rw [if_pos c_1, if_pos c_2]) (by subst hS1; unfold sX7_give_s; (try dsimp only); rw [if_pos c_1, if_pos c_2]) (Nat.le_of_ble_eq_true rfl) (Nat.le_of_ble_eq_true rfl)
def sX7_load_r (σ : gS) (a : Int32) (b : Int32) (n : Int32) : Int32 := if sX7_checkIndex_t σ a (σ.1 1 6) = 0 then (if sX7_checkIndex_t σ b (2 : Int32) = 0 then (if sX7_checkNumber_t σ n (1 : Int32) (σ.1 (1 + 10 + (a.toNatClampNeg)) 0) = 0 then (if σ.1 (1 + 10 + (a.toNatClampNeg)) 2 = (-1 : Int32) then (if sX4_stock_r σ 6 b < n then (0) else (let S1 := sX4_add_s σ 6 b (-n); let S2 := sX2_fill_s S1 (1 + 10 + (a.toNatClampNeg)) b n; sX4_stock_r S2 6 b)) else (0)) else (0)) else (0)) else (0)
def sX7_load_s (σ : gS) (a : Int32) (b : Int32) (n : Int32) : gS := if sX7_checkIndex_t σ a (σ.1 1 6) = 0 then (if sX7_checkIndex_t σ b (2 : Int32) = 0 then (if sX7_checkNumber_t σ n (1 : Int32) (σ.1 (1 + 10 + (a.toNatClampNeg)) 0) = 0 then (if σ.1 (1 + 10 + (a.toNatClampNeg)) 2 = (-1 : Int32) then (if sX4_stock_r σ 6 b < n then (σ) else (let S1 := sX4_add_s σ 6 b (-n); let S2 := sX2_fill_s S1 (1 + 10 + (a.toNatClampNeg)) b n; S2)) else (σ)) else (σ)) else (σ)) else (σ)
def sX7_load_t (σ : gS) (a : Int32) (b : Int32) (n : Int32) : Nat := if sX7_checkIndex_t σ a (σ.1 1 6) = 0 then (if sX7_checkIndex_t σ b (2 : Int32) = 0 then (if sX7_checkNumber_t σ n (1 : Int32) (σ.1 (1 + 10 + (a.toNatClampNeg)) 0) = 0 then (if σ.1 (1 + 10 + (a.toNatClampNeg)) 2 = (-1 : Int32) then (if sX4_stock_r σ 6 b < n then (2) else (0)) else (2)) else (sX7_checkNumber_t σ n (1 : Int32) (σ.1 (1 + 10 + (a.toNatClampNeg)) 0))) else (sX7_checkIndex_t σ b (2 : Int32))) else (sX7_checkIndex_t σ a (σ.1 1 6))
set_option maxRecDepth 100000 in
set_option maxHeartbeats 4000000 in
theorem kX7_load (l : Launch) (hfl : l.stackTraces = false) (E : gT) (σ : gS) (a : Int32) (b : Int32) (n : Int32) (hok : tOK σ 1) : gYi l yX7_load wsX7_load ({ frames := 7, cells := 5, slots := 30, locals := 112 }) 5 30 E σ [.ref (E.2.2 0), .int a, .int b, .int n] (sX7_load_t σ a b n) (sX7_load_r σ a b n) (sX7_load_s σ a b n) := by
  refine g_vmet (mc := 5) (ms := 30) (nL := 4) (ret := (some .int)) (by decide) rfl (lv := [(0, .ref (E.2.2 0)), (1, .int a), (2, .int b), (3, .int n)]) rfl (Nat.le_of_ble_eq_true rfl) ?_
  intro p e s m below meth c S hr hlocks hout hC
  have hiX2 : ∀ w ∈ wsX20, w ∈ wsX7_load := by decide +kernel
  have hiX6 : ∀ w ∈ wsX60, w ∈ wsX7_load := by decide +kernel
  have hiX7 : ∀ w ∈ wsX70, w ∈ wsX7_load := by decide +kernel
  refine g_iload_n S 1 dX7_load_0 rfl ?_
  refine g_aload_n S 0 dX7_load_1 rfl ?_
  refine gg6 S hC hiX7 (by decide +kernel) dX7_load_2 ?_
  refine gg5 S hC hiX6 (by decide) rfl 6 (by decide) (by decide +kernel) dX7_load_5 ?_
  refine g_callxv (g_xunS S hC (As := [.int a, .int (σ.1 1 6)]) (rest := []) (kX7_checkIndex l hfl E σ a (σ.1 1 6)) (va_cwS 2 S.2.2.2.2 gX7_load_X7_checkIndex rfl rfl rfl (by decide +kernel) ⟨Nat.le_of_ble_eq_true rfl, Nat.le_of_ble_eq_true rfl⟩) rfl rfl (Nat.le_of_ble_eq_true rfl) dX7_load_8 ⟨Nat.le_of_ble_eq_true rfl, Nat.le_of_ble_eq_true rfl⟩) (fun c_1 => g_out hlocks hout c_1 (by rw [sX7_load_t, if_neg c_1]) (by rw [sX7_load_s, if_neg c_1]) (Nat.le_of_ble_eq_true rfl) (Nat.le_of_ble_eq_true rfl)) (fun c_1 => ?_)
  have hle := hok.le6
  obtain ⟨hbb, hbe⟩ := ck_ix (tB σ 1 6) (hok.eq 6 (by decide) (by decide)) (by omega) c_1
  have hbl : a.toNatClampNeg < 4 := by omega
  refine g_iload_n S 2 dX7_load_11 rfl ?_
  refine g_const S dX7_load_12 (v := 2) rfl ?_
  refine g_callxv (g_xunS S hC (As := [.int b, .int (2 : Int32)]) (rest := []) (kX7_checkIndex l hfl E σ b (2 : Int32)) (va_cwS 2 S.2.2.2.2 gX7_load_X7_checkIndex rfl rfl rfl (by decide +kernel) ⟨Nat.le_of_ble_eq_true rfl, Nat.le_of_ble_eq_true rfl⟩) rfl rfl (Nat.le_of_ble_eq_true rfl) dX7_load_13 ⟨Nat.le_of_ble_eq_true rfl, Nat.le_of_ble_eq_true rfl⟩) (fun c_2 => g_out hlocks hout c_2 (by rw [sX7_load_t, if_pos c_1, if_neg c_2]) (by rw [sX7_load_s, if_pos c_1, if_neg c_2]) (Nat.le_of_ble_eq_true rfl) (Nat.le_of_ble_eq_true rfl)) (fun c_2 => ?_)
  refine g_iload_n S 3 dX7_load_16 rfl ?_
  refine g_const S dX7_load_17 (v := 1) rfl ?_
  refine g_aload_n S 0 dX7_load_18 rfl ?_
  refine gg6 S hC hiX7 (by decide +kernel) dX7_load_19 ?_
  refine gg5r S hC hiX6 (by decide) rfl 1 (by decide) (by decide +kernel) dX7_load_22 ?_
  refine g_iload_n S 1 dX7_load_25 rfl ?_
  refine ga11 S hC (by decide) rfl a.toNatClampNeg hbe (by first | assumption | omega) (1 + 10 + (a.toNatClampNeg)) (by omega) dX7_load_26 ?_
  refine gg2 S hC hiX2 (gT1.lt2 (a := 10) (by omega)) (gT1.drum (by omega)) 0 (by decide) (by decide +kernel) dX7_load_27 ?_
  refine g_callxv (g_xunS S hC (As := [.int n, .int (1 : Int32), .int (σ.1 (1 + 10 + (a.toNatClampNeg)) 0)]) (rest := []) (kX7_checkNumber l hfl E σ n (1 : Int32) (σ.1 (1 + 10 + (a.toNatClampNeg)) 0)) (va_cwS 3 S.2.2.2.2 gX7_load_X7_checkNumber rfl rfl rfl (by decide +kernel) ⟨Nat.le_of_ble_eq_true rfl, Nat.le_of_ble_eq_true rfl⟩) rfl rfl (Nat.le_of_ble_eq_true rfl) dX7_load_30 ⟨Nat.le_of_ble_eq_true rfl, Nat.le_of_ble_eq_true rfl⟩) (fun c_3 => g_out hlocks hout c_3 (by rw [sX7_load_t, if_pos c_1, if_pos c_2, if_neg c_3]) (by rw [sX7_load_s, if_pos c_1, if_pos c_2, if_neg c_3]) (Nat.le_of_ble_eq_true rfl) (Nat.le_of_ble_eq_true rfl)) (fun c_3 => ?_)
  refine g_aload_n S 0 dX7_load_33 rfl ?_
  refine gg6 S hC hiX7 (by decide +kernel) dX7_load_34 ?_
  refine gg5r S hC hiX6 (by decide) rfl 1 (by decide) (by decide +kernel) dX7_load_37 ?_
  refine g_iload_n S 1 dX7_load_40 rfl ?_
  refine ga11 S hC (by decide) rfl a.toNatClampNeg hbe (by first | assumption | omega) (1 + 10 + (a.toNatClampNeg)) (by omega) dX7_load_41 ?_
  refine gg2 S hC hiX2 (gT1.lt2 (a := 10) (by omega)) (gT1.drum (by omega)) 2 (by decide) (by decide +kernel) dX7_load_42 ?_
  refine g_const S dX7_load_45 (v := (-1)) rfl ?_
  refine g_icmp_ne S 53 dX7_load_46 (by decide) (fun c_4 => ?_) (fun c_4 => ?_)
  · skip
    refine g_const S dX7_load_53 (v := 0) rfl ?_
    refine g_callxv (g_xunS S hC (As := [.int (0 : Int32)]) (rest := []) (kX7_checkState l hfl E σ (0 : Int32)) (va_cwS 1 S.2.2.2.2 gX7_load_X7_checkState rfl rfl rfl (by decide +kernel) ⟨Nat.le_of_ble_eq_true rfl, Nat.le_of_ble_eq_true rfl⟩) rfl rfl (Nat.le_of_ble_eq_true rfl) dX7_load_54 ⟨Nat.le_of_ble_eq_true rfl, Nat.le_of_ble_eq_true rfl⟩) (fun c_5 => g_out hlocks hout c_5 (by refine Eq.trans (by rw [sX7_load_t, if_pos c_1, if_pos c_2, if_pos c_3, if_neg c_4]) ?_; unfold sX7_checkState_t; simp) (by rw [sX7_load_s, if_pos c_1, if_pos c_2, if_pos c_3, if_neg c_4]) (Nat.le_of_ble_eq_true rfl) (Nat.le_of_ble_eq_true rfl)) (fun c_5 => absurd c_5 (by unfold sX7_checkState_t; simp))
  · skip
    refine g_const S dX7_load_49 (v := 1) rfl ?_
    refine g_goto S 54 dX7_load_50 (by decide) ?_
    refine g_callxv (g_xunS S hC (As := [.int (1 : Int32)]) (rest := []) (kX7_checkState l hfl E σ (1 : Int32)) (va_cwS 1 S.2.2.2.2 gX7_load_X7_checkState rfl rfl rfl (by decide +kernel) ⟨Nat.le_of_ble_eq_true rfl, Nat.le_of_ble_eq_true rfl⟩) rfl rfl (Nat.le_of_ble_eq_true rfl) dX7_load_54 ⟨Nat.le_of_ble_eq_true rfl, Nat.le_of_ble_eq_true rfl⟩) (fun c_6 => absurd (by unfold sX7_checkState_t; simp) c_6) (fun c_6 => ?_)
    refine g_aload_n S 0 dX7_load_57 rfl ?_
    refine gg6 S hC hiX7 (by decide +kernel) dX7_load_58 ?_
    refine gg5r S hC hiX6 (by decide) rfl 4 (by decide) (by decide +kernel) dX7_load_61 ?_
    refine g_iload_n S 2 dX7_load_64 rfl ?_
    refine g_calli (g_runV S hC (As := [.int b]) (rest := []) (k := 6) (by decide) rfl (by decide) rfl (kX4_stock l E σ 6 (by decide) rfl b) (cwV 1 S.2.2.2.2 gX7_load_X4_stock rfl rfl rfl (by decide +kernel) ⟨Nat.le_of_ble_eq_true rfl, Nat.le_of_ble_eq_true rfl⟩) rfl rfl (Nat.le_of_ble_eq_true rfl) dX7_load_65 ⟨Nat.le_of_ble_eq_true rfl, Nat.le_of_ble_eq_true rfl⟩) ?_
    refine g_iload_n S 3 dX7_load_68 rfl ?_
    refine g_icmp_lt S 76 dX7_load_69 (by decide) (fun c_7 => ?_) (fun c_7 => ?_)
    · skip
      refine g_const S dX7_load_76 (v := 0) rfl ?_
      refine g_callxv (g_xunS S hC (As := [.int (0 : Int32)]) (rest := []) (kX7_checkState l hfl E σ (0 : Int32)) (va_cwS 1 S.2.2.2.2 gX7_load_X7_checkState rfl rfl rfl (by decide +kernel) ⟨Nat.le_of_ble_eq_true rfl, Nat.le_of_ble_eq_true rfl⟩) rfl rfl (Nat.le_of_ble_eq_true rfl) dX7_load_77 ⟨Nat.le_of_ble_eq_true rfl, Nat.le_of_ble_eq_true rfl⟩) (fun c_8 => g_out hlocks hout c_8 (by refine Eq.trans (by rw [sX7_load_t, if_pos c_1, if_pos c_2, if_pos c_3, if_pos c_4, if_pos c_7]) ?_; unfold sX7_checkState_t; simp) (by rw [sX7_load_s, if_pos c_1, if_pos c_2, if_pos c_3, if_pos c_4, if_pos c_7]) (Nat.le_of_ble_eq_true rfl) (Nat.le_of_ble_eq_true rfl)) (fun c_8 => absurd c_8 (by unfold sX7_checkState_t; simp))
    · skip
      refine g_const S dX7_load_72 (v := 1) rfl ?_
      refine g_goto S 77 dX7_load_73 (by decide) ?_
      refine g_callxv (g_xunS S hC (As := [.int (1 : Int32)]) (rest := []) (kX7_checkState l hfl E σ (1 : Int32)) (va_cwS 1 S.2.2.2.2 gX7_load_X7_checkState rfl rfl rfl (by decide +kernel) ⟨Nat.le_of_ble_eq_true rfl, Nat.le_of_ble_eq_true rfl⟩) rfl rfl (Nat.le_of_ble_eq_true rfl) dX7_load_77 ⟨Nat.le_of_ble_eq_true rfl, Nat.le_of_ble_eq_true rfl⟩) (fun c_9 => absurd (by unfold sX7_checkState_t; simp) c_9) (fun c_9 => ?_)
      refine g_aload_n S 0 dX7_load_80 rfl ?_
      refine gg6 S hC hiX7 (by decide +kernel) dX7_load_81 ?_
      refine gg5r S hC hiX6 (by decide) rfl 4 (by decide) (by decide +kernel) dX7_load_84 ?_
      refine g_iload_n S 2 dX7_load_87 rfl ?_
      refine g_iload_n S 3 dX7_load_88 rfl ?_
      refine g_ineg S dX7_load_89 ?_
      refine g_callv (g_runV S hC (As := [.int b, .int (-n)]) (rest := []) (k := 6) (by decide) rfl (by decide) rfl (kX4_add l E σ 6 (by decide) rfl b (-n)) (cwV 2 S.2.2.2.2 gX7_load_X4_add rfl rfl rfl (by decide +kernel) ⟨Nat.le_of_ble_eq_true rfl, Nat.le_of_ble_eq_true rfl⟩) rfl rfl (Nat.le_of_ble_eq_true rfl) dX7_load_90 ⟨Nat.le_of_ble_eq_true rfl, Nat.le_of_ble_eq_true rfl⟩) ?_
      refine g_nm (fun S1 hS1 => ?_)
      refine g_aload_n S 0 dX7_load_93 rfl ?_
      refine gg6 S hC hiX7 (by decide +kernel) dX7_load_94 ?_
      refine gg5r S hC hiX6 (by decide) rfl 1 (by decide) (by decide +kernel) dX7_load_97 ?_
      refine g_iload_n S 1 dX7_load_100 rfl ?_
      refine ga11 S hC (by decide) rfl a.toNatClampNeg hbe (by first | assumption | omega) (1 + 10 + (a.toNatClampNeg)) (by omega) dX7_load_101 ?_
      refine g_iload_n S 2 dX7_load_102 rfl ?_
      refine g_iload_n S 3 dX7_load_103 rfl ?_
      refine g_callv (g_runV S hC (As := [.int b, .int n]) (rest := []) (k := 1 + 10 + (a.toNatClampNeg)) (gT1.lt2 (a := 10) (by omega)) (gT1.drum (by omega)) (by decide) rfl (kX2_fill l E S1 (1 + 10 + (a.toNatClampNeg)) (gT1.lt2 (a := 10) (by omega)) (gT1.drum (by omega)) b n) (cwV 2 S.2.2.2.2 gX7_load_X2_fill rfl rfl rfl (by decide +kernel) ⟨Nat.le_of_ble_eq_true rfl, Nat.le_of_ble_eq_true rfl⟩) rfl rfl (Nat.le_of_ble_eq_true rfl) dX7_load_104 ⟨Nat.le_of_ble_eq_true rfl, Nat.le_of_ble_eq_true rfl⟩) ?_
      refine g_nm (fun S2 hS2 => ?_)
      refine g_aload_n S 0 dX7_load_107 rfl ?_
      refine gg6 S hC hiX7 (by decide +kernel) dX7_load_108 ?_
      refine gg5r S hC hiX6 (by decide) rfl 4 (by decide) (by decide +kernel) dX7_load_111 ?_
      refine g_iload_n S 2 dX7_load_114 rfl ?_
      refine g_calli (g_runV S hC (As := [.int b]) (rest := []) (k := 6) (by decide) rfl (by decide) rfl (kX4_stock l E S2 6 (by decide) rfl b) (cwV 1 S.2.2.2.2 gX7_load_X4_stock rfl rfl rfl (by decide +kernel) ⟨Nat.le_of_ble_eq_true rfl, Nat.le_of_ble_eq_true rfl⟩) rfl rfl (Nat.le_of_ble_eq_true rfl) dX7_load_115 ⟨Nat.le_of_ble_eq_true rfl, Nat.le_of_ble_eq_true rfl⟩) ?_
      exact g_xiret S hr hlocks dX7_load_118 (by subst hS2 hS1; unfold sX7_load_t; (try dsimp only); rw [if_pos c_1, if_pos c_2, if_pos c_3, if_pos c_4, if_neg c_7]) (by subst hS2 hS1; unfold sX7_load_r; (try dsimp only); rw [if_pos c_1, if_pos c_2, if_pos c_3, if_pos c_4, if_neg c_7]) (by subst hS2 hS1; unfold sX7_load_s; (try dsimp only); rw [if_pos c_1, if_pos c_2, if_pos c_3, if_pos c_4, if_neg c_7]) (Nat.le_of_ble_eq_true rfl) (Nat.le_of_ble_eq_true rfl)
def sX7_take_r (σ : gS) (a : Int32) : Int32 := if sX7_checkIndex_t σ a (σ.1 1 6) = 0 then (if σ.1 (1 + 10 + (a.toNatClampNeg)) 2 = (-1 : Int32) then (0) else (sX2_partsAt_r σ (1 + 10 + (a.toNatClampNeg)) (σ.1 (1 + 10 + (a.toNatClampNeg)) 4))) else (0)
def sX7_take_s (σ : gS) (a : Int32) : gS := if sX7_checkIndex_t σ a (σ.1 1 6) = 0 then (if σ.1 (1 + 10 + (a.toNatClampNeg)) 2 = (-1 : Int32) then (σ) else (let S1 := sX4_addRoasted_s σ 6 (σ.1 (1 + 10 + (a.toNatClampNeg)) 2) (sX2_partsAt_r σ (1 + 10 + (a.toNatClampNeg)) (σ.1 (1 + 10 + (a.toNatClampNeg)) 4)); let S2 := sX2_fill_s S1 (1 + 10 + (a.toNatClampNeg)) (-1 : Int32) (0 : Int32); S2)) else (σ)
def sX7_take_t (σ : gS) (a : Int32) : Nat := if sX7_checkIndex_t σ a (σ.1 1 6) = 0 then (if σ.1 (1 + 10 + (a.toNatClampNeg)) 2 = (-1 : Int32) then (2) else (0)) else (sX7_checkIndex_t σ a (σ.1 1 6))
set_option maxRecDepth 100000 in
set_option maxHeartbeats 4000000 in
theorem kX7_take (l : Launch) (hfl : l.stackTraces = false) (E : gT) (σ : gS) (a : Int32) (hok : tOK σ 1) : gYi l yX7_take wsX7_take ({ frames := 7, cells := 2, slots := 12, locals := 111 }) 2 12 E σ [.ref (E.2.2 0), .int a] (sX7_take_t σ a) (sX7_take_r σ a) (sX7_take_s σ a) := by
  refine g_vmet (mc := 2) (ms := 12) (nL := 4) (ret := (some .int)) (by decide) rfl (lv := [(0, .ref (E.2.2 0)), (1, .int a)]) rfl (Nat.le_of_ble_eq_true rfl) ?_
  intro p e s m below meth c S hr hlocks hout hC
  have hiX2 : ∀ w ∈ wsX20, w ∈ wsX7_take := by decide +kernel
  have hiX6 : ∀ w ∈ wsX60, w ∈ wsX7_take := by decide +kernel
  have hiX7 : ∀ w ∈ wsX70, w ∈ wsX7_take := by decide +kernel
  refine g_iload_n S 1 dX7_take_0 rfl ?_
  refine g_aload_n S 0 dX7_take_1 rfl ?_
  refine gg6 S hC hiX7 (by decide +kernel) dX7_take_2 ?_
  refine gg5 S hC hiX6 (by decide) rfl 6 (by decide) (by decide +kernel) dX7_take_5 ?_
  refine g_callxv (g_xunS S hC (As := [.int a, .int (σ.1 1 6)]) (rest := []) (kX7_checkIndex l hfl E σ a (σ.1 1 6)) (va_cwS 2 S.2.2.2.2 gX7_take_X7_checkIndex rfl rfl rfl (by decide +kernel) ⟨Nat.le_of_ble_eq_true rfl, Nat.le_of_ble_eq_true rfl⟩) rfl rfl (Nat.le_of_ble_eq_true rfl) dX7_take_8 ⟨Nat.le_of_ble_eq_true rfl, Nat.le_of_ble_eq_true rfl⟩) (fun c_1 => g_out hlocks hout c_1 (by rw [sX7_take_t, if_neg c_1]) (by rw [sX7_take_s, if_neg c_1]) (Nat.le_of_ble_eq_true rfl) (Nat.le_of_ble_eq_true rfl)) (fun c_1 => ?_)
  have hle := hok.le6
  obtain ⟨hbb, hbe⟩ := ck_ix (tB σ 1 6) (hok.eq 6 (by decide) (by decide)) (by omega) c_1
  have hbl : a.toNatClampNeg < 4 := by omega
  refine g_aload_n S 0 dX7_take_11 rfl ?_
  refine gg6 S hC hiX7 (by decide +kernel) dX7_take_12 ?_
  refine gg5r S hC hiX6 (by decide) rfl 1 (by decide) (by decide +kernel) dX7_take_15 ?_
  refine g_iload_n S 1 dX7_take_18 rfl ?_
  refine ga11 S hC (by decide) rfl a.toNatClampNeg hbe (by first | assumption | omega) (1 + 10 + (a.toNatClampNeg)) (by omega) dX7_take_19 ?_
  refine g_astore_n S [(2, .ref (E.2.2 (1 + 10 + (a.toNatClampNeg)))), (0, .ref (E.2.2 0)), (1, .int a)] dX7_take_20 (by decide) rfl ?_
  refine g_aload_n S 0 dX7_take_21 rfl ?_
  refine gg2 S hC hiX2 (gT1.lt2 (a := 10) (by omega)) (gT1.drum (by omega)) 2 (by decide) (by decide +kernel) dX7_take_22 ?_
  refine g_const S dX7_take_25 (v := (-1)) rfl ?_
  refine g_icmp_eq S 33 dX7_take_26 (by decide) (fun c_2 => ?_) (fun c_2 => ?_)
  · skip
    refine g_const S dX7_take_33 (v := 0) rfl ?_
    refine g_callxv (g_xunS S hC (As := [.int (0 : Int32)]) (rest := []) (kX7_checkState l hfl E σ (0 : Int32)) (va_cwS 1 S.2.2.2.2 gX7_take_X7_checkState rfl rfl rfl (by decide +kernel) ⟨Nat.le_of_ble_eq_true rfl, Nat.le_of_ble_eq_true rfl⟩) rfl rfl (Nat.le_of_ble_eq_true rfl) dX7_take_34 ⟨Nat.le_of_ble_eq_true rfl, Nat.le_of_ble_eq_true rfl⟩) (fun c_3 => g_out hlocks hout c_3 (by refine Eq.trans (by rw [sX7_take_t, if_pos c_1, if_pos c_2]) ?_; unfold sX7_checkState_t; simp) (by rw [sX7_take_s, if_pos c_1, if_pos c_2]) (Nat.le_of_ble_eq_true rfl) (Nat.le_of_ble_eq_true rfl)) (fun c_3 => absurd c_3 (by unfold sX7_checkState_t; simp))
  · skip
    refine g_const S dX7_take_29 (v := 1) rfl ?_
    refine g_goto S 34 dX7_take_30 (by decide) ?_
    refine g_callxv (g_xunS S hC (As := [.int (1 : Int32)]) (rest := []) (kX7_checkState l hfl E σ (1 : Int32)) (va_cwS 1 S.2.2.2.2 gX7_take_X7_checkState rfl rfl rfl (by decide +kernel) ⟨Nat.le_of_ble_eq_true rfl, Nat.le_of_ble_eq_true rfl⟩) rfl rfl (Nat.le_of_ble_eq_true rfl) dX7_take_34 ⟨Nat.le_of_ble_eq_true rfl, Nat.le_of_ble_eq_true rfl⟩) (fun c_4 => absurd (by unfold sX7_checkState_t; simp) c_4) (fun c_4 => ?_)
    refine g_aload_n S 0 dX7_take_37 rfl ?_
    refine g_aload_n S 0 dX7_take_38 rfl ?_
    refine gg2 S hC hiX2 (gT1.lt2 (a := 10) (by omega)) (gT1.drum (by omega)) 4 (by decide) (by decide +kernel) dX7_take_39 ?_
    refine g_calli (g_runV S hC (As := [.int (σ.1 (1 + 10 + (a.toNatClampNeg)) 4)]) (rest := []) (k := 1 + 10 + (a.toNatClampNeg)) (gT1.lt2 (a := 10) (by omega)) (gT1.drum (by omega)) (by decide) rfl (kX2_partsAt l E σ (1 + 10 + (a.toNatClampNeg)) (gT1.lt2 (a := 10) (by omega)) (gT1.drum (by omega)) (σ.1 (1 + 10 + (a.toNatClampNeg)) 4)) (cwV 1 S.2.2.2.2 gX7_take_X2_partsAt rfl rfl rfl (by decide +kernel) ⟨Nat.le_of_ble_eq_true rfl, Nat.le_of_ble_eq_true rfl⟩) rfl rfl (Nat.le_of_ble_eq_true rfl) dX7_take_42 ⟨Nat.le_of_ble_eq_true rfl, Nat.le_of_ble_eq_true rfl⟩) ?_
    refine g_istore_n S [(3, .int (sX2_partsAt_r σ (1 + 10 + (a.toNatClampNeg)) (σ.1 (1 + 10 + (a.toNatClampNeg)) 4))), (2, .ref (E.2.2 (1 + 10 + (a.toNatClampNeg)))), (0, .ref (E.2.2 0)), (1, .int a)] dX7_take_45 (by decide) rfl ?_
    refine g_aload_n S 2 dX7_take_46 rfl ?_
    refine gg6 S hC hiX7 (by decide +kernel) dX7_take_47 ?_
    refine gg5r S hC hiX6 (by decide) rfl 4 (by decide) (by decide +kernel) dX7_take_50 ?_
    refine g_aload_n S 1 dX7_take_53 rfl ?_
    refine gg2 S hC hiX2 (gT1.lt2 (a := 10) (by omega)) (gT1.drum (by omega)) 2 (by decide) (by decide +kernel) dX7_take_54 ?_
    refine g_iload_n S 0 dX7_take_57 rfl ?_
    refine g_callv (g_runV S hC (As := [.int (σ.1 (1 + 10 + (a.toNatClampNeg)) 2), .int (sX2_partsAt_r σ (1 + 10 + (a.toNatClampNeg)) (σ.1 (1 + 10 + (a.toNatClampNeg)) 4))]) (rest := []) (k := 6) (by decide) rfl (by decide) rfl (kX4_addRoasted l E σ 6 (by decide) rfl (σ.1 (1 + 10 + (a.toNatClampNeg)) 2) (sX2_partsAt_r σ (1 + 10 + (a.toNatClampNeg)) (σ.1 (1 + 10 + (a.toNatClampNeg)) 4))) (cwV 2 S.2.2.2.2 gX7_take_X4_addRoasted rfl rfl rfl (by decide +kernel) ⟨Nat.le_of_ble_eq_true rfl, Nat.le_of_ble_eq_true rfl⟩) rfl rfl (Nat.le_of_ble_eq_true rfl) dX7_take_58 ⟨Nat.le_of_ble_eq_true rfl, Nat.le_of_ble_eq_true rfl⟩) ?_
    refine g_nm (fun S1 hS1 => ?_)
    refine g_aload_n S 1 dX7_take_61 rfl ?_
    refine g_const S dX7_take_62 (v := (-1)) rfl ?_
    refine g_const S dX7_take_63 (v := 0) rfl ?_
    refine g_callv (g_runV S hC (As := [.int (-1 : Int32), .int (0 : Int32)]) (rest := []) (k := 1 + 10 + (a.toNatClampNeg)) (gT1.lt2 (a := 10) (by omega)) (gT1.drum (by omega)) (by decide) rfl (kX2_fill l E S1 (1 + 10 + (a.toNatClampNeg)) (gT1.lt2 (a := 10) (by omega)) (gT1.drum (by omega)) (-1 : Int32) (0 : Int32)) (cwV 2 S.2.2.2.2 gX7_take_X2_fill rfl rfl rfl (by decide +kernel) ⟨Nat.le_of_ble_eq_true rfl, Nat.le_of_ble_eq_true rfl⟩) rfl rfl (Nat.le_of_ble_eq_true rfl) dX7_take_64 ⟨Nat.le_of_ble_eq_true rfl, Nat.le_of_ble_eq_true rfl⟩) ?_
    refine g_nm (fun S2 hS2 => ?_)
    refine g_iload_n S 0 dX7_take_67 rfl ?_
    exact g_xiret S hr hlocks dX7_take_68 (by subst hS2 hS1; unfold sX7_take_t; (try dsimp only); rw [if_pos c_1, if_neg c_2]) (by subst hS2 hS1; unfold sX7_take_r; (try dsimp only); rw [if_pos c_1, if_neg c_2]) (by subst hS2 hS1; unfold sX7_take_s; (try dsimp only); rw [if_pos c_1, if_neg c_2]) (Nat.le_of_ble_eq_true rfl) (Nat.le_of_ble_eq_true rfl)
def sX7_send_r (σ : gS) (a : Int32) : Int32 := if sX7_checkIndex_t σ a (σ.1 1 7) = 0 then (if σ.1 (1 + 14 + (a.toNatClampNeg)) 2 = 0 then (let S1 := sX3_setOut_s σ (1 + 14 + (a.toNatClampNeg)); S1.1 (1 + 14 + (a.toNatClampNeg)) 3) else (0)) else (0)
def sX7_send_s (σ : gS) (a : Int32) : gS := if sX7_checkIndex_t σ a (σ.1 1 7) = 0 then (if σ.1 (1 + 14 + (a.toNatClampNeg)) 2 = 0 then (let S1 := sX3_setOut_s σ (1 + 14 + (a.toNatClampNeg)); S1) else (σ)) else (σ)
def sX7_send_t (σ : gS) (a : Int32) : Nat := if sX7_checkIndex_t σ a (σ.1 1 7) = 0 then (if σ.1 (1 + 14 + (a.toNatClampNeg)) 2 = 0 then (0) else (2)) else (sX7_checkIndex_t σ a (σ.1 1 7))
set_option maxRecDepth 100000 in
set_option maxHeartbeats 4000000 in
theorem kX7_send (l : Launch) (hfl : l.stackTraces = false) (E : gT) (σ : gS) (a : Int32) (hok : tOK σ 1) : gYi l yX7_send wsX7_send ({ frames := 7, cells := 2, slots := 12, locals := 111 }) 2 12 E σ [.ref (E.2.2 0), .int a] (sX7_send_t σ a) (sX7_send_r σ a) (sX7_send_s σ a) := by
  refine g_vmet (mc := 2) (ms := 12) (nL := 2) (ret := (some .int)) (by decide) rfl (lv := [(0, .ref (E.2.2 0)), (1, .int a)]) rfl (Nat.le_of_ble_eq_true rfl) ?_
  intro p e s m below meth c S hr hlocks hout hC
  have hiX3 : ∀ w ∈ wsX30, w ∈ wsX7_send := by decide +kernel
  have hiX6 : ∀ w ∈ wsX60, w ∈ wsX7_send := by decide +kernel
  have hiX7 : ∀ w ∈ wsX70, w ∈ wsX7_send := by decide +kernel
  refine g_iload_n S 1 dX7_send_0 rfl ?_
  refine g_aload_n S 0 dX7_send_1 rfl ?_
  refine gg6 S hC hiX7 (by decide +kernel) dX7_send_2 ?_
  refine gg5 S hC hiX6 (by decide) rfl 7 (by decide) (by decide +kernel) dX7_send_5 ?_
  refine g_callxv (g_xunS S hC (As := [.int a, .int (σ.1 1 7)]) (rest := []) (kX7_checkIndex l hfl E σ a (σ.1 1 7)) (va_cwS 2 S.2.2.2.2 gX7_send_X7_checkIndex rfl rfl rfl (by decide +kernel) ⟨Nat.le_of_ble_eq_true rfl, Nat.le_of_ble_eq_true rfl⟩) rfl rfl (Nat.le_of_ble_eq_true rfl) dX7_send_8 ⟨Nat.le_of_ble_eq_true rfl, Nat.le_of_ble_eq_true rfl⟩) (fun c_1 => g_out hlocks hout c_1 (by rw [sX7_send_t, if_neg c_1]) (by rw [sX7_send_s, if_neg c_1]) (Nat.le_of_ble_eq_true rfl) (Nat.le_of_ble_eq_true rfl)) (fun c_1 => ?_)
  have hle := hok.le7
  obtain ⟨hbb, hbe⟩ := ck_ix (tB σ 1 7) (hok.eq 7 (by decide) (by decide)) (by omega) c_1
  have hbl : a.toNatClampNeg < 4 := by omega
  refine g_aload_n S 0 dX7_send_11 rfl ?_
  refine gg6 S hC hiX7 (by decide +kernel) dX7_send_12 ?_
  refine gg5r S hC hiX6 (by decide) rfl 2 (by decide) (by decide +kernel) dX7_send_15 ?_
  refine g_iload_n S 1 dX7_send_18 rfl ?_
  refine ga12 S hC (by decide) rfl a.toNatClampNeg hbe (by first | assumption | omega) (1 + 14 + (a.toNatClampNeg)) (by omega) dX7_send_19 ?_
  refine gg3 S hC hiX3 (gT1.lt2 (a := 14) (by omega)) (gT1.smug (by omega)) 2 (by decide) (by decide +kernel) dX7_send_20 ?_
  refine g_if_ne S 30 dX7_send_23 (by decide) (fun c_2 => ?_) (fun c_2 => ?_)
  · skip
    refine g_const S dX7_send_30 (v := 0) rfl ?_
    refine g_callxv (g_xunS S hC (As := [.int (0 : Int32)]) (rest := []) (kX7_checkState l hfl E σ (0 : Int32)) (va_cwS 1 S.2.2.2.2 gX7_send_X7_checkState rfl rfl rfl (by decide +kernel) ⟨Nat.le_of_ble_eq_true rfl, Nat.le_of_ble_eq_true rfl⟩) rfl rfl (Nat.le_of_ble_eq_true rfl) dX7_send_31 ⟨Nat.le_of_ble_eq_true rfl, Nat.le_of_ble_eq_true rfl⟩) (fun c_3 => g_out hlocks hout c_3 (by refine Eq.trans (by rw [sX7_send_t, if_pos c_1, if_neg c_2]) ?_; unfold sX7_checkState_t; simp) (by rw [sX7_send_s, if_pos c_1, if_neg c_2]) (Nat.le_of_ble_eq_true rfl) (Nat.le_of_ble_eq_true rfl)) (fun c_3 => absurd c_3 (by unfold sX7_checkState_t; simp))
  · skip
    refine g_const S dX7_send_26 (v := 1) rfl ?_
    refine g_goto S 31 dX7_send_27 (by decide) ?_
    refine g_callxv (g_xunS S hC (As := [.int (1 : Int32)]) (rest := []) (kX7_checkState l hfl E σ (1 : Int32)) (va_cwS 1 S.2.2.2.2 gX7_send_X7_checkState rfl rfl rfl (by decide +kernel) ⟨Nat.le_of_ble_eq_true rfl, Nat.le_of_ble_eq_true rfl⟩) rfl rfl (Nat.le_of_ble_eq_true rfl) dX7_send_31 ⟨Nat.le_of_ble_eq_true rfl, Nat.le_of_ble_eq_true rfl⟩) (fun c_4 => absurd (by unfold sX7_checkState_t; simp) c_4) (fun c_4 => ?_)
    refine g_aload_n S 0 dX7_send_34 rfl ?_
    refine gg6 S hC hiX7 (by decide +kernel) dX7_send_35 ?_
    refine gg5r S hC hiX6 (by decide) rfl 2 (by decide) (by decide +kernel) dX7_send_38 ?_
    refine g_iload_n S 1 dX7_send_41 rfl ?_
    refine ga12 S hC (by decide) rfl a.toNatClampNeg hbe (by first | assumption | omega) (1 + 14 + (a.toNatClampNeg)) (by omega) dX7_send_42 ?_
    refine g_callv (g_runV S hC (As := []) (rest := []) (k := 1 + 14 + (a.toNatClampNeg)) (gT1.lt2 (a := 14) (by omega)) (gT1.smug (by omega)) (by decide) rfl (kX3_setOut l E σ (1 + 14 + (a.toNatClampNeg)) (gT1.lt2 (a := 14) (by omega)) (gT1.smug (by omega))) (cwV 0 S.2.2.2.2 gX7_send_X3_setOut rfl rfl rfl (by decide +kernel) ⟨Nat.le_of_ble_eq_true rfl, Nat.le_of_ble_eq_true rfl⟩) rfl rfl (Nat.le_of_ble_eq_true rfl) dX7_send_43 ⟨Nat.le_of_ble_eq_true rfl, Nat.le_of_ble_eq_true rfl⟩) ?_
    refine g_nm (fun S1 hS1 => ?_)
    refine g_aload_n S 0 dX7_send_46 rfl ?_
    refine gg6 S hC hiX7 (by decide +kernel) dX7_send_47 ?_
    refine gg5r S hC hiX6 (by decide) rfl 2 (by decide) (by decide +kernel) dX7_send_50 ?_
    refine g_iload_n S 1 dX7_send_53 rfl ?_
    refine ga12 S hC (by decide) rfl a.toNatClampNeg hbe (by first | assumption | omega) (1 + 14 + (a.toNatClampNeg)) (by omega) dX7_send_54 ?_
    refine gg3 S hC hiX3 (gT1.lt2 (a := 14) (by omega)) (gT1.smug (by omega)) 3 (by decide) (by decide +kernel) dX7_send_55 ?_
    exact g_xiret S hr hlocks dX7_send_58 (by subst hS1; unfold sX7_send_t; (try dsimp only); rw [if_pos c_1, if_pos c_2]) (by subst hS1; unfold sX7_send_r; (try dsimp only); rw [if_pos c_1, if_pos c_2]) (by subst hS1; unfold sX7_send_s; (try dsimp only); rw [if_pos c_1, if_pos c_2]) (Nat.le_of_ble_eq_true rfl) (Nat.le_of_ble_eq_true rfl)
def sX7_about_r (σ : gS) (a : Int32) (b : Int32) : Int32 := if sX7_checkIndex_t σ a (σ.1 1 5) = 0 then (if sX7_ask_k0_t σ (1 + 6 + (a.toNatClampNeg)) b = 0 then (sX7_ask_k0_r σ (1 + 6 + (a.toNatClampNeg)) b) else (0)) else (0)
def sX7_about_t (σ : gS) (a : Int32) (b : Int32) : Nat := if sX7_checkIndex_t σ a (σ.1 1 5) = 0 then (if sX7_ask_k0_t σ (1 + 6 + (a.toNatClampNeg)) b = 0 then (0) else (sX7_ask_k0_t σ (1 + 6 + (a.toNatClampNeg)) b)) else (sX7_checkIndex_t σ a (σ.1 1 5))
set_option maxRecDepth 100000 in
set_option maxHeartbeats 4000000 in
theorem kX7_about (l : Launch) (hfl : l.stackTraces = false) (E : gT) (σ : gS) (a : Int32) (b : Int32) (hok : tOK σ 1) : gYi l yX7_about wsX7_about ({ frames := 8, cells := 2, slots := 12, locals := 132 }) 2 12 E σ [.ref (E.2.2 0), .int a, .int b] (sX7_about_t σ a b) (sX7_about_r σ a b) σ := by
  refine g_vmet (mc := 2) (ms := 12) (nL := 3) (ret := (some .int)) (by decide) rfl (lv := [(0, .ref (E.2.2 0)), (1, .int a), (2, .int b)]) rfl (Nat.le_of_ble_eq_true rfl) ?_
  intro p e s m below meth c S hr hlocks hout hC
  have hiX6 : ∀ w ∈ wsX60, w ∈ wsX7_about := by decide +kernel
  have hiX7 : ∀ w ∈ wsX70, w ∈ wsX7_about := by decide +kernel
  refine g_iload_n S 1 dX7_about_0 rfl ?_
  refine g_aload_n S 0 dX7_about_1 rfl ?_
  refine gg6 S hC hiX7 (by decide +kernel) dX7_about_2 ?_
  refine gg5 S hC hiX6 (by decide) rfl 5 (by decide) (by decide +kernel) dX7_about_5 ?_
  refine g_callxv (g_xunS S hC (As := [.int a, .int (σ.1 1 5)]) (rest := []) (kX7_checkIndex l hfl E σ a (σ.1 1 5)) (va_cwS 2 S.2.2.2.2 gX7_about_X7_checkIndex rfl rfl rfl (by decide +kernel) ⟨Nat.le_of_ble_eq_true rfl, Nat.le_of_ble_eq_true rfl⟩) rfl rfl (Nat.le_of_ble_eq_true rfl) dX7_about_8 ⟨Nat.le_of_ble_eq_true rfl, Nat.le_of_ble_eq_true rfl⟩) (fun c_1 => g_out hlocks hout c_1 (by rw [sX7_about_t, if_neg c_1]) rfl (Nat.le_of_ble_eq_true rfl) (Nat.le_of_ble_eq_true rfl)) (fun c_1 => ?_)
  have hle := hok.le5
  obtain ⟨hbb, hbe⟩ := ck_ix (tB σ 1 5) (hok.eq 5 (by decide) (by decide)) (by omega) c_1
  have hbl : a.toNatClampNeg < 4 := by omega
  refine g_aload_n S 0 dX7_about_11 rfl ?_
  refine gg6 S hC hiX7 (by decide +kernel) dX7_about_12 ?_
  refine gg5r S hC hiX6 (by decide) rfl 0 (by decide) (by decide +kernel) dX7_about_15 ?_
  refine g_iload_n S 1 dX7_about_18 rfl ?_
  refine ga10 S hC (by decide) rfl a.toNatClampNeg hbe (by first | assumption | omega) (1 + 6 + (a.toNatClampNeg)) (by omega) dX7_about_19 ?_
  refine g_iload_n S 2 dX7_about_20 rfl ?_
  refine g_callxi (g_xunS S hC (As := [.ref (E.2.2 (1 + 6 + (a.toNatClampNeg))), .int b]) (rest := []) (kX7_ask_k0 l hfl E σ (1 + 6 + (a.toNatClampNeg)) (gT1.lt2 (a := 6) (by omega)) (gT1.bed (by omega)) b) (va_cwS 2 S.2.2.2.2 gX7_about_X7_ask rfl rfl rfl (by decide +kernel) ⟨Nat.le_of_ble_eq_true rfl, Nat.le_of_ble_eq_true rfl⟩) rfl rfl (Nat.le_of_ble_eq_true rfl) dX7_about_21 ⟨Nat.le_of_ble_eq_true rfl, Nat.le_of_ble_eq_true rfl⟩) (fun c_2 => g_out hlocks hout c_2 (by rw [sX7_about_t, if_pos c_1, if_neg c_2]) rfl (Nat.le_of_ble_eq_true rfl) (Nat.le_of_ble_eq_true rfl)) (fun c_2 => ?_)
  exact g_xiret S hr hlocks dX7_about_24 (by rw [sX7_about_t, if_pos c_1, if_pos c_2]) (by rw [sX7_about_r, if_pos c_1, if_pos c_2]) rfl (Nat.le_of_ble_eq_true rfl) (Nat.le_of_ble_eq_true rfl)
def sX7_roast_r (σ : gS) (a : Int32) (b : Int32) : Int32 := if sX7_checkIndex_t σ a (σ.1 1 6) = 0 then (if sX7_ask_k2_t σ (1 + 10 + (a.toNatClampNeg)) b = 0 then (sX7_ask_k2_r σ (1 + 10 + (a.toNatClampNeg)) b) else (0)) else (0)
def sX7_roast_t (σ : gS) (a : Int32) (b : Int32) : Nat := if sX7_checkIndex_t σ a (σ.1 1 6) = 0 then (if sX7_ask_k2_t σ (1 + 10 + (a.toNatClampNeg)) b = 0 then (0) else (sX7_ask_k2_t σ (1 + 10 + (a.toNatClampNeg)) b)) else (sX7_checkIndex_t σ a (σ.1 1 6))
set_option maxRecDepth 100000 in
set_option maxHeartbeats 4000000 in
theorem kX7_roast (l : Launch) (hfl : l.stackTraces = false) (E : gT) (σ : gS) (a : Int32) (b : Int32) (hok : tOK σ 1) : gYi l yX7_roast wsX7_roast ({ frames := 8, cells := 2, slots := 12, locals := 132 }) 2 12 E σ [.ref (E.2.2 0), .int a, .int b] (sX7_roast_t σ a b) (sX7_roast_r σ a b) σ := by
  refine g_vmet (mc := 2) (ms := 12) (nL := 3) (ret := (some .int)) (by decide) rfl (lv := [(0, .ref (E.2.2 0)), (1, .int a), (2, .int b)]) rfl (Nat.le_of_ble_eq_true rfl) ?_
  intro p e s m below meth c S hr hlocks hout hC
  have hiX6 : ∀ w ∈ wsX60, w ∈ wsX7_roast := by decide +kernel
  have hiX7 : ∀ w ∈ wsX70, w ∈ wsX7_roast := by decide +kernel
  refine g_iload_n S 1 dX7_roast_0 rfl ?_
  refine g_aload_n S 0 dX7_roast_1 rfl ?_
  refine gg6 S hC hiX7 (by decide +kernel) dX7_roast_2 ?_
  refine gg5 S hC hiX6 (by decide) rfl 6 (by decide) (by decide +kernel) dX7_roast_5 ?_
  refine g_callxv (g_xunS S hC (As := [.int a, .int (σ.1 1 6)]) (rest := []) (kX7_checkIndex l hfl E σ a (σ.1 1 6)) (va_cwS 2 S.2.2.2.2 gX7_roast_X7_checkIndex rfl rfl rfl (by decide +kernel) ⟨Nat.le_of_ble_eq_true rfl, Nat.le_of_ble_eq_true rfl⟩) rfl rfl (Nat.le_of_ble_eq_true rfl) dX7_roast_8 ⟨Nat.le_of_ble_eq_true rfl, Nat.le_of_ble_eq_true rfl⟩) (fun c_1 => g_out hlocks hout c_1 (by rw [sX7_roast_t, if_neg c_1]) rfl (Nat.le_of_ble_eq_true rfl) (Nat.le_of_ble_eq_true rfl)) (fun c_1 => ?_)
  have hle := hok.le6
  obtain ⟨hbb, hbe⟩ := ck_ix (tB σ 1 6) (hok.eq 6 (by decide) (by decide)) (by omega) c_1
  have hbl : a.toNatClampNeg < 4 := by omega
  refine g_aload_n S 0 dX7_roast_11 rfl ?_
  refine gg6 S hC hiX7 (by decide +kernel) dX7_roast_12 ?_
  refine gg5r S hC hiX6 (by decide) rfl 1 (by decide) (by decide +kernel) dX7_roast_15 ?_
  refine g_iload_n S 1 dX7_roast_18 rfl ?_
  refine ga11 S hC (by decide) rfl a.toNatClampNeg hbe (by first | assumption | omega) (1 + 10 + (a.toNatClampNeg)) (by omega) dX7_roast_19 ?_
  refine g_iload_n S 2 dX7_roast_20 rfl ?_
  refine g_callxi (g_xunS S hC (As := [.ref (E.2.2 (1 + 10 + (a.toNatClampNeg))), .int b]) (rest := []) (kX7_ask_k2 l hfl E σ (1 + 10 + (a.toNatClampNeg)) (gT1.lt2 (a := 10) (by omega)) (gT1.drum (by omega)) b) (va_cwS 2 S.2.2.2.2 gX7_roast_X7_ask rfl rfl rfl (by decide +kernel) ⟨Nat.le_of_ble_eq_true rfl, Nat.le_of_ble_eq_true rfl⟩) rfl rfl (Nat.le_of_ble_eq_true rfl) dX7_roast_21 ⟨Nat.le_of_ble_eq_true rfl, Nat.le_of_ble_eq_true rfl⟩) (fun c_2 => g_out hlocks hout c_2 (by rw [sX7_roast_t, if_pos c_1, if_neg c_2]) rfl (Nat.le_of_ble_eq_true rfl) (Nat.le_of_ble_eq_true rfl)) (fun c_2 => ?_)
  exact g_xiret S hr hlocks dX7_roast_24 (by rw [sX7_roast_t, if_pos c_1, if_pos c_2]) (by rw [sX7_roast_r, if_pos c_1, if_pos c_2]) rfl (Nat.le_of_ble_eq_true rfl) (Nat.le_of_ble_eq_true rfl)
def sX7_told_r (σ : gS) (a : Int32) (b : Int32) : Int32 := if sX7_checkIndex_t σ a (σ.1 1 7) = 0 then (if sX7_ask_k3_t σ (1 + 14 + (a.toNatClampNeg)) b = 0 then (sX7_ask_k3_r σ (1 + 14 + (a.toNatClampNeg)) b) else (0)) else (0)
def sX7_told_t (σ : gS) (a : Int32) (b : Int32) : Nat := if sX7_checkIndex_t σ a (σ.1 1 7) = 0 then (if sX7_ask_k3_t σ (1 + 14 + (a.toNatClampNeg)) b = 0 then (0) else (sX7_ask_k3_t σ (1 + 14 + (a.toNatClampNeg)) b)) else (sX7_checkIndex_t σ a (σ.1 1 7))
set_option maxRecDepth 100000 in
set_option maxHeartbeats 4000000 in
theorem kX7_told (l : Launch) (hfl : l.stackTraces = false) (E : gT) (σ : gS) (a : Int32) (b : Int32) (hok : tOK σ 1) : gYi l yX7_told wsX7_told ({ frames := 8, cells := 2, slots := 12, locals := 132 }) 2 12 E σ [.ref (E.2.2 0), .int a, .int b] (sX7_told_t σ a b) (sX7_told_r σ a b) σ := by
  refine g_vmet (mc := 2) (ms := 12) (nL := 3) (ret := (some .int)) (by decide) rfl (lv := [(0, .ref (E.2.2 0)), (1, .int a), (2, .int b)]) rfl (Nat.le_of_ble_eq_true rfl) ?_
  intro p e s m below meth c S hr hlocks hout hC
  have hiX6 : ∀ w ∈ wsX60, w ∈ wsX7_told := by decide +kernel
  have hiX7 : ∀ w ∈ wsX70, w ∈ wsX7_told := by decide +kernel
  refine g_iload_n S 1 dX7_told_0 rfl ?_
  refine g_aload_n S 0 dX7_told_1 rfl ?_
  refine gg6 S hC hiX7 (by decide +kernel) dX7_told_2 ?_
  refine gg5 S hC hiX6 (by decide) rfl 7 (by decide) (by decide +kernel) dX7_told_5 ?_
  refine g_callxv (g_xunS S hC (As := [.int a, .int (σ.1 1 7)]) (rest := []) (kX7_checkIndex l hfl E σ a (σ.1 1 7)) (va_cwS 2 S.2.2.2.2 gX7_told_X7_checkIndex rfl rfl rfl (by decide +kernel) ⟨Nat.le_of_ble_eq_true rfl, Nat.le_of_ble_eq_true rfl⟩) rfl rfl (Nat.le_of_ble_eq_true rfl) dX7_told_8 ⟨Nat.le_of_ble_eq_true rfl, Nat.le_of_ble_eq_true rfl⟩) (fun c_1 => g_out hlocks hout c_1 (by rw [sX7_told_t, if_neg c_1]) rfl (Nat.le_of_ble_eq_true rfl) (Nat.le_of_ble_eq_true rfl)) (fun c_1 => ?_)
  have hle := hok.le7
  obtain ⟨hbb, hbe⟩ := ck_ix (tB σ 1 7) (hok.eq 7 (by decide) (by decide)) (by omega) c_1
  have hbl : a.toNatClampNeg < 4 := by omega
  refine g_aload_n S 0 dX7_told_11 rfl ?_
  refine gg6 S hC hiX7 (by decide +kernel) dX7_told_12 ?_
  refine gg5r S hC hiX6 (by decide) rfl 2 (by decide) (by decide +kernel) dX7_told_15 ?_
  refine g_iload_n S 1 dX7_told_18 rfl ?_
  refine ga12 S hC (by decide) rfl a.toNatClampNeg hbe (by first | assumption | omega) (1 + 14 + (a.toNatClampNeg)) (by omega) dX7_told_19 ?_
  refine g_iload_n S 2 dX7_told_20 rfl ?_
  refine g_callxi (g_xunS S hC (As := [.ref (E.2.2 (1 + 14 + (a.toNatClampNeg))), .int b]) (rest := []) (kX7_ask_k3 l hfl E σ (1 + 14 + (a.toNatClampNeg)) (gT1.lt2 (a := 14) (by omega)) (gT1.smug (by omega)) b) (va_cwS 2 S.2.2.2.2 gX7_told_X7_ask rfl rfl rfl (by decide +kernel) ⟨Nat.le_of_ble_eq_true rfl, Nat.le_of_ble_eq_true rfl⟩) rfl rfl (Nat.le_of_ble_eq_true rfl) dX7_told_21 ⟨Nat.le_of_ble_eq_true rfl, Nat.le_of_ble_eq_true rfl⟩) (fun c_2 => g_out hlocks hout c_2 (by rw [sX7_told_t, if_pos c_1, if_neg c_2]) rfl (Nat.le_of_ble_eq_true rfl) (Nat.le_of_ble_eq_true rfl)) (fun c_2 => ?_)
  exact g_xiret S hr hlocks dX7_told_24 (by rw [sX7_told_t, if_pos c_1, if_pos c_2]) (by rw [sX7_told_r, if_pos c_1, if_pos c_2]) rfl (Nat.le_of_ble_eq_true rfl) (Nat.le_of_ble_eq_true rfl)
def sX7_ration_r (σ : gS) (a : Int32) (b : Int32) : Int32 := if sX7_checkIndex_t σ a (σ.1 1 8) = 0 then (if sX7_ask_k1_t σ (1 + 18 + (a.toNatClampNeg)) b = 0 then (sX7_ask_k1_r σ (1 + 18 + (a.toNatClampNeg)) b) else (0)) else (0)
def sX7_ration_t (σ : gS) (a : Int32) (b : Int32) : Nat := if sX7_checkIndex_t σ a (σ.1 1 8) = 0 then (if sX7_ask_k1_t σ (1 + 18 + (a.toNatClampNeg)) b = 0 then (0) else (sX7_ask_k1_t σ (1 + 18 + (a.toNatClampNeg)) b)) else (sX7_checkIndex_t σ a (σ.1 1 8))
set_option maxRecDepth 100000 in
set_option maxHeartbeats 4000000 in
theorem kX7_ration (l : Launch) (hfl : l.stackTraces = false) (E : gT) (σ : gS) (a : Int32) (b : Int32) (hok : tOK σ 1) : gYi l yX7_ration wsX7_ration ({ frames := 8, cells := 2, slots := 12, locals := 132 }) 2 12 E σ [.ref (E.2.2 0), .int a, .int b] (sX7_ration_t σ a b) (sX7_ration_r σ a b) σ := by
  refine g_vmet (mc := 2) (ms := 12) (nL := 3) (ret := (some .int)) (by decide) rfl (lv := [(0, .ref (E.2.2 0)), (1, .int a), (2, .int b)]) rfl (Nat.le_of_ble_eq_true rfl) ?_
  intro p e s m below meth c S hr hlocks hout hC
  have hiX6 : ∀ w ∈ wsX60, w ∈ wsX7_ration := by decide +kernel
  have hiX7 : ∀ w ∈ wsX70, w ∈ wsX7_ration := by decide +kernel
  refine g_iload_n S 1 dX7_ration_0 rfl ?_
  refine g_aload_n S 0 dX7_ration_1 rfl ?_
  refine gg6 S hC hiX7 (by decide +kernel) dX7_ration_2 ?_
  refine gg5 S hC hiX6 (by decide) rfl 8 (by decide) (by decide +kernel) dX7_ration_5 ?_
  refine g_callxv (g_xunS S hC (As := [.int a, .int (σ.1 1 8)]) (rest := []) (kX7_checkIndex l hfl E σ a (σ.1 1 8)) (va_cwS 2 S.2.2.2.2 gX7_ration_X7_checkIndex rfl rfl rfl (by decide +kernel) ⟨Nat.le_of_ble_eq_true rfl, Nat.le_of_ble_eq_true rfl⟩) rfl rfl (Nat.le_of_ble_eq_true rfl) dX7_ration_8 ⟨Nat.le_of_ble_eq_true rfl, Nat.le_of_ble_eq_true rfl⟩) (fun c_1 => g_out hlocks hout c_1 (by rw [sX7_ration_t, if_neg c_1]) rfl (Nat.le_of_ble_eq_true rfl) (Nat.le_of_ble_eq_true rfl)) (fun c_1 => ?_)
  have hle := hok.le8
  obtain ⟨hbb, hbe⟩ := ck_ix (tB σ 1 8) (hok.eq 8 (by decide) (by decide)) (by omega) c_1
  have hbl : a.toNatClampNeg < 10 := by omega
  refine g_aload_n S 0 dX7_ration_11 rfl ?_
  refine gg6 S hC hiX7 (by decide +kernel) dX7_ration_12 ?_
  refine gg5r S hC hiX6 (by decide) rfl 3 (by decide) (by decide +kernel) dX7_ration_15 ?_
  refine g_iload_n S 1 dX7_ration_18 rfl ?_
  refine ga13 S hC (by decide) rfl a.toNatClampNeg hbe (by first | assumption | omega) (1 + 18 + (a.toNatClampNeg)) (by omega) dX7_ration_19 ?_
  refine g_iload_n S 2 dX7_ration_20 rfl ?_
  refine g_callxi (g_xunS S hC (As := [.ref (E.2.2 (1 + 18 + (a.toNatClampNeg))), .int b]) (rest := []) (kX7_ask_k1 l hfl E σ (1 + 18 + (a.toNatClampNeg)) (gT1.lt2 (a := 18) (by omega)) (gT1.card (by omega)) b) (va_cwS 2 S.2.2.2.2 gX7_ration_X7_ask rfl rfl rfl (by decide +kernel) ⟨Nat.le_of_ble_eq_true rfl, Nat.le_of_ble_eq_true rfl⟩) rfl rfl (Nat.le_of_ble_eq_true rfl) dX7_ration_21 ⟨Nat.le_of_ble_eq_true rfl, Nat.le_of_ble_eq_true rfl⟩) (fun c_2 => g_out hlocks hout c_2 (by rw [sX7_ration_t, if_pos c_1, if_neg c_2]) rfl (Nat.le_of_ble_eq_true rfl) (Nat.le_of_ble_eq_true rfl)) (fun c_2 => ?_)
  exact g_xiret S hr hlocks dX7_ration_24 (by rw [sX7_ration_t, if_pos c_1, if_pos c_2]) (by rw [sX7_ration_r, if_pos c_1, if_pos c_2]) rfl (Nat.le_of_ble_eq_true rfl) (Nat.le_of_ble_eq_true rfl)
def sX7_count_r (σ : gS) (a : Int32) : Int32 := if sX7_ask_k5_t σ 1 a = 0 then (sX7_ask_k5_r σ 1 a) else (0)
def sX7_count_t (σ : gS) (a : Int32) : Nat := if sX7_ask_k5_t σ 1 a = 0 then (0) else (sX7_ask_k5_t σ 1 a)
set_option maxRecDepth 100000 in
set_option maxHeartbeats 4000000 in
theorem kX7_count (l : Launch) (hfl : l.stackTraces = false) (E : gT) (σ : gS) (a : Int32) : gYi l yX7_count wsX7_count ({ frames := 8, cells := 1, slots := 6, locals := 132 }) 1 6 E σ [.ref (E.2.2 0), .int a] (sX7_count_t σ a) (sX7_count_r σ a) σ := by
  refine g_vmet (mc := 1) (ms := 6) (nL := 2) (ret := (some .int)) (by decide) rfl (lv := [(0, .ref (E.2.2 0)), (1, .int a)]) rfl (Nat.le_of_ble_eq_true rfl) ?_
  intro p e s m below meth c S hr hlocks hout hC
  have hiX7 : ∀ w ∈ wsX70, w ∈ wsX7_count := by decide +kernel
  refine g_aload_n S 0 dX7_count_0 rfl ?_
  refine gg6 S hC hiX7 (by decide +kernel) dX7_count_1 ?_
  refine g_iload_n S 1 dX7_count_4 rfl ?_
  refine g_callxi (g_xunS S hC (As := [.ref (E.2.2 1), .int a]) (rest := []) (kX7_ask_k5 l hfl E σ 1 gT1 a) (va_cwS 2 S.2.2.2.2 gX7_count_X7_ask rfl rfl rfl (by decide +kernel) ⟨Nat.le_of_ble_eq_true rfl, Nat.le_of_ble_eq_true rfl⟩) rfl rfl (Nat.le_of_ble_eq_true rfl) dX7_count_5 ⟨Nat.le_of_ble_eq_true rfl, Nat.le_of_ble_eq_true rfl⟩) (fun c_1 => g_out hlocks hout c_1 (by rw [sX7_count_t, if_neg c_1]) rfl (Nat.le_of_ble_eq_true rfl) (Nat.le_of_ble_eq_true rfl)) (fun c_1 => ?_)
  exact g_xiret S hr hlocks dX7_count_8 (by rw [sX7_count_t, if_pos c_1]) (by rw [sX7_count_r, if_pos c_1]) rfl (Nat.le_of_ble_eq_true rfl) (Nat.le_of_ble_eq_true rfl)
def sX7_pass_r (σ : gS) (a : Int32) : Int32 := if sX7_checkNumber_t σ a (1 : Int32) (60 : Int32) = 0 then (sX6_live_r σ 1 a.toNatClampNeg) else (0)
def sX7_pass_s (σ : gS) (a : Int32) : gS := if sX7_checkNumber_t σ a (1 : Int32) (60 : Int32) = 0 then (let S1 := sX6_live_s σ 1 a.toNatClampNeg; S1) else (σ)
def sX7_pass_t (σ : gS) (a : Int32) : Nat := if sX7_checkNumber_t σ a (1 : Int32) (60 : Int32) = 0 then (0) else (sX7_checkNumber_t σ a (1 : Int32) (60 : Int32))
set_option maxRecDepth 100000 in
set_option maxHeartbeats 4000000 in
theorem kX7_pass (l : Launch) (hfl : l.stackTraces = false) (E : gT) (σ : gS) (a : Int32) (hok : tOK σ 1) : gYi l yX7_pass wsX7_pass ({ frames := 7, cells := 1, slots := 6, locals := 133 }) 1 6 E σ [.ref (E.2.2 0), .int a] (sX7_pass_t σ a) (sX7_pass_r σ a) (sX7_pass_s σ a) := by
  refine g_vmet (mc := 1) (ms := 6) (nL := 2) (ret := (some .int)) (by decide) rfl (lv := [(0, .ref (E.2.2 0)), (1, .int a)]) rfl (Nat.le_of_ble_eq_true rfl) ?_
  intro p e s m below meth c S hr hlocks hout hC
  have hiX7 : ∀ w ∈ wsX70, w ∈ wsX7_pass := by decide +kernel
  refine g_iload_n S 1 dX7_pass_0 rfl ?_
  refine g_const S dX7_pass_1 (v := 1) rfl ?_
  refine g_bipush S dX7_pass_2 (v := 60) rfl ?_
  refine g_callxv (g_xunS S hC (As := [.int a, .int (1 : Int32), .int (60 : Int32)]) (rest := []) (kX7_checkNumber l hfl E σ a (1 : Int32) (60 : Int32)) (va_cwS 3 S.2.2.2.2 gX7_pass_X7_checkNumber rfl rfl rfl (by decide +kernel) ⟨Nat.le_of_ble_eq_true rfl, Nat.le_of_ble_eq_true rfl⟩) rfl rfl (Nat.le_of_ble_eq_true rfl) dX7_pass_4 ⟨Nat.le_of_ble_eq_true rfl, Nat.le_of_ble_eq_true rfl⟩) (fun c_1 => g_out hlocks hout c_1 (by rw [sX7_pass_t, if_neg c_1]) (by rw [sX7_pass_s, if_neg c_1]) (Nat.le_of_ble_eq_true rfl) (Nat.le_of_ble_eq_true rfl)) (fun c_1 => ?_)
  obtain ⟨⟨_, hbb0⟩, hbe⟩ := ck_nm (lo := 1) (hi := 60) (by decide) (by decide) c_1
  have hbb : a.toNatClampNeg < 61 := by omega
  refine g_aload_n S 0 dX7_pass_7 rfl ?_
  refine gg6 S hC hiX7 (by decide +kernel) dX7_pass_8 ?_
  refine g_iload_n S 1 dX7_pass_11 rfl ?_
  refine g_top (y := nI a.toNatClampNeg) hbe ?_
  refine g_calli (g_runV S hC (As := [.int (nI a.toNatClampNeg)]) (rest := []) (k := 1) (by decide) rfl (by decide) rfl (kX6_live l E σ 1 gT1 a.toNatClampNeg (by first | decide | omega) hok) (cwV 1 S.2.2.2.2 gX7_pass_X6_live rfl rfl rfl (by decide +kernel) ⟨Nat.le_of_ble_eq_true rfl, Nat.le_of_ble_eq_true rfl⟩) rfl rfl (Nat.le_of_ble_eq_true rfl) dX7_pass_12 ⟨Nat.le_of_ble_eq_true rfl, Nat.le_of_ble_eq_true rfl⟩) ?_
  refine g_nm (fun S1 hS1 => ?_)
  exact g_xiret S hr hlocks dX7_pass_15 (by subst hS1; unfold sX7_pass_t; (try dsimp only); rw [if_pos c_1]) (by subst hS1; unfold sX7_pass_r; (try dsimp only); rw [if_pos c_1]) (by subst hS1; unfold sX7_pass_s; (try dsimp only); rw [if_pos c_1]) (Nat.le_of_ble_eq_true rfl) (Nat.le_of_ble_eq_true rfl)
