section LR
variable {p : Program} {l : Launch} {e : Env} {s : State} {m : MethodId} {args : Array Value} {below : List Frame} {meth : Method} {c : Code} {Q : State → Prop}
variable {E : gT} {σ : gS} {cells slots : Nat} {D B S0 : Nat}
set_option maxRecDepth 100000 in
set_option maxHeartbeats 4000000 in
theorem law_x (C : gLC p l s m args c E σ D B S0) {al tk : Int32} (ih : gJ p l e room_1 s m args below meth c Q 20 E σ cells slots 803 [(2, .ref (E.2.2 29)), (1, .ref (E.2.2 0)), (0, .ref (gSb E))] []) : gJ p l e room_1 s m args below meth c Q 20 E σ cells slots 47 [(5, .int (nI 30)), (4, .int al), (3, .int tk), (2, .ref (E.2.2 29)), (1, .ref (E.2.2 0)), (0, .ref (gSb E))] [] := by
  obtain ⟨S, hC, hfl, hX, hI, hD, hB, hS0⟩ := id C
  obtain ⟨hN, hR⟩ := id hI
  have hb := NB.of hC
  have hok := hN.1.1
  refine g_iload S 0 dL_law_47 rfl ?_
  refine g_bipush S dL_law_49 (v := 30) rfl ?_
  refine g_icmp_ge S 803 dL_law_51 (by decide) (fun c_1 => ?_) (fun c_1 => absurd (by decide) c_1)
  refine g_lvs [3, 4, 5] (lv' := [(2, .ref (E.2.2 29)), (1, .ref (E.2.2 0)), (0, .ref (gSb E))]) rfl ?_
  exact ih
set_option maxHeartbeats 4000000 in
theorem law_behind {i : Nat} {x al tk : Int32} (C : gLC p l s m args c E σ D B S0) (hi : i < 30) (hT : al + tk = T3 σ) (hD9 : D + 40 < 4999) (hB9 : B + 7000 < 2 ^ 29) (hS9 : S0 + 600 < 2 ^ 30) (hc : cells + 227 ≤ 683427) (hs : slots + 1378 ≤ 7051186)
    (K : ∀ (E' : gT) (σ' : gS) (al' tk' : Int32), AR E E' → INV E' (D + 8) (B + 1480) (S0 + 160) σ' → al' + tk' = T3 σ' → gJ p l e room_1 s m args below meth c Q 20 E' σ' (cells + 227) (slots + 1378) 47 [(5, .int (nI (i + 1))), (4, .int (al')), (3, .int (tk')), (2, .ref (E'.2.2 29)), (1, .ref (E'.2.2 0)), (0, .ref (gSb E'))] []) : gJ p l e room_1 s m args below meth c Q 20 E σ cells slots 194 [(6, .int x), (5, .int (nI i)), (4, .int al), (3, .int tk), (2, .ref (E.2.2 29)), (1, .ref (E.2.2 0)), (0, .ref (gSb E))] [] := by
  obtain ⟨S, hC, hfl, hX, hI, hD, hB, hS0⟩ := id C
  have hb := NB.of hC
  obtain ⟨b0, b1, b2, b3⟩ := id hb
  refine law_c C (by omega) (by omega) (fun n h1 h3 => ?_)
  obtain ⟨hI2, c2, c3, c5, c6, sh, k, t, hr, Y, hpk⟩ := law_days hI hb h3 (by omega) (by omega) (by omega) hT
  obtain ⟨m0, m1, m2, m3, m4, m5, m6⟩ := hI.1.2.2.1
  rw [hr, m2.1, m3.1, m5.1, m6.1]
  generalize sX8_behind_s (sX6_live_s σ 1 n) n E = σ2 at hI2 Y hpk ⊢
  have C2 : gLC p l s m args c E σ2 (D + 4) (B + 480) (S0 + 80) := ⟨S, hC, hfl, hX, hI2, by omega, by omega, by omega⟩
  refine law_d C2 Y (by omega) (by omega) ?_
  refine g_wid (k := cells + 19) (n := slots + 114) (by omega) (by omega) ?_
  refine g_loopK (E := E) (σ := σ2) (gNo E 3) (fun j E' σ' (b : Nat) => E' = E ∧ σ' = σ2 ∧ b ≤ 11 ∧ ∀ q, q < j → b ≤ cv σ2 (19 + q) 1) (fun j => cells + 19 + 10 * j) (fun j => slots + 114 + 60 * j) (fun j E b => [(17, .int (nI j)), (16, .int (nI b)), (15, .int (sumC σ2 j)), (14, .int (nI sh)), (12, .int (nI k)), (6, .int x), (5, .int (nI i)), (4, .int al), (3, .int tk), (2, .ref (E.2.2 29)), (1, .ref (E.2.2 0)), (0, .ref (gSb E))]) [] (fun j E' σ' b hj hq kk => ?_) (fun E' σ' b hq => ?_) (b := 11) ⟨rfl, rfl, Nat.le_refl _, fun q h => absurd h (Nat.not_lt_zero q)⟩
  · obtain ⟨hE, hσ, hpn, hp⟩ := hq
    subst hE
    subst hσ
    exact law_e C2 hj hpn (by omega) (by omega) (kk _ _ (min b (cv σ' (19 + j) 1)) ⟨rfl, rfl, by omega, fun q h => by
      rcases Nat.lt_or_ge q j with h2 | h2
      · have := hp q h2
        omega
      · obtain rfl : q = j := by omega
        omega⟩)
  · obtain ⟨hE, hσ, hpn, hp⟩ := hq
    subst hE
    subst hσ
    refine law_ex C2 (fun z => ?_) (by omega) (by omega) ?_
    · have vs := Y.vs
      have h2 : sh < b := Nat.lt_of_not_le (fun y => z (nI_le y (by omega)))
      have h0 := hpk (fun q hq2 => Nat.lt_of_lt_of_le h2 (hp q hq2))
      rw [h0]
      decide
    refine g_wid (k := cells + 120) (n := slots + 720) (by omega) (by omega) ?_
    refine g_loopK (E := E') (σ := σ') (gNo E' 0) (fun j E1 σ1 (b : Unit) => E1 = E' ∧ σ1 = σ') (fun j => cells + 120 + 6 * j) (fun j => slots + 720 + 36 * j) (fun j E b => [(17, .int (nI j)), (6, .int x), (5, .int (nI i)), (4, .int al), (3, .int tk), (2, .ref (E.2.2 29)), (1, .ref (E.2.2 0)), (0, .ref (gSb E))]) [] (fun j E1 σ1 b1 hj hq kk => ?_) (fun E1 σ1 b1 hq => ?_) (b := ()) ⟨rfl, rfl⟩
    · obtain ⟨hE, hσ⟩ := hq
      subst hE
      subst hσ
      exact law_f C2 hj (by omega) (by omega) (kk _ _ () ⟨rfl, rfl⟩)
    · obtain ⟨hE, hσ⟩ := hq
      subst hE
      subst hσ
      refine law_fx C2 ?_
      refine g_wid (k := cells + 144) (n := slots + 864) (by omega) (by omega) ?_
      refine g_loopK (E := E1) (σ := σ1) (gNo E1 1) (fun j E2 σ3 (b : Unit) => E2 = E1 ∧ σ3 = σ1) (fun j => cells + 144 + 12 * j) (fun j => slots + 864 + 72 * j) (fun j E b => [(17, .int (nI j)), (6, .int x), (5, .int (nI i)), (4, .int al), (3, .int tk), (2, .ref (E.2.2 29)), (1, .ref (E.2.2 0)), (0, .ref (gSb E))]) [] (fun j E2 σ3 b2 hj hq kk => ?_) (fun E2 σ3 b2 hq => ?_) (b := ()) ⟨rfl, rfl⟩
      · obtain ⟨hE, hσ⟩ := hq
        subst hE
        subst hσ
        rcases (hI2.1.2.2.2.2.1 j hj).2.2 with ⟨z2, z3, z4⟩ | ⟨z2, z3, z5, z4⟩
        · exact law_g_e C2 hj z2 z3 z4 (by omega) (by omega) (kk _ _ () ⟨rfl, rfl⟩)
        · rcases z2 with z2 | z2
          · rw [if_pos z2] at z4
            exact law_g_0 C2 hj z2 z3.1 z4.1 z5 z3.2 z4.2 (by omega) (by omega) (kk _ _ () ⟨rfl, rfl⟩)
          · rw [if_neg (by rw [z2]; decide)] at z4
            exact law_g_1 C2 hj z2 z3.1 z4.1 z5 z3.2 z4.2 (by omega) (by omega) (kk _ _ () ⟨rfl, rfl⟩)
      · obtain ⟨hE, hσ⟩ := hq
        subst hE
        subst hσ
        refine law_gx C2 ?_
        refine g_wid (k := cells + 192) (n := slots + 1152) (by omega) (by omega) ?_
        refine g_loopK (E := E2) (σ := σ3) (gNo E2 2) (fun j E3 σ4 (b : Unit) => E3 = E2 ∧ σ4 = σ3) (fun j => cells + 192 + 6 * j) (fun j => slots + 1152 + 36 * j) (fun j E b => [(17, .int (nI j)), (6, .int x), (5, .int (nI i)), (4, .int al), (3, .int tk), (2, .ref (E.2.2 29)), (1, .ref (E.2.2 0)), (0, .ref (gSb E))]) [] (fun j E3 σ4 b3 hj hq kk => ?_) (fun E3 σ4 b3 hq => ?_) (b := ()) ⟨rfl, rfl⟩
        · obtain ⟨hE, hσ⟩ := hq
          subst hE
          subst hσ
          rcases (hI2.1.2.2.2.2.2.1 j hj).2.2 with ⟨z2, z3⟩ | ⟨z2, z3, z5⟩ | ⟨z2, z3, z5⟩
          · exact law_h_0 C2 hj z2 z3 (by omega) (by omega) (kk _ _ () ⟨rfl, rfl⟩)
          · exact law_h_1 C2 hj z2 z3.1 z5 z3.2 (by omega) (by omega) (kk _ _ () ⟨rfl, rfl⟩)
          · exact law_h_2 C2 hj z2 z3.1 z5 z3.2 (by omega) (by omega) (kk _ _ () ⟨rfl, rfl⟩)
        · obtain ⟨hE, hσ⟩ := hq
          subst hE
          subst hσ
          refine law_hx C2 ?_
          refine g_wid (k := cells + 216) (n := slots + 1296) (by omega) (by omega) ?_
          refine law_i C2 (by omega) (by omega) (fun E5 σ5 hA hI5 => ?_)
          have C5 : gLC p l s m args c E5 σ5 (D + 4 + 4) (B + 480 + 1000) (S0 + 80 + 80) := ⟨S, hA.C hC, hfl, hA.2.2.2.2.1, hI5, by omega, by omega, by omega⟩
          refine law_z C5 (by omega) (by omega) ?_
          exact g_wid (by omega) (by omega) (K E5 σ5 (T3 σ5 - tk) tk hA (hI5.le (by omega) (by omega) (by omega)) (by grind))
set_option maxHeartbeats 4000000 in
theorem law_round {i : Nat} {al tk : Int32} (C : gLC p l s m args c E σ D B S0) (hi : i < 30) (hT : al + tk = T3 σ) (hD9 : D + 40 < 4999) (hB9 : B + 9000 < 2 ^ 29) (hS9 : S0 + 600 < 2 ^ 30) (hc : cells + 251 ≤ 683427) (hs : slots + 1522 ≤ 7051186)
    (K : ∀ (E' : gT) (σ' : gS) (al' tk' : Int32), AR E E' → INV E' (D + 8) (B + 2760) (S0 + 160) σ' → al' + tk' = T3 σ' → gJ p l e room_1 s m args below meth c Q 20 E' σ' (cells + 251) (slots + 1522) 47 [(5, .int (nI (i + 1))), (4, .int (al')), (3, .int (tk')), (2, .ref (E'.2.2 29)), (1, .ref (E'.2.2 0)), (0, .ref (gSb E'))] []) : gJ p l e room_1 s m args below meth c Q 20 E σ cells slots 47 [(5, .int (nI i)), (4, .int al), (3, .int tk), (2, .ref (E.2.2 29)), (1, .ref (E.2.2 0)), (0, .ref (gSb E))] [] := by
  obtain ⟨S, hC, hfl, hX, hI, hD, hB, hS0⟩ := id C
  have hb := NB.of hC
  obtain ⟨b0, b1, b2, b3⟩ := id hb
  refine law_b C hi (by omega) (by omega) (fun x => ?_)
  refine g_loopK (E := E) (σ := σ) (gNo E 1) (fun d E' σ' (tk' : Int32) => E' = E ∧ INV E D (B + 320 * d) S0 σ' ∧ al + tk' = T3 σ') (fun d => cells + 6 * d) (fun d => slots + 36 * d) (fun d E tk' => [(7, .int (nI d)), (6, .int x), (5, .int (nI i)), (4, .int al), (3, .int (tk')), (2, .ref (E.2.2 29)), (1, .ref (E.2.2 0)), (0, .ref (gSb E))]) [] (fun d E' σ1 tk1 hd hq kk => ?_) (fun E' σ1 tk1 hq => ?_) (b := tk) ⟨rfl, hI, hT⟩
  · obtain ⟨hE, hI1, hT1⟩ := hq
    subst hE
    have C1 : gLC p l s m args c E' σ1 D (B + 320 * d) S0 := ⟨S, hC, hfl, hX, hI1, hD, by omega, hS0⟩
    exact law_t C1 hd hT1 (by omega) (by omega) (fun σ2 tk2 hI2 hT2 => kk _ σ2 tk2 ⟨rfl, hI2.le (by omega) (by omega) (by omega), hT2⟩)
  · obtain ⟨hE, hI1, hT1⟩ := hq
    subst hE
    have hI1 : INV E' D (B + 1280) S0 σ1 := hI1.le (by omega) (by omega) (by omega)
    have C1 : gLC p l s m args c E' σ1 D (B + 1280) S0 := ⟨S, hC, hfl, hX, hI1, hD, by omega, hS0⟩
    refine law_tx C1 ?_
    exact law_behind C1 hi hT1 (by omega) (by omega) (by omega) (by omega) (by omega) (fun E3 σ3 al3 tk3 hA hI3 hT3 => g_wid (by omega) (by omega) (K E3 σ3 al3 tk3 hA (hI3.le (by omega) (by omega) (by omega)) hT3))
set_option maxHeartbeats 4000000 in
theorem law_all (C : gLC p l s m args c E σ 500 110000 9000) (hA0 : AR E E) (hc : cells + 7533 ≤ 683127) (hs : slots + 45678 ≤ 7049186) (K : ∀ (E' : gT) (σ' : gS), AR E E' → INV E' 740 192800 13800 σ' → gJ p l e room_1 s m args below meth c Q 20 E' σ' (cells + 7533) (slots + 45678) 803 [(2, .ref (E'.2.2 29)), (1, .ref (E'.2.2 0)), (0, .ref (gSb E'))] []) : gJ p l e room_1 s m args below meth c Q 20 E σ cells slots 20 [(2, .ref (E.2.2 29)), (1, .ref (E.2.2 0)), (0, .ref (gSb E))] [] := by
  obtain ⟨S, hC, hfl, hX, hI, hD, hB, hS0⟩ := id C
  refine law_a C (by omega) (by omega) ?_
  refine g_wid (k := cells + 3) (n := slots + 18) (by omega) (by omega) ?_
  refine g_loopK (E := E) (σ := σ) 30 (fun i E' σ' (b : Int32 × Int32) => AR E E' ∧ INV E' (500 + 8 * i) (110000 + 2760 * i) (9000 + 160 * i) σ' ∧ b.1 + b.2 = T3 σ') (fun i => cells + 3 + 251 * i) (fun i => slots + 18 + 1522 * i) (fun i E b => [(5, .int (nI i)), (4, .int b.1), (3, .int b.2), (2, .ref (E.2.2 29)), (1, .ref (E.2.2 0)), (0, .ref (gSb E))]) [] (fun i E' σ' b hi hq kk => ?_) (fun E' σ' b hq => ?_) (b := (T3 σ, 0)) ⟨hA0, hI, i32_add0 _⟩
  · obtain ⟨hA, hI1, hT1⟩ := hq
    have C1 : gLC p l s m args c E' σ' (500 + 8 * i) (110000 + 2760 * i) (9000 + 160 * i) := ⟨S, hA.C hC, hfl, hA.2.2.2.2.1, hI1, by omega, by omega, by omega⟩
    exact law_round C1 hi hT1 (by omega) (by omega) (by omega) (by omega) (by omega) (fun E3 σ3 al3 tk3 hA3 hI3 hT3 => g_wid (by omega) (by omega) (kk E3 σ3 (al3, tk3) ⟨hA.trans hA3, hI3.le (by omega) (by omega) (by omega), hT3⟩))
  · obtain ⟨hA, hI1, hT1⟩ := hq
    have C1 : gLC p l s m args c E' σ' 740 192800 13800 := ⟨S, hA.C hC, hfl, hA.2.2.2.2.1, hI1, by omega, by omega, by omega⟩
    refine law_x C1 ?_
    exact g_wid (by omega) (by omega) (K E' σ' hA hI1)
end LR
