theorem i32_pred {x : Int32} (h : 1 ≤ x) : (x - 1).toInt = x.toInt - 1 := by
  have h1 : (1 : Int) ≤ x.toInt := Int32.le_iff_toInt_le.mp h
  have h2 : x.toInt < 2 ^ 31 := x.toInt_lt
  rw [Int32.toInt_sub, Int.bmod_def]
  show (if (x.toInt - 1) % ((2 ^ 32 : Nat) : Int) < (((2 ^ 32 : Nat) : Int) + 1) / 2 then (x.toInt - 1) % ((2 ^ 32 : Nat) : Int) else (x.toInt - 1) % ((2 ^ 32 : Nat) : Int) - ((2 ^ 32 : Nat) : Int)) = _
  split <;> omega
theorem i32_pred0 {x : Int32} (h : 1 ≤ x) : (x - 1 ≤ 0) ↔ x - 1 = 0 := by
  have h1 : (1 : Int) ≤ x.toInt := Int32.le_iff_toInt_le.mp h
  have e := i32_pred h
  constructor
  · intro q
    have q : (x - 1).toInt ≤ 0 := Int32.le_iff_toInt_le.mp q
    exact Int32.toInt_inj.mp (by rw [show (0 : Int32).toInt = 0 from rfl]; omega)
  · intro q
    rw [q]
    exact Int32.le_refl _
section TR
variable {σ τ ρ : gS} {E : gT}
theorem travel_A {k : Nat} {p : Int32} (h1 : σ.1 k 2 = 1) (h2 : σ.1 k 3 - 1 = σ.1 k 0 / 2) (h3 : ¬ p = 0) : sX3_travel_r σ k p = 0 ∧ sX3_travel_s σ k p = gu (gu (gu (gu σ k 3 (σ.1 k 3 - 1)) k 2 2) k 3 10) k 4 (σ.1 k 4 + 1) := by
  have e1 : ∀ j, j ≠ 3 → (gu σ k 3 (σ.1 k 3 - 1)).1 k j = σ.1 k j := fun j hj => by rw [gu_at, if_neg hj]
  have e2 : (gu σ k 3 (σ.1 k 3 - 1)).1 k 3 = σ.1 k 3 - 1 := by rw [gu_at, if_pos rfl]
  have e3 : (gu (gu (gu (gu σ k 3 (σ.1 k 3 - 1)) k 2 2) k 3 10) k 4 (σ.1 k 4 + 1)).1 k 3 = 10 := by rw [gu_at, if_neg (by decide), gu_at, if_pos rfl]
  have e4 : (gu (gu (gu σ k 3 (σ.1 k 3 - 1)) k 2 2) k 3 10).1 k 4 = σ.1 k 4 := by rw [gu_at, if_neg (by decide), gu_at, if_neg (by decide), gu_at, if_neg (by decide)]
  have n0 : ¬ σ.1 k 2 = 0 := by rw [h1]; decide
  unfold sX3_travel_r sX3_travel_s
  dsimp only
  rw [if_neg n0, if_neg n0, e1 2 (by decide), e1 0 (by decide), e2, if_pos h1, if_pos h1, if_pos h2, if_pos h2, if_neg h3, if_neg h3, e4, e3, if_neg (by decide), if_neg (by decide)]
  exact ⟨rfl, rfl⟩
theorem travel_B {k : Nat} {p : Int32} (h0 : ¬ σ.1 k 2 = 0) (h1 : ¬ (σ.1 k 2 = 1 ∧ σ.1 k 3 - 1 = σ.1 k 0 / 2 ∧ ¬ p = 0)) : sX3_travel_r σ k p = (if σ.1 k 3 - 1 ≤ 0 then (if σ.1 k 2 = 1 then σ.1 k 1 else 0) else 0) ∧ sX3_travel_s σ k p = (if σ.1 k 3 - 1 ≤ 0 then gu (gu σ k 3 (σ.1 k 3 - 1)) k 2 0 else gu σ k 3 (σ.1 k 3 - 1)) := by
  have e1 : ∀ j, j ≠ 3 → (gu σ k 3 (σ.1 k 3 - 1)).1 k j = σ.1 k j := fun j hj => by rw [gu_at, if_neg hj]
  have e2 : (gu σ k 3 (σ.1 k 3 - 1)).1 k 3 = σ.1 k 3 - 1 := by rw [gu_at, if_pos rfl]
  have ec : sX3_comeHome_s (gu σ k 3 (σ.1 k 3 - 1)) k = gu (gu σ k 3 (σ.1 k 3 - 1)) k 2 0 := by
    unfold sX3_comeHome_s
    split <;> rfl
  have er : sX3_comeHome_r (gu σ k 3 (σ.1 k 3 - 1)) k = if σ.1 k 2 = 1 then σ.1 k 1 else 0 := by
    unfold sX3_comeHome_r
    rw [e1 2 (by decide), e1 1 (by decide)]
  unfold sX3_travel_r sX3_travel_s
  dsimp only
  rw [if_neg h0, if_neg h0, e1 2 (by decide), e1 0 (by decide), e2, ec, er]
  by_cases c1 : σ.1 k 2 = 1
  · by_cases c2 : σ.1 k 3 - 1 = σ.1 k 0 / 2
    · have c3 : p = 0 := Decidable.byContradiction fun c3 => h1 ⟨c1, c2, c3⟩
      constructor <;> simp only [if_pos c1, if_pos c2, if_pos c3]
    · constructor <;> simp only [if_pos c1, if_neg c2]
  · constructor <;> simp only [if_neg c1]
theorem isThere_at {ρ ρ' : gS} {d : Int32} (h : ρ'.1 29 6 = ρ.1 29 6) : sX8_isThere_r ρ' d = sX8_isThere_r ρ d := by
  unfold sX8_isThere_r
  rw [h]
/-- the patrol, told in two ways -/
theorem patrol_eq {d p : Nat} (hp : p ≤ 127) (hd : d < 5000) (ht : τ.1 1 10 = nI p) (hr : ρ.1 29 6 = nI p) : sX6_patrolled_r τ 1 (nI d) = sX8_isThere_r ρ (nI d) := by
  obtain ⟨r, h7, er⟩ := day7 ⟨d, rfl, hd⟩
  unfold sX6_patrolled_r sX8_isThere_r
  rw [ht, hr, er]
  have key : ∀ p, p < 128 → ∀ r, r < 7 → ((((nI p >>> (nI r &&& 31)) &&& (1 : Int32)) = 1) ↔ (nI p / ((1 : Int32) <<< (nI r &&& 31)) - nI p / ((1 : Int32) <<< (nI r &&& 31)) / 2 * 2 = 1)) := by decide +kernel
  have h := key p (by omega) r h7
  by_cases c : ((nI p >>> (nI r &&& 31)) &&& (1 : Int32)) = 1
  · rw [if_pos c, if_pos (h.mp c)]
  · rw [if_neg c, if_neg (fun z => c (h.mpr z))]
/-- Sim's smuggler, by cases -/
theorem pass10_0 {j : Nat} (h : ρ.1 (44 + j) 2 = 0) : stX8_pass_10 j ρ = ρ := by
  unfold stX8_pass_10
  rw [if_pos h]
theorem pass10_A {j : Nat} (h1 : ρ.1 (44 + j) 2 = 1) (h2 : ρ.1 (44 + j) 3 - 1 = ρ.1 (44 + j) 0 / 2) (h3 : ¬ sX8_isThere_r ρ (ρ.1 29 0) = 0) : stX8_pass_10 j ρ = gu (gu (gu (gu ρ (44 + j) 3 (ρ.1 (44 + j) 3 - 1)) (44 + j) 2 2) (44 + j) 3 10) (44 + j) 4 (ρ.1 (44 + j) 4 + 1) := by
  have e1 : ∀ w, w ≠ 3 → (gu ρ (44 + j) 3 (ρ.1 (44 + j) 3 - 1)).1 (44 + j) w = ρ.1 (44 + j) w := fun w hw => by rw [gu_at, if_neg hw]
  have e2 : (gu ρ (44 + j) 3 (ρ.1 (44 + j) 3 - 1)).1 (44 + j) 3 = ρ.1 (44 + j) 3 - 1 := by rw [gu_at, if_pos rfl]
  have e9 : (gu ρ (44 + j) 3 (ρ.1 (44 + j) 3 - 1)).1 29 = ρ.1 29 := gu_ne (by omega)
  have e4 : (gu (gu (gu ρ (44 + j) 3 (ρ.1 (44 + j) 3 - 1)) (44 + j) 2 2) (44 + j) 3 10).1 (44 + j) 4 = ρ.1 (44 + j) 4 := by rw [gu_at, if_neg (by decide), gu_at, if_neg (by decide), gu_at, if_neg (by decide)]
  have n0 : ¬ ρ.1 (44 + j) 2 = 0 := by rw [h1]; decide
  have e7 : sX8_isThere_r (gu ρ (44 + j) 3 (ρ.1 (44 + j) 3 - 1)) (ρ.1 29 0) = sX8_isThere_r ρ (ρ.1 29 0) := isThere_at (congrFun e9 6)
  unfold stX8_pass_10
  dsimp only
  rw [if_neg n0, e1 2 (by decide), e1 0 (by decide), e2, congrFun e9 0, e7, if_pos h1, if_pos h2, if_neg h3, e4]
theorem pass10_B {j : Nat} (h0 : ¬ ρ.1 (44 + j) 2 = 0) (h1 : ¬ (ρ.1 (44 + j) 2 = 1 ∧ ρ.1 (44 + j) 3 - 1 = ρ.1 (44 + j) 0 / 2 ∧ ¬ sX8_isThere_r ρ (ρ.1 29 0) = 0)) : stX8_pass_10 j ρ = if ρ.1 (44 + j) 3 - 1 = 0 then gu (gu (gu ρ (44 + j) 3 (ρ.1 (44 + j) 3 - 1)) 30 1 (ρ.1 30 1 + (if ρ.1 (44 + j) 2 = 1 then ρ.1 (44 + j) 1 else 0))) (44 + j) 2 0 else gu ρ (44 + j) 3 (ρ.1 (44 + j) 3 - 1) := by
  have e1 : ∀ w, w ≠ 3 → (gu ρ (44 + j) 3 (ρ.1 (44 + j) 3 - 1)).1 (44 + j) w = ρ.1 (44 + j) w := fun w hw => by rw [gu_at, if_neg hw]
  have e2 : (gu ρ (44 + j) 3 (ρ.1 (44 + j) 3 - 1)).1 (44 + j) 3 = ρ.1 (44 + j) 3 - 1 := by rw [gu_at, if_pos rfl]
  have e9 : (gu ρ (44 + j) 3 (ρ.1 (44 + j) 3 - 1)).1 29 = ρ.1 29 := gu_ne (by omega)
  have e8 : (gu ρ (44 + j) 3 (ρ.1 (44 + j) 3 - 1)).1 30 = ρ.1 30 := gu_ne (by omega)
  have e7 : sX8_isThere_r (gu ρ (44 + j) 3 (ρ.1 (44 + j) 3 - 1)) (ρ.1 29 0) = sX8_isThere_r ρ (ρ.1 29 0) := isThere_at (congrFun e9 6)
  unfold stX8_pass_10
  dsimp only
  rw [if_neg h0, e1 2 (by decide), e1 0 (by decide), e1 1 (by decide), e2, congrFun e9 0, e7, congrFun e8 1]
  by_cases c1 : ρ.1 (44 + j) 2 = 1
  · by_cases c2 : ρ.1 (44 + j) 3 - 1 = ρ.1 (44 + j) 0 / 2
    · have c3 : sX8_isThere_r ρ (ρ.1 29 0) = 0 := Decidable.byContradiction fun c3 => h1 ⟨c1, c2, c3⟩
      rw [if_pos c1, if_pos c2, if_pos c3]
    · rw [if_pos c1, if_neg c2]
  · rw [if_neg c1]
theorem RQ.smugStep (h : RQ E τ ρ) (hb : NB E) {j : Nat} (hj : j < gNo E 2) (hl : τ.1 (15 + j) 2 = 0 ∨ 1 ≤ τ.1 (15 + j) 3) (hp : num τ 1 10 127) (hd : num τ 1 9 4999) : RQ E (stX6_travel_2 1 j τ) (stX8_pass_10 j ρ) := by
  have r0 := h.smug hj (w := 0) (by omega)
  have r1 := h.smug hj (w := 1) (by omega)
  have r2 := h.smug hj (w := 2) (by omega)
  have r3 := h.smug hj (w := 3) (by omega)
  have r4 := h.smug hj (w := 4) (by omega)
  have rB := h.beans
  have hP : sX6_patrolled_r τ 1 (τ.1 1 9) = sX8_isThere_r ρ (ρ.1 29 0) := by
    rw [← h.day, hd.1]
    exact patrol_eq hp.2 (by have := hd.2; omega) hp.1 (by rw [← h.patrol]; exact hp.1)
  have pw : ∀ w, w < 5 → PW E (15 + j) w (44 + j) w := fun w hw => by unfold PW; omega
  have pB : PW E 6 1 30 1 := by unfold PW; omega
  unfold stX6_travel_2
  rw [hP, show 1 + 14 + j = 15 + j by omega, show 1 + 5 = 6 from rfl]
  dsimp only
  generalize hq : sX8_isThere_r ρ (ρ.1 29 0) = q
  have add0 : ∀ X : gS, sX4_add_s X 6 1 0 = X := fun X => by
    unfold sX4_add_s
    rw [if_neg (by decide)]
    exact gu_id (i32_add0 _)
  by_cases c0 : τ.1 (15 + j) 2 = 0
  · have a1 : sX3_travel_s τ (15 + j) q = τ := by unfold sX3_travel_s; rw [if_pos c0]
    have a2 : sX3_travel_r τ (15 + j) q = 0 := by unfold sX3_travel_r; rw [if_pos c0]
    rw [a1, a2, add0, pass10_0 (by rw [← r2]; exact c0)]
    exact h
  · have hl1 := hl.resolve_left c0
    by_cases c1 : τ.1 (15 + j) 2 = 1 ∧ τ.1 (15 + j) 3 - 1 = τ.1 (15 + j) 0 / 2 ∧ ¬ q = 0
    · obtain ⟨a2, a1⟩ := travel_A c1.1 c1.2.1 c1.2.2
      rw [a1, a2, add0, pass10_A (by rw [← r2]; exact c1.1) (by rw [← r3, ← r0]; exact c1.2.1) (by rw [hq]; exact c1.2.2), ← r3, ← r4]
      exact (((h.put hb (pw 3 (by omega))).put hb (pw 2 (by omega))).put hb (pw 3 (by omega))).put hb (pw 4 (by omega))
    · obtain ⟨a2, a1⟩ := travel_B c0 c1
      rw [a1, a2, pass10_B (by rw [← r2]; exact c0) (by rw [← r2, ← r3, ← r0, hq]; exact c1), ← r1, ← r2, ← r3, ← rB]
      have hz := i32_pred0 hl1
      by_cases c2 : τ.1 (15 + j) 3 - 1 = 0
      · rw [if_pos (hz.mpr c2), if_pos (hz.mpr c2), if_pos c2]
        unfold sX4_add_s
        rw [if_neg (by decide)]
        have e6 : (gu (gu τ (15 + j) 3 (τ.1 (15 + j) 3 - 1)) (15 + j) 2 0).1 6 1 = τ.1 6 1 := by rw [gu_ne (by omega), gu_ne (by omega)]
        rw [e6, gu_comm (k := 30) (a := 44 + j) (Or.inl (by omega))]
        exact ((h.put hb (pw 3 (by omega))).put hb (pw 2 (by omega))).put hb pB
      · rw [if_neg (fun z => c2 (hz.mp z)), if_neg (fun z => c2 (hz.mp z)), if_neg c2, add0]
        exact h.put hb (pw 3 (by omega))
theorem gmin_le {a b : Int32} : gmin a b = if a ≤ b then a else b := by
  unfold gmin
  by_cases c : b < a
  · rw [if_pos c, if_neg (Int32.not_le.mpr c)]
  · rw [if_neg c, if_pos (Int32.not_lt.mp c)]
theorem RQ.drumStep (h : RQ E τ ρ) (hb : NB E) {j : Nat} (hj : j < gNo E 1) (hk : (τ.1 (11 + j) 2 = -1 ∧ τ.1 (11 + j) 4 = 0) ∨ ¬ τ.1 (11 + j) 2 < 0) : RQ E (stX6_warm_2 1 j τ) (stX8_pass_145 j ρ) := by
  have r1 := h.drum hj (w := 1) (by omega)
  have r2 := h.drum hj (w := 2) (by omega)
  have r4 := h.drum hj (w := 4) (by omega)
  have pw : PW E (11 + j) 4 (40 + j) 4 := by unfold PW; omega
  unfold stX6_warm_2 stX8_pass_145 sX2_warm_s sX2_levelAfter_r sX2_burnt_r sX8_burnt_r
  rw [show 1 + 10 + j = 11 + j by omega, ← r1, ← r2, ← r4]
  dsimp only
  rcases hk with ⟨k1, k2⟩ | k1
  · rw [if_pos k1, if_pos (by rw [k1]; decide), gu_id k2.symm]
    exact h
  · rw [if_neg (fun z => k1 (by rw [z]; decide)), if_neg k1, gmin_le]
    exact h.put hb pw
theorem RQ.bedStep (h : RQ E τ ρ) (hb : NB E) {j : Nat} (hj : j < gNo E 0) : RQ E (stX6_grow_2 1 j τ) (stX8_pass_220 j ρ) := by
  have r0 := h.bed hj (w := 0) (by omega)
  have r1 := h.bed hj (w := 1) (by omega)
  have r2 := h.bed hj (w := 2) (by omega)
  have pw : PW E (7 + j) 2 (36 + j) 2 := by unfold PW; omega
  unfold stX6_grow_2 stX8_pass_220 sX0_grow_s
  rw [show 1 + 6 + j = 7 + j by omega, ← r0, ← r1, ← r2, gmin_le]
  exact h.put hb pw
theorem pts_flat {k : Nat} {c : Int32} (hk : 48 ≤ k) : pts ρ k c = gu (gu (gu (gu (gu (gu ρ 31 1 (ρ.1 31 1 - c)) 31 0 (ρ.1 31 0 - (10 - c))) k 2 (ρ.1 k 2 - 1)) k 3 (ρ.1 k 3 + 1)) 29 3 (ρ.1 29 3 + 1)) 29 4 (ρ.1 29 4 + (if ρ.1 29 5 ≤ c then 0 else 1)) := by
  have n1 : k ≠ 31 := by omega
  have n2 : k ≠ 29 := by omega
  have n3 : 29 ≠ k := by omega
  have n4 : (29 : Nat) ≠ 31 := by decide
  unfold pts
  dsimp only
  have e0 : (gu ρ 31 1 (ρ.1 31 1 - c)).1 31 0 = ρ.1 31 0 := by rw [gu_at, if_neg (by decide)]
  rw [e0]
  generalize hB : gu (gu ρ 31 1 (ρ.1 31 1 - c)) 31 0 (ρ.1 31 0 - (10 - c)) = B
  have b1 : B.1 k = ρ.1 k := by rw [← hB, gu_ne n1, gu_ne n1]
  have b2 : B.1 29 = ρ.1 29 := by rw [← hB, gu_ne n4, gu_ne n4]
  have c1 : (gu B k 2 (B.1 k 2 - 1)).1 k 3 = ρ.1 k 3 := by rw [gu_at, if_neg (by decide), b1]
  rw [c1, b1]
  generalize hD : gu (gu B k 2 (ρ.1 k 2 - 1)) k 3 (ρ.1 k 3 + 1) = D
  have d1 : D.1 29 = ρ.1 29 := by rw [← hD, gu_ne n3, gu_ne n3, b2]
  have f1 : ∀ w, w ≠ 3 → (gu D 29 3 (D.1 29 3 + 1)).1 29 w = ρ.1 29 w := fun w hw => by rw [gu_at, if_neg hw, d1]
  rw [f1 4 (by decide), f1 5 (by decide), d1]
theorem RQ.cofE (h : RQ E τ ρ) : sX4_coffeeOfPortion_r τ 6 = cof ρ := by
  unfold sX4_coffeeOfPortion_r cof
  rw [gmin_le, h.share, h.coff]
/-- served at the class's -/
theorem one_pts {k : Nat} {c : Int32} (hk : k ≠ 6) : gu (gu (sX4_servePortion_s τ 6 c) k 2 ((sX4_servePortion_s τ 6 c).1 k 2 - 1)) k 3 ((gu (sX4_servePortion_s τ 6 c) k 2 ((sX4_servePortion_s τ 6 c).1 k 2 - 1)).1 k 3 + 1) =
    gu (gu (gu (gu (gu (gu τ 6 3 (τ.1 6 3 - c)) 6 2 (τ.1 6 2 - (10 - c))) k 2 (τ.1 k 2 - 1)) k 3 (τ.1 k 3 + 1)) 6 5 (τ.1 6 5 + 1)) 6 6 (τ.1 6 6 + (if τ.1 6 4 ≤ c then 0 else 1)) := by
  have e1 : (sX4_servePortion_s τ 6 c).1 k = τ.1 k := fX4_servePortion _ _ _ _ hk
  rw [e1, gu_at, if_neg (by decide), e1]
  unfold sX4_servePortion_s
  dsimp only
  by_cases c4 : τ.1 6 4 ≤ c
  · rw [if_pos c4, if_pos c4, i32_add0]
    refine Prod.ext ?_ ?_
    · funext x y
      simp only [gu]
      grind
    · rfl
  · rw [if_neg c4, if_neg c4]
    refine Prod.ext ?_ ?_
    · funext x y
      simp only [gu]
      grind
    · rfl
theorem le0 {x : Nat} (h : x < 2 ^ 31) : (nI x ≤ 0) ↔ nI x = 0 := by
  constructor
  · intro q
    have := (nI_leI (b := 0) h (by decide)).mp q
    rw [show x = 0 by omega]
    rfl
  · intro q
    rw [q]
    exact Int32.le_refl _
theorem RQ.one (h : RQ E τ ρ) (hb : NB E) {j : Nat} (hj : j < gNo E 3) (hl : num τ (19 + j) 2 9) : RQ E (sX1_serveOne_s τ (19 + j) 6) (it2 ρ (48 + j)) ∧ (sX1_serveOne_r τ (19 + j) 6 = 0 → it1 ρ (48 + j) = it2 ρ (48 + j)) ∧ (¬ sX1_serveOne_r τ (19 + j) 6 = 0 → it1 ρ (48 + j) = it2 (it2 ρ (48 + j)) (48 + j)) := by
  have r1 := h.card hj (w := 1) (by omega)
  have r2 := h.card hj (w := 2) (by omega)
  have r3 := h.card hj (w := 3) (by omega)
  have r4 := h.card hj (w := 4) (by omega)
  have hC := h.cofE
  have hc := h.chic
  have hz : (ρ.1 (48 + j) 2 ≤ 0) ↔ τ.1 (19 + j) 2 = 0 := by
    rw [← r2, hl.1]
    exact le0 (by have := hl.2; omega)
  have pw : ∀ w, w < 5 → PW E (19 + j) w (48 + j) w := fun w hw => by unfold PW; omega
  have p0 : PW E 6 2 31 0 := by unfold PW; omega
  have p1 : PW E 6 3 31 1 := by unfold PW; omega
  have p5 : PW E 6 5 29 3 := by unfold PW; omega
  have p6 : PW E 6 6 29 4 := by unfold PW; omega
  unfold sX1_serveOne_s sX1_serveOne_r it1 it2 sX4_canMix_r
  dsimp only
  rw [hC]
  by_cases c1 : τ.1 (19 + j) 2 = 0
  · simp only [if_pos c1, if_pos (hz.mpr c1)]
    exact ⟨h, fun _ => trivial, fun z => absurd trivial z⟩
  · have c1' : ¬ ρ.1 (48 + j) 2 ≤ 0 := fun z => c1 (hz.mp z)
    simp only [if_neg c1, if_neg c1']
    by_cases c2 : τ.1 6 2 < 10 - cof ρ
    · have c2' : ¬ 10 - cof ρ ≤ ρ.1 31 0 := by rw [← hc]; exact Int32.not_le.mpr c2
      simp only [if_pos c2, if_neg c2', if_true]
      exact ⟨h, fun _ => trivial, fun z => absurd trivial z⟩
    · have c2' : 10 - cof ρ ≤ ρ.1 31 0 := by rw [← hc]; exact Int32.not_lt.mp c2
      simp only [if_neg c2, if_pos c2', show ¬ ((1 : Int32) = 0) by decide, if_false]
      by_cases c3 : τ.1 (19 + j) 1 ≤ cof ρ
      · have c3' : ρ.1 (48 + j) 1 ≤ cof ρ := by rw [← r1]; exact c3
        simp only [if_pos c3, if_pos c3']
        refine ⟨?_, fun z => absurd z (by decide), fun _ => trivial⟩
        rw [one_pts (by omega), pts_flat (by omega), ← r2, ← r3, ← hc, ← h.coff, ← h.served, ← h.thin, ← h.share]
        exact (((((h.put hb p1).put hb p0).put hb (pw 2 (by omega))).put hb (pw 3 (by omega))).put hb p5).put hb p6
      · have c3' : ¬ ρ.1 (48 + j) 1 ≤ cof ρ := by rw [← r1]; exact c3
        simp only [if_neg c3, if_neg c3']
        rw [← r4]
        exact ⟨h.put hb (pw 4 (by omega)), fun _ => trivial, fun z => absurd trivial z⟩
theorem one_left {k : Nat} (hk : k ≠ 6) (hl : num τ k 2 9) : num (sX1_serveOne_s τ k 6) k 2 9 := by
  unfold sX1_serveOne_s
  by_cases c1 : τ.1 k 2 = 0
  · rw [if_pos c1]
    exact hl
  · rw [if_neg c1]
    split
    · exact hl
    · split
      · dsimp only
        have e1 : (sX4_servePortion_s τ 6 (sX4_coffeeOfPortion_r τ 6)).1 k = τ.1 k := fX4_servePortion _ _ _ _ hk
        have hx : 1 ≤ cv τ k 2 := Nat.pos_of_ne_zero (fun z => c1 (by rw [hl.1, z]; rfl))
        have e2 : (gu (gu (sX4_servePortion_s τ 6 (sX4_coffeeOfPortion_r τ 6)) k 2 ((sX4_servePortion_s τ 6 (sX4_coffeeOfPortion_r τ 6)).1 k 2 - 1)) k 3 ((gu (sX4_servePortion_s τ 6 (sX4_coffeeOfPortion_r τ 6)) k 2 ((sX4_servePortion_s τ 6 (sX4_coffeeOfPortion_r τ 6)).1 k 2 - 1)).1 k 3 + 1)).1 k 2 = nI (cv τ k 2 - 1) := by
          rw [gu_at, if_neg (by decide), gu_at, if_pos rfl, e1, hl.1]
          exact pk_sub (b := 1) hx
        exact (num.of e2 (by have := hl.2; omega) (by decide)).1
      · exact hl.eq (by rw [gu_at, if_neg (by decide)])
theorem RQ.serveDay (h : RQ E τ ρ) (hb : NB E) {j : Nat} (hj : j < gNo E 3) (hl : num τ (19 + j) 2 9) : RQ E (sX1_serveDay_s τ (19 + j) 6) (it1 ρ (48 + j)) := by
  obtain ⟨h1, e0, e1⟩ := h.one hb hj hl
  obtain ⟨h2, _, _⟩ := h1.one hb hj (one_left (by omega) hl)
  unfold sX1_serveDay_s
  dsimp only
  by_cases c : sX1_serveOne_r τ (19 + j) 6 = 0
  · rw [if_pos c, e0 c]
    exact h1
  · rw [if_neg c, e1 c]
    split <;> exact h2
theorem RQ.cardStep (h : RQ E τ ρ) (hb : NB E) {j : Nat} (hj : j < gNo E 3) (hl : num τ (19 + j) 2 9) (ha : num τ (19 + j) 0 9) (p : Int32) : RQ E (stX6_serve_4 1 j (τ, p)).1 (stX8_pass_282 j ρ) := by
  have r0 := h.card hj (w := 0) (by omega)
  have pw : ∀ w, w < 5 → PW E (19 + j) w (48 + j) w := fun w hw => by unfold PW; omega
  unfold stX6_serve_4
  rw [pass282, ← h.day, show 1 + 18 + j = 19 + j by omega, show 1 + 5 = 6 from rfl]
  dsimp only
  by_cases c : τ.1 1 9 - τ.1 1 9 / 7 * 7 = 0
  · rw [if_pos c, if_pos c]
    unfold sX1_renew_s
    dsimp only
    rw [← r0]
    exact (h.put hb (pw 2 (by omega))).serveDay hb hj (ha.eq (by rw [gu_at, if_pos rfl]))
  · rw [if_neg c, if_neg c]
    exact h.serveDay hb hj hl
end TR
