/-! the law's start: what its tables and premises give, the world as it begins -/
theorem n_row {D : va_G} {cl : List vw_C} {q n : Nat} {c : ClassId} {f g : Nat → Option Nat} {H : Heap} (h : va_at D cl (q, .inl (c, n, .inr (.inr (.inr (.inr f))))) H) (e : ∀ j, j < n → f j = g j) : va_at D cl (q, .inl (c, n, .inr (.inr (.inr (.inr g))))) H := by
  have e1 : (Array.ofFn (n := n) fun j => va_rf (f j.val)) = Array.ofFn (n := n) fun j => va_rf (g j.val) := by
    congr 1
    funext j
    rw [e j.1 j.2]
  have e2 : vp_cell c (n, .inr (.inr (.inr (.inr f)))) = vp_cell c (n, .inr (.inr (.inr (.inr g)))) := by
    rw [vp_cell_q, vp_cell_q]
    unfold arrV
    rw [e1]
  show H[q]? = some (vp_cell c (n, .inr (.inr (.inr (.inr g)))))
  rw [← e2]
  exact h
abbrev nW (q : Nat) (a b r : Nat → Nat) (ql : Nat) (c : Nat → ClassId) (ci cl : ClassId) : va_W := (nR q a b c ++ nM r ci) ++ [(ql, .inl (cl, 1, .inr (.inl (fun _ => 0))))]
abbrev nE (D : va_G) (q : Nat) (a b r : Nat → Nat) (ql : Nat) (c : Nat → ClassId) (ci cl : ClassId) : gT :=
  (D, fun i => [ci, cl, c 0, c 1, c 2, c 3].getD i 0, fun k => if k = 0 then q else if k < 29 then a (k - 1) else if k < 57 then b (k - 29) else if k < 64 then r (k - 57) else ql)
def nF : Nat → Nat → Int32 := fun k => if k = 6 ∨ k = 34 then (fun j => if j = 4 then 5 else 0) else if (11 ≤ k ∧ k < 15) ∨ (39 ≤ k ∧ k < 43) then (fun j => if j = 2 then -1 else 0) else if k = 62 then upd (fun _ => 0) 7 5 else fun _ => 0
def nS : gS := (nF, fun _ => 0)
section NH
variable {D : va_G} {q ql : Nat} {a b r : Nat → Nat} {c : Nat → ClassId} {ci cl : ClassId} {H : Heap}
set_option maxRecDepth 100000 in
theorem n_adr : ∀ k, k < 65 → ∃ e, (nW q a b r ql c ci cl)[k]? = some ((nE D q a b r ql c ci cl).2.2 k, e) := by
  intro k hk
  match k, hk with
  | 0, _ => exact ⟨_, rfl⟩
  | 1, _ => exact ⟨_, rfl⟩
  | 2, _ => exact ⟨_, rfl⟩
  | 3, _ => exact ⟨_, rfl⟩
  | 4, _ => exact ⟨_, rfl⟩
  | 5, _ => exact ⟨_, rfl⟩
  | 6, _ => exact ⟨_, rfl⟩
  | 7, _ => exact ⟨_, rfl⟩
  | 8, _ => exact ⟨_, rfl⟩
  | 9, _ => exact ⟨_, rfl⟩
  | 10, _ => exact ⟨_, rfl⟩
  | 11, _ => exact ⟨_, rfl⟩
  | 12, _ => exact ⟨_, rfl⟩
  | 13, _ => exact ⟨_, rfl⟩
  | 14, _ => exact ⟨_, rfl⟩
  | 15, _ => exact ⟨_, rfl⟩
  | 16, _ => exact ⟨_, rfl⟩
  | 17, _ => exact ⟨_, rfl⟩
  | 18, _ => exact ⟨_, rfl⟩
  | 19, _ => exact ⟨_, rfl⟩
  | 20, _ => exact ⟨_, rfl⟩
  | 21, _ => exact ⟨_, rfl⟩
  | 22, _ => exact ⟨_, rfl⟩
  | 23, _ => exact ⟨_, rfl⟩
  | 24, _ => exact ⟨_, rfl⟩
  | 25, _ => exact ⟨_, rfl⟩
  | 26, _ => exact ⟨_, rfl⟩
  | 27, _ => exact ⟨_, rfl⟩
  | 28, _ => exact ⟨_, rfl⟩
  | 29, _ => exact ⟨_, rfl⟩
  | 30, _ => exact ⟨_, rfl⟩
  | 31, _ => exact ⟨_, rfl⟩
  | 32, _ => exact ⟨_, rfl⟩
  | 33, _ => exact ⟨_, rfl⟩
  | 34, _ => exact ⟨_, rfl⟩
  | 35, _ => exact ⟨_, rfl⟩
  | 36, _ => exact ⟨_, rfl⟩
  | 37, _ => exact ⟨_, rfl⟩
  | 38, _ => exact ⟨_, rfl⟩
  | 39, _ => exact ⟨_, rfl⟩
  | 40, _ => exact ⟨_, rfl⟩
  | 41, _ => exact ⟨_, rfl⟩
  | 42, _ => exact ⟨_, rfl⟩
  | 43, _ => exact ⟨_, rfl⟩
  | 44, _ => exact ⟨_, rfl⟩
  | 45, _ => exact ⟨_, rfl⟩
  | 46, _ => exact ⟨_, rfl⟩
  | 47, _ => exact ⟨_, rfl⟩
  | 48, _ => exact ⟨_, rfl⟩
  | 49, _ => exact ⟨_, rfl⟩
  | 50, _ => exact ⟨_, rfl⟩
  | 51, _ => exact ⟨_, rfl⟩
  | 52, _ => exact ⟨_, rfl⟩
  | 53, _ => exact ⟨_, rfl⟩
  | 54, _ => exact ⟨_, rfl⟩
  | 55, _ => exact ⟨_, rfl⟩
  | 56, _ => exact ⟨_, rfl⟩
  | 57, _ => exact ⟨_, rfl⟩
  | 58, _ => exact ⟨_, rfl⟩
  | 59, _ => exact ⟨_, rfl⟩
  | 60, _ => exact ⟨_, rfl⟩
  | 61, _ => exact ⟨_, rfl⟩
  | 62, _ => exact ⟨_, rfl⟩
  | 63, _ => exact ⟨_, rfl⟩
  | 64, _ => exact ⟨_, rfl⟩
  | k + 65, h => exact absurd h (by omega)
set_option maxRecDepth 100000 in
set_option maxHeartbeats 4000000 in
theorem n_gl (hP : va_P D vwCl (nW q a b r ql c ci cl) H) : va_P D vwCl (gl (nE D q a b r ql c ci cl) nS) H := by
  intro k x hk
  have hlt : k < 65 := by have := (List.getElem?_eq_some_iff.mp hk).1; rwa [gl_len] at this
  rw [gl_at hlt] at hk
  cases hk
  match k, hlt with
  | 0, _ => exact hP 0 _ rfl
  | 1, _ => exact hP 1 _ rfl
  | 2, _ => exact n_row (hP 2 _ rfl) (fun j hj => by match j, hj with | 0, _ => rfl | 1, _ => rfl | 2, _ => rfl | 3, _ => rfl | j + 4, h => exact absurd h (by omega))
  | 3, _ => exact n_row (hP 3 _ rfl) (fun j hj => by match j, hj with | 0, _ => rfl | 1, _ => rfl | 2, _ => rfl | 3, _ => rfl | j + 4, h => exact absurd h (by omega))
  | 4, _ => exact n_row (hP 4 _ rfl) (fun j hj => by match j, hj with | 0, _ => rfl | 1, _ => rfl | 2, _ => rfl | 3, _ => rfl | j + 4, h => exact absurd h (by omega))
  | 5, _ => exact n_row (hP 5 _ rfl) (fun j hj => by match j, hj with | 0, _ => rfl | 1, _ => rfl | 2, _ => rfl | 3, _ => rfl | 4, _ => rfl | 5, _ => rfl | 6, _ => rfl | 7, _ => rfl | 8, _ => rfl | 9, _ => rfl | j + 10, h => exact absurd h (by omega))
  | 6, _ => exact hP 6 _ rfl
  | 7, _ => exact hP 7 _ rfl
  | 8, _ => exact hP 8 _ rfl
  | 9, _ => exact hP 9 _ rfl
  | 10, _ => exact hP 10 _ rfl
  | 11, _ => exact hP 11 _ rfl
  | 12, _ => exact hP 12 _ rfl
  | 13, _ => exact hP 13 _ rfl
  | 14, _ => exact hP 14 _ rfl
  | 15, _ => exact hP 15 _ rfl
  | 16, _ => exact hP 16 _ rfl
  | 17, _ => exact hP 17 _ rfl
  | 18, _ => exact hP 18 _ rfl
  | 19, _ => exact hP 19 _ rfl
  | 20, _ => exact hP 20 _ rfl
  | 21, _ => exact hP 21 _ rfl
  | 22, _ => exact hP 22 _ rfl
  | 23, _ => exact hP 23 _ rfl
  | 24, _ => exact hP 24 _ rfl
  | 25, _ => exact hP 25 _ rfl
  | 26, _ => exact hP 26 _ rfl
  | 27, _ => exact hP 27 _ rfl
  | 28, _ => exact hP 28 _ rfl
  | 29, _ => exact hP 29 _ rfl
  | 30, _ => exact n_row (hP 30 _ rfl) (fun j hj => by match j, hj with | 0, _ => rfl | 1, _ => rfl | 2, _ => rfl | 3, _ => rfl | j + 4, h => exact absurd h (by omega))
  | 31, _ => exact n_row (hP 31 _ rfl) (fun j hj => by match j, hj with | 0, _ => rfl | 1, _ => rfl | 2, _ => rfl | 3, _ => rfl | j + 4, h => exact absurd h (by omega))
  | 32, _ => exact n_row (hP 32 _ rfl) (fun j hj => by match j, hj with | 0, _ => rfl | 1, _ => rfl | 2, _ => rfl | 3, _ => rfl | j + 4, h => exact absurd h (by omega))
  | 33, _ => exact n_row (hP 33 _ rfl) (fun j hj => by match j, hj with | 0, _ => rfl | 1, _ => rfl | 2, _ => rfl | 3, _ => rfl | 4, _ => rfl | 5, _ => rfl | 6, _ => rfl | 7, _ => rfl | 8, _ => rfl | 9, _ => rfl | j + 10, h => exact absurd h (by omega))
  | 34, _ => exact hP 34 _ rfl
  | 35, _ => exact hP 35 _ rfl
  | 36, _ => exact hP 36 _ rfl
  | 37, _ => exact hP 37 _ rfl
  | 38, _ => exact hP 38 _ rfl
  | 39, _ => exact hP 39 _ rfl
  | 40, _ => exact hP 40 _ rfl
  | 41, _ => exact hP 41 _ rfl
  | 42, _ => exact hP 42 _ rfl
  | 43, _ => exact hP 43 _ rfl
  | 44, _ => exact hP 44 _ rfl
  | 45, _ => exact hP 45 _ rfl
  | 46, _ => exact hP 46 _ rfl
  | 47, _ => exact hP 47 _ rfl
  | 48, _ => exact hP 48 _ rfl
  | 49, _ => exact hP 49 _ rfl
  | 50, _ => exact hP 50 _ rfl
  | 51, _ => exact hP 51 _ rfl
  | 52, _ => exact hP 52 _ rfl
  | 53, _ => exact hP 53 _ rfl
  | 54, _ => exact hP 54 _ rfl
  | 55, _ => exact hP 55 _ rfl
  | 56, _ => exact hP 56 _ rfl
  | 57, _ => exact hP 57 _ rfl
  | 58, _ => exact hP 58 _ rfl
  | 59, _ => exact hP 59 _ rfl
  | 60, _ => exact hP 60 _ rfl
  | 61, _ => exact hP 61 _ rfl
  | 62, _ => exact hP 62 _ rfl
  | 63, _ => exact hP 63 _ rfl
  | 64, _ => exact hP 64 _ rfl
  | k + 65, h => exact absurd h (by omega)
end NH
theorem n_iv : IV 0 nS := by
  have m0 : ∀ j, j < 5 → mB nS j = 0 := by decide +kernel
  have h1 : ∀ q, q < 5 → nF 1 (4 + q) = nF 57 q := by decide +kernel
  have b1 : ∀ i, i < 4 → ∀ w, w < 2 → nF (1 + 6 + i) w = nF 58 (2 * i + w) := by decide +kernel
  have b2 : ∀ i, i < 4 → nF (1 + 6 + i) 2 = nF 62 (10 + i) := by decide +kernel
  have d0 : ∀ i, i < 4 → nF (1 + 10 + i) 0 = nF 59 i := by decide +kernel
  have d1 : ∀ i, i < 4 → ∀ w, w < 4 → (w = 1 → i < 0) → nF (1 + 10 + i) (1 + w) = nF 62 (14 + 4 * i + w) := by decide +kernel
  have s1 : ∀ i, i < 4 → ∀ w, w < 2 → nF (1 + 14 + i) w = nF 60 (2 * i + w) := by decide +kernel
  have s2 : ∀ i, i < 4 → ∀ w, w < 3 → nF (1 + 14 + i) (2 + w) = nF 62 (30 + 3 * i + w) := by decide +kernel
  have k1 : ∀ i, i < 10 → ∀ w, w < 2 → nF (1 + 18 + i) w = nF 61 (2 * i + w) := by decide +kernel
  have k2 : ∀ i, i < 10 → ∀ w, w < 3 → nF (1 + 18 + i) (2 + w) = nF 62 (42 + 3 * i + w) := by decide +kernel
  have n1 : ∀ s, s < 4 → nF 62 (30 + 3 * s) = 0 ∨ 1 ≤ nF 62 (30 + 3 * s + 1) := by decide +kernel
  have n2 : ∀ d, d < 4 → nF 62 (14 + 4 * d + 1) = -1 → nF 62 (14 + 4 * d + 3) = 0 := by decide +kernel
  have n3 : ∀ d, d < 4 → (0 ≤ nF 62 (14 + 4 * d) ∧ nF 62 (14 + 4 * d) ≤ 9) ∧ (0 ≤ nF 62 (14 + 4 * d + 3) ∧ nF 62 (14 + 4 * d + 3) ≤ 24) := by decide +kernel
  have o1 : ∀ d, d < 4 → nF 62 (14 + 4 * d + 1) = -1 ∨ nF 62 (14 + 4 * d + 1) = 0 ∨ nF 62 (14 + 4 * d + 1) = 1 := by decide +kernel
  have z1 : ∀ d, d < 4 → nF (1 + 10 + d) 2 = -1 ∧ nF 62 (14 + 4 * d + 3) = 0 := by decide +kernel
  have z2 : ∀ c, c < 10 → nF 62 (42 + 3 * c) = 0 ∧ nF 62 (42 + 3 * c + 1) = 0 := by decide +kernel
  have j1 : ∀ j, j < 5 → 1 ≤ j → nF 57 j = nI (mB nS j) := by decide +kernel
  refine IV.mk ⟨⟨by decide, by decide, by decide, by decide⟩, fun q _ h => h1 q (by omega), by decide +kernel, by decide +kernel, by decide +kernel, by decide +kernel, by decide +kernel, by decide +kernel, by decide +kernel, by decide +kernel, by decide +kernel,
      fun i w h0 h1 => b1 i h0 w h1, fun i h0 => b2 i h0, fun i h0 => d0 i h0, fun i w h0 h1 h2 => d1 i h0 w h1 (fun e => by have := h2 e; rw [m0 2 (by decide)] at this; exact this), fun i w h0 h1 => s1 i h0 w h1, fun i w h0 h1 => s2 i h0 w h1, fun i w h0 h1 => k1 i h0 w h1, fun i w h0 h1 => k2 i h0 w h1⟩
    ⟨n1, n2, n3⟩ ⟨fun j g1 g2 => ⟨j1 j (by omega) g1, by rw [m0 j (by omega)]; exact Nat.zero_le _⟩, o1⟩
    ⟨fun d _ h => z1 d h, fun c _ h => z2 c h, fun s h => by rw [m0 3 (by decide)] at h; exact absurd h (Nat.not_lt_zero _)⟩ ⟨⟨by decide +kernel, by decide +kernel⟩, ?_⟩
  rw [m0 4 (by decide)]
  decide +kernel
/-! the tables' words and the premises, as the walks want them -/
section NC
variable {args : Array Value} {s : State}
theorem n_Z (hts : ∀ w ∈ lw_tbl, w.before args s = true) : nZ s :=
  ⟨⟨va_Nw.of rfl (hts (.methodLinkNest RX0 1 yX5_init RX7) (by decide +kernel)), va_Nw.of rfl (hts (.methodLinkNest RX1 3 yX5_init RX7) (by decide +kernel)), va_Nw.of rfl (hts (.methodLinkNest RX2 3 yX5_init RX7) (by decide +kernel)), va_Nw.of rfl (hts (.methodLinkNest RX3 3 yX5_init RX7) (by decide +kernel)), va_Nw.of rfl (hts (.methodLinkNest RX6 3 yX5_init RX7) (by decide +kernel)),
    va_Nw.of rfl (hts (.methodLinkNest RX6 37 yX4_init RX7) (by decide +kernel)), va_Nw.of rfl (hts (.methodLinkNest RX6 42 yX0_init RX7) (by decide +kernel)), va_Nw.of rfl (hts (.methodLinkNest RX6 43 yX2_init RX7) (by decide +kernel)), va_Nw.of rfl (hts (.methodLinkNest RX6 44 yX3_init RX7) (by decide +kernel)), va_Nw.of rfl (hts (.methodLinkNest RX6 45 yX1_init RX7) (by decide +kernel))⟩,
    va_AO.of (hts (.arrayOver (.object RX0)) (by decide +kernel)), va_AO.of (hts (.arrayOver (.object RX2)) (by decide +kernel)), va_AO.of (hts (.arrayOver (.object RX3)) (by decide +kernel)), va_AO.of (hts (.arrayOver (.object RX1)) (by decide +kernel))⟩
theorem n_F (hts : ∀ w ∈ lw_tbl, w.before args s = true) (hgv : (Jvm.Cond.and given_1 narrow_1).before args s = true) : gF s := by
  have hs := flat_of_before _ hgv
  refine ⟨⟨va_Nw.of rfl (hts (.declares ⟨RX5, "size", "()I"⟩) (by decide +kernel)), va_Nw.of rfl (hts (.declares ⟨RX5, "tell", "(I)I"⟩) (by decide +kernel)), va_Nw.of rfl (hts (.declares (Bundle.initS "java/lang/RuntimeException")) (by decide +kernel)), va_Nw.of rfl (hts (.declares (Bundle.initS "java/lang/Exception")) (by decide +kernel)), va_Nw.of rfl (hts (.declares (Bundle.initS Bundle.tN)) (by decide +kernel))⟩,
    ⟨va_Nw.of rfl (hts (.castable gIA gIA) (by decide +kernel)), va_Nw.of rfl (hts (.castable gIS gIS) (by decide +kernel)), va_Nw.of rfl (hts (.castable gIO gIO) (by decide +kernel))⟩,
    va_Nc.of (hs (.not (.castable gIS gIA)) (by decide +kernel)), va_Nc.of (hs (.not (.castable gIA gIO)) (by decide +kernel)), va_Nc.of (hs (.not (.castable gIS gIO)) (by decide +kernel)), va_Nc.of (hs (.not (.castable gIO gIA)) (by decide +kernel))⟩
theorem n_str {k : Nat} {tx : String} (h1 : (Cond.stringRef RX7 k tx).before args s = true) (h2 : (Cond.exactly (.string RX7 k) "java/lang/String").before args s = true) : ∃ a, vk_R RX7 k tx a s := by
  obtain ⟨a, c, cA, kA, q1, _⟩ := Cond.exactly_spec (args := args) (first := s) (o := none) (s := s) (idx := []) (t := .string RX7 k) (cls := "java/lang/String") h2
  exact ⟨a, vk_R.of h1 q1⟩
theorem n_tab {n : String} {x y : Int32} {A : Nat → Prop} (hA : ∀ a : Nat, a < s.heap.size → ¬ A a) (hl : (Cond.laysStatic RX8 n "[I").before args s = true) (hini : (Cond.initialized RX8).before args s = true)
    (h1 : (Cond.arrayOf (.static RX8 n "[I") .int).before args s = true) (h2 : (Cond.eq (.length (.static RX8 n "[I")) (.int 2)).before args s = true) (h3 : (Cond.eq (.elem (.static RX8 n "[I") (.int 0)) (.int x)).before args s = true) (h4 : (Cond.eq (.elem (.static RX8 n "[I") (.int 1)) (.int y)).before args s = true) :
    ∃ t, va_Z RX8 n "[I" (.ref t) A s s.heap ∧ va_T .int t 2 (fun j => .int (if j = 0 then x else y)) A s s.heap := by
  obtain ⟨t, ht, hT⟩ := va_Tof (N := 2) (f := fun j => .int (if j = 0 then x else y)) (A := A) (by decide) h1 (va_eqt h2) (fun j hj => by
    match j, hj with
    | 0, _ => exact va_eqt h3
    | 1, _ => exact va_eqt h4
    | j + 2, h => exact absurd h (by omega)) hA
  exact ⟨t, va_Zref hl hini ht hA, hT⟩
theorem n_X {A : Nat → Prop} (hA : ∀ a : Nat, a < s.heap.size → ¬ A a) (hts : ∀ w ∈ lw_tbl, w.before args s = true) (hgv : (Jvm.Cond.and given_1 narrow_1).before args s = true) : gX A s s.heap := by
  have hs := flat_of_before _ hgv
  refine ⟨⟨vx_Zqof (hts (.laysStatic Bundle.tN "UNASSIGNED_STACK" Bundle.steD) (by decide +kernel)) (hts (.initialized Bundle.tN) (by decide +kernel)) (hs (.isRef (.static Bundle.tN "UNASSIGNED_STACK" Bundle.steD)) (by decide +kernel)) hA,
      vx_Zqof (hts (.laysStatic Bundle.tN "SUPPRESSED_SENTINEL" Bundle.listD) (by decide +kernel)) (hts (.initialized Bundle.tN) (by decide +kernel)) (hs (.isRef (.static Bundle.tN "SUPPRESSED_SENTINEL" Bundle.listD)) (by decide +kernel)) hA⟩,
    ⟨n_str (hts (.stringRef RX7 141 "only 1 to 6 can be foreseen") (by decide +kernel)) (hs (.exactly (.string RX7 141) "java/lang/String") (by decide +kernel)), n_str (hts (.stringRef RX7 180 "there is no such number") (by decide +kernel)) (hs (.exactly (.string RX7 180) "java/lang/String") (by decide +kernel)),
      n_str (hts (.stringRef RX7 184 "the number is too small or too great") (by decide +kernel)) (hs (.exactly (.string RX7 184) "java/lang/String") (by decide +kernel)), n_str (hts (.stringRef RX7 189 "this cannot be done as things are") (by decide +kernel)) (hs (.exactly (.string RX7 189) "java/lang/String") (by decide +kernel))⟩, ?_, ?_, ?_⟩
  · exact n_tab hA (hts (.laysStatic RX8 "DONE" "[I") (by decide +kernel)) (hts (.initialized RX8) (by decide +kernel)) (hs (.arrayOf (.static RX8 "DONE" "[I") .int) (by decide +kernel)) (hs (.eq (.length (.static RX8 "DONE" "[I")) (.int 2)) (by decide +kernel)) (hs (.eq (.elem (.static RX8 "DONE" "[I") (.int 0)) (.int 12)) (by decide +kernel)) (hs (.eq (.elem (.static RX8 "DONE" "[I") (.int 1)) (.int 8)) (by decide +kernel))
  · exact n_tab hA (hts (.laysStatic RX8 "BURNT" "[I") (by decide +kernel)) (hts (.initialized RX8) (by decide +kernel)) (hs (.arrayOf (.static RX8 "BURNT" "[I") .int) (by decide +kernel)) (hs (.eq (.length (.static RX8 "BURNT" "[I")) (.int 2)) (by decide +kernel)) (hs (.eq (.elem (.static RX8 "BURNT" "[I") (.int 0)) (.int 24)) (by decide +kernel)) (hs (.eq (.elem (.static RX8 "BURNT" "[I") (.int 1)) (.int 15)) (by decide +kernel))
  · exact n_tab hA (hts (.laysStatic RX8 "TIMES" "[I") (by decide +kernel)) (hts (.initialized RX8) (by decide +kernel)) (hs (.arrayOf (.static RX8 "TIMES" "[I") .int) (by decide +kernel)) (hs (.eq (.length (.static RX8 "TIMES" "[I")) (.int 2)) (by decide +kernel)) (hs (.eq (.elem (.static RX8 "TIMES" "[I") (.int 0)) (.int 6)) (by decide +kernel)) (hs (.eq (.elem (.static RX8 "TIMES" "[I") (.int 1)) (.int 8)) (by decide +kernel))
end NC
