section AC
variable {p : Program} {l : Launch} {e : Env} {s : State} {m : MethodId} {args : Array Value} {below : List Frame} {meth : Method} {c : Code} {E E0 : gT} {σ σ0 : gS} {D B S0 : Nat} {x : Int32}

set_option maxRecDepth 100000 in
set_option maxHeartbeats 4000000 in
theorem act_bed2 (C : gAC p l s m args meth c E0 σ0 D B S0) {a q n x1 y1 : Nat} (hn : gNo E0 0 = n) (hn4 : n < 4) (hx : x1 ≤ 9) (hy1 : 1 ≤ y1) (hy : y1 ≤ 99) (hE : E = gmv E0 0 a q) (hσ : σ = gwr σ0 (36 + n) (upd (upd (upd (fun _ => 0) 0 (nI x1)) 1 (nI y1)) 2 (0))) : gJA p l e s m args below meth c E0 D B S0 E σ 2 16 149 [(0, .ref (E.2.2 0)), (1, .ref (E.2.2 29)), (2, .int x)] [] := by
  have hiX8 : ∀ w ∈ wsX80, w ∈ wsL_act := by decide +kernel
  obtain ⟨S, hr, hlocks, hC0, hfl, hX, ⟨hN, hR⟩, hD, hB, hS⟩ := id C
  have hI : INV E0 D B S0 σ0 := ⟨hN, hR⟩
  have hb0 := NB.of hC0
  have hq : gqR 0 (gNo E0 0) := by rw [hn]; unfold gqR; omega
  have hC : gC E s := by rw [hE]; exact hC0.mv (by decide) (by rw [hn]; exact hn4)
  have hA : AR E0 E := by rw [hE]; exact AR.mv0 hX hb0 hq
  have hno : gNo E 0 = n + 1 := by rw [hE, gmv_n0, hn]
  have hcn : CNi E0 σ := hN.1.at (fun j _ _ => by rw [hσ, gwr_ne (by omega)])
  have htb : tB σ 1 5 = n := by rw [hcn.2.1]; exact hn
  have er0 : σ.1 (36 + n) 0 = nI x1 := by rw [hσ, gwr_at]; simp [upd]
  have er1 : σ.1 (36 + n) 1 = nI y1 := by rw [hσ, gwr_at]; simp [upd]
  unfold gJA
  refine g_aload_n S 0 dL_act_149 rfl ?_
  refine g_aload_n S 1 dL_act_150 rfl ?_
  refine gg7r S hC hiX8 7 32 (by decide) (by decide +kernel) dL_act_151 ?_
  refine g_aload_n S 1 dL_act_154 rfl ?_
  refine gg7r S hC hiX8 7 32 (by decide) (by decide +kernel) dL_act_155 ?_
  refine g_alenR S hC 0 rfl (by decide) dL_act_158 ?_
  refine g_const S dL_act_159 (v := 1) rfl ?_
  refine g_isub S dL_act_160 ?_
  refine g_top (y := nI n) (by rw [hno]; exact nI_pred n) ?_
  refine g_aaldR S hC 0 rfl (by decide) n rfl (by first | assumption | omega) (36 + n) (by omega) dL_act_161 ?_
  refine g_const S dL_act_162 (v := 0) rfl ?_
  refine g_ialdR S hC 0 n (by omega) (by decide) (by first | assumption | omega) 0 rfl (by decide) dL_act_163 ?_
  refine g_aload_n S 1 dL_act_164 rfl ?_
  refine gg7r S hC hiX8 7 32 (by decide) (by decide +kernel) dL_act_165 ?_
  refine g_aload_n S 1 dL_act_168 rfl ?_
  refine gg7r S hC hiX8 7 32 (by decide) (by decide +kernel) dL_act_169 ?_
  refine g_alenR S hC 0 rfl (by decide) dL_act_172 ?_
  refine g_const S dL_act_173 (v := 1) rfl ?_
  refine g_isub S dL_act_174 ?_
  refine g_top (y := nI n) (by rw [hno]; exact nI_pred n) ?_
  refine g_aaldR S hC 0 rfl (by decide) n rfl (by first | assumption | omega) (36 + n) (by omega) dL_act_175 ?_
  refine g_const S dL_act_176 (v := 1) rfl ?_
  refine g_ialdR S hC 0 n (by omega) (by decide) (by first | assumption | omega) 1 rfl (by decide) dL_act_177 ?_
  refine g_eq (σ' := σ) (st' := [.int (nI y1), .int (nI x1), .ref (E.2.2 0)]) rfl (by rw [er0, er1]) ?_
  refine g_calli (g_runV S hC (As := [.int (nI x1), .int (nI y1)]) (rest := []) (k := 0) (by decide) rfl (by decide) rfl (by have k := q_bed l hfl E σ hcn.1 x1 y1 hx hy1 hy (by omega); rw [htb] at k; exact k) (cwV 2 S.2.2.2.2 gL_act_X7_bed rfl rfl rfl (by decide +kernel) ⟨Nat.le_of_ble_eq_true rfl, Nat.le_of_ble_eq_true rfl⟩) rfl rfl (Nat.le_of_ble_eq_true rfl) dL_act_178 ⟨Nat.le_of_ble_eq_true rfl, Nat.le_of_ble_eq_true rfl⟩) ?_
  refine g_nm (fun S1 hS1 => ?_)
  refine g_aload_n S 1 dL_act_181 rfl ?_
  refine gg7r S hC hiX8 7 32 (by decide) (by decide +kernel) dL_act_182 ?_
  refine g_alenR S hC 0 rfl (by decide) dL_act_185 ?_
  refine g_const S dL_act_186 (v := 1) rfl ?_
  refine g_isub S dL_act_187 ?_
  refine g_icmp_ne S 195 dL_act_188 (by decide) (fun c_1 => absurd (by rw [hno]; exact (nI_pred n).symm) c_1) (fun c_1 => ?_)
  refine g_const S dL_act_191 (v := 1) rfl ?_
  refine g_goto S 196 dL_act_192 (by decide) ?_
  exact act_end S hr hlocks dL_act_196 rfl (by subst hS1; subst hE; subst hσ; exact act_le (inv_bed2 hI hb0 hn hn4 hx hy)) hA (Nat.le_of_ble_eq_true rfl) (Nat.le_of_ble_eq_true rfl)
set_option maxRecDepth 100000 in
set_option maxHeartbeats 4000000 in
theorem act_bed (C : gAC p l s m args meth c E σ D B S0) : gJA p l e s m args below meth c E D B S0 E σ 0 0 96 [(0, .ref (E.2.2 0)), (1, .ref (E.2.2 29)), (2, .int x)] [] := by
  have hiX8 : ∀ w ∈ wsX80, w ∈ wsL_act := by decide +kernel
  obtain ⟨S, hr, hlocks, hC, hfl, hX, ⟨hN, hR⟩, hD, hB, hS⟩ := id C
  have hb := NB.of hC
  unfold gJA
  refine g_aload_n S 1 dL_act_96 rfl ?_
  refine gg7r S hC hiX8 7 32 (by decide) (by decide +kernel) dL_act_97 ?_
  refine g_alenR S hC 0 rfl (by decide) dL_act_100 ?_
  refine g_const S dL_act_101 (v := 4) rfl ?_
  refine g_icmp_ne S 107 dL_act_102 (by decide) (fun c1 => ?_) (fun c1 => ?_)
  · skip
    have hlt : gNo E 0 < 4 := by
      have := hb.1
      have hne : gNo E 0 ≠ 4 := fun z => c1 (by rw [z]; rfl)
      omega
    have hq : gqR 0 (gNo E 0) := by unfold gqR; omega
    refine g_aload_n S 1 dL_act_107 rfl ?_
    refine g_aload_n S 1 dL_act_108 rfl ?_
    refine gg7r S hC hiX8 7 32 (by decide) (by decide +kernel) dL_act_109 ?_
    refine g_const S dL_act_112 (v := 3) rfl ?_
    refine g_newX S hC 3 rfl (by decide) (by decide +kernel) (Nat.le_of_ble_eq_true rfl) (Nat.le_of_ble_eq_true rfl) dL_act_113 (fun a => ?_)
    refine g_dup S dL_act_115 rfl ?_
    refine g_const S dL_act_116 (v := 0) rfl ?_
    refine g_iload_n S 2 dL_act_117 rfl ?_
    refine g_const S dL_act_118 (v := 1) rfl ?_
    refine g_ishr S dL_act_119 ?_
    refine g_bipush S dL_act_120 (v := 10) rfl ?_
    refine g_calli (g_runS (E := (gx E a (.inl (E.2.1 0, 3, .inl (fun _ => 0))))) S hC (As := [.int (x >>> ((1 : Int32) &&& 31)), .int (10)]) (rest := [.int (0), .ref a, .ref a, .ref (E.2.2 32), .ref (E.2.2 29)]) (kL_below l (gx E a (.inl (E.2.1 0, 3, .inl (fun _ => 0)))) σ (x >>> ((1 : Int32) &&& 31)) _ 10 rfl (by decide) (by decide)) (va_cwS 2 S.2.2.2.2 gL_act_L_below rfl rfl rfl (by decide +kernel) ⟨Nat.le_of_ble_eq_true rfl, Nat.le_of_ble_eq_true rfl⟩) rfl rfl (Nat.le_of_ble_eq_true rfl) dL_act_122 ⟨Nat.le_of_ble_eq_true rfl, Nat.le_of_ble_eq_true rfl⟩) ?_
    have hb_g0 := bel_lt (v := (x >>> ((1 : Int32) &&& 31))) (n := 10) (by decide)
    generalize bel (x >>> ((1 : Int32) &&& 31)) 10 = g0 at hb_g0 ⊢
    refine g_iastX S hC 0 rfl (by decide) (by decide) dL_act_125 ?_
    refine g_dup S dL_act_126 rfl ?_
    refine g_const S dL_act_127 (v := 1) rfl ?_
    refine g_const S dL_act_128 (v := 1) rfl ?_
    refine g_iload_n S 2 dL_act_129 rfl ?_
    refine g_const S dL_act_130 (v := 3) rfl ?_
    refine g_ishr S dL_act_131 ?_
    refine g_bipush S dL_act_132 (v := 99) rfl ?_
    refine g_calli (g_runS (E := (gx E a (.inl (E.2.1 0, 3, .inl (upd (fun _ => 0) 0 (nI g0)))))) S hC (As := [.int (x >>> ((3 : Int32) &&& 31)), .int (99)]) (rest := [.int (1), .int (1), .ref a, .ref a, .ref (E.2.2 32), .ref (E.2.2 29)]) (kL_below l (gx E a (.inl (E.2.1 0, 3, .inl (upd (fun _ => 0) 0 (nI g0))))) σ (x >>> ((3 : Int32) &&& 31)) _ 99 rfl (by decide) (by decide)) (va_cwS 2 S.2.2.2.2 gL_act_L_below rfl rfl rfl (by decide +kernel) ⟨Nat.le_of_ble_eq_true rfl, Nat.le_of_ble_eq_true rfl⟩) rfl rfl (Nat.le_of_ble_eq_true rfl) dL_act_134 ⟨Nat.le_of_ble_eq_true rfl, Nat.le_of_ble_eq_true rfl⟩) ?_
    have hb_g1 := bel_lt (v := (x >>> ((3 : Int32) &&& 31))) (n := 99) (by decide)
    generalize bel (x >>> ((3 : Int32) &&& 31)) 99 = g1 at hb_g1 ⊢
    refine g_iadd S dL_act_137 ?_
    refine g_top (y := nI (1 + g1)) (gI_add (a := 1) rfl rfl) ?_
    refine g_iastX S hC 1 rfl (by decide) (by decide) dL_act_138 ?_
    refine g_dup S dL_act_139 rfl ?_
    refine g_const S dL_act_140 (v := 2) rfl ?_
    refine g_const S dL_act_141 (v := 0) rfl ?_
    refine g_iastX S hC 2 rfl (by decide) (by decide) dL_act_142 ?_
    refine g_callq (F := fun q => gx (gx E a (.inl (E.2.1 0, 3, .inl (upd (upd (upd (fun _ => 0) 0 (nI g0)) 1 (nI (1 + g1))) 2 (0))))) q (.inl (E.2.1 1, gNo E 0 + 1, gQ (gnq E 0 a)))) (fun _ => rfl) (g_runS (E := (gx E a (.inl (E.2.1 0, 3, .inl (upd (upd (upd (fun _ => 0) 0 (nI g0)) 1 (nI (1 + g1))) 2 (0)))))) S hC (As := [.ref (E.2.2 (32 + 0)), .ref a]) (rest := [.ref (E.2.2 29)]) (kL_with l E σ 0 hq a 3 (upd (upd (upd (fun _ => 0) 0 (nI g0)) 1 (nI (1 + g1))) 2 (0))) (va_cwS 2 S.2.2.2.2 gL_act_L_with rfl rfl rfl (by decide +kernel) ⟨Nat.le_of_ble_eq_true rfl, Nat.le_of_ble_eq_true rfl⟩) rfl rfl (Nat.le_of_ble_eq_true rfl) dL_act_143 ⟨Nat.le_of_ble_eq_true rfl, Nat.le_of_ble_eq_true rfl⟩) (fun q => ?_)
    refine g_putR S hC hiX8 hX 0 hq (by decide +kernel) dL_act_146 ?_
    refine g_wid (k := 2) (n := 16) (Nat.le_of_ble_eq_true rfl) (Nat.le_of_ble_eq_true rfl) ?_
    have t := act_bed2 (e := e) (below := below) (x := x) C (E := gmv E 0 a q) (a := a) (q := q) (x1 := g0) (y1 := 1 + g1) rfl hlt (by omega) (by omega) (by omega) rfl rfl
    rw [gmv_lo (by decide), gmv_lo (by decide)] at t
    exact t
  · skip
    refine g_const S dL_act_105 (v := 1) rfl ?_
    exact act_end S hr hlocks dL_act_106 rfl (act_le ⟨hN, hR⟩) (AR.rf hX hb) (Nat.le_of_ble_eq_true rfl) (Nat.le_of_ble_eq_true rfl)
set_option maxRecDepth 100000 in
set_option maxHeartbeats 4000000 in
theorem act_drum2 (C : gAC p l s m args meth c E0 σ0 D B S0) {a q n x1 y1 : Nat} (hn : gNo E0 1 = n) (hn4 : n < 4) (hx1 : 1 ≤ x1) (hx : x1 ≤ 40) (hy : y1 ≤ 9) (hE : E = gmv E0 1 a q) (hσ : σ = gwr σ0 (40 + n) (upd (upd (upd (upd (upd (fun _ => 0) 0 (nI x1)) 1 (nI y1)) 2 (-1)) 3 (0)) 4 (0))) : gJA p l e s m args below meth c E0 D B S0 E σ 2 16 258 [(0, .ref (E.2.2 0)), (1, .ref (E.2.2 29)), (2, .int x)] [] := by
  have hiX8 : ∀ w ∈ wsX80, w ∈ wsL_act := by decide +kernel
  obtain ⟨S, hr, hlocks, hC0, hfl, hX, ⟨hN, hR⟩, hD, hB, hS⟩ := id C
  have hI : INV E0 D B S0 σ0 := ⟨hN, hR⟩
  have hb0 := NB.of hC0
  have hq : gqR 1 (gNo E0 1) := by rw [hn]; unfold gqR; omega
  have hC : gC E s := by rw [hE]; exact hC0.mv (by decide) (by rw [hn]; exact hn4)
  have hA : AR E0 E := by rw [hE]; exact AR.mv0 hX hb0 hq
  have hno : gNo E 1 = n + 1 := by rw [hE, gmv_n0, hn]
  have hcn : CNi E0 σ := hN.1.at (fun j _ _ => by rw [hσ, gwr_ne (by omega)])
  have htb : tB σ 1 6 = n := by rw [hcn.2.2.1]; exact hn
  have er0 : σ.1 (40 + n) 0 = nI x1 := by rw [hσ, gwr_at]; simp [upd]
  have er1 : σ.1 (40 + n) 1 = nI y1 := by rw [hσ, gwr_at]; simp [upd]
  unfold gJA
  refine g_aload_n S 0 dL_act_258 rfl ?_
  refine g_aload_n S 1 dL_act_259 rfl ?_
  refine gg7r S hC hiX8 8 33 (by decide) (by decide +kernel) dL_act_260 ?_
  refine g_aload_n S 1 dL_act_263 rfl ?_
  refine gg7r S hC hiX8 8 33 (by decide) (by decide +kernel) dL_act_264 ?_
  refine g_alenR S hC 1 rfl (by decide) dL_act_267 ?_
  refine g_const S dL_act_268 (v := 1) rfl ?_
  refine g_isub S dL_act_269 ?_
  refine g_top (y := nI n) (by rw [hno]; exact nI_pred n) ?_
  refine g_aaldR S hC 1 rfl (by decide) n rfl (by first | assumption | omega) (40 + n) (by omega) dL_act_270 ?_
  refine g_const S dL_act_271 (v := 0) rfl ?_
  refine g_ialdR S hC 1 n (by omega) (by decide) (by first | assumption | omega) 0 rfl (by decide) dL_act_272 ?_
  refine g_aload_n S 1 dL_act_273 rfl ?_
  refine gg7r S hC hiX8 8 33 (by decide) (by decide +kernel) dL_act_274 ?_
  refine g_aload_n S 1 dL_act_277 rfl ?_
  refine gg7r S hC hiX8 8 33 (by decide) (by decide +kernel) dL_act_278 ?_
  refine g_alenR S hC 1 rfl (by decide) dL_act_281 ?_
  refine g_const S dL_act_282 (v := 1) rfl ?_
  refine g_isub S dL_act_283 ?_
  refine g_top (y := nI n) (by rw [hno]; exact nI_pred n) ?_
  refine g_aaldR S hC 1 rfl (by decide) n rfl (by first | assumption | omega) (40 + n) (by omega) dL_act_284 ?_
  refine g_const S dL_act_285 (v := 1) rfl ?_
  refine g_ialdR S hC 1 n (by omega) (by decide) (by first | assumption | omega) 1 rfl (by decide) dL_act_286 ?_
  refine g_eq (σ' := σ) (st' := [.int (nI y1), .int (nI x1), .ref (E.2.2 0)]) rfl (by rw [er0, er1]) ?_
  refine g_calli (g_runV S hC (As := [.int (nI x1), .int (nI y1)]) (rest := []) (k := 0) (by decide) rfl (by decide) rfl (by have k := q_drum l hfl E σ hcn.1 x1 y1 hx1 hx hy (by omega); rw [htb] at k; exact k) (cwV 2 S.2.2.2.2 gL_act_X7_drum rfl rfl rfl (by decide +kernel) ⟨Nat.le_of_ble_eq_true rfl, Nat.le_of_ble_eq_true rfl⟩) rfl rfl (Nat.le_of_ble_eq_true rfl) dL_act_287 ⟨Nat.le_of_ble_eq_true rfl, Nat.le_of_ble_eq_true rfl⟩) ?_
  refine g_nm (fun S1 hS1 => ?_)
  refine g_aload_n S 1 dL_act_290 rfl ?_
  refine gg7r S hC hiX8 8 33 (by decide) (by decide +kernel) dL_act_291 ?_
  refine g_alenR S hC 1 rfl (by decide) dL_act_294 ?_
  refine g_const S dL_act_295 (v := 1) rfl ?_
  refine g_isub S dL_act_296 ?_
  refine g_icmp_ne S 304 dL_act_297 (by decide) (fun c_1 => absurd (by rw [hno]; exact (nI_pred n).symm) c_1) (fun c_1 => ?_)
  refine g_const S dL_act_300 (v := 1) rfl ?_
  refine g_goto S 305 dL_act_301 (by decide) ?_
  exact act_end S hr hlocks dL_act_305 rfl (by subst hS1; subst hE; subst hσ; exact act_le (inv_drum2 hI hb0 hn hn4 hx1 hx hy)) hA (Nat.le_of_ble_eq_true rfl) (Nat.le_of_ble_eq_true rfl)
set_option maxRecDepth 100000 in
set_option maxHeartbeats 4000000 in
theorem act_drum (C : gAC p l s m args meth c E σ D B S0) : gJA p l e s m args below meth c E D B S0 E σ 0 0 197 [(0, .ref (E.2.2 0)), (1, .ref (E.2.2 29)), (2, .int x)] [] := by
  have hiX8 : ∀ w ∈ wsX80, w ∈ wsL_act := by decide +kernel
  obtain ⟨S, hr, hlocks, hC, hfl, hX, ⟨hN, hR⟩, hD, hB, hS⟩ := id C
  have hb := NB.of hC
  unfold gJA
  refine g_aload_n S 1 dL_act_197 rfl ?_
  refine gg7r S hC hiX8 8 33 (by decide) (by decide +kernel) dL_act_198 ?_
  refine g_alenR S hC 1 rfl (by decide) dL_act_201 ?_
  refine g_const S dL_act_202 (v := 4) rfl ?_
  refine g_icmp_ne S 208 dL_act_203 (by decide) (fun c1 => ?_) (fun c1 => ?_)
  · skip
    have hlt : gNo E 1 < 4 := by
      have := hb.2.1
      have hne : gNo E 1 ≠ 4 := fun z => c1 (by rw [z]; rfl)
      omega
    have hq : gqR 1 (gNo E 1) := by unfold gqR; omega
    refine g_aload_n S 1 dL_act_208 rfl ?_
    refine g_aload_n S 1 dL_act_209 rfl ?_
    refine gg7r S hC hiX8 8 33 (by decide) (by decide +kernel) dL_act_210 ?_
    refine g_const S dL_act_213 (v := 5) rfl ?_
    refine g_newX S hC 5 rfl (by decide) (by decide +kernel) (Nat.le_of_ble_eq_true rfl) (Nat.le_of_ble_eq_true rfl) dL_act_214 (fun a => ?_)
    refine g_dup S dL_act_216 rfl ?_
    refine g_const S dL_act_217 (v := 0) rfl ?_
    refine g_const S dL_act_218 (v := 1) rfl ?_
    refine g_iload_n S 2 dL_act_219 rfl ?_
    refine g_const S dL_act_220 (v := 1) rfl ?_
    refine g_ishr S dL_act_221 ?_
    refine g_bipush S dL_act_222 (v := 40) rfl ?_
    refine g_calli (g_runS (E := (gx E a (.inl (E.2.1 0, 5, .inl (fun _ => 0))))) S hC (As := [.int (x >>> ((1 : Int32) &&& 31)), .int (40)]) (rest := [.int (1), .int (0), .ref a, .ref a, .ref (E.2.2 33), .ref (E.2.2 29)]) (kL_below l (gx E a (.inl (E.2.1 0, 5, .inl (fun _ => 0)))) σ (x >>> ((1 : Int32) &&& 31)) _ 40 rfl (by decide) (by decide)) (va_cwS 2 S.2.2.2.2 gL_act_L_below rfl rfl rfl (by decide +kernel) ⟨Nat.le_of_ble_eq_true rfl, Nat.le_of_ble_eq_true rfl⟩) rfl rfl (Nat.le_of_ble_eq_true rfl) dL_act_224 ⟨Nat.le_of_ble_eq_true rfl, Nat.le_of_ble_eq_true rfl⟩) ?_
    have hb_g0 := bel_lt (v := (x >>> ((1 : Int32) &&& 31))) (n := 40) (by decide)
    generalize bel (x >>> ((1 : Int32) &&& 31)) 40 = g0 at hb_g0 ⊢
    refine g_iadd S dL_act_227 ?_
    refine g_top (y := nI (1 + g0)) (gI_add (a := 1) rfl rfl) ?_
    refine g_iastX S hC 0 rfl (by decide) (by decide) dL_act_228 ?_
    refine g_dup S dL_act_229 rfl ?_
    refine g_const S dL_act_230 (v := 1) rfl ?_
    refine g_iload_n S 2 dL_act_231 rfl ?_
    refine g_const S dL_act_232 (v := 3) rfl ?_
    refine g_ishr S dL_act_233 ?_
    refine g_bipush S dL_act_234 (v := 10) rfl ?_
    refine g_calli (g_runS (E := (gx E a (.inl (E.2.1 0, 5, .inl (upd (fun _ => 0) 0 (nI (1 + g0))))))) S hC (As := [.int (x >>> ((3 : Int32) &&& 31)), .int (10)]) (rest := [.int (1), .ref a, .ref a, .ref (E.2.2 33), .ref (E.2.2 29)]) (kL_below l (gx E a (.inl (E.2.1 0, 5, .inl (upd (fun _ => 0) 0 (nI (1 + g0)))))) σ (x >>> ((3 : Int32) &&& 31)) _ 10 rfl (by decide) (by decide)) (va_cwS 2 S.2.2.2.2 gL_act_L_below rfl rfl rfl (by decide +kernel) ⟨Nat.le_of_ble_eq_true rfl, Nat.le_of_ble_eq_true rfl⟩) rfl rfl (Nat.le_of_ble_eq_true rfl) dL_act_236 ⟨Nat.le_of_ble_eq_true rfl, Nat.le_of_ble_eq_true rfl⟩) ?_
    have hb_g1 := bel_lt (v := (x >>> ((3 : Int32) &&& 31))) (n := 10) (by decide)
    generalize bel (x >>> ((3 : Int32) &&& 31)) 10 = g1 at hb_g1 ⊢
    refine g_iastX S hC 1 rfl (by decide) (by decide) dL_act_239 ?_
    refine g_dup S dL_act_240 rfl ?_
    refine g_const S dL_act_241 (v := 2) rfl ?_
    refine g_const S dL_act_242 (v := (-1)) rfl ?_
    refine g_iastX S hC 2 rfl (by decide) (by decide) dL_act_243 ?_
    refine g_dup S dL_act_244 rfl ?_
    refine g_const S dL_act_245 (v := 3) rfl ?_
    refine g_const S dL_act_246 (v := 0) rfl ?_
    refine g_iastX S hC 3 rfl (by decide) (by decide) dL_act_247 ?_
    refine g_dup S dL_act_248 rfl ?_
    refine g_const S dL_act_249 (v := 4) rfl ?_
    refine g_const S dL_act_250 (v := 0) rfl ?_
    refine g_iastX S hC 4 rfl (by decide) (by decide) dL_act_251 ?_
    refine g_callq (F := fun q => gx (gx E a (.inl (E.2.1 0, 5, .inl (upd (upd (upd (upd (upd (fun _ => 0) 0 (nI (1 + g0))) 1 (nI g1)) 2 (-1)) 3 (0)) 4 (0))))) q (.inl (E.2.1 1, gNo E 1 + 1, gQ (gnq E 1 a)))) (fun _ => rfl) (g_runS (E := (gx E a (.inl (E.2.1 0, 5, .inl (upd (upd (upd (upd (upd (fun _ => 0) 0 (nI (1 + g0))) 1 (nI g1)) 2 (-1)) 3 (0)) 4 (0)))))) S hC (As := [.ref (E.2.2 (32 + 1)), .ref a]) (rest := [.ref (E.2.2 29)]) (kL_with l E σ 1 hq a 5 (upd (upd (upd (upd (upd (fun _ => 0) 0 (nI (1 + g0))) 1 (nI g1)) 2 (-1)) 3 (0)) 4 (0))) (va_cwS 2 S.2.2.2.2 gL_act_L_with rfl rfl rfl (by decide +kernel) ⟨Nat.le_of_ble_eq_true rfl, Nat.le_of_ble_eq_true rfl⟩) rfl rfl (Nat.le_of_ble_eq_true rfl) dL_act_252 ⟨Nat.le_of_ble_eq_true rfl, Nat.le_of_ble_eq_true rfl⟩) (fun q => ?_)
    refine g_putR S hC hiX8 hX 1 hq (by decide +kernel) dL_act_255 ?_
    refine g_wid (k := 2) (n := 16) (Nat.le_of_ble_eq_true rfl) (Nat.le_of_ble_eq_true rfl) ?_
    have t := act_drum2 (e := e) (below := below) (x := x) C (E := gmv E 1 a q) (a := a) (q := q) (x1 := 1 + g0) (y1 := g1) rfl hlt (by omega) (by omega) (by omega) rfl rfl
    rw [gmv_lo (by decide), gmv_lo (by decide)] at t
    exact t
  · skip
    refine g_const S dL_act_206 (v := 1) rfl ?_
    exact act_end S hr hlocks dL_act_207 rfl (act_le ⟨hN, hR⟩) (AR.rf hX hb) (Nat.le_of_ble_eq_true rfl) (Nat.le_of_ble_eq_true rfl)
set_option maxRecDepth 100000 in
set_option maxHeartbeats 4000000 in
theorem act_smug2 (C : gAC p l s m args meth c E0 σ0 D B S0) {a q n x1 y1 : Nat} (hn : gNo E0 2 = n) (hn4 : n < 4) (hx1 : 2 ≤ x1) (hx : x1 ≤ 14) (hy1 : 1 ≤ y1) (hy : y1 ≤ 30) (hE : E = gmv E0 2 a q) (hσ : σ = gwr σ0 (44 + n) (upd (upd (upd (upd (upd (fun _ => 0) 0 (nI x1)) 1 (nI y1)) 2 (0)) 3 (0)) 4 (0))) : gJA p l e s m args below meth c E0 D B S0 E σ 2 16 369 [(0, .ref (E.2.2 0)), (1, .ref (E.2.2 29)), (2, .int x)] [] := by
  have hiX8 : ∀ w ∈ wsX80, w ∈ wsL_act := by decide +kernel
  obtain ⟨S, hr, hlocks, hC0, hfl, hX, ⟨hN, hR⟩, hD, hB, hS⟩ := id C
  have hI : INV E0 D B S0 σ0 := ⟨hN, hR⟩
  have hb0 := NB.of hC0
  have hq : gqR 2 (gNo E0 2) := by rw [hn]; unfold gqR; omega
  have hC : gC E s := by rw [hE]; exact hC0.mv (by decide) (by rw [hn]; exact hn4)
  have hA : AR E0 E := by rw [hE]; exact AR.mv0 hX hb0 hq
  have hno : gNo E 2 = n + 1 := by rw [hE, gmv_n0, hn]
  have hcn : CNi E0 σ := hN.1.at (fun j _ _ => by rw [hσ, gwr_ne (by omega)])
  have htb : tB σ 1 7 = n := by rw [hcn.2.2.2.1]; exact hn
  have er0 : σ.1 (44 + n) 0 = nI x1 := by rw [hσ, gwr_at]; simp [upd]
  have er1 : σ.1 (44 + n) 1 = nI y1 := by rw [hσ, gwr_at]; simp [upd]
  unfold gJA
  refine g_aload_n S 0 dL_act_369 rfl ?_
  refine g_aload_n S 1 dL_act_370 rfl ?_
  refine gg7r S hC hiX8 9 34 (by decide) (by decide +kernel) dL_act_371 ?_
  refine g_aload_n S 1 dL_act_374 rfl ?_
  refine gg7r S hC hiX8 9 34 (by decide) (by decide +kernel) dL_act_375 ?_
  refine g_alenR S hC 2 rfl (by decide) dL_act_378 ?_
  refine g_const S dL_act_379 (v := 1) rfl ?_
  refine g_isub S dL_act_380 ?_
  refine g_top (y := nI n) (by rw [hno]; exact nI_pred n) ?_
  refine g_aaldR S hC 2 rfl (by decide) n rfl (by first | assumption | omega) (44 + n) (by omega) dL_act_381 ?_
  refine g_const S dL_act_382 (v := 0) rfl ?_
  refine g_ialdR S hC 2 n (by omega) (by decide) (by first | assumption | omega) 0 rfl (by decide) dL_act_383 ?_
  refine g_aload_n S 1 dL_act_384 rfl ?_
  refine gg7r S hC hiX8 9 34 (by decide) (by decide +kernel) dL_act_385 ?_
  refine g_aload_n S 1 dL_act_388 rfl ?_
  refine gg7r S hC hiX8 9 34 (by decide) (by decide +kernel) dL_act_389 ?_
  refine g_alenR S hC 2 rfl (by decide) dL_act_392 ?_
  refine g_const S dL_act_393 (v := 1) rfl ?_
  refine g_isub S dL_act_394 ?_
  refine g_top (y := nI n) (by rw [hno]; exact nI_pred n) ?_
  refine g_aaldR S hC 2 rfl (by decide) n rfl (by first | assumption | omega) (44 + n) (by omega) dL_act_395 ?_
  refine g_const S dL_act_396 (v := 1) rfl ?_
  refine g_ialdR S hC 2 n (by omega) (by decide) (by first | assumption | omega) 1 rfl (by decide) dL_act_397 ?_
  refine g_eq (σ' := σ) (st' := [.int (nI y1), .int (nI x1), .ref (E.2.2 0)]) rfl (by rw [er0, er1]) ?_
  refine g_calli (g_runV S hC (As := [.int (nI x1), .int (nI y1)]) (rest := []) (k := 0) (by decide) rfl (by decide) rfl (by have k := q_smuggler l hfl E σ hcn.1 x1 y1 hx1 hx hy1 hy (by omega); rw [htb] at k; exact k) (cwV 2 S.2.2.2.2 gL_act_X7_smuggler rfl rfl rfl (by decide +kernel) ⟨Nat.le_of_ble_eq_true rfl, Nat.le_of_ble_eq_true rfl⟩) rfl rfl (Nat.le_of_ble_eq_true rfl) dL_act_398 ⟨Nat.le_of_ble_eq_true rfl, Nat.le_of_ble_eq_true rfl⟩) ?_
  refine g_nm (fun S1 hS1 => ?_)
  refine g_aload_n S 1 dL_act_401 rfl ?_
  refine gg7r S hC hiX8 9 34 (by decide) (by decide +kernel) dL_act_402 ?_
  refine g_alenR S hC 2 rfl (by decide) dL_act_405 ?_
  refine g_const S dL_act_406 (v := 1) rfl ?_
  refine g_isub S dL_act_407 ?_
  refine g_icmp_ne S 415 dL_act_408 (by decide) (fun c_1 => absurd (by rw [hno]; exact (nI_pred n).symm) c_1) (fun c_1 => ?_)
  refine g_const S dL_act_411 (v := 1) rfl ?_
  refine g_goto S 416 dL_act_412 (by decide) ?_
  exact act_end S hr hlocks dL_act_416 rfl (by subst hS1; subst hE; subst hσ; exact act_le (inv_smug2 hI hb0 hn hn4 hx1 hx hy)) hA (Nat.le_of_ble_eq_true rfl) (Nat.le_of_ble_eq_true rfl)
set_option maxRecDepth 100000 in
set_option maxHeartbeats 4000000 in
theorem act_smug (C : gAC p l s m args meth c E σ D B S0) : gJA p l e s m args below meth c E D B S0 E σ 0 0 306 [(0, .ref (E.2.2 0)), (1, .ref (E.2.2 29)), (2, .int x)] [] := by
  have hiX8 : ∀ w ∈ wsX80, w ∈ wsL_act := by decide +kernel
  obtain ⟨S, hr, hlocks, hC, hfl, hX, ⟨hN, hR⟩, hD, hB, hS⟩ := id C
  have hb := NB.of hC
  unfold gJA
  refine g_aload_n S 1 dL_act_306 rfl ?_
  refine gg7r S hC hiX8 9 34 (by decide) (by decide +kernel) dL_act_307 ?_
  refine g_alenR S hC 2 rfl (by decide) dL_act_310 ?_
  refine g_const S dL_act_311 (v := 4) rfl ?_
  refine g_icmp_ne S 317 dL_act_312 (by decide) (fun c1 => ?_) (fun c1 => ?_)
  · skip
    have hlt : gNo E 2 < 4 := by
      have := hb.2.2.1
      have hne : gNo E 2 ≠ 4 := fun z => c1 (by rw [z]; rfl)
      omega
    have hq : gqR 2 (gNo E 2) := by unfold gqR; omega
    refine g_aload_n S 1 dL_act_317 rfl ?_
    refine g_aload_n S 1 dL_act_318 rfl ?_
    refine gg7r S hC hiX8 9 34 (by decide) (by decide +kernel) dL_act_319 ?_
    refine g_const S dL_act_322 (v := 5) rfl ?_
    refine g_newX S hC 5 rfl (by decide) (by decide +kernel) (Nat.le_of_ble_eq_true rfl) (Nat.le_of_ble_eq_true rfl) dL_act_323 (fun a => ?_)
    refine g_dup S dL_act_325 rfl ?_
    refine g_const S dL_act_326 (v := 0) rfl ?_
    refine g_const S dL_act_327 (v := 2) rfl ?_
    refine g_iload_n S 2 dL_act_328 rfl ?_
    refine g_const S dL_act_329 (v := 1) rfl ?_
    refine g_ishr S dL_act_330 ?_
    refine g_bipush S dL_act_331 (v := 13) rfl ?_
    refine g_calli (g_runS (E := (gx E a (.inl (E.2.1 0, 5, .inl (fun _ => 0))))) S hC (As := [.int (x >>> ((1 : Int32) &&& 31)), .int (13)]) (rest := [.int (2), .int (0), .ref a, .ref a, .ref (E.2.2 34), .ref (E.2.2 29)]) (kL_below l (gx E a (.inl (E.2.1 0, 5, .inl (fun _ => 0)))) σ (x >>> ((1 : Int32) &&& 31)) _ 13 rfl (by decide) (by decide)) (va_cwS 2 S.2.2.2.2 gL_act_L_below rfl rfl rfl (by decide +kernel) ⟨Nat.le_of_ble_eq_true rfl, Nat.le_of_ble_eq_true rfl⟩) rfl rfl (Nat.le_of_ble_eq_true rfl) dL_act_333 ⟨Nat.le_of_ble_eq_true rfl, Nat.le_of_ble_eq_true rfl⟩) ?_
    have hb_g0 := bel_lt (v := (x >>> ((1 : Int32) &&& 31))) (n := 13) (by decide)
    generalize bel (x >>> ((1 : Int32) &&& 31)) 13 = g0 at hb_g0 ⊢
    refine g_iadd S dL_act_336 ?_
    refine g_top (y := nI (2 + g0)) (gI_add (a := 2) rfl rfl) ?_
    refine g_iastX S hC 0 rfl (by decide) (by decide) dL_act_337 ?_
    refine g_dup S dL_act_338 rfl ?_
    refine g_const S dL_act_339 (v := 1) rfl ?_
    refine g_const S dL_act_340 (v := 1) rfl ?_
    refine g_iload_n S 2 dL_act_341 rfl ?_
    refine g_const S dL_act_342 (v := 3) rfl ?_
    refine g_ishr S dL_act_343 ?_
    refine g_bipush S dL_act_344 (v := 30) rfl ?_
    refine g_calli (g_runS (E := (gx E a (.inl (E.2.1 0, 5, .inl (upd (fun _ => 0) 0 (nI (2 + g0))))))) S hC (As := [.int (x >>> ((3 : Int32) &&& 31)), .int (30)]) (rest := [.int (1), .int (1), .ref a, .ref a, .ref (E.2.2 34), .ref (E.2.2 29)]) (kL_below l (gx E a (.inl (E.2.1 0, 5, .inl (upd (fun _ => 0) 0 (nI (2 + g0)))))) σ (x >>> ((3 : Int32) &&& 31)) _ 30 rfl (by decide) (by decide)) (va_cwS 2 S.2.2.2.2 gL_act_L_below rfl rfl rfl (by decide +kernel) ⟨Nat.le_of_ble_eq_true rfl, Nat.le_of_ble_eq_true rfl⟩) rfl rfl (Nat.le_of_ble_eq_true rfl) dL_act_346 ⟨Nat.le_of_ble_eq_true rfl, Nat.le_of_ble_eq_true rfl⟩) ?_
    have hb_g1 := bel_lt (v := (x >>> ((3 : Int32) &&& 31))) (n := 30) (by decide)
    generalize bel (x >>> ((3 : Int32) &&& 31)) 30 = g1 at hb_g1 ⊢
    refine g_iadd S dL_act_349 ?_
    refine g_top (y := nI (1 + g1)) (gI_add (a := 1) rfl rfl) ?_
    refine g_iastX S hC 1 rfl (by decide) (by decide) dL_act_350 ?_
    refine g_dup S dL_act_351 rfl ?_
    refine g_const S dL_act_352 (v := 2) rfl ?_
    refine g_const S dL_act_353 (v := 0) rfl ?_
    refine g_iastX S hC 2 rfl (by decide) (by decide) dL_act_354 ?_
    refine g_dup S dL_act_355 rfl ?_
    refine g_const S dL_act_356 (v := 3) rfl ?_
    refine g_const S dL_act_357 (v := 0) rfl ?_
    refine g_iastX S hC 3 rfl (by decide) (by decide) dL_act_358 ?_
    refine g_dup S dL_act_359 rfl ?_
    refine g_const S dL_act_360 (v := 4) rfl ?_
    refine g_const S dL_act_361 (v := 0) rfl ?_
    refine g_iastX S hC 4 rfl (by decide) (by decide) dL_act_362 ?_
    refine g_callq (F := fun q => gx (gx E a (.inl (E.2.1 0, 5, .inl (upd (upd (upd (upd (upd (fun _ => 0) 0 (nI (2 + g0))) 1 (nI (1 + g1))) 2 (0)) 3 (0)) 4 (0))))) q (.inl (E.2.1 1, gNo E 2 + 1, gQ (gnq E 2 a)))) (fun _ => rfl) (g_runS (E := (gx E a (.inl (E.2.1 0, 5, .inl (upd (upd (upd (upd (upd (fun _ => 0) 0 (nI (2 + g0))) 1 (nI (1 + g1))) 2 (0)) 3 (0)) 4 (0)))))) S hC (As := [.ref (E.2.2 (32 + 2)), .ref a]) (rest := [.ref (E.2.2 29)]) (kL_with l E σ 2 hq a 5 (upd (upd (upd (upd (upd (fun _ => 0) 0 (nI (2 + g0))) 1 (nI (1 + g1))) 2 (0)) 3 (0)) 4 (0))) (va_cwS 2 S.2.2.2.2 gL_act_L_with rfl rfl rfl (by decide +kernel) ⟨Nat.le_of_ble_eq_true rfl, Nat.le_of_ble_eq_true rfl⟩) rfl rfl (Nat.le_of_ble_eq_true rfl) dL_act_363 ⟨Nat.le_of_ble_eq_true rfl, Nat.le_of_ble_eq_true rfl⟩) (fun q => ?_)
    refine g_putR S hC hiX8 hX 2 hq (by decide +kernel) dL_act_366 ?_
    refine g_wid (k := 2) (n := 16) (Nat.le_of_ble_eq_true rfl) (Nat.le_of_ble_eq_true rfl) ?_
    have t := act_smug2 (e := e) (below := below) (x := x) C (E := gmv E 2 a q) (a := a) (q := q) (x1 := 2 + g0) (y1 := 1 + g1) rfl hlt (by omega) (by omega) (by omega) (by omega) rfl rfl
    rw [gmv_lo (by decide), gmv_lo (by decide)] at t
    exact t
  · skip
    refine g_const S dL_act_315 (v := 1) rfl ?_
    exact act_end S hr hlocks dL_act_316 rfl (act_le ⟨hN, hR⟩) (AR.rf hX hb) (Nat.le_of_ble_eq_true rfl) (Nat.le_of_ble_eq_true rfl)
set_option maxRecDepth 100000 in
set_option maxHeartbeats 4000000 in
theorem act_card2 (C : gAC p l s m args meth c E0 σ0 D B S0) {a q n x1 y1 : Nat} (hn : gNo E0 3 = n) (hn4 : n < 10) (hx1 : 1 ≤ x1) (hx : x1 ≤ 9) (hy : y1 ≤ 10) (hE : E = gmv E0 3 a q) (hσ : σ = gwr σ0 (48 + n) (upd (upd (upd (upd (upd (fun _ => 0) 0 (nI x1)) 1 (nI y1)) 2 (nI x1)) 3 (0)) 4 (0))) : gJA p l e s m args below meth c E0 D B S0 E σ 2 16 502 [(4, .int (nI x1)), (0, .ref (E.2.2 0)), (1, .ref (E.2.2 29)), (2, .int x)] [] := by
  have hiX8 : ∀ w ∈ wsX80, w ∈ wsL_act := by decide +kernel
  obtain ⟨S, hr, hlocks, hC0, hfl, hX, ⟨hN, hR⟩, hD, hB, hS⟩ := id C
  have hI : INV E0 D B S0 σ0 := ⟨hN, hR⟩
  have hb0 := NB.of hC0
  have hq : gqR 3 (gNo E0 3) := by rw [hn]; unfold gqR; omega
  have hC : gC E s := by rw [hE]; exact hC0.mv (by decide) (by rw [hn]; exact hn4)
  have hA : AR E0 E := by rw [hE]; exact AR.mv0 hX hb0 hq
  have hno : gNo E 3 = n + 1 := by rw [hE, gmv_n0, hn]
  have hcn : CNi E0 σ := hN.1.at (fun j _ _ => by rw [hσ, gwr_ne (by omega)])
  have htb : tB σ 1 8 = n := by rw [hcn.2.2.2.2]; exact hn
  have er0 : σ.1 (48 + n) 0 = nI x1 := by rw [hσ, gwr_at]; simp [upd]
  have er1 : σ.1 (48 + n) 1 = nI y1 := by rw [hσ, gwr_at]; simp [upd]
  unfold gJA
  refine g_aload_n S 1 dL_act_502 rfl ?_
  refine g_iload S 0 dL_act_503 rfl ?_
  refine g_aload_n S 2 dL_act_505 rfl ?_
  refine gg7r S hC hiX8 10 35 (by decide) (by decide +kernel) dL_act_506 ?_
  refine g_aload_n S 2 dL_act_509 rfl ?_
  refine gg7r S hC hiX8 10 35 (by decide) (by decide +kernel) dL_act_510 ?_
  refine g_alenR S hC 3 rfl (by decide) dL_act_513 ?_
  refine g_const S dL_act_514 (v := 1) rfl ?_
  refine g_isub S dL_act_515 ?_
  refine g_top (y := nI n) (by rw [hno]; exact nI_pred n) ?_
  refine g_aaldR S hC 3 rfl (by decide) n rfl (by first | assumption | omega) (48 + n) (by omega) dL_act_516 ?_
  refine g_const S dL_act_517 (v := 1) rfl ?_
  refine g_ialdR S hC 3 n (by omega) (by decide) (by first | assumption | omega) 1 rfl (by decide) dL_act_518 ?_
  refine g_eq (σ' := σ) (st' := [.int (nI y1), .int (nI x1), .ref (E.2.2 0)]) rfl (by rw [er1]) ?_
  refine g_calli (g_runV S hC (As := [.int (nI x1), .int (nI y1)]) (rest := []) (k := 0) (by decide) rfl (by decide) rfl (by have k := q_card l hfl E σ hcn.1 x1 y1 hx1 hx hy (by omega); rw [htb] at k; exact k) (cwV 2 S.2.2.2.2 gL_act_X7_card rfl rfl rfl (by decide +kernel) ⟨Nat.le_of_ble_eq_true rfl, Nat.le_of_ble_eq_true rfl⟩) rfl rfl (Nat.le_of_ble_eq_true rfl) dL_act_519 ⟨Nat.le_of_ble_eq_true rfl, Nat.le_of_ble_eq_true rfl⟩) ?_
  refine g_nm (fun S1 hS1 => ?_)
  refine g_aload_n S 2 dL_act_522 rfl ?_
  refine gg7r S hC hiX8 10 35 (by decide) (by decide +kernel) dL_act_523 ?_
  refine g_alenR S hC 3 rfl (by decide) dL_act_526 ?_
  refine g_const S dL_act_527 (v := 1) rfl ?_
  refine g_isub S dL_act_528 ?_
  refine g_icmp_ne S 536 dL_act_529 (by decide) (fun c_1 => absurd (by rw [hno]; exact (nI_pred n).symm) c_1) (fun c_1 => ?_)
  refine g_const S dL_act_532 (v := 1) rfl ?_
  refine g_goto S 537 dL_act_533 (by decide) ?_
  exact act_end S hr hlocks dL_act_537 rfl (by subst hS1; subst hE; subst hσ; exact act_le (inv_card2 hI hb0 hn hn4 hx hy)) hA (Nat.le_of_ble_eq_true rfl) (Nat.le_of_ble_eq_true rfl)
set_option maxRecDepth 100000 in
set_option maxHeartbeats 4000000 in
theorem act_card1 (C : gAC p l s m args meth c E σ D B S0) (hq : gqR 3 (gNo E 3)) (hlt : gNo E 3 < 10) {a g0 y1 : Nat} (ha1 : 1 ≤ 1 + g0) (ha9 : 1 + g0 ≤ 9) (hy1 : y1 ≤ 10) : gJA p l e s m args below meth c E D B S0 (gx E a (.inl (E.2.1 0, 5, .inl (upd (fun _ => 0) 0 (nI (1 + g0)))))) σ 1 5 482 [(4, .int (nI (1 + g0))), (0, .ref (E.2.2 0)), (1, .ref (E.2.2 29)), (2, .int x)] [.int (nI y1), .int (1), .ref a, .ref a, .ref (E.2.2 35), .ref (E.2.2 29)] := by
  have hiX8 : ∀ w ∈ wsX80, w ∈ wsL_act := by decide +kernel
  obtain ⟨S, hr, hlocks, hC, hfl, hX, ⟨hN, hR⟩, hD, hB, hS⟩ := id C
  have hb := NB.of hC
  unfold gJA
  refine g_iastX S hC 1 rfl (by decide) (by decide) dL_act_482 ?_
  refine g_dup S dL_act_483 rfl ?_
  refine g_const S dL_act_484 (v := 2) rfl ?_
  refine g_iload S 0 dL_act_485 rfl ?_
  refine g_iastX S hC 2 rfl (by decide) (by decide) dL_act_487 ?_
  refine g_dup S dL_act_488 rfl ?_
  refine g_const S dL_act_489 (v := 3) rfl ?_
  refine g_const S dL_act_490 (v := 0) rfl ?_
  refine g_iastX S hC 3 rfl (by decide) (by decide) dL_act_491 ?_
  refine g_dup S dL_act_492 rfl ?_
  refine g_const S dL_act_493 (v := 4) rfl ?_
  refine g_const S dL_act_494 (v := 0) rfl ?_
  refine g_iastX S hC 4 rfl (by decide) (by decide) dL_act_495 ?_
  refine g_callq (F := fun q => gx (gx E a (.inl (E.2.1 0, 5, .inl (upd (upd (upd (upd (upd (fun _ => 0) 0 (nI (1 + g0))) 1 (nI y1)) 2 (nI (1 + g0))) 3 (0)) 4 (0))))) q (.inl (E.2.1 1, gNo E 3 + 1, gQ (gnq E 3 a)))) (fun _ => rfl) (g_runS (E := (gx E a (.inl (E.2.1 0, 5, .inl (upd (upd (upd (upd (upd (fun _ => 0) 0 (nI (1 + g0))) 1 (nI y1)) 2 (nI (1 + g0))) 3 (0)) 4 (0)))))) S hC (As := [.ref (E.2.2 (32 + 3)), .ref a]) (rest := [.ref (E.2.2 29)]) (kL_with l E σ 3 hq a 5 (upd (upd (upd (upd (upd (fun _ => 0) 0 (nI (1 + g0))) 1 (nI y1)) 2 (nI (1 + g0))) 3 (0)) 4 (0))) (va_cwS 2 S.2.2.2.2 gL_act_L_with rfl rfl rfl (by decide +kernel) ⟨Nat.le_of_ble_eq_true rfl, Nat.le_of_ble_eq_true rfl⟩) rfl rfl (Nat.le_of_ble_eq_true rfl) dL_act_496 ⟨Nat.le_of_ble_eq_true rfl, Nat.le_of_ble_eq_true rfl⟩) (fun q => ?_)
  refine g_putR S hC hiX8 hX 3 hq (by decide +kernel) dL_act_499 ?_
  refine g_wid (k := 2) (n := 16) (Nat.le_of_ble_eq_true rfl) (Nat.le_of_ble_eq_true rfl) ?_
  have t := act_card2 (e := e) (below := below) (x := x) C (E := gmv E 3 a q) (a := a) (q := q) (x1 := 1 + g0) (y1 := y1) rfl hlt (by omega) (by omega) (by omega) rfl rfl
  rw [gmv_lo (by decide), gmv_lo (by decide)] at t
  exact t
set_option maxRecDepth 100000 in
set_option maxHeartbeats 4000000 in
theorem act_card (C : gAC p l s m args meth c E σ D B S0) : gJA p l e s m args below meth c E D B S0 E σ 0 0 417 [(0, .ref (E.2.2 0)), (1, .ref (E.2.2 29)), (2, .int x)] [] := by
  have hiX8 : ∀ w ∈ wsX80, w ∈ wsL_act := by decide +kernel
  obtain ⟨S, hr, hlocks, hC, hfl, hX, ⟨hN, hR⟩, hD, hB, hS⟩ := id C
  have hb := NB.of hC
  unfold gJA
  refine g_aload_n S 1 dL_act_417 rfl ?_
  refine gg7r S hC hiX8 10 35 (by decide) (by decide +kernel) dL_act_418 ?_
  refine g_alenR S hC 3 rfl (by decide) dL_act_421 ?_
  refine g_bipush S dL_act_422 (v := 10) rfl ?_
  refine g_icmp_ne S 429 dL_act_424 (by decide) (fun c1 => ?_) (fun c1 => ?_)
  · skip
    have hlt : gNo E 3 < 10 := by
      have := hb.2.2.2
      have hne : gNo E 3 ≠ 10 := fun z => c1 (by rw [z]; rfl)
      omega
    have hq : gqR 3 (gNo E 3) := by unfold gqR; omega
    refine g_const S dL_act_429 (v := 1) rfl ?_
    refine g_iload_n S 2 dL_act_430 rfl ?_
    refine g_const S dL_act_431 (v := 1) rfl ?_
    refine g_ishr S dL_act_432 ?_
    refine g_bipush S dL_act_433 (v := 9) rfl ?_
    refine g_calli (g_runS (E := E) S hC (As := [.int (x >>> ((1 : Int32) &&& 31)), .int (9)]) (rest := [.int (1)]) (kL_below l E σ (x >>> ((1 : Int32) &&& 31)) _ 9 rfl (by decide) (by decide)) (va_cwS 2 S.2.2.2.2 gL_act_L_below rfl rfl rfl (by decide +kernel) ⟨Nat.le_of_ble_eq_true rfl, Nat.le_of_ble_eq_true rfl⟩) rfl rfl (Nat.le_of_ble_eq_true rfl) dL_act_435 ⟨Nat.le_of_ble_eq_true rfl, Nat.le_of_ble_eq_true rfl⟩) ?_
    have hb_g0 := bel_lt (v := (x >>> ((1 : Int32) &&& 31))) (n := 9) (by decide)
    generalize bel (x >>> ((1 : Int32) &&& 31)) 9 = g0 at hb_g0 ⊢
    refine g_iadd S dL_act_438 ?_
    refine g_top (y := nI (1 + g0)) (gI_add (a := 1) rfl rfl) ?_
    refine g_istore S [(4, .int (nI (1 + g0))), (0, .ref (E.2.2 0)), (1, .ref (E.2.2 29)), (2, .int x)] dL_act_439 (by decide) rfl ?_
    refine g_aload_n S 2 dL_act_441 rfl ?_
    refine g_aload_n S 2 dL_act_442 rfl ?_
    refine gg7r S hC hiX8 10 35 (by decide) (by decide +kernel) dL_act_443 ?_
    refine g_const S dL_act_446 (v := 5) rfl ?_
    refine g_newX S hC 5 rfl (by decide) (by decide +kernel) (Nat.le_of_ble_eq_true rfl) (Nat.le_of_ble_eq_true rfl) dL_act_447 (fun a => ?_)
    refine g_dup S dL_act_449 rfl ?_
    refine g_const S dL_act_450 (v := 0) rfl ?_
    refine g_iload S 0 dL_act_451 rfl ?_
    refine g_iastX S hC 0 rfl (by decide) (by decide) dL_act_453 ?_
    refine g_dup S dL_act_454 rfl ?_
    refine g_const S dL_act_455 (v := 1) rfl ?_
    refine g_iload_n S 3 dL_act_456 rfl ?_
    refine g_const S dL_act_457 (v := 3) rfl ?_
    refine g_calli (g_runS (E := (gx E a (.inl (E.2.1 0, 5, .inl (upd (fun _ => 0) 0 (nI (1 + g0))))))) S hC (As := [.int x, .int (3)]) (rest := [.int (1), .ref a, .ref a, .ref (E.2.2 35), .ref (E.2.2 29)]) (kL_below l (gx E a (.inl (E.2.1 0, 5, .inl (upd (fun _ => 0) 0 (nI (1 + g0)))))) σ x _ 3 rfl (by decide) (by decide)) (va_cwS 2 S.2.2.2.2 gL_act_L_below rfl rfl rfl (by decide +kernel) ⟨Nat.le_of_ble_eq_true rfl, Nat.le_of_ble_eq_true rfl⟩) rfl rfl (Nat.le_of_ble_eq_true rfl) dL_act_458 ⟨Nat.le_of_ble_eq_true rfl, Nat.le_of_ble_eq_true rfl⟩) ?_
    have hb_g1 := bel_lt (v := x) (n := 3) (by decide)
    generalize bel x 3 = g1 at hb_g1 ⊢
    refine g_if_ne S 475 dL_act_461 (by decide) (fun c2 => ?_) (fun c2 => ?_)
    · skip
      refine g_iload_n S 3 dL_act_475 rfl ?_
      refine g_const S dL_act_476 (v := 3) rfl ?_
      refine g_ishr S dL_act_477 ?_
      refine g_const S dL_act_478 (v := 4) rfl ?_
      refine g_calli (g_runS (E := (gx E a (.inl (E.2.1 0, 5, .inl (upd (fun _ => 0) 0 (nI (1 + g0))))))) S hC (As := [.int (x >>> ((3 : Int32) &&& 31)), .int (4)]) (rest := [.int (1), .ref a, .ref a, .ref (E.2.2 35), .ref (E.2.2 29)]) (kL_below l (gx E a (.inl (E.2.1 0, 5, .inl (upd (fun _ => 0) 0 (nI (1 + g0)))))) σ (x >>> ((3 : Int32) &&& 31)) _ 4 rfl (by decide) (by decide)) (va_cwS 2 S.2.2.2.2 gL_act_L_below rfl rfl rfl (by decide +kernel) ⟨Nat.le_of_ble_eq_true rfl, Nat.le_of_ble_eq_true rfl⟩) rfl rfl (Nat.le_of_ble_eq_true rfl) dL_act_479 ⟨Nat.le_of_ble_eq_true rfl, Nat.le_of_ble_eq_true rfl⟩) ?_
      have hb_y := bel_lt (v := (x >>> ((3 : Int32) &&& 31))) (n := 4) (by decide)
      generalize bel (x >>> ((3 : Int32) &&& 31)) 4 = y1 at hb_y ⊢
      exact act_card1 C hq hlt (by omega) (by omega) (by omega)
    · skip
      refine g_iload_n S 3 dL_act_464 rfl ?_
      refine g_const S dL_act_465 (v := 3) rfl ?_
      refine g_ishr S dL_act_466 ?_
      refine g_bipush S dL_act_467 (v := 11) rfl ?_
      refine g_calli (g_runS (E := (gx E a (.inl (E.2.1 0, 5, .inl (upd (fun _ => 0) 0 (nI (1 + g0))))))) S hC (As := [.int (x >>> ((3 : Int32) &&& 31)), .int (11)]) (rest := [.int (1), .ref a, .ref a, .ref (E.2.2 35), .ref (E.2.2 29)]) (kL_below l (gx E a (.inl (E.2.1 0, 5, .inl (upd (fun _ => 0) 0 (nI (1 + g0)))))) σ (x >>> ((3 : Int32) &&& 31)) _ 11 rfl (by decide) (by decide)) (va_cwS 2 S.2.2.2.2 gL_act_L_below rfl rfl rfl (by decide +kernel) ⟨Nat.le_of_ble_eq_true rfl, Nat.le_of_ble_eq_true rfl⟩) rfl rfl (Nat.le_of_ble_eq_true rfl) dL_act_469 ⟨Nat.le_of_ble_eq_true rfl, Nat.le_of_ble_eq_true rfl⟩) ?_
      have hb_y := bel_lt (v := (x >>> ((3 : Int32) &&& 31))) (n := 11) (by decide)
      generalize bel (x >>> ((3 : Int32) &&& 31)) 11 = y1 at hb_y ⊢
      refine g_goto S 482 dL_act_472 (by decide) ?_
      exact act_card1 C hq hlt (by omega) (by omega) (by omega)
  · skip
    refine g_const S dL_act_427 (v := 1) rfl ?_
    exact act_end S hr hlocks dL_act_428 rfl (act_le ⟨hN, hR⟩) (AR.rf hX hb) (Nat.le_of_ble_eq_true rfl) (Nat.le_of_ble_eq_true rfl)
end AC
