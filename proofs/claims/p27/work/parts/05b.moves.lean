/-! a new row taken in: the row at a, the longer row of rows at q -/
def gmv (E : gT) (o a q : Nat) : gT := ((E.1.1, fun k => if k = o then gNo E o + 1 else E.1.2.1 k, gXs E, E.1.2.2.2), E.2.1, fun k => if k = 32 + o then q else if k = 36 + 4 * o + gNo E o then a else E.2.2 k)
/-- a row's numbers put -/
def gwr (σ : gS) (k : Nat) (f : Nat → Int32) : gS := (fun x j => if x = k then f j else σ.1 x j, σ.2)
def gcap (o : Nat) : Nat := if o = 3 then 10 else 4
theorem gwr_ne {σ : gS} {k x : Nat} {f : Nat → Int32} (h : x ≠ k) : (gwr σ k f).1 x = σ.1 x := by
  funext j
  simp [gwr, h]
theorem gwr_at {σ : gS} {k : Nat} {f : Nat → Int32} : (gwr σ k f).1 k = f := by
  funext j
  simp [gwr]
section MV
variable {E : gT} {σ : gS} {o a q : Nat}
theorem gmv_no (h : o < 4) (k : Nat) : gNo (gmv E o a q) k = if k = o then gNo E o + 1 else gNo E k := rfl
theorem gmv_ad (k : Nat) : (gmv E o a q).2.2 k = if k = 32 + o then q else if k = 36 + 4 * o + gNo E o then a else E.2.2 k := rfl
theorem gmv_lo {k : Nat} (h : k < 32) : (gmv E o a q).2.2 k = E.2.2 k := by
  rw [gmv_ad, if_neg (by omega), if_neg (by omega)]
theorem gmv_hi {k : Nat} (h : 4 < k) (ho : o < 4) : (gmv E o a q).1.2.1 k = E.1.2.1 k := if_neg (by omega)
theorem gC.mv {s : State} (h : gC E s) (ho : o < 4) (hn : gNo E o < gcap o) : gC (gmv E o a q) s := by
  obtain ⟨h1, ⟨n1, n2, n3, n4, n5, x1, x2, x3⟩, h3, h5⟩ := h
  have e0 : gN0 (gmv E o a q) = gN0 E := gmv_hi (by decide) ho
  have e2 : gSb (gmv E o a q) = gSb E := gmv_hi (by decide) ho
  have e3 : gSl (gmv E o a q) = gSl E := gmv_hi (by decide) ho
  have eA : gA (gmv E o a q) 0 = gA E 0 := by unfold gA; rw [e0]
  refine ⟨h1, ⟨by rw [e0]; exact n1, ?_, ?_, ?_, ?_, by rw [e2, e3]; exact x1, by rw [e2, e0]; exact x2, by rw [e3]; exact x3⟩, h3, by rw [eA]; exact h5⟩
  all_goals
    rw [gmv_no ho]
    unfold gcap at hn
    split <;> first | (rename_i h; subst h; simp at hn; omega) | assumption
/-- cells of one content, as far as they are long -/
theorem va_atQ {D : va_G} {cl : List vw_C} {x : Nat} {cA n : Nat} {f g : Nat → Option Nat} {H : Heap} (h : va_at D cl (x, .inl (cA, n, gQ f)) H) (hfg : ∀ j, j < n → f j = g j) : va_at D cl (x, .inl (cA, n, gQ g)) H := by
  have e : (vp_cell cA (n, gQ f)) = vp_cell cA (n, gQ g) := by
    rw [vp_cell_q, vp_cell_q]
    unfold arrV
    congr 2
    funext j
    show va_rf (f j.val) = va_rf (g j.val)
    rw [hfg j.val j.isLt]
  show H[x]? = some (vp_cell cA (n, gQ g))
  rw [← e]
  exact h
theorem va_D.adr {A : Nat → Prop} {ws ws' : va_W} (hD : va_D A ws) (φ : Nat → Nat) (h : ∀ (k : Nat) (x : Nat × va_E), ws'[k]? = some x → ∃ y, ws[φ k]? = some y ∧ y.1 = x.1) (hi : ∀ i j, i < ws'.length → j < ws'.length → φ i = φ j → i = j) : va_D A ws' := by
  refine ⟨fun i j x y hx hy hxy => ?_, fun k x hk => ?_⟩
  · obtain ⟨x', hx', ex⟩ := h i x hx
    obtain ⟨y', hy', ey⟩ := h j y hy
    exact hi i j (List.getElem?_eq_some_iff.mp hx).1 (List.getElem?_eq_some_iff.mp hy).1 (hD.1 _ _ x' y' hx' hy' (by rw [ex, ey]; exact hxy))
  · obtain ⟨y, hy, ey⟩ := h k x hk
    rw [← ey]
    exact hD.2 _ y hy
/-- the row of rows behind it: the old ones, the new one -/
def gnq (E : gT) (o a : Nat) : Nat → Option Nat := fun j => if j < gNo E o then some (E.2.2 (36 + 4 * o + j)) else if j = gNo E o then some a else none
/-- Sim's fields -/
def gsf (E : gT) (σ : gS) : List Value := [.int (σ.1 29 0), .ref (E.2.2 30), .ref (E.2.2 31), .int (σ.1 29 3), .int (σ.1 29 4), .int (σ.1 29 5), .int (σ.1 29 6), .ref (E.2.2 32), .ref (E.2.2 33), .ref (E.2.2 34), .ref (E.2.2 35)]
theorem gK_pl {k : Nat} (h : k < 58) : (k < 29 ∧ (gK k = 6 ∨ gK k = 5 ∨ gK k = 10 ∨ gK k = 11 ∨ gK k = 12 ∨ gK k = 13 ∨ gK k < 5)) ∨ k = 29 ∨ ((k = 30 ∨ k = 31) ∧ gK k = 8) ∨ (32 ≤ k ∧ k < 36 ∧ gK k = 14) ∨ (36 ≤ k ∧ gK k = 15) := by
  have key : ∀ k, k < 58 → (k < 29 ∧ (gK k = 6 ∨ gK k = 5 ∨ gK k = 10 ∨ gK k = 11 ∨ gK k = 12 ∨ gK k = 13 ∨ gK k < 5)) ∨ k = 29 ∨ ((k = 30 ∨ k = 31) ∧ gK k = 8) ∨ (32 ≤ k ∧ k < 36 ∧ gK k = 14) ∨ (36 ≤ k ∧ gK k = 15) := by decide
  exact key k h
theorem gK_q {k : Nat} (h : k < 58) : (gK k = 5 → k = 1) ∧ (gK k = 6 → k = 0) ∧ (gK k = 10 → k = 2) ∧ (gK k = 11 → k = 3) ∧ (gK k = 12 → k = 4) ∧ (gK k = 13 → k = 5) := by
  have key : ∀ k, k < 58 → (gK k = 5 → k = 1) ∧ (gK k = 6 → k = 0) ∧ (gK k = 10 → k = 2) ∧ (gK k = 11 → k = 3) ∧ (gK k = 12 → k = 4) ∧ (gK k = 13 → k = 5) := by decide
  exact key k h
theorem gw_c {k c : Nat} (h : gK k = c) (hc : c < 5) : gw E σ k = gO σ k c := gK_o h hc
/-- what lay at a place and isn't the row's, lies there still -/
theorem gmv_keep {D : va_G} {cl : List vw_C} {H : Heap} {f : Nat → Int32} {k : Nat} (hk : k < 58) (hn : gqR o (gNo E o)) (h29 : k ≠ 29) (h1 : k ≠ 32 + o) (h2 : k ≠ 36 + 4 * o + gNo E o) (hb : gNo E 0 ≤ 4 ∧ gNo E 1 ≤ 4 ∧ gNo E 2 ≤ 4 ∧ gNo E 3 ≤ 10) (hg : gXs E = [])
    (h : va_at D cl (E.2.2 k, gw E σ k) H) : va_at D cl ((gmv E o a q).2.2 k, gw (gmv E o a q) (gwr σ (36 + 4 * o + gNo E o) f) k) H := by
  have ho : o < 4 := by rcases hn with h | h | h | h <;> omega
  have eA : (gmv E o a q).2.2 k = E.2.2 k := by rw [gmv_ad, if_neg h1, if_neg h2]
  have eσ : (gwr σ (36 + 4 * o + gNo E o) f).1 k = σ.1 k := gwr_ne h2
  have eC : (gmv E o a q).2.1 = E.2.1 := rfl
  rw [eA]
  obtain ⟨q5, q6, q10, q11, q12, q13⟩ := gK_q hk
  rcases gK_pl hk with ⟨hl, hc⟩ | h | ⟨_, hc⟩ | ⟨l1, l2, hc⟩ | ⟨l1, hc⟩
  · rcases hc with hc | hc | hc | hc | hc | hc | hc
    · obtain rfl := q6 hc
      have e1 : gTr (gmv E o a q) = gTr E := gmv_hi (by decide) ho
      have e2 : gw (gmv E o a q) (gwr σ (36 + 4 * o + gNo E o) f) 0 = gw E σ 0 := by
        show (Sum.inr (6, [Value.ref ((gmv E o a q).2.2 1), .ref (gTr (gmv E o a q))]) : va_E) = Sum.inr (6, [Value.ref (E.2.2 1), .ref (gTr E)])
        rw [e1, gmv_lo (by decide)]
      rw [e2]; exact h
    · obtain rfl := q5 hc
      have e2 : gw (gmv E o a q) (gwr σ (36 + 4 * o + gNo E o) f) 1 = gw E σ 1 := by
        rw [gw_5 hc, gw_5 hc, eσ]
        rw [gmv_lo (by decide), gmv_lo (by decide), gmv_lo (by decide), gmv_lo (by decide), gmv_lo (by decide)]
      rw [e2]; exact h
    · obtain rfl := q10 hc
      exact va_atQ (g := fun j => some ((gmv E o a q).2.2 (2 + 5 + j))) (show va_at D cl (E.2.2 2, .inl (E.2.1 2, 4, gQ (fun j => some (E.2.2 (2 + 5 + j))))) H from h) (fun j hj => by rw [gmv_lo (by omega)])
    · obtain rfl := q11 hc
      exact va_atQ (g := fun j => some ((gmv E o a q).2.2 (3 + 8 + j))) (show va_at D cl (E.2.2 3, .inl (E.2.1 3, 4, gQ (fun j => some (E.2.2 (3 + 8 + j))))) H from h) (fun j hj => by rw [gmv_lo (by omega)])
    · obtain rfl := q12 hc
      exact va_atQ (g := fun j => some ((gmv E o a q).2.2 (4 + 11 + j))) (show va_at D cl (E.2.2 4, .inl (E.2.1 4, 4, gQ (fun j => some (E.2.2 (4 + 11 + j))))) H from h) (fun j hj => by rw [gmv_lo (by omega)])
    · obtain rfl := q13 hc
      exact va_atQ (g := fun j => some ((gmv E o a q).2.2 (5 + 14 + j))) (show va_at D cl (E.2.2 5, .inl (E.2.1 5, 10, gQ (fun j => some (E.2.2 (5 + 14 + j))))) H from h) (fun j hj => by rw [gmv_lo (by omega)])
    · rw [gw_c rfl hc] at h ⊢
      unfold gO at h ⊢
      rw [eσ]; exact h
  · exact absurd h h29
  · rw [gw_8 hc] at h ⊢
    rw [eσ]; exact h
  · obtain ⟨o2, rfl⟩ : ∃ o2, k = 32 + o2 := ⟨k - 32, by omega⟩
    have ho2 : o2 < 4 := by omega
    have e1 : gNo (gmv E o a q) o2 = gNo E o2 := by rw [gmv_no ho, if_neg (by omega)]
    rw [gw_14 hc, show 32 + o2 - 32 = o2 by omega] at h ⊢
    rw [e1]
    refine va_atQ h (fun j hj => ?_)
    rw [gmv_ad, if_neg (by omega), if_neg (fun z => ?_)]
    have hj2 : j < gcap o2 := by unfold gcap; rcases (show o2 = 0 ∨ o2 = 1 ∨ o2 = 2 ∨ o2 = 3 by omega) with rfl | rfl | rfl | rfl <;> simp <;> omega
    unfold gcap at hj2
    rcases hn with ⟨rfl, hn⟩ | ⟨rfl, hn⟩ | ⟨rfl, hn⟩ | ⟨rfl, hn⟩ <;> (split at hj2 <;> omega)
  · have hL : ∀ X : gT, gw X (gwr σ (36 + 4 * o + gNo E o) f) k = gw X σ k := fun X => gw_ne eσ
    rw [hL]
    have e1 : gw (gmv E o a q) σ k = gw E σ k := by
      have e2 : (gqI k < gNo (gmv E o a q) (gqS k)) ↔ (gqI k < gNo E (gqS k)) := by
        rw [gmv_no ho]
        by_cases h : gqS k = o
        · rw [if_pos h, h]
          have hi : gqI k ≠ gNo E o := fun z => h2 (by
            unfold gqI at z
            rw [h] at z
            have : 36 + 4 * gqS k ≤ k := by unfold gqS; (repeat' split) <;> omega
            rw [h] at this
            omega)
          omega
        · rw [if_neg h]
      unfold gw
      rw [hc]
      show (if gqI k < gNo (gmv E o a q) (gqS k) then _ else _) = if gqI k < gNo E (gqS k) then _ else _
      by_cases h : gqI k < gNo E (gqS k)
      · rw [if_pos h, if_pos (e2.mpr h)]; rfl
      · rw [if_neg h, if_neg (fun z => h (e2.mp z))]
    rw [e1]; exact h
/-- the world with the row taken in -/
theorem gmv_P {f : Nat → Int32} {H : Heap} (hn : gqR o (gNo E o)) (hb : gNo E 0 ≤ 4 ∧ gNo E 1 ≤ 4 ∧ gNo E 2 ≤ 4 ∧ gNo E 3 ≤ 10) (hg : gXs E = [])
    (hP : va_P E.1.1 vwCl (((gl E σ ++ [(a, (.inl (E.2.1 0, if o = 0 then 3 else 5, .inl f) : va_E))]) ++ [(q, (.inl (E.2.1 1, gNo E o + 1, gQ (gnq E o a)) : va_E))]).set 29 (E.2.2 29, .inr (7, (gsf E σ).set (7 + o) (.ref q)))) H)
    (hD : va_D (gA E 0) (((gl E σ ++ [(a, (.inl (E.2.1 0, if o = 0 then 3 else 5, .inl f) : va_E))]) ++ [(q, (.inl (E.2.1 1, gNo E o + 1, gQ (gnq E o a)) : va_E))]).set 29 (E.2.2 29, .inr (7, (gsf E σ).set (7 + o) (.ref q))))) :
    gP (gmv E o a q) (gwr σ (36 + 4 * o + gNo E o) f) H := by
  have ho : o < 4 := by rcases hn with h | h | h | h <;> omega
  have hgl : (gl E σ).length = 58 := by rw [gl_len, hg]; rfl
  have hgl' : ∀ τ, (gl (gmv E o a q) τ).length = 58 := fun τ => by
    rw [gl_len]
    show 58 + (gXs E).length = 58
    rw [hg]; rfl
  have hlt := hn.lt
  generalize hW : (((gl E σ ++ [(a, (.inl (E.2.1 0, if o = 0 then 3 else 5, .inl f) : va_E))]) ++ [(q, (.inl (E.2.1 1, gNo E o + 1, gQ (gnq E o a)) : va_E))]).set 29 (E.2.2 29, .inr (7, (gsf E σ).set (7 + o) (.ref q)))) = W at hP hD
  have w29 : W[29]? = some (E.2.2 29, .inr (7, (gsf E σ).set (7 + o) (.ref q))) := by
    rw [← hW, List.getElem?_set_self (by simp [hgl])]
  have w58 : W[58]? = some (a, .inl (E.2.1 0, if o = 0 then 3 else 5, .inl f)) := by
    rw [← hW, List.getElem?_set_ne (by decide), List.getElem?_append_left (by simp [hgl]), List.getElem?_append_right (by simp [hgl]), hgl]
    rfl
  have w59 : W[59]? = some (q, .inl (E.2.1 1, gNo E o + 1, gQ (gnq E o a))) := by
    rw [← hW, List.getElem?_set_ne (by decide), List.getElem?_append_right (by simp [hgl]), List.length_append, hgl]
    rfl
  have wk : ∀ k, k < 58 → k ≠ 29 → W[k]? = some (E.2.2 k, gw E σ k) := fun k hk h9 => by
    rw [← hW, List.getElem?_set_ne (Ne.symm h9), List.getElem?_append_left (by rw [List.length_append, hgl]; simp; omega), List.getElem?_append_left (by rw [hgl]; exact hk), gl_at hk]
  have eA : gA (gmv E o a q) 0 = gA E 0 := by
    unfold gA
    rw [show gN0 (gmv E o a q) = gN0 E from gmv_hi (by decide) ho]
  unfold gP
  rw [eA]
  refine ⟨fun k x hx => ?_, hD.adr (fun k => if k = 32 + o then 59 else if k = 36 + 4 * o + gNo E o then 58 else k) (fun k x hx => ?_) (fun i j hi hj hij => ?_)⟩
  · have hk : k < 58 := by have := (List.getElem?_eq_some_iff.mp hx).1; rwa [hgl'] at this
    rw [gl_at hk] at hx
    obtain rfl := Option.some.inj hx
    by_cases h29 : k = 29
    · subst h29
      have h := hP 29 _ w29
      rw [gmv_lo (by decide)]
      have e : gw (gmv E o a q) (gwr σ (36 + 4 * o + gNo E o) f) 29 = .inr (7, (gsf E σ).set (7 + o) (.ref q)) := by
        show (Sum.inr (7, gsf (gmv E o a q) (gwr σ (36 + 4 * o + gNo E o) f)) : va_E) = _
        unfold gsf
        rw [gwr_ne (by omega), gmv_lo (by decide), gmv_lo (by decide), gmv_ad 32, gmv_ad 33, gmv_ad 34, gmv_ad 35]
        rcases (show o = 0 ∨ o = 1 ∨ o = 2 ∨ o = 3 by omega) with rfl | rfl | rfl | rfl <;> simp <;> (repeat' constructor) <;> omega
      rw [e]
      exact h
    · by_cases h1 : k = 32 + o
      · subst h1
        have h := hP 59 _ w59
        rw [gmv_ad, if_pos rfl, gw_14 (gk14 ho), show 32 + o - 32 = o by omega, gmv_no ho, if_pos rfl]
        refine va_atQ h (fun j hj => ?_)
        unfold gnq
        by_cases hj2 : j < gNo E o
        · rw [if_pos hj2, gmv_ad, if_neg (by omega), if_neg (by omega)]
        · rw [if_neg hj2, if_pos (by omega), gmv_ad, if_neg (by omega), if_pos (by omega)]
      · by_cases h2 : k = 36 + 4 * o + gNo E o
        · subst h2
          have h := hP 58 _ w58
          rw [gmv_ad, if_neg (by omega), if_pos rfl, hn.w (by rw [gmv_no ho, if_pos rfl]; omega), gwr_at]
          exact h
        · exact gmv_keep hk hn h29 h1 h2 hb hg (hP k _ (wk k hk h29))
  · have hk : k < 58 := by have := (List.getElem?_eq_some_iff.mp hx).1; rwa [hgl'] at this
    rw [gl_at hk] at hx
    obtain rfl := Option.some.inj hx
    dsimp only
    rw [gmv_ad]
    by_cases h1 : k = 32 + o
    · rw [if_pos h1, if_pos h1]
      exact ⟨_, w59, rfl⟩
    · rw [if_neg h1, if_neg h1]
      by_cases h2 : k = 36 + 4 * o + gNo E o
      · rw [if_pos h2, if_pos h2]
        exact ⟨_, w58, rfl⟩
      · rw [if_neg h2, if_neg h2]
        by_cases h29 : k = 29
        · subst h29
          exact ⟨_, w29, rfl⟩
        · exact ⟨_, wk k hk h29, rfl⟩
  · rw [hgl'] at hi hj
    split at hij <;> split at hij <;> (try split at hij) <;> (try split at hij) <;> omega
end MV
section MR
variable {p : Program} {l : Launch} {e : Env} {R : Room} {s : State} {m : MethodId} {args : Array Value} {below : List Frame} {meth : Method} {c : Code} {Q : State → Prop}
variable {cc : ByteArray} {nL : Nat} {Ts : List Cond} {own : String} {E : gT} {σ σ' : gS} {cells slots pc : Nat} {lv lv' : List (Nat × Value)} {rest st0 : List Value}
/-- the new row of rows put into Sim -/
theorem g_putR (S : CallFix p m c cc nL s args Ts own) (hC : gC E s) (hin : ∀ w ∈ wsX80, w ∈ Ts) (hg : gXs E = []) (o : Nat) (hn : gqR o (gNo E o)) {a q : Nat} {f : Nat → Int32} {index : Nat} (hlk : Cond.fieldLink own index (TX8 (7 + o)).1 (TX8 (7 + o)).2.1 (TX8 (7 + o)).2.2.1 ∈ Ts) (d : decode cc pc = .ok (.putfield index, 3))
    (kk : gJ p l e R s m args below meth c Q nL (gmv E o a q) (gwr σ (36 + 4 * o + gNo E o) f) cells slots (pc + 3) lv rest) :
    gJ p l e R s m args below meth c Q nL (gx (gx E a (.inl (E.2.1 0, if o = 0 then 3 else 5, .inl f))) q (.inl (E.2.1 1, gNo E o + 1, gQ (gnq E o a)))) σ cells slots pc lv (.ref q :: .ref (E.2.2 29) :: rest) := by
  have ho : o < 4 := by rcases hn with h | h | h | h <;> omega
  intro H locs ls hP hS hl'
  obtain ⟨h1, h2⟩ := hP
  rw [gl_gx, gl_gx] at h1 h2
  have hgl : (gl E σ).length = 58 := by rw [gl_len, hg]; rfl
  have h29 : ((gl E σ ++ [(a, (.inl (E.2.1 0, if o = 0 then 3 else 5, .inl f) : va_E))]) ++ [(q, (.inl (E.2.1 1, gNo E o + 1, gQ (gnq E o a)) : va_E))])[29]? = some (E.2.2 29, .inr (7, gsf E σ)) := by
    rw [List.getElem?_append_left (by simp [hgl]), List.getElem?_append_left (by simp [hgl]), gl_at (by decide)]
    rfl
  refine va_put (D := E.1.1) (cl := vwCl) (C := RX8) (T := TX8) (N := 11) (ty := .array (.array .int)) (v := .ref q) S.1 S.2.1 S.2.2.2.2 hin tyX8 tyX8_ok nmX8 S.2.2.2.1 hC.1 h1 h2 hS 29 h29 rfl (7 + o) (by omega) (S.2.2.2.2 _ hlk) (fun _ h => h) ?_ ?_ rfl rfl (by show 7 + o < 11; omega) d (fun H1 locs1 hP1 hD1 hS1 => ?_)
  · rcases (show o = 0 ∨ o = 1 ∨ o = 2 ∨ o = 3 by omega) with rfl | rfl | rfl | rfl <;> rfl
  · rw [tyX8_ok (7 + o) (by omega)]
    rcases (show o = 0 ∨ o = 1 ∨ o = 2 ∨ o = 3 by omega) with rfl | rfl | rfl | rfl <;> rfl
  · have e0 : gN0 (gmv E o a q) = gN0 E := gmv_hi (by decide) ho
    refine kk H1 locs1 ls (gmv_P hn ⟨hC.2.1.2.1, hC.2.1.2.2.1, hC.2.1.2.2.2.1, hC.2.1.2.2.2.2.1⟩ hg hP1 hD1) ?_ hl'
    have eA : gA (gmv E o a q) s.heap.size = gA E s.heap.size := by unfold gA; rw [e0]
    rw [eA]
    exact hS1
end MR
