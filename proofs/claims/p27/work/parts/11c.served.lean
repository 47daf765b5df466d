section SV
variable {σ : gS}
/-- a portion more is a portion served -/
theorem one_served {k q : Nat} (hk : k ≠ q) : (sX1_serveOne_s σ k q).1 q 5 = σ.1 q 5 + sX1_serveOne_r σ k q := by
  unfold sX1_serveOne_s sX1_serveOne_r
  have z : ∀ x : Int32, x + 0 = x := fun x => by simp
  split
  · rw [z]
  · split
    · rw [z]
    · split
      · unfold sX4_servePortion_s
        split <;> (simp only [gu]; grind)
      · simp only [gu]
        grind
theorem bX1_one (k q : Nat) : sX1_serveOne_r σ k q = 0 ∨ sX1_serveOne_r σ k q = 1 := by
  unfold sX1_serveOne_r
  repeat' split
  all_goals first | exact Or.inl rfl | exact Or.inr rfl
theorem day_served {k q : Nat} (hk : k ≠ q) : (sX1_serveDay_s σ k q).1 q 5 = σ.1 q 5 + sX1_serveDay_r σ k q := by
  have a1 := one_served (σ := σ) hk
  have a2 := one_served (σ := sX1_serveOne_s σ k q) hk
  have b1 := bX1_one (σ := σ) k q
  have b2 := bX1_one (σ := sX1_serveOne_s σ k q) k q
  unfold sX1_serveDay_s sX1_serveDay_r
  dsimp only
  by_cases c1 : sX1_serveOne_r σ k q = 0
  · rw [if_pos c1, if_pos c1, a1, c1]
  · rw [if_neg c1, if_neg c1]
    have c1' := b1.resolve_left c1
    by_cases c2 : sX1_serveOne_r (sX1_serveOne_s σ k q) k q = 0
    · rw [if_pos c2, if_pos c2, a2, a1, c1', c2]
      simp
    · rw [if_neg c2, if_neg c2, a2, a1, c1', b2.resolve_left c2, Int32.add_assoc]
      rfl
end SV
