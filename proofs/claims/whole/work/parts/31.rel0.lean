/-! the relation holds behind the constructors -/
theorem rel0 : Rel xF00 := by
  have hW : ∀ w, w = 1 ∨ w = 18 → relW xF00 w (xF00 66) := by
    intro w hw
    have z : ∀ j, ¬ j = 0 → ¬ j = 8 → xF00 66 j = 0 := by
      intro j h0 h8
      show (if j = 0 then (20 : Int32) else if j = 8 then 1 else 0) = 0
      rw [if_neg h0, if_neg h8]
    rcases hw with rfl | rfl
    · exact ⟨⟨rfl, rfl, rfl, rfl, rfl, rfl, rfl, rfl⟩, ⟨rfl, rfl, fun p hp => absurd hp (by show ¬ p < 0; omega)⟩, ⟨⟨rfl, 0, by decide, rfl⟩, by decide, fun h => absurd h (by decide)⟩, ⟨⟨rfl, 0, by decide, rfl⟩, by decide, fun h => absurd h (by decide)⟩, ⟨rfl, fun p hp => absurd hp (by show ¬ p < 0; omega)⟩, ⟨rfl, fun p hp => absurd hp (by show ¬ p < 0; omega)⟩, rfl⟩
    · exact ⟨⟨rfl, rfl, rfl, rfl, rfl, rfl, rfl, rfl⟩, ⟨rfl, rfl, fun p hp => absurd hp (by show ¬ p < 0; omega)⟩, ⟨⟨rfl, 0, by decide, rfl⟩, by decide, fun h => absurd h (by decide)⟩, ⟨⟨rfl, 0, by decide, rfl⟩, by decide, fun h => absurd h (by decide)⟩, ⟨rfl, fun p hp => absurd hp (by show ¬ p < 0; omega)⟩, ⟨rfl, fun p hp => absurd hp (by show ¬ p < 0; omega)⟩, rfl⟩
  have hS : invS (xF00 66) := ⟨⟨by decide, by decide, by decide, Or.inl rfl, by decide, Or.inl rfl, by decide⟩, by decide, ⟨0, by decide, rfl, fun p hp => absurd hp (Nat.not_lt_zero p)⟩, ⟨0, rfl, Or.inl rfl⟩, ⟨0, rfl, Or.inl rfl⟩, ⟨0, by decide, rfl, fun p hp => absurd hp (Nat.not_lt_zero p)⟩, ⟨0, by decide, rfl⟩⟩
  refine ⟨⟨hW 1 (Or.inl rfl), ⟨⟨rfl, rfl⟩, fun h => absurd rfl h⟩, fun k _ => rfl, rfl, rfl, fun i hi => absurd hi (by show ¬ i < 0; omega), fun t ht => ?_⟩, hS, fun h => absurd rfl h, rfl, ⟨0, by decide, rfl⟩, fun t _ => ⟨Or.inl rfl, 0, by decide, rfl⟩⟩
  rcases (show t = 0 ∨ t = 1 ∨ t = 2 ∨ t = 3 by omega) with rfl | rfl | rfl | rfl <;> exact ⟨rfl, rfl, fun i hi => absurd hi (by show ¬ i < 0; omega)⟩
