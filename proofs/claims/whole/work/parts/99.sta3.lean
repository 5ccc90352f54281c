/-! THE LAW'S START: the invariant's smaller parts -/
theorem iv0_B : IvB M0 := ⟨rfl, fun h => absurd rfl h⟩
theorem iv0_D : IvD M0 := fun l _ => ⟨rfl, fun h => absurd (show (0 : Int32) = 1 from h) (by decide), fun h => absurd (show (0 : Int32) = 2 from h) (by decide), fun h => absurd (show (0 : Int32) = 3 from h) (by decide), 0, by decide, rfl⟩
theorem iv0_E : IvE M0 := ⟨rfl, rfl, ⟨0, by decide, rfl⟩, fun i => ⟨0, by decide, rfl⟩⟩
theorem iv0_F : IvF M0 := ⟨rfl, rfl, 0, by decide, rfl⟩
theorem iv0_C (h : WS5 M0) : IvC M0 := ⟨h, fun k hk => ⟨by match k, hk with | 0, _ => rfl | 1, _ => rfl | 2, _ => rfl | 3, _ => rfl, rfl, fun i _ => rfl⟩, fun j hj q => absurd (show (-1 : Int32) < 0 by decide) q⟩
theorem ws5_0 : WS5 M0 := fun k _ => ⟨Or.inl rfl, 0, by decide, rfl⟩
