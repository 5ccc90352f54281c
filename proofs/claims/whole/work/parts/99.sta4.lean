/-! THE LAW'S START: the invariant's first part -/
theorem m0_N : nN (M0 31 0) = 0 := by decide +kernel
theorem m0_T : nT (M0 31 0) = 0 := by decide +kernel
theorem iv0_WF : WF 9999 (M0 31 0) := by
  refine ⟨⟨by decide +kernel, by rw [m0_N]; decide⟩, ⟨0, by decide, by decide +kernel⟩, by unfold WFr rg; decide +kernel, by unfold WFc rg; decide +kernel, by unfold WFm rg; decide +kernel, by decide +kernel, by rw [m0_T]; decide, fun t ht => absurd ht (by rw [m0_T]; omega)⟩
theorem iv0_RT : RT M0 (M0 31 0) := fun t ht => absurd ht (by rw [m0_T]; omega)
theorem iv0_RW : RW M0 0 (M0 31 0) := by
  refine ⟨⟨⟨by decide +kernel, by decide +kernel, by decide +kernel, by decide +kernel⟩, ⟨by decide +kernel, by rw [m0_N]; decide⟩, fun i hi => absurd hi (by rw [m0_N]; omega)⟩, by decide +kernel, by decide +kernel⟩
theorem iv0 : Iv M0 := ⟨⟨iv0_WF, iv0_RW, iv0_RT⟩, iv0_B, iv0_C ws5_0, iv0_D, iv0_E, iv0_F⟩
