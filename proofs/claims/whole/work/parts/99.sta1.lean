/-! THE LAW'S START: the world is WS g M0 -/
theorem wcells_eq : wcells = [(0, 0), (1, 0), (1, 1), (1, 2), (1, 3), (1, 4), (1, 5), (1, 6), (1, 7), (1, 8), (2, 0), (2, 1), (2, 2), (2, 3), (2, 4), (3, 0), (4, 0), (4, 1), (4, 2), (5, 0), (6, 0), (7, 0), (8, 0), (9, 0), (10, 0), (11, 0), (12, 0), (12, 1), (12, 2), (12, 3), (12, 4), (12, 5), (12, 6), (12, 7), (12, 8), (13, 0), (13, 1), (13, 2), (13, 3), (13, 4), (13, 5), (13, 6), (13, 7), (13, 8), (13, 9), (13, 10), (13, 11), (13, 12), (13, 13), (14, 0), (15, 0), (16, 0), (17, 0), (18, 0), (18, 1), (18, 2), (19, 0), (19, 1), (19, 2), (20, 0), (20, 1), (20, 2), (21, 0), (21, 1), (21, 2), (22, 0), (22, 1), (22, 2), (23, 0), (23, 1), (23, 2), (24, 0), (24, 1), (24, 2), (25, 0), (25, 1), (25, 2), (26, 0), (26, 1), (26, 2), (27, 0), (27, 1), (27, 2), (28, 0), (29, 0), (30, 0), (31, 0), (32, 0), (33, 0), (34, 0), (35, 0), (36, 0), (37, 0), (38, 0), (39, 0), (40, 0), (41, 0), (42, 0), (43, 0), (44, 0), (45, 0), (46, 0), (47, 0), (48, 0)] := by decide +kernel
theorem cq_7 {g : GT} (hg : GH g) (j : Nat) (hj : j < 4) : some (gad g 1 j) = (va_up (va_up (va_up (va_up (fun _ => none) 0 (some (n0 g + (1 + 61)))) 1 (some (n0 g + (1 + 63)))) 2 (some (n0 g + (1 + 65)))) 3 (some (n0 g + (1 + 67)))) j := by
  match j, hj with
  | 0, _ => exact congrArg some (hg.at (t := 1) (k := 0) (o := 62) (by decide) rfl)
  | 1, _ => exact congrArg some (hg.at (t := 1) (k := 1) (o := 64) (by decide) rfl)
  | 2, _ => exact congrArg some (hg.at (t := 1) (k := 2) (o := 66) (by decide) rfl)
  | 3, _ => exact congrArg some (hg.at (t := 1) (k := 3) (o := 68) (by decide) rfl)
theorem cq_8 {g : GT} (hg : GH g) (j : Nat) (hj : j < 5) : some (gad g 2 j) = (va_up (va_up (va_up (va_up (va_up (fun _ => none) 0 (some (n0 g + (1 + 69)))) 1 (some (n0 g + (1 + 72)))) 2 (some (n0 g + (1 + 75)))) 3 (some (n0 g + (1 + 78)))) 4 (some (n0 g + (1 + 81)))) j := by
  match j, hj with
  | 0, _ => exact congrArg some (hg.at (t := 2) (k := 0) (o := 70) (by decide) rfl)
  | 1, _ => exact congrArg some (hg.at (t := 2) (k := 1) (o := 73) (by decide) rfl)
  | 2, _ => exact congrArg some (hg.at (t := 2) (k := 2) (o := 76) (by decide) rfl)
  | 3, _ => exact congrArg some (hg.at (t := 2) (k := 3) (o := 79) (by decide) rfl)
  | 4, _ => exact congrArg some (hg.at (t := 2) (k := 4) (o := 82) (by decide) rfl)
theorem cq_9 {g : GT} (hg : GH g) (j : Nat) (hj : j < 14) : some (gad g 13 j) = (if j < 14 then some (n0 g + (1 + 1) + 1 + j) else none) := by
  rw [if_pos hj]
  exact congrArg some ((hg.at (t := 13) (k := j) (o := 3 + 1 * j) (by decide) rfl).trans (by omega))
theorem WE_WS {g : GT} {H : Heap} (hg : GH g) (hP : va_P (gD g) vwCl (WE (n0 g) (EF g) 104) H) : va_P (gD g) vwCl (WS g M0) H := by
  have h : ∀ q ∈ wcells, va_at (gD g) vwCl (gad g q.1 q.2, cellE g M0 q.1 q.2) H := by
    rw [wcells_eq]
    refine List.forall_mem_cons.mpr ⟨(va_atE hg hP (by decide) rfl (by decide) (ce_0_0 hg)), ?_⟩
    refine List.forall_mem_cons.mpr ⟨(va_atE hg hP (by decide) rfl (by decide) (ce_1_0 hg)), ?_⟩
    refine List.forall_mem_cons.mpr ⟨(va_atE hg hP (by decide) rfl (by decide) (ce_1_1 hg)), ?_⟩
    refine List.forall_mem_cons.mpr ⟨(va_atE hg hP (by decide) rfl (by decide) (ce_1_2 hg)), ?_⟩
    refine List.forall_mem_cons.mpr ⟨(va_atE hg hP (by decide) rfl (by decide) (ce_1_3 hg)), ?_⟩
    refine List.forall_mem_cons.mpr ⟨(va_atE hg hP (by decide) rfl (by decide) (ce_1_4 hg)), ?_⟩
    refine List.forall_mem_cons.mpr ⟨(va_atE hg hP (by decide) rfl (by decide) (ce_1_5 hg)), ?_⟩
    refine List.forall_mem_cons.mpr ⟨(va_atE hg hP (by decide) rfl (by decide) (ce_1_6 hg)), ?_⟩
    refine List.forall_mem_cons.mpr ⟨(va_atE hg hP (by decide) rfl (by decide) (ce_1_7 hg)), ?_⟩
    refine List.forall_mem_cons.mpr ⟨(va_atE hg hP (by decide) rfl (by decide) (ce_1_8 hg)), ?_⟩
    refine List.forall_mem_cons.mpr ⟨(va_atE hg hP (by decide) rfl (by decide) (ce_2_0 hg)), ?_⟩
    refine List.forall_mem_cons.mpr ⟨(va_atE hg hP (by decide) rfl (by decide) (ce_2_1 hg)), ?_⟩
    refine List.forall_mem_cons.mpr ⟨(va_atE hg hP (by decide) rfl (by decide) (ce_2_2 hg)), ?_⟩
    refine List.forall_mem_cons.mpr ⟨(va_atE hg hP (by decide) rfl (by decide) (ce_2_3 hg)), ?_⟩
    refine List.forall_mem_cons.mpr ⟨(va_atE hg hP (by decide) rfl (by decide) (ce_2_4 hg)), ?_⟩
    refine List.forall_mem_cons.mpr ⟨(va_atE hg hP (by decide) rfl (by decide) (ce_3_0 hg)), ?_⟩
    refine List.forall_mem_cons.mpr ⟨(va_atE hg hP (by decide) rfl (by decide) (ce_4_0 hg)), ?_⟩
    refine List.forall_mem_cons.mpr ⟨(va_atE hg hP (by decide) rfl (by decide) (ce_4_1 hg)), ?_⟩
    refine List.forall_mem_cons.mpr ⟨(va_atE hg hP (by decide) rfl (by decide) (ce_4_2 hg)), ?_⟩
    refine List.forall_mem_cons.mpr ⟨(va_atE hg hP (by decide) rfl (by decide) (ce_5_0 hg)), ?_⟩
    refine List.forall_mem_cons.mpr ⟨(va_atE hg hP (by decide) rfl (by decide) (ce_6_0 hg)), ?_⟩
    refine List.forall_mem_cons.mpr ⟨(va_atQ hg hP (t := 7) (k := 0) (o := 58) (c := 1) (N := 4) (by decide) rfl (by decide) rfl rfl (fun j hj => cq_7 hg j hj)), ?_⟩
    refine List.forall_mem_cons.mpr ⟨(va_atQ hg hP (t := 8) (k := 0) (o := 59) (c := 2) (N := 5) (by decide) rfl (by decide) rfl rfl (fun j hj => cq_8 hg j hj)), ?_⟩
    refine List.forall_mem_cons.mpr ⟨(va_atQ hg hP (t := 9) (k := 0) (o := 2) (c := 3) (N := 14) (by decide) rfl (by decide) rfl rfl (fun j hj => cq_9 hg j hj)), ?_⟩
    refine List.forall_mem_cons.mpr ⟨(va_atE hg hP (by decide) rfl (by decide) ce_10_0), ?_⟩
    refine List.forall_mem_cons.mpr ⟨(va_atE hg hP (by decide) rfl (by decide) ce_11_0), ?_⟩
    refine List.forall_mem_cons.mpr ⟨(va_atE hg hP (by decide) rfl (by decide) ce_12_0), ?_⟩
    refine List.forall_mem_cons.mpr ⟨(va_atE hg hP (by decide) rfl (by decide) ce_12_1), ?_⟩
    refine List.forall_mem_cons.mpr ⟨(va_atE hg hP (by decide) rfl (by decide) ce_12_2), ?_⟩
    refine List.forall_mem_cons.mpr ⟨(va_atE hg hP (by decide) rfl (by decide) ce_12_3), ?_⟩
    refine List.forall_mem_cons.mpr ⟨(va_atE hg hP (by decide) rfl (by decide) ce_12_4), ?_⟩
    refine List.forall_mem_cons.mpr ⟨(va_atE hg hP (by decide) rfl (by decide) ce_12_5), ?_⟩
    refine List.forall_mem_cons.mpr ⟨(va_atE hg hP (by decide) rfl (by decide) ce_12_6), ?_⟩
    refine List.forall_mem_cons.mpr ⟨(va_atE hg hP (by decide) rfl (by decide) ce_12_7), ?_⟩
    refine List.forall_mem_cons.mpr ⟨(va_atE hg hP (by decide) rfl (by decide) ce_12_8), ?_⟩
    refine List.forall_mem_cons.mpr ⟨(va_atE hg hP (by decide) rfl (by decide) ce_13_0), ?_⟩
    refine List.forall_mem_cons.mpr ⟨(va_atE hg hP (by decide) rfl (by decide) ce_13_1), ?_⟩
    refine List.forall_mem_cons.mpr ⟨(va_atE hg hP (by decide) rfl (by decide) ce_13_2), ?_⟩
    refine List.forall_mem_cons.mpr ⟨(va_atE hg hP (by decide) rfl (by decide) ce_13_3), ?_⟩
    refine List.forall_mem_cons.mpr ⟨(va_atE hg hP (by decide) rfl (by decide) ce_13_4), ?_⟩
    refine List.forall_mem_cons.mpr ⟨(va_atE hg hP (by decide) rfl (by decide) ce_13_5), ?_⟩
    refine List.forall_mem_cons.mpr ⟨(va_atE hg hP (by decide) rfl (by decide) ce_13_6), ?_⟩
    refine List.forall_mem_cons.mpr ⟨(va_atE hg hP (by decide) rfl (by decide) ce_13_7), ?_⟩
    refine List.forall_mem_cons.mpr ⟨(va_atE hg hP (by decide) rfl (by decide) ce_13_8), ?_⟩
    refine List.forall_mem_cons.mpr ⟨(va_atE hg hP (by decide) rfl (by decide) ce_13_9), ?_⟩
    refine List.forall_mem_cons.mpr ⟨(va_atE hg hP (by decide) rfl (by decide) ce_13_10), ?_⟩
    refine List.forall_mem_cons.mpr ⟨(va_atE hg hP (by decide) rfl (by decide) ce_13_11), ?_⟩
    refine List.forall_mem_cons.mpr ⟨(va_atE hg hP (by decide) rfl (by decide) ce_13_12), ?_⟩
    refine List.forall_mem_cons.mpr ⟨(va_atE hg hP (by decide) rfl (by decide) ce_13_13), ?_⟩
    refine List.forall_mem_cons.mpr ⟨(va_atE hg hP (by decide) rfl (by decide) ce_14_0), ?_⟩
    refine List.forall_mem_cons.mpr ⟨(va_atE hg hP (by decide) rfl (by decide) ce_15_0), ?_⟩
    refine List.forall_mem_cons.mpr ⟨(va_atE hg hP (by decide) rfl (by decide) ce_16_0), ?_⟩
    refine List.forall_mem_cons.mpr ⟨(va_atE hg hP (by decide) rfl (by decide) ce_17_0), ?_⟩
    refine List.forall_mem_cons.mpr ⟨(va_atE hg hP (by decide) rfl (by decide) ce_18_0), ?_⟩
    refine List.forall_mem_cons.mpr ⟨(va_atE hg hP (by decide) rfl (by decide) ce_18_1), ?_⟩
    refine List.forall_mem_cons.mpr ⟨(va_atE hg hP (by decide) rfl (by decide) ce_18_2), ?_⟩
    refine List.forall_mem_cons.mpr ⟨(va_atE hg hP (by decide) rfl (by decide) ce_19_0), ?_⟩
    refine List.forall_mem_cons.mpr ⟨(va_atE hg hP (by decide) rfl (by decide) ce_19_1), ?_⟩
    refine List.forall_mem_cons.mpr ⟨(va_atE hg hP (by decide) rfl (by decide) ce_19_2), ?_⟩
    refine List.forall_mem_cons.mpr ⟨(va_atE hg hP (by decide) rfl (by decide) ce_20_0), ?_⟩
    refine List.forall_mem_cons.mpr ⟨(va_atE hg hP (by decide) rfl (by decide) ce_20_1), ?_⟩
    refine List.forall_mem_cons.mpr ⟨(va_atE hg hP (by decide) rfl (by decide) ce_20_2), ?_⟩
    refine List.forall_mem_cons.mpr ⟨(va_atE hg hP (by decide) rfl (by decide) ce_21_0), ?_⟩
    refine List.forall_mem_cons.mpr ⟨(va_atE hg hP (by decide) rfl (by decide) ce_21_1), ?_⟩
    refine List.forall_mem_cons.mpr ⟨(va_atE hg hP (by decide) rfl (by decide) ce_21_2), ?_⟩
    refine List.forall_mem_cons.mpr ⟨(va_atE hg hP (by decide) rfl (by decide) ce_22_0), ?_⟩
    refine List.forall_mem_cons.mpr ⟨(va_atE hg hP (by decide) rfl (by decide) ce_22_1), ?_⟩
    refine List.forall_mem_cons.mpr ⟨(va_atE hg hP (by decide) rfl (by decide) ce_22_2), ?_⟩
    refine List.forall_mem_cons.mpr ⟨(va_atE hg hP (by decide) rfl (by decide) ce_23_0), ?_⟩
    refine List.forall_mem_cons.mpr ⟨(va_atE hg hP (by decide) rfl (by decide) ce_23_1), ?_⟩
    refine List.forall_mem_cons.mpr ⟨(va_atE hg hP (by decide) rfl (by decide) ce_23_2), ?_⟩
    refine List.forall_mem_cons.mpr ⟨(va_atE hg hP (by decide) rfl (by decide) ce_24_0), ?_⟩
    refine List.forall_mem_cons.mpr ⟨(va_atE hg hP (by decide) rfl (by decide) ce_24_1), ?_⟩
    refine List.forall_mem_cons.mpr ⟨(va_atE hg hP (by decide) rfl (by decide) ce_24_2), ?_⟩
    refine List.forall_mem_cons.mpr ⟨(va_atE hg hP (by decide) rfl (by decide) ce_25_0), ?_⟩
    refine List.forall_mem_cons.mpr ⟨(va_atE hg hP (by decide) rfl (by decide) ce_25_1), ?_⟩
    refine List.forall_mem_cons.mpr ⟨(va_atE hg hP (by decide) rfl (by decide) ce_25_2), ?_⟩
    refine List.forall_mem_cons.mpr ⟨(va_atE hg hP (by decide) rfl (by decide) ce_26_0), ?_⟩
    refine List.forall_mem_cons.mpr ⟨(va_atE hg hP (by decide) rfl (by decide) ce_26_1), ?_⟩
    refine List.forall_mem_cons.mpr ⟨(va_atE hg hP (by decide) rfl (by decide) ce_26_2), ?_⟩
    refine List.forall_mem_cons.mpr ⟨(va_atE hg hP (by decide) rfl (by decide) ce_27_0), ?_⟩
    refine List.forall_mem_cons.mpr ⟨(va_atE hg hP (by decide) rfl (by decide) ce_27_1), ?_⟩
    refine List.forall_mem_cons.mpr ⟨(va_atE hg hP (by decide) rfl (by decide) ce_27_2), ?_⟩
    refine List.forall_mem_cons.mpr ⟨(va_atE hg hP (by decide) rfl (by decide) ce_28_0), ?_⟩
    refine List.forall_mem_cons.mpr ⟨(va_atE hg hP (by decide) rfl (by decide) ce_29_0), ?_⟩
    refine List.forall_mem_cons.mpr ⟨(va_atE hg hP (by decide) rfl (by decide) ce_30_0), ?_⟩
    refine List.forall_mem_cons.mpr ⟨(va_atE hg hP (by decide) rfl (by decide) ce_31_0), ?_⟩
    refine List.forall_mem_cons.mpr ⟨(va_atE hg hP (by decide) rfl (by decide) ce_32_0), ?_⟩
    refine List.forall_mem_cons.mpr ⟨(va_atE hg hP (by decide) rfl (by decide) ce_33_0), ?_⟩
    refine List.forall_mem_cons.mpr ⟨(va_atE hg hP (by decide) rfl (by decide) ce_34_0), ?_⟩
    refine List.forall_mem_cons.mpr ⟨(va_atE hg hP (by decide) rfl (by decide) ce_35_0), ?_⟩
    refine List.forall_mem_cons.mpr ⟨(va_atE hg hP (by decide) rfl (by decide) ce_36_0), ?_⟩
    refine List.forall_mem_cons.mpr ⟨(va_atE hg hP (by decide) rfl (by decide) ce_37_0), ?_⟩
    refine List.forall_mem_cons.mpr ⟨(va_atE hg hP (by decide) rfl (by decide) ce_38_0), ?_⟩
    refine List.forall_mem_cons.mpr ⟨(va_atE hg hP (by decide) rfl (by decide) ce_39_0), ?_⟩
    refine List.forall_mem_cons.mpr ⟨(va_atE hg hP (by decide) rfl (by decide) ce_40_0), ?_⟩
    refine List.forall_mem_cons.mpr ⟨(va_atE hg hP (by decide) rfl (by decide) ce_41_0), ?_⟩
    refine List.forall_mem_cons.mpr ⟨(va_atE hg hP (by decide) rfl (by decide) ce_42_0), ?_⟩
    refine List.forall_mem_cons.mpr ⟨(va_atE hg hP (by decide) rfl (by decide) ce_43_0), ?_⟩
    refine List.forall_mem_cons.mpr ⟨(va_atE hg hP (by decide) rfl (by decide) ce_44_0), ?_⟩
    refine List.forall_mem_cons.mpr ⟨(va_atE hg hP (by decide) rfl (by decide) ce_45_0), ?_⟩
    refine List.forall_mem_cons.mpr ⟨(va_atE hg hP (by decide) rfl (by decide) ce_46_0), ?_⟩
    refine List.forall_mem_cons.mpr ⟨(va_atE hg hP (by decide) rfl (by decide) ce_47_0), ?_⟩
    refine List.forall_mem_cons.mpr ⟨(va_atE hg hP (by decide) rfl (by decide) ce_48_0), ?_⟩
    exact fun q hq => absurd hq List.not_mem_nil
  intro k q hq
  unfold WS at hq
  rw [List.getElem?_map] at hq
  obtain ⟨a, ha, rfl⟩ := Option.map_eq_some_iff.mp hq
  exact h a (List.mem_of_getElem? ha)
