/-! THE LAW'S START: where the cells lie, what is in them -/
def offT : List (Nat × Nat) := [(54, 1), (62, 1), (70, 3), (1, 1), (21, 11), (0, 1), (85, 1), (58, 1), (59, 1), (2, 1), (55, 1), (56, 1), (63, 1), (3, 1), (17, 1), (18, 1), (19, 1), (20, 1), (22, 11), (23, 11), (24, 11), (25, 11), (26, 11), (27, 11), (28, 11), (29, 11), (30, 11), (31, 11), (57, 1), (60, 1), (61, 1), (86, 1), (87, 1), (88, 1), (89, 1), (90, 1), (91, 1), (92, 1), (93, 1), (94, 1), (95, 1), (96, 1), (97, 1), (98, 1), (99, 1), (100, 1), (101, 1), (102, 1), (103, 1)]
def off (t k : Nat) : Nat := if t = 1 then (if k < 4 then 62 + 2 * k else 71 + 3 * (k - 4)) else if t = 12 then (if k < 4 then 63 + 2 * k else 72 + 3 * (k - 4)) else (offT.getD t (0, 0)).1 + (offT.getD t (0, 0)).2 * k
def M0 : TM := fun t _ => if t = 18 then mixF (fun _ => 60) (fun _ => 0) 6 else if t = 26 then upd (upd (fun _ => 0) 0 3) 1 20 else if t = 27 then mixF (fun _ => (-1000000005)) (fun _ => 0) 3 else if t = 31 then (upd (upd (upd (upd (upd (upd (upd (upd (upd (fun _ => 0) 8 1) 3 3) 4 20) 9 60) 10 60) 11 60) 12 60) 13 60) 14 60) else if t = 34 then (upd (upd (upd (upd (fun _ => 0) 0 (-1)) 1 (-1)) 2 (-1)) 3 (-1)) else if t = 1 then (fun j => if j = 1 then -1 else 0) else if t = 4 then (fun j => if j = 15 then 1 else if j = 17 then -1 else 0) else fun _ => 0
def EF (g : GT) : Nat → va_E := AP (fun _ => zE) 0 (.inr (5, fs_X5 g 1)) 1 ((L1_X5 g 1 ++ [.inr (6, dfs 6)] : List va_E).set 84 (.inr (6, fs_X6 g 86)) ++ L1_X6 g 86)
def GH (g : GT) : Prop := ∃ sad : Nat → Nat → Nat, gad g = fun t k => if t < 49 then n0 g + off t k else sad t k
theorem GH.at {g : GT} (h : GH g) {t k o : Nat} (ht : t < 49) (ho : off t k = o) : gad g t k = n0 g + o := by
  obtain ⟨sad, h⟩ := h
  have q := congrFun (congrFun h t) k
  rw [q, ← ho]; exact if_pos ht
theorem va_atE {g : GT} {H : Heap} (hg : GH g) (hP : va_P (gD g) vwCl (WE (n0 g) (EF g) 104) H) {t k o : Nat} (ht : t < 49) (ho : off t k = o) (hl : o < 104) (hE : cellE g M0 t k = EF g o) : va_at (gD g) vwCl (gad g t k, cellE g M0 t k) H := by
  rw [hg.at ht ho, hE]; exact hP o _ (WE_at _ _ hl)
theorem va_atQ {g : GT} {H : Heap} (hg : GH g) (hP : va_P (gD g) vwCl (WE (n0 g) (EF g) 104) H) {t k o c N : Nat} {f f2 : Nat → Option Nat} (ht : t < 49) (ho : off t k = o) (hl : o < 104) (hE : cellE g M0 t k = .inl (gc g c, N, rfs f)) (hE2 : EF g o = .inl (gc g c, N, rfs f2)) (hf : ∀ j, j < N → f j = f2 j) : va_at (gD g) vwCl (gad g t k, cellE g M0 t k) H := by
  have q := hP o _ (WE_at _ _ hl)
  rw [hE2] at q
  rw [hg.at ht ho, hE]
  show H[n0 g + o]? = some (vp_cell _ _)
  rw [show H[n0 g + o]? = some (vp_cell (gc g c) (N, rfs f2)) from q, vp_cell_q, vp_cell_q]
  congr 1
  unfold arrV
  congr 1
  first
    | (apply Array.ext'; simp only [Array.toList_map, Array.toList_range]; apply List.map_congr_left; intro j hj; rw [hf j (List.mem_range.mp hj)])
    | (apply congrArg List.toArray; apply List.map_congr_left; intro j hj; rw [hf j (List.mem_range.mp hj)])
    | (apply Array.ext; · simp
       · intro j h1 h2; simp; rw [hf j (by simpa using h1)])
set_option maxRecDepth 100000 in
theorem ce_0_0 {g : GT} (hg : GH g) : cellE g M0 0 0 = EF g 54 := by
  obtain ⟨sad, hg⟩ := hg
  unfold cellE fval
  rw [hg]
  rfl
set_option maxRecDepth 100000 in
theorem ce_1_0 {g : GT} (hg : GH g) : cellE g M0 1 0 = EF g 62 := by
  obtain ⟨sad, hg⟩ := hg
  unfold cellE fval
  rw [hg]
  rfl
set_option maxRecDepth 100000 in
theorem ce_1_1 {g : GT} (hg : GH g) : cellE g M0 1 1 = EF g 64 := by
  obtain ⟨sad, hg⟩ := hg
  unfold cellE fval
  rw [hg]
  rfl
set_option maxRecDepth 100000 in
theorem ce_1_2 {g : GT} (hg : GH g) : cellE g M0 1 2 = EF g 66 := by
  obtain ⟨sad, hg⟩ := hg
  unfold cellE fval
  rw [hg]
  rfl
set_option maxRecDepth 100000 in
theorem ce_1_3 {g : GT} (hg : GH g) : cellE g M0 1 3 = EF g 68 := by
  obtain ⟨sad, hg⟩ := hg
  unfold cellE fval
  rw [hg]
  rfl
set_option maxRecDepth 100000 in
theorem ce_1_4 {g : GT} (hg : GH g) : cellE g M0 1 4 = EF g 71 := by
  obtain ⟨sad, hg⟩ := hg
  unfold cellE fval
  rw [hg]
  rfl
set_option maxRecDepth 100000 in
theorem ce_1_5 {g : GT} (hg : GH g) : cellE g M0 1 5 = EF g 74 := by
  obtain ⟨sad, hg⟩ := hg
  unfold cellE fval
  rw [hg]
  rfl
set_option maxRecDepth 100000 in
theorem ce_1_6 {g : GT} (hg : GH g) : cellE g M0 1 6 = EF g 77 := by
  obtain ⟨sad, hg⟩ := hg
  unfold cellE fval
  rw [hg]
  rfl
set_option maxRecDepth 100000 in
theorem ce_1_7 {g : GT} (hg : GH g) : cellE g M0 1 7 = EF g 80 := by
  obtain ⟨sad, hg⟩ := hg
  unfold cellE fval
  rw [hg]
  rfl
set_option maxRecDepth 100000 in
theorem ce_1_8 {g : GT} (hg : GH g) : cellE g M0 1 8 = EF g 83 := by
  obtain ⟨sad, hg⟩ := hg
  unfold cellE fval
  rw [hg]
  rfl
set_option maxRecDepth 100000 in
theorem ce_2_0 {g : GT} (hg : GH g) : cellE g M0 2 0 = EF g 70 := by
  obtain ⟨sad, hg⟩ := hg
  unfold cellE fval
  rw [hg]
  rfl
set_option maxRecDepth 100000 in
theorem ce_2_1 {g : GT} (hg : GH g) : cellE g M0 2 1 = EF g 73 := by
  obtain ⟨sad, hg⟩ := hg
  unfold cellE fval
  rw [hg]
  rfl
set_option maxRecDepth 100000 in
theorem ce_2_2 {g : GT} (hg : GH g) : cellE g M0 2 2 = EF g 76 := by
  obtain ⟨sad, hg⟩ := hg
  unfold cellE fval
  rw [hg]
  rfl
set_option maxRecDepth 100000 in
theorem ce_2_3 {g : GT} (hg : GH g) : cellE g M0 2 3 = EF g 79 := by
  obtain ⟨sad, hg⟩ := hg
  unfold cellE fval
  rw [hg]
  rfl
set_option maxRecDepth 100000 in
theorem ce_2_4 {g : GT} (hg : GH g) : cellE g M0 2 4 = EF g 82 := by
  obtain ⟨sad, hg⟩ := hg
  unfold cellE fval
  rw [hg]
  rfl
set_option maxRecDepth 100000 in
theorem ce_3_0 {g : GT} (hg : GH g) : cellE g M0 3 0 = EF g 1 := by
  obtain ⟨sad, hg⟩ := hg
  unfold cellE fval
  rw [hg]
  rfl
set_option maxRecDepth 100000 in
theorem ce_4_0 {g : GT} (hg : GH g) : cellE g M0 4 0 = EF g 21 := by
  obtain ⟨sad, hg⟩ := hg
  unfold cellE fval
  rw [hg]
  rfl
set_option maxRecDepth 100000 in
theorem ce_4_1 {g : GT} (hg : GH g) : cellE g M0 4 1 = EF g 32 := by
  obtain ⟨sad, hg⟩ := hg
  unfold cellE fval
  rw [hg]
  rfl
set_option maxRecDepth 100000 in
theorem ce_4_2 {g : GT} (hg : GH g) : cellE g M0 4 2 = EF g 43 := by
  obtain ⟨sad, hg⟩ := hg
  unfold cellE fval
  rw [hg]
  rfl
set_option maxRecDepth 100000 in
theorem ce_5_0 {g : GT} (hg : GH g) : cellE g M0 5 0 = EF g 0 := by
  obtain ⟨sad, hg⟩ := hg
  unfold cellE fval
  rw [hg]
  rfl
set_option maxRecDepth 100000 in
theorem ce_6_0 {g : GT} (hg : GH g) : cellE g M0 6 0 = EF g 85 := by
  obtain ⟨sad, hg⟩ := hg
  unfold cellE fval
  rw [hg]
  rfl
theorem ce_10_0 {g : GT} : cellE g M0 10 0 = EF g 55 := rfl
theorem ce_11_0 {g : GT} : cellE g M0 11 0 = EF g 56 := rfl
theorem ce_12_0 {g : GT} : cellE g M0 12 0 = EF g 63 := rfl
theorem ce_12_1 {g : GT} : cellE g M0 12 1 = EF g 65 := rfl
theorem ce_12_2 {g : GT} : cellE g M0 12 2 = EF g 67 := rfl
theorem ce_12_3 {g : GT} : cellE g M0 12 3 = EF g 69 := rfl
theorem ce_12_4 {g : GT} : cellE g M0 12 4 = EF g 72 := rfl
theorem ce_12_5 {g : GT} : cellE g M0 12 5 = EF g 75 := rfl
theorem ce_12_6 {g : GT} : cellE g M0 12 6 = EF g 78 := rfl
theorem ce_12_7 {g : GT} : cellE g M0 12 7 = EF g 81 := rfl
theorem ce_12_8 {g : GT} : cellE g M0 12 8 = EF g 84 := rfl
theorem ce_13_0 {g : GT} : cellE g M0 13 0 = EF g 3 := rfl
theorem ce_13_1 {g : GT} : cellE g M0 13 1 = EF g 4 := rfl
theorem ce_13_2 {g : GT} : cellE g M0 13 2 = EF g 5 := rfl
theorem ce_13_3 {g : GT} : cellE g M0 13 3 = EF g 6 := rfl
theorem ce_13_4 {g : GT} : cellE g M0 13 4 = EF g 7 := rfl
theorem ce_13_5 {g : GT} : cellE g M0 13 5 = EF g 8 := rfl
theorem ce_13_6 {g : GT} : cellE g M0 13 6 = EF g 9 := rfl
theorem ce_13_7 {g : GT} : cellE g M0 13 7 = EF g 10 := rfl
theorem ce_13_8 {g : GT} : cellE g M0 13 8 = EF g 11 := rfl
theorem ce_13_9 {g : GT} : cellE g M0 13 9 = EF g 12 := rfl
theorem ce_13_10 {g : GT} : cellE g M0 13 10 = EF g 13 := rfl
theorem ce_13_11 {g : GT} : cellE g M0 13 11 = EF g 14 := rfl
theorem ce_13_12 {g : GT} : cellE g M0 13 12 = EF g 15 := rfl
theorem ce_13_13 {g : GT} : cellE g M0 13 13 = EF g 16 := rfl
theorem ce_14_0 {g : GT} : cellE g M0 14 0 = EF g 17 := rfl
theorem ce_15_0 {g : GT} : cellE g M0 15 0 = EF g 18 := rfl
theorem ce_16_0 {g : GT} : cellE g M0 16 0 = EF g 19 := rfl
theorem ce_17_0 {g : GT} : cellE g M0 17 0 = EF g 20 := rfl
theorem ce_18_0 {g : GT} : cellE g M0 18 0 = EF g 22 := rfl
theorem ce_18_1 {g : GT} : cellE g M0 18 1 = EF g 33 := rfl
theorem ce_18_2 {g : GT} : cellE g M0 18 2 = EF g 44 := rfl
theorem ce_19_0 {g : GT} : cellE g M0 19 0 = EF g 23 := rfl
theorem ce_19_1 {g : GT} : cellE g M0 19 1 = EF g 34 := rfl
theorem ce_19_2 {g : GT} : cellE g M0 19 2 = EF g 45 := rfl
theorem ce_20_0 {g : GT} : cellE g M0 20 0 = EF g 24 := rfl
theorem ce_20_1 {g : GT} : cellE g M0 20 1 = EF g 35 := rfl
theorem ce_20_2 {g : GT} : cellE g M0 20 2 = EF g 46 := rfl
theorem ce_21_0 {g : GT} : cellE g M0 21 0 = EF g 25 := rfl
theorem ce_21_1 {g : GT} : cellE g M0 21 1 = EF g 36 := rfl
theorem ce_21_2 {g : GT} : cellE g M0 21 2 = EF g 47 := rfl
theorem ce_22_0 {g : GT} : cellE g M0 22 0 = EF g 26 := rfl
theorem ce_22_1 {g : GT} : cellE g M0 22 1 = EF g 37 := rfl
theorem ce_22_2 {g : GT} : cellE g M0 22 2 = EF g 48 := rfl
theorem ce_23_0 {g : GT} : cellE g M0 23 0 = EF g 27 := rfl
theorem ce_23_1 {g : GT} : cellE g M0 23 1 = EF g 38 := rfl
theorem ce_23_2 {g : GT} : cellE g M0 23 2 = EF g 49 := rfl
theorem ce_24_0 {g : GT} : cellE g M0 24 0 = EF g 28 := rfl
theorem ce_24_1 {g : GT} : cellE g M0 24 1 = EF g 39 := rfl
theorem ce_24_2 {g : GT} : cellE g M0 24 2 = EF g 50 := rfl
theorem ce_25_0 {g : GT} : cellE g M0 25 0 = EF g 29 := rfl
theorem ce_25_1 {g : GT} : cellE g M0 25 1 = EF g 40 := rfl
theorem ce_25_2 {g : GT} : cellE g M0 25 2 = EF g 51 := rfl
theorem ce_26_0 {g : GT} : cellE g M0 26 0 = EF g 30 := rfl
theorem ce_26_1 {g : GT} : cellE g M0 26 1 = EF g 41 := rfl
theorem ce_26_2 {g : GT} : cellE g M0 26 2 = EF g 52 := rfl
theorem ce_27_0 {g : GT} : cellE g M0 27 0 = EF g 31 := rfl
theorem ce_27_1 {g : GT} : cellE g M0 27 1 = EF g 42 := rfl
theorem ce_27_2 {g : GT} : cellE g M0 27 2 = EF g 53 := rfl
theorem ce_28_0 {g : GT} : cellE g M0 28 0 = EF g 57 := rfl
theorem ce_29_0 {g : GT} : cellE g M0 29 0 = EF g 60 := rfl
theorem ce_30_0 {g : GT} : cellE g M0 30 0 = EF g 61 := rfl
theorem ce_31_0 {g : GT} : cellE g M0 31 0 = EF g 86 := rfl
theorem ce_32_0 {g : GT} : cellE g M0 32 0 = EF g 87 := rfl
theorem ce_33_0 {g : GT} : cellE g M0 33 0 = EF g 88 := rfl
theorem ce_34_0 {g : GT} : cellE g M0 34 0 = EF g 89 := rfl
theorem ce_35_0 {g : GT} : cellE g M0 35 0 = EF g 90 := rfl
theorem ce_36_0 {g : GT} : cellE g M0 36 0 = EF g 91 := rfl
theorem ce_37_0 {g : GT} : cellE g M0 37 0 = EF g 92 := rfl
theorem ce_38_0 {g : GT} : cellE g M0 38 0 = EF g 93 := rfl
theorem ce_39_0 {g : GT} : cellE g M0 39 0 = EF g 94 := rfl
theorem ce_40_0 {g : GT} : cellE g M0 40 0 = EF g 95 := rfl
theorem ce_41_0 {g : GT} : cellE g M0 41 0 = EF g 96 := rfl
theorem ce_42_0 {g : GT} : cellE g M0 42 0 = EF g 97 := rfl
theorem ce_43_0 {g : GT} : cellE g M0 43 0 = EF g 98 := rfl
theorem ce_44_0 {g : GT} : cellE g M0 44 0 = EF g 99 := rfl
theorem ce_45_0 {g : GT} : cellE g M0 45 0 = EF g 100 := rfl
theorem ce_46_0 {g : GT} : cellE g M0 46 0 = EF g 101 := rfl
theorem ce_47_0 {g : GT} : cellE g M0 47 0 = EF g 102 := rfl
theorem ce_48_0 {g : GT} : cellE g M0 48 0 = EF g 103 := rfl
