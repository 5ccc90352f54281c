theorem lgc_lt {x y : Int64} : lg_cmp x y < 0 ↔ x < y := by
  unfold lg_cmp
  simp only [gt_iff_lt, Int64.lt_iff_toInt_lt, ← Int64.toInt_inj]
  split
  · next h => simp; omega
  · split
    · next h => simp; omega
    · next h => simp; omega
theorem lgc_gt {x y : Int64} : 0 < lg_cmp x y ↔ y < x := by
  unfold lg_cmp
  simp only [gt_iff_lt, Int64.lt_iff_toInt_lt, ← Int64.toInt_inj]
  split
  · next h => simp; omega
  · split
    · next h => simp; omega
    · next h => simp; omega
theorem i64_le (a b : Int32) : a.toInt64 ≤ b.toInt64 ↔ a ≤ b := by rw [Int64.le_iff_toInt_le, Int32.le_iff_toInt_le, Int32.toInt_toInt64, Int32.toInt_toInt64]

set_option maxRecDepth 100000 in
set_option maxHeartbeats 4000000 in
theorem c6_isIn {g : GT} (M : TM) (v lo hi : Int64) : Cn g yX6_isIn cX6_isIn 6 (some .boolean) 0 [.long v, .long lo, .long hi] M (Rt (.int (bI (lo ≤ v ∧ v ≤ hi))) M) := by
  refine Cn.ofTR (by decide +kernel) (Nat.le_of_ble_eq_true rfl) ?_
  refine q_lload_n 1 dX6_isIn_0 rfl rfl ?_
  refine q_lload_n 2 dX6_isIn_1 rfl rfl ?_
  refine q_lcmp 3 dX6_isIn_2 rfl ?_
  refine q_if_lt 17 6 dX6_isIn_3 rfl rfl (fun h_3 => ?_) (fun h_3 => ?_)
  · skip
    refine q_iconst (v := 0) 18 dX6_isIn_17 rfl rfl ?_
    refine q_zret dX6_isIn_18 rfl ?_
    refine ⟨congrArg (fun x => some (Value.int x)) ?_, rfl⟩
    try simp only [← Int32.not_lt, ← Int64.not_lt] at *
    simp only [lgc_lt, lgc_gt, ← Int64.not_lt] at *
    simp_all [bI, -Int32.not_lt, -Int64.not_lt, -Int32.not_le, -Int64.not_le]
  · skip
    refine q_lload_n 7 dX6_isIn_6 rfl rfl ?_
    refine q_lload 9 dX6_isIn_7 rfl rfl ?_
    refine q_lcmp 10 dX6_isIn_9 rfl ?_
    refine q_if_gt 17 13 dX6_isIn_10 rfl rfl (fun h_10 => ?_) (fun h_10 => ?_)
    · skip
      refine q_iconst (v := 0) 18 dX6_isIn_17 rfl rfl ?_
      refine q_zret dX6_isIn_18 rfl ?_
      refine ⟨congrArg (fun x => some (Value.int x)) ?_, rfl⟩
      try simp only [← Int32.not_lt, ← Int64.not_lt] at *
      simp only [lgc_lt, lgc_gt, ← Int64.not_lt] at *
      simp_all [bI, -Int32.not_lt, -Int64.not_lt, -Int32.not_le, -Int64.not_le]
    · skip
      refine q_iconst (v := 1) 14 dX6_isIn_13 rfl rfl ?_
      refine q_goto 18 dX6_isIn_14 rfl ?_
      refine q_zret dX6_isIn_18 rfl ?_
      refine ⟨congrArg (fun x => some (Value.int x)) ?_, rfl⟩
      try simp only [← Int32.not_lt, ← Int64.not_lt] at *
      simp only [lgc_lt, lgc_gt, ← Int64.not_lt] at *
      simp_all [bI, -Int32.not_lt, -Int64.not_lt, -Int32.not_le, -Int64.not_le]
/-- isIn of ints -/
theorem c6_isIn' {g : GT} (M : TM) (v lo hi : Int32) (l h : Int64) (hl : l = lo.toInt64 := by rfl) (hh : h = hi.toInt64 := by rfl) : Cn g yX6_isIn cX6_isIn 6 (some .boolean) 0 [.long v.toInt64, .long l, .long h] M (Rt (.int (bI (lo ≤ v ∧ v ≤ hi))) M) := by
  subst hl; subst hh
  have e : bI (lo.toInt64 ≤ v.toInt64 ∧ v.toInt64 ≤ hi.toInt64) = bI (lo ≤ v ∧ v ≤ hi) := bI_c (by rw [i64_le, i64_le])
  rw [← e]
  exact c6_isIn M _ _ _
set_option maxRecDepth 100000 in
set_option maxHeartbeats 4000000 in
theorem c6_orNone {g : GT} (M : TM) (v : Int32) : Cn g yX6_orNone cX6_orNone 1 (some .int) 0 [.int v] M (Rt (.int (if v < 0 then -1000000005 else v)) M) := by
  refine Cn.ofTR (by decide +kernel) (Nat.le_of_ble_eq_true rfl) ?_
  refine q_iload_n 1 dX6_orNone_0 rfl rfl ?_
  refine q_if_ge 9 4 dX6_orNone_1 rfl rfl (fun h_1 => ?_) (fun h_1 => ?_)
  · skip
    refine q_iload_n 10 dX6_orNone_9 rfl rfl ?_
    refine q_iret dX6_orNone_10 ?_
    refine ⟨congrArg (fun x => some (Value.int x)) ?_, rfl⟩
    try simp only [← Int32.not_lt, ← Int64.not_lt] at *
    simp_all [-Int32.not_lt, -Int64.not_lt, -Int32.not_le, -Int64.not_le]
  · skip
    refine q_ldc 6 dX6_orNone_4 rfl cs_X6_64 ?_
    refine q_goto 10 dX6_orNone_6 rfl ?_
    refine q_iret dX6_orNone_10 ?_
    refine ⟨congrArg (fun x => some (Value.int x)) ?_, rfl⟩
    try simp only [← Int32.not_lt, ← Int64.not_lt] at *
    simp_all [-Int32.not_lt, -Int64.not_lt, -Int32.not_le, -Int64.not_le]
set_option maxRecDepth 100000 in
set_option maxHeartbeats 4000000 in
theorem c6_within {g : GT} (M : TM) (v most : Int32) : Cn g yX6_within cX6_within 2 (some .int) 0 [.int v, .int most] M (Rt (.int (wiF v most)) M) := by
  refine Cn.ofTR (by decide +kernel) (Nat.le_of_ble_eq_true rfl) ?_
  refine q_iload_n 1 dX6_within_0 rfl rfl ?_
  refine q_if_ge 8 4 dX6_within_1 rfl rfl (fun h_1 => ?_) (fun h_1 => ?_)
  · skip
    refine q_iload_n 9 dX6_within_8 rfl rfl ?_
    refine q_iload_n 10 dX6_within_9 rfl rfl ?_
    refine q_icmp_le 17 13 dX6_within_10 rfl rfl (fun h_10 => ?_) (fun h_10 => ?_)
    · skip
      refine q_iload_n 18 dX6_within_17 rfl rfl ?_
      refine q_iret dX6_within_18 ?_
      refine ⟨congrArg (fun x => some (Value.int x)) ?_, rfl⟩
      try simp only [← Int32.not_lt, ← Int64.not_lt] at *
      simp_all [wiF, -Int32.not_lt, -Int64.not_lt, -Int32.not_le, -Int64.not_le]
    · skip
      refine q_iload_n 14 dX6_within_13 rfl rfl ?_
      refine q_goto 18 dX6_within_14 rfl ?_
      refine q_iret dX6_within_18 ?_
      refine ⟨congrArg (fun x => some (Value.int x)) ?_, rfl⟩
      try simp only [← Int32.not_lt, ← Int64.not_lt] at *
      simp_all [wiF, -Int32.not_lt, -Int64.not_lt, -Int32.not_le, -Int64.not_le]
  · skip
    refine q_iconst (v := 0) 5 dX6_within_4 rfl rfl ?_
    refine q_goto 18 dX6_within_5 rfl ?_
    refine q_iret dX6_within_18 ?_
    refine ⟨congrArg (fun x => some (Value.int x)) ?_, rfl⟩
    try simp only [← Int32.not_lt, ← Int64.not_lt] at *
    simp_all [wiF, -Int32.not_lt, -Int64.not_lt, -Int32.not_le, -Int64.not_le]
set_option maxRecDepth 100000 in
set_option maxHeartbeats 4000000 in
theorem c6_off {g : GT} (M : TM) (a b : Int32) : Cn g yX6_off cX6_off 2 (some .int) 0 [.int a, .int b] M (Rt (.int (if a < b then b - a else a - b)) M) := by
  refine Cn.ofTR (by decide +kernel) (Nat.le_of_ble_eq_true rfl) ?_
  refine q_iload_n 1 dX6_off_0 rfl rfl ?_
  refine q_iload_n 2 dX6_off_1 rfl rfl ?_
  refine q_icmp_ge 11 5 dX6_off_2 rfl rfl (fun h_2 => ?_) (fun h_2 => ?_)
  · skip
    refine q_iload_n 12 dX6_off_11 rfl rfl ?_
    refine q_iload_n 13 dX6_off_12 rfl rfl ?_
    refine q_isub 14 dX6_off_13 rfl ?_
    refine q_iret dX6_off_14 ?_
    refine ⟨congrArg (fun x => some (Value.int x)) ?_, rfl⟩
    try simp only [← Int32.not_lt, ← Int64.not_lt] at *
    simp_all [-Int32.not_lt, -Int64.not_lt, -Int32.not_le, -Int64.not_le]
  · skip
    refine q_iload_n 6 dX6_off_5 rfl rfl ?_
    refine q_iload_n 7 dX6_off_6 rfl rfl ?_
    refine q_isub 8 dX6_off_7 rfl ?_
    refine q_goto 14 dX6_off_8 rfl ?_
    refine q_iret dX6_off_14 ?_
    refine ⟨congrArg (fun x => some (Value.int x)) ?_, rfl⟩
    try simp only [← Int32.not_lt, ← Int64.not_lt] at *
    simp_all [-Int32.not_lt, -Int64.not_lt, -Int32.not_le, -Int64.not_le]
set_option maxRecDepth 100000 in
set_option maxHeartbeats 4000000 in
theorem c6_least {g : GT} (M : TM) (a b : Int32) : Cn g yX6_least cX6_least 2 (some .int) 0 [.int a, .int b] M (Rt (.int (leF a b)) M) := by
  refine Cn.ofTR (by decide +kernel) (Nat.le_of_ble_eq_true rfl) ?_
  refine q_iload_n 1 dX6_least_0 rfl rfl ?_
  refine q_iload_n 2 dX6_least_1 rfl rfl ?_
  refine q_icmp_ge 9 5 dX6_least_2 rfl rfl (fun h_2 => ?_) (fun h_2 => ?_)
  · skip
    refine q_iload_n 10 dX6_least_9 rfl rfl ?_
    refine q_iret dX6_least_10 ?_
    refine ⟨congrArg (fun x => some (Value.int x)) ?_, rfl⟩
    try simp only [← Int32.not_lt, ← Int64.not_lt] at *
    simp_all [leF, -Int32.not_lt, -Int64.not_lt, -Int32.not_le, -Int64.not_le]
  · skip
    refine q_iload_n 6 dX6_least_5 rfl rfl ?_
    refine q_goto 10 dX6_least_6 rfl ?_
    refine q_iret dX6_least_10 ?_
    refine ⟨congrArg (fun x => some (Value.int x)) ?_, rfl⟩
    try simp only [← Int32.not_lt, ← Int64.not_lt] at *
    simp_all [leF, -Int32.not_lt, -Int64.not_lt, -Int32.not_le, -Int64.not_le]
set_option maxRecDepth 100000 in
set_option maxHeartbeats 4000000 in
theorem c6_changes {g : GT} (M : TM) (x v : Int32) (i : Nat) (hx : x = nI i) (hi : i < 3071) : Cn g yX6_changes cX6_changes 4 (some .int) 0 [.ref (gad g 6 0), .int x, .int v] M (Rt (.int (M 31 0 i)) (putA M 31 0 (upd (M 31 0) i v))) := by
  refine Cn.ofTR (by decide +kernel) (Nat.le_of_ble_eq_true rfl) ?_
  refine q_aload_n 1 dX6_changes_0 rfl rfl ?_
  refine q_getR 4 dX6_changes_1 rfl fl_X6_7 (by decide) rfl rfl ?_
  refine q_iload_n 5 dX6_changes_4 rfl rfl ?_
  refine q_iald 6 dX6_changes_5 rfl (by decide) (by decide) hx hi ?_
  refine q_istore_n 7 dX6_changes_6 rfl (by decide) rfl ?_
  refine q_aload_n 8 dX6_changes_7 rfl rfl ?_
  refine q_getR 11 dX6_changes_8 rfl fl_X6_7 (by decide) rfl rfl ?_
  refine q_iload_n 12 dX6_changes_11 rfl rfl ?_
  refine q_iload_n 13 dX6_changes_12 rfl rfl ?_
  refine q_iast 14 dX6_changes_13 rfl (by decide) (by decide) hx hi ?_
  refine q_iload_n 15 dX6_changes_14 rfl rfl ?_
  refine q_iret dX6_changes_15 ?_
  exact ⟨rfl, rfl⟩
set_option maxRecDepth 100000 in
set_option maxHeartbeats 4000000 in
theorem c6_textAt {g : GT} (M : TM) (t : Int32) : Cn g yX6_textAt cX6_textAt 2 (some .int) 0 [.ref (gad g 6 0), .int t] M (Rt (.int (71 + 200 * t)) M) := by
  refine Cn.ofTR (by decide +kernel) (Nat.le_of_ble_eq_true rfl) ?_
  refine q_bipush (v := 71) 2 dX6_textAt_0 rfl rfl ?_
  refine q_sipush (v := 200) 5 dX6_textAt_2 rfl rfl ?_
  refine q_iload_n 6 dX6_textAt_5 rfl rfl ?_
  refine q_imul 7 dX6_textAt_6 rfl ?_
  refine q_iadd 8 dX6_textAt_7 rfl ?_
  refine q_iret dX6_textAt_8 ?_
  exact ⟨rfl, rfl⟩
theorem ix_of {a b : Nat} {x y : Int32} (hx : x = nI a) (hy : y = nI b) : 21 + 5 * x + y = nI (21 + 5 * a + b) := by
  subst hx; subst hy
  rw [show (21 : Int32) = nI 21 from rfl, show (5 : Int32) = nI 5 from rfl, pk_mul, nI_add, nI_add]
set_option maxRecDepth 100000 in
set_option maxHeartbeats 4000000 in
theorem c6_of {g : GT} (M : TM) (x y : Int32) (a b : Nat) (hx : x = nI a) (hy : y = nI b) (hi : 21 + 5 * a + b < 3071) : Cn g yX6_of cX6_of 3 (some .int) 0 [.ref (gad g 6 0), .int x, .int y] M (Rt (.int (M 31 0 (21 + 5 * a + b))) M) := by
  refine Cn.ofTR (by decide +kernel) (Nat.le_of_ble_eq_true rfl) ?_
  refine q_aload_n 1 dX6_of_0 rfl rfl ?_
  refine q_getR 4 dX6_of_1 rfl fl_X6_7 (by decide) rfl rfl ?_
  refine q_bipush (v := 21) 6 dX6_of_4 rfl rfl ?_
  refine q_iconst (v := 5) 7 dX6_of_6 rfl rfl ?_
  refine q_iload_n 8 dX6_of_7 rfl rfl ?_
  refine q_imul 9 dX6_of_8 rfl ?_
  refine q_iadd 10 dX6_of_9 rfl ?_
  refine q_iload_n 11 dX6_of_10 rfl rfl ?_
  refine q_iadd 12 dX6_of_11 rfl ?_
  refine q_iald 13 dX6_of_12 rfl (by decide) (by decide) (ix_of hx hy) hi ?_
  refine q_iret dX6_of_13 ?_
  exact ⟨rfl, rfl⟩
set_option maxRecDepth 100000 in
set_option maxHeartbeats 4000000 in
theorem c6_sets {g : GT} (M : TM) (x y v : Int32) (a b : Nat) (hx : x = nI a) (hy : y = nI b) (hi : 21 + 5 * a + b < 3071) : Cn g yX6_sets cX6_sets 4 none 0 [.ref (gad g 6 0), .int x, .int y, .int v] M (Rv (putA M 31 0 (upd (M 31 0) (21 + 5 * a + b) v))) := by
  refine Cn.ofTR (by decide +kernel) (Nat.le_of_ble_eq_true rfl) ?_
  refine q_aload_n 1 dX6_sets_0 rfl rfl ?_
  refine q_getR 4 dX6_sets_1 rfl fl_X6_7 (by decide) rfl rfl ?_
  refine q_bipush (v := 21) 6 dX6_sets_4 rfl rfl ?_
  refine q_iconst (v := 5) 7 dX6_sets_6 rfl rfl ?_
  refine q_iload_n 8 dX6_sets_7 rfl rfl ?_
  refine q_imul 9 dX6_sets_8 rfl ?_
  refine q_iadd 10 dX6_sets_9 rfl ?_
  refine q_iload_n 11 dX6_sets_10 rfl rfl ?_
  refine q_iadd 12 dX6_sets_11 rfl ?_
  refine q_iload_n 13 dX6_sets_12 rfl rfl ?_
  refine q_iast 14 dX6_sets_13 rfl (by decide) (by decide) (ix_of hx hy) hi ?_
  refine q_vret dX6_sets_14 ?_
  exact ⟨rfl, rfl⟩
set_option maxRecDepth 100000 in
set_option maxHeartbeats 4000000 in
theorem c6_isMark {g : GT} (M : TM) (k : Int32) : Cn g yX6_isMark cX6_isMark 2 (some .boolean) 1 [.ref (gad g 6 0), .int k] M (Rt (.int (bI (0 ≤ k ∧ k ≤ M 31 0 0 - 1))) M) := by
  refine Cn.ofTR (by decide +kernel) (Nat.le_of_ble_eq_true rfl) ?_
  refine q_iload_n 1 dX6_isMark_0 rfl rfl ?_
  refine q_i2l 2 dX6_isMark_1 rfl ?_
  refine q_lconst (v := 0) 3 dX6_isMark_2 rfl rfl ?_
  refine q_aload_n 4 dX6_isMark_3 rfl rfl ?_
  refine q_getR 7 dX6_isMark_4 rfl fl_X6_7 (by decide) rfl rfl ?_
  refine q_iconst (v := 0) 8 dX6_isMark_7 rfl rfl ?_
  refine q_iald 9 dX6_isMark_8 rfl (by decide) (by decide) rfl (by decide) ?_
  refine q_iconst (v := 1) 10 dX6_isMark_9 rfl rfl ?_
  refine q_isub 11 dX6_isMark_10 rfl ?_
  refine q_i2l 12 dX6_isMark_11 rfl ?_
  refine q_callSt 15 dX6_isMark_12 rfl (c6_isIn' _ _ 0 (M 31 0 0 - 1) _ _) cw_X6_65 rfl rfl ⟨by decide, by decide⟩ ⟨by decide, by decide⟩ (Nat.le_of_ble_eq_true rfl) ?_
  refine q_zret dX6_isMark_15 bI_n ?_
  exact ⟨rfl, rfl⟩
set_option maxRecDepth 100000 in
set_option maxHeartbeats 4000000 in
theorem c6_isText {g : GT} (M : TM) (k : Int32) : Cn g yX6_isText cX6_isText 2 (some .boolean) 1 [.ref (gad g 6 0), .int k] M (Rt (.int (bI (0 ≤ k ∧ k ≤ M 31 0 1 - 1))) M) := by
  refine Cn.ofTR (by decide +kernel) (Nat.le_of_ble_eq_true rfl) ?_
  refine q_iload_n 1 dX6_isText_0 rfl rfl ?_
  refine q_i2l 2 dX6_isText_1 rfl ?_
  refine q_lconst (v := 0) 3 dX6_isText_2 rfl rfl ?_
  refine q_aload_n 4 dX6_isText_3 rfl rfl ?_
  refine q_getR 7 dX6_isText_4 rfl fl_X6_7 (by decide) rfl rfl ?_
  refine q_iconst (v := 1) 8 dX6_isText_7 rfl rfl ?_
  refine q_iald 9 dX6_isText_8 rfl (by decide) (by decide) rfl (by decide) ?_
  refine q_iconst (v := 1) 10 dX6_isText_9 rfl rfl ?_
  refine q_isub 11 dX6_isText_10 rfl ?_
  refine q_i2l 12 dX6_isText_11 rfl ?_
  refine q_callSt 15 dX6_isText_12 rfl (c6_isIn' _ _ 0 (M 31 0 1 - 1) _ _) cw_X6_65 rfl rfl ⟨by decide, by decide⟩ ⟨by decide, by decide⟩ (Nat.le_of_ble_eq_true rfl) ?_
  refine q_zret dX6_isText_15 bI_n ?_
  exact ⟨rfl, rfl⟩
set_option maxRecDepth 100000 in
set_option maxHeartbeats 4000000 in
theorem c6_isCell {g : GT} (M : TM) (k : Int32) : Cn g yX6_isCell cX6_isCell 1 (some .boolean) 1 [.int k] M (Rt (.int (bI (0 ≤ k ∧ k ≤ 5))) M) := by
  refine Cn.ofTR (by decide +kernel) (Nat.le_of_ble_eq_true rfl) ?_
  refine q_iload_n 1 dX6_isCell_0 rfl rfl ?_
  refine q_i2l 2 dX6_isCell_1 rfl ?_
  refine q_lconst (v := 0) 3 dX6_isCell_2 rfl rfl ?_
  refine q_ldc2 6 dX6_isCell_3 rfl cl_X6_70 ?_
  refine q_callSt 9 dX6_isCell_6 rfl (c6_isIn' _ _ (0) (5) _ _) cw_X6_65 rfl rfl ⟨by decide, by decide⟩ ⟨by decide, by decide⟩ (Nat.le_of_ble_eq_true rfl) ?_
  refine q_zret dX6_isCell_9 bI_n ?_
  exact ⟨rfl, rfl⟩
set_option maxRecDepth 100000 in
set_option maxHeartbeats 4000000 in
theorem c6_isSheet {g : GT} (M : TM) (k : Int32) : Cn g yX6_isSheet cX6_isSheet 1 (some .boolean) 1 [.int k] M (Rt (.int (bI (0 ≤ k ∧ k ≤ 3))) M) := by
  refine Cn.ofTR (by decide +kernel) (Nat.le_of_ble_eq_true rfl) ?_
  refine q_iload_n 1 dX6_isSheet_0 rfl rfl ?_
  refine q_i2l 2 dX6_isSheet_1 rfl ?_
  refine q_lconst (v := 0) 3 dX6_isSheet_2 rfl rfl ?_
  refine q_ldc2 6 dX6_isSheet_3 rfl cl_X6_143 ?_
  refine q_callSt 9 dX6_isSheet_6 rfl (c6_isIn' _ _ (0) (3) _ _) cw_X6_65 rfl rfl ⟨by decide, by decide⟩ ⟨by decide, by decide⟩ (Nat.le_of_ble_eq_true rfl) ?_
  refine q_zret dX6_isSheet_9 bI_n ?_
  exact ⟨rfl, rfl⟩
set_option maxRecDepth 100000 in
set_option maxHeartbeats 4000000 in
theorem c6_isSlot {g : GT} (M : TM) (k : Int32) : Cn g yX6_isSlot cX6_isSlot 1 (some .boolean) 1 [.int k] M (Rt (.int (bI (0 ≤ k ∧ k ≤ 4))) M) := by
  refine Cn.ofTR (by decide +kernel) (Nat.le_of_ble_eq_true rfl) ?_
  refine q_iload_n 1 dX6_isSlot_0 rfl rfl ?_
  refine q_i2l 2 dX6_isSlot_1 rfl ?_
  refine q_lconst (v := 0) 3 dX6_isSlot_2 rfl rfl ?_
  refine q_ldc2 6 dX6_isSlot_3 rfl cl_X6_141 ?_
  refine q_callSt 9 dX6_isSlot_6 rfl (c6_isIn' _ _ (0) (4) _ _) cw_X6_65 rfl rfl ⟨by decide, by decide⟩ ⟨by decide, by decide⟩ (Nat.le_of_ble_eq_true rfl) ?_
  refine q_zret dX6_isSlot_9 bI_n ?_
  exact ⟨rfl, rfl⟩
set_option maxRecDepth 100000 in
set_option maxHeartbeats 4000000 in
theorem c6_isAsked {g : GT} (M : TM) (n w : Int32) : Cn g yX6_isAsked cX6_isAsked 2 (some .boolean) 1 [.int n, .int w] M (Rt (.int (bI ((1 ≤ n ∧ n ≤ 60) ∧ (0 ≤ w ∧ w ≤ 1)))) M) := by
  refine Cn.ofTR (by decide +kernel) (Nat.le_of_ble_eq_true rfl) ?_
  refine q_iload_n 1 dX6_isAsked_0 rfl rfl ?_
  refine q_i2l 2 dX6_isAsked_1 rfl ?_
  refine q_lconst (v := 1) 3 dX6_isAsked_2 rfl rfl ?_
  refine q_ldc2 6 dX6_isAsked_3 rfl cl_X6_200 ?_
  refine q_callSt 9 dX6_isAsked_6 rfl (c6_isIn' _ _ 1 60 _ _) cw_X6_65 rfl rfl ⟨by decide, by decide⟩ ⟨by decide, by decide⟩ (Nat.le_of_ble_eq_true rfl) ?_
  refine q_if_eq 26 12 dX6_isAsked_9 rfl rfl (fun h_9 => ?_) (fun h_9 => ?_)
  · skip
    simp only [bI_0, Classical.not_not] at h_9
    refine q_iconst (v := 0) 27 dX6_isAsked_26 rfl rfl ?_
    refine q_zret dX6_isAsked_27 rfl ?_
    refine ⟨congrArg (fun x => some (Value.int x)) ?_, rfl⟩
    try simp only [← Int32.not_lt, ← Int64.not_lt] at *
    simp_all [bI, -Int32.not_lt, -Int64.not_lt, -Int32.not_le, -Int64.not_le]
  · skip
    simp only [bI_0, Classical.not_not] at h_9
    refine q_iload_n 13 dX6_isAsked_12 rfl rfl ?_
    refine q_i2l 14 dX6_isAsked_13 rfl ?_
    refine q_lconst (v := 0) 15 dX6_isAsked_14 rfl rfl ?_
    refine q_lconst (v := 1) 16 dX6_isAsked_15 rfl rfl ?_
    refine q_callSt 19 dX6_isAsked_16 rfl (c6_isIn' _ _ 0 1 _ _) cw_X6_65 rfl rfl ⟨by decide, by decide⟩ ⟨by decide, by decide⟩ (Nat.le_of_ble_eq_true rfl) ?_
    refine q_if_eq 26 22 dX6_isAsked_19 rfl rfl (fun h_19 => ?_) (fun h_19 => ?_)
    · skip
      simp only [bI_0, Classical.not_not] at h_19
      refine q_iconst (v := 0) 27 dX6_isAsked_26 rfl rfl ?_
      refine q_zret dX6_isAsked_27 rfl ?_
      refine ⟨congrArg (fun x => some (Value.int x)) ?_, rfl⟩
      try simp only [← Int32.not_lt, ← Int64.not_lt] at *
      simp_all [bI, -Int32.not_lt, -Int64.not_lt, -Int32.not_le, -Int64.not_le]
    · skip
      simp only [bI_0, Classical.not_not] at h_19
      refine q_iconst (v := 1) 23 dX6_isAsked_22 rfl rfl ?_
      refine q_goto 27 dX6_isAsked_23 rfl ?_
      refine q_zret dX6_isAsked_27 rfl ?_
      refine ⟨congrArg (fun x => some (Value.int x)) ?_, rfl⟩
      try simp only [← Int32.not_lt, ← Int64.not_lt] at *
      simp_all [bI, -Int32.not_lt, -Int64.not_lt, -Int32.not_le, -Int64.not_le]
set_option maxRecDepth 100000 in
set_option maxHeartbeats 4000000 in
theorem c6_drawn {g : GT} (M : TM) : Cn g yX6_drawn cX6_drawn 1 (some .int) 0 [.ref (gad g 6 0)] M (Rt (.int (usF (drF (M 31 0 8)))) (putA M 31 0 (upd (M 31 0) 8 (drF (M 31 0 8))))) := by
  refine Cn.ofTR (by decide +kernel) (Nat.le_of_ble_eq_true rfl) ?_
  refine q_aload_n 1 dX6_drawn_0 rfl rfl ?_
  refine q_getR 4 dX6_drawn_1 rfl fl_X6_7 (by decide) rfl rfl ?_
  refine q_bipush (v := 8) 6 dX6_drawn_4 rfl rfl ?_
  refine q_aload_n 7 dX6_drawn_6 rfl rfl ?_
  refine q_getR 10 dX6_drawn_7 rfl fl_X6_7 (by decide) rfl rfl ?_
  refine q_bipush (v := 8) 12 dX6_drawn_10 rfl rfl ?_
  refine q_iald 13 dX6_drawn_12 rfl (by decide) (by decide) rfl (by decide) ?_
  refine q_ldc 15 dX6_drawn_13 rfl cs_X6_69 ?_
  refine q_imul 16 dX6_drawn_15 rfl ?_
  refine q_sipush (v := 12345) 19 dX6_drawn_16 rfl rfl ?_
  refine q_iadd 20 dX6_drawn_19 rfl ?_
  refine q_iast 21 dX6_drawn_20 rfl (by decide) (by decide) rfl (by decide) ?_
  refine q_aload_n 22 dX6_drawn_21 rfl rfl ?_
  refine q_getR 25 dX6_drawn_22 rfl fl_X6_7 (by decide) rfl rfl ?_
  refine q_bipush (v := 8) 27 dX6_drawn_25 rfl rfl ?_
  refine q_iald 28 dX6_drawn_27 rfl (by decide) (by decide) rfl (by decide) ?_
  refine q_bipush (v := 8) 30 dX6_drawn_28 rfl rfl ?_
  refine q_iushr 31 dX6_drawn_30 rfl ?_
  refine q_iret dX6_drawn_31 ?_
  exact ⟨rfl, rfl⟩
set_option maxRecDepth 100000 in
set_option maxHeartbeats 4000000 in
theorem c6_isOf {g : GT} (M : TM) (a b : Int32) : Cn g yX6_isOf cX6_isOf 2 (some .boolean) 0 [.int a, .int b] M (Rt (.int (bI (a = b ∨ b = 0 ∨ (b = 1 ∧ a = 3) ∨ (b = 2 ∧ a = 4)))) M) := by
  refine Cn.ofTR (by decide +kernel) (Nat.le_of_ble_eq_true rfl) ?_
  refine q_iload_n 1 dX6_isOf_0 rfl rfl ?_
  refine q_iload_n 2 dX6_isOf_1 rfl rfl ?_
  refine q_icmp_eq 29 5 dX6_isOf_2 rfl rfl (fun h_2 => ?_) (fun h_2 => ?_)
  · skip
    refine q_iconst (v := 1) 30 dX6_isOf_29 rfl rfl ?_
    refine q_goto 34 dX6_isOf_30 rfl ?_
    refine q_zret dX6_isOf_34 rfl ?_
    refine ⟨congrArg (fun x => some (Value.int x)) ?_, rfl⟩
    try simp only [← Int32.not_lt, ← Int64.not_lt] at *
    simp_all [bI, -Int32.not_lt, -Int64.not_lt, -Int32.not_le, -Int64.not_le]
  · skip
    refine q_iload_n 6 dX6_isOf_5 rfl rfl ?_
    refine q_if_eq 29 9 dX6_isOf_6 rfl rfl (fun h_6 => ?_) (fun h_6 => ?_)
    · skip
      refine q_iconst (v := 1) 30 dX6_isOf_29 rfl rfl ?_
      refine q_goto 34 dX6_isOf_30 rfl ?_
      refine q_zret dX6_isOf_34 rfl ?_
      refine ⟨congrArg (fun x => some (Value.int x)) ?_, rfl⟩
      try simp only [← Int32.not_lt, ← Int64.not_lt] at *
      simp_all [bI, -Int32.not_lt, -Int64.not_lt, -Int32.not_le, -Int64.not_le]
    · skip
      refine q_iload_n 10 dX6_isOf_9 rfl rfl ?_
      refine q_iconst (v := 1) 11 dX6_isOf_10 rfl rfl ?_
      refine q_icmp_ne 19 14 dX6_isOf_11 rfl rfl (fun h_11 => ?_) (fun h_11 => ?_)
      · skip
        refine q_iload_n 20 dX6_isOf_19 rfl rfl ?_
        refine q_iconst (v := 2) 21 dX6_isOf_20 rfl rfl ?_
        refine q_icmp_ne 33 24 dX6_isOf_21 rfl rfl (fun h_21 => ?_) (fun h_21 => ?_)
        · skip
          refine q_iconst (v := 0) 34 dX6_isOf_33 rfl rfl ?_
          refine q_zret dX6_isOf_34 rfl ?_
          refine ⟨congrArg (fun x => some (Value.int x)) ?_, rfl⟩
          try simp only [← Int32.not_lt, ← Int64.not_lt] at *
          simp_all [bI, -Int32.not_lt, -Int64.not_lt, -Int32.not_le, -Int64.not_le]
        · skip
          refine q_iload_n 25 dX6_isOf_24 rfl rfl ?_
          refine q_iconst (v := 4) 26 dX6_isOf_25 rfl rfl ?_
          refine q_icmp_ne 33 29 dX6_isOf_26 rfl rfl (fun h_26 => ?_) (fun h_26 => ?_)
          · skip
            refine q_iconst (v := 0) 34 dX6_isOf_33 rfl rfl ?_
            refine q_zret dX6_isOf_34 rfl ?_
            refine ⟨congrArg (fun x => some (Value.int x)) ?_, rfl⟩
            try simp only [← Int32.not_lt, ← Int64.not_lt] at *
            simp_all [bI, -Int32.not_lt, -Int64.not_lt, -Int32.not_le, -Int64.not_le]
          · skip
            refine q_iconst (v := 1) 30 dX6_isOf_29 rfl rfl ?_
            refine q_goto 34 dX6_isOf_30 rfl ?_
            refine q_zret dX6_isOf_34 rfl ?_
            refine ⟨congrArg (fun x => some (Value.int x)) ?_, rfl⟩
            try simp only [← Int32.not_lt, ← Int64.not_lt] at *
            simp_all [bI, -Int32.not_lt, -Int64.not_lt, -Int32.not_le, -Int64.not_le]
      · skip
        refine q_iload_n 15 dX6_isOf_14 rfl rfl ?_
        refine q_iconst (v := 3) 16 dX6_isOf_15 rfl rfl ?_
        refine q_icmp_eq 29 19 dX6_isOf_16 rfl rfl (fun h_16 => ?_) (fun h_16 => ?_)
        · skip
          refine q_iconst (v := 1) 30 dX6_isOf_29 rfl rfl ?_
          refine q_goto 34 dX6_isOf_30 rfl ?_
          refine q_zret dX6_isOf_34 rfl ?_
          refine ⟨congrArg (fun x => some (Value.int x)) ?_, rfl⟩
          try simp only [← Int32.not_lt, ← Int64.not_lt] at *
          simp_all [bI, -Int32.not_lt, -Int64.not_lt, -Int32.not_le, -Int64.not_le]
        · skip
          refine q_iload_n 20 dX6_isOf_19 rfl rfl ?_
          refine q_iconst (v := 2) 21 dX6_isOf_20 rfl rfl ?_
          refine q_icmp_ne 33 24 dX6_isOf_21 rfl rfl (fun h_21 => ?_) (fun h_21 => ?_)
          · skip
            refine q_iconst (v := 0) 34 dX6_isOf_33 rfl rfl ?_
            refine q_zret dX6_isOf_34 rfl ?_
            refine ⟨congrArg (fun x => some (Value.int x)) ?_, rfl⟩
            try simp only [← Int32.not_lt, ← Int64.not_lt] at *
            simp_all [bI, -Int32.not_lt, -Int64.not_lt, -Int32.not_le, -Int64.not_le]
          · skip
            refine q_iload_n 25 dX6_isOf_24 rfl rfl ?_
            refine q_iconst (v := 4) 26 dX6_isOf_25 rfl rfl ?_
            refine q_icmp_ne 33 29 dX6_isOf_26 rfl rfl (fun h_26 => ?_) (fun h_26 => ?_)
            · skip
              refine q_iconst (v := 0) 34 dX6_isOf_33 rfl rfl ?_
              refine q_zret dX6_isOf_34 rfl ?_
              refine ⟨congrArg (fun x => some (Value.int x)) ?_, rfl⟩
              try simp only [← Int32.not_lt, ← Int64.not_lt] at *
              simp_all [bI, -Int32.not_lt, -Int64.not_lt, -Int32.not_le, -Int64.not_le]
            · skip
              refine q_iconst (v := 1) 30 dX6_isOf_29 rfl rfl ?_
              refine q_goto 34 dX6_isOf_30 rfl ?_
              refine q_zret dX6_isOf_34 rfl ?_
              refine ⟨congrArg (fun x => some (Value.int x)) ?_, rfl⟩
              try simp only [← Int32.not_lt, ← Int64.not_lt] at *
              simp_all [bI, -Int32.not_lt, -Int64.not_lt, -Int32.not_le, -Int64.not_le]
set_option maxRecDepth 100000 in
set_option maxHeartbeats 4000000 in
theorem c6_joined {g : GT} (M : TM) (c x y : Int32) : Cn g yX6_joined cX6_joined 3 (some .int) 0 [.int c, .int x, .int y] M (Rt (.int (joF c x y)) M) := by
  refine Cn.ofTR (by decide +kernel) (Nat.le_of_ble_eq_true rfl) ?_
  refine q_iload_n 1 dX6_joined_0 rfl rfl ?_
  by_cases hs_1_38 : c = (38 : Int32)
  · skip
    refine q_tab 183 dX6_joined_1 rfl (sw_eq hs_1_38 rfl) rfl ?_
    refine q_iload_n 184 dX6_joined_183 rfl rfl ?_
    refine q_if_eq 195 187 dX6_joined_184 rfl rfl (fun h_184 => ?_) (fun h_184 => ?_)
    · skip
      refine q_iconst (v := 0) 196 dX6_joined_195 rfl rfl ?_
      refine q_iret dX6_joined_196 ?_
      refine ⟨congrArg (fun x => some (Value.int x)) ?_, rfl⟩
      try simp only [← Int32.not_lt, ← Int64.not_lt] at *
      simp_all [joF, bI, -Int32.not_lt, -Int64.not_lt, -Int32.not_le, -Int64.not_le]
    · skip
      refine q_iload_n 188 dX6_joined_187 rfl rfl ?_
      refine q_if_eq 195 191 dX6_joined_188 rfl rfl (fun h_188 => ?_) (fun h_188 => ?_)
      · skip
        refine q_iconst (v := 0) 196 dX6_joined_195 rfl rfl ?_
        refine q_iret dX6_joined_196 ?_
        refine ⟨congrArg (fun x => some (Value.int x)) ?_, rfl⟩
        try simp only [← Int32.not_lt, ← Int64.not_lt] at *
        simp_all [joF, bI, -Int32.not_lt, -Int64.not_lt, -Int32.not_le, -Int64.not_le]
      · skip
        refine q_iconst (v := 1) 192 dX6_joined_191 rfl rfl ?_
        refine q_goto 196 dX6_joined_192 rfl ?_
        refine q_iret dX6_joined_196 ?_
        refine ⟨congrArg (fun x => some (Value.int x)) ?_, rfl⟩
        try simp only [← Int32.not_lt, ← Int64.not_lt] at *
        simp_all [joF, bI, -Int32.not_lt, -Int64.not_lt, -Int32.not_le, -Int64.not_le]
  by_cases hs_1_42 : c = (42 : Int32)
  · skip
    refine q_tab 124 dX6_joined_1 rfl (sw_eq hs_1_42 rfl) rfl ?_
    refine q_iload_n 125 dX6_joined_124 rfl rfl ?_
    refine q_iload_n 126 dX6_joined_125 rfl rfl ?_
    refine q_imul 127 dX6_joined_126 rfl ?_
    refine q_iret dX6_joined_127 ?_
    refine ⟨congrArg (fun x => some (Value.int x)) ?_, rfl⟩
    try simp only [← Int32.not_lt, ← Int64.not_lt] at *
    simp_all [joF, bI, -Int32.not_lt, -Int64.not_lt, -Int32.not_le, -Int64.not_le]
  by_cases hs_1_43 : c = (43 : Int32)
  · skip
    refine q_tab 116 dX6_joined_1 rfl (sw_eq hs_1_43 rfl) rfl ?_
    refine q_iload_n 117 dX6_joined_116 rfl rfl ?_
    refine q_iload_n 118 dX6_joined_117 rfl rfl ?_
    refine q_iadd 119 dX6_joined_118 rfl ?_
    refine q_iret dX6_joined_119 ?_
    refine ⟨congrArg (fun x => some (Value.int x)) ?_, rfl⟩
    try simp only [← Int32.not_lt, ← Int64.not_lt] at *
    simp_all [joF, bI, -Int32.not_lt, -Int64.not_lt, -Int32.not_le, -Int64.not_le]
  by_cases hs_1_45 : c = (45 : Int32)
  · skip
    refine q_tab 120 dX6_joined_1 rfl (sw_eq hs_1_45 rfl) rfl ?_
    refine q_iload_n 121 dX6_joined_120 rfl rfl ?_
    refine q_iload_n 122 dX6_joined_121 rfl rfl ?_
    refine q_isub 123 dX6_joined_122 rfl ?_
    refine q_iret dX6_joined_123 ?_
    refine ⟨congrArg (fun x => some (Value.int x)) ?_, rfl⟩
    try simp only [← Int32.not_lt, ← Int64.not_lt] at *
    simp_all [joF, bI, -Int32.not_lt, -Int64.not_lt, -Int32.not_le, -Int64.not_le]
  by_cases hs_1_47 : c = (47 : Int32)
  · skip
    refine q_tab 128 dX6_joined_1 rfl (sw_eq hs_1_47 rfl) rfl ?_
    refine q_iload_n 129 dX6_joined_128 rfl rfl ?_
    refine q_if_ne 136 132 dX6_joined_129 rfl rfl (fun h_129 => ?_) (fun h_129 => ?_)
    · skip
      refine q_iload_n 137 dX6_joined_136 rfl rfl ?_
      refine q_iconst (v := (-1)) 138 dX6_joined_137 rfl rfl ?_
      refine q_icmp_ne 146 141 dX6_joined_138 rfl rfl (fun h_138 => ?_) (fun h_138 => ?_)
      · skip
        refine q_iload_n 147 dX6_joined_146 rfl rfl ?_
        refine q_iload_n 148 dX6_joined_147 rfl rfl ?_
        refine q_idiv 149 dX6_joined_148 rfl h_129 ?_
        refine q_iret dX6_joined_149 ?_
        refine ⟨congrArg (fun x => some (Value.int x)) ?_, rfl⟩
        try simp only [← Int32.not_lt, ← Int64.not_lt] at *
        simp_all [joF, bI, -Int32.not_lt, -Int64.not_lt, -Int32.not_le, -Int64.not_le]
      · skip
        refine q_iload_n 142 dX6_joined_141 rfl rfl ?_
        refine q_ineg 143 dX6_joined_142 rfl ?_
        refine q_goto 149 dX6_joined_143 rfl ?_
        refine q_iret dX6_joined_149 ?_
        refine ⟨congrArg (fun x => some (Value.int x)) ?_, rfl⟩
        try simp only [← Int32.not_lt, ← Int64.not_lt] at *
        simp_all [joF, bI, -Int32.not_lt, -Int64.not_lt, -Int32.not_le, -Int64.not_le]
    · skip
      refine q_iconst (v := 0) 133 dX6_joined_132 rfl rfl ?_
      refine q_goto 149 dX6_joined_133 rfl ?_
      refine q_iret dX6_joined_149 ?_
      refine ⟨congrArg (fun x => some (Value.int x)) ?_, rfl⟩
      try simp only [← Int32.not_lt, ← Int64.not_lt] at *
      simp_all [joF, bI, -Int32.not_lt, -Int64.not_lt, -Int32.not_le, -Int64.not_le]
  by_cases hs_1_60 : c = (60 : Int32)
  · skip
    refine q_tab 150 dX6_joined_1 rfl (sw_eq hs_1_60 rfl) rfl ?_
    refine q_iload_n 151 dX6_joined_150 rfl rfl ?_
    refine q_iload_n 152 dX6_joined_151 rfl rfl ?_
    refine q_icmp_ge 159 155 dX6_joined_152 rfl rfl (fun h_152 => ?_) (fun h_152 => ?_)
    · skip
      refine q_iconst (v := 0) 160 dX6_joined_159 rfl rfl ?_
      refine q_iret dX6_joined_160 ?_
      refine ⟨congrArg (fun x => some (Value.int x)) ?_, rfl⟩
      try simp only [← Int32.not_lt, ← Int64.not_lt] at *
      simp_all [joF, bI, -Int32.not_lt, -Int64.not_lt, -Int32.not_le, -Int64.not_le]
    · skip
      refine q_iconst (v := 1) 156 dX6_joined_155 rfl rfl ?_
      refine q_goto 160 dX6_joined_156 rfl ?_
      refine q_iret dX6_joined_160 ?_
      refine ⟨congrArg (fun x => some (Value.int x)) ?_, rfl⟩
      try simp only [← Int32.not_lt, ← Int64.not_lt] at *
      simp_all [joF, bI, -Int32.not_lt, -Int64.not_lt, -Int32.not_le, -Int64.not_le]
  by_cases hs_1_61 : c = (61 : Int32)
  · skip
    refine q_tab 172 dX6_joined_1 rfl (sw_eq hs_1_61 rfl) rfl ?_
    refine q_iload_n 173 dX6_joined_172 rfl rfl ?_
    refine q_iload_n 174 dX6_joined_173 rfl rfl ?_
    refine q_icmp_ne 181 177 dX6_joined_174 rfl rfl (fun h_174 => ?_) (fun h_174 => ?_)
    · skip
      refine q_iconst (v := 0) 182 dX6_joined_181 rfl rfl ?_
      refine q_iret dX6_joined_182 ?_
      refine ⟨congrArg (fun x => some (Value.int x)) ?_, rfl⟩
      try simp only [← Int32.not_lt, ← Int64.not_lt] at *
      simp_all [joF, bI, -Int32.not_lt, -Int64.not_lt, -Int32.not_le, -Int64.not_le]
    · skip
      refine q_iconst (v := 1) 178 dX6_joined_177 rfl rfl ?_
      refine q_goto 182 dX6_joined_178 rfl ?_
      refine q_iret dX6_joined_182 ?_
      refine ⟨congrArg (fun x => some (Value.int x)) ?_, rfl⟩
      try simp only [← Int32.not_lt, ← Int64.not_lt] at *
      simp_all [joF, bI, -Int32.not_lt, -Int64.not_lt, -Int32.not_le, -Int64.not_le]
  by_cases hs_1_62 : c = (62 : Int32)
  · skip
    refine q_tab 161 dX6_joined_1 rfl (sw_eq hs_1_62 rfl) rfl ?_
    refine q_iload_n 162 dX6_joined_161 rfl rfl ?_
    refine q_iload_n 163 dX6_joined_162 rfl rfl ?_
    refine q_icmp_le 170 166 dX6_joined_163 rfl rfl (fun h_163 => ?_) (fun h_163 => ?_)
    · skip
      refine q_iconst (v := 0) 171 dX6_joined_170 rfl rfl ?_
      refine q_iret dX6_joined_171 ?_
      refine ⟨congrArg (fun x => some (Value.int x)) ?_, rfl⟩
      try simp only [← Int32.not_lt, ← Int64.not_lt] at *
      simp_all [joF, bI, -Int32.not_lt, -Int64.not_lt, -Int32.not_le, -Int64.not_le]
    · skip
      refine q_iconst (v := 1) 167 dX6_joined_166 rfl rfl ?_
      refine q_goto 171 dX6_joined_167 rfl ?_
      refine q_iret dX6_joined_171 ?_
      refine ⟨congrArg (fun x => some (Value.int x)) ?_, rfl⟩
      try simp only [← Int32.not_lt, ← Int64.not_lt] at *
      simp_all [joF, bI, -Int32.not_lt, -Int64.not_lt, -Int32.not_le, -Int64.not_le]
  refine q_tab 197 dX6_joined_1 rfl (sw_def [38, 42, 43, 45, 47, 60, 61, 62] (by decide) rfl (by simp only [List.mem_cons, List.not_mem_nil, or_false, not_or]; exact ⟨lv_neT hs_1_38 rfl, lv_neT hs_1_42 rfl, lv_neT hs_1_43 rfl, lv_neT hs_1_45 rfl, lv_neT hs_1_47 rfl, lv_neT hs_1_60 rfl, lv_neT hs_1_61 rfl, lv_neT hs_1_62 rfl⟩)) rfl ?_
  refine q_iload_n 198 dX6_joined_197 rfl rfl ?_
  refine q_if_ne 205 201 dX6_joined_198 rfl rfl (fun h_198 => ?_) (fun h_198 => ?_)
  · skip
    refine q_iconst (v := 1) 206 dX6_joined_205 rfl rfl ?_
    refine q_goto 210 dX6_joined_206 rfl ?_
    refine q_iret dX6_joined_210 ?_
    refine ⟨congrArg (fun x => some (Value.int x)) ?_, rfl⟩
    try simp only [← Int32.not_lt, ← Int64.not_lt] at *
    simp_all [joF, bI, -Int32.not_lt, -Int64.not_lt, -Int32.not_le, -Int64.not_le]
  · skip
    refine q_iload_n 202 dX6_joined_201 rfl rfl ?_
    refine q_if_eq 209 205 dX6_joined_202 rfl rfl (fun h_202 => ?_) (fun h_202 => ?_)
    · skip
      refine q_iconst (v := 0) 210 dX6_joined_209 rfl rfl ?_
      refine q_iret dX6_joined_210 ?_
      refine ⟨congrArg (fun x => some (Value.int x)) ?_, rfl⟩
      try simp only [← Int32.not_lt, ← Int64.not_lt] at *
      simp_all [joF, bI, -Int32.not_lt, -Int64.not_lt, -Int32.not_le, -Int64.not_le]
    · skip
      refine q_iconst (v := 1) 206 dX6_joined_205 rfl rfl ?_
      refine q_goto 210 dX6_joined_206 rfl ?_
      refine q_iret dX6_joined_210 ?_
      refine ⟨congrArg (fun x => some (Value.int x)) ?_, rfl⟩
      try simp only [← Int32.not_lt, ← Int64.not_lt] at *
      simp_all [joF, bI, -Int32.not_lt, -Int64.not_lt, -Int32.not_le, -Int64.not_le]
