/-- an answer and a memory, by a condition -/
abbrev Pi (C : Prop) [Decidable C] (a b : Int32) (M1 M2 : TM) : Option Value → TM → Prop := fun r M' => r = some (.int (if C then a else b)) ∧ M' = if C then M1 else M2
theorem Pi_t {C : Prop} [Decidable C] {a b : Int32} {M1 M2 : TM} (h : C) : Pi C a b M1 M2 (some (.int a)) M1 := ⟨by rw [if_pos h], (if_pos h).symm⟩
theorem Pi_f {C : Prop} [Decidable C] {a b : Int32} {M1 M2 : TM} (h : ¬ C) : Pi C a b M1 M2 (some (.int b)) M2 := ⟨by rw [if_neg h], (if_neg h).symm⟩
/-- a field of the reference -/
abbrev fm (M : TM) (j : Nat) (v : Int32) : TM := putA M 6 0 (upd (M 6 0) j v)
set_option maxRecDepth 100000 in
set_option maxHeartbeats 4000000 in
theorem c6_tell {g : GT} (M : TM) (v : Int32) (w : Nat) (hw : M 6 0 29 = nI w) (h60 : w ≤ 60) : Cn g yX6_tell cX6_tell 2 (some .int) 0 [.ref (gad g 6 0), .int v] M (Pi (w = 60) FULLc (nI (w + 1)) M (fm (putA M 47 0 (upd (M 47 0) w v)) 29 (nI (w + 1)))) := by
  refine Cn.ofTR (by decide +kernel) (Nat.le_of_ble_eq_true rfl) ?_
  refine q_aload_n 1 dX6_tell_0 rfl rfl ?_
  refine q_getI 4 dX6_tell_1 rfl fl_X6_334 (by decide) rfl (by decide) ?_
  refine q_bipush (v := 60) 6 dX6_tell_4 rfl rfl ?_
  refine q_icmp_ne 12 9 dX6_tell_6 rfl rfl (fun h_6 => ?_) (fun h_6 => ?_)
  · skip
    have hne : ¬ w = 60 := fun q => h_6 (by rw [hw, q]; rfl)
    refine q_aload_n 13 dX6_tell_12 rfl rfl ?_
    refine q_getR 16 dX6_tell_13 rfl fl_X6_58 (by decide) rfl rfl ?_
    refine q_aload_n 17 dX6_tell_16 rfl rfl ?_
    refine q_getI 20 dX6_tell_17 rfl fl_X6_334 (by decide) rfl (by decide) ?_
    refine q_iload_n 21 dX6_tell_20 rfl rfl ?_
    refine q_iast 22 dX6_tell_21 rfl (by decide) (by decide) hw (show w < 60 by omega) ?_
    refine q_aload_n 23 dX6_tell_22 rfl rfl ?_
    refine q_dup 24 dX6_tell_23 rfl rfl ?_
    refine q_getI 27 dX6_tell_24 rfl fl_X6_334 (by decide) rfl (by decide) ?_
    refine q_iconst (v := 1) 28 dX6_tell_27 rfl rfl ?_
    refine q_iadd 29 dX6_tell_28 rfl ?_
    refine q_putI 32 dX6_tell_29 rfl fl_X6_334 fp_6_29 (by decide) rfl (by decide) rfl rfl ?_
    refine q_aload_n 33 dX6_tell_32 rfl rfl ?_
    refine q_getI 36 dX6_tell_33 rfl fl_X6_334 (by decide) rfl (by decide) ?_
    refine q_iret dX6_tell_36 ?_
    have e : putA M 47 0 (upd (M 47 0) w v) 6 0 29 + 1 = nI (w + 1) := by show M 6 0 29 + 1 = _; rw [hw, nI_1]
    rw [e]
    refine ⟨?_, ?_⟩
    · rw [if_neg hne]; rfl
    · rw [if_neg hne]
  · skip
    refine q_ldc 11 dX6_tell_9 rfl cs_X6_111 ?_
    refine q_iret dX6_tell_11 ?_
    exact Pi_t (nI_inj (by omega) (by decide) (hw.symm.trans h_6))
def aCount (s : SS) (wt tp w : Int32) : Int32 := if w = 0 then s 0 else if w = 1 then s 2 else if w = 2 then s 3 else if w = 3 then s 4 else if w = 4 then s 5 else if w = 5 then s 1 else if w = 6 then wt else if w = 7 then tp else if w = 8 then s 8 else BADc
set_option maxRecDepth 100000 in
set_option maxHeartbeats 4000000 in
theorem c6_count {g : GT} (M : TM) (w : Int32) : Cn g yX6_count cX6_count 2 (some .int) 0 [.ref (gad g 6 0), .int w] M (Rt (.int (aCount (M 31 0) (M 6 0 29) (M 6 0 14) w)) M) := by
  refine Cn.ofTR (by decide +kernel) (Nat.le_of_ble_eq_true rfl) ?_
  refine q_iload_n 1 dX6_count_0 rfl rfl ?_
  by_cases hs_1_0 : w = (0 : Int32)
  · skip
    refine q_tab 52 dX6_count_1 rfl (sw_eq hs_1_0 rfl) rfl ?_
    refine q_aload_n 53 dX6_count_52 rfl rfl ?_
    refine q_getR 56 dX6_count_53 rfl fl_X6_7 (by decide) rfl rfl ?_
    refine q_iconst (v := 0) 57 dX6_count_56 rfl rfl ?_
    refine q_iald 58 dX6_count_57 rfl (by decide) (by decide) rfl (by decide) ?_
    refine q_iret dX6_count_58 ?_
    refine ⟨congrArg (fun x => some (Value.int x)) ?_, rfl⟩
    unfold aCount
    first | (rw [if_pos hs_1_0]) | (rw [if_neg hs_1_0, if_pos hs_1_1]) | (rw [if_neg hs_1_0, if_neg hs_1_1, if_pos hs_1_2, hs_1_2]; rfl) | (rw [if_neg hs_1_0, if_neg hs_1_1, if_neg hs_1_2, if_pos hs_1_3, hs_1_3]; rfl) | (rw [if_neg hs_1_0, if_neg hs_1_1, if_neg hs_1_2, if_neg hs_1_3, if_pos hs_1_4, hs_1_4]; rfl) | (rw [if_neg hs_1_0, if_neg hs_1_1, if_neg hs_1_2, if_neg hs_1_3, if_neg hs_1_4, if_pos hs_1_5]) | (rw [if_neg hs_1_0, if_neg hs_1_1, if_neg hs_1_2, if_neg hs_1_3, if_neg hs_1_4, if_neg hs_1_5, if_pos hs_1_6]) | (rw [if_neg hs_1_0, if_neg hs_1_1, if_neg hs_1_2, if_neg hs_1_3, if_neg hs_1_4, if_neg hs_1_5, if_neg hs_1_6, if_pos hs_1_7]) | (rw [if_neg hs_1_0, if_neg hs_1_1, if_neg hs_1_2, if_neg hs_1_3, if_neg hs_1_4, if_neg hs_1_5, if_neg hs_1_6, if_neg hs_1_7, if_pos hs_1_8]) | (rw [if_neg hs_1_0, if_neg hs_1_1, if_neg hs_1_2, if_neg hs_1_3, if_neg hs_1_4, if_neg hs_1_5, if_neg hs_1_6, if_neg hs_1_7, if_neg hs_1_8])
  by_cases hs_1_1 : w = (1 : Int32)
  · skip
    refine q_tab 59 dX6_count_1 rfl (sw_eq hs_1_1 rfl) rfl ?_
    refine q_aload_n 60 dX6_count_59 rfl rfl ?_
    refine q_getR 63 dX6_count_60 rfl fl_X6_7 (by decide) rfl rfl ?_
    refine q_iconst (v := 2) 64 dX6_count_63 rfl rfl ?_
    refine q_iald 65 dX6_count_64 rfl (by decide) (by decide) rfl (by decide) ?_
    refine q_iret dX6_count_65 ?_
    refine ⟨congrArg (fun x => some (Value.int x)) ?_, rfl⟩
    unfold aCount
    first | (rw [if_pos hs_1_0]) | (rw [if_neg hs_1_0, if_pos hs_1_1]) | (rw [if_neg hs_1_0, if_neg hs_1_1, if_pos hs_1_2, hs_1_2]; rfl) | (rw [if_neg hs_1_0, if_neg hs_1_1, if_neg hs_1_2, if_pos hs_1_3, hs_1_3]; rfl) | (rw [if_neg hs_1_0, if_neg hs_1_1, if_neg hs_1_2, if_neg hs_1_3, if_pos hs_1_4, hs_1_4]; rfl) | (rw [if_neg hs_1_0, if_neg hs_1_1, if_neg hs_1_2, if_neg hs_1_3, if_neg hs_1_4, if_pos hs_1_5]) | (rw [if_neg hs_1_0, if_neg hs_1_1, if_neg hs_1_2, if_neg hs_1_3, if_neg hs_1_4, if_neg hs_1_5, if_pos hs_1_6]) | (rw [if_neg hs_1_0, if_neg hs_1_1, if_neg hs_1_2, if_neg hs_1_3, if_neg hs_1_4, if_neg hs_1_5, if_neg hs_1_6, if_pos hs_1_7]) | (rw [if_neg hs_1_0, if_neg hs_1_1, if_neg hs_1_2, if_neg hs_1_3, if_neg hs_1_4, if_neg hs_1_5, if_neg hs_1_6, if_neg hs_1_7, if_pos hs_1_8]) | (rw [if_neg hs_1_0, if_neg hs_1_1, if_neg hs_1_2, if_neg hs_1_3, if_neg hs_1_4, if_neg hs_1_5, if_neg hs_1_6, if_neg hs_1_7, if_neg hs_1_8])
  by_cases hs_1_2 : w = (2 : Int32)
  · skip
    refine q_tab 66 dX6_count_1 rfl (sw_eq hs_1_2 rfl) rfl ?_
    refine q_aload_n 67 dX6_count_66 rfl rfl ?_
    refine q_getR 70 dX6_count_67 rfl fl_X6_7 (by decide) rfl rfl ?_
    refine q_iconst (v := 3) 71 dX6_count_70 rfl rfl ?_
    refine q_iload_n 72 dX6_count_71 rfl rfl ?_
    refine q_iadd 73 dX6_count_72 rfl ?_
    refine q_iconst (v := 2) 74 dX6_count_73 rfl rfl ?_
    refine q_isub 75 dX6_count_74 rfl ?_
    refine q_iald 76 dX6_count_75 rfl (by decide) (by decide) (show 3 + w - 2 = nI (1 + tn w) by first | (rw [hs_1_2]; rfl) | (rw [hs_1_3]; rfl) | (rw [hs_1_4]; rfl)) (show 1 + tn w < 3071 by first | (rw [hs_1_2]; decide) | (rw [hs_1_3]; decide) | (rw [hs_1_4]; decide)) ?_
    refine q_iret dX6_count_76 ?_
    refine ⟨congrArg (fun x => some (Value.int x)) ?_, rfl⟩
    unfold aCount
    first | (rw [if_pos hs_1_0]) | (rw [if_neg hs_1_0, if_pos hs_1_1]) | (rw [if_neg hs_1_0, if_neg hs_1_1, if_pos hs_1_2, hs_1_2]; rfl) | (rw [if_neg hs_1_0, if_neg hs_1_1, if_neg hs_1_2, if_pos hs_1_3, hs_1_3]; rfl) | (rw [if_neg hs_1_0, if_neg hs_1_1, if_neg hs_1_2, if_neg hs_1_3, if_pos hs_1_4, hs_1_4]; rfl) | (rw [if_neg hs_1_0, if_neg hs_1_1, if_neg hs_1_2, if_neg hs_1_3, if_neg hs_1_4, if_pos hs_1_5]) | (rw [if_neg hs_1_0, if_neg hs_1_1, if_neg hs_1_2, if_neg hs_1_3, if_neg hs_1_4, if_neg hs_1_5, if_pos hs_1_6]) | (rw [if_neg hs_1_0, if_neg hs_1_1, if_neg hs_1_2, if_neg hs_1_3, if_neg hs_1_4, if_neg hs_1_5, if_neg hs_1_6, if_pos hs_1_7]) | (rw [if_neg hs_1_0, if_neg hs_1_1, if_neg hs_1_2, if_neg hs_1_3, if_neg hs_1_4, if_neg hs_1_5, if_neg hs_1_6, if_neg hs_1_7, if_pos hs_1_8]) | (rw [if_neg hs_1_0, if_neg hs_1_1, if_neg hs_1_2, if_neg hs_1_3, if_neg hs_1_4, if_neg hs_1_5, if_neg hs_1_6, if_neg hs_1_7, if_neg hs_1_8])
  by_cases hs_1_3 : w = (3 : Int32)
  · skip
    refine q_tab 66 dX6_count_1 rfl (sw_eq hs_1_3 rfl) rfl ?_
    refine q_aload_n 67 dX6_count_66 rfl rfl ?_
    refine q_getR 70 dX6_count_67 rfl fl_X6_7 (by decide) rfl rfl ?_
    refine q_iconst (v := 3) 71 dX6_count_70 rfl rfl ?_
    refine q_iload_n 72 dX6_count_71 rfl rfl ?_
    refine q_iadd 73 dX6_count_72 rfl ?_
    refine q_iconst (v := 2) 74 dX6_count_73 rfl rfl ?_
    refine q_isub 75 dX6_count_74 rfl ?_
    refine q_iald 76 dX6_count_75 rfl (by decide) (by decide) (show 3 + w - 2 = nI (1 + tn w) by first | (rw [hs_1_2]; rfl) | (rw [hs_1_3]; rfl) | (rw [hs_1_4]; rfl)) (show 1 + tn w < 3071 by first | (rw [hs_1_2]; decide) | (rw [hs_1_3]; decide) | (rw [hs_1_4]; decide)) ?_
    refine q_iret dX6_count_76 ?_
    refine ⟨congrArg (fun x => some (Value.int x)) ?_, rfl⟩
    unfold aCount
    first | (rw [if_pos hs_1_0]) | (rw [if_neg hs_1_0, if_pos hs_1_1]) | (rw [if_neg hs_1_0, if_neg hs_1_1, if_pos hs_1_2, hs_1_2]; rfl) | (rw [if_neg hs_1_0, if_neg hs_1_1, if_neg hs_1_2, if_pos hs_1_3, hs_1_3]; rfl) | (rw [if_neg hs_1_0, if_neg hs_1_1, if_neg hs_1_2, if_neg hs_1_3, if_pos hs_1_4, hs_1_4]; rfl) | (rw [if_neg hs_1_0, if_neg hs_1_1, if_neg hs_1_2, if_neg hs_1_3, if_neg hs_1_4, if_pos hs_1_5]) | (rw [if_neg hs_1_0, if_neg hs_1_1, if_neg hs_1_2, if_neg hs_1_3, if_neg hs_1_4, if_neg hs_1_5, if_pos hs_1_6]) | (rw [if_neg hs_1_0, if_neg hs_1_1, if_neg hs_1_2, if_neg hs_1_3, if_neg hs_1_4, if_neg hs_1_5, if_neg hs_1_6, if_pos hs_1_7]) | (rw [if_neg hs_1_0, if_neg hs_1_1, if_neg hs_1_2, if_neg hs_1_3, if_neg hs_1_4, if_neg hs_1_5, if_neg hs_1_6, if_neg hs_1_7, if_pos hs_1_8]) | (rw [if_neg hs_1_0, if_neg hs_1_1, if_neg hs_1_2, if_neg hs_1_3, if_neg hs_1_4, if_neg hs_1_5, if_neg hs_1_6, if_neg hs_1_7, if_neg hs_1_8])
  by_cases hs_1_4 : w = (4 : Int32)
  · skip
    refine q_tab 66 dX6_count_1 rfl (sw_eq hs_1_4 rfl) rfl ?_
    refine q_aload_n 67 dX6_count_66 rfl rfl ?_
    refine q_getR 70 dX6_count_67 rfl fl_X6_7 (by decide) rfl rfl ?_
    refine q_iconst (v := 3) 71 dX6_count_70 rfl rfl ?_
    refine q_iload_n 72 dX6_count_71 rfl rfl ?_
    refine q_iadd 73 dX6_count_72 rfl ?_
    refine q_iconst (v := 2) 74 dX6_count_73 rfl rfl ?_
    refine q_isub 75 dX6_count_74 rfl ?_
    refine q_iald 76 dX6_count_75 rfl (by decide) (by decide) (show 3 + w - 2 = nI (1 + tn w) by first | (rw [hs_1_2]; rfl) | (rw [hs_1_3]; rfl) | (rw [hs_1_4]; rfl)) (show 1 + tn w < 3071 by first | (rw [hs_1_2]; decide) | (rw [hs_1_3]; decide) | (rw [hs_1_4]; decide)) ?_
    refine q_iret dX6_count_76 ?_
    refine ⟨congrArg (fun x => some (Value.int x)) ?_, rfl⟩
    unfold aCount
    first | (rw [if_pos hs_1_0]) | (rw [if_neg hs_1_0, if_pos hs_1_1]) | (rw [if_neg hs_1_0, if_neg hs_1_1, if_pos hs_1_2, hs_1_2]; rfl) | (rw [if_neg hs_1_0, if_neg hs_1_1, if_neg hs_1_2, if_pos hs_1_3, hs_1_3]; rfl) | (rw [if_neg hs_1_0, if_neg hs_1_1, if_neg hs_1_2, if_neg hs_1_3, if_pos hs_1_4, hs_1_4]; rfl) | (rw [if_neg hs_1_0, if_neg hs_1_1, if_neg hs_1_2, if_neg hs_1_3, if_neg hs_1_4, if_pos hs_1_5]) | (rw [if_neg hs_1_0, if_neg hs_1_1, if_neg hs_1_2, if_neg hs_1_3, if_neg hs_1_4, if_neg hs_1_5, if_pos hs_1_6]) | (rw [if_neg hs_1_0, if_neg hs_1_1, if_neg hs_1_2, if_neg hs_1_3, if_neg hs_1_4, if_neg hs_1_5, if_neg hs_1_6, if_pos hs_1_7]) | (rw [if_neg hs_1_0, if_neg hs_1_1, if_neg hs_1_2, if_neg hs_1_3, if_neg hs_1_4, if_neg hs_1_5, if_neg hs_1_6, if_neg hs_1_7, if_pos hs_1_8]) | (rw [if_neg hs_1_0, if_neg hs_1_1, if_neg hs_1_2, if_neg hs_1_3, if_neg hs_1_4, if_neg hs_1_5, if_neg hs_1_6, if_neg hs_1_7, if_neg hs_1_8])
  by_cases hs_1_5 : w = (5 : Int32)
  · skip
    refine q_tab 77 dX6_count_1 rfl (sw_eq hs_1_5 rfl) rfl ?_
    refine q_aload_n 78 dX6_count_77 rfl rfl ?_
    refine q_getR 81 dX6_count_78 rfl fl_X6_7 (by decide) rfl rfl ?_
    refine q_iconst (v := 1) 82 dX6_count_81 rfl rfl ?_
    refine q_iald 83 dX6_count_82 rfl (by decide) (by decide) rfl (by decide) ?_
    refine q_iret dX6_count_83 ?_
    refine ⟨congrArg (fun x => some (Value.int x)) ?_, rfl⟩
    unfold aCount
    first | (rw [if_pos hs_1_0]) | (rw [if_neg hs_1_0, if_pos hs_1_1]) | (rw [if_neg hs_1_0, if_neg hs_1_1, if_pos hs_1_2, hs_1_2]; rfl) | (rw [if_neg hs_1_0, if_neg hs_1_1, if_neg hs_1_2, if_pos hs_1_3, hs_1_3]; rfl) | (rw [if_neg hs_1_0, if_neg hs_1_1, if_neg hs_1_2, if_neg hs_1_3, if_pos hs_1_4, hs_1_4]; rfl) | (rw [if_neg hs_1_0, if_neg hs_1_1, if_neg hs_1_2, if_neg hs_1_3, if_neg hs_1_4, if_pos hs_1_5]) | (rw [if_neg hs_1_0, if_neg hs_1_1, if_neg hs_1_2, if_neg hs_1_3, if_neg hs_1_4, if_neg hs_1_5, if_pos hs_1_6]) | (rw [if_neg hs_1_0, if_neg hs_1_1, if_neg hs_1_2, if_neg hs_1_3, if_neg hs_1_4, if_neg hs_1_5, if_neg hs_1_6, if_pos hs_1_7]) | (rw [if_neg hs_1_0, if_neg hs_1_1, if_neg hs_1_2, if_neg hs_1_3, if_neg hs_1_4, if_neg hs_1_5, if_neg hs_1_6, if_neg hs_1_7, if_pos hs_1_8]) | (rw [if_neg hs_1_0, if_neg hs_1_1, if_neg hs_1_2, if_neg hs_1_3, if_neg hs_1_4, if_neg hs_1_5, if_neg hs_1_6, if_neg hs_1_7, if_neg hs_1_8])
  by_cases hs_1_6 : w = (6 : Int32)
  · skip
    refine q_tab 84 dX6_count_1 rfl (sw_eq hs_1_6 rfl) rfl ?_
    refine q_aload_n 85 dX6_count_84 rfl rfl ?_
    refine q_getI 88 dX6_count_85 rfl fl_X6_334 (by decide) rfl (by decide) ?_
    refine q_iret dX6_count_88 ?_
    refine ⟨congrArg (fun x => some (Value.int x)) ?_, rfl⟩
    unfold aCount
    first | (rw [if_pos hs_1_0]) | (rw [if_neg hs_1_0, if_pos hs_1_1]) | (rw [if_neg hs_1_0, if_neg hs_1_1, if_pos hs_1_2, hs_1_2]; rfl) | (rw [if_neg hs_1_0, if_neg hs_1_1, if_neg hs_1_2, if_pos hs_1_3, hs_1_3]; rfl) | (rw [if_neg hs_1_0, if_neg hs_1_1, if_neg hs_1_2, if_neg hs_1_3, if_pos hs_1_4, hs_1_4]; rfl) | (rw [if_neg hs_1_0, if_neg hs_1_1, if_neg hs_1_2, if_neg hs_1_3, if_neg hs_1_4, if_pos hs_1_5]) | (rw [if_neg hs_1_0, if_neg hs_1_1, if_neg hs_1_2, if_neg hs_1_3, if_neg hs_1_4, if_neg hs_1_5, if_pos hs_1_6]) | (rw [if_neg hs_1_0, if_neg hs_1_1, if_neg hs_1_2, if_neg hs_1_3, if_neg hs_1_4, if_neg hs_1_5, if_neg hs_1_6, if_pos hs_1_7]) | (rw [if_neg hs_1_0, if_neg hs_1_1, if_neg hs_1_2, if_neg hs_1_3, if_neg hs_1_4, if_neg hs_1_5, if_neg hs_1_6, if_neg hs_1_7, if_pos hs_1_8]) | (rw [if_neg hs_1_0, if_neg hs_1_1, if_neg hs_1_2, if_neg hs_1_3, if_neg hs_1_4, if_neg hs_1_5, if_neg hs_1_6, if_neg hs_1_7, if_neg hs_1_8])
  by_cases hs_1_7 : w = (7 : Int32)
  · skip
    refine q_tab 89 dX6_count_1 rfl (sw_eq hs_1_7 rfl) rfl ?_
    refine q_aload_n 90 dX6_count_89 rfl rfl ?_
    refine q_getI 93 dX6_count_90 rfl fl_X6_211 (by decide) rfl (by decide) ?_
    refine q_iret dX6_count_93 ?_
    refine ⟨congrArg (fun x => some (Value.int x)) ?_, rfl⟩
    unfold aCount
    first | (rw [if_pos hs_1_0]) | (rw [if_neg hs_1_0, if_pos hs_1_1]) | (rw [if_neg hs_1_0, if_neg hs_1_1, if_pos hs_1_2, hs_1_2]; rfl) | (rw [if_neg hs_1_0, if_neg hs_1_1, if_neg hs_1_2, if_pos hs_1_3, hs_1_3]; rfl) | (rw [if_neg hs_1_0, if_neg hs_1_1, if_neg hs_1_2, if_neg hs_1_3, if_pos hs_1_4, hs_1_4]; rfl) | (rw [if_neg hs_1_0, if_neg hs_1_1, if_neg hs_1_2, if_neg hs_1_3, if_neg hs_1_4, if_pos hs_1_5]) | (rw [if_neg hs_1_0, if_neg hs_1_1, if_neg hs_1_2, if_neg hs_1_3, if_neg hs_1_4, if_neg hs_1_5, if_pos hs_1_6]) | (rw [if_neg hs_1_0, if_neg hs_1_1, if_neg hs_1_2, if_neg hs_1_3, if_neg hs_1_4, if_neg hs_1_5, if_neg hs_1_6, if_pos hs_1_7]) | (rw [if_neg hs_1_0, if_neg hs_1_1, if_neg hs_1_2, if_neg hs_1_3, if_neg hs_1_4, if_neg hs_1_5, if_neg hs_1_6, if_neg hs_1_7, if_pos hs_1_8]) | (rw [if_neg hs_1_0, if_neg hs_1_1, if_neg hs_1_2, if_neg hs_1_3, if_neg hs_1_4, if_neg hs_1_5, if_neg hs_1_6, if_neg hs_1_7, if_neg hs_1_8])
  by_cases hs_1_8 : w = (8 : Int32)
  · skip
    refine q_tab 94 dX6_count_1 rfl (sw_eq hs_1_8 rfl) rfl ?_
    refine q_aload_n 95 dX6_count_94 rfl rfl ?_
    refine q_getR 98 dX6_count_95 rfl fl_X6_7 (by decide) rfl rfl ?_
    refine q_bipush (v := 8) 100 dX6_count_98 rfl rfl ?_
    refine q_iald 101 dX6_count_100 rfl (by decide) (by decide) rfl (by decide) ?_
    refine q_iret dX6_count_101 ?_
    refine ⟨congrArg (fun x => some (Value.int x)) ?_, rfl⟩
    unfold aCount
    first | (rw [if_pos hs_1_0]) | (rw [if_neg hs_1_0, if_pos hs_1_1]) | (rw [if_neg hs_1_0, if_neg hs_1_1, if_pos hs_1_2, hs_1_2]; rfl) | (rw [if_neg hs_1_0, if_neg hs_1_1, if_neg hs_1_2, if_pos hs_1_3, hs_1_3]; rfl) | (rw [if_neg hs_1_0, if_neg hs_1_1, if_neg hs_1_2, if_neg hs_1_3, if_pos hs_1_4, hs_1_4]; rfl) | (rw [if_neg hs_1_0, if_neg hs_1_1, if_neg hs_1_2, if_neg hs_1_3, if_neg hs_1_4, if_pos hs_1_5]) | (rw [if_neg hs_1_0, if_neg hs_1_1, if_neg hs_1_2, if_neg hs_1_3, if_neg hs_1_4, if_neg hs_1_5, if_pos hs_1_6]) | (rw [if_neg hs_1_0, if_neg hs_1_1, if_neg hs_1_2, if_neg hs_1_3, if_neg hs_1_4, if_neg hs_1_5, if_neg hs_1_6, if_pos hs_1_7]) | (rw [if_neg hs_1_0, if_neg hs_1_1, if_neg hs_1_2, if_neg hs_1_3, if_neg hs_1_4, if_neg hs_1_5, if_neg hs_1_6, if_neg hs_1_7, if_pos hs_1_8]) | (rw [if_neg hs_1_0, if_neg hs_1_1, if_neg hs_1_2, if_neg hs_1_3, if_neg hs_1_4, if_neg hs_1_5, if_neg hs_1_6, if_neg hs_1_7, if_neg hs_1_8])
  refine q_tab 102 dX6_count_1 rfl (sw_def [0, 1, 2, 3, 4, 5, 6, 7, 8] (by decide) rfl (by simp only [List.mem_cons, List.not_mem_nil, or_false, not_or]; exact ⟨lv_neT hs_1_0 rfl, lv_neT hs_1_1 rfl, lv_neT hs_1_2 rfl, lv_neT hs_1_3 rfl, lv_neT hs_1_4 rfl, lv_neT hs_1_5 rfl, lv_neT hs_1_6 rfl, lv_neT hs_1_7 rfl, lv_neT hs_1_8 rfl⟩)) rfl ?_
  refine q_ldc 104 dX6_count_102 rfl cs_X6_110 ?_
  refine q_iret dX6_count_104 ?_
  refine ⟨congrArg (fun x => some (Value.int x)) ?_, rfl⟩
  unfold aCount
  first | (rw [if_pos hs_1_0]) | (rw [if_neg hs_1_0, if_pos hs_1_1]) | (rw [if_neg hs_1_0, if_neg hs_1_1, if_pos hs_1_2, hs_1_2]; rfl) | (rw [if_neg hs_1_0, if_neg hs_1_1, if_neg hs_1_2, if_pos hs_1_3, hs_1_3]; rfl) | (rw [if_neg hs_1_0, if_neg hs_1_1, if_neg hs_1_2, if_neg hs_1_3, if_pos hs_1_4, hs_1_4]; rfl) | (rw [if_neg hs_1_0, if_neg hs_1_1, if_neg hs_1_2, if_neg hs_1_3, if_neg hs_1_4, if_pos hs_1_5]) | (rw [if_neg hs_1_0, if_neg hs_1_1, if_neg hs_1_2, if_neg hs_1_3, if_neg hs_1_4, if_neg hs_1_5, if_pos hs_1_6]) | (rw [if_neg hs_1_0, if_neg hs_1_1, if_neg hs_1_2, if_neg hs_1_3, if_neg hs_1_4, if_neg hs_1_5, if_neg hs_1_6, if_pos hs_1_7]) | (rw [if_neg hs_1_0, if_neg hs_1_1, if_neg hs_1_2, if_neg hs_1_3, if_neg hs_1_4, if_neg hs_1_5, if_neg hs_1_6, if_neg hs_1_7, if_pos hs_1_8]) | (rw [if_neg hs_1_0, if_neg hs_1_1, if_neg hs_1_2, if_neg hs_1_3, if_neg hs_1_4, if_neg hs_1_5, if_neg hs_1_6, if_neg hs_1_7, if_neg hs_1_8])
abbrev isT (s : SS) (x : Int32) : Prop := 0 ≤ x ∧ x ≤ s 1 - 1
theorem isT_nat {s : SS} {x : Int32} (hn : s 1 = nI (nT s)) (hn14 : nT s ≤ 14) (h : isT s x) : x = nI (tn x) ∧ tn x < nT s := by
  obtain ⟨h1, h2⟩ := h
  obtain ⟨j, hj, rfl⟩ := nI_of (Int32.not_lt.mpr h1)
  unfold tn
  rw [nI_clamp hj]
  refine ⟨rfl, ?_⟩
  rw [hn] at h2
  by_cases h0 : nT s = 0
  · rw [h0] at h2
    have : (nI j) ≤ -1 := h2
    exact absurd (Int32.le_trans h1 this) (by decide)
  · rw [ix_pre (by omega), nI_leI hj (by omega)] at h2
    omega
def aTextTold (s : SS) (t w : Int32) : Int32 := if isT s t ∧ (0 ≤ w ∧ w ≤ 1) then s (71 + 200 * tn t + tn w) else BADc
def aWhy (s : SS) (k : Int32) : Int32 := if 0 ≤ k ∧ k ≤ 2 then (if laF s k (nT s) < 0 then NONEc else laF s k (nT s)) else BADc
set_option maxRecDepth 100000 in
set_option maxHeartbeats 4000000 in
theorem c6_textTold {g : GT} (M : TM) (t w : Int32) (s : SS) (hs : M 31 0 = s) (ht : WFt s) : Cn g yX6_textTold cX6_textTold 3 (some .int) 2 [.ref (gad g 6 0), .int t, .int w] M (Rt (.int (aTextTold s t w)) M) := by
  refine Cn.ofTR (by decide +kernel) (Nat.le_of_ble_eq_true rfl) ?_
  subst hs
  refine q_aload_n 1 dX6_textTold_0 rfl rfl ?_
  refine q_iload_n 2 dX6_textTold_1 rfl rfl ?_
  refine q_callVt 5 dX6_textTold_2 rfl (c6_isText _ _) cw_X6_303 (by decide) rfl rfl ⟨by decide, by decide⟩ ⟨by decide, by decide⟩ (Nat.le_of_ble_eq_true rfl) ?_
  refine q_if_eq 18 8 dX6_textTold_5 rfl rfl (fun h_5 => ?_) (fun h_5 => ?_)
  · skip
    simp only [bI_0, Classical.not_not] at h_5
    refine q_ldc 20 dX6_textTold_18 rfl cs_X6_110 ?_
    refine q_iret dX6_textTold_20 ?_
    refine ⟨congrArg (fun x => some (Value.int x)) ?_, rfl⟩
    unfold aTextTold
    first | rw [if_neg (fun q => by first | exact h_5 q.1 | exact h_15 q.2)] | rw [if_pos ⟨h_5, h_15⟩]
  · skip
    simp only [bI_0, Classical.not_not] at h_5
    refine q_iload_n 9 dX6_textTold_8 rfl rfl ?_
    refine q_i2l 10 dX6_textTold_9 rfl ?_
    refine q_lconst (v := 0) 11 dX6_textTold_10 rfl rfl ?_
    refine q_lconst (v := 1) 12 dX6_textTold_11 rfl rfl ?_
    refine q_callSt 15 dX6_textTold_12 rfl (c6_isIn' _ _ (0) (1) _ _) cw_X6_65 rfl rfl ⟨by decide, by decide⟩ ⟨by decide, by decide⟩ (Nat.le_of_ble_eq_true rfl) ?_
    refine q_if_ne 21 18 dX6_textTold_15 rfl rfl (fun h_15 => ?_) (fun h_15 => ?_)
    · skip
      simp only [bI_0, Classical.not_not] at h_15
      obtain ⟨et, lt⟩ := isT_nat ht.1 ht.2.1 h_5
      obtain ⟨ew, lw⟩ := rg_tn h_15 (n := 1) rfl
      have h14 := ht.2.1
      refine q_aload_n 22 dX6_textTold_21 rfl rfl ?_
      refine q_getR 25 dX6_textTold_22 rfl fl_X6_7 (by decide) rfl rfl ?_
      refine q_aload_n 26 dX6_textTold_25 rfl rfl ?_
      refine q_iload_n 27 dX6_textTold_26 rfl rfl ?_
      refine q_callVt 30 dX6_textTold_27 rfl (c6_textAt _ _) cw_X6_294 (by decide) rfl rfl ⟨by decide, by decide⟩ ⟨by decide, by decide⟩ (Nat.le_of_ble_eq_true rfl) ?_
      refine q_iload_n 31 dX6_textTold_30 rfl rfl ?_
      refine q_iadd 32 dX6_textTold_31 rfl ?_
      refine q_iald 33 dX6_textTold_32 rfl (by decide) (by decide) (by rw [ix_tx et]; exact ix_ad ew) (show 71 + 200 * tn t + tn w < 3071 by omega) ?_
      refine q_iret dX6_textTold_33 ?_
      refine ⟨congrArg (fun x => some (Value.int x)) ?_, rfl⟩
      unfold aTextTold
      first | rw [if_neg (fun q => by first | exact h_5 q.1 | exact h_15 q.2)] | rw [if_pos ⟨h_5, h_15⟩]
    · skip
      simp only [bI_0, Classical.not_not] at h_15
      refine q_ldc 20 dX6_textTold_18 rfl cs_X6_110 ?_
      refine q_iret dX6_textTold_20 ?_
      refine ⟨congrArg (fun x => some (Value.int x)) ?_, rfl⟩
      unfold aTextTold
      first | rw [if_neg (fun q => by first | exact h_5 q.1 | exact h_15 q.2)] | rw [if_pos ⟨h_5, h_15⟩]
set_option maxRecDepth 100000 in
set_option maxHeartbeats 4000000 in
theorem c6_why {g : GT} (M : TM) (k : Int32) (s : SS) (hs : M 31 0 = s) (ht : WFt s) : Cn g yX6_why cX6_why 2 (some .int) 2 [.ref (gad g 6 0), .int k] M (Rt (.int (aWhy s k)) M) := by
  refine Cn.ofTR (by decide +kernel) (Nat.le_of_ble_eq_true rfl) ?_
  subst hs
  refine q_iload_n 1 dX6_why_0 rfl rfl ?_
  refine q_i2l 2 dX6_why_1 rfl ?_
  refine q_lconst (v := 0) 3 dX6_why_2 rfl rfl ?_
  refine q_ldc2 6 dX6_why_3 rfl cl_X6_148 ?_
  refine q_callSt 9 dX6_why_6 rfl (c6_isIn' _ _ (0) (2) _ _) cw_X6_65 rfl rfl ⟨by decide, by decide⟩ ⟨by decide, by decide⟩ (Nat.le_of_ble_eq_true rfl) ?_
  refine q_if_eq 23 12 dX6_why_9 rfl rfl (fun h_9 => ?_) (fun h_9 => ?_)
  · skip
    simp only [bI_0, Classical.not_not] at h_9
    refine q_ldc 25 dX6_why_23 rfl cs_X6_110 ?_
    refine q_iret dX6_why_25 ?_
    refine ⟨congrArg (fun x => some (Value.int x)) ?_, rfl⟩
    unfold aWhy
    first | rw [if_pos h_9] <;> rfl | rw [if_neg h_9]
  · skip
    simp only [bI_0, Classical.not_not] at h_9
    refine q_aload_n 13 dX6_why_12 rfl rfl ?_
    refine q_iload_n 14 dX6_why_13 rfl rfl ?_
    refine q_callVt 17 dX6_why_14 rfl (c6_counts _ _ (M 31 0) (by rfl) (nT (M 31 0)) ht.1 ht.2.1) cw_X6_76 (by decide) rfl rfl ⟨by decide, by decide⟩ ⟨by decide, by decide⟩ (Nat.le_of_ble_eq_true rfl) ?_
    refine q_callSt 20 dX6_why_17 rfl (c6_orNone _ _) cw_X6_306 rfl rfl ⟨by decide, by decide⟩ ⟨by decide, by decide⟩ (Nat.le_of_ble_eq_true rfl) ?_
    refine q_goto 25 dX6_why_20 rfl ?_
    refine q_iret dX6_why_25 ?_
    refine ⟨congrArg (fun x => some (Value.int x)) ?_, rfl⟩
    unfold aWhy
    first | rw [if_pos h_9] <;> rfl | rw [if_neg h_9]
set_option maxRecDepth 100000 in
set_option maxHeartbeats 4000000 in
theorem l6_setAside {g : GT} (M : TM) (t1 t2 : Nat) (h1 : 9 < t1) (h2 : 9 < t2) (hl1 : len t1 = 3071) (hl2 : len t2 = 3071) (hc1 : cnt t1 = 1) (hc2 : cnt t2 = 1) (hne : t1 ≠ t2) : ∀ (j : Nat) (k : Nat) (y : Int32), 2871 - k < j → k ≤ 2871 → y = nI k → TR g (rmD 0) RX6 cX6_setAside 4 none 0 0 (Zm g (Rv (putA M t2 0 (mixF (M t1 0) (M t2 0) 2871)))) 2 [some (.ref (gad g 6 0)), some (.ref (gad g t1 0)), some (.ref (gad g t2 0)), some (.int y)] [] (putA M t2 0 (mixF (M t1 0) (M t2 0) k)) := by
  intro j
  induction j with
  | zero => intro k y hj hkn hk; exact absurd hj (by omega)
  | succ j ih =>
    intro k y hj hkn hk
    subst hk
    refine q_iload_n 3 dX6_setAside_2 rfl rfl ?_
    refine q_sipush (v := 2871) 6 dX6_setAside_3 rfl rfl ?_
    refine q_icmp_ge 21 9 dX6_setAside_6 rfl rfl (fun h_6 => ?_) (fun h_6 => ?_)
    · skip
      rw [show (2871 : Int32) = nI 2871 from rfl, nI_leI (by omega) (by omega)] at h_6
      refine q_vret dX6_setAside_21 ?_
      exact ⟨rfl, by rw [show k = 2871 by omega]⟩
    · skip
      rw [show (2871 : Int32) = nI 2871 from rfl, nI_leI (by omega) (by omega)] at h_6
      refine q_aload_n 10 dX6_setAside_9 rfl rfl ?_
      refine q_iload_n 11 dX6_setAside_10 rfl rfl ?_
      refine q_aload_n 12 dX6_setAside_11 rfl rfl ?_
      refine q_iload_n 13 dX6_setAside_12 rfl rfl ?_
      refine q_iald 14 dX6_setAside_13 rfl h1 (by rw [hc1]; decide) rfl (by rw [hl1]; omega) ?_
      refine q_iast 15 dX6_setAside_14 rfl h2 (by rw [hc2]; decide) rfl (by rw [hl2]; omega) ?_
      refine q_iinc 18 dX6_setAside_15 rfl rfl (by decide) rfl (nI_1 k) ?_
      refine q_goto 2 dX6_setAside_18 rfl ?_
      refine q_eqM (M' := putA M t2 0 (mixF (M t1 0) (M t2 0) (k + 1))) ?_ (q_fg (ih (k + 1) _ (by omega) (by omega) rfl) ⟨rfl, rfl, rfl, rfl, trivial⟩)
      rw [putA_pp, ← mixF_s, putA_s, putA_nt _ _ _ _ hne]
set_option maxRecDepth 100000 in
set_option maxHeartbeats 4000000 in
theorem c6_setAside {g : GT} (M : TM) (t1 t2 : Nat) (h1 : 9 < t1) (h2 : 9 < t2) (hl1 : len t1 = 3071) (hl2 : len t2 = 3071) (hc1 : cnt t1 = 1) (hc2 : cnt t2 = 1) (hne : t1 ≠ t2) : Cn g yX6_setAside cX6_setAside 4 none 0 [.ref (gad g 6 0), .ref (gad g t1 0), .ref (gad g t2 0)] M (Rv (putA M t2 0 (mixF (M t1 0) (M t2 0) 2871))) := by
  refine Cn.ofTR (by decide +kernel) (Nat.le_of_ble_eq_true rfl) ?_
  refine q_iconst (v := 0) 1 dX6_setAside_0 rfl rfl ?_
  refine q_istore_n 2 dX6_setAside_1 rfl (by decide) rfl ?_
  refine q_eqM (M' := putA M t2 0 (mixF (M t1 0) (M t2 0) 0)) (by rw [mixF_0, putA_id]) (q_fg (l6_setAside M t1 t2 h1 h2 hl1 hl2 hc1 hc2 hne 2872 0 0 (by omega) (by omega) rfl) ⟨rfl, rfl, rfl, rfl, trivial⟩)
set_option maxRecDepth 100000 in
set_option maxHeartbeats 4000000 in
theorem c6_keep {g : GT} (M : TM) : Cn g yX6_keep cX6_keep 1 (some .int) 1 [.ref (gad g 6 0)] M (Rt (.int (M 31 0 0)) (putA (fm M 3 1) 32 0 (mixF (M 31 0) (M 32 0) 2871))) := by
  refine Cn.ofTR (by decide +kernel) (Nat.le_of_ble_eq_true rfl) ?_
  refine q_aload_n 1 dX6_keep_0 rfl rfl ?_
  refine q_iconst (v := 1) 2 dX6_keep_1 rfl rfl ?_
  refine q_putI 5 dX6_keep_2 rfl fl_X6_339 fp_6_3 (by decide) rfl (by decide) rfl rfl ?_
  refine q_aload_n 6 dX6_keep_5 rfl rfl ?_
  refine q_aload_n 7 dX6_keep_6 rfl rfl ?_
  refine q_getR 10 dX6_keep_7 rfl fl_X6_7 (by decide) rfl rfl ?_
  refine q_aload_n 11 dX6_keep_10 rfl rfl ?_
  refine q_getR 14 dX6_keep_11 rfl fl_X6_13 (by decide) rfl rfl ?_
  refine q_callVv 17 dX6_keep_14 rfl (c6_setAside _ 31 32 (by decide) (by decide) rfl rfl rfl rfl (by decide)) cw_X6_343 (by decide) rfl rfl ⟨by decide, by decide⟩ ⟨by decide, by decide⟩ (Nat.le_of_ble_eq_true rfl) ?_
  refine q_aload_n 18 dX6_keep_17 rfl rfl ?_
  refine q_getR 21 dX6_keep_18 rfl fl_X6_7 (by decide) rfl rfl ?_
  refine q_iconst (v := 0) 22 dX6_keep_21 rfl rfl ?_
  refine q_iald 23 dX6_keep_22 rfl (by decide) (by decide) rfl (by decide) ?_
  refine q_iret dX6_keep_23 ?_
  exact ⟨rfl, rfl⟩
set_option maxRecDepth 100000 in
set_option maxHeartbeats 4000000 in
theorem c6_back {g : GT} (M : TM) : Cn g yX6_back cX6_back 1 (some .int) 1 [.ref (gad g 6 0)] M (Pi (M 6 0 3 = 0) NOc (mixF (M 32 0) (M 31 0) 2871 0) M (putA M 31 0 (mixF (M 32 0) (M 31 0) 2871))) := by
  refine Cn.ofTR (by decide +kernel) (Nat.le_of_ble_eq_true rfl) ?_
  refine q_aload_n 1 dX6_back_0 rfl rfl ?_
  refine q_getI 4 dX6_back_1 rfl fl_X6_339 (by decide) rfl (by decide) ?_
  refine q_if_ne 11 7 dX6_back_4 rfl rfl (fun h_4 => ?_) (fun h_4 => ?_)
  · skip
    refine q_aload_n 12 dX6_back_11 rfl rfl ?_
    refine q_aload_n 13 dX6_back_12 rfl rfl ?_
    refine q_getR 16 dX6_back_13 rfl fl_X6_13 (by decide) rfl rfl ?_
    refine q_aload_n 17 dX6_back_16 rfl rfl ?_
    refine q_getR 20 dX6_back_17 rfl fl_X6_7 (by decide) rfl rfl ?_
    refine q_callVv 23 dX6_back_20 rfl (c6_setAside _ 32 31 (by decide) (by decide) rfl rfl rfl rfl (by decide)) cw_X6_343 (by decide) rfl rfl ⟨by decide, by decide⟩ ⟨by decide, by decide⟩ (Nat.le_of_ble_eq_true rfl) ?_
    refine q_aload_n 24 dX6_back_23 rfl rfl ?_
    refine q_getR 27 dX6_back_24 rfl fl_X6_7 (by decide) rfl rfl ?_
    refine q_iconst (v := 0) 28 dX6_back_27 rfl rfl ?_
    refine q_iald 29 dX6_back_28 rfl (by decide) (by decide) rfl (by decide) ?_
    refine q_iret dX6_back_29 ?_
    exact Pi_f h_4
  · skip
    refine q_ldc_w 10 dX6_back_7 rfl cs_X6_333 ?_
    refine q_iret dX6_back_10 ?_
    exact Pi_t h_4
set_option maxRecDepth 100000 in
set_option maxHeartbeats 4000000 in
theorem c6_trim {g : GT} (M : TM) (n : Int32) : Cn g yX6_trim cX6_trim 2 (some .int) 1 [.ref (gad g 6 0), .int n] M (Pi (0 ≤ n ∧ n ≤ M 6 0 14) n BADc (fm M 14 n) M) := by
  refine Cn.ofTR (by decide +kernel) (Nat.le_of_ble_eq_true rfl) ?_
  refine q_iload_n 1 dX6_trim_0 rfl rfl ?_
  refine q_i2l 2 dX6_trim_1 rfl ?_
  refine q_lconst (v := 0) 3 dX6_trim_2 rfl rfl ?_
  refine q_aload_n 4 dX6_trim_3 rfl rfl ?_
  refine q_getI 7 dX6_trim_4 rfl fl_X6_211 (by decide) rfl (by decide) ?_
  refine q_i2l 8 dX6_trim_7 rfl ?_
  refine q_callSt 11 dX6_trim_8 rfl (c6_isIn' _ _ 0 (M 6 0 14) _ _) cw_X6_65 rfl rfl ⟨by decide, by decide⟩ ⟨by decide, by decide⟩ (Nat.le_of_ble_eq_true rfl) ?_
  refine q_if_ne 17 14 dX6_trim_11 rfl rfl (fun h_11 => ?_) (fun h_11 => ?_)
  · skip
    simp only [bI_0, Classical.not_not] at h_11
    refine q_aload_n 18 dX6_trim_17 rfl rfl ?_
    refine q_iload_n 19 dX6_trim_18 rfl rfl ?_
    refine q_putI 22 dX6_trim_19 rfl fl_X6_211 fp_6_14 (by decide) rfl (by decide) rfl rfl ?_
    refine q_iload_n 23 dX6_trim_22 rfl rfl ?_
    refine q_iret dX6_trim_23 ?_
    exact Pi_t h_11
  · skip
    simp only [bI_0, Classical.not_not] at h_11
    refine q_ldc 16 dX6_trim_14 rfl cs_X6_110 ?_
    refine q_iret dX6_trim_16 ?_
    exact Pi_f h_11
