abbrev isL (k : Int32) : Prop := 0 ≤ k ∧ k ≤ 4
def aAsk (h hn hw k : Int32) : Int32 := if h = 0 then NOTHc else if h = 1 ∧ (hn = k ∨ k = 0 ∨ (k = 1 ∧ hn = 3) ∨ (k = 2 ∧ hn = 4)) then hw else KINDc
def aRest (h hn n : Int32) : Int32 := if h = 3 then (if n = 0 then NOc else rmF hn n) else if h = 0 then NOTHc else KINDc
def aItem (h : Int32) (z : Int32) (row : Nat → Int32) (i : Int32) : Int32 := if h = 2 then (if 0 ≤ i ∧ i ≤ z - 1 then (if row (tn i) = NONEc then KINDc else row (tn i)) else INDXc) else if h = 0 then NOTHc else KINDc
set_option maxRecDepth 100000 in
set_option maxHeartbeats 4000000 in
theorem c6_ask {g : GT} (M : TM) (l k : Int32) : Cn g yX6_ask cX6_ask 3 (some .int) 2 [.ref (gad g 6 0), .int l, .int k] M (Rt (.int (if isL l ∧ (0 ≤ k ∧ k ≤ 5) then aAsk (M 37 0 (tn l)) (M 38 0 (tn l)) (M 39 0 (tn l)) k else BADc)) M) := by
  refine Cn.ofTR (by decide +kernel) (Nat.le_of_ble_eq_true rfl) ?_
  refine q_iload_n 1 dX6_ask_0 rfl rfl ?_
  refine q_callSt 4 dX6_ask_1 rfl (c6_isSlot _ _) cw_X6_330 rfl rfl ⟨by decide, by decide⟩ ⟨by decide, by decide⟩ (Nat.le_of_ble_eq_true rfl) ?_
  refine q_if_eq 19 7 dX6_ask_4 rfl rfl (fun h_4 => ?_) (fun h_4 => ?_)
  · skip
    simp only [bI_0, Classical.not_not] at h_4
    refine q_ldc 21 dX6_ask_19 rfl cs_X6_110 ?_
    refine q_iret dX6_ask_21 ?_
    refine ⟨congrArg (fun x => some (Value.int x)) ?_, rfl⟩
    first | rw [if_neg (fun q => by first | exact h_4 q.1 | exact h_16 q.2)] | skip
    try rw [if_pos ⟨h_4, h_16⟩]
    try unfold aAsk
    first | done | (rw [if_pos h_28]; done) | (have hq := h_42; rw [if_neg h_28, if_neg (fun q => hq q.1)]; done) | (have hq : ¬ (M 38 0 (tn l) = k ∨ k = 0 ∨ k = 1 ∧ M 38 0 (tn l) = 3 ∨ k = 2 ∧ M 38 0 (tn l) = 4) := h_55; rw [if_neg h_28, if_neg (fun q => hq q.2)]; done) | (rw [if_neg h_28, if_pos ⟨h_42, h_55⟩]; done)
  · skip
    simp only [bI_0, Classical.not_not] at h_4
    refine q_iload_n 8 dX6_ask_7 rfl rfl ?_
    refine q_i2l 9 dX6_ask_8 rfl ?_
    refine q_lconst (v := 0) 10 dX6_ask_9 rfl rfl ?_
    refine q_ldc2 13 dX6_ask_10 rfl cl_X6_70 ?_
    refine q_callSt 16 dX6_ask_13 rfl (c6_isIn' _ _ (0) (5) _ _) cw_X6_65 rfl rfl ⟨by decide, by decide⟩ ⟨by decide, by decide⟩ (Nat.le_of_ble_eq_true rfl) ?_
    refine q_if_ne 22 19 dX6_ask_16 rfl rfl (fun h_16 => ?_) (fun h_16 => ?_)
    · skip
      simp only [bI_0, Classical.not_not] at h_16
      obtain ⟨el, ll⟩ := rg_tn h_4 (n := 4) rfl
      refine q_aload_n 23 dX6_ask_22 rfl rfl ?_
      refine q_getR 26 dX6_ask_23 rfl fl_X6_28 (by decide) rfl rfl ?_
      refine q_iload_n 27 dX6_ask_26 rfl rfl ?_
      refine q_iald 28 dX6_ask_27 rfl (by decide) (by decide) el (show tn l < 5 by omega) ?_
      refine q_if_ne 35 31 dX6_ask_28 rfl rfl (fun h_28 => ?_) (fun h_28 => ?_)
      · skip
        refine q_aload_n 36 dX6_ask_35 rfl rfl ?_
        refine q_getR 39 dX6_ask_36 rfl fl_X6_28 (by decide) rfl rfl ?_
        refine q_iload_n 40 dX6_ask_39 rfl rfl ?_
        refine q_iald 41 dX6_ask_40 rfl (by decide) (by decide) el (show tn l < 5 by omega) ?_
        refine q_iconst (v := 1) 42 dX6_ask_41 rfl rfl ?_
        refine q_icmp_ne 67 45 dX6_ask_42 rfl rfl (fun h_42 => ?_) (fun h_42 => ?_)
        · skip
          refine q_ldc 69 dX6_ask_67 rfl cs_X6_137 ?_
          refine q_iret dX6_ask_69 ?_
          refine ⟨congrArg (fun x => some (Value.int x)) ?_, rfl⟩
          first | rw [if_neg (fun q => by first | exact h_4 q.1 | exact h_16 q.2)] | skip
          try rw [if_pos ⟨h_4, h_16⟩]
          try unfold aAsk
          first | done | (rw [if_pos h_28]; done) | (have hq := h_42; rw [if_neg h_28, if_neg (fun q => hq q.1)]; done) | (have hq : ¬ (M 38 0 (tn l) = k ∨ k = 0 ∨ k = 1 ∧ M 38 0 (tn l) = 3 ∨ k = 2 ∧ M 38 0 (tn l) = 4) := h_55; rw [if_neg h_28, if_neg (fun q => hq q.2)]; done) | (rw [if_neg h_28, if_pos ⟨h_42, h_55⟩]; done)
        · skip
          refine q_aload_n 46 dX6_ask_45 rfl rfl ?_
          refine q_getR 49 dX6_ask_46 rfl fl_X6_31 (by decide) rfl rfl ?_
          refine q_iload_n 50 dX6_ask_49 rfl rfl ?_
          refine q_iald 51 dX6_ask_50 rfl (by decide) (by decide) el (show tn l < 5 by omega) ?_
          refine q_iload_n 52 dX6_ask_51 rfl rfl ?_
          refine q_callSt 55 dX6_ask_52 rfl (c6_isOf _ _ _) cw_X6_133 rfl rfl ⟨by decide, by decide⟩ ⟨by decide, by decide⟩ (Nat.le_of_ble_eq_true rfl) ?_
          refine q_if_eq 67 58 dX6_ask_55 rfl rfl (fun h_55 => ?_) (fun h_55 => ?_)
          · skip
            simp only [bI_0, Classical.not_not] at h_55
            refine q_ldc 69 dX6_ask_67 rfl cs_X6_137 ?_
            refine q_iret dX6_ask_69 ?_
            refine ⟨congrArg (fun x => some (Value.int x)) ?_, rfl⟩
            first | rw [if_neg (fun q => by first | exact h_4 q.1 | exact h_16 q.2)] | skip
            try rw [if_pos ⟨h_4, h_16⟩]
            try unfold aAsk
            first | done | (rw [if_pos h_28]; done) | (have hq := h_42; rw [if_neg h_28, if_neg (fun q => hq q.1)]; done) | (have hq : ¬ (M 38 0 (tn l) = k ∨ k = 0 ∨ k = 1 ∧ M 38 0 (tn l) = 3 ∨ k = 2 ∧ M 38 0 (tn l) = 4) := h_55; rw [if_neg h_28, if_neg (fun q => hq q.2)]; done) | (rw [if_neg h_28, if_pos ⟨h_42, h_55⟩]; done)
          · skip
            simp only [bI_0, Classical.not_not] at h_55
            refine q_aload_n 59 dX6_ask_58 rfl rfl ?_
            refine q_getR 62 dX6_ask_59 rfl fl_X6_34 (by decide) rfl rfl ?_
            refine q_iload_n 63 dX6_ask_62 rfl rfl ?_
            refine q_iald 64 dX6_ask_63 rfl (by decide) (by decide) el (show tn l < 5 by omega) ?_
            refine q_goto 69 dX6_ask_64 rfl ?_
            refine q_iret dX6_ask_69 ?_
            refine ⟨congrArg (fun x => some (Value.int x)) ?_, rfl⟩
            first | rw [if_neg (fun q => by first | exact h_4 q.1 | exact h_16 q.2)] | skip
            try rw [if_pos ⟨h_4, h_16⟩]
            try unfold aAsk
            first | done | (rw [if_pos h_28]; done) | (have hq := h_42; rw [if_neg h_28, if_neg (fun q => hq q.1)]; done) | (have hq : ¬ (M 38 0 (tn l) = k ∨ k = 0 ∨ k = 1 ∧ M 38 0 (tn l) = 3 ∨ k = 2 ∧ M 38 0 (tn l) = 4) := h_55; rw [if_neg h_28, if_neg (fun q => hq q.2)]; done) | (rw [if_neg h_28, if_pos ⟨h_42, h_55⟩]; done)
      · skip
        refine q_ldc_w 34 dX6_ask_31 rfl cs_X6_319 ?_
        refine q_iret dX6_ask_34 ?_
        refine ⟨congrArg (fun x => some (Value.int x)) ?_, rfl⟩
        first | rw [if_neg (fun q => by first | exact h_4 q.1 | exact h_16 q.2)] | skip
        try rw [if_pos ⟨h_4, h_16⟩]
        try unfold aAsk
        first | done | (rw [if_pos h_28]; done) | (have hq := h_42; rw [if_neg h_28, if_neg (fun q => hq q.1)]; done) | (have hq : ¬ (M 38 0 (tn l) = k ∨ k = 0 ∨ k = 1 ∧ M 38 0 (tn l) = 3 ∨ k = 2 ∧ M 38 0 (tn l) = 4) := h_55; rw [if_neg h_28, if_neg (fun q => hq q.2)]; done) | (rw [if_neg h_28, if_pos ⟨h_42, h_55⟩]; done)
    · skip
      simp only [bI_0, Classical.not_not] at h_16
      refine q_ldc 21 dX6_ask_19 rfl cs_X6_110 ?_
      refine q_iret dX6_ask_21 ?_
      refine ⟨congrArg (fun x => some (Value.int x)) ?_, rfl⟩
      first | rw [if_neg (fun q => by first | exact h_4 q.1 | exact h_16 q.2)] | skip
      try rw [if_pos ⟨h_4, h_16⟩]
      try unfold aAsk
      first | done | (rw [if_pos h_28]; done) | (have hq := h_42; rw [if_neg h_28, if_neg (fun q => hq q.1)]; done) | (have hq : ¬ (M 38 0 (tn l) = k ∨ k = 0 ∨ k = 1 ∧ M 38 0 (tn l) = 3 ∨ k = 2 ∧ M 38 0 (tn l) = 4) := h_55; rw [if_neg h_28, if_neg (fun q => hq q.2)]; done) | (rw [if_neg h_28, if_pos ⟨h_42, h_55⟩]; done)
set_option maxRecDepth 100000 in
set_option maxHeartbeats 4000000 in
theorem c6_rest {g : GT} (M : TM) (l n : Int32) : Cn g yX6_rest cX6_rest 3 (some .int) 2 [.ref (gad g 6 0), .int l, .int n] M (Rt (.int (if isL l then aRest (M 37 0 (tn l)) (M 38 0 (tn l)) n else BADc)) M) := by
  refine Cn.ofTR (by decide +kernel) (Nat.le_of_ble_eq_true rfl) ?_
  refine q_iload_n 1 dX6_rest_0 rfl rfl ?_
  refine q_callSt 4 dX6_rest_1 rfl (c6_isSlot _ _) cw_X6_330 rfl rfl ⟨by decide, by decide⟩ ⟨by decide, by decide⟩ (Nat.le_of_ble_eq_true rfl) ?_
  refine q_if_ne 10 7 dX6_rest_4 rfl rfl (fun h_4 => ?_) (fun h_4 => ?_)
  · skip
    simp only [bI_0, Classical.not_not] at h_4
    obtain ⟨el, ll⟩ := rg_tn h_4 (n := 4) rfl
    refine q_aload_n 11 dX6_rest_10 rfl rfl ?_
    refine q_getR 14 dX6_rest_11 rfl fl_X6_28 (by decide) rfl rfl ?_
    refine q_iload_n 15 dX6_rest_14 rfl rfl ?_
    refine q_iald 16 dX6_rest_15 rfl (by decide) (by decide) el (show tn l < 5 by omega) ?_
    refine q_iconst (v := 3) 17 dX6_rest_16 rfl rfl ?_
    refine q_icmp_eq 38 20 dX6_rest_17 rfl rfl (fun h_17 => ?_) (fun h_17 => ?_)
    · skip
      refine q_iload_n 39 dX6_rest_38 rfl rfl ?_
      refine q_if_ne 48 42 dX6_rest_39 rfl rfl (fun h_39 => ?_) (fun h_39 => ?_)
      · skip
        refine q_aload_n 49 dX6_rest_48 rfl rfl ?_
        refine q_getR 52 dX6_rest_49 rfl fl_X6_31 (by decide) rfl rfl ?_
        refine q_iload_n 53 dX6_rest_52 rfl rfl ?_
        refine q_iald 54 dX6_rest_53 rfl (by decide) (by decide) el (show tn l < 5 by omega) ?_
        refine q_iload_n 55 dX6_rest_54 rfl rfl ?_
        refine q_irem 56 dX6_rest_55 rfl h_39 ?_
        refine q_iret dX6_rest_56 ?_
        refine ⟨congrArg (fun x => some (Value.int x)) ?_, rfl⟩
        rw [if_pos h_4]
        unfold aRest
        rw [if_pos h_17]
        first | (rw [if_pos h_39]; done) | (rw [if_neg h_39]; rfl)
      · skip
        refine q_ldc_w 45 dX6_rest_42 rfl cs_X6_333 ?_
        refine q_goto 56 dX6_rest_45 rfl ?_
        refine q_iret dX6_rest_56 ?_
        refine ⟨congrArg (fun x => some (Value.int x)) ?_, rfl⟩
        rw [if_pos h_4]
        unfold aRest
        rw [if_pos h_17]
        first | (rw [if_pos h_39]; done) | (rw [if_neg h_39]; rfl)
    · skip
      refine q_aload_n 21 dX6_rest_20 rfl rfl ?_
      refine q_getR 24 dX6_rest_21 rfl fl_X6_28 (by decide) rfl rfl ?_
      refine q_iload_n 25 dX6_rest_24 rfl rfl ?_
      refine q_iald 26 dX6_rest_25 rfl (by decide) (by decide) el (show tn l < 5 by omega) ?_
      refine q_if_ne 35 29 dX6_rest_26 rfl rfl (fun h_26 => ?_) (fun h_26 => ?_)
      · skip
        refine q_ldc 37 dX6_rest_35 rfl cs_X6_137 ?_
        refine q_iret dX6_rest_37 ?_
        refine ⟨congrArg (fun x => some (Value.int x)) ?_, rfl⟩
        rw [if_pos h_4]
        unfold aRest
        rw [if_neg h_17]
        first | (rw [if_pos h_26]; done) | (rw [if_neg h_26]; done)
      · skip
        refine q_ldc_w 32 dX6_rest_29 rfl cs_X6_319 ?_
        refine q_goto 37 dX6_rest_32 rfl ?_
        refine q_iret dX6_rest_37 ?_
        refine ⟨congrArg (fun x => some (Value.int x)) ?_, rfl⟩
        rw [if_pos h_4]
        unfold aRest
        rw [if_neg h_17]
        first | (rw [if_pos h_26]; done) | (rw [if_neg h_26]; done)
  · skip
    simp only [bI_0, Classical.not_not] at h_4
    refine q_ldc 9 dX6_rest_7 rfl cs_X6_110 ?_
    refine q_iret dX6_rest_9 ?_
    refine ⟨congrArg (fun x => some (Value.int x)) ?_, rfl⟩
    rw [if_neg h_4]
set_option maxRecDepth 100000 in
set_option maxHeartbeats 4000000 in
theorem c6_item {g : GT} (M : TM) (l i : Int32) (hz : ∀ k, k < 5 → ∃ z, z ≤ 24 ∧ M 40 0 k = nI z) : Cn g yX6_item cX6_item 4 (some .int) 2 [.ref (gad g 6 0), .int l, .int i] M (Rt (.int (if isL l then aItem (M 37 0 (tn l)) (M 40 0 (tn l)) (fun j => M 41 0 (24 * tn l + j)) i else BADc)) M) := by
  refine Cn.ofTR (by decide +kernel) (Nat.le_of_ble_eq_true rfl) ?_
  refine q_iload_n 1 dX6_item_0 rfl rfl ?_
  refine q_callSt 4 dX6_item_1 rfl (c6_isSlot _ _) cw_X6_330 rfl rfl ⟨by decide, by decide⟩ ⟨by decide, by decide⟩ (Nat.le_of_ble_eq_true rfl) ?_
  refine q_if_ne 10 7 dX6_item_4 rfl rfl (fun h_4 => ?_) (fun h_4 => ?_)
  · skip
    simp only [bI_0, Classical.not_not] at h_4
    obtain ⟨el, ll⟩ := rg_tn h_4 (n := 4) rfl
    refine q_aload_n 11 dX6_item_10 rfl rfl ?_
    refine q_getR 14 dX6_item_11 rfl fl_X6_28 (by decide) rfl rfl ?_
    refine q_iload_n 15 dX6_item_14 rfl rfl ?_
    refine q_iald 16 dX6_item_15 rfl (by decide) (by decide) el (show tn l < 5 by omega) ?_
    refine q_iconst (v := 2) 17 dX6_item_16 rfl rfl ?_
    refine q_icmp_eq 38 20 dX6_item_17 rfl rfl (fun h_17 => ?_) (fun h_17 => ?_)
    · skip
      refine q_iload_n 39 dX6_item_38 rfl rfl ?_
      refine q_i2l 40 dX6_item_39 rfl ?_
      refine q_lconst (v := 0) 41 dX6_item_40 rfl rfl ?_
      refine q_aload_n 42 dX6_item_41 rfl rfl ?_
      refine q_getR 45 dX6_item_42 rfl fl_X6_37 (by decide) rfl rfl ?_
      refine q_iload_n 46 dX6_item_45 rfl rfl ?_
      refine q_iald 47 dX6_item_46 rfl (by decide) (by decide) el (show tn l < 5 by omega) ?_
      refine q_iconst (v := 1) 48 dX6_item_47 rfl rfl ?_
      refine q_isub 49 dX6_item_48 rfl ?_
      refine q_i2l 50 dX6_item_49 rfl ?_
      refine q_callSt 53 dX6_item_50 rfl (c6_isIn' _ _ 0 (M 40 0 (tn l) - 1) _ _) cw_X6_65 rfl rfl ⟨by decide, by decide⟩ ⟨by decide, by decide⟩ (Nat.le_of_ble_eq_true rfl) ?_
      refine q_if_ne 60 56 dX6_item_53 rfl rfl (fun h_53 => ?_) (fun h_53 => ?_)
      · skip
        simp only [bI_0, Classical.not_not] at h_53
        obtain ⟨z, hz1, hz2⟩ := hz (tn l) (by omega)
        obtain ⟨ei, li⟩ := isI_nat hz1 (by rw [← hz2]; exact h_53)
        refine q_aload_n 61 dX6_item_60 rfl rfl ?_
        refine q_getR 64 dX6_item_61 rfl fl_X6_40 (by decide) rfl rfl ?_
        refine q_bipush (v := 24) 66 dX6_item_64 rfl rfl ?_
        refine q_iload_n 67 dX6_item_66 rfl rfl ?_
        refine q_imul 68 dX6_item_67 rfl ?_
        refine q_iload_n 69 dX6_item_68 rfl rfl ?_
        refine q_iadd 70 dX6_item_69 rfl ?_
        refine q_iald 71 dX6_item_70 rfl (by decide) (by decide) (ix_24 el ei) (show 24 * tn l + tn i < 120 by omega) ?_
        refine q_istore_n 72 dX6_item_71 rfl (by decide) rfl ?_
        refine q_iload_n 73 dX6_item_72 rfl rfl ?_
        refine q_ldc 75 dX6_item_73 rfl cs_X6_64 ?_
        refine q_icmp_ne 83 78 dX6_item_75 rfl rfl (fun h_75 => ?_) (fun h_75 => ?_)
        · skip
          refine q_iload_n 84 dX6_item_83 rfl rfl ?_
          refine q_iret dX6_item_84 ?_
          refine ⟨congrArg (fun x => some (Value.int x)) ?_, rfl⟩
          rw [if_pos h_4]
          unfold aItem
          rw [if_pos h_17, if_pos h_53]
          first | (rw [if_pos h_75]; done) | (rw [if_neg h_75]; done)
        · skip
          refine q_ldc 80 dX6_item_78 rfl cs_X6_137 ?_
          refine q_goto 84 dX6_item_80 rfl ?_
          refine q_iret dX6_item_84 ?_
          refine ⟨congrArg (fun x => some (Value.int x)) ?_, rfl⟩
          rw [if_pos h_4]
          unfold aItem
          rw [if_pos h_17, if_pos h_53]
          first | (rw [if_pos h_75]; done) | (rw [if_neg h_75]; done)
      · skip
        simp only [bI_0, Classical.not_not] at h_53
        refine q_ldc_w 59 dX6_item_56 rfl cs_X6_320 ?_
        refine q_iret dX6_item_59 ?_
        refine ⟨congrArg (fun x => some (Value.int x)) ?_, rfl⟩
        rw [if_pos h_4]
        unfold aItem
        rw [if_pos h_17, if_neg h_53]
    · skip
      refine q_aload_n 21 dX6_item_20 rfl rfl ?_
      refine q_getR 24 dX6_item_21 rfl fl_X6_28 (by decide) rfl rfl ?_
      refine q_iload_n 25 dX6_item_24 rfl rfl ?_
      refine q_iald 26 dX6_item_25 rfl (by decide) (by decide) el (show tn l < 5 by omega) ?_
      refine q_if_ne 35 29 dX6_item_26 rfl rfl (fun h_26 => ?_) (fun h_26 => ?_)
      · skip
        refine q_ldc 37 dX6_item_35 rfl cs_X6_137 ?_
        refine q_iret dX6_item_37 ?_
        refine ⟨congrArg (fun x => some (Value.int x)) ?_, rfl⟩
        rw [if_pos h_4]
        unfold aItem
        rw [if_neg h_17]
        first | (rw [if_pos h_26]; done) | (rw [if_neg h_26]; done)
      · skip
        refine q_ldc_w 32 dX6_item_29 rfl cs_X6_319 ?_
        refine q_goto 37 dX6_item_32 rfl ?_
        refine q_iret dX6_item_37 ?_
        refine ⟨congrArg (fun x => some (Value.int x)) ?_, rfl⟩
        rw [if_pos h_4]
        unfold aItem
        rw [if_neg h_17]
        first | (rw [if_pos h_26]; done) | (rw [if_neg h_26]; done)
  · skip
    simp only [bI_0, Classical.not_not] at h_4
    refine q_ldc 9 dX6_item_7 rfl cs_X6_110 ?_
    refine q_iret dX6_item_9 ?_
    refine ⟨congrArg (fun x => some (Value.int x)) ?_, rfl⟩
    rw [if_neg h_4]
def zeR (T : Nat → Int32) (a : Nat) : Nat → Nat → Int32
  | 0 => T
  | i + 1 => upd (zeR T a i) (a + i) 0
abbrev cSheet (k o n : Int32) : Prop := isS k ∧ (-1 ≤ o ∧ o ≤ 1) ∧ ¬ (0 ≤ o ∧ 24 < n)
def aSheet (k o n : Int32) : Int32 := if cSheet k o n then (if 0 ≤ o ∧ n < 0 then SIZEc else if o < 0 then 0 else n) else BADc
def mSheet (M : TM) (k o n : Int32) : TM := if cSheet k o n ∧ ¬ (0 ≤ o ∧ n < 0) then putA (putA (putA M 34 0 (upd (M 34 0) (tn k) o)) 35 0 (upd (M 35 0) (tn k) (if o < 0 then 0 else n))) 36 0 (zeR (M 36 0) (24 * tn k) 24) else M
set_option maxRecDepth 100000 in
set_option maxHeartbeats 4000000 in
theorem l6_sheet {g : GT} (N : TM) (k o n : Int32) (kk : Nat) (hk : k = nI kk) (h4 : kk < 4) : ∀ (j : Nat) (i : Nat) (y : Int32), 24 - i < j → i ≤ 24 → y = nI i → TR g (rmD 2) RX6 cX6_sheet 5 (some .int) 0 0 (Zm g (Rt (.int (N 35 0 kk)) (putA N 36 0 (zeR (N 36 0) (24 * kk) 24)))) 69 [some (.ref (gad g 6 0)), some (.int k), some (.int o), some (.int n), some (.int y)] [] (putA N 36 0 (zeR (N 36 0) (24 * kk) i)) := by
  intro j
  induction j with
  | zero => intro i y hj hi hy; exact absurd hj (by omega)
  | succ j ih =>
    intro i y hj hi hy
    subst hy
    refine q_iload 71 dX6_sheet_69 rfl rfl ?_
    refine q_bipush (v := 24) 73 dX6_sheet_71 rfl rfl ?_
    refine q_icmp_ge 95 76 dX6_sheet_73 rfl rfl (fun h_73 => ?_) (fun h_73 => ?_)
    · skip
      rw [show (24 : Int32) = nI 24 from rfl, nI_leI (by omega) (by omega)] at h_73
      refine q_aload_n 96 dX6_sheet_95 rfl rfl ?_
      refine q_getR 99 dX6_sheet_96 rfl fl_X6_22 (by decide) rfl rfl ?_
      refine q_iload_n 100 dX6_sheet_99 rfl rfl ?_
      refine q_iald 101 dX6_sheet_100 rfl (by decide) (by decide) hk h4 ?_
      refine q_iret dX6_sheet_101 ?_
      exact ⟨rfl, by rw [show i = 24 by omega]⟩
    · skip
      rw [show (24 : Int32) = nI 24 from rfl, nI_leI (by omega) (by omega)] at h_73
      refine q_aload_n 77 dX6_sheet_76 rfl rfl ?_
      refine q_getR 80 dX6_sheet_77 rfl fl_X6_25 (by decide) rfl rfl ?_
      refine q_bipush (v := 24) 82 dX6_sheet_80 rfl rfl ?_
      refine q_iload_n 83 dX6_sheet_82 rfl rfl ?_
      refine q_imul 84 dX6_sheet_83 rfl ?_
      refine q_iload 86 dX6_sheet_84 rfl rfl ?_
      refine q_iadd 87 dX6_sheet_86 rfl ?_
      refine q_iconst (v := 0) 88 dX6_sheet_87 rfl rfl ?_
      refine q_iast 89 dX6_sheet_88 rfl (by decide) (by decide) (ix_24 hk rfl) (show 24 * kk + i < 96 by omega) ?_
      refine q_iinc 92 dX6_sheet_89 rfl rfl (by decide) rfl (nI_1 i) ?_
      refine q_goto 69 dX6_sheet_92 rfl ?_
      refine q_eqM (M' := putA N 36 0 (zeR (N 36 0) (24 * kk) (i + 1))) (by rw [putA_pp, putA_s]; rfl) (q_fg (ih (i + 1) _ (by omega) (by omega) rfl) ⟨rfl, rfl, rfl, rfl, rfl, trivial⟩)
set_option maxRecDepth 100000 in
set_option maxHeartbeats 4000000 in
theorem c6_sheet {g : GT} (M : TM) (k o n : Int32) : Cn g yX6_sheet cX6_sheet 5 (some .int) 2 [.ref (gad g 6 0), .int k, .int o, .int n] M (fun r M' => r = some (.int (aSheet k o n)) ∧ M' = mSheet M k o n) := by
  refine Cn.ofTR (by decide +kernel) (Nat.le_of_ble_eq_true rfl) ?_
  refine q_iload_n 1 dX6_sheet_0 rfl rfl ?_
  refine q_callSt 4 dX6_sheet_1 rfl (c6_isSheet _ _) cw_X6_313 rfl rfl ⟨by decide, by decide⟩ ⟨by decide, by decide⟩ (Nat.le_of_ble_eq_true rfl) ?_
  refine q_if_eq 29 7 dX6_sheet_4 rfl rfl (fun h_4 => ?_) (fun h_4 => ?_)
  · skip
    simp only [bI_0, Classical.not_not] at h_4
    refine q_ldc 31 dX6_sheet_29 rfl cs_X6_110 ?_
    refine q_iret dX6_sheet_31 ?_
    have c1 : ¬ cSheet k o n := fun q => by first | exact h_4 q.1 | exact h_16 q.2.1 | exact q.2.2 ⟨Int32.not_lt.mp h_20, Int32.not_le.mp h_26⟩
    unfold aSheet mSheet
    rw [if_neg c1, if_neg (fun q => c1 q.1)]
    exact ⟨rfl, rfl⟩
  · skip
    simp only [bI_0, Classical.not_not] at h_4
    obtain ⟨ek, lk⟩ := rg_tn h_4 (n := 3) rfl
    refine q_iload_n 8 dX6_sheet_7 rfl rfl ?_
    refine q_i2l 9 dX6_sheet_8 rfl ?_
    refine q_ldc2 12 dX6_sheet_9 rfl cl_X6_316 ?_
    refine q_lconst (v := 1) 13 dX6_sheet_12 rfl rfl ?_
    refine q_callSt 16 dX6_sheet_13 rfl (c6_isIn' _ _ (-1) (1) _ _) cw_X6_65 rfl rfl ⟨by decide, by decide⟩ ⟨by decide, by decide⟩ (Nat.le_of_ble_eq_true rfl) ?_
    refine q_if_eq 29 19 dX6_sheet_16 rfl rfl (fun h_16 => ?_) (fun h_16 => ?_)
    · skip
      simp only [bI_0, Classical.not_not] at h_16
      refine q_ldc 31 dX6_sheet_29 rfl cs_X6_110 ?_
      refine q_iret dX6_sheet_31 ?_
      have c1 : ¬ cSheet k o n := fun q => by first | exact h_4 q.1 | exact h_16 q.2.1 | exact q.2.2 ⟨Int32.not_lt.mp h_20, Int32.not_le.mp h_26⟩
      unfold aSheet mSheet
      rw [if_neg c1, if_neg (fun q => c1 q.1)]
      exact ⟨rfl, rfl⟩
    · skip
      simp only [bI_0, Classical.not_not] at h_16
      refine q_iload_n 20 dX6_sheet_19 rfl rfl ?_
      refine q_if_lt 32 23 dX6_sheet_20 rfl rfl (fun h_20 => ?_) (fun h_20 => ?_)
      · skip
        refine q_iload_n 33 dX6_sheet_32 rfl rfl ?_
        refine q_if_lt 44 36 dX6_sheet_33 rfl rfl (fun h_33 => ?_) (fun h_33 => ?_)
        · skip
          have c1 : cSheet k o n := ⟨h_4, h_16, fun q => absurd h_33 (Int32.not_lt.mpr q.1)⟩
          have c2 : ¬ (0 ≤ o ∧ n < 0) := fun q => absurd h_33 (Int32.not_lt.mpr q.1)
          refine q_aload_n 45 dX6_sheet_44 rfl rfl ?_
          refine q_getR 48 dX6_sheet_45 rfl fl_X6_19 (by decide) rfl rfl ?_
          refine q_iload_n 49 dX6_sheet_48 rfl rfl ?_
          refine q_iload_n 50 dX6_sheet_49 rfl rfl ?_
          refine q_iast 51 dX6_sheet_50 rfl (by decide) (by decide) ek (show tn k < 4 by omega) ?_
          refine q_aload_n 52 dX6_sheet_51 rfl rfl ?_
          refine q_getR 55 dX6_sheet_52 rfl fl_X6_22 (by decide) rfl rfl ?_
          refine q_iload_n 56 dX6_sheet_55 rfl rfl ?_
          refine q_iload_n 57 dX6_sheet_56 rfl rfl ?_
          refine q_if_ge 64 60 dX6_sheet_57 rfl rfl (fun h_57 => ?_) (fun h_57 => ?_)
          · skip
            refine q_iload_n 65 dX6_sheet_64 rfl rfl ?_
            refine q_iast 66 dX6_sheet_65 rfl (by decide) (by decide) ek (show tn k < 4 by omega) ?_
            refine q_iconst (v := 0) 67 dX6_sheet_66 rfl rfl ?_
            refine q_istore 69 dX6_sheet_67 rfl (by decide) rfl ?_
            have ea : aSheet k o n = if o < 0 then 0 else n := by unfold aSheet; rw [if_pos c1, if_neg c2]
            have em : mSheet M k o n = putA (putA (putA M 34 0 (upd (M 34 0) (tn k) o)) 35 0 (upd (M 35 0) (tn k) (if o < 0 then 0 else n))) 36 0 (zeR (M 36 0) (24 * tn k) 24) := by unfold mSheet; rw [if_pos ⟨c1, c2⟩]
            rw [ea, em]
            first
            | (rw [if_pos (Int32.not_le.mp h_57)]; refine q_eqM (putA_id _ 36 0).symm (TR_post (q_fg (l6_sheet (putA (putA M 34 0 (upd (M 34 0) (tn k) o)) 35 0 (upd (M 35 0) (tn k) 0)) k o n (tn k) ek (by omega) 25 0 0 (by omega) (by omega) rfl) ⟨rfl, rfl, rfl, rfl, rfl, trivial⟩) (by rintro _ _ ⟨rfl, rfl⟩; exact ⟨congrArg (fun x => some (Value.int x)) upd_s, rfl⟩)))
            | (rw [if_neg (Int32.not_lt.mpr h_57)]; refine q_eqM (putA_id _ 36 0).symm (TR_post (q_fg (l6_sheet (putA (putA M 34 0 (upd (M 34 0) (tn k) o)) 35 0 (upd (M 35 0) (tn k) n)) k o n (tn k) ek (by omega) 25 0 0 (by omega) (by omega) rfl) ⟨rfl, rfl, rfl, rfl, rfl, trivial⟩) (by rintro _ _ ⟨rfl, rfl⟩; exact ⟨congrArg (fun x => some (Value.int x)) upd_s, rfl⟩)))
          · skip
            refine q_iconst (v := 0) 61 dX6_sheet_60 rfl rfl ?_
            refine q_goto 65 dX6_sheet_61 rfl ?_
            refine q_iast 66 dX6_sheet_65 rfl (by decide) (by decide) ek (show tn k < 4 by omega) ?_
            refine q_iconst (v := 0) 67 dX6_sheet_66 rfl rfl ?_
            refine q_istore 69 dX6_sheet_67 rfl (by decide) rfl ?_
            have ea : aSheet k o n = if o < 0 then 0 else n := by unfold aSheet; rw [if_pos c1, if_neg c2]
            have em : mSheet M k o n = putA (putA (putA M 34 0 (upd (M 34 0) (tn k) o)) 35 0 (upd (M 35 0) (tn k) (if o < 0 then 0 else n))) 36 0 (zeR (M 36 0) (24 * tn k) 24) := by unfold mSheet; rw [if_pos ⟨c1, c2⟩]
            rw [ea, em]
            first
            | (rw [if_pos (Int32.not_le.mp h_57)]; refine q_eqM (putA_id _ 36 0).symm (TR_post (q_fg (l6_sheet (putA (putA M 34 0 (upd (M 34 0) (tn k) o)) 35 0 (upd (M 35 0) (tn k) 0)) k o n (tn k) ek (by omega) 25 0 0 (by omega) (by omega) rfl) ⟨rfl, rfl, rfl, rfl, rfl, trivial⟩) (by rintro _ _ ⟨rfl, rfl⟩; exact ⟨congrArg (fun x => some (Value.int x)) upd_s, rfl⟩)))
            | (rw [if_neg (Int32.not_lt.mpr h_57)]; refine q_eqM (putA_id _ 36 0).symm (TR_post (q_fg (l6_sheet (putA (putA M 34 0 (upd (M 34 0) (tn k) o)) 35 0 (upd (M 35 0) (tn k) n)) k o n (tn k) ek (by omega) 25 0 0 (by omega) (by omega) rfl) ⟨rfl, rfl, rfl, rfl, rfl, trivial⟩) (by rintro _ _ ⟨rfl, rfl⟩; exact ⟨congrArg (fun x => some (Value.int x)) upd_s, rfl⟩)))
        · skip
          refine q_iload_n 37 dX6_sheet_36 rfl rfl ?_
          refine q_if_ge 44 40 dX6_sheet_37 rfl rfl (fun h_37 => ?_) (fun h_37 => ?_)
          · skip
            have c1 : cSheet k o n := ⟨h_4, h_16, fun q => by first | exact absurd (Int32.not_le.mpr q.2) (fun w => w h_26) | exact absurd h_20 (Int32.not_lt.mpr q.1)⟩
            have c2 : ¬ (0 ≤ o ∧ n < 0) := fun q => absurd q.2 (Int32.not_lt.mpr h_37)
            refine q_aload_n 45 dX6_sheet_44 rfl rfl ?_
            refine q_getR 48 dX6_sheet_45 rfl fl_X6_19 (by decide) rfl rfl ?_
            refine q_iload_n 49 dX6_sheet_48 rfl rfl ?_
            refine q_iload_n 50 dX6_sheet_49 rfl rfl ?_
            refine q_iast 51 dX6_sheet_50 rfl (by decide) (by decide) ek (show tn k < 4 by omega) ?_
            refine q_aload_n 52 dX6_sheet_51 rfl rfl ?_
            refine q_getR 55 dX6_sheet_52 rfl fl_X6_22 (by decide) rfl rfl ?_
            refine q_iload_n 56 dX6_sheet_55 rfl rfl ?_
            refine q_iload_n 57 dX6_sheet_56 rfl rfl ?_
            refine q_if_ge 64 60 dX6_sheet_57 rfl rfl (fun h_57 => ?_) (fun h_57 => ?_)
            · skip
              refine q_iload_n 65 dX6_sheet_64 rfl rfl ?_
              refine q_iast 66 dX6_sheet_65 rfl (by decide) (by decide) ek (show tn k < 4 by omega) ?_
              refine q_iconst (v := 0) 67 dX6_sheet_66 rfl rfl ?_
              refine q_istore 69 dX6_sheet_67 rfl (by decide) rfl ?_
              have ea : aSheet k o n = if o < 0 then 0 else n := by unfold aSheet; rw [if_pos c1, if_neg c2]
              have em : mSheet M k o n = putA (putA (putA M 34 0 (upd (M 34 0) (tn k) o)) 35 0 (upd (M 35 0) (tn k) (if o < 0 then 0 else n))) 36 0 (zeR (M 36 0) (24 * tn k) 24) := by unfold mSheet; rw [if_pos ⟨c1, c2⟩]
              rw [ea, em]
              first
              | (rw [if_pos (Int32.not_le.mp h_57)]; refine q_eqM (putA_id _ 36 0).symm (TR_post (q_fg (l6_sheet (putA (putA M 34 0 (upd (M 34 0) (tn k) o)) 35 0 (upd (M 35 0) (tn k) 0)) k o n (tn k) ek (by omega) 25 0 0 (by omega) (by omega) rfl) ⟨rfl, rfl, rfl, rfl, rfl, trivial⟩) (by rintro _ _ ⟨rfl, rfl⟩; exact ⟨congrArg (fun x => some (Value.int x)) upd_s, rfl⟩)))
              | (rw [if_neg (Int32.not_lt.mpr h_57)]; refine q_eqM (putA_id _ 36 0).symm (TR_post (q_fg (l6_sheet (putA (putA M 34 0 (upd (M 34 0) (tn k) o)) 35 0 (upd (M 35 0) (tn k) n)) k o n (tn k) ek (by omega) 25 0 0 (by omega) (by omega) rfl) ⟨rfl, rfl, rfl, rfl, rfl, trivial⟩) (by rintro _ _ ⟨rfl, rfl⟩; exact ⟨congrArg (fun x => some (Value.int x)) upd_s, rfl⟩)))
            · skip
              refine q_iconst (v := 0) 61 dX6_sheet_60 rfl rfl ?_
              refine q_goto 65 dX6_sheet_61 rfl ?_
              refine q_iast 66 dX6_sheet_65 rfl (by decide) (by decide) ek (show tn k < 4 by omega) ?_
              refine q_iconst (v := 0) 67 dX6_sheet_66 rfl rfl ?_
              refine q_istore 69 dX6_sheet_67 rfl (by decide) rfl ?_
              have ea : aSheet k o n = if o < 0 then 0 else n := by unfold aSheet; rw [if_pos c1, if_neg c2]
              have em : mSheet M k o n = putA (putA (putA M 34 0 (upd (M 34 0) (tn k) o)) 35 0 (upd (M 35 0) (tn k) (if o < 0 then 0 else n))) 36 0 (zeR (M 36 0) (24 * tn k) 24) := by unfold mSheet; rw [if_pos ⟨c1, c2⟩]
              rw [ea, em]
              first
              | (rw [if_pos (Int32.not_le.mp h_57)]; refine q_eqM (putA_id _ 36 0).symm (TR_post (q_fg (l6_sheet (putA (putA M 34 0 (upd (M 34 0) (tn k) o)) 35 0 (upd (M 35 0) (tn k) 0)) k o n (tn k) ek (by omega) 25 0 0 (by omega) (by omega) rfl) ⟨rfl, rfl, rfl, rfl, rfl, trivial⟩) (by rintro _ _ ⟨rfl, rfl⟩; exact ⟨congrArg (fun x => some (Value.int x)) upd_s, rfl⟩)))
              | (rw [if_neg (Int32.not_lt.mpr h_57)]; refine q_eqM (putA_id _ 36 0).symm (TR_post (q_fg (l6_sheet (putA (putA M 34 0 (upd (M 34 0) (tn k) o)) 35 0 (upd (M 35 0) (tn k) n)) k o n (tn k) ek (by omega) 25 0 0 (by omega) (by omega) rfl) ⟨rfl, rfl, rfl, rfl, rfl, trivial⟩) (by rintro _ _ ⟨rfl, rfl⟩; exact ⟨congrArg (fun x => some (Value.int x)) upd_s, rfl⟩)))
          · skip
            refine q_ldc_w 43 dX6_sheet_40 rfl cs_X6_318 ?_
            refine q_iret dX6_sheet_43 ?_
            have c1 : cSheet k o n := ⟨h_4, h_16, fun q => absurd (Int32.lt_trans q.2 (Int32.not_le.mp h_37)) (by decide)⟩
            have c2 : 0 ≤ o ∧ n < 0 := ⟨Int32.not_lt.mp h_33, Int32.not_le.mp h_37⟩
            unfold aSheet mSheet
            rw [if_pos c1, if_pos c2, if_neg (fun q => q.2 c2)]
            exact ⟨rfl, rfl⟩
      · skip
        refine q_iload_n 24 dX6_sheet_23 rfl rfl ?_
        refine q_bipush (v := 24) 26 dX6_sheet_24 rfl rfl ?_
        refine q_icmp_le 32 29 dX6_sheet_26 rfl rfl (fun h_26 => ?_) (fun h_26 => ?_)
        · skip
          refine q_iload_n 33 dX6_sheet_32 rfl rfl ?_
          refine q_if_lt 44 36 dX6_sheet_33 rfl rfl (fun h_33 => ?_) (fun h_33 => ?_)
          · skip
            have c1 : cSheet k o n := ⟨h_4, h_16, fun q => absurd h_33 (Int32.not_lt.mpr q.1)⟩
            have c2 : ¬ (0 ≤ o ∧ n < 0) := fun q => absurd h_33 (Int32.not_lt.mpr q.1)
            refine q_aload_n 45 dX6_sheet_44 rfl rfl ?_
            refine q_getR 48 dX6_sheet_45 rfl fl_X6_19 (by decide) rfl rfl ?_
            refine q_iload_n 49 dX6_sheet_48 rfl rfl ?_
            refine q_iload_n 50 dX6_sheet_49 rfl rfl ?_
            refine q_iast 51 dX6_sheet_50 rfl (by decide) (by decide) ek (show tn k < 4 by omega) ?_
            refine q_aload_n 52 dX6_sheet_51 rfl rfl ?_
            refine q_getR 55 dX6_sheet_52 rfl fl_X6_22 (by decide) rfl rfl ?_
            refine q_iload_n 56 dX6_sheet_55 rfl rfl ?_
            refine q_iload_n 57 dX6_sheet_56 rfl rfl ?_
            refine q_if_ge 64 60 dX6_sheet_57 rfl rfl (fun h_57 => ?_) (fun h_57 => ?_)
            · skip
              refine q_iload_n 65 dX6_sheet_64 rfl rfl ?_
              refine q_iast 66 dX6_sheet_65 rfl (by decide) (by decide) ek (show tn k < 4 by omega) ?_
              refine q_iconst (v := 0) 67 dX6_sheet_66 rfl rfl ?_
              refine q_istore 69 dX6_sheet_67 rfl (by decide) rfl ?_
              have ea : aSheet k o n = if o < 0 then 0 else n := by unfold aSheet; rw [if_pos c1, if_neg c2]
              have em : mSheet M k o n = putA (putA (putA M 34 0 (upd (M 34 0) (tn k) o)) 35 0 (upd (M 35 0) (tn k) (if o < 0 then 0 else n))) 36 0 (zeR (M 36 0) (24 * tn k) 24) := by unfold mSheet; rw [if_pos ⟨c1, c2⟩]
              rw [ea, em]
              first
              | (rw [if_pos (Int32.not_le.mp h_57)]; refine q_eqM (putA_id _ 36 0).symm (TR_post (q_fg (l6_sheet (putA (putA M 34 0 (upd (M 34 0) (tn k) o)) 35 0 (upd (M 35 0) (tn k) 0)) k o n (tn k) ek (by omega) 25 0 0 (by omega) (by omega) rfl) ⟨rfl, rfl, rfl, rfl, rfl, trivial⟩) (by rintro _ _ ⟨rfl, rfl⟩; exact ⟨congrArg (fun x => some (Value.int x)) upd_s, rfl⟩)))
              | (rw [if_neg (Int32.not_lt.mpr h_57)]; refine q_eqM (putA_id _ 36 0).symm (TR_post (q_fg (l6_sheet (putA (putA M 34 0 (upd (M 34 0) (tn k) o)) 35 0 (upd (M 35 0) (tn k) n)) k o n (tn k) ek (by omega) 25 0 0 (by omega) (by omega) rfl) ⟨rfl, rfl, rfl, rfl, rfl, trivial⟩) (by rintro _ _ ⟨rfl, rfl⟩; exact ⟨congrArg (fun x => some (Value.int x)) upd_s, rfl⟩)))
            · skip
              refine q_iconst (v := 0) 61 dX6_sheet_60 rfl rfl ?_
              refine q_goto 65 dX6_sheet_61 rfl ?_
              refine q_iast 66 dX6_sheet_65 rfl (by decide) (by decide) ek (show tn k < 4 by omega) ?_
              refine q_iconst (v := 0) 67 dX6_sheet_66 rfl rfl ?_
              refine q_istore 69 dX6_sheet_67 rfl (by decide) rfl ?_
              have ea : aSheet k o n = if o < 0 then 0 else n := by unfold aSheet; rw [if_pos c1, if_neg c2]
              have em : mSheet M k o n = putA (putA (putA M 34 0 (upd (M 34 0) (tn k) o)) 35 0 (upd (M 35 0) (tn k) (if o < 0 then 0 else n))) 36 0 (zeR (M 36 0) (24 * tn k) 24) := by unfold mSheet; rw [if_pos ⟨c1, c2⟩]
              rw [ea, em]
              first
              | (rw [if_pos (Int32.not_le.mp h_57)]; refine q_eqM (putA_id _ 36 0).symm (TR_post (q_fg (l6_sheet (putA (putA M 34 0 (upd (M 34 0) (tn k) o)) 35 0 (upd (M 35 0) (tn k) 0)) k o n (tn k) ek (by omega) 25 0 0 (by omega) (by omega) rfl) ⟨rfl, rfl, rfl, rfl, rfl, trivial⟩) (by rintro _ _ ⟨rfl, rfl⟩; exact ⟨congrArg (fun x => some (Value.int x)) upd_s, rfl⟩)))
              | (rw [if_neg (Int32.not_lt.mpr h_57)]; refine q_eqM (putA_id _ 36 0).symm (TR_post (q_fg (l6_sheet (putA (putA M 34 0 (upd (M 34 0) (tn k) o)) 35 0 (upd (M 35 0) (tn k) n)) k o n (tn k) ek (by omega) 25 0 0 (by omega) (by omega) rfl) ⟨rfl, rfl, rfl, rfl, rfl, trivial⟩) (by rintro _ _ ⟨rfl, rfl⟩; exact ⟨congrArg (fun x => some (Value.int x)) upd_s, rfl⟩)))
          · skip
            refine q_iload_n 37 dX6_sheet_36 rfl rfl ?_
            refine q_if_ge 44 40 dX6_sheet_37 rfl rfl (fun h_37 => ?_) (fun h_37 => ?_)
            · skip
              have c1 : cSheet k o n := ⟨h_4, h_16, fun q => by first | exact absurd (Int32.not_le.mpr q.2) (fun w => w h_26) | exact absurd h_20 (Int32.not_lt.mpr q.1)⟩
              have c2 : ¬ (0 ≤ o ∧ n < 0) := fun q => absurd q.2 (Int32.not_lt.mpr h_37)
              refine q_aload_n 45 dX6_sheet_44 rfl rfl ?_
              refine q_getR 48 dX6_sheet_45 rfl fl_X6_19 (by decide) rfl rfl ?_
              refine q_iload_n 49 dX6_sheet_48 rfl rfl ?_
              refine q_iload_n 50 dX6_sheet_49 rfl rfl ?_
              refine q_iast 51 dX6_sheet_50 rfl (by decide) (by decide) ek (show tn k < 4 by omega) ?_
              refine q_aload_n 52 dX6_sheet_51 rfl rfl ?_
              refine q_getR 55 dX6_sheet_52 rfl fl_X6_22 (by decide) rfl rfl ?_
              refine q_iload_n 56 dX6_sheet_55 rfl rfl ?_
              refine q_iload_n 57 dX6_sheet_56 rfl rfl ?_
              refine q_if_ge 64 60 dX6_sheet_57 rfl rfl (fun h_57 => ?_) (fun h_57 => ?_)
              · skip
                refine q_iload_n 65 dX6_sheet_64 rfl rfl ?_
                refine q_iast 66 dX6_sheet_65 rfl (by decide) (by decide) ek (show tn k < 4 by omega) ?_
                refine q_iconst (v := 0) 67 dX6_sheet_66 rfl rfl ?_
                refine q_istore 69 dX6_sheet_67 rfl (by decide) rfl ?_
                have ea : aSheet k o n = if o < 0 then 0 else n := by unfold aSheet; rw [if_pos c1, if_neg c2]
                have em : mSheet M k o n = putA (putA (putA M 34 0 (upd (M 34 0) (tn k) o)) 35 0 (upd (M 35 0) (tn k) (if o < 0 then 0 else n))) 36 0 (zeR (M 36 0) (24 * tn k) 24) := by unfold mSheet; rw [if_pos ⟨c1, c2⟩]
                rw [ea, em]
                first
                | (rw [if_pos (Int32.not_le.mp h_57)]; refine q_eqM (putA_id _ 36 0).symm (TR_post (q_fg (l6_sheet (putA (putA M 34 0 (upd (M 34 0) (tn k) o)) 35 0 (upd (M 35 0) (tn k) 0)) k o n (tn k) ek (by omega) 25 0 0 (by omega) (by omega) rfl) ⟨rfl, rfl, rfl, rfl, rfl, trivial⟩) (by rintro _ _ ⟨rfl, rfl⟩; exact ⟨congrArg (fun x => some (Value.int x)) upd_s, rfl⟩)))
                | (rw [if_neg (Int32.not_lt.mpr h_57)]; refine q_eqM (putA_id _ 36 0).symm (TR_post (q_fg (l6_sheet (putA (putA M 34 0 (upd (M 34 0) (tn k) o)) 35 0 (upd (M 35 0) (tn k) n)) k o n (tn k) ek (by omega) 25 0 0 (by omega) (by omega) rfl) ⟨rfl, rfl, rfl, rfl, rfl, trivial⟩) (by rintro _ _ ⟨rfl, rfl⟩; exact ⟨congrArg (fun x => some (Value.int x)) upd_s, rfl⟩)))
              · skip
                refine q_iconst (v := 0) 61 dX6_sheet_60 rfl rfl ?_
                refine q_goto 65 dX6_sheet_61 rfl ?_
                refine q_iast 66 dX6_sheet_65 rfl (by decide) (by decide) ek (show tn k < 4 by omega) ?_
                refine q_iconst (v := 0) 67 dX6_sheet_66 rfl rfl ?_
                refine q_istore 69 dX6_sheet_67 rfl (by decide) rfl ?_
                have ea : aSheet k o n = if o < 0 then 0 else n := by unfold aSheet; rw [if_pos c1, if_neg c2]
                have em : mSheet M k o n = putA (putA (putA M 34 0 (upd (M 34 0) (tn k) o)) 35 0 (upd (M 35 0) (tn k) (if o < 0 then 0 else n))) 36 0 (zeR (M 36 0) (24 * tn k) 24) := by unfold mSheet; rw [if_pos ⟨c1, c2⟩]
                rw [ea, em]
                first
                | (rw [if_pos (Int32.not_le.mp h_57)]; refine q_eqM (putA_id _ 36 0).symm (TR_post (q_fg (l6_sheet (putA (putA M 34 0 (upd (M 34 0) (tn k) o)) 35 0 (upd (M 35 0) (tn k) 0)) k o n (tn k) ek (by omega) 25 0 0 (by omega) (by omega) rfl) ⟨rfl, rfl, rfl, rfl, rfl, trivial⟩) (by rintro _ _ ⟨rfl, rfl⟩; exact ⟨congrArg (fun x => some (Value.int x)) upd_s, rfl⟩)))
                | (rw [if_neg (Int32.not_lt.mpr h_57)]; refine q_eqM (putA_id _ 36 0).symm (TR_post (q_fg (l6_sheet (putA (putA M 34 0 (upd (M 34 0) (tn k) o)) 35 0 (upd (M 35 0) (tn k) n)) k o n (tn k) ek (by omega) 25 0 0 (by omega) (by omega) rfl) ⟨rfl, rfl, rfl, rfl, rfl, trivial⟩) (by rintro _ _ ⟨rfl, rfl⟩; exact ⟨congrArg (fun x => some (Value.int x)) upd_s, rfl⟩)))
            · skip
              refine q_ldc_w 43 dX6_sheet_40 rfl cs_X6_318 ?_
              refine q_iret dX6_sheet_43 ?_
              have c1 : cSheet k o n := ⟨h_4, h_16, fun q => absurd (Int32.lt_trans q.2 (Int32.not_le.mp h_37)) (by decide)⟩
              have c2 : 0 ≤ o ∧ n < 0 := ⟨Int32.not_lt.mp h_33, Int32.not_le.mp h_37⟩
              unfold aSheet mSheet
              rw [if_pos c1, if_pos c2, if_neg (fun q => q.2 c2)]
              exact ⟨rfl, rfl⟩
        · skip
          refine q_ldc 31 dX6_sheet_29 rfl cs_X6_110 ?_
          refine q_iret dX6_sheet_31 ?_
          have c1 : ¬ cSheet k o n := fun q => by first | exact h_4 q.1 | exact h_16 q.2.1 | exact q.2.2 ⟨Int32.not_lt.mp h_20, Int32.not_le.mp h_26⟩
          unfold aSheet mSheet
          rw [if_neg c1, if_neg (fun q => c1 q.1)]
          exact ⟨rfl, rfl⟩
