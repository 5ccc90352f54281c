set_option maxRecDepth 100000 in
set_option maxHeartbeats 4000000 in
theorem c5_set {g : GT} (M : TM) (m w x : Int32) (s : SS) (hR : RW M 0 s) (hW : WF 9999 s) (hT : RT M s) : Cn g yX5_set cX5_set 4 (some .int) 2 [.ref (gad g 5 0), .int m, .int w, .int x] M (PN (aSet s m w x) M (sSet s m w x)) := by
  refine Cn.ofTR (by decide +kernel) (Nat.le_of_ble_eq_true rfl) ?_
  have hR0 := hR
  obtain ⟨⟨hC, ⟨h11, hm10⟩, hM⟩, h12, h16⟩ := hR
  have hW0 := hW
  obtain ⟨⟨hn, hn10⟩, hsp, hr, hc, hm, ht⟩ := hW
  have e11 : M 4 0 11 = s 0 := h11.trans hn.symm
  refine q_aload_n 1 dX5_set_0 rfl rfl ?_
  refine q_iload_n 2 dX5_set_1 rfl rfl ?_
  refine q_callVt 5 dX5_set_2 rfl (c5_isMark _ _) cw_X5_83 (by decide) rfl rfl ⟨by decide, by decide⟩ ⟨by decide, by decide⟩ (Nat.le_of_ble_eq_true rfl) ?_
  refine q_if_ne 11 8 dX5_set_5 rfl rfl (fun h_5 => ?_) (fun h_5 => ?_)
  · skip
    simp only [bI_0, Classical.not_not] at h_5
    rw [e11] at h_5
    obtain ⟨em, lm⟩ := isM_nat hn hn10 h_5
    refine q_iload_n 12 dX5_set_11 rfl rfl ?_
    by_cases hs_12_1 : w = (1 : Int32)
    · skip
      refine q_tab 44 dX5_set_12 rfl (sw_eq hs_12_1 rfl) rfl ?_
      refine q_aload_n 45 dX5_set_44 rfl rfl ?_
      refine q_getR 48 dX5_set_45 rfl fl_X5_21 (by decide) rfl rfl ?_
      refine q_getR 51 dX5_set_48 rfl fl_X5_89 (by decide) rfl rfl ?_
      refine q_iload_n 52 dX5_set_51 rfl rfl ?_
      refine q_iload_n 53 dX5_set_52 rfl rfl ?_
      refine q_bipush (v := 99) 55 dX5_set_53 rfl rfl ?_
      refine q_callS 58 dX5_set_55 rfl (c5_replaced _ 22 0 (tn m) m x 99 (by decide) (by decide) em (show tn m < 10 by omega)) cw_X5_120 rfl rfl ⟨by decide, by decide⟩ ⟨by decide, by decide⟩ (Nat.le_of_ble_eq_true rfl) ?_
      rintro _ _ ⟨rfl, rfl⟩
      refine q_iret dX5_set_58 ?_
      by_cases hC1 : (0 ≤ x ∧ x ≤ 99)
      · rw [if_pos hC1, if_pos hC1]
        refine ⟨congrArg (fun x => some (Value.int x)) ?_, Kp.put Kp.rf (by omega), ?_⟩
        · unfold aSet
          rw [if_pos ⟨h_5, by rw [hs_12_1]; decide, by rw [hs_12_1]; exact hC1⟩, hs_12_1]
          exact (hM (tn m) lm).2.2.1
        · unfold sSet
          rw [if_pos ⟨h_5, by rw [hs_12_1]; decide, by rw [hs_12_1]; exact hC1⟩, hs_12_1]
          exact RW_mk hR0 hn10 (show tn m < 10 by omega) (v := 1) (by omega) x
      · rw [if_neg hC1, if_neg hC1]
        refine ⟨congrArg (fun x => some (Value.int x)) ?_, Kp.rf, ?_⟩
        · unfold aSet
          rw [if_neg (fun q => hC1 (by have z := q.2.2; rw [hs_12_1] at z; exact z))]
        · unfold sSet
          rw [if_neg (fun q => hC1 (by have z := q.2.2; rw [hs_12_1] at z; exact z))]
          exact hR0
    by_cases hs_12_2 : w = (2 : Int32)
    · skip
      refine q_tab 59 dX5_set_12 rfl (sw_eq hs_12_2 rfl) rfl ?_
      refine q_aload_n 60 dX5_set_59 rfl rfl ?_
      refine q_getR 63 dX5_set_60 rfl fl_X5_21 (by decide) rfl rfl ?_
      refine q_getR 66 dX5_set_63 rfl fl_X5_92 (by decide) rfl rfl ?_
      refine q_iload_n 67 dX5_set_66 rfl rfl ?_
      refine q_iload_n 68 dX5_set_67 rfl rfl ?_
      refine q_sipush (v := 9999) 71 dX5_set_68 rfl rfl ?_
      refine q_callS 74 dX5_set_71 rfl (c5_replaced _ 23 0 (tn m) m x 9999 (by decide) (by decide) em (show tn m < 10 by omega)) cw_X5_120 rfl rfl ⟨by decide, by decide⟩ ⟨by decide, by decide⟩ (Nat.le_of_ble_eq_true rfl) ?_
      rintro _ _ ⟨rfl, rfl⟩
      refine q_iret dX5_set_74 ?_
      by_cases hC1 : (0 ≤ x ∧ x ≤ 9999)
      · rw [if_pos hC1, if_pos hC1]
        refine ⟨congrArg (fun x => some (Value.int x)) ?_, Kp.put Kp.rf (by omega), ?_⟩
        · unfold aSet
          rw [if_pos ⟨h_5, by rw [hs_12_2]; decide, by rw [hs_12_2]; exact hC1⟩, hs_12_2]
          exact (hM (tn m) lm).2.2.2.1
        · unfold sSet
          rw [if_pos ⟨h_5, by rw [hs_12_2]; decide, by rw [hs_12_2]; exact hC1⟩, hs_12_2]
          exact RW_mk hR0 hn10 (show tn m < 10 by omega) (v := 2) (by omega) x
      · rw [if_neg hC1, if_neg hC1]
        refine ⟨congrArg (fun x => some (Value.int x)) ?_, Kp.rf, ?_⟩
        · unfold aSet
          rw [if_neg (fun q => hC1 (by have z := q.2.2; rw [hs_12_2] at z; exact z))]
        · unfold sSet
          rw [if_neg (fun q => hC1 (by have z := q.2.2; rw [hs_12_2] at z; exact z))]
          exact hR0
    by_cases hs_12_3 : w = (3 : Int32)
    · skip
      refine q_tab 75 dX5_set_12 rfl (sw_eq hs_12_3 rfl) rfl ?_
      refine q_iload_n 76 dX5_set_75 rfl rfl ?_
      refine q_callSt 79 dX5_set_76 rfl (c5_isCell _ _) cw_X5_70 rfl rfl ⟨by decide, by decide⟩ ⟨by decide, by decide⟩ (Nat.le_of_ble_eq_true rfl) ?_
      refine q_if_eq 94 82 dX5_set_79 rfl rfl (fun h_79 => ?_) (fun h_79 => ?_)
      · skip
        simp only [bI_0, Classical.not_not] at h_79
        refine q_ldc 96 dX5_set_94 rfl cs_X5_73 ?_
        refine q_iret dX5_set_96 ?_
        first
        | (have hq : ¬ (0 ≤ x ∧ x ≤ 5) := h_79; refine ⟨congrArg (fun x => some (Value.int x)) ?_, Kp.rf, ?_⟩; (unfold aSet; rw [if_neg (fun q => hq (by have z := q.2.2; rw [hs_12_3] at z; exact z))]); (unfold sSet; rw [if_neg (fun q => hq (by have z := q.2.2; rw [hs_12_3] at z; exact z))]; exact hR0))
        | (refine ⟨congrArg (fun x => some (Value.int x)) ?_, mvM_kp, ?_⟩; (unfold aSet; rw [if_pos ⟨h_5, by rw [hs_12_3]; decide, by rw [hs_12_3]; exact h_79⟩, hs_12_3]; exact r3); (unfold sSet; rw [if_pos ⟨h_5, by rw [hs_12_3]; decide, by rw [hs_12_3]; exact h_79⟩, hs_12_3]; have q := mvM_RW (c := tn x) hR0 hn10 lm ea (by omega) (by omega); rw [← ex] at q; exact q))
      · skip
        simp only [bI_0, Classical.not_not] at h_79
        obtain ⟨ex, lx⟩ := rg_tn h_79 (n := 5) rfl
        obtain ⟨ea, la⟩ := rg_nat (hm (tn m) (by omega)).2.2.2.1 (n := 5) rfl
        have r3 : M 24 0 (tn m) = mk s (tn m) 3 := (hM (tn m) lm).2.2.2.2.1
        refine q_aload_n 83 dX5_set_82 rfl rfl ?_
        refine q_getR 86 dX5_set_83 rfl fl_X5_21 (by decide) rfl rfl ?_
        refine q_iload_n 87 dX5_set_86 rfl rfl ?_
        refine q_iload_n 88 dX5_set_87 rfl rfl ?_
        refine q_callVt 91 dX5_set_88 rfl (c4_moveTo _ 0 (by decide) m x (tn m) (mk s (tn m) 3).toNatClampNeg (tn x) em (by omega) ex (by omega) (r3.trans ea) (by omega)) cw_X5_124 (by decide) rfl rfl ⟨by decide, by decide⟩ ⟨by decide, by decide⟩ (Nat.le_of_ble_eq_true rfl) ?_
        refine q_goto 96 dX5_set_91 rfl ?_
        refine q_iret dX5_set_96 ?_
        first
        | (have hq : ¬ (0 ≤ x ∧ x ≤ 5) := h_79; refine ⟨congrArg (fun x => some (Value.int x)) ?_, Kp.rf, ?_⟩; (unfold aSet; rw [if_neg (fun q => hq (by have z := q.2.2; rw [hs_12_3] at z; exact z))]); (unfold sSet; rw [if_neg (fun q => hq (by have z := q.2.2; rw [hs_12_3] at z; exact z))]; exact hR0))
        | (refine ⟨congrArg (fun x => some (Value.int x)) ?_, mvM_kp, ?_⟩; (unfold aSet; rw [if_pos ⟨h_5, by rw [hs_12_3]; decide, by rw [hs_12_3]; exact h_79⟩, hs_12_3]; exact r3); (unfold sSet; rw [if_pos ⟨h_5, by rw [hs_12_3]; decide, by rw [hs_12_3]; exact h_79⟩, hs_12_3]; have q := mvM_RW (c := tn x) hR0 hn10 lm ea (by omega) (by omega); rw [← ex] at q; exact q))
    by_cases hs_12_4 : w = (4 : Int32)
    · skip
      refine q_tab 97 dX5_set_12 rfl (sw_eq hs_12_4 rfl) rfl ?_
      refine q_aload_n 98 dX5_set_97 rfl rfl ?_
      refine q_getR 101 dX5_set_98 rfl fl_X5_21 (by decide) rfl rfl ?_
      refine q_getR 104 dX5_set_101 rfl fl_X5_98 (by decide) rfl rfl ?_
      refine q_iload_n 105 dX5_set_104 rfl rfl ?_
      refine q_iload_n 106 dX5_set_105 rfl rfl ?_
      refine q_sipush (v := 9999) 109 dX5_set_106 rfl rfl ?_
      refine q_callS 112 dX5_set_109 rfl (c5_replaced _ 25 0 (tn m) m x 9999 (by decide) (by decide) em (show tn m < 10 by omega)) cw_X5_120 rfl rfl ⟨by decide, by decide⟩ ⟨by decide, by decide⟩ (Nat.le_of_ble_eq_true rfl) ?_
      rintro _ _ ⟨rfl, rfl⟩
      refine q_iret dX5_set_112 ?_
      by_cases hC1 : (0 ≤ x ∧ x ≤ 9999)
      · rw [if_pos hC1, if_pos hC1]
        refine ⟨congrArg (fun x => some (Value.int x)) ?_, Kp.put Kp.rf (by omega), ?_⟩
        · unfold aSet
          rw [if_pos ⟨h_5, by rw [hs_12_4]; decide, by rw [hs_12_4]; exact hC1⟩, hs_12_4]
          exact (hM (tn m) lm).2.2.2.2.2
        · unfold sSet
          rw [if_pos ⟨h_5, by rw [hs_12_4]; decide, by rw [hs_12_4]; exact hC1⟩, hs_12_4]
          exact RW_mk hR0 hn10 (show tn m < 10 by omega) (v := 4) (by omega) x
      · rw [if_neg hC1, if_neg hC1]
        refine ⟨congrArg (fun x => some (Value.int x)) ?_, Kp.rf, ?_⟩
        · unfold aSet
          rw [if_neg (fun q => hC1 (by have z := q.2.2; rw [hs_12_4] at z; exact z))]
        · unfold sSet
          rw [if_neg (fun q => hC1 (by have z := q.2.2; rw [hs_12_4] at z; exact z))]
          exact hR0
    refine q_tab 113 dX5_set_12 rfl (sw_def [1, 2, 3, 4] (by decide) rfl (by simp only [List.mem_cons, List.not_mem_nil, or_false, not_or]; exact ⟨lv_neT hs_12_1 rfl, lv_neT hs_12_2 rfl, lv_neT hs_12_3 rfl, lv_neT hs_12_4 rfl⟩)) rfl ?_
    refine q_ldc 115 dX5_set_113 rfl cs_X5_73 ?_
    refine q_iret dX5_set_115 ?_
    refine ⟨congrArg (fun x => some (Value.int x)) ?_, Kp.rf, ?_⟩
    · unfold aSet
      rw [if_neg (fun q => ?_)]
      obtain ⟨e, l⟩ := rg_tn ⟨Int32.le_trans (by decide) q.2.1.1, q.2.1.2⟩ (n := 4) rfl
      have h1 := q.2.1.1
      have : tn w = 0 ∨ tn w = 1 ∨ tn w = 2 ∨ tn w = 3 ∨ tn w = 4 := by omega
      rcases this with z | z | z | z | z <;> rw [z] at e <;> first | contradiction | (rw [e] at h1; exact absurd h1 (by decide))
    · unfold sSet
      rw [if_neg (fun q => ?_)]
      · exact hR0
      obtain ⟨e, l⟩ := rg_tn ⟨Int32.le_trans (by decide) q.2.1.1, q.2.1.2⟩ (n := 4) rfl
      have h1 := q.2.1.1
      have : tn w = 0 ∨ tn w = 1 ∨ tn w = 2 ∨ tn w = 3 ∨ tn w = 4 := by omega
      rcases this with z | z | z | z | z <;> rw [z] at e <;> first | contradiction | (rw [e] at h1; exact absurd h1 (by decide))
  · skip
    simp only [bI_0, Classical.not_not] at h_5
    rw [e11] at h_5
    refine q_ldc 10 dX5_set_8 rfl cs_X5_73 ?_
    refine q_iret dX5_set_10 ?_
    refine ⟨congrArg (fun x => some (Value.int x)) ?_, Kp.rf, ?_⟩
    · unfold aSet
      rw [if_neg (fun q => h_5 q.1)]
    · unfold sSet
      rw [if_neg (fun q => h_5 q.1)]
      exact hR0
set_option maxRecDepth 100000 in
set_option maxHeartbeats 4000000 in
theorem c5_cell {g : GT} (M : TM) (c w x : Int32) (s : SS) (hR : RW M 0 s) (hW : WF 9999 s) (hT : RT M s) : Cn g yX5_cell cX5_cell 4 (some .int) 2 [.ref (gad g 5 0), .int c, .int w, .int x] M (PN (aCell s c w x) M (sCell s c w x)) := by
  refine Cn.ofTR (by decide +kernel) (Nat.le_of_ble_eq_true rfl) ?_
  have hR0 := hR
  obtain ⟨⟨hC, ⟨h11, hm10⟩, hM⟩, h12, h16⟩ := hR
  have hn10 := hW.1.2
  refine q_iload_n 1 dX5_cell_0 rfl rfl ?_
  refine q_callSt 4 dX5_cell_1 rfl (c5_isCell _ _) cw_X5_70 rfl rfl ⟨by decide, by decide⟩ ⟨by decide, by decide⟩ (Nat.le_of_ble_eq_true rfl) ?_
  refine q_if_ne 10 7 dX5_cell_4 rfl rfl (fun h_4 => ?_) (fun h_4 => ?_)
  · skip
    simp only [bI_0, Classical.not_not] at h_4
    obtain ⟨ec, lc⟩ := rg_tn h_4 (n := 5) rfl
    refine q_iload_n 11 dX5_cell_10 rfl rfl ?_
    by_cases hs_11_0 : w = (0 : Int32)
    · skip
      refine q_lookup 36 dX5_cell_11 (by decide) (lk_eq hs_11_0 rfl) rfl ?_
      refine q_aload_n 37 dX5_cell_36 rfl rfl ?_
      refine q_getR 40 dX5_cell_37 rfl fl_X5_21 (by decide) rfl rfl ?_
      refine q_getR 43 dX5_cell_40 rfl fl_X5_128 (by decide) rfl rfl ?_
      refine q_iload_n 44 dX5_cell_43 rfl rfl ?_
      refine q_iload_n 45 dX5_cell_44 rfl rfl ?_
      refine q_bipush (v := 99) 47 dX5_cell_45 rfl rfl ?_
      refine q_callS 50 dX5_cell_47 rfl (c5_replaced _ 18 0 (tn c) c x 99 (by decide) (by decide) ec (show tn c < 6 by omega)) cw_X5_120 rfl rfl ⟨by decide, by decide⟩ ⟨by decide, by decide⟩ (Nat.le_of_ble_eq_true rfl) ?_
      rintro _ _ ⟨rfl, rfl⟩
      refine q_iret dX5_cell_50 ?_
      by_cases hC1 : (0 ≤ x ∧ x ≤ 99)
      · rw [if_pos hC1, if_pos hC1]
        refine ⟨congrArg (fun x => some (Value.int x)) ?_, Kp.put Kp.rf (by omega), ?_⟩
        · unfold aCell
          rw [if_pos ⟨h_4, by rw [hs_11_0]; decide, by rw [hs_11_0]; exact hC1⟩, hs_11_0]
          exact (hC.1 (tn c) (by omega)).1
        · unfold sCell
          rw [if_pos ⟨h_4, by rw [hs_11_0]; decide, by rw [hs_11_0]; exact hC1⟩, hs_11_0]
          exact RW_cell hR0 hn10 (show tn c < 6 by omega) (v := 0) (by omega) x
      · rw [if_neg hC1, if_neg hC1]
        refine ⟨congrArg (fun x => some (Value.int x)) ?_, Kp.rf, ?_⟩
        · unfold aCell
          rw [if_neg (fun q => hC1 (by have z := q.2.2; rw [hs_11_0] at z; exact z))]
        · unfold sCell
          rw [if_neg (fun q => hC1 (by have z := q.2.2; rw [hs_11_0] at z; exact z))]
          exact hR0
    by_cases hs_11_1 : w = (1 : Int32)
    · skip
      refine q_lookup 51 dX5_cell_11 (by decide) (lk_eq hs_11_1 rfl) rfl ?_
      refine q_aload_n 52 dX5_cell_51 rfl rfl ?_
      refine q_getR 55 dX5_cell_52 rfl fl_X5_21 (by decide) rfl rfl ?_
      refine q_getR 58 dX5_cell_55 rfl fl_X5_131 (by decide) rfl rfl ?_
      refine q_iload_n 59 dX5_cell_58 rfl rfl ?_
      refine q_iload_n 60 dX5_cell_59 rfl rfl ?_
      refine q_sipush (v := 9999) 63 dX5_cell_60 rfl rfl ?_
      refine q_callS 66 dX5_cell_63 rfl (c5_replaced _ 19 0 (tn c) c x 9999 (by decide) (by decide) ec (show tn c < 6 by omega)) cw_X5_120 rfl rfl ⟨by decide, by decide⟩ ⟨by decide, by decide⟩ (Nat.le_of_ble_eq_true rfl) ?_
      rintro _ _ ⟨rfl, rfl⟩
      refine q_iret dX5_cell_66 ?_
      by_cases hC1 : (0 ≤ x ∧ x ≤ 9999)
      · rw [if_pos hC1, if_pos hC1]
        refine ⟨congrArg (fun x => some (Value.int x)) ?_, Kp.put Kp.rf (by omega), ?_⟩
        · unfold aCell
          rw [if_pos ⟨h_4, by rw [hs_11_1]; decide, by rw [hs_11_1]; exact hC1⟩, hs_11_1]
          exact (hC.1 (tn c) (by omega)).2.1
        · unfold sCell
          rw [if_pos ⟨h_4, by rw [hs_11_1]; decide, by rw [hs_11_1]; exact hC1⟩, hs_11_1]
          exact RW_cell hR0 hn10 (show tn c < 6 by omega) (v := 1) (by omega) x
      · rw [if_neg hC1, if_neg hC1]
        refine ⟨congrArg (fun x => some (Value.int x)) ?_, Kp.rf, ?_⟩
        · unfold aCell
          rw [if_neg (fun q => hC1 (by have z := q.2.2; rw [hs_11_1] at z; exact z))]
        · unfold sCell
          rw [if_neg (fun q => hC1 (by have z := q.2.2; rw [hs_11_1] at z; exact z))]
          exact hR0
    refine q_lookup 67 dX5_cell_11 (by decide) (lk_def _ [0, 1] rfl (by simp only [List.forall_mem_cons]; exact ⟨hs_11_0, hs_11_1, fun _ h => absurd h List.not_mem_nil⟩)) rfl ?_
    refine q_ldc 69 dX5_cell_67 rfl cs_X5_73 ?_
    refine q_iret dX5_cell_69 ?_
    refine ⟨congrArg (fun x => some (Value.int x)) ?_, Kp.rf, ?_⟩
    · unfold aCell
      rw [if_neg (fun q => ?_)]
      obtain ⟨e, l⟩ := rg_tn q.2.1 (n := 1) rfl
      have : tn w = 0 ∨ tn w = 1 := by omega
      rcases this with z | z <;> rw [z] at e <;> contradiction
    · unfold sCell
      rw [if_neg (fun q => ?_)]
      · exact hR0
      obtain ⟨e, l⟩ := rg_tn q.2.1 (n := 1) rfl
      have : tn w = 0 ∨ tn w = 1 := by omega
      rcases this with z | z <;> rw [z] at e <;> contradiction
  · skip
    simp only [bI_0, Classical.not_not] at h_4
    refine q_ldc 9 dX5_cell_7 rfl cs_X5_73 ?_
    refine q_iret dX5_cell_9 ?_
    refine ⟨congrArg (fun x => some (Value.int x)) ?_, Kp.rf, ?_⟩
    · unfold aCell
      rw [if_neg (fun q => h_4 q.1)]
    · unfold sCell
      rw [if_neg (fun q => h_4 q.1)]
      exact hR0
set_option maxRecDepth 100000 in
set_option maxHeartbeats 4000000 in
theorem c5_cellOf {g : GT} (M : TM) (c w : Int32) (s : SS) (hR : RW M 0 s) (hW : WF 9999 s) (hT : RT M s) : Cn g yX5_cellOf cX5_cellOf 3 (some .int) 5 [.ref (gad g 5 0), .int c, .int w] M (Q17 (.int (aCellOf s c w)) M) := by
  refine Cn.ofTR (by decide +kernel) (Nat.le_of_ble_eq_true rfl) ?_
  have hR0 := hR
  obtain ⟨⟨hC, ⟨h11, hm10⟩, hM⟩, h12, h16⟩ := hR
  refine q_iload_n 1 dX5_cellOf_0 rfl rfl ?_
  refine q_callSt 4 dX5_cellOf_1 rfl (c5_isCell _ _) cw_X5_70 rfl rfl ⟨by decide, by decide⟩ ⟨by decide, by decide⟩ (Nat.le_of_ble_eq_true rfl) ?_
  refine q_if_ne 10 7 dX5_cellOf_4 rfl rfl (fun h_4 => ?_) (fun h_4 => ?_)
  · skip
    simp only [bI_0, Classical.not_not] at h_4
    obtain ⟨ec, lc⟩ := rg_tn h_4 (n := 5) rfl
    refine q_iload_n 11 dX5_cellOf_10 rfl rfl ?_
    by_cases hs_11_0 : w = (0 : Int32)
    · skip
      refine q_tab 40 dX5_cellOf_11 rfl (sw_eq hs_11_0 rfl) rfl ?_
      refine q_aload_n 41 dX5_cellOf_40 rfl rfl ?_
      refine q_getR 44 dX5_cellOf_41 rfl fl_X5_21 (by decide) rfl rfl ?_
      refine q_getR 47 dX5_cellOf_44 rfl fl_X5_128 (by decide) rfl rfl ?_
      refine q_iload_n 48 dX5_cellOf_47 rfl rfl ?_
      refine q_iald 49 dX5_cellOf_48 rfl (by decide) (by decide) ec (show tn c < 6 by omega) ?_
      refine q_iret dX5_cellOf_49 ?_
      refine ⟨congrArg (fun x => some (Value.int x)) ?_, M 17 0, (putA_id M 17 0).symm⟩
      unfold aCellOf
      rw [hs_11_0, if_pos ⟨h_4, by decide⟩]
      exact (hC.1 (tn c) (by omega)).1
    by_cases hs_11_1 : w = (1 : Int32)
    · skip
      refine q_tab 50 dX5_cellOf_11 rfl (sw_eq hs_11_1 rfl) rfl ?_
      refine q_aload_n 51 dX5_cellOf_50 rfl rfl ?_
      refine q_getR 54 dX5_cellOf_51 rfl fl_X5_21 (by decide) rfl rfl ?_
      refine q_getR 57 dX5_cellOf_54 rfl fl_X5_131 (by decide) rfl rfl ?_
      refine q_iload_n 58 dX5_cellOf_57 rfl rfl ?_
      refine q_iald 59 dX5_cellOf_58 rfl (by decide) (by decide) ec (show tn c < 6 by omega) ?_
      refine q_iret dX5_cellOf_59 ?_
      refine ⟨congrArg (fun x => some (Value.int x)) ?_, M 17 0, (putA_id M 17 0).symm⟩
      unfold aCellOf
      rw [hs_11_1, if_pos ⟨h_4, by decide⟩]
      exact (hC.1 (tn c) (by omega)).2.1
    by_cases hs_11_2 : w = (2 : Int32)
    · skip
      refine q_tab 60 dX5_cellOf_11 rfl (sw_eq hs_11_2 rfl) rfl ?_
      refine q_aload_n 61 dX5_cellOf_60 rfl rfl ?_
      refine q_getR 64 dX5_cellOf_61 rfl fl_X5_21 (by decide) rfl rfl ?_
      refine q_iload_n 65 dX5_cellOf_64 rfl rfl ?_
      refine q_callVt 68 dX5_cellOf_65 rfl (c4_setIn _ 0 (by decide) s hR0.1 c) cw_X5_134 (by decide) rfl rfl ⟨by decide, by decide⟩ ⟨by decide, by decide⟩ (Nat.le_of_ble_eq_true rfl) ?_
      refine q_iret dX5_cellOf_68 ?_
      refine ⟨congrArg (fun x => some (Value.int x)) ?_, M 17 0, (putA_id M 17 0).symm⟩
      unfold aCellOf
      rw [hs_11_2, if_pos ⟨h_4, by decide⟩]
      rfl
    by_cases hs_11_3 : w = (3 : Int32)
    · skip
      refine q_tab 69 dX5_cellOf_11 rfl (sw_eq hs_11_3 rfl) rfl ?_
      refine q_aload_n 70 dX5_cellOf_69 rfl rfl ?_
      refine q_getR 73 dX5_cellOf_70 rfl fl_X5_21 (by decide) rfl rfl ?_
      refine q_iload_n 74 dX5_cellOf_73 rfl rfl ?_
      refine q_callV 77 dX5_cellOf_74 rfl (c4_showIn _ 0 (by decide) s hR0.1 hW.m hT c) cw_X5_137 (by decide) rfl rfl ⟨by decide, by decide⟩ ⟨by decide, by decide⟩ (Nat.le_of_ble_eq_true rfl) ?_
      rintro _ _ ⟨rfl, p, rfl⟩
      refine q_iret dX5_cellOf_77 ?_
      refine ⟨congrArg (fun x => some (Value.int x)) ?_, p, rfl⟩
      unfold aCellOf
      rw [hs_11_3, if_pos ⟨h_4, by decide⟩]
      rfl
    refine q_tab 78 dX5_cellOf_11 rfl (sw_def [0, 1, 2, 3] (by decide) rfl (by simp only [List.mem_cons, List.not_mem_nil, or_false, not_or]; exact ⟨lv_neT hs_11_0 rfl, lv_neT hs_11_1 rfl, lv_neT hs_11_2 rfl, lv_neT hs_11_3 rfl⟩)) rfl ?_
    refine q_ldc 80 dX5_cellOf_78 rfl cs_X5_73 ?_
    refine q_iret dX5_cellOf_80 ?_
    refine ⟨congrArg (fun x => some (Value.int x)) ?_, M 17 0, (putA_id M 17 0).symm⟩
    unfold aCellOf
    rw [if_neg (fun q => ?_)]
    obtain ⟨e, l⟩ := rg_tn q.2 (n := 3) rfl
    have : tn w = 0 ∨ tn w = 1 ∨ tn w = 2 ∨ tn w = 3 := by omega
    rcases this with z | z | z | z <;> rw [z] at e <;> contradiction
  · skip
    simp only [bI_0, Classical.not_not] at h_4
    refine q_ldc 9 dX5_cellOf_7 rfl cs_X5_73 ?_
    refine q_iret dX5_cellOf_9 ?_
    refine ⟨congrArg (fun x => some (Value.int x)) ?_, M 17 0, (putA_id M 17 0).symm⟩
    unfold aCellOf
    rw [if_neg (fun q => h_4 q.1)]
theorem rule_v {w : Int32} (h : 0 ≤ w ∧ w ≤ 2) : lrL.getD (tn w) 0 = (if w = 0 then 1 else 0) ∧ mrL.getD (tn w) 0 = (if w = 0 then 9 else if w = 1 then 99 else 100) := by
  obtain ⟨e, l⟩ := rg_tn h (n := 2) rfl
  have : tn w = 0 ∨ tn w = 1 ∨ tn w = 2 := by omega
  rcases this with z | z | z <;> rw [z] at e ⊢ <;> rw [e] <;> exact ⟨rfl, rfl⟩
set_option maxRecDepth 100000 in
set_option maxHeartbeats 4000000 in
theorem c5_rule {g : GT} (M : TM) (w x : Int32) (s : SS) (hR : RW M 0 s) (hW : WF 9999 s) (hT : RT M s) : Cn g yX5_rule cX5_rule 4 (some .int) 1 [.ref (gad g 5 0), .int w, .int x] M (PN (aRule s w x) M (sRule s w x)) := by
  refine Cn.ofTR (by decide +kernel) (Nat.le_of_ble_eq_true rfl) ?_
  have hR0 := hR
  obtain ⟨⟨hC, ⟨h11, hm10⟩, hM⟩, h12, h16⟩ := hR
  have hn10 := hW.1.2
  refine q_iload_n 1 dX5_rule_0 rfl rfl ?_
  refine q_iconst (v := 0) 2 dX5_rule_1 rfl rfl ?_
  refine q_iconst (v := 2) 3 dX5_rule_2 rfl rfl ?_
  refine q_callSt 6 dX5_rule_3 rfl (c5_within _ _ _ _) cw_X5_66 rfl rfl ⟨by decide, by decide⟩ ⟨by decide, by decide⟩ (Nat.le_of_ble_eq_true rfl) ?_
  refine q_if_eq 26 9 dX5_rule_6 rfl rfl (fun h_6 => ?_) (fun h_6 => ?_)
  · skip
    simp only [bI_0, Classical.not_not] at h_6
    refine q_ldc 28 dX5_rule_26 rfl cs_X5_73 ?_
    refine q_iret dX5_rule_28 ?_
    refine ⟨congrArg (fun x => some (Value.int x)) ?_, Kp.rf, ?_⟩
    · unfold aRule
      rw [if_neg (fun q => by first | exact h_6 q.1 | exact h_23 q.2)]
    · unfold sRule
      rw [if_neg (fun q => by first | exact h_6 q.1 | exact h_23 q.2)]
      exact hR0
  · skip
    simp only [bI_0, Classical.not_not] at h_6
    obtain ⟨ew, lw⟩ := rg_tn h_6 (n := 2) rfl
    obtain ⟨v1, v2⟩ := rule_v h_6
    refine q_iload_n 10 dX5_rule_9 rfl rfl ?_
    refine q_gets50 13 dX5_rule_10 rfl gs_X5_140 ?_
    refine q_iload_n 14 dX5_rule_13 rfl rfl ?_
    refine q_tald 15 dX5_rule_14 rfl (by decide) ew (show tn w < 3 by omega) v1 ?_
    refine q_gets51 18 dX5_rule_15 rfl gs_X5_143 ?_
    refine q_iload_n 19 dX5_rule_18 rfl rfl ?_
    refine q_tald 20 dX5_rule_19 rfl (by decide) ew (show tn w < 3 by omega) v2 ?_
    refine q_callSt 23 dX5_rule_20 rfl (c5_within _ _ _ _) cw_X5_66 rfl rfl ⟨by decide, by decide⟩ ⟨by decide, by decide⟩ (Nat.le_of_ble_eq_true rfl) ?_
    refine q_if_ne 29 26 dX5_rule_23 rfl rfl (fun h_23 => ?_) (fun h_23 => ?_)
    · skip
      simp only [bI_0, Classical.not_not] at h_23
      refine q_aload_n 30 dX5_rule_29 rfl rfl ?_
      refine q_getR 33 dX5_rule_30 rfl fl_X5_21 (by decide) rfl rfl ?_
      refine q_getR 36 dX5_rule_33 rfl fl_X5_146 (by decide) rfl rfl ?_
      refine q_iload_n 37 dX5_rule_36 rfl rfl ?_
      refine q_iald 38 dX5_rule_37 rfl (by decide) (by decide) ew (show tn w < 3 by omega) ?_
      refine q_istore_n 39 dX5_rule_38 rfl (by decide) rfl ?_
      refine q_aload_n 40 dX5_rule_39 rfl rfl ?_
      refine q_getR 43 dX5_rule_40 rfl fl_X5_21 (by decide) rfl rfl ?_
      refine q_getR 46 dX5_rule_43 rfl fl_X5_146 (by decide) rfl rfl ?_
      refine q_iload_n 47 dX5_rule_46 rfl rfl ?_
      refine q_iload_n 48 dX5_rule_47 rfl rfl ?_
      refine q_iast 49 dX5_rule_48 rfl (by decide) (by decide) ew (show tn w < 3 by omega) ?_
      refine q_iload_n 50 dX5_rule_49 rfl rfl ?_
      refine q_iret dX5_rule_50 ?_
      refine ⟨congrArg (fun x => some (Value.int x)) ?_, Kp.put Kp.rf (by omega), ?_⟩
      · unfold aRule
        rw [if_pos ⟨h_6, h_23⟩]
        have : tn w = 0 ∨ tn w = 1 ∨ tn w = 2 := by omega
        rcases this with z | z | z <;> rw [z]
        · exact hC.2.1.1
        · exact hC.2.1.2.1
        · exact hC.2.1.2.2
      · unfold sRule
        rw [if_pos ⟨h_6, h_23⟩]
        exact RW_rule hR0 hn10 (show tn w < 3 by omega) x
    · skip
      simp only [bI_0, Classical.not_not] at h_23
      refine q_ldc 28 dX5_rule_26 rfl cs_X5_73 ?_
      refine q_iret dX5_rule_28 ?_
      refine ⟨congrArg (fun x => some (Value.int x)) ?_, Kp.rf, ?_⟩
      · unfold aRule
        rw [if_neg (fun q => by first | exact h_6 q.1 | exact h_23 q.2)]
      · unfold sRule
        rw [if_neg (fun q => by first | exact h_6 q.1 | exact h_23 q.2)]
        exact hR0
set_option maxRecDepth 100000 in
set_option maxHeartbeats 4000000 in
theorem c5_seed {g : GT} (M : TM) (x : Int32) (s : SS) (hR : RW M 0 s) (hW : WF 9999 s) (hT : RT M s) : Cn g yX5_seed cX5_seed 3 (some .int) 0 [.ref (gad g 5 0), .int x] M (PN (s 8) M (upd s 8 x)) := by
  refine Cn.ofTR (by decide +kernel) (Nat.le_of_ble_eq_true rfl) ?_
  refine q_aload_n 1 dX5_seed_0 rfl rfl ?_
  refine q_getR 4 dX5_seed_1 rfl fl_X5_21 (by decide) rfl rfl ?_
  refine q_getI 7 dX5_seed_4 rfl fl_X5_158 (by decide) rfl (by decide) ?_
  refine q_istore_n 8 dX5_seed_7 rfl (by decide) rfl ?_
  refine q_aload_n 9 dX5_seed_8 rfl rfl ?_
  refine q_getR 12 dX5_seed_9 rfl fl_X5_21 (by decide) rfl rfl ?_
  refine q_iload_n 13 dX5_seed_12 rfl rfl ?_
  refine q_putI 16 dX5_seed_13 rfl fl_X5_158 fp_4_15 (by decide) rfl (by decide) rfl rfl ?_
  refine q_iload_n 17 dX5_seed_16 rfl rfl ?_
  refine q_iret dX5_seed_17 ?_
  exact ⟨congrArg (fun x => some (Value.int x)) hR.1.1.2.2.2.2.2, Kp.put Kp.rf (by omega), RW_z hR hW.1.2 x⟩
