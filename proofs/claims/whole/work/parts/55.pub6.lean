/-! THE CLASS: fee, fine, texts told, slots asked -/
set_option maxRecDepth 100000 in
set_option maxHeartbeats 4000000 in
theorem c5_fee {g : GT} (M : TM)  (s : SS) (hR : RW M 0 s) (hW : WF 9999 s) (hT : RT M s) : Cn g yX5_fee cX5_fee 2 (some .int) 2 [.ref (gad g 5 0)] M (Q17 (.int (aFee s)) M) := by
  refine Cn.ofTR (by decide +kernel) (Nat.le_of_ble_eq_true rfl) ?_
  have hC := hR.1.1
  have ht2 := hW.m.2.2.2.1
  refine q_aload_n 1 dX5_fee_0 rfl rfl ?_
  refine q_getR 4 dX5_fee_1 rfl fl_X5_21 (by decide) rfl rfl ?_
  refine q_getR 7 dX5_fee_4 rfl fl_X5_223 (by decide) rfl rfl ?_
  refine q_iconst (v := 1) 8 dX5_fee_7 rfl rfl ?_
  refine q_iald 9 dX5_fee_8 rfl (by decide) (by decide) rfl (by decide) ?_
  refine q_istore_n 10 dX5_fee_9 rfl (by decide) rfl ?_
  refine q_iload_n 11 dX5_fee_10 rfl rfl ?_
  refine q_ldc 13 dX5_fee_11 rfl cs_X5_161 ?_
  refine q_icmp_ne 26 16 dX5_fee_13 rfl rfl (fun h_13 => ?_) (fun h_13 => ?_)
  · skip
    rw [show M 27 0 1 = coT s 1 from hC.2.2.1.2.1] at h_13
    obtain ⟨t, t1, t2, t3, t4, t5⟩ := coT_n ht2 h_13
    refine q_aload_n 27 dX5_fee_26 rfl rfl ?_
    refine q_getR 30 dX5_fee_27 rfl fl_X5_10 (by decide) rfl rfl ?_
    refine q_iload_n 31 dX5_fee_30 rfl rfl ?_
    refine q_aload_n 32 dX5_fee_31 rfl rfl ?_
    refine q_getR 35 dX5_fee_32 rfl fl_X5_21 (by decide) rfl rfl ?_
    refine q_getI 38 dX5_fee_35 rfl fl_X5_176 (by decide) rfl (by decide) ?_
    refine q_aload_n 39 dX5_fee_38 rfl rfl ?_
    refine q_getR 42 dX5_fee_39 rfl fl_X5_21 (by decide) rfl rfl ?_
    refine q_getI 45 dX5_fee_42 rfl fl_X5_226 (by decide) rfl (by decide) ?_
    refine q_iconst (v := 0) 46 dX5_fee_45 rfl rfl ?_
    refine q_iconst (v := 0) 47 dX5_fee_46 rfl rfl ?_
    refine q_callV 50 dX5_fee_47 rfl (c3_gives _ _ _ _ _ _ t s (hC.2.2.1.2.1.trans t4) t1 hW.m.2.2 hT (nmF _ _) (nmO_F t3)) cw_X5_229 (by decide) rfl rfl ⟨by decide, by decide⟩ ⟨by decide, by decide⟩ (Nat.le_of_ble_eq_true rfl) ?_
    rintro _ _ ⟨rfl, p, rfl⟩
    refine q_iret dX5_fee_50 ?_
    first
    | (refine ⟨congrArg (fun x => some (Value.int x)) ?_, p, rfl⟩; unfold aFee; rw [if_neg t5, hR.2.1, hC.2.2.2.1, t2]; rw [show tn (nI t) = t from nI_clamp (by omega)])
    | (refine ⟨congrArg (fun x => some (Value.int x)) ?_, M 17 0, (putA_id M 17 0).symm⟩; unfold aFee; rw [if_pos hl]; exact hR.2.1)
  · skip
    rw [show M 27 0 1 = coT s 1 from hC.2.2.1.2.1] at h_13
    have hl := coT_e ht2 h_13
    refine q_aload_n 17 dX5_fee_16 rfl rfl ?_
    refine q_getR 20 dX5_fee_17 rfl fl_X5_21 (by decide) rfl rfl ?_
    refine q_getI 23 dX5_fee_20 rfl fl_X5_176 (by decide) rfl (by decide) ?_
    refine q_goto 50 dX5_fee_23 rfl ?_
    refine q_iret dX5_fee_50 ?_
    first
    | (refine ⟨congrArg (fun x => some (Value.int x)) ?_, p, rfl⟩; unfold aFee; rw [if_neg t5, hR.2.1, hC.2.2.2.1, t2]; rw [show tn (nI t) = t from nI_clamp (by omega)])
    | (refine ⟨congrArg (fun x => some (Value.int x)) ?_, M 17 0, (putA_id M 17 0).symm⟩; unfold aFee; rw [if_pos hl]; exact hR.2.1)
set_option maxRecDepth 100000 in
set_option maxHeartbeats 4000000 in
theorem c5_fine {g : GT} (M : TM) (m : Int32) (s : SS) (hR : RW M 0 s) (hW : WF 9999 s) (hT : RT M s) : Cn g yX5_fine cX5_fine 3 (some .int) 2 [.ref (gad g 5 0), .int m] M (Q17 (.int (aFine s m)) M) := by
  refine Cn.ofTR (by decide +kernel) (Nat.le_of_ble_eq_true rfl) ?_
  have hR0 := hR
  obtain ⟨⟨hC, ⟨h11, hm10⟩, hM⟩, h12, h16⟩ := hR
  have hW0 := hW
  obtain ⟨⟨hn, hn10⟩, hsp, hr, hc, hm, ht⟩ := hW
  have e11 : M 4 0 11 = s 0 := h11.trans hn.symm
  have ht2 := ht.2.1
  refine q_aload_n 1 dX5_fine_0 rfl rfl ?_
  refine q_iload_n 2 dX5_fine_1 rfl rfl ?_
  refine q_callVt 5 dX5_fine_2 rfl (c5_isMark _ _) cw_X5_83 (by decide) rfl rfl ⟨by decide, by decide⟩ ⟨by decide, by decide⟩ (Nat.le_of_ble_eq_true rfl) ?_
  refine q_if_ne 11 8 dX5_fine_5 rfl rfl (fun h_5 => ?_) (fun h_5 => ?_)
  · skip
    simp only [bI_0, Classical.not_not] at h_5
    rw [e11] at h_5
    obtain ⟨em, lm⟩ := isM_nat hn hn10 h_5
    refine q_aload_n 12 dX5_fine_11 rfl rfl ?_
    refine q_getR 15 dX5_fine_12 rfl fl_X5_21 (by decide) rfl rfl ?_
    refine q_getR 18 dX5_fine_15 rfl fl_X5_223 (by decide) rfl rfl ?_
    refine q_iconst (v := 2) 19 dX5_fine_18 rfl rfl ?_
    refine q_iald 20 dX5_fine_19 rfl (by decide) (by decide) rfl (by decide) ?_
    refine q_istore_n 21 dX5_fine_20 rfl (by decide) rfl ?_
    refine q_iload_n 22 dX5_fine_21 rfl rfl ?_
    refine q_ldc 24 dX5_fine_22 rfl cs_X5_161 ?_
    refine q_icmp_ne 39 27 dX5_fine_24 rfl rfl (fun h_24 => ?_) (fun h_24 => ?_)
    · skip
      rw [show M 27 0 2 = coT s 2 from hC.2.2.1.2.2] at h_24
      obtain ⟨t, t1, t2, t3, t4, t5⟩ := coT_n ht2 h_24
      refine q_aload_n 40 dX5_fine_39 rfl rfl ?_
      refine q_getR 43 dX5_fine_40 rfl fl_X5_10 (by decide) rfl rfl ?_
      refine q_iload_n 44 dX5_fine_43 rfl rfl ?_
      refine q_aload_n 45 dX5_fine_44 rfl rfl ?_
      refine q_getR 48 dX5_fine_45 rfl fl_X5_21 (by decide) rfl rfl ?_
      refine q_getR 51 dX5_fine_48 rfl fl_X5_89 (by decide) rfl rfl ?_
      refine q_iload_n 52 dX5_fine_51 rfl rfl ?_
      refine q_iald 53 dX5_fine_52 rfl (by decide) (by decide) em (show tn m < 10 by omega) ?_
      refine q_aload_n 54 dX5_fine_53 rfl rfl ?_
      refine q_getR 57 dX5_fine_54 rfl fl_X5_21 (by decide) rfl rfl ?_
      refine q_getR 60 dX5_fine_57 rfl fl_X5_92 (by decide) rfl rfl ?_
      refine q_iload_n 61 dX5_fine_60 rfl rfl ?_
      refine q_iald 62 dX5_fine_61 rfl (by decide) (by decide) em (show tn m < 10 by omega) ?_
      refine q_iconst (v := 0) 63 dX5_fine_62 rfl rfl ?_
      refine q_iconst (v := 0) 64 dX5_fine_63 rfl rfl ?_
      refine q_callV 67 dX5_fine_64 rfl (c3_gives _ _ _ _ _ _ t s (hC.2.2.1.2.2.trans t4) t1 ht hT (nmI _ _) (nmO_I t3)) cw_X5_229 (by decide) rfl rfl ⟨by decide, by decide⟩ ⟨by decide, by decide⟩ (Nat.le_of_ble_eq_true rfl) ?_
      rintro _ _ ⟨rfl, p, rfl⟩
      refine q_iret dX5_fine_67 ?_
      first
      | (refine ⟨congrArg (fun x => some (Value.int x)) ?_, p, rfl⟩; unfold aFine; rw [if_pos h_5, if_neg t5, (hM (tn m) lm).2.2.1, (hM (tn m) lm).2.2.2.1, t2]; rw [show tn (nI t) = t from nI_clamp (by omega)])
      | (refine ⟨congrArg (fun x => some (Value.int x)) ?_, M 17 0, (putA_id M 17 0).symm⟩; unfold aFine; rw [if_pos h_5, if_pos hl]; exact (hM (tn m) lm).2.2.1)
    · skip
      rw [show M 27 0 2 = coT s 2 from hC.2.2.1.2.2] at h_24
      have hl := coT_e ht2 h_24
      refine q_aload_n 28 dX5_fine_27 rfl rfl ?_
      refine q_getR 31 dX5_fine_28 rfl fl_X5_21 (by decide) rfl rfl ?_
      refine q_getR 34 dX5_fine_31 rfl fl_X5_89 (by decide) rfl rfl ?_
      refine q_iload_n 35 dX5_fine_34 rfl rfl ?_
      refine q_iald 36 dX5_fine_35 rfl (by decide) (by decide) em (show tn m < 10 by omega) ?_
      refine q_goto 67 dX5_fine_36 rfl ?_
      refine q_iret dX5_fine_67 ?_
      first
      | (refine ⟨congrArg (fun x => some (Value.int x)) ?_, p, rfl⟩; unfold aFine; rw [if_pos h_5, if_neg t5, (hM (tn m) lm).2.2.1, (hM (tn m) lm).2.2.2.1, t2]; rw [show tn (nI t) = t from nI_clamp (by omega)])
      | (refine ⟨congrArg (fun x => some (Value.int x)) ?_, M 17 0, (putA_id M 17 0).symm⟩; unfold aFine; rw [if_pos h_5, if_pos hl]; exact (hM (tn m) lm).2.2.1)
  · skip
    simp only [bI_0, Classical.not_not] at h_5
    rw [e11] at h_5
    refine q_ldc 10 dX5_fine_8 rfl cs_X5_73 ?_
    refine q_iret dX5_fine_10 ?_
    refine ⟨congrArg (fun x => some (Value.int x)) ?_, M 17 0, (putA_id M 17 0).symm⟩
    unfold aFine
    rw [if_neg h_5]
set_option maxRecDepth 100000 in
set_option maxHeartbeats 4000000 in
theorem c5_trim {g : GT} (M : TM) (n : Int32) : Cn g yX5_trim cX5_trim 2 (some .int) 1 [.ref (gad g 5 0), .int n] M (Pi (0 ≤ n ∧ n ≤ M 5 0 7) n BADc (putA M 5 0 (upd (M 5 0) 7 n)) M) := by
  refine Cn.ofTR (by decide +kernel) (Nat.le_of_ble_eq_true rfl) ?_
  refine q_iload_n 1 dX5_trim_0 rfl rfl ?_
  refine q_iconst (v := 0) 2 dX5_trim_1 rfl rfl ?_
  refine q_aload_n 3 dX5_trim_2 rfl rfl ?_
  refine q_getI 6 dX5_trim_3 rfl fl_X5_233 (by decide) rfl (by decide) ?_
  refine q_callSt 9 dX5_trim_6 rfl (c5_within _ _ _ _) cw_X5_66 rfl rfl ⟨by decide, by decide⟩ ⟨by decide, by decide⟩ (Nat.le_of_ble_eq_true rfl) ?_
  refine q_if_ne 15 12 dX5_trim_9 rfl rfl (fun h_9 => ?_) (fun h_9 => ?_)
  · skip
    simp only [bI_0, Classical.not_not] at h_9
    refine q_aload_n 16 dX5_trim_15 rfl rfl ?_
    refine q_iload_n 17 dX5_trim_16 rfl rfl ?_
    refine q_putI 20 dX5_trim_17 rfl fl_X5_233 fp_5_7 (by decide) rfl (by decide) rfl rfl ?_
    refine q_iload_n 21 dX5_trim_20 rfl rfl ?_
    refine q_iret dX5_trim_21 ?_
    exact Pi_t h_9
  · skip
    simp only [bI_0, Classical.not_not] at h_9
    refine q_ldc 14 dX5_trim_12 rfl cs_X5_73 ?_
    refine q_iret dX5_trim_14 ?_
    exact Pi_f h_9
theorem ix_nat {z : Nat} {x : Int32} (hz : z ≤ 24) (h : 0 ≤ x ∧ x ≤ nI z - 1) : x = nI (tn x) ∧ tn x < z := by
  obtain ⟨h1, h2⟩ := h
  obtain ⟨j, hj, rfl⟩ := nI_of (Int32.not_lt.mpr h1)
  unfold tn
  rw [nI_clamp hj]
  refine ⟨rfl, ?_⟩
  by_cases h0 : z = 0
  · rw [h0] at h2
    have : (nI j) ≤ -1 := h2
    exact absurd (Int32.le_trans h1 this) (by decide)
  · rw [ix_pre (by omega), nI_leI hj (by omega)] at h2
    omega
set_option maxRecDepth 100000 in
set_option maxHeartbeats 4000000 in
theorem c5_textTold {g : GT} (M : TM) (t w : Int32) (s : SS) (hR : RW M 0 s) (hW : WF 9999 s) (hT : RT M s) : Cn g yX5_textTold cX5_textTold 3 (some .int) 1 [.ref (gad g 5 0), .int t, .int w] M (Rt (.int (aTextTold s t w)) M) := by
  refine Cn.ofTR (by decide +kernel) (Nat.le_of_ble_eq_true rfl) ?_
  have e16 : M 4 0 16 = s 1 := hR.2.2.trans hW.m.2.2.1.symm
  have ht2 := hW.m.2.2.2.1
  refine q_iload_n 1 dX5_textTold_0 rfl rfl ?_
  refine q_iconst (v := 0) 2 dX5_textTold_1 rfl rfl ?_
  refine q_aload_n 3 dX5_textTold_2 rfl rfl ?_
  refine q_getR 6 dX5_textTold_3 rfl fl_X5_21 (by decide) rfl rfl ?_
  refine q_getI 9 dX5_textTold_6 rfl fl_X5_243 (by decide) rfl (by decide) ?_
  refine q_iconst (v := 1) 10 dX5_textTold_9 rfl rfl ?_
  refine q_isub 11 dX5_textTold_10 rfl ?_
  refine q_callSt 14 dX5_textTold_11 rfl (c5_within _ _ _ _) cw_X5_66 rfl rfl ⟨by decide, by decide⟩ ⟨by decide, by decide⟩ (Nat.le_of_ble_eq_true rfl) ?_
  refine q_if_ne 20 17 dX5_textTold_14 rfl rfl (fun h_14 => ?_) (fun h_14 => ?_)
  · skip
    simp only [bI_0, Classical.not_not] at h_14
    rw [e16] at h_14
    obtain ⟨et, lt⟩ := isT_nat hW.m.2.2.1 ht2 h_14
    obtain ⟨a1, a2, a3, a4, a5⟩ := hT (tn t) lt
    refine q_iload_n 21 dX5_textTold_20 rfl rfl ?_
    by_cases hs_21_0 : w = (0 : Int32)
    · skip
      refine q_lookup 48 dX5_textTold_21 (by decide) (lk_eq hs_21_0 rfl) rfl ?_
      refine q_aload_n 49 dX5_textTold_48 rfl rfl ?_
      refine q_getR 52 dX5_textTold_49 rfl fl_X5_10 (by decide) rfl rfl ?_
      refine q_getR 55 dX5_textTold_52 rfl fl_X5_253 (by decide) rfl rfl ?_
      refine q_iload_n 56 dX5_textTold_55 rfl rfl ?_
      refine q_iald 57 dX5_textTold_56 rfl (by decide) (by decide) et (show tn t < 14 by omega) ?_
      refine q_iret dX5_textTold_57 ?_
      refine ⟨congrArg (fun x => some (Value.int x)) ?_, rfl⟩
      unfold aTextTold
      rw [hs_21_0, if_pos ⟨h_14, by decide⟩]
      exact a2
    by_cases hs_21_1 : w = (1 : Int32)
    · skip
      refine q_lookup 58 dX5_textTold_21 (by decide) (lk_eq hs_21_1 rfl) rfl ?_
      refine q_aload_n 59 dX5_textTold_58 rfl rfl ?_
      refine q_getR 62 dX5_textTold_59 rfl fl_X5_10 (by decide) rfl rfl ?_
      refine q_getR 65 dX5_textTold_62 rfl fl_X5_255 (by decide) rfl rfl ?_
      refine q_iload_n 66 dX5_textTold_65 rfl rfl ?_
      refine q_iald 67 dX5_textTold_66 rfl (by decide) (by decide) et (show tn t < 14 by omega) ?_
      refine q_iret dX5_textTold_67 ?_
      refine ⟨congrArg (fun x => some (Value.int x)) ?_, rfl⟩
      unfold aTextTold
      rw [hs_21_1, if_pos ⟨h_14, by decide⟩]
      exact a3.trans (congrArg s (show 72 + 200 * tn t = 71 + 200 * tn t + 1 by omega))
    refine q_lookup 68 dX5_textTold_21 (by decide) (lk_def _ [0, 1] rfl (by simp only [List.forall_mem_cons]; exact ⟨hs_21_0, hs_21_1, fun _ h => absurd h List.not_mem_nil⟩)) rfl ?_
    refine q_ldc 70 dX5_textTold_68 rfl cs_X5_73 ?_
    refine q_iret dX5_textTold_70 ?_
    refine ⟨congrArg (fun x => some (Value.int x)) ?_, rfl⟩
    unfold aTextTold
    rw [if_neg (fun q => ?_)]
    obtain ⟨e, l⟩ := rg_tn q.2 (n := 1) rfl
    have : tn w = 0 ∨ tn w = 1 := by omega
    rcases this with z | z <;> rw [z] at e <;> contradiction
  · skip
    simp only [bI_0, Classical.not_not] at h_14
    rw [e16] at h_14
    refine q_ldc 19 dX5_textTold_17 rfl cs_X5_73 ?_
    refine q_iret dX5_textTold_19 ?_
    refine ⟨congrArg (fun x => some (Value.int x)) ?_, rfl⟩
    unfold aTextTold
    rw [if_neg (fun q => h_14 q.1)]
set_option maxRecDepth 100000 in
set_option maxHeartbeats 4000000 in
theorem c5_why {g : GT} (M : TM) (k : Int32) (s : SS) (hR : RW M 0 s) (hW : WF 9999 s) (hT : RT M s) : Cn g yX5_why cX5_why 2 (some .int) 1 [.ref (gad g 5 0), .int k] M (Rt (.int (aWhy s k)) M) := by
  refine Cn.ofTR (by decide +kernel) (Nat.le_of_ble_eq_true rfl) ?_
  refine q_iload_n 1 dX5_why_0 rfl rfl ?_
  refine q_iconst (v := 0) 2 dX5_why_1 rfl rfl ?_
  refine q_iconst (v := 2) 3 dX5_why_2 rfl rfl ?_
  refine q_callSt 6 dX5_why_3 rfl (c5_within _ _ _ _) cw_X5_66 rfl rfl ⟨by decide, by decide⟩ ⟨by decide, by decide⟩ (Nat.le_of_ble_eq_true rfl) ?_
  refine q_if_eq 21 9 dX5_why_6 rfl rfl (fun h_6 => ?_) (fun h_6 => ?_)
  · skip
    simp only [bI_0, Classical.not_not] at h_6
    refine q_ldc 23 dX5_why_21 rfl cs_X5_73 ?_
    refine q_iret dX5_why_23 ?_
    refine ⟨congrArg (fun x => some (Value.int x)) ?_, rfl⟩
    unfold aWhy
    first | (have hq : ¬ (0 ≤ k ∧ k ≤ 2) := h_6; rw [if_neg hq]; done) | (rw [if_pos h_6]; show M 27 0 (tn k) = coT s k; have hx : tn k = 0 ∨ tn k = 1 ∨ tn k = 2 := (by omega); rcases hx with z | z | z; (rw [z] at ek ⊢; rw [ek]; exact hR.1.1.2.2.1.1); (rw [z] at ek ⊢; rw [ek]; exact hR.1.1.2.2.1.2.1); (rw [z] at ek ⊢; rw [ek]; exact hR.1.1.2.2.1.2.2))
  · skip
    simp only [bI_0, Classical.not_not] at h_6
    obtain ⟨ek, lk⟩ := rg_tn h_6 (n := 2) rfl
    refine q_aload_n 10 dX5_why_9 rfl rfl ?_
    refine q_getR 13 dX5_why_10 rfl fl_X5_21 (by decide) rfl rfl ?_
    refine q_getR 16 dX5_why_13 rfl fl_X5_223 (by decide) rfl rfl ?_
    refine q_iload_n 17 dX5_why_16 rfl rfl ?_
    refine q_iald 18 dX5_why_17 rfl (by decide) (by decide) ek (show tn k < 3 by omega) ?_
    refine q_goto 23 dX5_why_18 rfl ?_
    refine q_iret dX5_why_23 ?_
    refine ⟨congrArg (fun x => some (Value.int x)) ?_, rfl⟩
    unfold aWhy
    first | (have hq : ¬ (0 ≤ k ∧ k ≤ 2) := h_6; rw [if_neg hq]; done) | (rw [if_pos h_6]; show M 27 0 (tn k) = coT s k; have hx : tn k = 0 ∨ tn k = 1 ∨ tn k = 2 := (by omega); rcases hx with z | z | z; (rw [z] at ek ⊢; rw [ek]; exact hR.1.1.2.2.1.1); (rw [z] at ek ⊢; rw [ek]; exact hR.1.1.2.2.1.2.1); (rw [z] at ek ⊢; rw [ek]; exact hR.1.1.2.2.1.2.2))
set_option maxRecDepth 100000 in
set_option maxHeartbeats 4000000 in
theorem c5_tell {g : GT} (M : TM) (v : Int32) (k : Nat) (hk : M 5 0 11 = nI k) (h60 : k ≤ 60) : Cn g yX5_tell cX5_tell 2 (some .int) 0 [.ref (gad g 5 0), .int v] M (Pi (k = 60) FULLc (nI (k + 1)) M (putA (putA M 29 0 (upd (M 29 0) k v)) 5 0 (upd (M 5 0) 11 (nI (k + 1))))) := by
  refine Cn.ofTR (by decide +kernel) (Nat.le_of_ble_eq_true rfl) ?_
  refine q_aload_n 1 dX5_tell_0 rfl rfl ?_
  refine q_getI 4 dX5_tell_1 rfl fl_X5_312 (by decide) rfl (by decide) ?_
  refine q_bipush (v := 60) 6 dX5_tell_4 rfl rfl ?_
  refine q_icmp_lt 12 9 dX5_tell_6 rfl rfl (fun h_6 => ?_) (fun h_6 => ?_)
  · skip
    rw [hk, show (60 : Int32) = nI 60 from rfl, nI_ltI (by omega) (by omega)] at h_6
    refine q_aload_n 13 dX5_tell_12 rfl rfl ?_
    refine q_getR 16 dX5_tell_13 rfl fl_X5_54 (by decide) rfl rfl ?_
    refine q_aload_n 17 dX5_tell_16 rfl rfl ?_
    refine q_getI 20 dX5_tell_17 rfl fl_X5_312 (by decide) rfl (by decide) ?_
    refine q_iload_n 21 dX5_tell_20 rfl rfl ?_
    refine q_iast 22 dX5_tell_21 rfl (by decide) (by decide) hk (show k < 60 by omega) ?_
    refine q_aload_n 23 dX5_tell_22 rfl rfl ?_
    refine q_dup 24 dX5_tell_23 rfl rfl ?_
    refine q_getI 27 dX5_tell_24 rfl fl_X5_312 (by decide) rfl (by decide) ?_
    refine q_iconst (v := 1) 28 dX5_tell_27 rfl rfl ?_
    refine q_iadd 29 dX5_tell_28 rfl ?_
    refine q_putI 32 dX5_tell_29 rfl fl_X5_312 fp_5_11 (by decide) rfl (by decide) rfl rfl ?_
    refine q_aload_n 33 dX5_tell_32 rfl rfl ?_
    refine q_getI 36 dX5_tell_33 rfl fl_X5_312 (by decide) rfl (by decide) ?_
    refine q_iret dX5_tell_36 ?_
    have e : putA M 29 0 (upd (M 29 0) k v) 5 0 11 + 1 = nI (k + 1) := (congrArg (fun x => x + 1) hk).trans (nI_1 k)
    rw [putA_upd, e]
    exact Pi_f (by omega)
  · skip
    rw [hk, show (60 : Int32) = nI 60 from rfl, nI_ltI (by omega) (by omega)] at h_6
    refine q_ldc 11 dX5_tell_9 rfl cs_X5_78 ?_
    refine q_iret dX5_tell_11 ?_
    exact Pi_t (by omega)
set_option maxRecDepth 100000 in
set_option maxHeartbeats 4000000 in
theorem c5_keep {g : GT} (M : TM) (s : SS) (hR : RW M 0 s) (hn : s 0 = nI (nN s)) : Cn g yX5_keep cX5_keep 1 (some .int) 2 [.ref (gad g 5 0)] M (fun r M' => r = some (.int (s 0)) ∧ ∃ M2, QBc M 1 0 M2 ∧ M' = putA M2 5 0 (upd (M2 5 0) 4 1)) := by
  refine Cn.ofTR (by decide +kernel) (Nat.le_of_ble_eq_true rfl) ?_
  refine q_aload_n 1 dX5_keep_0 rfl rfl ?_
  refine q_getR 4 dX5_keep_1 rfl fl_X5_25 (by decide) rfl rfl ?_
  refine q_aload_n 5 dX5_keep_4 rfl rfl ?_
  refine q_getR 8 dX5_keep_5 rfl fl_X5_21 (by decide) rfl rfl ?_
  refine q_callV 11 dX5_keep_8 rfl (c4_become _ 1 0 (by decide) (by decide) (by decide)) cw_X5_195 (by decide) rfl rfl ⟨by decide, by decide⟩ ⟨by decide, by decide⟩ (Nat.le_of_ble_eq_true rfl) ?_
  rintro _ M2 ⟨rfl, hB⟩
  refine q_aload_n 12 dX5_keep_11 rfl rfl ?_
  refine q_iconst (v := 1) 13 dX5_keep_12 rfl rfl ?_
  refine q_putI 16 dX5_keep_13 rfl fl_X5_315 fp_5_4 (by decide) rfl (by decide) rfl rfl ?_
  refine q_aload_n 17 dX5_keep_16 rfl rfl ?_
  refine q_getR 20 dX5_keep_17 rfl fl_X5_25 (by decide) rfl rfl ?_
  refine q_getI 23 dX5_keep_20 rfl fl_X5_74 (by decide) rfl (by decide) ?_
  refine q_iret dX5_keep_23 ?_
  exact ⟨congrArg (fun x => some (Value.int x)) ((hB.rw' hR).1.2.1.1.trans hn.symm), M2, hB, rfl⟩
set_option maxRecDepth 100000 in
set_option maxHeartbeats 4000000 in
theorem c5_back {g : GT} (M : TM) : Cn g yX5_back cX5_back 1 (some .int) 2 [.ref (gad g 5 0)] M (fun r M' => if M 5 0 4 = 0 then r = some (.int NOc) ∧ M' = M else r = some (.int (M 4 1 11)) ∧ QBc M 0 1 M') := by
  refine Cn.ofTR (by decide +kernel) (Nat.le_of_ble_eq_true rfl) ?_
  refine q_aload_n 1 dX5_back_0 rfl rfl ?_
  refine q_getI 4 dX5_back_1 rfl fl_X5_315 (by decide) rfl (by decide) ?_
  refine q_if_ne 11 7 dX5_back_4 rfl rfl (fun h_4 => ?_) (fun h_4 => ?_)
  · skip
    refine q_aload_n 12 dX5_back_11 rfl rfl ?_
    refine q_getR 15 dX5_back_12 rfl fl_X5_21 (by decide) rfl rfl ?_
    refine q_aload_n 16 dX5_back_15 rfl rfl ?_
    refine q_getR 19 dX5_back_16 rfl fl_X5_25 (by decide) rfl rfl ?_
    refine q_callV 22 dX5_back_19 rfl (c4_become _ 0 1 (by decide) (by decide) (by decide)) cw_X5_195 (by decide) rfl rfl ⟨by decide, by decide⟩ ⟨by decide, by decide⟩ (Nat.le_of_ble_eq_true rfl) ?_
    rintro _ M2 ⟨rfl, hB⟩
    refine q_aload_n 23 dX5_back_22 rfl rfl ?_
    refine q_getR 26 dX5_back_23 rfl fl_X5_21 (by decide) rfl rfl ?_
    refine q_getI 29 dX5_back_26 rfl fl_X5_74 (by decide) rfl (by decide) ?_
    refine q_iret dX5_back_29 ?_
    rw [if_neg h_4]
    exact ⟨by rw [hB.2.2.2.2]; rfl, hB⟩
  · skip
    refine q_ldc_w 10 dX5_back_7 rfl cs_X5_311 ?_
    refine q_iret dX5_back_10 ?_
    rw [if_pos h_4]
    exact ⟨rfl, rfl⟩
set_option maxRecDepth 100000 in
set_option maxHeartbeats 4000000 in
theorem c5_count {g : GT} (M : TM) (w : Int32) (s : SS) (hR : RW M 0 s) (hW : WF 9999 s) (hT : RT M s) : Cn g yX5_count cX5_count 2 (some .int) 0 [.ref (gad g 5 0), .int w] M (Rt (.int (aCount s (M 5 0 11) (M 5 0 7) w)) M) := by
  refine Cn.ofTR (by decide +kernel) (Nat.le_of_ble_eq_true rfl) ?_
  refine q_iload_n 1 dX5_count_0 rfl rfl ?_
  by_cases hs_1_0 : w = (0 : Int32)
  · skip
    refine q_tab 52 dX5_count_1 rfl (sw_eq hs_1_0 rfl) rfl ?_
    refine q_aload_n 53 dX5_count_52 rfl rfl ?_
    refine q_getR 56 dX5_count_53 rfl fl_X5_21 (by decide) rfl rfl ?_
    refine q_getI 59 dX5_count_56 rfl fl_X5_74 (by decide) rfl (by decide) ?_
    refine q_iret dX5_count_59 ?_
    refine ⟨congrArg (fun x => some (Value.int x)) ?_, rfl⟩
    unfold aCount
    rw [if_pos hs_1_0]
    exact hR.1.2.1.1.trans hW.1.1.symm
  by_cases hs_1_1 : w = (1 : Int32)
  · skip
    refine q_tab 60 dX5_count_1 rfl (sw_eq hs_1_1 rfl) rfl ?_
    refine q_aload_n 61 dX5_count_60 rfl rfl ?_
    refine q_getR 64 dX5_count_61 rfl fl_X5_21 (by decide) rfl rfl ?_
    refine q_getI 67 dX5_count_64 rfl fl_X5_179 (by decide) rfl (by decide) ?_
    refine q_iret dX5_count_67 ?_
    refine ⟨congrArg (fun x => some (Value.int x)) ?_, rfl⟩
    unfold aCount
    rw [if_neg hs_1_0, if_pos hs_1_1]
    exact hR.1.1.2.2.2.2.1
  by_cases hs_1_2 : w = (2 : Int32)
  · skip
    refine q_tab 68 dX5_count_1 rfl (sw_eq hs_1_2 rfl) rfl ?_
    refine q_aload_n 69 dX5_count_68 rfl rfl ?_
    refine q_getR 72 dX5_count_69 rfl fl_X5_21 (by decide) rfl rfl ?_
    refine q_getR 75 dX5_count_72 rfl fl_X5_146 (by decide) rfl rfl ?_
    refine q_iconst (v := 0) 76 dX5_count_75 rfl rfl ?_
    refine q_iald 77 dX5_count_76 rfl (by decide) (by decide) rfl (by decide) ?_
    refine q_iret dX5_count_77 ?_
    refine ⟨congrArg (fun x => some (Value.int x)) ?_, rfl⟩
    unfold aCount
    rw [if_neg hs_1_0, if_neg hs_1_1, if_pos hs_1_2]
    exact hR.1.1.2.1.1
  by_cases hs_1_3 : w = (3 : Int32)
  · skip
    refine q_tab 78 dX5_count_1 rfl (sw_eq hs_1_3 rfl) rfl ?_
    refine q_aload_n 79 dX5_count_78 rfl rfl ?_
    refine q_getR 82 dX5_count_79 rfl fl_X5_21 (by decide) rfl rfl ?_
    refine q_getR 85 dX5_count_82 rfl fl_X5_146 (by decide) rfl rfl ?_
    refine q_iconst (v := 1) 86 dX5_count_85 rfl rfl ?_
    refine q_iald 87 dX5_count_86 rfl (by decide) (by decide) rfl (by decide) ?_
    refine q_iret dX5_count_87 ?_
    refine ⟨congrArg (fun x => some (Value.int x)) ?_, rfl⟩
    unfold aCount
    rw [if_neg hs_1_0, if_neg hs_1_1, if_neg hs_1_2, if_pos hs_1_3]
    exact hR.1.1.2.1.2.1
  by_cases hs_1_4 : w = (4 : Int32)
  · skip
    refine q_tab 88 dX5_count_1 rfl (sw_eq hs_1_4 rfl) rfl ?_
    refine q_aload_n 89 dX5_count_88 rfl rfl ?_
    refine q_getR 92 dX5_count_89 rfl fl_X5_21 (by decide) rfl rfl ?_
    refine q_getR 95 dX5_count_92 rfl fl_X5_146 (by decide) rfl rfl ?_
    refine q_iconst (v := 2) 96 dX5_count_95 rfl rfl ?_
    refine q_iald 97 dX5_count_96 rfl (by decide) (by decide) rfl (by decide) ?_
    refine q_iret dX5_count_97 ?_
    refine ⟨congrArg (fun x => some (Value.int x)) ?_, rfl⟩
    unfold aCount
    rw [if_neg hs_1_0, if_neg hs_1_1, if_neg hs_1_2, if_neg hs_1_3, if_pos hs_1_4]
    exact hR.1.1.2.1.2.2
  by_cases hs_1_5 : w = (5 : Int32)
  · skip
    refine q_tab 98 dX5_count_1 rfl (sw_eq hs_1_5 rfl) rfl ?_
    refine q_aload_n 99 dX5_count_98 rfl rfl ?_
    refine q_getR 102 dX5_count_99 rfl fl_X5_21 (by decide) rfl rfl ?_
    refine q_getI 105 dX5_count_102 rfl fl_X5_243 (by decide) rfl (by decide) ?_
    refine q_iret dX5_count_105 ?_
    refine ⟨congrArg (fun x => some (Value.int x)) ?_, rfl⟩
    unfold aCount
    rw [if_neg hs_1_0, if_neg hs_1_1, if_neg hs_1_2, if_neg hs_1_3, if_neg hs_1_4, if_pos hs_1_5]
    exact hR.2.2.trans hW.m.2.2.1.symm
  by_cases hs_1_6 : w = (6 : Int32)
  · skip
    refine q_tab 106 dX5_count_1 rfl (sw_eq hs_1_6 rfl) rfl ?_
    refine q_aload_n 107 dX5_count_106 rfl rfl ?_
    refine q_getI 110 dX5_count_107 rfl fl_X5_312 (by decide) rfl (by decide) ?_
    refine q_iret dX5_count_110 ?_
    refine ⟨congrArg (fun x => some (Value.int x)) ?_, rfl⟩
    unfold aCount
    rw [if_neg hs_1_0, if_neg hs_1_1, if_neg hs_1_2, if_neg hs_1_3, if_neg hs_1_4, if_neg hs_1_5, if_pos hs_1_6]
  by_cases hs_1_7 : w = (7 : Int32)
  · skip
    refine q_tab 111 dX5_count_1 rfl (sw_eq hs_1_7 rfl) rfl ?_
    refine q_aload_n 112 dX5_count_111 rfl rfl ?_
    refine q_getI 115 dX5_count_112 rfl fl_X5_233 (by decide) rfl (by decide) ?_
    refine q_iret dX5_count_115 ?_
    refine ⟨congrArg (fun x => some (Value.int x)) ?_, rfl⟩
    unfold aCount
    rw [if_neg hs_1_0, if_neg hs_1_1, if_neg hs_1_2, if_neg hs_1_3, if_neg hs_1_4, if_neg hs_1_5, if_neg hs_1_6, if_pos hs_1_7]
  by_cases hs_1_8 : w = (8 : Int32)
  · skip
    refine q_tab 116 dX5_count_1 rfl (sw_eq hs_1_8 rfl) rfl ?_
    refine q_aload_n 117 dX5_count_116 rfl rfl ?_
    refine q_getR 120 dX5_count_117 rfl fl_X5_21 (by decide) rfl rfl ?_
    refine q_getI 123 dX5_count_120 rfl fl_X5_158 (by decide) rfl (by decide) ?_
    refine q_iret dX5_count_123 ?_
    refine ⟨congrArg (fun x => some (Value.int x)) ?_, rfl⟩
    unfold aCount
    rw [if_neg hs_1_0, if_neg hs_1_1, if_neg hs_1_2, if_neg hs_1_3, if_neg hs_1_4, if_neg hs_1_5, if_neg hs_1_6, if_neg hs_1_7, if_pos hs_1_8]
    exact hR.1.1.2.2.2.2.2
  refine q_tab 124 dX5_count_1 rfl (sw_def [0, 1, 2, 3, 4, 5, 6, 7, 8] (by decide) rfl (by simp only [List.mem_cons, List.not_mem_nil, or_false, not_or]; exact ⟨lv_neT hs_1_0 rfl, lv_neT hs_1_1 rfl, lv_neT hs_1_2 rfl, lv_neT hs_1_3 rfl, lv_neT hs_1_4 rfl, lv_neT hs_1_5 rfl, lv_neT hs_1_6 rfl, lv_neT hs_1_7 rfl, lv_neT hs_1_8 rfl⟩)) rfl ?_
  refine q_ldc 126 dX5_count_124 rfl cs_X5_73 ?_
  refine q_iret dX5_count_126 ?_
  refine ⟨congrArg (fun x => some (Value.int x)) ?_, rfl⟩
  unfold aCount
  rw [if_neg hs_1_0, if_neg hs_1_1, if_neg hs_1_2, if_neg hs_1_3, if_neg hs_1_4, if_neg hs_1_5, if_neg hs_1_6, if_neg hs_1_7, if_neg hs_1_8]
set_option maxRecDepth 100000 in
set_option maxHeartbeats 4000000 in
theorem c5_rest {g : GT} (M : TM) (l n : Int32) : Cn g yX5_rest cX5_rest 4 (some .int) 2 [.ref (gad g 5 0), .int l, .int n] M (Rt (.int (if isL l then aRest (M 2 (tn l) 1) (M 2 (tn l) 2) n else BADc)) M) := by
  refine Cn.ofTR (by decide +kernel) (Nat.le_of_ble_eq_true rfl) ?_
  refine q_iload_n 1 dX5_rest_0 rfl rfl ?_
  refine q_callSt 4 dX5_rest_1 rfl (c5_isSlot _ _) cw_X5_286 rfl rfl ⟨by decide, by decide⟩ ⟨by decide, by decide⟩ (Nat.le_of_ble_eq_true rfl) ?_
  refine q_if_ne 10 7 dX5_rest_4 rfl rfl (fun h_4 => ?_) (fun h_4 => ?_)
  · skip
    simp only [bI_0, Classical.not_not] at h_4
    obtain ⟨el, ll⟩ := rg_tn h_4 (n := 4) rfl
    have l5 : tn l < 5 := by omega
    refine q_aload_n 11 dX5_rest_10 rfl rfl ?_
    refine q_getR 14 dX5_rest_11 rfl fl_X5_50 (by decide) rfl rfl ?_
    refine q_iload_n 15 dX5_rest_14 rfl rfl ?_
    refine q_aald8 16 dX5_rest_15 rfl el l5 ?_
    refine q_astore_n 17 dX5_rest_16 rfl (by decide) rfl ?_
    refine q_aload_n 18 dX5_rest_17 rfl rfl ?_
    refine q_getI 21 dX5_rest_18 rfl fl_X5_289 l5 rfl (by decide) ?_
    refine q_if_ne 27 24 dX5_rest_21 rfl rfl (fun h_21 => ?_) (fun h_21 => ?_)
    · skip
      refine q_aload_n 28 dX5_rest_27 rfl rfl ?_
      refine q_getI 31 dX5_rest_28 rfl fl_X5_289 l5 rfl (by decide) ?_
      refine q_iconst (v := 3) 32 dX5_rest_31 rfl rfl ?_
      refine q_icmp_eq 38 35 dX5_rest_32 rfl rfl (fun h_32 => ?_) (fun h_32 => ?_)
      · skip
        refine q_iload_n 39 dX5_rest_38 rfl rfl ?_
        refine q_if_ne 48 42 dX5_rest_39 rfl rfl (fun h_39 => ?_) (fun h_39 => ?_)
        · skip
          refine q_aload_n 49 dX5_rest_48 rfl rfl ?_
          refine q_getI 52 dX5_rest_49 rfl fl_X5_302 l5 rfl (by decide) ?_
          refine q_iload_n 53 dX5_rest_52 rfl rfl ?_
          refine q_irem 54 dX5_rest_53 rfl h_39 ?_
          refine q_iret dX5_rest_54 ?_
          refine ⟨congrArg (fun x => some (Value.int x)) ?_, rfl⟩
          rw [if_pos h_4]
          unfold aRest
          rw [if_pos h_32]
          first | (have hq : ¬ n = 0 := h_39; rw [if_neg hq]; rfl) | (rw [if_pos h_39])
        · skip
          refine q_ldc_w 45 dX5_rest_42 rfl cs_X5_311 ?_
          refine q_goto 54 dX5_rest_45 rfl ?_
          refine q_iret dX5_rest_54 ?_
          refine ⟨congrArg (fun x => some (Value.int x)) ?_, rfl⟩
          rw [if_pos h_4]
          unfold aRest
          rw [if_pos h_32]
          first | (have hq : ¬ n = 0 := h_39; rw [if_neg hq]; rfl) | (rw [if_pos h_39])
      · skip
        refine q_ldc 37 dX5_rest_35 rfl cs_X5_119 ?_
        refine q_iret dX5_rest_37 ?_
        refine ⟨congrArg (fun x => some (Value.int x)) ?_, rfl⟩
        rw [if_pos h_4]
        unfold aRest
        rw [if_neg h_32, if_neg h_21]
    · skip
      refine q_ldc 26 dX5_rest_24 rfl cs_X5_218 ?_
      refine q_iret dX5_rest_26 ?_
      refine ⟨congrArg (fun x => some (Value.int x)) ?_, rfl⟩
      rw [if_pos h_4]
      unfold aRest
      rw [h_21]
      rfl
  · skip
    simp only [bI_0, Classical.not_not] at h_4
    refine q_ldc 9 dX5_rest_7 rfl cs_X5_73 ?_
    refine q_iret dX5_rest_9 ?_
    refine ⟨congrArg (fun x => some (Value.int x)) ?_, rfl⟩
    rw [if_neg h_4]
set_option maxRecDepth 100000 in
set_option maxHeartbeats 4000000 in
theorem c5_ask {g : GT} (M : TM) (l k : Int32) (hk : ∀ j, j < 5 → M 2 j 1 = 1 → rg (M 2 j 3) 0 5) : Cn g yX5_ask cX5_ask 4 (some .int) 3 [.ref (gad g 5 0), .int l, .int k] M (Rt (.int (if isL l ∧ (0 ≤ k ∧ k ≤ 5) then aAsk (M 2 (tn l) 1) (M 2 (tn l) 3) (woF (M 2 (tn l) 3) (M 2 (tn l) 4) (M 2 (tn l) 5)) k else BADc)) M) := by
  refine Cn.ofTR (by decide +kernel) (Nat.le_of_ble_eq_true rfl) ?_
  refine q_iload_n 1 dX5_ask_0 rfl rfl ?_
  refine q_callSt 4 dX5_ask_1 rfl (c5_isSlot _ _) cw_X5_286 rfl rfl ⟨by decide, by decide⟩ ⟨by decide, by decide⟩ (Nat.le_of_ble_eq_true rfl) ?_
  refine q_if_eq 14 7 dX5_ask_4 rfl rfl (fun h_4 => ?_) (fun h_4 => ?_)
  · skip
    simp only [bI_0, Classical.not_not] at h_4
    refine q_ldc 16 dX5_ask_14 rfl cs_X5_73 ?_
    refine q_iret dX5_ask_16 ?_
    refine ⟨congrArg (fun x => some (Value.int x)) ?_, rfl⟩
    rw [if_neg (fun q => by first | exact h_4 q.1 | exact h_11 q.2)]
  · skip
    simp only [bI_0, Classical.not_not] at h_4
    obtain ⟨el, ll⟩ := rg_tn h_4 (n := 4) rfl
    have l5 : tn l < 5 := by omega
    refine q_iload_n 8 dX5_ask_7 rfl rfl ?_
    refine q_callSt 11 dX5_ask_8 rfl (c5_isKind _ _) cw_X5_62 rfl rfl ⟨by decide, by decide⟩ ⟨by decide, by decide⟩ (Nat.le_of_ble_eq_true rfl) ?_
    refine q_if_ne 17 14 dX5_ask_11 rfl rfl (fun h_11 => ?_) (fun h_11 => ?_)
    · skip
      simp only [bI_0, Classical.not_not] at h_11
      refine q_aload_n 18 dX5_ask_17 rfl rfl ?_
      refine q_getR 21 dX5_ask_18 rfl fl_X5_50 (by decide) rfl rfl ?_
      refine q_iload_n 22 dX5_ask_21 rfl rfl ?_
      refine q_aald8 23 dX5_ask_22 rfl el l5 ?_
      refine q_astore_n 24 dX5_ask_23 rfl (by decide) rfl ?_
      refine q_aload_n 25 dX5_ask_24 rfl rfl ?_
      refine q_getI 28 dX5_ask_25 rfl fl_X5_289 l5 rfl (by decide) ?_
      refine q_if_ne 34 31 dX5_ask_28 rfl rfl (fun h_28 => ?_) (fun h_28 => ?_)
      · skip
        refine q_aload_n 35 dX5_ask_34 rfl rfl ?_
        refine q_getI 38 dX5_ask_35 rfl fl_X5_289 l5 rfl (by decide) ?_
        refine q_iconst (v := 1) 39 dX5_ask_38 rfl rfl ?_
        refine q_icmp_ne 53 42 dX5_ask_39 rfl rfl (fun h_39 => ?_) (fun h_39 => ?_)
        · skip
          refine q_ldc 55 dX5_ask_53 rfl cs_X5_119 ?_
          refine q_iret dX5_ask_55 ?_
          refine ⟨congrArg (fun x => some (Value.int x)) ?_, rfl⟩
          rw [if_pos ⟨h_4, h_11⟩]
          unfold aAsk
          rw [if_neg h_28, if_neg (fun q => by first | exact h_39 q.1 | exact h_50 q.2)]
        · skip
          obtain ⟨ek, lk⟩ := rg_nat (hk (tn l) l5 h_39) (n := 5) rfl
          refine q_aload_n 43 dX5_ask_42 rfl rfl ?_
          refine q_getI 46 dX5_ask_43 rfl fl_X5_305 l5 rfl (by decide) ?_
          refine q_iload_n 47 dX5_ask_46 rfl rfl ?_
          refine q_callSt 50 dX5_ask_47 rfl (c5_isOf _ _ _ _ ek (by omega)) cw_X5_115 rfl rfl ⟨by decide, by decide⟩ ⟨by decide, by decide⟩ (Nat.le_of_ble_eq_true rfl) ?_
          refine q_if_ne 56 53 dX5_ask_50 rfl rfl (fun h_50 => ?_) (fun h_50 => ?_)
          · skip
            simp only [bI_0, Classical.not_not] at h_50
            refine q_aload_n 57 dX5_ask_56 rfl rfl ?_
            refine q_getI 60 dX5_ask_57 rfl fl_X5_305 l5 rfl (by decide) ?_
            refine q_aload_n 61 dX5_ask_60 rfl rfl ?_
            refine q_getI 64 dX5_ask_61 rfl fl_X5_307 l5 rfl (by decide) ?_
            refine q_aload_n 65 dX5_ask_64 rfl rfl ?_
            refine q_getI 68 dX5_ask_65 rfl fl_X5_309 l5 rfl (by decide) ?_
            refine q_callSt 71 dX5_ask_68 rfl (c5_worthOf _ _ _ _) cw_X5_111 rfl rfl ⟨by decide, by decide⟩ ⟨by decide, by decide⟩ (Nat.le_of_ble_eq_true rfl) ?_
            refine q_iret dX5_ask_71 ?_
            refine ⟨congrArg (fun x => some (Value.int x)) ?_, rfl⟩
            rw [if_pos ⟨h_4, h_11⟩]
            unfold aAsk
            rw [if_neg h_28, if_pos ⟨h_39, h_50⟩]
          · skip
            simp only [bI_0, Classical.not_not] at h_50
            refine q_ldc 55 dX5_ask_53 rfl cs_X5_119 ?_
            refine q_iret dX5_ask_55 ?_
            refine ⟨congrArg (fun x => some (Value.int x)) ?_, rfl⟩
            rw [if_pos ⟨h_4, h_11⟩]
            unfold aAsk
            rw [if_neg h_28, if_neg (fun q => by first | exact h_39 q.1 | exact h_50 q.2)]
      · skip
        refine q_ldc 33 dX5_ask_31 rfl cs_X5_218 ?_
        refine q_iret dX5_ask_33 ?_
        refine ⟨congrArg (fun x => some (Value.int x)) ?_, rfl⟩
        rw [if_pos ⟨h_4, h_11⟩]
        unfold aAsk
        rw [if_pos h_28]
    · skip
      simp only [bI_0, Classical.not_not] at h_11
      refine q_ldc 16 dX5_ask_14 rfl cs_X5_73 ?_
      refine q_iret dX5_ask_16 ?_
      refine ⟨congrArg (fun x => some (Value.int x)) ?_, rfl⟩
      rw [if_neg (fun q => by first | exact h_4 q.1 | exact h_11 q.2)]
set_option maxRecDepth 100000 in
set_option maxHeartbeats 4000000 in
theorem c5_item {g : GT} (M : TM) (l i : Int32) (hz : ∀ j, j < 5 → M 2 j 1 = 2 → ∃ z, z ≤ 24 ∧ M 1 (j + 4) 2 = nI z) : Cn g yX5_item cX5_item 5 (some .int) 2 [.ref (gad g 5 0), .int l, .int i] M (Rt (.int (if isL l then aItem (M 2 (tn l) 1) (M 1 (tn l + 4) 2) (fun j => M 12 (tn l + 4) j) i else BADc)) M) := by
  refine Cn.ofTR (by decide +kernel) (Nat.le_of_ble_eq_true rfl) ?_
  refine q_iload_n 1 dX5_item_0 rfl rfl ?_
  refine q_callSt 4 dX5_item_1 rfl (c5_isSlot _ _) cw_X5_286 rfl rfl ⟨by decide, by decide⟩ ⟨by decide, by decide⟩ (Nat.le_of_ble_eq_true rfl) ?_
  refine q_if_ne 10 7 dX5_item_4 rfl rfl (fun h_4 => ?_) (fun h_4 => ?_)
  · skip
    simp only [bI_0, Classical.not_not] at h_4
    obtain ⟨el, ll⟩ := rg_tn h_4 (n := 4) rfl
    have l5 : tn l < 5 := by omega
    refine q_aload_n 11 dX5_item_10 rfl rfl ?_
    refine q_getR 14 dX5_item_11 rfl fl_X5_50 (by decide) rfl rfl ?_
    refine q_iload_n 15 dX5_item_14 rfl rfl ?_
    refine q_aald8 16 dX5_item_15 rfl el l5 ?_
    refine q_astore_n 17 dX5_item_16 rfl (by decide) rfl ?_
    refine q_aload_n 18 dX5_item_17 rfl rfl ?_
    refine q_getI 21 dX5_item_18 rfl fl_X5_289 l5 rfl (by decide) ?_
    refine q_if_ne 27 24 dX5_item_21 rfl rfl (fun h_21 => ?_) (fun h_21 => ?_)
    · skip
      refine q_aload_n 28 dX5_item_27 rfl rfl ?_
      refine q_getI 31 dX5_item_28 rfl fl_X5_289 l5 rfl (by decide) ?_
      refine q_iconst (v := 2) 32 dX5_item_31 rfl rfl ?_
      refine q_icmp_eq 38 35 dX5_item_32 rfl rfl (fun h_32 => ?_) (fun h_32 => ?_)
      · skip
        refine q_iload_n 39 dX5_item_38 rfl rfl ?_
        refine q_iconst (v := 0) 40 dX5_item_39 rfl rfl ?_
        refine q_aload_n 41 dX5_item_40 rfl rfl ?_
        refine q_getR 44 dX5_item_41 rfl fl_X5_296 l5 rfl rfl ?_
        refine q_getI 47 dX5_item_44 rfl fl_X5_263 (show tn l + 4 < 9 by omega) rfl (by decide) ?_
        refine q_iconst (v := 1) 48 dX5_item_47 rfl rfl ?_
        refine q_isub 49 dX5_item_48 rfl ?_
        refine q_callSt 52 dX5_item_49 rfl (c5_within _ _ _ _) cw_X5_66 rfl rfl ⟨by decide, by decide⟩ ⟨by decide, by decide⟩ (Nat.le_of_ble_eq_true rfl) ?_
        refine q_if_ne 59 55 dX5_item_52 rfl rfl (fun h_52 => ?_) (fun h_52 => ?_)
        · skip
          simp only [bI_0, Classical.not_not] at h_52
          obtain ⟨z, z24, ez⟩ := hz (tn l) l5 h_32
          have h52 := h_52
          rw [ez] at h52
          obtain ⟨ei, li⟩ := ix_nat z24 h52
          refine q_aload_n 60 dX5_item_59 rfl rfl ?_
          refine q_getR 63 dX5_item_60 rfl fl_X5_296 l5 rfl rfl ?_
          refine q_getR 66 dX5_item_63 rfl fl_X5_271 (show tn l + 4 < 9 by omega) rfl rfl ?_
          refine q_iload_n 67 dX5_item_66 rfl rfl ?_
          refine q_iald 68 dX5_item_67 rfl (by decide) (show tn l + 4 < 9 by omega) ei (show tn i < 24 by omega) ?_
          refine q_istore 70 dX5_item_68 rfl (by decide) rfl ?_
          refine q_iload 72 dX5_item_70 rfl rfl ?_
          refine q_ldc 74 dX5_item_72 rfl cs_X5_161 ?_
          refine q_icmp_ne 82 77 dX5_item_74 rfl rfl (fun h_74 => ?_) (fun h_74 => ?_)
          · skip
            refine q_iload 84 dX5_item_82 rfl rfl ?_
            refine q_iret dX5_item_84 ?_
            refine ⟨congrArg (fun x => some (Value.int x)) ?_, rfl⟩
            rw [if_pos h_4]
            unfold aItem
            rw [if_pos h_32, if_pos h_52]
            first | (have hq := h_74; rw [if_pos hq]; done) | (have hq := h_74; rw [if_neg hq]; done)
          · skip
            refine q_ldc 79 dX5_item_77 rfl cs_X5_119 ?_
            refine q_goto 84 dX5_item_79 rfl ?_
            refine q_iret dX5_item_84 ?_
            refine ⟨congrArg (fun x => some (Value.int x)) ?_, rfl⟩
            rw [if_pos h_4]
            unfold aItem
            rw [if_pos h_32, if_pos h_52]
            first | (have hq := h_74; rw [if_pos hq]; done) | (have hq := h_74; rw [if_neg hq]; done)
        · skip
          simp only [bI_0, Classical.not_not] at h_52
          refine q_ldc_w 58 dX5_item_55 rfl cs_X5_266 ?_
          refine q_iret dX5_item_58 ?_
          refine ⟨congrArg (fun x => some (Value.int x)) ?_, rfl⟩
          rw [if_pos h_4]
          unfold aItem
          rw [if_pos h_32, if_neg h_52]
      · skip
        refine q_ldc 37 dX5_item_35 rfl cs_X5_119 ?_
        refine q_iret dX5_item_37 ?_
        refine ⟨congrArg (fun x => some (Value.int x)) ?_, rfl⟩
        rw [if_pos h_4]
        unfold aItem
        rw [if_neg h_32, if_neg h_21]
    · skip
      refine q_ldc 26 dX5_item_24 rfl cs_X5_218 ?_
      refine q_iret dX5_item_26 ?_
      refine ⟨congrArg (fun x => some (Value.int x)) ?_, rfl⟩
      rw [if_pos h_4]
      unfold aItem
      rw [h_21]
      rfl
  · skip
    simp only [bI_0, Classical.not_not] at h_4
    refine q_ldc 9 dX5_item_7 rfl cs_X5_73 ?_
    refine q_iret dX5_item_9 ?_
    refine ⟨congrArg (fun x => some (Value.int x)) ?_, rfl⟩
    rw [if_neg h_4]
