/-! THE CLASS: check -/
theorem ckR_0 (wt : Nat → Int32) (I : SS) (w K : Nat) : ckR (ckQ w K wt I) w K 0 = if ckS wt I w K = w ∧ ckS wt I w K = 2 * K then 0 else 1 + nI (ckS wt I w K) := rfl
def wtM (M : TM) : TM := putA M 5 0 (upd (M 5 0) 11 0)
theorem ckK_eq {I : SS} (h : WF 9999 I) {n : Int32} (hn : 1 ≤ n ∧ n ≤ 30) : leF n (9999 - I 2) = nI (ckK I n) ∧ ckK I n ≤ 30 := by
  obtain ⟨sp, h1, h2⟩ := h.2.1
  obtain ⟨e, l⟩ := rg_tn (x := n) (hi := 30) (n := 30) ⟨Int32.le_trans (by decide) hn.1, hn.2⟩ rfl
  obtain ⟨j, hj, rfl⟩ : ∃ j, j ≤ 30 ∧ n = nI j := ⟨tn n, l, e⟩
  have e2 : tn (I 2) = sp := by unfold tn; rw [h2, nI_clamp (by omega)]
  have e3 : tn (nI j) = j := nI_clamp (by omega)
  unfold ckK
  rw [e2, e3, h2, show (9999 : Int32) = nI 9999 from rfl, pk_sub h1, leF_nI (by omega) (by omega)]
  exact ⟨rfl, by omega⟩
theorem nI_mul2 (k : Nat) : (2 : Int32) * nI k = nI (2 * k) := by
  show nI 2 * nI k = nI (2 * k)
  rw [pk_mul]
set_option maxRecDepth 100000 in
set_option maxHeartbeats 4000000 in
theorem c5_check {g : GT} (M : TM) (n : Int32) (w : Nat) (hw : M 5 0 11 = nI w) (h60 : w ≤ 60) (I : SS) (hI : ¬ M 5 0 4 = 0 → RW M 1 I ∧ WF 9999 I ∧ RT M I) : Cn g yX5_check cX5_check 5 (some .int) 6 [.ref (gad g 5 0), .int n] M (fun r M' => r = some (.int (aCheck (M 29 0) I w (M 5 0 4) n)) ∧ Kp 2 (wtM M) M') := by
  refine Cn.ofTR (by decide +kernel) (Nat.le_of_ble_eq_true rfl) ?_
  refine q_aload_n 1 dX5_check_0 rfl rfl ?_
  refine q_getI 4 dX5_check_1 rfl fl_X5_312 (by decide) rfl (by decide) ?_
  refine q_istore_n 5 dX5_check_4 rfl (by decide) rfl ?_
  refine q_aload_n 6 dX5_check_5 rfl rfl ?_
  refine q_iconst (v := 0) 7 dX5_check_6 rfl rfl ?_
  refine q_putI 10 dX5_check_7 rfl fl_X5_312 fp_5_11 (by decide) rfl (by decide) rfl rfl ?_
  refine q_iload_n 11 dX5_check_10 rfl rfl ?_
  refine q_iconst (v := 1) 12 dX5_check_11 rfl rfl ?_
  refine q_bipush (v := 30) 14 dX5_check_12 rfl rfl ?_
  refine q_callSt 17 dX5_check_14 rfl (c5_within _ _ _ _) cw_X5_66 rfl rfl ⟨by decide, by decide⟩ ⟨by decide, by decide⟩ (Nat.le_of_ble_eq_true rfl) ?_
  refine q_if_ne 23 20 dX5_check_17 rfl rfl (fun h_17 => ?_) (fun h_17 => ?_)
  · skip
    simp only [bI_0, Classical.not_not] at h_17
    refine q_aload_n 24 dX5_check_23 rfl rfl ?_
    refine q_getI 27 dX5_check_24 rfl fl_X5_315 (by decide) rfl (by decide) ?_
    refine q_if_ne 34 30 dX5_check_27 rfl rfl (fun h_27 => ?_) (fun h_27 => ?_)
    · skip
      have h4 : ¬ M 5 0 4 = 0 := h_27
      obtain ⟨hRI, hWI, hTI⟩ := hI h4
      have hR1 : RW (wtM M) 1 I := hRI
      refine q_aload_n 35 dX5_check_34 rfl rfl ?_
      refine q_getR 38 dX5_check_35 rfl fl_X5_28 (by decide) rfl rfl ?_
      refine q_aload_n 39 dX5_check_38 rfl rfl ?_
      refine q_getR 42 dX5_check_39 rfl fl_X5_25 (by decide) rfl rfl ?_
      refine q_callV 45 dX5_check_42 rfl (c4_become (wtM M) 2 1 (by decide) (by decide) (by decide)) cw_X5_195 (by decide) rfl rfl ⟨by decide, by decide⟩ ⟨by decide, by decide⟩ (Nat.le_of_ble_eq_true rfl) ?_
      rintro _ M2 ⟨rfl, hB⟩
      have hR2 := hB.rw' hR1
      have e14 : M2 4 2 14 = I 2 := hR2.1.1.2.2.2.2.1
      obtain ⟨ek, lk⟩ := ckK_eq hWI h_17
      have ed : 2 * miF n (9999 - M2 4 2 14) = nI (2 * ckK I n) := by rw [e14, miF_le, ek]; exact nI_mul2 _
      refine q_iconst (v := 2) 46 dX5_check_45 rfl rfl ?_
      refine q_iload_n 47 dX5_check_46 rfl rfl ?_
      refine q_sipush (v := 9999) 50 dX5_check_47 rfl rfl ?_
      refine q_aload_n 51 dX5_check_50 rfl rfl ?_
      refine q_getR 54 dX5_check_51 rfl fl_X5_28 (by decide) rfl rfl ?_
      refine q_getI 57 dX5_check_54 rfl fl_X5_179 (by decide) rfl (by decide) ?_
      refine q_isub 58 dX5_check_57 rfl ?_
      refine q_mmin 61 dX5_check_58 rfl cw_X5_149 ⟨by decide, by decide⟩ ⟨by decide, by decide⟩ (Nat.le_of_ble_eq_true rfl) ?_
      refine q_imul 62 dX5_check_61 rfl ?_
      refine q_istore_n 63 dX5_check_62 rfl (by decide) rfl ?_
      refine q_iconst (v := 0) 64 dX5_check_63 rfl rfl ?_
      refine q_istore 66 dX5_check_64 rfl (by decide) rfl ?_
      rw [ed, hw]
      refine TR_post (q_fg (l5_check (wtM M) n w (ckK I n) h60 lk I hWI.k hTI (2 * ckK I n + 1) 0 M2 _ hB.1 hR2 (by omega) (by omega) rfl) ⟨rfl, rfl, rfl, rfl, rfl, trivial⟩) ?_
      rintro _ _ ⟨rfl, hz⟩
      refine ⟨congrArg (fun x => some (Value.int x)) ?_, hz⟩
      rw [ckR_0]
      unfold aCheck
      rw [if_pos h_17, if_neg h4]
      rfl
    · skip
      refine q_ldc_w 33 dX5_check_30 rfl cs_X5_311 ?_
      refine q_iret dX5_check_33 ?_
      refine ⟨congrArg (fun x => some (Value.int x)) ?_, Kp.rf⟩
      unfold aCheck
      rw [if_pos h_17, if_pos (show M 5 0 4 = 0 from h_27)]
  · skip
    simp only [bI_0, Classical.not_not] at h_17
    refine q_ldc 22 dX5_check_20 rfl cs_X5_73 ?_
    refine q_iret dX5_check_22 ?_
    refine ⟨congrArg (fun x => some (Value.int x)) ?_, Kp.rf⟩
    unfold aCheck
    rw [if_neg h_17]
