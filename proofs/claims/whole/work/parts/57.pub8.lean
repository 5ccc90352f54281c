/-! THE CLASS: marks on sheets, copies, slots laid -/
theorem sh_16 (v : Int32) : v.toInt16.toInt32 = (v <<< ((16 : Int32) &&& 31)) >>> ((16 : Int32) &&& 31) := by
  apply Int32.toBitVec_inj.mp
  rw [show ((16 : Int32) &&& 31) = 16 from rfl, Int32.toBitVec_shiftRight, Int32.toBitVec_shiftLeft]
  show (v.toBitVec.signExtend 16).signExtend 32 = ((v.toBitVec <<< (16 : BitVec 32).smod 32).sshiftRight' ((16 : BitVec 32).smod 32))
  rw [show (16 : BitVec 32).smod 32 = 16#32 from rfl]
  apply BitVec.eq_of_getLsbD_eq
  intro i hi
  simp [BitVec.getLsbD_signExtend, BitVec.getLsbD_sshiftRight, BitVec.getLsbD_shiftLeft]
  by_cases h : i < 16
  · simp [h, hi, show 16 + i < 32 by omega, show ¬ 32 ≤ i by omega]
  · simp [h, hi, show ¬ 16 + i < 32 by omega, show ¬ 32 ≤ i by omega, BitVec.msb_eq_getLsbD_last, BitVec.getMsbD_eq_getLsbD, BitVec.getLsbD_signExtend]
    rw [BitVec.getElem_signExtend]
    simp
def mkM5 (M : TM) (k i v : Int32) : TM := if isS k ∧ cMark (M 1 (tn k) 1) (M 1 (tn k) 2) i v then putA M 12 (tn k) (upd (M 12 (tn k)) (tn i) (mkV (M 1 (tn k) 1) v)) else M
theorem mkM5_n {M : TM} {k i v : Int32} (h : ¬ (isS k ∧ cMark (M 1 (tn k) 1) (M 1 (tn k) 2) i v)) : M = mkM5 M k i v := (if_neg h).symm
set_option maxRecDepth 100000 in
set_option maxHeartbeats 4000000 in
theorem c5_mark {g : GT} (M : TM) (k i v : Int32) (hS : WS5 M) : Cn g yX5_mark cX5_mark 5 (some .int) 2 [.ref (gad g 5 0), .int k, .int i, .int v] M (fun r M' => r = some (.int (if isS k then aMark (M 1 (tn k) 1) (M 1 (tn k) 2) i v else BADc)) ∧ M' = mkM5 M k i v) := by
  refine Cn.ofTR (by decide +kernel) (Nat.le_of_ble_eq_true rfl) ?_
  refine q_iload_n 1 dX5_mark_0 rfl rfl ?_
  refine q_callSt 4 dX5_mark_1 rfl (c5_isSheet _ _) cw_X5_212 rfl rfl ⟨by decide, by decide⟩ ⟨by decide, by decide⟩ (Nat.le_of_ble_eq_true rfl) ?_
  refine q_if_ne 10 7 dX5_mark_4 rfl rfl (fun h_4 => ?_) (fun h_4 => ?_)
  · skip
    simp only [bI_0, Classical.not_not] at h_4
    obtain ⟨ek, lk⟩ := rg_tn h_4 (n := 3) rfl
    have k4 : tn k < 4 := by omega
    obtain ⟨hso, z, z24, ez⟩ := hS (tn k) k4
    refine q_aload_n 11 dX5_mark_10 rfl rfl ?_
    refine q_iload_n 12 dX5_mark_11 rfl rfl ?_
    refine q_callVt 15 dX5_mark_12 rfl (c5_isMissing _ _ (tn k) ek k4) cw_X5_215 (by decide) rfl rfl ⟨by decide, by decide⟩ ⟨by decide, by decide⟩ (Nat.le_of_ble_eq_true rfl) ?_
    refine q_if_eq 21 18 dX5_mark_15 rfl rfl (fun h_15 => ?_) (fun h_15 => ?_)
    · skip
      simp only [bI_0, Classical.not_not] at h_15
      rw [ms_iff hso] at h_15
      refine q_aload_n 22 dX5_mark_21 rfl rfl ?_
      refine q_getR 25 dX5_mark_22 rfl fl_X5_44 (by decide) rfl rfl ?_
      refine q_iload_n 26 dX5_mark_25 rfl rfl ?_
      refine q_aald7 27 dX5_mark_26 rfl ek k4 ?_
      refine q_astore 29 dX5_mark_27 rfl (by decide) rfl ?_
      refine q_iload_n 30 dX5_mark_29 rfl rfl ?_
      refine q_iconst (v := 0) 31 dX5_mark_30 rfl rfl ?_
      refine q_aload 33 dX5_mark_31 rfl rfl ?_
      refine q_getI 36 dX5_mark_33 rfl fl_X5_263 (show tn k < 9 by omega) rfl (by decide) ?_
      refine q_iconst (v := 1) 37 dX5_mark_36 rfl rfl ?_
      refine q_isub 38 dX5_mark_37 rfl ?_
      refine q_callSt 41 dX5_mark_38 rfl (c5_within _ _ _ _) cw_X5_66 rfl rfl ⟨by decide, by decide⟩ ⟨by decide, by decide⟩ (Nat.le_of_ble_eq_true rfl) ?_
      refine q_if_ne 48 44 dX5_mark_41 rfl rfl (fun h_41 => ?_) (fun h_41 => ?_)
      · skip
        simp only [bI_0, Classical.not_not] at h_41
        have h41 := h_41
        rw [ez] at h41
        obtain ⟨ei, li⟩ := ix_nat z24 h41
        refine q_aload 50 dX5_mark_48 rfl rfl ?_
        refine q_getI 53 dX5_mark_50 rfl fl_X5_267 (show tn k < 9 by omega) rfl (by decide) ?_
        refine q_if_ne 65 56 dX5_mark_53 rfl rfl (fun h_53 => ?_) (fun h_53 => ?_)
        · skip
          refine q_aload 67 dX5_mark_65 rfl rfl ?_
          refine q_getI 70 dX5_mark_67 rfl fl_X5_267 (show tn k < 9 by omega) rfl (by decide) ?_
          refine q_iconst (v := 1) 71 dX5_mark_70 rfl rfl ?_
          refine q_icmp_ne 95 74 dX5_mark_71 rfl rfl (fun h_71 => ?_) (fun h_71 => ?_)
          · skip
            refine q_aload 97 dX5_mark_95 rfl rfl ?_
            refine q_getR 100 dX5_mark_97 rfl fl_X5_271 (show tn k < 9 by omega) rfl rfl ?_
            refine q_iload_n 101 dX5_mark_100 rfl rfl ?_
            refine q_aload 103 dX5_mark_101 rfl rfl ?_
            refine q_getI 106 dX5_mark_103 rfl fl_X5_267 (show tn k < 9 by omega) rfl (by decide) ?_
            refine q_if_ne 114 109 dX5_mark_106 rfl rfl (fun h_106 => ?_) (fun h_106 => ?_)
            · skip
              refine q_iload_n 115 dX5_mark_114 rfl rfl ?_
              refine q_iast 116 dX5_mark_115 rfl (by decide) (show tn k < 9 by omega) ei (show tn i < 24 by omega) ?_
              refine q_iconst (v := 1) 117 dX5_mark_116 rfl rfl ?_
              refine q_iret dX5_mark_117 ?_
              have c3 : ¬ (M 1 (tn k) 1 = 0 ∧ v = NONEc) := fun q => by first | exact h_53 q.1 | exact h_59 q.2
              have c4 : ¬ (M 1 (tn k) 1 = 1 ∧ v ≠ NONEc ∧ ¬ (-99999 ≤ v ∧ v ≤ 99999)) := fun q => by first | exact h_71 q.1 | exact q.2.1 h_77 | exact q.2.2 h_89
              have cm : cMark (M 1 (tn k) 1) (M 1 (tn k) 2) i v := ⟨Int32.not_lt.mp h_15, h_41, c3, c4⟩
              unfold mkM5
              rw [if_pos h_4, aMark_ok cm, if_pos ⟨h_4, cm⟩]
              unfold mkV
              first | (have hq : ¬ M 1 (tn k) 1 = 0 := h_106; rw [if_neg hq]; exact ⟨rfl, rfl⟩) | (rw [if_pos h_106, ← sh_16]; exact ⟨rfl, rfl⟩)
            · skip
              refine q_iload_n 110 dX5_mark_109 rfl rfl ?_
              refine q_i2s 111 dX5_mark_110 rfl ?_
              refine q_goto 115 dX5_mark_111 rfl ?_
              refine q_iast 116 dX5_mark_115 rfl (by decide) (show tn k < 9 by omega) ei (show tn i < 24 by omega) ?_
              refine q_iconst (v := 1) 117 dX5_mark_116 rfl rfl ?_
              refine q_iret dX5_mark_117 ?_
              have c3 : ¬ (M 1 (tn k) 1 = 0 ∧ v = NONEc) := fun q => by first | exact h_53 q.1 | exact h_59 q.2
              have c4 : ¬ (M 1 (tn k) 1 = 1 ∧ v ≠ NONEc ∧ ¬ (-99999 ≤ v ∧ v ≤ 99999)) := fun q => by first | exact h_71 q.1 | exact q.2.1 h_77 | exact q.2.2 h_89
              have cm : cMark (M 1 (tn k) 1) (M 1 (tn k) 2) i v := ⟨Int32.not_lt.mp h_15, h_41, c3, c4⟩
              unfold mkM5
              rw [if_pos h_4, aMark_ok cm, if_pos ⟨h_4, cm⟩]
              unfold mkV
              first | (have hq : ¬ M 1 (tn k) 1 = 0 := h_106; rw [if_neg hq]; exact ⟨rfl, rfl⟩) | (rw [if_pos h_106, ← sh_16]; exact ⟨rfl, rfl⟩)
          · skip
            refine q_iload_n 75 dX5_mark_74 rfl rfl ?_
            refine q_ldc 77 dX5_mark_75 rfl cs_X5_161 ?_
            refine q_icmp_eq 95 80 dX5_mark_77 rfl rfl (fun h_77 => ?_) (fun h_77 => ?_)
            · skip
              refine q_aload 97 dX5_mark_95 rfl rfl ?_
              refine q_getR 100 dX5_mark_97 rfl fl_X5_271 (show tn k < 9 by omega) rfl rfl ?_
              refine q_iload_n 101 dX5_mark_100 rfl rfl ?_
              refine q_aload 103 dX5_mark_101 rfl rfl ?_
              refine q_getI 106 dX5_mark_103 rfl fl_X5_267 (show tn k < 9 by omega) rfl (by decide) ?_
              refine q_if_ne 114 109 dX5_mark_106 rfl rfl (fun h_106 => ?_) (fun h_106 => ?_)
              · skip
                refine q_iload_n 115 dX5_mark_114 rfl rfl ?_
                refine q_iast 116 dX5_mark_115 rfl (by decide) (show tn k < 9 by omega) ei (show tn i < 24 by omega) ?_
                refine q_iconst (v := 1) 117 dX5_mark_116 rfl rfl ?_
                refine q_iret dX5_mark_117 ?_
                have c3 : ¬ (M 1 (tn k) 1 = 0 ∧ v = NONEc) := fun q => by first | exact h_53 q.1 | exact h_59 q.2
                have c4 : ¬ (M 1 (tn k) 1 = 1 ∧ v ≠ NONEc ∧ ¬ (-99999 ≤ v ∧ v ≤ 99999)) := fun q => by first | exact h_71 q.1 | exact q.2.1 h_77 | exact q.2.2 h_89
                have cm : cMark (M 1 (tn k) 1) (M 1 (tn k) 2) i v := ⟨Int32.not_lt.mp h_15, h_41, c3, c4⟩
                unfold mkM5
                rw [if_pos h_4, aMark_ok cm, if_pos ⟨h_4, cm⟩]
                unfold mkV
                first | (have hq : ¬ M 1 (tn k) 1 = 0 := h_106; rw [if_neg hq]; exact ⟨rfl, rfl⟩) | (rw [if_pos h_106, ← sh_16]; exact ⟨rfl, rfl⟩)
              · skip
                refine q_iload_n 110 dX5_mark_109 rfl rfl ?_
                refine q_i2s 111 dX5_mark_110 rfl ?_
                refine q_goto 115 dX5_mark_111 rfl ?_
                refine q_iast 116 dX5_mark_115 rfl (by decide) (show tn k < 9 by omega) ei (show tn i < 24 by omega) ?_
                refine q_iconst (v := 1) 117 dX5_mark_116 rfl rfl ?_
                refine q_iret dX5_mark_117 ?_
                have c3 : ¬ (M 1 (tn k) 1 = 0 ∧ v = NONEc) := fun q => by first | exact h_53 q.1 | exact h_59 q.2
                have c4 : ¬ (M 1 (tn k) 1 = 1 ∧ v ≠ NONEc ∧ ¬ (-99999 ≤ v ∧ v ≤ 99999)) := fun q => by first | exact h_71 q.1 | exact q.2.1 h_77 | exact q.2.2 h_89
                have cm : cMark (M 1 (tn k) 1) (M 1 (tn k) 2) i v := ⟨Int32.not_lt.mp h_15, h_41, c3, c4⟩
                unfold mkM5
                rw [if_pos h_4, aMark_ok cm, if_pos ⟨h_4, cm⟩]
                unfold mkV
                first | (have hq : ¬ M 1 (tn k) 1 = 0 := h_106; rw [if_neg hq]; exact ⟨rfl, rfl⟩) | (rw [if_pos h_106, ← sh_16]; exact ⟨rfl, rfl⟩)
            · skip
              refine q_iload_n 81 dX5_mark_80 rfl rfl ?_
              refine q_ldc_w 84 dX5_mark_81 rfl cs_X5_270 ?_
              refine q_ldc 86 dX5_mark_84 rfl cs_X5_208 ?_
              refine q_callSt 89 dX5_mark_86 rfl (c5_within _ _ _ _) cw_X5_66 rfl rfl ⟨by decide, by decide⟩ ⟨by decide, by decide⟩ (Nat.le_of_ble_eq_true rfl) ?_
              refine q_if_ne 95 92 dX5_mark_89 rfl rfl (fun h_89 => ?_) (fun h_89 => ?_)
              · skip
                simp only [bI_0, Classical.not_not] at h_89
                refine q_aload 97 dX5_mark_95 rfl rfl ?_
                refine q_getR 100 dX5_mark_97 rfl fl_X5_271 (show tn k < 9 by omega) rfl rfl ?_
                refine q_iload_n 101 dX5_mark_100 rfl rfl ?_
                refine q_aload 103 dX5_mark_101 rfl rfl ?_
                refine q_getI 106 dX5_mark_103 rfl fl_X5_267 (show tn k < 9 by omega) rfl (by decide) ?_
                refine q_if_ne 114 109 dX5_mark_106 rfl rfl (fun h_106 => ?_) (fun h_106 => ?_)
                · skip
                  refine q_iload_n 115 dX5_mark_114 rfl rfl ?_
                  refine q_iast 116 dX5_mark_115 rfl (by decide) (show tn k < 9 by omega) ei (show tn i < 24 by omega) ?_
                  refine q_iconst (v := 1) 117 dX5_mark_116 rfl rfl ?_
                  refine q_iret dX5_mark_117 ?_
                  have c3 : ¬ (M 1 (tn k) 1 = 0 ∧ v = NONEc) := fun q => by first | exact h_53 q.1 | exact h_59 q.2
                  have c4 : ¬ (M 1 (tn k) 1 = 1 ∧ v ≠ NONEc ∧ ¬ (-99999 ≤ v ∧ v ≤ 99999)) := fun q => by first | exact h_71 q.1 | exact q.2.1 h_77 | exact q.2.2 h_89
                  have cm : cMark (M 1 (tn k) 1) (M 1 (tn k) 2) i v := ⟨Int32.not_lt.mp h_15, h_41, c3, c4⟩
                  unfold mkM5
                  rw [if_pos h_4, aMark_ok cm, if_pos ⟨h_4, cm⟩]
                  unfold mkV
                  first | (have hq : ¬ M 1 (tn k) 1 = 0 := h_106; rw [if_neg hq]; exact ⟨rfl, rfl⟩) | (rw [if_pos h_106, ← sh_16]; exact ⟨rfl, rfl⟩)
                · skip
                  refine q_iload_n 110 dX5_mark_109 rfl rfl ?_
                  refine q_i2s 111 dX5_mark_110 rfl ?_
                  refine q_goto 115 dX5_mark_111 rfl ?_
                  refine q_iast 116 dX5_mark_115 rfl (by decide) (show tn k < 9 by omega) ei (show tn i < 24 by omega) ?_
                  refine q_iconst (v := 1) 117 dX5_mark_116 rfl rfl ?_
                  refine q_iret dX5_mark_117 ?_
                  have c3 : ¬ (M 1 (tn k) 1 = 0 ∧ v = NONEc) := fun q => by first | exact h_53 q.1 | exact h_59 q.2
                  have c4 : ¬ (M 1 (tn k) 1 = 1 ∧ v ≠ NONEc ∧ ¬ (-99999 ≤ v ∧ v ≤ 99999)) := fun q => by first | exact h_71 q.1 | exact q.2.1 h_77 | exact q.2.2 h_89
                  have cm : cMark (M 1 (tn k) 1) (M 1 (tn k) 2) i v := ⟨Int32.not_lt.mp h_15, h_41, c3, c4⟩
                  unfold mkM5
                  rw [if_pos h_4, aMark_ok cm, if_pos ⟨h_4, cm⟩]
                  unfold mkV
                  first | (have hq : ¬ M 1 (tn k) 1 = 0 := h_106; rw [if_neg hq]; exact ⟨rfl, rfl⟩) | (rw [if_pos h_106, ← sh_16]; exact ⟨rfl, rfl⟩)
              · skip
                simp only [bI_0, Classical.not_not] at h_89
                refine q_ldc 94 dX5_mark_92 rfl cs_X5_73 ?_
                refine q_iret dX5_mark_94 ?_
                have c3 : ¬ (M 1 (tn k) 1 = 0 ∧ v = NONEc) := fun q => by first | exact h_53 q.1 | exact h_59 q.2
                refine ⟨congrArg (fun x => some (Value.int x)) ?_, mkM5_n (fun q => q.2.2.2.2 ⟨h_71, h_77, h_89⟩)⟩
                rw [if_pos h_4]
                unfold aMark
                rw [if_neg h_15, if_neg (fun z => z h_41), if_neg c3, if_pos ⟨h_71, h_77, h_89⟩]
        · skip
          refine q_iload_n 57 dX5_mark_56 rfl rfl ?_
          refine q_ldc 59 dX5_mark_57 rfl cs_X5_161 ?_
          refine q_icmp_ne 65 62 dX5_mark_59 rfl rfl (fun h_59 => ?_) (fun h_59 => ?_)
          · skip
            refine q_aload 67 dX5_mark_65 rfl rfl ?_
            refine q_getI 70 dX5_mark_67 rfl fl_X5_267 (show tn k < 9 by omega) rfl (by decide) ?_
            refine q_iconst (v := 1) 71 dX5_mark_70 rfl rfl ?_
            refine q_icmp_ne 95 74 dX5_mark_71 rfl rfl (fun h_71 => ?_) (fun h_71 => ?_)
            · skip
              refine q_aload 97 dX5_mark_95 rfl rfl ?_
              refine q_getR 100 dX5_mark_97 rfl fl_X5_271 (show tn k < 9 by omega) rfl rfl ?_
              refine q_iload_n 101 dX5_mark_100 rfl rfl ?_
              refine q_aload 103 dX5_mark_101 rfl rfl ?_
              refine q_getI 106 dX5_mark_103 rfl fl_X5_267 (show tn k < 9 by omega) rfl (by decide) ?_
              refine q_if_ne 114 109 dX5_mark_106 rfl rfl (fun h_106 => ?_) (fun h_106 => ?_)
              · skip
                refine q_iload_n 115 dX5_mark_114 rfl rfl ?_
                refine q_iast 116 dX5_mark_115 rfl (by decide) (show tn k < 9 by omega) ei (show tn i < 24 by omega) ?_
                refine q_iconst (v := 1) 117 dX5_mark_116 rfl rfl ?_
                refine q_iret dX5_mark_117 ?_
                have c3 : ¬ (M 1 (tn k) 1 = 0 ∧ v = NONEc) := fun q => by first | exact h_53 q.1 | exact h_59 q.2
                have c4 : ¬ (M 1 (tn k) 1 = 1 ∧ v ≠ NONEc ∧ ¬ (-99999 ≤ v ∧ v ≤ 99999)) := fun q => by first | exact h_71 q.1 | exact q.2.1 h_77 | exact q.2.2 h_89
                have cm : cMark (M 1 (tn k) 1) (M 1 (tn k) 2) i v := ⟨Int32.not_lt.mp h_15, h_41, c3, c4⟩
                unfold mkM5
                rw [if_pos h_4, aMark_ok cm, if_pos ⟨h_4, cm⟩]
                unfold mkV
                first | (have hq : ¬ M 1 (tn k) 1 = 0 := h_106; rw [if_neg hq]; exact ⟨rfl, rfl⟩) | (rw [if_pos h_106, ← sh_16]; exact ⟨rfl, rfl⟩)
              · skip
                refine q_iload_n 110 dX5_mark_109 rfl rfl ?_
                refine q_i2s 111 dX5_mark_110 rfl ?_
                refine q_goto 115 dX5_mark_111 rfl ?_
                refine q_iast 116 dX5_mark_115 rfl (by decide) (show tn k < 9 by omega) ei (show tn i < 24 by omega) ?_
                refine q_iconst (v := 1) 117 dX5_mark_116 rfl rfl ?_
                refine q_iret dX5_mark_117 ?_
                have c3 : ¬ (M 1 (tn k) 1 = 0 ∧ v = NONEc) := fun q => by first | exact h_53 q.1 | exact h_59 q.2
                have c4 : ¬ (M 1 (tn k) 1 = 1 ∧ v ≠ NONEc ∧ ¬ (-99999 ≤ v ∧ v ≤ 99999)) := fun q => by first | exact h_71 q.1 | exact q.2.1 h_77 | exact q.2.2 h_89
                have cm : cMark (M 1 (tn k) 1) (M 1 (tn k) 2) i v := ⟨Int32.not_lt.mp h_15, h_41, c3, c4⟩
                unfold mkM5
                rw [if_pos h_4, aMark_ok cm, if_pos ⟨h_4, cm⟩]
                unfold mkV
                first | (have hq : ¬ M 1 (tn k) 1 = 0 := h_106; rw [if_neg hq]; exact ⟨rfl, rfl⟩) | (rw [if_pos h_106, ← sh_16]; exact ⟨rfl, rfl⟩)
            · skip
              refine q_iload_n 75 dX5_mark_74 rfl rfl ?_
              refine q_ldc 77 dX5_mark_75 rfl cs_X5_161 ?_
              refine q_icmp_eq 95 80 dX5_mark_77 rfl rfl (fun h_77 => ?_) (fun h_77 => ?_)
              · skip
                refine q_aload 97 dX5_mark_95 rfl rfl ?_
                refine q_getR 100 dX5_mark_97 rfl fl_X5_271 (show tn k < 9 by omega) rfl rfl ?_
                refine q_iload_n 101 dX5_mark_100 rfl rfl ?_
                refine q_aload 103 dX5_mark_101 rfl rfl ?_
                refine q_getI 106 dX5_mark_103 rfl fl_X5_267 (show tn k < 9 by omega) rfl (by decide) ?_
                refine q_if_ne 114 109 dX5_mark_106 rfl rfl (fun h_106 => ?_) (fun h_106 => ?_)
                · skip
                  refine q_iload_n 115 dX5_mark_114 rfl rfl ?_
                  refine q_iast 116 dX5_mark_115 rfl (by decide) (show tn k < 9 by omega) ei (show tn i < 24 by omega) ?_
                  refine q_iconst (v := 1) 117 dX5_mark_116 rfl rfl ?_
                  refine q_iret dX5_mark_117 ?_
                  have c3 : ¬ (M 1 (tn k) 1 = 0 ∧ v = NONEc) := fun q => by first | exact h_53 q.1 | exact h_59 q.2
                  have c4 : ¬ (M 1 (tn k) 1 = 1 ∧ v ≠ NONEc ∧ ¬ (-99999 ≤ v ∧ v ≤ 99999)) := fun q => by first | exact h_71 q.1 | exact q.2.1 h_77 | exact q.2.2 h_89
                  have cm : cMark (M 1 (tn k) 1) (M 1 (tn k) 2) i v := ⟨Int32.not_lt.mp h_15, h_41, c3, c4⟩
                  unfold mkM5
                  rw [if_pos h_4, aMark_ok cm, if_pos ⟨h_4, cm⟩]
                  unfold mkV
                  first | (have hq : ¬ M 1 (tn k) 1 = 0 := h_106; rw [if_neg hq]; exact ⟨rfl, rfl⟩) | (rw [if_pos h_106, ← sh_16]; exact ⟨rfl, rfl⟩)
                · skip
                  refine q_iload_n 110 dX5_mark_109 rfl rfl ?_
                  refine q_i2s 111 dX5_mark_110 rfl ?_
                  refine q_goto 115 dX5_mark_111 rfl ?_
                  refine q_iast 116 dX5_mark_115 rfl (by decide) (show tn k < 9 by omega) ei (show tn i < 24 by omega) ?_
                  refine q_iconst (v := 1) 117 dX5_mark_116 rfl rfl ?_
                  refine q_iret dX5_mark_117 ?_
                  have c3 : ¬ (M 1 (tn k) 1 = 0 ∧ v = NONEc) := fun q => by first | exact h_53 q.1 | exact h_59 q.2
                  have c4 : ¬ (M 1 (tn k) 1 = 1 ∧ v ≠ NONEc ∧ ¬ (-99999 ≤ v ∧ v ≤ 99999)) := fun q => by first | exact h_71 q.1 | exact q.2.1 h_77 | exact q.2.2 h_89
                  have cm : cMark (M 1 (tn k) 1) (M 1 (tn k) 2) i v := ⟨Int32.not_lt.mp h_15, h_41, c3, c4⟩
                  unfold mkM5
                  rw [if_pos h_4, aMark_ok cm, if_pos ⟨h_4, cm⟩]
                  unfold mkV
                  first | (have hq : ¬ M 1 (tn k) 1 = 0 := h_106; rw [if_neg hq]; exact ⟨rfl, rfl⟩) | (rw [if_pos h_106, ← sh_16]; exact ⟨rfl, rfl⟩)
              · skip
                refine q_iload_n 81 dX5_mark_80 rfl rfl ?_
                refine q_ldc_w 84 dX5_mark_81 rfl cs_X5_270 ?_
                refine q_ldc 86 dX5_mark_84 rfl cs_X5_208 ?_
                refine q_callSt 89 dX5_mark_86 rfl (c5_within _ _ _ _) cw_X5_66 rfl rfl ⟨by decide, by decide⟩ ⟨by decide, by decide⟩ (Nat.le_of_ble_eq_true rfl) ?_
                refine q_if_ne 95 92 dX5_mark_89 rfl rfl (fun h_89 => ?_) (fun h_89 => ?_)
                · skip
                  simp only [bI_0, Classical.not_not] at h_89
                  refine q_aload 97 dX5_mark_95 rfl rfl ?_
                  refine q_getR 100 dX5_mark_97 rfl fl_X5_271 (show tn k < 9 by omega) rfl rfl ?_
                  refine q_iload_n 101 dX5_mark_100 rfl rfl ?_
                  refine q_aload 103 dX5_mark_101 rfl rfl ?_
                  refine q_getI 106 dX5_mark_103 rfl fl_X5_267 (show tn k < 9 by omega) rfl (by decide) ?_
                  refine q_if_ne 114 109 dX5_mark_106 rfl rfl (fun h_106 => ?_) (fun h_106 => ?_)
                  · skip
                    refine q_iload_n 115 dX5_mark_114 rfl rfl ?_
                    refine q_iast 116 dX5_mark_115 rfl (by decide) (show tn k < 9 by omega) ei (show tn i < 24 by omega) ?_
                    refine q_iconst (v := 1) 117 dX5_mark_116 rfl rfl ?_
                    refine q_iret dX5_mark_117 ?_
                    have c3 : ¬ (M 1 (tn k) 1 = 0 ∧ v = NONEc) := fun q => by first | exact h_53 q.1 | exact h_59 q.2
                    have c4 : ¬ (M 1 (tn k) 1 = 1 ∧ v ≠ NONEc ∧ ¬ (-99999 ≤ v ∧ v ≤ 99999)) := fun q => by first | exact h_71 q.1 | exact q.2.1 h_77 | exact q.2.2 h_89
                    have cm : cMark (M 1 (tn k) 1) (M 1 (tn k) 2) i v := ⟨Int32.not_lt.mp h_15, h_41, c3, c4⟩
                    unfold mkM5
                    rw [if_pos h_4, aMark_ok cm, if_pos ⟨h_4, cm⟩]
                    unfold mkV
                    first | (have hq : ¬ M 1 (tn k) 1 = 0 := h_106; rw [if_neg hq]; exact ⟨rfl, rfl⟩) | (rw [if_pos h_106, ← sh_16]; exact ⟨rfl, rfl⟩)
                  · skip
                    refine q_iload_n 110 dX5_mark_109 rfl rfl ?_
                    refine q_i2s 111 dX5_mark_110 rfl ?_
                    refine q_goto 115 dX5_mark_111 rfl ?_
                    refine q_iast 116 dX5_mark_115 rfl (by decide) (show tn k < 9 by omega) ei (show tn i < 24 by omega) ?_
                    refine q_iconst (v := 1) 117 dX5_mark_116 rfl rfl ?_
                    refine q_iret dX5_mark_117 ?_
                    have c3 : ¬ (M 1 (tn k) 1 = 0 ∧ v = NONEc) := fun q => by first | exact h_53 q.1 | exact h_59 q.2
                    have c4 : ¬ (M 1 (tn k) 1 = 1 ∧ v ≠ NONEc ∧ ¬ (-99999 ≤ v ∧ v ≤ 99999)) := fun q => by first | exact h_71 q.1 | exact q.2.1 h_77 | exact q.2.2 h_89
                    have cm : cMark (M 1 (tn k) 1) (M 1 (tn k) 2) i v := ⟨Int32.not_lt.mp h_15, h_41, c3, c4⟩
                    unfold mkM5
                    rw [if_pos h_4, aMark_ok cm, if_pos ⟨h_4, cm⟩]
                    unfold mkV
                    first | (have hq : ¬ M 1 (tn k) 1 = 0 := h_106; rw [if_neg hq]; exact ⟨rfl, rfl⟩) | (rw [if_pos h_106, ← sh_16]; exact ⟨rfl, rfl⟩)
                · skip
                  simp only [bI_0, Classical.not_not] at h_89
                  refine q_ldc 94 dX5_mark_92 rfl cs_X5_73 ?_
                  refine q_iret dX5_mark_94 ?_
                  have c3 : ¬ (M 1 (tn k) 1 = 0 ∧ v = NONEc) := fun q => by first | exact h_53 q.1 | exact h_59 q.2
                  refine ⟨congrArg (fun x => some (Value.int x)) ?_, mkM5_n (fun q => q.2.2.2.2 ⟨h_71, h_77, h_89⟩)⟩
                  rw [if_pos h_4]
                  unfold aMark
                  rw [if_neg h_15, if_neg (fun z => z h_41), if_neg c3, if_pos ⟨h_71, h_77, h_89⟩]
          · skip
            refine q_ldc 64 dX5_mark_62 rfl cs_X5_119 ?_
            refine q_iret dX5_mark_64 ?_
            refine ⟨congrArg (fun x => some (Value.int x)) ?_, mkM5_n (fun q => q.2.2.2.1 ⟨h_53, h_59⟩)⟩
            rw [if_pos h_4]
            unfold aMark
            rw [if_neg h_15, if_neg (fun z => z h_41), if_pos ⟨h_53, h_59⟩]
      · skip
        simp only [bI_0, Classical.not_not] at h_41
        refine q_ldc_w 47 dX5_mark_44 rfl cs_X5_266 ?_
        refine q_iret dX5_mark_47 ?_
        refine ⟨congrArg (fun x => some (Value.int x)) ?_, mkM5_n (fun q => h_41 q.2.2.1)⟩
        rw [if_pos h_4]
        unfold aMark
        rw [if_neg h_15, if_pos h_41]
    · skip
      simp only [bI_0, Classical.not_not] at h_15
      rw [ms_iff hso] at h_15
      refine q_ldc 20 dX5_mark_18 rfl cs_X5_218 ?_
      refine q_iret dX5_mark_20 ?_
      refine ⟨congrArg (fun x => some (Value.int x)) ?_, mkM5_n (fun q => absurd q.2.1 (Int32.not_le.mpr h_15))⟩
      rw [if_pos h_4]
      unfold aMark
      rw [if_pos h_15]
  · skip
    simp only [bI_0, Classical.not_not] at h_4
    refine q_ldc 9 dX5_mark_7 rfl cs_X5_73 ?_
    refine q_iret dX5_mark_9 ?_
    unfold mkM5
    rw [if_neg h_4, if_neg (fun q => h_4 q.1)]
    exact ⟨rfl, rfl⟩
set_option maxRecDepth 100000 in
set_option maxHeartbeats 4000000 in
theorem l5_reads {g : GT} (M : TM) (x : Int32) (k z : Nat) (k4 : k < 4) (z24 : z ≤ 24) (ez : M 1 k 2 = nI z) (s : SS) (hR : RW M 0 s) (hn10 : nN s ≤ 10) : ∀ (j : Nat) (i : Nat) (y : Int32), z - i < j → i ≤ z → y = nI i → TR g (rmD 2) RX5 cX5_reads 4 (some .int) 0 0 (Zm g (Rt (.int (rdF (M 12 k) s (nN s) (z - i) i)) M)) 30 [some (.ref (gad g 5 0)), some (.int x), some (.ref (gad g 1 k)), some (.int y)] [] M := by
  intro j
  induction j with
  | zero => intro i y hj hi hy; exact absurd hj (by omega)
  | succ j ih =>
    intro i y hj hi hy
    subst hy
    have h11 := hR.1.2.1.1
    refine q_iload_n 31 dX5_reads_30 rfl rfl ?_
    refine q_aload_n 32 dX5_reads_31 rfl rfl ?_
    refine q_getI 35 dX5_reads_32 rfl fl_X5_263 (show k < 9 by omega) rfl (by decide) ?_
    refine q_icmp_ge 86 38 dX5_reads_35 rfl rfl (fun h_35 => ?_) (fun h_35 => ?_)
    · skip
      rw [ez, nI_leI (by omega) (by omega)] at h_35
      refine q_ldc 88 dX5_reads_86 rfl cs_X5_161 ?_
      refine q_iret dX5_reads_88 ?_
      refine ⟨congrArg (fun x => some (Value.int x)) ?_, rfl⟩
      rw [show z - i = 0 by omega]
      rfl
    · skip
      rw [ez, nI_leI (by omega) (by omega)] at h_35
      refine q_aload_n 39 dX5_reads_38 rfl rfl ?_
      refine q_getR 42 dX5_reads_39 rfl fl_X5_271 (show k < 9 by omega) rfl rfl ?_
      refine q_iload_n 43 dX5_reads_42 rfl rfl ?_
      refine q_iald 44 dX5_reads_43 rfl (by decide) (show k < 9 by omega) rfl (show i < 24 by omega) ?_
      refine q_ldc 46 dX5_reads_44 rfl cs_X5_161 ?_
      refine q_icmp_eq 80 49 dX5_reads_46 rfl rfl (fun h_46 => ?_) (fun h_46 => ?_)
      · skip
        refine q_iinc 83 dX5_reads_80 rfl rfl (by decide) rfl (nI_1 i) ?_
        refine q_goto 30 dX5_reads_83 rfl ?_
        rw [show z - i = (z - (i + 1)) + 1 by omega, rdF, if_neg (fun q => by first | exact q.1 h_46 | exact q.2.elim h_57 (fun c => c h_75))]
        exact q_fg (ih (i + 1) _ (by omega) (by omega) rfl) ⟨rfl, rfl, rfl, rfl, trivial⟩
      · skip
        refine q_iload_n 50 dX5_reads_49 rfl rfl ?_
        refine q_aload_n 51 dX5_reads_50 rfl rfl ?_
        refine q_getR 54 dX5_reads_51 rfl fl_X5_21 (by decide) rfl rfl ?_
        refine q_getI 57 dX5_reads_54 rfl fl_X5_74 (by decide) rfl (by decide) ?_
        refine q_icmp_ge 78 60 dX5_reads_57 rfl rfl (fun h_57 => ?_) (fun h_57 => ?_)
        · skip
          rw [h11, nI_leI (by omega) (by omega)] at h_57
          refine q_iload_n 79 dX5_reads_78 rfl rfl ?_
          refine q_iret dX5_reads_79 ?_
          refine ⟨congrArg (fun x => some (Value.int x)) ?_, rfl⟩
          rw [show z - i = (z - (i + 1)) + 1 by omega, rdF]
          first | (have hq := h_75; exact (if_pos ⟨h_46, Or.inr hq⟩).symm) | exact (if_pos ⟨h_46, Or.inl h_57⟩).symm
        · skip
          rw [h11, nI_leI (by omega) (by omega)] at h_57
          refine q_aload_n 61 dX5_reads_60 rfl rfl ?_
          refine q_getR 64 dX5_reads_61 rfl fl_X5_271 (show k < 9 by omega) rfl rfl ?_
          refine q_iload_n 65 dX5_reads_64 rfl rfl ?_
          refine q_iald 66 dX5_reads_65 rfl (by decide) (show k < 9 by omega) rfl (show i < 24 by omega) ?_
          refine q_aload_n 67 dX5_reads_66 rfl rfl ?_
          refine q_getR 70 dX5_reads_67 rfl fl_X5_21 (by decide) rfl rfl ?_
          refine q_getR 73 dX5_reads_70 rfl fl_X5_95 (by decide) rfl rfl ?_
          refine q_iload_n 74 dX5_reads_73 rfl rfl ?_
          refine q_iald 75 dX5_reads_74 rfl (by decide) (by decide) rfl (show i < 10 by omega) ?_
          refine q_icmp_eq 80 78 dX5_reads_75 rfl rfl (fun h_75 => ?_) (fun h_75 => ?_)
          · skip
            rw [show M 24 0 i = mk s i 3 from (hR.1.2.2 i (by omega)).2.2.2.2.1] at h_75
            refine q_iinc 83 dX5_reads_80 rfl rfl (by decide) rfl (nI_1 i) ?_
            refine q_goto 30 dX5_reads_83 rfl ?_
            rw [show z - i = (z - (i + 1)) + 1 by omega, rdF, if_neg (fun q => by first | exact q.1 h_46 | exact q.2.elim h_57 (fun c => c h_75))]
            exact q_fg (ih (i + 1) _ (by omega) (by omega) rfl) ⟨rfl, rfl, rfl, rfl, trivial⟩
          · skip
            rw [show M 24 0 i = mk s i 3 from (hR.1.2.2 i (by omega)).2.2.2.2.1] at h_75
            refine q_iload_n 79 dX5_reads_78 rfl rfl ?_
            refine q_iret dX5_reads_79 ?_
            refine ⟨congrArg (fun x => some (Value.int x)) ?_, rfl⟩
            rw [show z - i = (z - (i + 1)) + 1 by omega, rdF]
            first | (have hq := h_75; exact (if_pos ⟨h_46, Or.inr hq⟩).symm) | exact (if_pos ⟨h_46, Or.inl h_57⟩).symm
set_option maxRecDepth 100000 in
set_option maxHeartbeats 4000000 in
theorem c5_reads {g : GT} (M : TM) (k : Int32) (hS : WS5 M) (s : SS) (hR : RW M 0 s) (hW : WF 9999 s) (hT : RT M s) : Cn g yX5_reads cX5_reads 4 (some .int) 2 [.ref (gad g 5 0), .int k] M (Rt (.int (if isS k then aReads (M 1 (tn k) 1) (tn (M 1 (tn k) 2)) (M 12 (tn k)) s else BADc)) M) := by
  refine Cn.ofTR (by decide +kernel) (Nat.le_of_ble_eq_true rfl) ?_
  refine q_iload_n 1 dX5_reads_0 rfl rfl ?_
  refine q_callSt 4 dX5_reads_1 rfl (c5_isSheet _ _) cw_X5_212 rfl rfl ⟨by decide, by decide⟩ ⟨by decide, by decide⟩ (Nat.le_of_ble_eq_true rfl) ?_
  refine q_if_ne 10 7 dX5_reads_4 rfl rfl (fun h_4 => ?_) (fun h_4 => ?_)
  · skip
    simp only [bI_0, Classical.not_not] at h_4
    obtain ⟨ek, lk⟩ := rg_tn h_4 (n := 3) rfl
    have k4 : tn k < 4 := by omega
    obtain ⟨hso, z, z24, ez⟩ := hS (tn k) k4
    refine q_aload_n 11 dX5_reads_10 rfl rfl ?_
    refine q_iload_n 12 dX5_reads_11 rfl rfl ?_
    refine q_callVt 15 dX5_reads_12 rfl (c5_isMissing _ _ (tn k) ek k4) cw_X5_215 (by decide) rfl rfl ⟨by decide, by decide⟩ ⟨by decide, by decide⟩ (Nat.le_of_ble_eq_true rfl) ?_
    refine q_if_eq 21 18 dX5_reads_15 rfl rfl (fun h_15 => ?_) (fun h_15 => ?_)
    · skip
      simp only [bI_0, Classical.not_not] at h_15
      rw [ms_iff hso] at h_15
      refine q_aload_n 22 dX5_reads_21 rfl rfl ?_
      refine q_getR 25 dX5_reads_22 rfl fl_X5_44 (by decide) rfl rfl ?_
      refine q_iload_n 26 dX5_reads_25 rfl rfl ?_
      refine q_aald7 27 dX5_reads_26 rfl ek k4 ?_
      refine q_astore_n 28 dX5_reads_27 rfl (by decide) rfl ?_
      refine q_iconst (v := 0) 29 dX5_reads_28 rfl rfl ?_
      refine q_istore_n 30 dX5_reads_29 rfl (by decide) rfl ?_
      rw [if_pos h_4]
      unfold aReads
      rw [if_neg h_15, ez, show tn (nI z) = z from nI_clamp (by omega)]
      exact q_fg (l5_reads M k (tn k) z k4 z24 ez s hR hW.1.2 (z + 1) 0 _ (by omega) (by omega) rfl) ⟨rfl, rfl, rfl, rfl, trivial⟩
    · skip
      simp only [bI_0, Classical.not_not] at h_15
      rw [ms_iff hso] at h_15
      refine q_ldc 20 dX5_reads_18 rfl cs_X5_218 ?_
      refine q_iret dX5_reads_20 ?_
      refine ⟨congrArg (fun x => some (Value.int x)) ?_, rfl⟩
      rw [if_pos h_4]
      unfold aReads
      rw [if_pos h_15]
  · skip
    simp only [bI_0, Classical.not_not] at h_4
    refine q_ldc 9 dX5_reads_7 rfl cs_X5_73 ?_
    refine q_iret dX5_reads_9 ?_
    refine ⟨congrArg (fun x => some (Value.int x)) ?_, rfl⟩
    rw [if_neg h_4]
