def mkV (so v : Int32) : Int32 := if so = 0 then (v <<< ((16 : Int32) &&& 31)) >>> ((16 : Int32) &&& 31) else v
def aMark (so z i v : Int32) : Int32 := if so < 0 then NOTHc else if ¬ (0 ≤ i ∧ i ≤ z - 1) then INDXc else if so = 0 ∧ v = NONEc then KINDc else if so = 1 ∧ v ≠ NONEc ∧ ¬ (-99999 ≤ v ∧ v ≤ 99999) then BADc else 1
abbrev cMark (so z i v : Int32) : Prop := 0 ≤ so ∧ (0 ≤ i ∧ i ≤ z - 1) ∧ ¬ (so = 0 ∧ v = NONEc) ∧ ¬ (so = 1 ∧ v ≠ NONEc ∧ ¬ (-99999 ≤ v ∧ v ≤ 99999))
def mMark (M : TM) (k i v : Int32) : TM := if isS k ∧ cMark (M 34 0 (tn k)) (M 35 0 (tn k)) i v then putA M 36 0 (upd (M 36 0) (24 * tn k + tn i) (mkV (M 34 0 (tn k)) v)) else M
theorem aMark_ok {so z i v : Int32} (h : cMark so z i v) : aMark so z i v = 1 := by
  obtain ⟨h1, h2, h3, h4⟩ := h
  unfold aMark; rw [if_neg (Int32.not_lt.mpr h1), if_neg (fun q => q h2), if_neg h3, if_neg h4]
set_option maxRecDepth 100000 in
set_option maxHeartbeats 4000000 in
theorem c6_mark {g : GT} (M : TM) (k i v : Int32) (hS : WS6 M) : Cn g yX6_mark cX6_mark 4 (some .int) 2 [.ref (gad g 6 0), .int k, .int i, .int v] M (fun r M' => r = some (.int (if isS k then aMark (M 34 0 (tn k)) (M 35 0 (tn k)) i v else BADc)) ∧ M' = mMark M k i v) := by
  refine Cn.ofTR (by decide +kernel) (Nat.le_of_ble_eq_true rfl) ?_
  refine q_iload_n 1 dX6_mark_0 rfl rfl ?_
  refine q_callSt 4 dX6_mark_1 rfl (c6_isSheet _ _) cw_X6_313 rfl rfl ⟨by decide, by decide⟩ ⟨by decide, by decide⟩ (Nat.le_of_ble_eq_true rfl) ?_
  refine q_if_ne 10 7 dX6_mark_4 rfl rfl (fun h_4 => ?_) (fun h_4 => ?_)
  · skip
    simp only [bI_0, Classical.not_not] at h_4
    obtain ⟨ek, lk⟩ := rg_tn h_4 (n := 3) rfl
    obtain ⟨hso, z, hz, ez⟩ := hS (tn k) (by omega)
    refine q_aload_n 11 dX6_mark_10 rfl rfl ?_
    refine q_getR 14 dX6_mark_11 rfl fl_X6_19 (by decide) rfl rfl ?_
    refine q_iload_n 15 dX6_mark_14 rfl rfl ?_
    refine q_iald 16 dX6_mark_15 rfl (by decide) (by decide) ek (show tn k < 4 by omega) ?_
    refine q_if_ge 23 19 dX6_mark_16 rfl rfl (fun h_16 => ?_) (fun h_16 => ?_)
    · skip
      refine q_iload_n 24 dX6_mark_23 rfl rfl ?_
      refine q_i2l 25 dX6_mark_24 rfl ?_
      refine q_lconst (v := 0) 26 dX6_mark_25 rfl rfl ?_
      refine q_aload_n 27 dX6_mark_26 rfl rfl ?_
      refine q_getR 30 dX6_mark_27 rfl fl_X6_22 (by decide) rfl rfl ?_
      refine q_iload_n 31 dX6_mark_30 rfl rfl ?_
      refine q_iald 32 dX6_mark_31 rfl (by decide) (by decide) ek (show tn k < 4 by omega) ?_
      refine q_iconst (v := 1) 33 dX6_mark_32 rfl rfl ?_
      refine q_isub 34 dX6_mark_33 rfl ?_
      refine q_i2l 35 dX6_mark_34 rfl ?_
      refine q_callSt 38 dX6_mark_35 rfl (c6_isIn' _ _ 0 (M 35 0 (tn k) - 1) _ _) cw_X6_65 rfl rfl ⟨by decide, by decide⟩ ⟨by decide, by decide⟩ (Nat.le_of_ble_eq_true rfl) ?_
      refine q_if_ne 45 41 dX6_mark_38 rfl rfl (fun h_38 => ?_) (fun h_38 => ?_)
      · skip
        simp only [bI_0, Classical.not_not] at h_38
        obtain ⟨ei, li⟩ := isI_nat hz (by rw [← ez]; exact h_38)
        refine q_aload_n 46 dX6_mark_45 rfl rfl ?_
        refine q_getR 49 dX6_mark_46 rfl fl_X6_19 (by decide) rfl rfl ?_
        refine q_iload_n 50 dX6_mark_49 rfl rfl ?_
        refine q_iald 51 dX6_mark_50 rfl (by decide) (by decide) ek (show tn k < 4 by omega) ?_
        refine q_if_ne 63 54 dX6_mark_51 rfl rfl (fun h_51 => ?_) (fun h_51 => ?_)
        · skip
          refine q_aload_n 64 dX6_mark_63 rfl rfl ?_
          refine q_getR 67 dX6_mark_64 rfl fl_X6_19 (by decide) rfl rfl ?_
          refine q_iload_n 68 dX6_mark_67 rfl rfl ?_
          refine q_iald 69 dX6_mark_68 rfl (by decide) (by decide) ek (show tn k < 4 by omega) ?_
          refine q_iconst (v := 1) 70 dX6_mark_69 rfl rfl ?_
          refine q_icmp_ne 96 73 dX6_mark_70 rfl rfl (fun h_70 => ?_) (fun h_70 => ?_)
          · skip
            refine q_aload_n 97 dX6_mark_96 rfl rfl ?_
            refine q_getR 100 dX6_mark_97 rfl fl_X6_25 (by decide) rfl rfl ?_
            refine q_bipush (v := 24) 102 dX6_mark_100 rfl rfl ?_
            refine q_iload_n 103 dX6_mark_102 rfl rfl ?_
            refine q_imul 104 dX6_mark_103 rfl ?_
            refine q_iload_n 105 dX6_mark_104 rfl rfl ?_
            refine q_iadd 106 dX6_mark_105 rfl ?_
            refine q_aload_n 107 dX6_mark_106 rfl rfl ?_
            refine q_getR 110 dX6_mark_107 rfl fl_X6_19 (by decide) rfl rfl ?_
            refine q_iload_n 111 dX6_mark_110 rfl rfl ?_
            refine q_iald 112 dX6_mark_111 rfl (by decide) (by decide) ek (show tn k < 4 by omega) ?_
            refine q_if_ne 125 115 dX6_mark_112 rfl rfl (fun h_112 => ?_) (fun h_112 => ?_)
            · skip
              refine q_iload_n 126 dX6_mark_125 rfl rfl ?_
              refine q_iast 127 dX6_mark_126 rfl (by decide) (by decide) (ix_24 ek ei) (show 24 * tn k + tn i < 96 by omega) ?_
              refine q_iconst (v := 1) 128 dX6_mark_127 rfl rfl ?_
              refine q_iret dX6_mark_128 ?_
              have hC : cMark (M 34 0 (tn k)) (M 35 0 (tn k)) i v := ⟨h_16, h_38, (by first | exact (fun q => h_51 q.1) | exact (fun q => h_57 q.2)), (by first | exact (fun q => h_70 q.1) | exact (fun q => q.2.1 h_76) | exact (fun q => q.2.2 h_90))⟩
              unfold mMark mkV
              rw [if_pos h_4, aMark_ok hC, if_pos ⟨h_4, hC⟩]
              first | (have hq := h_112; rw [if_pos hq]; exact ⟨rfl, rfl⟩) | (have hq := h_112; rw [if_neg hq]; exact ⟨rfl, rfl⟩)
            · skip
              refine q_iload_n 116 dX6_mark_115 rfl rfl ?_
              refine q_bipush (v := 16) 118 dX6_mark_116 rfl rfl ?_
              refine q_ishl 119 dX6_mark_118 rfl ?_
              refine q_bipush (v := 16) 121 dX6_mark_119 rfl rfl ?_
              refine q_ishr 122 dX6_mark_121 rfl ?_
              refine q_goto 126 dX6_mark_122 rfl ?_
              refine q_iast 127 dX6_mark_126 rfl (by decide) (by decide) (ix_24 ek ei) (show 24 * tn k + tn i < 96 by omega) ?_
              refine q_iconst (v := 1) 128 dX6_mark_127 rfl rfl ?_
              refine q_iret dX6_mark_128 ?_
              have hC : cMark (M 34 0 (tn k)) (M 35 0 (tn k)) i v := ⟨h_16, h_38, (by first | exact (fun q => h_51 q.1) | exact (fun q => h_57 q.2)), (by first | exact (fun q => h_70 q.1) | exact (fun q => q.2.1 h_76) | exact (fun q => q.2.2 h_90))⟩
              unfold mMark mkV
              rw [if_pos h_4, aMark_ok hC, if_pos ⟨h_4, hC⟩]
              first | (have hq := h_112; rw [if_pos hq]; exact ⟨rfl, rfl⟩) | (have hq := h_112; rw [if_neg hq]; exact ⟨rfl, rfl⟩)
          · skip
            refine q_iload_n 74 dX6_mark_73 rfl rfl ?_
            refine q_ldc 76 dX6_mark_74 rfl cs_X6_64 ?_
            refine q_icmp_eq 96 79 dX6_mark_76 rfl rfl (fun h_76 => ?_) (fun h_76 => ?_)
            · skip
              refine q_aload_n 97 dX6_mark_96 rfl rfl ?_
              refine q_getR 100 dX6_mark_97 rfl fl_X6_25 (by decide) rfl rfl ?_
              refine q_bipush (v := 24) 102 dX6_mark_100 rfl rfl ?_
              refine q_iload_n 103 dX6_mark_102 rfl rfl ?_
              refine q_imul 104 dX6_mark_103 rfl ?_
              refine q_iload_n 105 dX6_mark_104 rfl rfl ?_
              refine q_iadd 106 dX6_mark_105 rfl ?_
              refine q_aload_n 107 dX6_mark_106 rfl rfl ?_
              refine q_getR 110 dX6_mark_107 rfl fl_X6_19 (by decide) rfl rfl ?_
              refine q_iload_n 111 dX6_mark_110 rfl rfl ?_
              refine q_iald 112 dX6_mark_111 rfl (by decide) (by decide) ek (show tn k < 4 by omega) ?_
              refine q_if_ne 125 115 dX6_mark_112 rfl rfl (fun h_112 => ?_) (fun h_112 => ?_)
              · skip
                refine q_iload_n 126 dX6_mark_125 rfl rfl ?_
                refine q_iast 127 dX6_mark_126 rfl (by decide) (by decide) (ix_24 ek ei) (show 24 * tn k + tn i < 96 by omega) ?_
                refine q_iconst (v := 1) 128 dX6_mark_127 rfl rfl ?_
                refine q_iret dX6_mark_128 ?_
                have hC : cMark (M 34 0 (tn k)) (M 35 0 (tn k)) i v := ⟨h_16, h_38, (by first | exact (fun q => h_51 q.1) | exact (fun q => h_57 q.2)), (by first | exact (fun q => h_70 q.1) | exact (fun q => q.2.1 h_76) | exact (fun q => q.2.2 h_90))⟩
                unfold mMark mkV
                rw [if_pos h_4, aMark_ok hC, if_pos ⟨h_4, hC⟩]
                first | (have hq := h_112; rw [if_pos hq]; exact ⟨rfl, rfl⟩) | (have hq := h_112; rw [if_neg hq]; exact ⟨rfl, rfl⟩)
              · skip
                refine q_iload_n 116 dX6_mark_115 rfl rfl ?_
                refine q_bipush (v := 16) 118 dX6_mark_116 rfl rfl ?_
                refine q_ishl 119 dX6_mark_118 rfl ?_
                refine q_bipush (v := 16) 121 dX6_mark_119 rfl rfl ?_
                refine q_ishr 122 dX6_mark_121 rfl ?_
                refine q_goto 126 dX6_mark_122 rfl ?_
                refine q_iast 127 dX6_mark_126 rfl (by decide) (by decide) (ix_24 ek ei) (show 24 * tn k + tn i < 96 by omega) ?_
                refine q_iconst (v := 1) 128 dX6_mark_127 rfl rfl ?_
                refine q_iret dX6_mark_128 ?_
                have hC : cMark (M 34 0 (tn k)) (M 35 0 (tn k)) i v := ⟨h_16, h_38, (by first | exact (fun q => h_51 q.1) | exact (fun q => h_57 q.2)), (by first | exact (fun q => h_70 q.1) | exact (fun q => q.2.1 h_76) | exact (fun q => q.2.2 h_90))⟩
                unfold mMark mkV
                rw [if_pos h_4, aMark_ok hC, if_pos ⟨h_4, hC⟩]
                first | (have hq := h_112; rw [if_pos hq]; exact ⟨rfl, rfl⟩) | (have hq := h_112; rw [if_neg hq]; exact ⟨rfl, rfl⟩)
            · skip
              refine q_iload_n 80 dX6_mark_79 rfl rfl ?_
              refine q_i2l 81 dX6_mark_80 rfl ?_
              refine q_ldc2 84 dX6_mark_81 rfl cl_X6_321 ?_
              refine q_ldc2 87 dX6_mark_84 rfl cl_X6_209 ?_
              refine q_callSt 90 dX6_mark_87 rfl (c6_isIn' _ _ (-99999) (99999) _ _) cw_X6_65 rfl rfl ⟨by decide, by decide⟩ ⟨by decide, by decide⟩ (Nat.le_of_ble_eq_true rfl) ?_
              refine q_if_ne 96 93 dX6_mark_90 rfl rfl (fun h_90 => ?_) (fun h_90 => ?_)
              · skip
                simp only [bI_0, Classical.not_not] at h_90
                refine q_aload_n 97 dX6_mark_96 rfl rfl ?_
                refine q_getR 100 dX6_mark_97 rfl fl_X6_25 (by decide) rfl rfl ?_
                refine q_bipush (v := 24) 102 dX6_mark_100 rfl rfl ?_
                refine q_iload_n 103 dX6_mark_102 rfl rfl ?_
                refine q_imul 104 dX6_mark_103 rfl ?_
                refine q_iload_n 105 dX6_mark_104 rfl rfl ?_
                refine q_iadd 106 dX6_mark_105 rfl ?_
                refine q_aload_n 107 dX6_mark_106 rfl rfl ?_
                refine q_getR 110 dX6_mark_107 rfl fl_X6_19 (by decide) rfl rfl ?_
                refine q_iload_n 111 dX6_mark_110 rfl rfl ?_
                refine q_iald 112 dX6_mark_111 rfl (by decide) (by decide) ek (show tn k < 4 by omega) ?_
                refine q_if_ne 125 115 dX6_mark_112 rfl rfl (fun h_112 => ?_) (fun h_112 => ?_)
                · skip
                  refine q_iload_n 126 dX6_mark_125 rfl rfl ?_
                  refine q_iast 127 dX6_mark_126 rfl (by decide) (by decide) (ix_24 ek ei) (show 24 * tn k + tn i < 96 by omega) ?_
                  refine q_iconst (v := 1) 128 dX6_mark_127 rfl rfl ?_
                  refine q_iret dX6_mark_128 ?_
                  have hC : cMark (M 34 0 (tn k)) (M 35 0 (tn k)) i v := ⟨h_16, h_38, (by first | exact (fun q => h_51 q.1) | exact (fun q => h_57 q.2)), (by first | exact (fun q => h_70 q.1) | exact (fun q => q.2.1 h_76) | exact (fun q => q.2.2 h_90))⟩
                  unfold mMark mkV
                  rw [if_pos h_4, aMark_ok hC, if_pos ⟨h_4, hC⟩]
                  first | (have hq := h_112; rw [if_pos hq]; exact ⟨rfl, rfl⟩) | (have hq := h_112; rw [if_neg hq]; exact ⟨rfl, rfl⟩)
                · skip
                  refine q_iload_n 116 dX6_mark_115 rfl rfl ?_
                  refine q_bipush (v := 16) 118 dX6_mark_116 rfl rfl ?_
                  refine q_ishl 119 dX6_mark_118 rfl ?_
                  refine q_bipush (v := 16) 121 dX6_mark_119 rfl rfl ?_
                  refine q_ishr 122 dX6_mark_121 rfl ?_
                  refine q_goto 126 dX6_mark_122 rfl ?_
                  refine q_iast 127 dX6_mark_126 rfl (by decide) (by decide) (ix_24 ek ei) (show 24 * tn k + tn i < 96 by omega) ?_
                  refine q_iconst (v := 1) 128 dX6_mark_127 rfl rfl ?_
                  refine q_iret dX6_mark_128 ?_
                  have hC : cMark (M 34 0 (tn k)) (M 35 0 (tn k)) i v := ⟨h_16, h_38, (by first | exact (fun q => h_51 q.1) | exact (fun q => h_57 q.2)), (by first | exact (fun q => h_70 q.1) | exact (fun q => q.2.1 h_76) | exact (fun q => q.2.2 h_90))⟩
                  unfold mMark mkV
                  rw [if_pos h_4, aMark_ok hC, if_pos ⟨h_4, hC⟩]
                  first | (have hq := h_112; rw [if_pos hq]; exact ⟨rfl, rfl⟩) | (have hq := h_112; rw [if_neg hq]; exact ⟨rfl, rfl⟩)
              · skip
                simp only [bI_0, Classical.not_not] at h_90
                refine q_ldc 95 dX6_mark_93 rfl cs_X6_110 ?_
                refine q_iret dX6_mark_95 ?_
                have c3 : ¬ (M 34 0 (tn k) = 0 ∧ v = NONEc) := (by first | exact (fun q => h_51 q.1) | exact (fun q => h_57 q.2))
                unfold mMark aMark
                rw [if_pos h_4, if_neg (Int32.not_lt.mpr h_16), if_neg (fun q => q h_38), if_neg c3, if_pos ⟨h_70, h_76, h_90⟩, if_neg (fun q => q.2.2.2.2 ⟨h_70, h_76, h_90⟩)]
                exact ⟨rfl, rfl⟩
        · skip
          refine q_iload_n 55 dX6_mark_54 rfl rfl ?_
          refine q_ldc 57 dX6_mark_55 rfl cs_X6_64 ?_
          refine q_icmp_ne 63 60 dX6_mark_57 rfl rfl (fun h_57 => ?_) (fun h_57 => ?_)
          · skip
            refine q_aload_n 64 dX6_mark_63 rfl rfl ?_
            refine q_getR 67 dX6_mark_64 rfl fl_X6_19 (by decide) rfl rfl ?_
            refine q_iload_n 68 dX6_mark_67 rfl rfl ?_
            refine q_iald 69 dX6_mark_68 rfl (by decide) (by decide) ek (show tn k < 4 by omega) ?_
            refine q_iconst (v := 1) 70 dX6_mark_69 rfl rfl ?_
            refine q_icmp_ne 96 73 dX6_mark_70 rfl rfl (fun h_70 => ?_) (fun h_70 => ?_)
            · skip
              refine q_aload_n 97 dX6_mark_96 rfl rfl ?_
              refine q_getR 100 dX6_mark_97 rfl fl_X6_25 (by decide) rfl rfl ?_
              refine q_bipush (v := 24) 102 dX6_mark_100 rfl rfl ?_
              refine q_iload_n 103 dX6_mark_102 rfl rfl ?_
              refine q_imul 104 dX6_mark_103 rfl ?_
              refine q_iload_n 105 dX6_mark_104 rfl rfl ?_
              refine q_iadd 106 dX6_mark_105 rfl ?_
              refine q_aload_n 107 dX6_mark_106 rfl rfl ?_
              refine q_getR 110 dX6_mark_107 rfl fl_X6_19 (by decide) rfl rfl ?_
              refine q_iload_n 111 dX6_mark_110 rfl rfl ?_
              refine q_iald 112 dX6_mark_111 rfl (by decide) (by decide) ek (show tn k < 4 by omega) ?_
              refine q_if_ne 125 115 dX6_mark_112 rfl rfl (fun h_112 => ?_) (fun h_112 => ?_)
              · skip
                refine q_iload_n 126 dX6_mark_125 rfl rfl ?_
                refine q_iast 127 dX6_mark_126 rfl (by decide) (by decide) (ix_24 ek ei) (show 24 * tn k + tn i < 96 by omega) ?_
                refine q_iconst (v := 1) 128 dX6_mark_127 rfl rfl ?_
                refine q_iret dX6_mark_128 ?_
                have hC : cMark (M 34 0 (tn k)) (M 35 0 (tn k)) i v := ⟨h_16, h_38, (by first | exact (fun q => h_51 q.1) | exact (fun q => h_57 q.2)), (by first | exact (fun q => h_70 q.1) | exact (fun q => q.2.1 h_76) | exact (fun q => q.2.2 h_90))⟩
                unfold mMark mkV
                rw [if_pos h_4, aMark_ok hC, if_pos ⟨h_4, hC⟩]
                first | (have hq := h_112; rw [if_pos hq]; exact ⟨rfl, rfl⟩) | (have hq := h_112; rw [if_neg hq]; exact ⟨rfl, rfl⟩)
              · skip
                refine q_iload_n 116 dX6_mark_115 rfl rfl ?_
                refine q_bipush (v := 16) 118 dX6_mark_116 rfl rfl ?_
                refine q_ishl 119 dX6_mark_118 rfl ?_
                refine q_bipush (v := 16) 121 dX6_mark_119 rfl rfl ?_
                refine q_ishr 122 dX6_mark_121 rfl ?_
                refine q_goto 126 dX6_mark_122 rfl ?_
                refine q_iast 127 dX6_mark_126 rfl (by decide) (by decide) (ix_24 ek ei) (show 24 * tn k + tn i < 96 by omega) ?_
                refine q_iconst (v := 1) 128 dX6_mark_127 rfl rfl ?_
                refine q_iret dX6_mark_128 ?_
                have hC : cMark (M 34 0 (tn k)) (M 35 0 (tn k)) i v := ⟨h_16, h_38, (by first | exact (fun q => h_51 q.1) | exact (fun q => h_57 q.2)), (by first | exact (fun q => h_70 q.1) | exact (fun q => q.2.1 h_76) | exact (fun q => q.2.2 h_90))⟩
                unfold mMark mkV
                rw [if_pos h_4, aMark_ok hC, if_pos ⟨h_4, hC⟩]
                first | (have hq := h_112; rw [if_pos hq]; exact ⟨rfl, rfl⟩) | (have hq := h_112; rw [if_neg hq]; exact ⟨rfl, rfl⟩)
            · skip
              refine q_iload_n 74 dX6_mark_73 rfl rfl ?_
              refine q_ldc 76 dX6_mark_74 rfl cs_X6_64 ?_
              refine q_icmp_eq 96 79 dX6_mark_76 rfl rfl (fun h_76 => ?_) (fun h_76 => ?_)
              · skip
                refine q_aload_n 97 dX6_mark_96 rfl rfl ?_
                refine q_getR 100 dX6_mark_97 rfl fl_X6_25 (by decide) rfl rfl ?_
                refine q_bipush (v := 24) 102 dX6_mark_100 rfl rfl ?_
                refine q_iload_n 103 dX6_mark_102 rfl rfl ?_
                refine q_imul 104 dX6_mark_103 rfl ?_
                refine q_iload_n 105 dX6_mark_104 rfl rfl ?_
                refine q_iadd 106 dX6_mark_105 rfl ?_
                refine q_aload_n 107 dX6_mark_106 rfl rfl ?_
                refine q_getR 110 dX6_mark_107 rfl fl_X6_19 (by decide) rfl rfl ?_
                refine q_iload_n 111 dX6_mark_110 rfl rfl ?_
                refine q_iald 112 dX6_mark_111 rfl (by decide) (by decide) ek (show tn k < 4 by omega) ?_
                refine q_if_ne 125 115 dX6_mark_112 rfl rfl (fun h_112 => ?_) (fun h_112 => ?_)
                · skip
                  refine q_iload_n 126 dX6_mark_125 rfl rfl ?_
                  refine q_iast 127 dX6_mark_126 rfl (by decide) (by decide) (ix_24 ek ei) (show 24 * tn k + tn i < 96 by omega) ?_
                  refine q_iconst (v := 1) 128 dX6_mark_127 rfl rfl ?_
                  refine q_iret dX6_mark_128 ?_
                  have hC : cMark (M 34 0 (tn k)) (M 35 0 (tn k)) i v := ⟨h_16, h_38, (by first | exact (fun q => h_51 q.1) | exact (fun q => h_57 q.2)), (by first | exact (fun q => h_70 q.1) | exact (fun q => q.2.1 h_76) | exact (fun q => q.2.2 h_90))⟩
                  unfold mMark mkV
                  rw [if_pos h_4, aMark_ok hC, if_pos ⟨h_4, hC⟩]
                  first | (have hq := h_112; rw [if_pos hq]; exact ⟨rfl, rfl⟩) | (have hq := h_112; rw [if_neg hq]; exact ⟨rfl, rfl⟩)
                · skip
                  refine q_iload_n 116 dX6_mark_115 rfl rfl ?_
                  refine q_bipush (v := 16) 118 dX6_mark_116 rfl rfl ?_
                  refine q_ishl 119 dX6_mark_118 rfl ?_
                  refine q_bipush (v := 16) 121 dX6_mark_119 rfl rfl ?_
                  refine q_ishr 122 dX6_mark_121 rfl ?_
                  refine q_goto 126 dX6_mark_122 rfl ?_
                  refine q_iast 127 dX6_mark_126 rfl (by decide) (by decide) (ix_24 ek ei) (show 24 * tn k + tn i < 96 by omega) ?_
                  refine q_iconst (v := 1) 128 dX6_mark_127 rfl rfl ?_
                  refine q_iret dX6_mark_128 ?_
                  have hC : cMark (M 34 0 (tn k)) (M 35 0 (tn k)) i v := ⟨h_16, h_38, (by first | exact (fun q => h_51 q.1) | exact (fun q => h_57 q.2)), (by first | exact (fun q => h_70 q.1) | exact (fun q => q.2.1 h_76) | exact (fun q => q.2.2 h_90))⟩
                  unfold mMark mkV
                  rw [if_pos h_4, aMark_ok hC, if_pos ⟨h_4, hC⟩]
                  first | (have hq := h_112; rw [if_pos hq]; exact ⟨rfl, rfl⟩) | (have hq := h_112; rw [if_neg hq]; exact ⟨rfl, rfl⟩)
              · skip
                refine q_iload_n 80 dX6_mark_79 rfl rfl ?_
                refine q_i2l 81 dX6_mark_80 rfl ?_
                refine q_ldc2 84 dX6_mark_81 rfl cl_X6_321 ?_
                refine q_ldc2 87 dX6_mark_84 rfl cl_X6_209 ?_
                refine q_callSt 90 dX6_mark_87 rfl (c6_isIn' _ _ (-99999) (99999) _ _) cw_X6_65 rfl rfl ⟨by decide, by decide⟩ ⟨by decide, by decide⟩ (Nat.le_of_ble_eq_true rfl) ?_
                refine q_if_ne 96 93 dX6_mark_90 rfl rfl (fun h_90 => ?_) (fun h_90 => ?_)
                · skip
                  simp only [bI_0, Classical.not_not] at h_90
                  refine q_aload_n 97 dX6_mark_96 rfl rfl ?_
                  refine q_getR 100 dX6_mark_97 rfl fl_X6_25 (by decide) rfl rfl ?_
                  refine q_bipush (v := 24) 102 dX6_mark_100 rfl rfl ?_
                  refine q_iload_n 103 dX6_mark_102 rfl rfl ?_
                  refine q_imul 104 dX6_mark_103 rfl ?_
                  refine q_iload_n 105 dX6_mark_104 rfl rfl ?_
                  refine q_iadd 106 dX6_mark_105 rfl ?_
                  refine q_aload_n 107 dX6_mark_106 rfl rfl ?_
                  refine q_getR 110 dX6_mark_107 rfl fl_X6_19 (by decide) rfl rfl ?_
                  refine q_iload_n 111 dX6_mark_110 rfl rfl ?_
                  refine q_iald 112 dX6_mark_111 rfl (by decide) (by decide) ek (show tn k < 4 by omega) ?_
                  refine q_if_ne 125 115 dX6_mark_112 rfl rfl (fun h_112 => ?_) (fun h_112 => ?_)
                  · skip
                    refine q_iload_n 126 dX6_mark_125 rfl rfl ?_
                    refine q_iast 127 dX6_mark_126 rfl (by decide) (by decide) (ix_24 ek ei) (show 24 * tn k + tn i < 96 by omega) ?_
                    refine q_iconst (v := 1) 128 dX6_mark_127 rfl rfl ?_
                    refine q_iret dX6_mark_128 ?_
                    have hC : cMark (M 34 0 (tn k)) (M 35 0 (tn k)) i v := ⟨h_16, h_38, (by first | exact (fun q => h_51 q.1) | exact (fun q => h_57 q.2)), (by first | exact (fun q => h_70 q.1) | exact (fun q => q.2.1 h_76) | exact (fun q => q.2.2 h_90))⟩
                    unfold mMark mkV
                    rw [if_pos h_4, aMark_ok hC, if_pos ⟨h_4, hC⟩]
                    first | (have hq := h_112; rw [if_pos hq]; exact ⟨rfl, rfl⟩) | (have hq := h_112; rw [if_neg hq]; exact ⟨rfl, rfl⟩)
                  · skip
                    refine q_iload_n 116 dX6_mark_115 rfl rfl ?_
                    refine q_bipush (v := 16) 118 dX6_mark_116 rfl rfl ?_
                    refine q_ishl 119 dX6_mark_118 rfl ?_
                    refine q_bipush (v := 16) 121 dX6_mark_119 rfl rfl ?_
                    refine q_ishr 122 dX6_mark_121 rfl ?_
                    refine q_goto 126 dX6_mark_122 rfl ?_
                    refine q_iast 127 dX6_mark_126 rfl (by decide) (by decide) (ix_24 ek ei) (show 24 * tn k + tn i < 96 by omega) ?_
                    refine q_iconst (v := 1) 128 dX6_mark_127 rfl rfl ?_
                    refine q_iret dX6_mark_128 ?_
                    have hC : cMark (M 34 0 (tn k)) (M 35 0 (tn k)) i v := ⟨h_16, h_38, (by first | exact (fun q => h_51 q.1) | exact (fun q => h_57 q.2)), (by first | exact (fun q => h_70 q.1) | exact (fun q => q.2.1 h_76) | exact (fun q => q.2.2 h_90))⟩
                    unfold mMark mkV
                    rw [if_pos h_4, aMark_ok hC, if_pos ⟨h_4, hC⟩]
                    first | (have hq := h_112; rw [if_pos hq]; exact ⟨rfl, rfl⟩) | (have hq := h_112; rw [if_neg hq]; exact ⟨rfl, rfl⟩)
                · skip
                  simp only [bI_0, Classical.not_not] at h_90
                  refine q_ldc 95 dX6_mark_93 rfl cs_X6_110 ?_
                  refine q_iret dX6_mark_95 ?_
                  have c3 : ¬ (M 34 0 (tn k) = 0 ∧ v = NONEc) := (by first | exact (fun q => h_51 q.1) | exact (fun q => h_57 q.2))
                  unfold mMark aMark
                  rw [if_pos h_4, if_neg (Int32.not_lt.mpr h_16), if_neg (fun q => q h_38), if_neg c3, if_pos ⟨h_70, h_76, h_90⟩, if_neg (fun q => q.2.2.2.2 ⟨h_70, h_76, h_90⟩)]
                  exact ⟨rfl, rfl⟩
          · skip
            refine q_ldc 62 dX6_mark_60 rfl cs_X6_137 ?_
            refine q_iret dX6_mark_62 ?_
            unfold mMark aMark
            rw [if_pos h_4, if_neg (Int32.not_lt.mpr h_16), if_neg (fun q => q h_38), if_pos ⟨h_51, h_57⟩, if_neg (fun q => q.2.2.2.1 ⟨h_51, h_57⟩)]
            exact ⟨rfl, rfl⟩
      · skip
        simp only [bI_0, Classical.not_not] at h_38
        refine q_ldc_w 44 dX6_mark_41 rfl cs_X6_320 ?_
        refine q_iret dX6_mark_44 ?_
        unfold mMark aMark
        rw [if_pos h_4, if_neg (Int32.not_lt.mpr h_16), if_pos h_38, if_neg (fun q => h_38 q.2.2.1)]
        exact ⟨rfl, rfl⟩
    · skip
      refine q_ldc_w 22 dX6_mark_19 rfl cs_X6_319 ?_
      refine q_iret dX6_mark_22 ?_
      unfold mMark aMark
      rw [if_pos h_4, if_pos (Int32.not_le.mp h_16), if_neg (fun q => h_16 q.2.1)]
      exact ⟨rfl, rfl⟩
  · skip
    simp only [bI_0, Classical.not_not] at h_4
    refine q_ldc 9 dX6_mark_7 rfl cs_X6_110 ?_
    refine q_iret dX6_mark_9 ?_
    unfold mMark
    rw [if_neg h_4, if_neg (fun q => h_4 q.1)]
    exact ⟨rfl, rfl⟩
abbrev cIdx (pl m : Int32) (z : Nat) : Prop := 0 ≤ pl ∧ 0 ≤ m ∧ tn pl + tn m ≤ z
theorem pos_tn {x : Int32} (h : 0 ≤ x) : x = nI (tn x) ∧ tn x < 2 ^ 31 := by
  obtain ⟨j, hj, rfl⟩ := nI_of (Int32.not_lt.mpr h)
  unfold tn; rw [nI_clamp hj]; exact ⟨rfl, hj⟩
theorem idx64 {pl m : Int32} {z : Nat} (h1 : 0 ≤ pl) (h2 : 0 ≤ m) (hz : z ≤ 24) : (pl.toInt64 + m.toInt64 ≤ (nI z).toInt64) ↔ tn pl + tn m ≤ z := by
  obtain ⟨e1, l1⟩ := pos_tn h1
  obtain ⟨e2, l2⟩ := pos_tn h2
  generalize tn pl = a at e1 l1
  generalize tn m = b at e2 l2
  subst e1; subst e2
  rw [nI_l l1, nI_l l2, nI_l (by omega), lN_add, pk_lLE (by omega) (by omega)]
def aCopy (sf st : Int32) (zf zt : Nat) (pl at_ m : Int32) : Int32 := if sf < 0 ∨ st < 0 then NOTHc else if sf ≠ st then KINDc else if cIdx pl m zf ∧ cIdx at_ m zt then m else INDXc
abbrev cCopy (M : TM) (f pl t at_ m : Int32) : Prop := (isS f ∧ isS t) ∧ ¬ (M 34 0 (tn f) < 0 ∨ M 34 0 (tn t) < 0) ∧ M 34 0 (tn f) = M 34 0 (tn t) ∧ cIdx pl m (tn (M 35 0 (tn f))) ∧ cIdx at_ m (tn (M 35 0 (tn t)))
theorem cpy_s (f g : Nat → Int32) (a b k : Nat) : upd (va_cpy f g a b k) (b + k) (f (a + k)) = va_cpy f g a b (k + 1) := by
  funext i; unfold upd va_cpy
  by_cases h : i = b + k
  · subst h; rw [if_pos rfl, if_pos (by omega), show b + k - b = k by omega]
  · rw [if_neg h]
    by_cases h2 : b ≤ i ∧ i < b + k
    · rw [if_pos h2, if_pos (by omega)]
    · rw [if_neg h2, if_neg (by omega)]
theorem cpy_0 (f g : Nat → Int32) (a b : Nat) : va_cpy f g a b 0 = g := by funext i; unfold va_cpy; rw [if_neg (by omega)]
theorem cpy_mix (T c : Nat → Int32) (a b m : Nat) : va_cpy (mixF (fun i => T (a + i)) c m) T 0 b m = va_cpy T T a b m := by
  funext i; unfold va_cpy mixF
  by_cases h : b ≤ i ∧ i < b + m
  · rw [if_pos h, if_pos h, if_pos (by omega), Nat.zero_add]
  · rw [if_neg h, if_neg h]
theorem ix_243 {a b c : Nat} {x y z : Int32} (hx : x = nI a) (hy : y = nI b) (hz : z = nI c) : 24 * x + y + z = nI (24 * a + b + c) := by
  rw [ix_24 hx hy]; subst hz; exact nI_add _ _
set_option maxRecDepth 100000 in
set_option maxHeartbeats 4000000 in
theorem l6_copy2 {g : GT} (N : TM) (car : Nat → Int32) (hcar : N 46 0 = car) (f pl t at_ m : Int32) (ff pp tt aa mm : Nat) (ef : f = nI ff) (ep : pl = nI pp) (et : t = nI tt) (ea : at_ = nI aa) (em : m = nI mm) (lf : ff < 4) (lt : tt < 4) (l1 : pp + mm ≤ 24) (l2 : aa + mm ≤ 24) : ∀ (j : Nat) (i : Nat) (y : Int32), mm - i < j → i ≤ mm → y = nI i → TR g (rmD 2) RX6 cX6_copy 7 (some .int) 0 0 (Zm g (Rt (.int m) (putA N 36 0 (va_cpy car (N 36 0) 0 (24 * tt + aa) mm)))) 150 [some (.ref (gad g 6 0)), some (.int f), some (.int pl), some (.int t), some (.int at_), some (.int m), some (.int y)] [] (putA N 36 0 (va_cpy car (N 36 0) 0 (24 * tt + aa) i)) := by
  intro j
  induction j with
  | zero => intro i y hj hi hy; exact absurd hj (by omega)
  | succ j ih =>
    intro i y hj hi hy
    subst hy; subst hcar
    refine q_iload 152 dX6_copy_150 rfl rfl ?_
    refine q_iload 154 dX6_copy_152 rfl rfl ?_
    refine q_icmp_ge 185 157 dX6_copy_154 rfl rfl (fun h_154 => ?_) (fun h_154 => ?_)
    · skip
      rw [em, nI_leI (by omega) (by omega)] at h_154
      refine q_iload 187 dX6_copy_185 rfl rfl ?_
      refine q_iret dX6_copy_187 ?_
      exact ⟨rfl, by rw [show i = mm by omega]⟩
    · skip
      rw [em, nI_leI (by omega) (by omega)] at h_154
      refine q_aload_n 158 dX6_copy_157 rfl rfl ?_
      refine q_getR 161 dX6_copy_158 rfl fl_X6_25 (by decide) rfl rfl ?_
      refine q_bipush (v := 24) 163 dX6_copy_161 rfl rfl ?_
      refine q_iload_n 164 dX6_copy_163 rfl rfl ?_
      refine q_imul 165 dX6_copy_164 rfl ?_
      refine q_iload 167 dX6_copy_165 rfl rfl ?_
      refine q_iadd 168 dX6_copy_167 rfl ?_
      refine q_iload 170 dX6_copy_168 rfl rfl ?_
      refine q_iadd 171 dX6_copy_170 rfl ?_
      refine q_aload_n 172 dX6_copy_171 rfl rfl ?_
      refine q_getR 175 dX6_copy_172 rfl fl_X6_55 (by decide) rfl rfl ?_
      refine q_iload 177 dX6_copy_175 rfl rfl ?_
      refine q_iald 178 dX6_copy_177 rfl (by decide) (by decide) rfl (show i < 24 by omega) ?_
      refine q_iast 179 dX6_copy_178 rfl (by decide) (by decide) (ix_243 et ea rfl) (show 24 * tt + aa + i < 96 by omega) ?_
      refine q_iinc 182 dX6_copy_179 rfl rfl (by decide) rfl (nI_1 i) ?_
      refine q_goto 150 dX6_copy_182 rfl ?_
      refine q_eqM (M' := putA N 36 0 (va_cpy (N 46 0) (N 36 0) 0 (24 * tt + aa) (i + 1))) (by rw [putA_pp, putA_s, ← cpy_s, Nat.zero_add]; rfl) (q_fg (ih (i + 1) _ (by omega) (by omega) rfl) ⟨rfl, rfl, rfl, rfl, rfl, rfl, rfl, trivial⟩)
set_option maxRecDepth 100000 in
set_option maxHeartbeats 4000000 in
theorem l6_copy1 {g : GT} (M : TM) (f pl t at_ m : Int32) (ff pp tt aa mm : Nat) (ef : f = nI ff) (ep : pl = nI pp) (et : t = nI tt) (ea : at_ = nI aa) (em : m = nI mm) (lf : ff < 4) (lt : tt < 4) (l1 : pp + mm ≤ 24) (l2 : aa + mm ≤ 24) : ∀ (j : Nat) (i : Nat) (y : Int32), mm - i < j → i ≤ mm → y = nI i → TR g (rmD 2) RX6 cX6_copy 7 (some .int) 0 0 (Zm g (fun r M' => r = some (.int m) ∧ ∃ c, M' = putA (putA M 46 0 c) 36 0 (va_cpy (M 36 0) (M 36 0) (24 * ff + pp) (24 * tt + aa) mm))) 113 [some (.ref (gad g 6 0)), some (.int f), some (.int pl), some (.int t), some (.int at_), some (.int m), some (.int y)] [] (putA M 46 0 (mixF (fun q => M 36 0 (24 * ff + pp + q)) (M 46 0) i)) := by
  intro j
  induction j with
  | zero => intro i y hj hi hy; exact absurd hj (by omega)
  | succ j ih =>
    intro i y hj hi hy
    subst hy
    refine q_iload 115 dX6_copy_113 rfl rfl ?_
    refine q_iload 117 dX6_copy_115 rfl rfl ?_
    refine q_icmp_ge 147 120 dX6_copy_117 rfl rfl (fun h_117 => ?_) (fun h_117 => ?_)
    · skip
      rw [em, nI_leI (by omega) (by omega)] at h_117
      refine q_iconst (v := 0) 148 dX6_copy_147 rfl rfl ?_
      refine q_istore 150 dX6_copy_148 rfl (by decide) rfl ?_
      have e : i = mm := by omega
      subst e
      refine q_eqM (M' := putA (putA M 46 0 (mixF (fun q => M 36 0 (24 * ff + pp + q)) (M 46 0) i)) 36 0 (va_cpy (mixF (fun q => M 36 0 (24 * ff + pp + q)) (M 46 0) i) (M 36 0) 0 (24 * tt + aa) 0)) (by rw [cpy_0]; exact (putA_id _ 36 0).symm) (TR_post (q_fg (l6_copy2 (putA M 46 0 (mixF (fun q => M 36 0 (24 * ff + pp + q)) (M 46 0) i)) _ (by rfl) f pl t at_ m ff pp tt aa i ef ep et ea em lf lt l1 l2 (i + 1) 0 0 (by omega) (by omega) rfl) ⟨rfl, rfl, rfl, rfl, rfl, rfl, rfl, trivial⟩) ?_)
      rintro _ _ ⟨rfl, rfl⟩
      exact ⟨rfl, _, putA_cg (cpy_mix _ _ _ _ _)⟩
    · skip
      rw [em, nI_leI (by omega) (by omega)] at h_117
      refine q_aload_n 121 dX6_copy_120 rfl rfl ?_
      refine q_getR 124 dX6_copy_121 rfl fl_X6_55 (by decide) rfl rfl ?_
      refine q_iload 126 dX6_copy_124 rfl rfl ?_
      refine q_aload_n 127 dX6_copy_126 rfl rfl ?_
      refine q_getR 130 dX6_copy_127 rfl fl_X6_25 (by decide) rfl rfl ?_
      refine q_bipush (v := 24) 132 dX6_copy_130 rfl rfl ?_
      refine q_iload_n 133 dX6_copy_132 rfl rfl ?_
      refine q_imul 134 dX6_copy_133 rfl ?_
      refine q_iload_n 135 dX6_copy_134 rfl rfl ?_
      refine q_iadd 136 dX6_copy_135 rfl ?_
      refine q_iload 138 dX6_copy_136 rfl rfl ?_
      refine q_iadd 139 dX6_copy_138 rfl ?_
      refine q_iald 140 dX6_copy_139 rfl (by decide) (by decide) (ix_243 ef ep rfl) (show 24 * ff + pp + i < 96 by omega) ?_
      refine q_iast 141 dX6_copy_140 rfl (by decide) (by decide) rfl (show i < 24 by omega) ?_
      refine q_iinc 144 dX6_copy_141 rfl rfl (by decide) rfl (nI_1 i) ?_
      refine q_goto 113 dX6_copy_144 rfl ?_
      refine q_eqM (M' := putA M 46 0 (mixF (fun q => M 36 0 (24 * ff + pp + q)) (M 46 0) (i + 1))) (by rw [putA_pp, putA_s, ← mixF_s]; rfl) (q_fg (ih (i + 1) _ (by omega) (by omega) rfl) ⟨rfl, rfl, rfl, rfl, rfl, rfl, rfl, trivial⟩)
set_option maxRecDepth 100000 in
set_option maxHeartbeats 4000000 in
theorem c6_copy {g : GT} (M : TM) (f pl t at_ m : Int32) (hS : WS6 M) : Cn g yX6_copy cX6_copy 7 (some .int) 2 [.ref (gad g 6 0), .int f, .int pl, .int t, .int at_, .int m] M (fun r M' => r = some (.int (if isS f ∧ isS t then aCopy (M 34 0 (tn f)) (M 34 0 (tn t)) (tn (M 35 0 (tn f))) (tn (M 35 0 (tn t))) pl at_ m else BADc)) ∧ if cCopy M f pl t at_ m then ∃ c, M' = putA (putA M 46 0 c) 36 0 (va_cpy (M 36 0) (M 36 0) (24 * tn f + tn pl) (24 * tn t + tn at_) (tn m)) else M' = M) := by
  refine Cn.ofTR (by decide +kernel) (Nat.le_of_ble_eq_true rfl) ?_
  refine q_iload_n 1 dX6_copy_0 rfl rfl ?_
  refine q_callSt 4 dX6_copy_1 rfl (c6_isSheet _ _) cw_X6_313 rfl rfl ⟨by decide, by decide⟩ ⟨by decide, by decide⟩ (Nat.le_of_ble_eq_true rfl) ?_
  refine q_if_eq 14 7 dX6_copy_4 rfl rfl (fun h_4 => ?_) (fun h_4 => ?_)
  · skip
    simp only [bI_0, Classical.not_not] at h_4
    refine q_ldc 16 dX6_copy_14 rfl cs_X6_110 ?_
    refine q_iret dX6_copy_16 ?_
    have hC : ¬ (isS f ∧ isS t) := fun q => by first | exact h_4 q.1 | exact h_11 q.2
    rw [if_neg hC, if_neg (fun q => hC q.1)]
    exact ⟨rfl, rfl⟩
  · skip
    simp only [bI_0, Classical.not_not] at h_4
    refine q_iload_n 8 dX6_copy_7 rfl rfl ?_
    refine q_callSt 11 dX6_copy_8 rfl (c6_isSheet _ _) cw_X6_313 rfl rfl ⟨by decide, by decide⟩ ⟨by decide, by decide⟩ (Nat.le_of_ble_eq_true rfl) ?_
    refine q_if_ne 17 14 dX6_copy_11 rfl rfl (fun h_11 => ?_) (fun h_11 => ?_)
    · skip
      simp only [bI_0, Classical.not_not] at h_11
      obtain ⟨ef, lf⟩ := rg_tn h_4 (n := 3) rfl
      obtain ⟨et, lt⟩ := rg_tn h_11 (n := 3) rfl
      obtain ⟨-, zf, hzf, ezf⟩ := hS (tn f) (by omega)
      obtain ⟨-, zt, hzt, ezt⟩ := hS (tn t) (by omega)
      have tf : tn (M 35 0 (tn f)) = zf := by rw [ezf]; exact nI_clamp (by omega)
      have tt : tn (M 35 0 (tn t)) = zt := by rw [ezt]; exact nI_clamp (by omega)
      refine q_aload_n 18 dX6_copy_17 rfl rfl ?_
      refine q_getR 21 dX6_copy_18 rfl fl_X6_19 (by decide) rfl rfl ?_
      refine q_iload_n 22 dX6_copy_21 rfl rfl ?_
      refine q_iald 23 dX6_copy_22 rfl (by decide) (by decide) ef (show tn f < 4 by omega) ?_
      refine q_if_lt 35 26 dX6_copy_23 rfl rfl (fun h_23 => ?_) (fun h_23 => ?_)
      · skip
        refine q_ldc_w 38 dX6_copy_35 rfl cs_X6_319 ?_
        refine q_iret dX6_copy_38 ?_
        have hq : M 34 0 (tn f) < 0 ∨ M 34 0 (tn t) < 0 := by first | exact Or.inl h_23 | exact Or.inr (Int32.not_le.mp h_32)
        unfold aCopy
        rw [if_pos ⟨h_4, h_11⟩, if_pos hq, if_neg (fun q => q.2.1 hq)]
        exact ⟨rfl, rfl⟩
      · skip
        refine q_aload_n 27 dX6_copy_26 rfl rfl ?_
        refine q_getR 30 dX6_copy_27 rfl fl_X6_19 (by decide) rfl rfl ?_
        refine q_iload_n 31 dX6_copy_30 rfl rfl ?_
        refine q_iald 32 dX6_copy_31 rfl (by decide) (by decide) et (show tn t < 4 by omega) ?_
        refine q_if_ge 39 35 dX6_copy_32 rfl rfl (fun h_32 => ?_) (fun h_32 => ?_)
        · skip
          refine q_aload_n 40 dX6_copy_39 rfl rfl ?_
          refine q_getR 43 dX6_copy_40 rfl fl_X6_19 (by decide) rfl rfl ?_
          refine q_iload_n 44 dX6_copy_43 rfl rfl ?_
          refine q_iald 45 dX6_copy_44 rfl (by decide) (by decide) ef (show tn f < 4 by omega) ?_
          refine q_aload_n 46 dX6_copy_45 rfl rfl ?_
          refine q_getR 49 dX6_copy_46 rfl fl_X6_19 (by decide) rfl rfl ?_
          refine q_iload_n 50 dX6_copy_49 rfl rfl ?_
          refine q_iald 51 dX6_copy_50 rfl (by decide) (by decide) et (show tn t < 4 by omega) ?_
          refine q_icmp_eq 57 54 dX6_copy_51 rfl rfl (fun h_51 => ?_) (fun h_51 => ?_)
          · skip
            refine q_iload_n 58 dX6_copy_57 rfl rfl ?_
            refine q_if_lt 106 61 dX6_copy_58 rfl rfl (fun h_58 => ?_) (fun h_58 => ?_)
            · skip
              refine q_ldc_w 109 dX6_copy_106 rfl cs_X6_320 ?_
              refine q_iret dX6_copy_109 ?_
              have nn : ¬ (M 34 0 (tn f) < 0 ∨ M 34 0 (tn t) < 0) := fun q => q.elim (fun w => h_23 w) (fun w => absurd h_32 (Int32.not_le.mpr w))
              have hq : ¬ (cIdx pl m (tn (M 35 0 (tn f))) ∧ cIdx at_ m (tn (M 35 0 (tn t)))) := by
                rw [tf, tt]
                rintro ⟨⟨a1, a2, a3⟩, ⟨b1, b2, b3⟩⟩
                first | exact absurd h_58 (Int32.not_lt.mpr a1) | exact absurd h_63 (Int32.not_lt.mpr b1) | exact absurd h_68 (Int32.not_lt.mpr a2) | exact absurd h_85 (Int64.not_lt.mpr ((idx64 a1 a2 hzf).mpr a3)) | exact absurd h_103 (Int64.not_lt.mpr ((idx64 b1 b2 hzt).mpr b3))
              unfold aCopy
              rw [if_pos ⟨h_4, h_11⟩, if_neg nn, if_neg (fun q => q h_51), if_neg hq, if_neg (fun q => hq q.2.2.2)]
              exact ⟨rfl, rfl⟩
            · skip
              refine q_iload 63 dX6_copy_61 rfl rfl ?_
              refine q_if_lt 106 66 dX6_copy_63 rfl rfl (fun h_63 => ?_) (fun h_63 => ?_)
              · skip
                refine q_ldc_w 109 dX6_copy_106 rfl cs_X6_320 ?_
                refine q_iret dX6_copy_109 ?_
                have nn : ¬ (M 34 0 (tn f) < 0 ∨ M 34 0 (tn t) < 0) := fun q => q.elim (fun w => h_23 w) (fun w => absurd h_32 (Int32.not_le.mpr w))
                have hq : ¬ (cIdx pl m (tn (M 35 0 (tn f))) ∧ cIdx at_ m (tn (M 35 0 (tn t)))) := by
                  rw [tf, tt]
                  rintro ⟨⟨a1, a2, a3⟩, ⟨b1, b2, b3⟩⟩
                  first | exact absurd h_58 (Int32.not_lt.mpr a1) | exact absurd h_63 (Int32.not_lt.mpr b1) | exact absurd h_68 (Int32.not_lt.mpr a2) | exact absurd h_85 (Int64.not_lt.mpr ((idx64 a1 a2 hzf).mpr a3)) | exact absurd h_103 (Int64.not_lt.mpr ((idx64 b1 b2 hzt).mpr b3))
                unfold aCopy
                rw [if_pos ⟨h_4, h_11⟩, if_neg nn, if_neg (fun q => q h_51), if_neg hq, if_neg (fun q => hq q.2.2.2)]
                exact ⟨rfl, rfl⟩
              · skip
                refine q_iload 68 dX6_copy_66 rfl rfl ?_
                refine q_if_lt 106 71 dX6_copy_68 rfl rfl (fun h_68 => ?_) (fun h_68 => ?_)
                · skip
                  refine q_ldc_w 109 dX6_copy_106 rfl cs_X6_320 ?_
                  refine q_iret dX6_copy_109 ?_
                  have nn : ¬ (M 34 0 (tn f) < 0 ∨ M 34 0 (tn t) < 0) := fun q => q.elim (fun w => h_23 w) (fun w => absurd h_32 (Int32.not_le.mpr w))
                  have hq : ¬ (cIdx pl m (tn (M 35 0 (tn f))) ∧ cIdx at_ m (tn (M 35 0 (tn t)))) := by
                    rw [tf, tt]
                    rintro ⟨⟨a1, a2, a3⟩, ⟨b1, b2, b3⟩⟩
                    first | exact absurd h_58 (Int32.not_lt.mpr a1) | exact absurd h_63 (Int32.not_lt.mpr b1) | exact absurd h_68 (Int32.not_lt.mpr a2) | exact absurd h_85 (Int64.not_lt.mpr ((idx64 a1 a2 hzf).mpr a3)) | exact absurd h_103 (Int64.not_lt.mpr ((idx64 b1 b2 hzt).mpr b3))
                  unfold aCopy
                  rw [if_pos ⟨h_4, h_11⟩, if_neg nn, if_neg (fun q => q h_51), if_neg hq, if_neg (fun q => hq q.2.2.2)]
                  exact ⟨rfl, rfl⟩
                · skip
                  refine q_iload_n 72 dX6_copy_71 rfl rfl ?_
                  refine q_i2l 73 dX6_copy_72 rfl ?_
                  refine q_iload 75 dX6_copy_73 rfl rfl ?_
                  refine q_i2l 76 dX6_copy_75 rfl ?_
                  refine q_ladd 77 dX6_copy_76 rfl ?_
                  refine q_aload_n 78 dX6_copy_77 rfl rfl ?_
                  refine q_getR 81 dX6_copy_78 rfl fl_X6_22 (by decide) rfl rfl ?_
                  refine q_iload_n 82 dX6_copy_81 rfl rfl ?_
                  refine q_iald 83 dX6_copy_82 rfl (by decide) (by decide) ef (show tn f < 4 by omega) ?_
                  refine q_i2l 84 dX6_copy_83 rfl ?_
                  refine q_lcmp 85 dX6_copy_84 rfl ?_
                  refine q_if_gt 106 88 dX6_copy_85 rfl rfl (fun h_85 => ?_) (fun h_85 => ?_)
                  · skip
                    rw [lgc_gt, ezf] at h_85
                    refine q_ldc_w 109 dX6_copy_106 rfl cs_X6_320 ?_
                    refine q_iret dX6_copy_109 ?_
                    have nn : ¬ (M 34 0 (tn f) < 0 ∨ M 34 0 (tn t) < 0) := fun q => q.elim (fun w => h_23 w) (fun w => absurd h_32 (Int32.not_le.mpr w))
                    have hq : ¬ (cIdx pl m (tn (M 35 0 (tn f))) ∧ cIdx at_ m (tn (M 35 0 (tn t)))) := by
                      rw [tf, tt]
                      rintro ⟨⟨a1, a2, a3⟩, ⟨b1, b2, b3⟩⟩
                      first | exact absurd h_58 (Int32.not_lt.mpr a1) | exact absurd h_63 (Int32.not_lt.mpr b1) | exact absurd h_68 (Int32.not_lt.mpr a2) | exact absurd h_85 (Int64.not_lt.mpr ((idx64 a1 a2 hzf).mpr a3)) | exact absurd h_103 (Int64.not_lt.mpr ((idx64 b1 b2 hzt).mpr b3))
                    unfold aCopy
                    rw [if_pos ⟨h_4, h_11⟩, if_neg nn, if_neg (fun q => q h_51), if_neg hq, if_neg (fun q => hq q.2.2.2)]
                    exact ⟨rfl, rfl⟩
                  · skip
                    rw [lgc_gt, ezf] at h_85
                    refine q_iload 90 dX6_copy_88 rfl rfl ?_
                    refine q_i2l 91 dX6_copy_90 rfl ?_
                    refine q_iload 93 dX6_copy_91 rfl rfl ?_
                    refine q_i2l 94 dX6_copy_93 rfl ?_
                    refine q_ladd 95 dX6_copy_94 rfl ?_
                    refine q_aload_n 96 dX6_copy_95 rfl rfl ?_
                    refine q_getR 99 dX6_copy_96 rfl fl_X6_22 (by decide) rfl rfl ?_
                    refine q_iload_n 100 dX6_copy_99 rfl rfl ?_
                    refine q_iald 101 dX6_copy_100 rfl (by decide) (by decide) et (show tn t < 4 by omega) ?_
                    refine q_i2l 102 dX6_copy_101 rfl ?_
                    refine q_lcmp 103 dX6_copy_102 rfl ?_
                    refine q_if_le 110 106 dX6_copy_103 rfl rfl (fun h_103 => ?_) (fun h_103 => ?_)
                    · skip
                      replace h_103 := (not_congr lgc_gt).mp (Int32.not_lt.mpr h_103)
                      rw [ezt] at h_103
                      refine q_iconst (v := 0) 111 dX6_copy_110 rfl rfl ?_
                      refine q_istore 113 dX6_copy_111 rfl (by decide) rfl ?_
                      have p1 := Int32.not_lt.mp h_58
                      have p2 := Int32.not_lt.mp h_63
                      have p3 := Int32.not_lt.mp h_68
                      have i1 := (idx64 p1 p3 hzf).mp (Int64.not_lt.mp h_85)
                      have i2 := (idx64 p2 p3 hzt).mp (Int64.not_lt.mp h_103)
                      have nn : ¬ (M 34 0 (tn f) < 0 ∨ M 34 0 (tn t) < 0) := fun q => q.elim (fun w => h_23 w) (fun w => absurd h_32 (Int32.not_le.mpr w))
                      have hC : cCopy M f pl t at_ m := ⟨⟨h_4, h_11⟩, nn, h_51, by rw [tf]; exact ⟨p1, p3, i1⟩, by rw [tt]; exact ⟨p2, p3, i2⟩⟩
                      rw [if_pos ⟨h_4, h_11⟩]
                      unfold aCopy
                      rw [if_neg nn, if_neg (fun q => q h_51), if_pos hC.2.2.2]
                      refine q_eqM (M' := putA M 46 0 (mixF (fun q => M 36 0 (24 * tn f + tn pl + q)) (M 46 0) 0)) (by rw [mixF_0, putA_id]) (TR_post (q_fg (l6_copy1 M f pl t at_ m (tn f) (tn pl) (tn t) (tn at_) (tn m) ef (pos_tn p1).1 et (pos_tn p2).1 (pos_tn p3).1 (by omega) (by omega) (by omega) (by omega) (tn m + 1) 0 0 (by omega) (by omega) rfl) ⟨rfl, rfl, rfl, rfl, rfl, rfl, rfl, trivial⟩) ?_)
                      rintro _ _ ⟨rfl, c, rfl⟩
                      exact ⟨rfl, by rw [if_pos hC]; exact ⟨c, rfl⟩⟩
                    · skip
                      replace h_103 := lgc_gt.mp (Int32.not_le.mp h_103)
                      rw [ezt] at h_103
                      refine q_ldc_w 109 dX6_copy_106 rfl cs_X6_320 ?_
                      refine q_iret dX6_copy_109 ?_
                      have nn : ¬ (M 34 0 (tn f) < 0 ∨ M 34 0 (tn t) < 0) := fun q => q.elim (fun w => h_23 w) (fun w => absurd h_32 (Int32.not_le.mpr w))
                      have hq : ¬ (cIdx pl m (tn (M 35 0 (tn f))) ∧ cIdx at_ m (tn (M 35 0 (tn t)))) := by
                        rw [tf, tt]
                        rintro ⟨⟨a1, a2, a3⟩, ⟨b1, b2, b3⟩⟩
                        first | exact absurd h_58 (Int32.not_lt.mpr a1) | exact absurd h_63 (Int32.not_lt.mpr b1) | exact absurd h_68 (Int32.not_lt.mpr a2) | exact absurd h_85 (Int64.not_lt.mpr ((idx64 a1 a2 hzf).mpr a3)) | exact absurd h_103 (Int64.not_lt.mpr ((idx64 b1 b2 hzt).mpr b3))
                      unfold aCopy
                      rw [if_pos ⟨h_4, h_11⟩, if_neg nn, if_neg (fun q => q h_51), if_neg hq, if_neg (fun q => hq q.2.2.2)]
                      exact ⟨rfl, rfl⟩
          · skip
            refine q_ldc 56 dX6_copy_54 rfl cs_X6_137 ?_
            refine q_iret dX6_copy_56 ?_
            have nn : ¬ (M 34 0 (tn f) < 0 ∨ M 34 0 (tn t) < 0) := fun q => q.elim (fun w => h_23 w) (fun w => absurd h_32 (Int32.not_le.mpr w))
            unfold aCopy
            rw [if_pos ⟨h_4, h_11⟩, if_neg nn, if_pos h_51, if_neg (fun q => h_51 q.2.2.1)]
            exact ⟨rfl, rfl⟩
        · skip
          refine q_ldc_w 38 dX6_copy_35 rfl cs_X6_319 ?_
          refine q_iret dX6_copy_38 ?_
          have hq : M 34 0 (tn f) < 0 ∨ M 34 0 (tn t) < 0 := by first | exact Or.inl h_23 | exact Or.inr (Int32.not_le.mp h_32)
          unfold aCopy
          rw [if_pos ⟨h_4, h_11⟩, if_pos hq, if_neg (fun q => q.2.1 hq)]
          exact ⟨rfl, rfl⟩
    · skip
      simp only [bI_0, Classical.not_not] at h_11
      refine q_ldc 16 dX6_copy_14 rfl cs_X6_110 ?_
      refine q_iret dX6_copy_16 ?_
      have hC : ¬ (isS f ∧ isS t) := fun q => by first | exact h_4 q.1 | exact h_11 q.2
      rw [if_neg hC, if_neg (fun q => hC q.1)]
      exact ⟨rfl, rfl⟩
