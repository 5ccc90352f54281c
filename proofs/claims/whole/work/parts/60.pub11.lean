/-! THE CLASS: a sheet is poured -/
theorem poC_s (row : Nat → Int32) (s : SS) (k : Nat) : poC row s (k + 1) = poC row s k + (if poV row s k = mk s k 1 then 0 else 1) := rfl
theorem poS_0 (row : Nat → Int32) (s : SS) (k : Nat) : nN (poS row s k) = nN s := nN_c (poS_n row s k 0 (fun j _ => by omega))
set_option maxRecDepth 100000 in
set_option maxHeartbeats 4000000 in
theorem l5_pour {g : GT} (M : TM) (x : Int32) (kk z : Nat) (k4 : kk < 4) (z24 : z ≤ 24) (ez : M 1 kk 2 = nI z) (s : SS) (h10 : nN s ≤ 10) : ∀ (j : Nat) (k : Nat) (N : TM) (y o : Int32), Kp 0 M N → RW N 0 (poS (M 12 kk) s k) → min z (nN s) - k < j → k ≤ min z (nN s) → y = nI k → o = poC (M 12 kk) s k → TR g (rmD 2) RX5 cX5_pour 6 (some .int) 0 0 (Zm g (PN (poC (M 12 kk) s (min z (nN s))) M (poS (M 12 kk) s (min z (nN s))))) 33 [some (.ref (gad g 5 0)), some (.int x), some (.ref (gad g 1 kk)), some (.int o), some (.int y), none] [] N := by
  intro j
  induction j with
  | zero => intro k N y o hK hRk hj hk hy ho; exact absurd hj (by omega)
  | succ j ih =>
    intro k N y o hK hRk hj hk hy ho
    subst hy
    have e11 : N 4 0 11 = nI (nN s) := hRk.1.2.1.1.trans (congrArg nI (poS_0 _ _ _))
    have e12 : N 12 kk = M 12 kk := hK 12 kk (by decide) (by omega)
    have e2 : N 1 kk 2 = nI z := (congrArg (fun f => f 2) (hK 1 kk (by decide) (by omega))).trans ez
    refine q_iload 35 dX5_pour_33 rfl rfl ?_
    refine q_aload_n 36 dX5_pour_35 rfl rfl ?_
    refine q_getR 39 dX5_pour_36 rfl fl_X5_21 (by decide) rfl rfl ?_
    refine q_getI 42 dX5_pour_39 rfl fl_X5_74 (by decide) rfl (by decide) ?_
    refine q_icmp_ge 134 45 dX5_pour_42 rfl rfl (fun h_42 => ?_) (fun h_42 => ?_)
    · skip
      rw [e11, nI_leI (by omega) (by omega)] at h_42
      refine q_iload_n 135 dX5_pour_134 rfl rfl ?_
      refine q_iret dX5_pour_135 ?_
      have e : k = min z (nN s) := by omega
      subst e
      exact ⟨congrArg (fun x => some (Value.int x)) ho, hK, hRk⟩
    · skip
      rw [e11, nI_leI (by omega) (by omega)] at h_42
      refine q_iload 47 dX5_pour_45 rfl rfl ?_
      refine q_aload_n 48 dX5_pour_47 rfl rfl ?_
      refine q_getI 51 dX5_pour_48 rfl fl_X5_263 (show kk < 9 by omega) rfl (by decide) ?_
      refine q_icmp_ge 134 54 dX5_pour_51 rfl rfl (fun h_51 => ?_) (fun h_51 => ?_)
      · skip
        rw [e2, nI_leI (by omega) (by omega)] at h_51
        refine q_iload_n 135 dX5_pour_134 rfl rfl ?_
        refine q_iret dX5_pour_135 ?_
        have e : k = min z (nN s) := by omega
        subst e
        exact ⟨congrArg (fun x => some (Value.int x)) ho, hK, hRk⟩
      · skip
        rw [e2, nI_leI (by omega) (by omega)] at h_51
        have v22 : N 22 0 k = mk s k 1 := (hRk.1.2.2 k (by rw [poS_0]; omega)).2.2.1.trans (poS_n _ _ _ _ (fun j hj => by show 21 + 5 * k + 1 ≠ 21 + 5 * j + 1; omega))
        refine q_aload_n 55 dX5_pour_54 rfl rfl ?_
        refine q_getR 58 dX5_pour_55 rfl fl_X5_271 (show kk < 9 by omega) rfl rfl ?_
        refine q_iload 60 dX5_pour_58 rfl rfl ?_
        refine q_iald 61 dX5_pour_60 rfl (by decide) (show kk < 9 by omega) rfl (show k < 24 by omega) ?_
        refine q_ldc 63 dX5_pour_61 rfl cs_X5_161 ?_
        refine q_icmp_ne 79 66 dX5_pour_63 rfl rfl (fun h_63 => ?_) (fun h_63 => ?_)
        · skip
          rw [e12] at h_63
          have hv : maF 0 (miF 99 (N 12 kk k)) = poV (M 12 kk) s k := by rw [held_wi _ _ (by decide), e12]; unfold poV; rw [if_neg h_63]
          refine q_aload_n 80 dX5_pour_79 rfl rfl ?_
          refine q_getR 83 dX5_pour_80 rfl fl_X5_271 (show kk < 9 by omega) rfl rfl ?_
          refine q_iload 85 dX5_pour_83 rfl rfl ?_
          refine q_iald 86 dX5_pour_85 rfl (by decide) (show kk < 9 by omega) rfl (show k < 24 by omega) ?_
          refine q_bipush (v := 99) 88 dX5_pour_86 rfl rfl ?_
          refine q_callSt 91 dX5_pour_88 rfl (c5_held _ _ _) cw_X5_274 rfl rfl ⟨by decide, by decide⟩ ⟨by decide, by decide⟩ (Nat.le_of_ble_eq_true rfl) ?_
          refine q_istore 93 dX5_pour_91 rfl (by decide) rfl ?_
          refine q_iload_n 94 dX5_pour_93 rfl rfl ?_
          refine q_iload 96 dX5_pour_94 rfl rfl ?_
          refine q_aload_n 97 dX5_pour_96 rfl rfl ?_
          refine q_getR 100 dX5_pour_97 rfl fl_X5_21 (by decide) rfl rfl ?_
          refine q_getR 103 dX5_pour_100 rfl fl_X5_89 (by decide) rfl rfl ?_
          refine q_iload 105 dX5_pour_103 rfl rfl ?_
          refine q_iald 106 dX5_pour_105 rfl (by decide) (by decide) rfl (show k < 10 by omega) ?_
          refine q_icmp_ne 113 109 dX5_pour_106 rfl rfl (fun h_106 => ?_) (fun h_106 => ?_)
          · skip
            try rw [hv, v22] at h_106
            refine q_iconst (v := 1) 114 dX5_pour_113 rfl rfl ?_
            refine q_iadd 115 dX5_pour_114 rfl ?_
            refine q_istore_n 116 dX5_pour_115 rfl (by decide) rfl ?_
            refine q_aload_n 117 dX5_pour_116 rfl rfl ?_
            refine q_getR 120 dX5_pour_117 rfl fl_X5_21 (by decide) rfl rfl ?_
            refine q_getR 123 dX5_pour_120 rfl fl_X5_89 (by decide) rfl rfl ?_
            refine q_iload 125 dX5_pour_123 rfl rfl ?_
            refine q_iload 127 dX5_pour_125 rfl rfl ?_
            refine q_iast 128 dX5_pour_127 rfl (by decide) (by decide) rfl (show k < 10 by omega) ?_
            refine q_iinc 131 dX5_pour_128 rfl rfl (by decide) rfl (nI_1 k) ?_
            refine q_goto 33 dX5_pour_131 rfl ?_
            rw [hv]
            refine q_fg (ih (k + 1) _ _ _ (hK.tr (Kp.put Kp.rf (by omega))) (RW_mk hRk (by rw [poS_0]; exact h10) (m := k) (v := 1) (by omega) (by omega) _) (by omega) (by omega) rfl ?_) ⟨rfl, rfl, rfl, rfl, rfl, trivial⟩
            rw [poC_s, ho]
            first | exact absurd rfl h_106 | (have hq : poV (M 12 kk) s k = mk s k 1 := hv.symm.trans v22; rw [if_pos hq]; done) | (have hq := h_106; rw [if_pos hq]; done) | (have hq := h_106; rw [if_neg hq]; done)
          · skip
            try rw [hv, v22] at h_106
            refine q_iconst (v := 0) 110 dX5_pour_109 rfl rfl ?_
            refine q_goto 114 dX5_pour_110 rfl ?_
            refine q_iadd 115 dX5_pour_114 rfl ?_
            refine q_istore_n 116 dX5_pour_115 rfl (by decide) rfl ?_
            refine q_aload_n 117 dX5_pour_116 rfl rfl ?_
            refine q_getR 120 dX5_pour_117 rfl fl_X5_21 (by decide) rfl rfl ?_
            refine q_getR 123 dX5_pour_120 rfl fl_X5_89 (by decide) rfl rfl ?_
            refine q_iload 125 dX5_pour_123 rfl rfl ?_
            refine q_iload 127 dX5_pour_125 rfl rfl ?_
            refine q_iast 128 dX5_pour_127 rfl (by decide) (by decide) rfl (show k < 10 by omega) ?_
            refine q_iinc 131 dX5_pour_128 rfl rfl (by decide) rfl (nI_1 k) ?_
            refine q_goto 33 dX5_pour_131 rfl ?_
            rw [hv]
            refine q_fg (ih (k + 1) _ _ _ (hK.tr (Kp.put Kp.rf (by omega))) (RW_mk hRk (by rw [poS_0]; exact h10) (m := k) (v := 1) (by omega) (by omega) _) (by omega) (by omega) rfl ?_) ⟨rfl, rfl, rfl, rfl, rfl, trivial⟩
            rw [poC_s, ho]
            first | exact absurd rfl h_106 | (have hq : poV (M 12 kk) s k = mk s k 1 := hv.symm.trans v22; rw [if_pos hq]; done) | (have hq := h_106; rw [if_pos hq]; done) | (have hq := h_106; rw [if_neg hq]; done)
        · skip
          rw [e12] at h_63
          have hv : N 22 0 k = poV (M 12 kk) s k := by rw [v22]; unfold poV; rw [if_pos h_63]
          refine q_aload_n 67 dX5_pour_66 rfl rfl ?_
          refine q_getR 70 dX5_pour_67 rfl fl_X5_21 (by decide) rfl rfl ?_
          refine q_getR 73 dX5_pour_70 rfl fl_X5_89 (by decide) rfl rfl ?_
          refine q_iload 75 dX5_pour_73 rfl rfl ?_
          refine q_iald 76 dX5_pour_75 rfl (by decide) (by decide) rfl (show k < 10 by omega) ?_
          refine q_goto 91 dX5_pour_76 rfl ?_
          refine q_istore 93 dX5_pour_91 rfl (by decide) rfl ?_
          refine q_iload_n 94 dX5_pour_93 rfl rfl ?_
          refine q_iload 96 dX5_pour_94 rfl rfl ?_
          refine q_aload_n 97 dX5_pour_96 rfl rfl ?_
          refine q_getR 100 dX5_pour_97 rfl fl_X5_21 (by decide) rfl rfl ?_
          refine q_getR 103 dX5_pour_100 rfl fl_X5_89 (by decide) rfl rfl ?_
          refine q_iload 105 dX5_pour_103 rfl rfl ?_
          refine q_iald 106 dX5_pour_105 rfl (by decide) (by decide) rfl (show k < 10 by omega) ?_
          refine q_icmp_ne 113 109 dX5_pour_106 rfl rfl (fun h_106 => ?_) (fun h_106 => ?_)
          · skip
            try rw [hv, v22] at h_106
            refine q_iconst (v := 1) 114 dX5_pour_113 rfl rfl ?_
            refine q_iadd 115 dX5_pour_114 rfl ?_
            refine q_istore_n 116 dX5_pour_115 rfl (by decide) rfl ?_
            refine q_aload_n 117 dX5_pour_116 rfl rfl ?_
            refine q_getR 120 dX5_pour_117 rfl fl_X5_21 (by decide) rfl rfl ?_
            refine q_getR 123 dX5_pour_120 rfl fl_X5_89 (by decide) rfl rfl ?_
            refine q_iload 125 dX5_pour_123 rfl rfl ?_
            refine q_iload 127 dX5_pour_125 rfl rfl ?_
            refine q_iast 128 dX5_pour_127 rfl (by decide) (by decide) rfl (show k < 10 by omega) ?_
            refine q_iinc 131 dX5_pour_128 rfl rfl (by decide) rfl (nI_1 k) ?_
            refine q_goto 33 dX5_pour_131 rfl ?_
            rw [hv]
            refine q_fg (ih (k + 1) _ _ _ (hK.tr (Kp.put Kp.rf (by omega))) (RW_mk hRk (by rw [poS_0]; exact h10) (m := k) (v := 1) (by omega) (by omega) _) (by omega) (by omega) rfl ?_) ⟨rfl, rfl, rfl, rfl, rfl, trivial⟩
            rw [poC_s, ho]
            first | exact absurd rfl h_106 | (have hq : poV (M 12 kk) s k = mk s k 1 := hv.symm.trans v22; rw [if_pos hq]; done) | (have hq := h_106; rw [if_pos hq]; done) | (have hq := h_106; rw [if_neg hq]; done)
          · skip
            try rw [hv, v22] at h_106
            refine q_iconst (v := 0) 110 dX5_pour_109 rfl rfl ?_
            refine q_goto 114 dX5_pour_110 rfl ?_
            refine q_iadd 115 dX5_pour_114 rfl ?_
            refine q_istore_n 116 dX5_pour_115 rfl (by decide) rfl ?_
            refine q_aload_n 117 dX5_pour_116 rfl rfl ?_
            refine q_getR 120 dX5_pour_117 rfl fl_X5_21 (by decide) rfl rfl ?_
            refine q_getR 123 dX5_pour_120 rfl fl_X5_89 (by decide) rfl rfl ?_
            refine q_iload 125 dX5_pour_123 rfl rfl ?_
            refine q_iload 127 dX5_pour_125 rfl rfl ?_
            refine q_iast 128 dX5_pour_127 rfl (by decide) (by decide) rfl (show k < 10 by omega) ?_
            refine q_iinc 131 dX5_pour_128 rfl rfl (by decide) rfl (nI_1 k) ?_
            refine q_goto 33 dX5_pour_131 rfl ?_
            rw [hv]
            refine q_fg (ih (k + 1) _ _ _ (hK.tr (Kp.put Kp.rf (by omega))) (RW_mk hRk (by rw [poS_0]; exact h10) (m := k) (v := 1) (by omega) (by omega) _) (by omega) (by omega) rfl ?_) ⟨rfl, rfl, rfl, rfl, rfl, trivial⟩
            rw [poC_s, ho]
            first | exact absurd rfl h_106 | (have hq : poV (M 12 kk) s k = mk s k 1 := hv.symm.trans v22; rw [if_pos hq]; done) | (have hq := h_106; rw [if_pos hq]; done) | (have hq := h_106; rw [if_neg hq]; done)
set_option maxRecDepth 100000 in
set_option maxHeartbeats 4000000 in
theorem c5_pour {g : GT} (M : TM) (k : Int32) (hS : WS5 M) (s : SS) (hR : RW M 0 s) (hW : WF 9999 s) (hT : RT M s) : Cn g yX5_pour cX5_pour 6 (some .int) 2 [.ref (gad g 5 0), .int k] M (PN (if isS k then aPour (M 1 (tn k) 1) (tn (M 1 (tn k) 2)) (M 12 (tn k)) s else BADc) M (if isS k then sPour (M 1 (tn k) 1) (tn (M 1 (tn k) 2)) (M 12 (tn k)) s else s)) := by
  refine Cn.ofTR (by decide +kernel) (Nat.le_of_ble_eq_true rfl) ?_
  refine q_iload_n 1 dX5_pour_0 rfl rfl ?_
  refine q_callSt 4 dX5_pour_1 rfl (c5_isSheet _ _) cw_X5_212 rfl rfl ⟨by decide, by decide⟩ ⟨by decide, by decide⟩ (Nat.le_of_ble_eq_true rfl) ?_
  refine q_if_ne 10 7 dX5_pour_4 rfl rfl (fun h_4 => ?_) (fun h_4 => ?_)
  · skip
    simp only [bI_0, Classical.not_not] at h_4
    obtain ⟨ek, lk⟩ := rg_tn h_4 (n := 3) rfl
    have k4 : tn k < 4 := by omega
    obtain ⟨hso, z, z24, ez⟩ := hS (tn k) k4
    refine q_aload_n 11 dX5_pour_10 rfl rfl ?_
    refine q_iload_n 12 dX5_pour_11 rfl rfl ?_
    refine q_callVt 15 dX5_pour_12 rfl (c5_isMissing _ _ (tn k) ek k4) cw_X5_215 (by decide) rfl rfl ⟨by decide, by decide⟩ ⟨by decide, by decide⟩ (Nat.le_of_ble_eq_true rfl) ?_
    refine q_if_eq 21 18 dX5_pour_15 rfl rfl (fun h_15 => ?_) (fun h_15 => ?_)
    · skip
      simp only [bI_0, Classical.not_not] at h_15
      rw [ms_iff hso] at h_15
      refine q_aload_n 22 dX5_pour_21 rfl rfl ?_
      refine q_getR 25 dX5_pour_22 rfl fl_X5_44 (by decide) rfl rfl ?_
      refine q_iload_n 26 dX5_pour_25 rfl rfl ?_
      refine q_aald7 27 dX5_pour_26 rfl ek k4 ?_
      refine q_astore_n 28 dX5_pour_27 rfl (by decide) rfl ?_
      refine q_iconst (v := 0) 29 dX5_pour_28 rfl rfl ?_
      refine q_istore_n 30 dX5_pour_29 rfl (by decide) rfl ?_
      refine q_iconst (v := 0) 31 dX5_pour_30 rfl rfl ?_
      refine q_istore 33 dX5_pour_31 rfl (by decide) rfl ?_
      rw [if_pos h_4, if_pos h_4]
      unfold aPour sPour
      rw [if_neg h_15, if_neg h_15, ez, show tn (nI z) = z from nI_clamp (by omega)]
      exact q_fg (l5_pour M k (tn k) z k4 z24 ez s hW.1.2 (min z (nN s) + 1) 0 M _ _ Kp.rf hR (by omega) (by omega) rfl rfl) ⟨rfl, rfl, rfl, rfl, rfl, trivial⟩
    · skip
      simp only [bI_0, Classical.not_not] at h_15
      rw [ms_iff hso] at h_15
      refine q_ldc 20 dX5_pour_18 rfl cs_X5_218 ?_
      refine q_iret dX5_pour_20 ?_
      rw [if_pos h_4, if_pos h_4]
      unfold aPour sPour
      rw [if_pos h_15, if_pos h_15]
      exact ⟨rfl, Kp.rf, hR⟩
  · skip
    simp only [bI_0, Classical.not_not] at h_4
    refine q_ldc 9 dX5_pour_7 rfl cs_X5_73 ?_
    refine q_iret dX5_pour_9 ?_
    rw [if_neg h_4, if_neg h_4]
    exact ⟨rfl, Kp.rf, hR⟩
