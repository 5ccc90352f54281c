/-! THE CLASS: marks, cells, rules -/
theorem RW_row {M : TM} {w : Nat} {s s' : SS} {t : Nat} {F : Nat → Int32} (hR : RW M w s) (h10 : nN s ≤ 10) (ht : 18 ≤ t ∧ t ≤ 26 ∧ t ≠ 20) (h0 : s' 0 = s 0) (h1 : s' 1 = s 1) (h3 : ∀ k, k < 10 → mk s' k 3 = mk s k 3) (hh : ∀ i, 71 ≤ i → s' i = s i) (h678 : s' 2 = s 2 ∧ s' 6 = s 6 ∧ s' 7 = s 7 ∧ s' 8 = s 8)
    (hc : ∀ c, c < 6 → putA M t w F 18 w c = s' (9 + c) ∧ putA M t w F 19 w c = s' (15 + c)) (hr : putA M t w F 26 w 0 = s' 3 ∧ putA M t w F 26 w 1 = s' 4 ∧ putA M t w F 26 w 2 = s' 5) (hm : ∀ i, i < nN s → RM (putA M t w F) w s' i i) : RW (putA M t w F) w s' := by
  obtain ⟨⟨hC, ⟨h11, hm10⟩, hM⟩, hs, htt⟩ := hR
  have e4 : putA M t w F 4 w = M 4 w := putA_nt _ _ _ _ (by omega)
  have e20 : putA M t w F 20 w = M 20 w := putA_nt _ _ _ _ (by omega)
  have e27 : putA M t w F 27 w = M 27 w := putA_nt _ _ _ _ (by omega)
  refine ⟨⟨RC_to hC h10 h0 h1 h3 hh hc e20 e27 hr ?_, ?_, ?_⟩, ?_, ?_⟩
  · rw [e4, h678.1, h678.2.2.1, h678.2.2.2]; exact hC.2.2.2
  · rw [e4, nN_c h0]; exact ⟨h11, hm10⟩
  · rw [nN_c h0]; exact fun i hi => ⟨hi, hm i hi⟩
  · rw [e4, h678.2.1]; exact hs
  · rw [e4, nT_c h1]; exact htt
theorem RM_upd {M : TM} {w : Nat} {s : SS} {m v : Nat} {x : Int32} (hv : v < 5) {i : Nat} (h : RM M w s i i) : RM (putA M (21 + v) w (upd (M (21 + v) w) m x)) w (upd s (21 + 5 * m + v) x) i i := by
  obtain ⟨r0, r1, r2, r3, r4⟩ := h
  have key : ∀ u, u < 5 → M (21 + u) w i = mk s i u → putA M (21 + v) w (upd (M (21 + v) w) m x) (21 + u) w i = mk (upd s (21 + 5 * m + v) x) i u := by
    intro u hu hr
    unfold mk
    by_cases e : u = v
    · subst e
      rw [putA_s]
      by_cases e2 : i = m
      · subst e2; rw [upd_s, upd_s]
      · rw [upd_n e2, upd_n (by omega)]; exact hr
    · rw [putA_nt _ _ _ _ (by omega), upd_n (by omega)]; exact hr
  exact ⟨key 0 (by omega) r0, key 1 (by omega) r1, key 2 (by omega) r2, key 3 (by omega) r3, key 4 (by omega) r4⟩
theorem RW_mk {M : TM} {w : Nat} {s : SS} (hR : RW M w s) (h10 : nN s ≤ 10) {m v : Nat} (hm : m < 10) (hv : v = 0 ∨ v = 1 ∨ v = 2 ∨ v = 4) (x : Int32) : RW (putA M (21 + v) w (upd (M (21 + v) w) m x)) w (upd s (21 + 5 * m + v) x) := by
  have ol : ∀ i, i < 21 ∨ 71 ≤ i → upd s (21 + 5 * m + v) x i = s i := fun i hi => upd_n (by omega)
  refine RW_row hR h10 (by omega) (ol 0 (by omega)) (ol 1 (by omega)) (fun k _ => upd_n (by omega)) (fun i hi => ol i (by omega)) ⟨ol 2 (by omega), ol 6 (by omega), ol 7 (by omega), ol 8 (by omega)⟩ (fun c hc => ?_) ?_ (fun i hi => RM_upd (by omega) (hR.1.2.2 i hi).2)
  · rw [putA_nt _ _ _ _ (by omega), putA_nt _ _ _ _ (by omega), ol _ (by omega), ol _ (by omega)]; exact ⟨(hR.1.1.1 c hc).1, (hR.1.1.1 c hc).2.1⟩
  · rw [putA_nt _ _ _ _ (by omega), ol _ (by omega), ol _ (by omega), ol _ (by omega)]; exact hR.1.1.2.1
theorem RM_c {M M' : TM} {w i : Nat} {s s' : SS} (h : RM M w s i i) (hM : ∀ t, 21 ≤ t → t ≤ 25 → M' t w = M t w) (hs : ∀ k v, v < 5 → k < 10 → mk s' k v = mk s k v) (hi : i < 10) : RM M' w s' i i := by
  unfold RM
  rw [hM 21 (by omega) (by omega), hM 22 (by omega) (by omega), hM 23 (by omega) (by omega), hM 24 (by omega) (by omega), hM 25 (by omega) (by omega), hs i 0 (by omega) hi, hs i 1 (by omega) hi, hs i 2 (by omega) hi, hs i 3 (by omega) hi, hs i 4 (by omega) hi]
  exact h
theorem RW_cell {M : TM} {w : Nat} {s : SS} (hR : RW M w s) (h10 : nN s ≤ 10) {c v : Nat} (hc : c < 6) (hv : v = 0 ∨ v = 1) (x : Int32) : RW (putA M (18 + v) w (upd (M (18 + v) w) c x)) w (upd s (9 + 6 * v + c) x) := by
  have ol : ∀ i, i < 9 ∨ 21 ≤ i → upd s (9 + 6 * v + c) x i = s i := fun i hi => upd_n (by omega)
  refine RW_row hR h10 (by omega) (ol 0 (by omega)) (ol 1 (by omega)) (fun k _ => ol _ (by omega)) (fun i hi => ol i (by omega)) ⟨ol 2 (by omega), ol 6 (by omega), ol 7 (by omega), ol 8 (by omega)⟩ (fun c' hc' => ?_) ?_ (fun i hi => RM_c (hR.1.2.2 i hi).2 (fun t _ _ => putA_nt _ _ _ _ (by omega)) (fun k u _ _ => ol _ (by omega)) (by omega))
  · obtain ⟨a1, a2, -⟩ := hR.1.1.1 c' hc'
    rcases hv with rfl | rfl
    · rw [putA_s, putA_nt _ _ _ _ (by omega)]
      refine ⟨?_, by rw [upd_n (by omega)]; exact a2⟩
      by_cases e : c' = c
      · subst e; rw [upd_s]; exact upd_s.symm
      · rw [upd_n e, upd_n (by omega)]; exact a1
    · rw [putA_s, putA_nt _ _ _ _ (by omega)]
      refine ⟨by rw [upd_n (by omega)]; exact a1, ?_⟩
      by_cases e : c' = c
      · subst e; rw [upd_s]; exact upd_s.symm
      · rw [upd_n e, upd_n (by omega)]; exact a2
  · rw [putA_nt _ _ _ _ (by omega), ol _ (by omega), ol _ (by omega), ol _ (by omega)]; exact hR.1.1.2.1
theorem RW_rule {M : TM} {w : Nat} {s : SS} (hR : RW M w s) (h10 : nN s ≤ 10) {c : Nat} (hc : c < 3) (x : Int32) : RW (putA M 26 w (upd (M 26 w) c x)) w (upd s (3 + c) x) := by
  have ol : ∀ i, i < 3 ∨ 6 ≤ i → upd s (3 + c) x i = s i := fun i hi => upd_n (by omega)
  refine RW_row hR h10 (by omega) (ol 0 (by omega)) (ol 1 (by omega)) (fun k _ => ol _ (by omega)) (fun i hi => ol i (by omega)) ⟨ol 2 (by omega), ol 6 (by omega), ol 7 (by omega), ol 8 (by omega)⟩ (fun c' hc' => ?_) ?_ (fun i hi => RM_c (hR.1.2.2 i hi).2 (fun t _ _ => putA_nt _ _ _ _ (by omega)) (fun k u _ _ => ol _ (by omega)) (by omega))
  · rw [putA_nt _ _ _ _ (by omega), putA_nt _ _ _ _ (by omega), ol _ (by omega), ol _ (by omega)]; exact ⟨(hR.1.1.1 c' hc').1, (hR.1.1.1 c' hc').2.1⟩
  · obtain ⟨a0, a1, a2⟩ := hR.1.1.2.1
    rw [putA_s]
    have : c = 0 ∨ c = 1 ∨ c = 2 := by omega
    rcases this with rfl | rfl | rfl
    · exact ⟨rfl, a1, a2⟩
    · exact ⟨a0, rfl, a2⟩
    · exact ⟨a0, a1, rfl⟩
theorem RW_z {M : TM} {w : Nat} {s : SS} (hR : RW M w s) (h10 : nN s ≤ 10) (x : Int32) : RW (putA M 4 w (upd (M 4 w) 15 x)) w (upd s 8 x) := by
  obtain ⟨⟨hC, ⟨h11, hm⟩, hM⟩, hs, ht⟩ := hR
  have o : ∀ i, i ≠ 8 → upd s 8 x i = s i := fun i hi => upd_n hi
  have q : ∀ i, i ≠ 15 → putA M 4 w (upd (M 4 w) 15 x) 4 w i = M 4 w i := fun i hi => by rw [putA_s, upd_n hi]
  refine ⟨⟨RC_to hC h10 (o 0 (by omega)) (o 1 (by omega)) (fun k hk => o _ (by omega)) (fun i hi => o i (by omega)) (fun c hc => ?_) rfl rfl ?_ ?_, ⟨?_, ?_⟩, fun i hi => ?_⟩, ?_, ?_⟩
  · rw [o _ (by omega), o _ (by omega)]; exact ⟨(hC.1 c hc).1, (hC.1 c hc).2.1⟩
  · rw [o _ (by omega), o _ (by omega), o _ (by omega)]; exact hC.2.1
  · rw [o 7 (by omega), o 2 (by omega), q 13 (by omega), q 14 (by omega), upd_s, putA_upd]; exact ⟨hC.2.2.2.1, hC.2.2.2.2.1, rfl⟩
  · rw [q 11 (by omega), nN_c (o 0 (by omega))]; exact h11
  · rw [nN_c (o 0 (by omega))]; exact h10
  · rw [nN_c (o 0 (by omega))] at hi ⊢
    exact ⟨hi, RM_c (hM i hi).2 (fun t _ _ => putA_nt _ _ _ _ (by omega)) (fun k u _ _ => o _ (by omega)) (by omega)⟩
  · rw [q 12 (by omega), o 6 (by omega)]; exact hs
  · rw [q 16 (by omega), nT_c (o 1 (by omega))]; exact ht
abbrev PN (a : Int32) (M : TM) (S : SS) : Option Value → TM → Prop := fun r M' => r = some (.int a) ∧ Kp 0 M M' ∧ RW M' 0 S
set_option maxRecDepth 100000 in
set_option maxHeartbeats 4000000 in
theorem c5_writes {g : GT} (M : TM) (k i d c : Int32) (s : SS) (hR : RW M 0 s) (hW : WF 9999 s) (hT : RT M s) : Cn g yX5_writes cX5_writes 5 (some .int) 2 [.ref (gad g 5 0), .int k, .int i, .int d, .int c] M (PN (aWrites s k i d c) M (sWrites s k i d c)) := by
  refine Cn.ofTR (by decide +kernel) (Nat.le_of_ble_eq_true rfl) ?_
  have hR0 := hR
  obtain ⟨⟨hC, ⟨h11, hm10⟩, hM⟩, h12, h16⟩ := hR
  have hW0 := hW
  obtain ⟨⟨hn, hn10⟩, hsp, hr, hc, hm, ht⟩ := hW
  have e11 : M 4 0 11 = s 0 := h11.trans hn.symm
  refine q_iload_n 1 dX5_writes_0 rfl rfl ?_
  refine q_callSt 4 dX5_writes_1 rfl (c5_isKind _ _) cw_X5_62 rfl rfl ⟨by decide, by decide⟩ ⟨by decide, by decide⟩ (Nat.le_of_ble_eq_true rfl) ?_
  refine q_if_eq 36 7 dX5_writes_4 rfl rfl (fun h_4 => ?_) (fun h_4 => ?_)
  · skip
    simp only [bI_0, Classical.not_not] at h_4
    refine q_ldc 38 dX5_writes_36 rfl cs_X5_73 ?_
    refine q_iret dX5_writes_38 ?_
    refine ⟨congrArg (fun x => some (Value.int x)) ?_, Kp.rf, ?_⟩
    · unfold aWrites
      rw [if_neg (fun q => by first | exact h_4 q.1 | exact h_14 q.2.1 | exact h_25 q.2.2.1 | exact h_33 q.2.2.2)]
    · unfold sWrites
      rw [if_neg (fun q => (fun q => by first | exact h_4 q.1 | exact h_14 q.2.1 | exact h_25 q.2.2.1 | exact h_33 q.2.2.2) q.1)]
      exact hR0
  · skip
    simp only [bI_0, Classical.not_not] at h_4
    refine q_iload_n 8 dX5_writes_7 rfl rfl ?_
    refine q_iconst (v := 0) 9 dX5_writes_8 rfl rfl ?_
    refine q_bipush (v := 99) 11 dX5_writes_9 rfl rfl ?_
    refine q_callSt 14 dX5_writes_11 rfl (c5_within _ _ _ _) cw_X5_66 rfl rfl ⟨by decide, by decide⟩ ⟨by decide, by decide⟩ (Nat.le_of_ble_eq_true rfl) ?_
    refine q_if_eq 36 17 dX5_writes_14 rfl rfl (fun h_14 => ?_) (fun h_14 => ?_)
    · skip
      simp only [bI_0, Classical.not_not] at h_14
      refine q_ldc 38 dX5_writes_36 rfl cs_X5_73 ?_
      refine q_iret dX5_writes_38 ?_
      refine ⟨congrArg (fun x => some (Value.int x)) ?_, Kp.rf, ?_⟩
      · unfold aWrites
        rw [if_neg (fun q => by first | exact h_4 q.1 | exact h_14 q.2.1 | exact h_25 q.2.2.1 | exact h_33 q.2.2.2)]
      · unfold sWrites
        rw [if_neg (fun q => (fun q => by first | exact h_4 q.1 | exact h_14 q.2.1 | exact h_25 q.2.2.1 | exact h_33 q.2.2.2) q.1)]
        exact hR0
    · skip
      simp only [bI_0, Classical.not_not] at h_14
      refine q_iload_n 18 dX5_writes_17 rfl rfl ?_
      refine q_iconst (v := 0) 19 dX5_writes_18 rfl rfl ?_
      refine q_sipush (v := 9999) 22 dX5_writes_19 rfl rfl ?_
      refine q_callSt 25 dX5_writes_22 rfl (c5_within _ _ _ _) cw_X5_66 rfl rfl ⟨by decide, by decide⟩ ⟨by decide, by decide⟩ (Nat.le_of_ble_eq_true rfl) ?_
      refine q_if_eq 36 28 dX5_writes_25 rfl rfl (fun h_25 => ?_) (fun h_25 => ?_)
      · skip
        simp only [bI_0, Classical.not_not] at h_25
        refine q_ldc 38 dX5_writes_36 rfl cs_X5_73 ?_
        refine q_iret dX5_writes_38 ?_
        refine ⟨congrArg (fun x => some (Value.int x)) ?_, Kp.rf, ?_⟩
        · unfold aWrites
          rw [if_neg (fun q => by first | exact h_4 q.1 | exact h_14 q.2.1 | exact h_25 q.2.2.1 | exact h_33 q.2.2.2)]
        · unfold sWrites
          rw [if_neg (fun q => (fun q => by first | exact h_4 q.1 | exact h_14 q.2.1 | exact h_25 q.2.2.1 | exact h_33 q.2.2.2) q.1)]
          exact hR0
      · skip
        simp only [bI_0, Classical.not_not] at h_25
        refine q_iload 30 dX5_writes_28 rfl rfl ?_
        refine q_callSt 33 dX5_writes_30 rfl (c5_isCell _ _) cw_X5_70 rfl rfl ⟨by decide, by decide⟩ ⟨by decide, by decide⟩ (Nat.le_of_ble_eq_true rfl) ?_
        refine q_if_ne 39 36 dX5_writes_33 rfl rfl (fun h_33 => ?_) (fun h_33 => ?_)
        · skip
          simp only [bI_0, Classical.not_not] at h_33
          refine q_aload_n 40 dX5_writes_39 rfl rfl ?_
          refine q_getR 43 dX5_writes_40 rfl fl_X5_21 (by decide) rfl rfl ?_
          refine q_getI 46 dX5_writes_43 rfl fl_X5_74 (by decide) rfl (by decide) ?_
          refine q_bipush (v := 10) 48 dX5_writes_46 rfl rfl ?_
          refine q_icmp_lt 54 51 dX5_writes_48 rfl rfl (fun h_48 => ?_) (fun h_48 => ?_)
          · skip
            rw [e11, hn, show (10 : Int32) = nI 10 from rfl, nI_ltI (by omega) (by omega)] at h_48
            obtain ⟨ec, lc⟩ := rg_tn h_33 (n := 5) rfl
            have h0 : ¬ s 0 = 10 := by rw [hn]; exact fun q => by have := nI_inj (b := 10) (by omega) (by omega) q; omega
            refine q_aload_n 55 dX5_writes_54 rfl rfl ?_
            refine q_getR 58 dX5_writes_55 rfl fl_X5_21 (by decide) rfl rfl ?_
            refine q_iload_n 59 dX5_writes_58 rfl rfl ?_
            refine q_iload_n 60 dX5_writes_59 rfl rfl ?_
            refine q_iload_n 61 dX5_writes_60 rfl rfl ?_
            refine q_iload 63 dX5_writes_61 rfl rfl ?_
            refine q_callVt 66 dX5_writes_63 rfl (c4_add _ 0 (by decide) (nN s) h11 (by omega) _ _ _ _ (tn c) ec (by omega)) cw_X5_79 (by decide) rfl rfl ⟨by decide, by decide⟩ ⟨by decide, by decide⟩ (Nat.le_of_ble_eq_true rfl) ?_
            refine q_iret dX5_writes_66 ?_
            refine ⟨congrArg (fun x => some (Value.int x)) ?_, adM_kp, ?_⟩
            · unfold aWrites
              rw [if_pos ⟨h_4, h_14, h_25, h_33⟩, if_neg h0]
              exact hn.symm
            · unfold sWrites
              rw [if_pos ⟨⟨h_4, h_14, h_25, h_33⟩, h0⟩]
              have q := adM_RW (k := k) (i := i) (d := d) hR0 hn (by omega) (show tn c < 6 by omega)
              rw [← ec] at q
              exact q
          · skip
            rw [e11, hn, show (10 : Int32) = nI 10 from rfl, nI_ltI (by omega) (by omega)] at h_48
            have h0 : s 0 = 10 := by rw [hn, show nN s = 10 by omega]; rfl
            refine q_ldc 53 dX5_writes_51 rfl cs_X5_78 ?_
            refine q_iret dX5_writes_53 ?_
            refine ⟨congrArg (fun x => some (Value.int x)) ?_, Kp.rf, ?_⟩
            · unfold aWrites
              rw [if_pos ⟨h_4, h_14, h_25, h_33⟩, if_pos h0]
            · unfold sWrites
              rw [if_neg (fun q => q.2 h0)]
              exact hR0
        · skip
          simp only [bI_0, Classical.not_not] at h_33
          refine q_ldc 38 dX5_writes_36 rfl cs_X5_73 ?_
          refine q_iret dX5_writes_38 ?_
          refine ⟨congrArg (fun x => some (Value.int x)) ?_, Kp.rf, ?_⟩
          · unfold aWrites
            rw [if_neg (fun q => by first | exact h_4 q.1 | exact h_14 q.2.1 | exact h_25 q.2.2.1 | exact h_33 q.2.2.2)]
          · unfold sWrites
            rw [if_neg (fun q => (fun q => by first | exact h_4 q.1 | exact h_14 q.2.1 | exact h_25 q.2.2.1 | exact h_33 q.2.2.2) q.1)]
            exact hR0
set_option maxRecDepth 100000 in
set_option maxHeartbeats 4000000 in
theorem c5_told {g : GT} (M : TM) (m w : Int32) (s : SS) (hR : RW M 0 s) (hW : WF 9999 s) (hT : RT M s) : Cn g yX5_told cX5_told 3 (some .int) 4 [.ref (gad g 5 0), .int m, .int w] M (Q17 (.int (aTold s m w)) M) := by
  refine Cn.ofTR (by decide +kernel) (Nat.le_of_ble_eq_true rfl) ?_
  have hR0 := hR
  obtain ⟨⟨hC, ⟨h11, hm10⟩, hM⟩, h12, h16⟩ := hR
  have hW0 := hW
  obtain ⟨⟨hn, hn10⟩, hsp, hr, hc, hm, ht⟩ := hW
  have e11 : M 4 0 11 = s 0 := h11.trans hn.symm
  refine q_aload_n 1 dX5_told_0 rfl rfl ?_
  refine q_iload_n 2 dX5_told_1 rfl rfl ?_
  refine q_callVt 5 dX5_told_2 rfl (c5_isMark _ _) cw_X5_83 (by decide) rfl rfl ⟨by decide, by decide⟩ ⟨by decide, by decide⟩ (Nat.le_of_ble_eq_true rfl) ?_
  refine q_if_ne 11 8 dX5_told_5 rfl rfl (fun h_5 => ?_) (fun h_5 => ?_)
  · skip
    simp only [bI_0, Classical.not_not] at h_5
    rw [e11] at h_5
    obtain ⟨em, lm⟩ := isM_nat hn hn10 h_5
    refine q_iload_n 12 dX5_told_11 rfl rfl ?_
    by_cases hs_12_0 : w = (0 : Int32)
    · skip
      refine q_tab 64 dX5_told_12 rfl (sw_eq hs_12_0 rfl) rfl ?_
      refine q_aload_n 65 dX5_told_64 rfl rfl ?_
      refine q_getR 68 dX5_told_65 rfl fl_X5_21 (by decide) rfl rfl ?_
      refine q_getR 71 dX5_told_68 rfl fl_X5_86 (by decide) rfl rfl ?_
      refine q_iload_n 72 dX5_told_71 rfl rfl ?_
      refine q_iald 73 dX5_told_72 rfl (by decide) (by decide) em (show tn m < 10 by omega) ?_
      refine q_iret dX5_told_73 ?_
      refine ⟨congrArg (fun x => some (Value.int x)) ?_, M 17 0, (putA_id M 17 0).symm⟩
      unfold aTold
      rw [hs_12_0, if_pos ⟨h_5, by decide⟩]
      exact (hM (tn m) lm).2.1
    by_cases hs_12_1 : w = (1 : Int32)
    · skip
      refine q_tab 74 dX5_told_12 rfl (sw_eq hs_12_1 rfl) rfl ?_
      refine q_aload_n 75 dX5_told_74 rfl rfl ?_
      refine q_getR 78 dX5_told_75 rfl fl_X5_21 (by decide) rfl rfl ?_
      refine q_getR 81 dX5_told_78 rfl fl_X5_89 (by decide) rfl rfl ?_
      refine q_iload_n 82 dX5_told_81 rfl rfl ?_
      refine q_iald 83 dX5_told_82 rfl (by decide) (by decide) em (show tn m < 10 by omega) ?_
      refine q_iret dX5_told_83 ?_
      refine ⟨congrArg (fun x => some (Value.int x)) ?_, M 17 0, (putA_id M 17 0).symm⟩
      unfold aTold
      rw [hs_12_1, if_pos ⟨h_5, by decide⟩]
      exact (hM (tn m) lm).2.2.1
    by_cases hs_12_2 : w = (2 : Int32)
    · skip
      refine q_tab 84 dX5_told_12 rfl (sw_eq hs_12_2 rfl) rfl ?_
      refine q_aload_n 85 dX5_told_84 rfl rfl ?_
      refine q_getR 88 dX5_told_85 rfl fl_X5_21 (by decide) rfl rfl ?_
      refine q_getR 91 dX5_told_88 rfl fl_X5_92 (by decide) rfl rfl ?_
      refine q_iload_n 92 dX5_told_91 rfl rfl ?_
      refine q_iald 93 dX5_told_92 rfl (by decide) (by decide) em (show tn m < 10 by omega) ?_
      refine q_iret dX5_told_93 ?_
      refine ⟨congrArg (fun x => some (Value.int x)) ?_, M 17 0, (putA_id M 17 0).symm⟩
      unfold aTold
      rw [hs_12_2, if_pos ⟨h_5, by decide⟩]
      exact (hM (tn m) lm).2.2.2.1
    by_cases hs_12_3 : w = (3 : Int32)
    · skip
      refine q_tab 94 dX5_told_12 rfl (sw_eq hs_12_3 rfl) rfl ?_
      refine q_aload_n 95 dX5_told_94 rfl rfl ?_
      refine q_getR 98 dX5_told_95 rfl fl_X5_21 (by decide) rfl rfl ?_
      refine q_getR 101 dX5_told_98 rfl fl_X5_95 (by decide) rfl rfl ?_
      refine q_iload_n 102 dX5_told_101 rfl rfl ?_
      refine q_iald 103 dX5_told_102 rfl (by decide) (by decide) em (show tn m < 10 by omega) ?_
      refine q_iret dX5_told_103 ?_
      refine ⟨congrArg (fun x => some (Value.int x)) ?_, M 17 0, (putA_id M 17 0).symm⟩
      unfold aTold
      rw [hs_12_3, if_pos ⟨h_5, by decide⟩]
      exact (hM (tn m) lm).2.2.2.2.1
    by_cases hs_12_4 : w = (4 : Int32)
    · skip
      refine q_tab 104 dX5_told_12 rfl (sw_eq hs_12_4 rfl) rfl ?_
      refine q_aload_n 105 dX5_told_104 rfl rfl ?_
      refine q_getR 108 dX5_told_105 rfl fl_X5_21 (by decide) rfl rfl ?_
      refine q_getR 111 dX5_told_108 rfl fl_X5_98 (by decide) rfl rfl ?_
      refine q_iload_n 112 dX5_told_111 rfl rfl ?_
      refine q_iald 113 dX5_told_112 rfl (by decide) (by decide) em (show tn m < 10 by omega) ?_
      refine q_iret dX5_told_113 ?_
      refine ⟨congrArg (fun x => some (Value.int x)) ?_, M 17 0, (putA_id M 17 0).symm⟩
      unfold aTold
      rw [hs_12_4, if_pos ⟨h_5, by decide⟩]
      exact (hM (tn m) lm).2.2.2.2.2
    by_cases hs_12_5 : w = (5 : Int32)
    · skip
      refine q_tab 114 dX5_told_12 rfl (sw_eq hs_12_5 rfl) rfl ?_
      refine q_aload_n 115 dX5_told_114 rfl rfl ?_
      refine q_getR 118 dX5_told_115 rfl fl_X5_21 (by decide) rfl rfl ?_
      refine q_iload_n 119 dX5_told_118 rfl rfl ?_
      refine q_callV 122 dX5_told_119 rfl (c4_shows _ 0 (by decide) m (tn m) (tn m) em (by omega) (by omega) s hC (hM (tn m) lm).2 hW0.m hT) cw_X5_101 (by decide) rfl rfl ⟨by decide, by decide⟩ ⟨by decide, by decide⟩ (Nat.le_of_ble_eq_true rfl) ?_
      rintro _ _ ⟨rfl, p, rfl⟩
      refine q_iret dX5_told_122 ?_
      refine ⟨congrArg (fun x => some (Value.int x)) ?_, p, rfl⟩
      unfold aTold
      rw [hs_12_5, if_pos ⟨h_5, by decide⟩]
      rfl
    by_cases hs_12_6 : w = (6 : Int32)
    · skip
      refine q_tab 123 dX5_told_12 rfl (sw_eq hs_12_6 rfl) rfl ?_
      refine q_aload_n 124 dX5_told_123 rfl rfl ?_
      refine q_getR 127 dX5_told_124 rfl fl_X5_21 (by decide) rfl rfl ?_
      refine q_iload_n 128 dX5_told_127 rfl rfl ?_
      refine q_callVt 131 dX5_told_128 rfl (c4_sinks _ 0 (by decide) m (tn m) (tn m) em (by omega) (by omega) s hC (hM (tn m) lm).2 hm) cw_X5_105 (by decide) rfl rfl ⟨by decide, by decide⟩ ⟨by decide, by decide⟩ (Nat.le_of_ble_eq_true rfl) ?_
      refine q_iret dX5_told_131 ?_
      refine ⟨congrArg (fun x => some (Value.int x)) ?_, M 17 0, (putA_id M 17 0).symm⟩
      unfold aTold
      rw [hs_12_6, if_pos ⟨h_5, by decide⟩]
      rfl
    by_cases hs_12_7 : w = (7 : Int32)
    · skip
      refine q_tab 132 dX5_told_12 rfl (sw_eq hs_12_7 rfl) rfl ?_
      refine q_aload_n 133 dX5_told_132 rfl rfl ?_
      refine q_getR 136 dX5_told_133 rfl fl_X5_21 (by decide) rfl rfl ?_
      refine q_iload_n 137 dX5_told_136 rfl rfl ?_
      refine q_callVt 140 dX5_told_137 rfl (c4_fades _ 0 (by decide) m (tn m) em (by omega)) cw_X5_108 (by decide) rfl rfl ⟨by decide, by decide⟩ ⟨by decide, by decide⟩ (Nat.le_of_ble_eq_true rfl) ?_
      refine q_iret dX5_told_140 ?_
      refine ⟨congrArg (fun x => some (Value.int x)) ?_, M 17 0, (putA_id M 17 0).symm⟩
      unfold aTold
      rw [hs_12_7, if_pos ⟨h_5, by decide⟩]
      exact congrArg faF (hM (tn m) lm).2.1
    by_cases hs_12_8 : w = (8 : Int32)
    · skip
      refine q_tab 141 dX5_told_12 rfl (sw_eq hs_12_8 rfl) rfl ?_
      refine q_aload_n 142 dX5_told_141 rfl rfl ?_
      refine q_getR 145 dX5_told_142 rfl fl_X5_21 (by decide) rfl rfl ?_
      refine q_getR 148 dX5_told_145 rfl fl_X5_86 (by decide) rfl rfl ?_
      refine q_iload_n 149 dX5_told_148 rfl rfl ?_
      refine q_iald 150 dX5_told_149 rfl (by decide) (by decide) em (show tn m < 10 by omega) ?_
      refine q_aload_n 151 dX5_told_150 rfl rfl ?_
      refine q_getR 154 dX5_told_151 rfl fl_X5_21 (by decide) rfl rfl ?_
      refine q_getR 157 dX5_told_154 rfl fl_X5_89 (by decide) rfl rfl ?_
      refine q_iload_n 158 dX5_told_157 rfl rfl ?_
      refine q_iald 159 dX5_told_158 rfl (by decide) (by decide) em (show tn m < 10 by omega) ?_
      refine q_aload_n 160 dX5_told_159 rfl rfl ?_
      refine q_getR 163 dX5_told_160 rfl fl_X5_21 (by decide) rfl rfl ?_
      refine q_getR 166 dX5_told_163 rfl fl_X5_98 (by decide) rfl rfl ?_
      refine q_iload_n 167 dX5_told_166 rfl rfl ?_
      refine q_iald 168 dX5_told_167 rfl (by decide) (by decide) em (show tn m < 10 by omega) ?_
      refine q_callSt 171 dX5_told_168 rfl (c5_worthOf _ _ _ _) cw_X5_111 rfl rfl ⟨by decide, by decide⟩ ⟨by decide, by decide⟩ (Nat.le_of_ble_eq_true rfl) ?_
      refine q_iret dX5_told_171 ?_
      refine ⟨congrArg (fun x => some (Value.int x)) ?_, M 17 0, (putA_id M 17 0).symm⟩
      unfold aTold
      rw [hs_12_8, if_pos ⟨h_5, by decide⟩]
      exact (by rw [(hM (tn m) lm).2.1, (hM (tn m) lm).2.2.1, (hM (tn m) lm).2.2.2.2.2]; rfl)
    refine q_tab 172 dX5_told_12 rfl (sw_def [0, 1, 2, 3, 4, 5, 6, 7, 8] (by decide) rfl (by simp only [List.mem_cons, List.not_mem_nil, or_false, not_or]; exact ⟨lv_neT hs_12_0 rfl, lv_neT hs_12_1 rfl, lv_neT hs_12_2 rfl, lv_neT hs_12_3 rfl, lv_neT hs_12_4 rfl, lv_neT hs_12_5 rfl, lv_neT hs_12_6 rfl, lv_neT hs_12_7 rfl, lv_neT hs_12_8 rfl⟩)) rfl ?_
    refine q_ldc 174 dX5_told_172 rfl cs_X5_73 ?_
    refine q_iret dX5_told_174 ?_
    refine ⟨congrArg (fun x => some (Value.int x)) ?_, M 17 0, (putA_id M 17 0).symm⟩
    unfold aTold
    rw [if_neg (fun q => ?_)]
    obtain ⟨e, l⟩ := rg_tn q.2 (n := 8) rfl
    have : tn w = 0 ∨ tn w = 1 ∨ tn w = 2 ∨ tn w = 3 ∨ tn w = 4 ∨ tn w = 5 ∨ tn w = 6 ∨ tn w = 7 ∨ tn w = 8 := by omega
    rcases this with z | z | z | z | z | z | z | z | z <;> rw [z] at e <;> contradiction
  · skip
    simp only [bI_0, Classical.not_not] at h_5
    rw [e11] at h_5
    refine q_ldc 10 dX5_told_8 rfl cs_X5_73 ?_
    refine q_iret dX5_told_10 ?_
    refine ⟨congrArg (fun x => some (Value.int x)) ?_, M 17 0, (putA_id M 17 0).symm⟩
    unfold aTold
    rw [if_neg (fun q => h_5 q.1)]
set_option maxRecDepth 100000 in
set_option maxHeartbeats 4000000 in
theorem c5_as {g : GT} (M : TM) (m k : Int32) (s : SS) (hR : RW M 0 s) (hW : WF 9999 s) (hT : RT M s) : Cn g yX5_as cX5_as 3 (some .int) 3 [.ref (gad g 5 0), .int m, .int k] M (Rt (.int (aAs s m k)) M) := by
  refine Cn.ofTR (by decide +kernel) (Nat.le_of_ble_eq_true rfl) ?_
  have hR0 := hR
  obtain ⟨⟨hC, ⟨h11, hm10⟩, hM⟩, h12, h16⟩ := hR
  have hW0 := hW
  obtain ⟨⟨hn, hn10⟩, hsp, hr, hc, hm, ht⟩ := hW
  have e11 : M 4 0 11 = s 0 := h11.trans hn.symm
  refine q_aload_n 1 dX5_as_0 rfl rfl ?_
  refine q_iload_n 2 dX5_as_1 rfl rfl ?_
  refine q_callVt 5 dX5_as_2 rfl (c5_isMark _ _) cw_X5_83 (by decide) rfl rfl ⟨by decide, by decide⟩ ⟨by decide, by decide⟩ (Nat.le_of_ble_eq_true rfl) ?_
  refine q_if_eq 15 8 dX5_as_5 rfl rfl (fun h_5 => ?_) (fun h_5 => ?_)
  · skip
    simp only [bI_0, Classical.not_not] at h_5
    rw [e11] at h_5
    refine q_ldc 17 dX5_as_15 rfl cs_X5_73 ?_
    refine q_iret dX5_as_17 ?_
    refine ⟨congrArg (fun x => some (Value.int x)) ?_, rfl⟩
    unfold aAs
    rw [if_neg (fun q => by first | exact h_5 q.1 | exact h_12 q.2)]
  · skip
    simp only [bI_0, Classical.not_not] at h_5
    rw [e11] at h_5
    obtain ⟨em, lm⟩ := isM_nat hn hn10 h_5
    refine q_iload_n 9 dX5_as_8 rfl rfl ?_
    refine q_callSt 12 dX5_as_9 rfl (c5_isKind _ _) cw_X5_62 rfl rfl ⟨by decide, by decide⟩ ⟨by decide, by decide⟩ (Nat.le_of_ble_eq_true rfl) ?_
    refine q_if_ne 18 15 dX5_as_12 rfl rfl (fun h_12 => ?_) (fun h_12 => ?_)
    · skip
      simp only [bI_0, Classical.not_not] at h_12
      obtain ⟨ek, lk⟩ := rg_nat (hm (tn m) (by omega)).1 (n := 5) rfl
      have r0 : M 21 0 (tn m) = mk s (tn m) 0 := (hM (tn m) lm).2.1
      refine q_aload_n 19 dX5_as_18 rfl rfl ?_
      refine q_getR 22 dX5_as_19 rfl fl_X5_21 (by decide) rfl rfl ?_
      refine q_getR 25 dX5_as_22 rfl fl_X5_86 (by decide) rfl rfl ?_
      refine q_iload_n 26 dX5_as_25 rfl rfl ?_
      refine q_iald 27 dX5_as_26 rfl (by decide) (by decide) em (show tn m < 10 by omega) ?_
      refine q_iload_n 28 dX5_as_27 rfl rfl ?_
      refine q_callSt 31 dX5_as_28 rfl (c5_isOf _ _ _ _ (r0.trans ek) (by omega)) cw_X5_115 rfl rfl ⟨by decide, by decide⟩ ⟨by decide, by decide⟩ (Nat.le_of_ble_eq_true rfl) ?_
      refine q_if_eq 46 34 dX5_as_31 rfl rfl (fun h_31 => ?_) (fun h_31 => ?_)
      · skip
        simp only [bI_0, Classical.not_not] at h_31
        refine q_ldc 48 dX5_as_46 rfl cs_X5_119 ?_
        refine q_iret dX5_as_48 ?_
        refine ⟨congrArg (fun x => some (Value.int x)) ?_, rfl⟩
        unfold aAs
        rw [if_pos ⟨h_5, h_12⟩, ← r0]
        first | (rw [if_pos h_31]; exact (hM (tn m) lm).2.2.1) | (rw [if_neg h_31])
      · skip
        simp only [bI_0, Classical.not_not] at h_31
        refine q_aload_n 35 dX5_as_34 rfl rfl ?_
        refine q_getR 38 dX5_as_35 rfl fl_X5_21 (by decide) rfl rfl ?_
        refine q_getR 41 dX5_as_38 rfl fl_X5_89 (by decide) rfl rfl ?_
        refine q_iload_n 42 dX5_as_41 rfl rfl ?_
        refine q_iald 43 dX5_as_42 rfl (by decide) (by decide) em (show tn m < 10 by omega) ?_
        refine q_goto 48 dX5_as_43 rfl ?_
        refine q_iret dX5_as_48 ?_
        refine ⟨congrArg (fun x => some (Value.int x)) ?_, rfl⟩
        unfold aAs
        rw [if_pos ⟨h_5, h_12⟩, ← r0]
        first | (rw [if_pos h_31]; exact (hM (tn m) lm).2.2.1) | (rw [if_neg h_31])
    · skip
      simp only [bI_0, Classical.not_not] at h_12
      refine q_ldc 17 dX5_as_15 rfl cs_X5_73 ?_
      refine q_iret dX5_as_17 ?_
      refine ⟨congrArg (fun x => some (Value.int x)) ?_, rfl⟩
      unfold aAs
      rw [if_neg (fun q => by first | exact h_5 q.1 | exact h_12 q.2)]
set_option maxRecDepth 100000 in
set_option maxHeartbeats 4000000 in
theorem c5_turns {g : GT} (M : TM) (m k : Int32) (s : SS) (hR : RW M 0 s) (hW : WF 9999 s) (hT : RT M s) : Cn g yX5_turns cX5_turns 4 (some .int) 2 [.ref (gad g 5 0), .int m, .int k] M (PN (aTurns s m k) M (sTurns s m k)) := by
  refine Cn.ofTR (by decide +kernel) (Nat.le_of_ble_eq_true rfl) ?_
  have hR0 := hR
  obtain ⟨⟨hC, ⟨h11, hm10⟩, hM⟩, h12, h16⟩ := hR
  have hW0 := hW
  obtain ⟨⟨hn, hn10⟩, hsp, hr, hc, hm, ht⟩ := hW
  have e11 : M 4 0 11 = s 0 := h11.trans hn.symm
  refine q_aload_n 1 dX5_turns_0 rfl rfl ?_
  refine q_iload_n 2 dX5_turns_1 rfl rfl ?_
  refine q_callVt 5 dX5_turns_2 rfl (c5_isMark _ _) cw_X5_83 (by decide) rfl rfl ⟨by decide, by decide⟩ ⟨by decide, by decide⟩ (Nat.le_of_ble_eq_true rfl) ?_
  refine q_if_eq 15 8 dX5_turns_5 rfl rfl (fun h_5 => ?_) (fun h_5 => ?_)
  · skip
    simp only [bI_0, Classical.not_not] at h_5
    rw [e11] at h_5
    refine q_ldc 17 dX5_turns_15 rfl cs_X5_73 ?_
    refine q_iret dX5_turns_17 ?_
    refine ⟨congrArg (fun x => some (Value.int x)) ?_, Kp.rf, ?_⟩
    · unfold aTurns
      rw [if_neg (fun q => by first | exact h_5 q.1 | exact h_12 q.2)]
    · unfold sTurns
      rw [if_neg (fun q => by first | exact h_5 q.1 | exact h_12 q.2)]
      exact hR0
  · skip
    simp only [bI_0, Classical.not_not] at h_5
    rw [e11] at h_5
    obtain ⟨em, lm⟩ := isM_nat hn hn10 h_5
    refine q_iload_n 9 dX5_turns_8 rfl rfl ?_
    refine q_callSt 12 dX5_turns_9 rfl (c5_isKind _ _) cw_X5_62 rfl rfl ⟨by decide, by decide⟩ ⟨by decide, by decide⟩ (Nat.le_of_ble_eq_true rfl) ?_
    refine q_if_ne 18 15 dX5_turns_12 rfl rfl (fun h_12 => ?_) (fun h_12 => ?_)
    · skip
      simp only [bI_0, Classical.not_not] at h_12
      refine q_aload_n 19 dX5_turns_18 rfl rfl ?_
      refine q_getR 22 dX5_turns_19 rfl fl_X5_21 (by decide) rfl rfl ?_
      refine q_getR 25 dX5_turns_22 rfl fl_X5_86 (by decide) rfl rfl ?_
      refine q_iload_n 26 dX5_turns_25 rfl rfl ?_
      refine q_iald 27 dX5_turns_26 rfl (by decide) (by decide) em (show tn m < 10 by omega) ?_
      refine q_istore_n 28 dX5_turns_27 rfl (by decide) rfl ?_
      refine q_aload_n 29 dX5_turns_28 rfl rfl ?_
      refine q_getR 32 dX5_turns_29 rfl fl_X5_21 (by decide) rfl rfl ?_
      refine q_getR 35 dX5_turns_32 rfl fl_X5_86 (by decide) rfl rfl ?_
      refine q_iload_n 36 dX5_turns_35 rfl rfl ?_
      refine q_iload_n 37 dX5_turns_36 rfl rfl ?_
      refine q_iast 38 dX5_turns_37 rfl (by decide) (by decide) em (show tn m < 10 by omega) ?_
      refine q_iload_n 39 dX5_turns_38 rfl rfl ?_
      refine q_iret dX5_turns_39 ?_
      refine ⟨congrArg (fun x => some (Value.int x)) ?_, Kp.put Kp.rf (by omega), ?_⟩
      · unfold aTurns
        rw [if_pos ⟨h_5, h_12⟩]
        exact (hM (tn m) lm).2.1
      · unfold sTurns
        rw [if_pos ⟨h_5, h_12⟩]
        exact RW_mk hR0 hn10 (show tn m < 10 by omega) (Or.inl rfl) k
    · skip
      simp only [bI_0, Classical.not_not] at h_12
      refine q_ldc 17 dX5_turns_15 rfl cs_X5_73 ?_
      refine q_iret dX5_turns_17 ?_
      refine ⟨congrArg (fun x => some (Value.int x)) ?_, Kp.rf, ?_⟩
      · unfold aTurns
        rw [if_neg (fun q => by first | exact h_5 q.1 | exact h_12 q.2)]
      · unfold sTurns
        rw [if_neg (fun q => by first | exact h_5 q.1 | exact h_12 q.2)]
        exact hR0
