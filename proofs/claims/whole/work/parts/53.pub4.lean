/-! THE CLASS: what will be -/
theorem RT_go {M : TM} {s : SS} (hT : RT M s) (hW : WK s) (n : Nat) : RT M (goN s n) := RT_to hT (goN_o hW (by omega) n) (fun i hi => goN_o hW (by omega) n)
theorem RT_du {M : TM} {s : SS} (hT : RT M s) (hW : WK s) {c : Nat} (h6 : c < 6) (n : Int32) : RT M (duF s c n) := RT_to hT (duF_o (by omega) (by omega) (by omega) (fun j _ => by omega)) (fun i hi => duF_hi hW h6 n hi)
def sr1 (q : Nat → Bool) (k : Nat) : Int32 := if srch q (201 - k) k ≤ 200 then nI (srch q (201 - k) k) else NONEc
theorem sr1_t {q : Nat → Bool} {k : Nat} (hk : k ≤ 200) (h : q k = true) : sr1 q (k + 1) = sr1 q k := by
  unfold sr1
  rw [show 201 - k = (201 - (k + 1)) + 1 by omega, srch, if_pos h]
theorem sr1_f {q : Nat → Bool} {k : Nat} (hk : k ≤ 200) (h : ¬ q k = true) : nI k = sr1 q k := by
  unfold sr1
  rw [show 201 - k = (201 - (k + 1)) + 1 by omega, srch, if_neg h, if_pos hk]
theorem sr1_n {q : Nat → Bool} {k : Nat} (hk : k = 201) : NONEc = sr1 q k := by
  subst hk; rfl
set_option maxRecDepth 100000 in
set_option maxHeartbeats 4000000 in
theorem l5_lost {g : GT} (M : TM) (x : Int32) (m : Nat) (s : SS) (hW : WF 9999 s) (hT : RT M s) (hm : m < nN s) : ∀ (j : Nat) (k : Nat) (N : TM) (y : Int32), Kp 2 M N → RP N 2 (goN s k) 1 (fun _ => m) → 201 - k < j → k ≤ 201 → y = nI k → TR g (rmD 6) RX5 cX5_lost 3 (some .int) 0 0 (Zm g (PT (sr1 (fun n => lgB (goN s n) m) k) M)) 32 [some (.ref (gad g 5 0)), some (.int x), some (.int y)] [] N := by
  intro j
  induction j with
  | zero => intro k N y hK hP hj hk hy; exact absurd hj (by omega)
  | succ j ih =>
    intro k N y hK hP hj hk hy
    subst hy
    have hWk := goN_WK hW.k k
    have hn : nN (goN s k) = nN s := nN_c (goN_o hW.k (by omega) k)
    refine q_iload_n 33 dX5_lost_32 rfl rfl ?_
    refine q_sipush (v := 200) 36 dX5_lost_33 rfl rfl ?_
    refine q_icmp_gt 66 39 dX5_lost_36 rfl rfl (fun h_36 => ?_) (fun h_36 => ?_)
    · skip
      rw [show (200 : Int32) = nI 200 from rfl, nI_ltI (by omega) (by omega)] at h_36
      refine q_ldc 68 dX5_lost_66 rfl cs_X5_161 ?_
      refine q_iret dX5_lost_68 ?_
      exact ⟨congrArg (fun x => some (Value.int x)) (sr1_n (by omega)), hK⟩
    · skip
      rw [show (200 : Int32) = nI 200 from rfl, nI_ltI (by omega) (by omega)] at h_36
      refine q_aload_n 40 dX5_lost_39 rfl rfl ?_
      refine q_getR 43 dX5_lost_40 rfl fl_X5_28 (by decide) rfl rfl ?_
      refine q_iconst (v := 0) 44 dX5_lost_43 rfl rfl ?_
      refine q_callV 47 dX5_lost_44 rfl (c4_isLegible _ 2 (by decide) _ 0 m rfl (by decide) (by have := hW.1.2; omega) _ hP.1 (hP.2.2 0 (by omega)).2 ⟨hWk.1, hWk.2.2.2⟩ (RT_go (hT.kp hK) hW.k k)) cw_X5_202 (by decide) rfl rfl ⟨by decide, by decide⟩ ⟨by decide, by decide⟩ (Nat.le_of_ble_eq_true rfl) ?_
      rintro _ _ ⟨rfl, p, rfl⟩
      refine q_if_ne 52 50 dX5_lost_47 rfl rfl (fun h_47 => ?_) (fun h_47 => ?_)
      · skip
        simp only [bI_0, Classical.not_not] at h_47
        refine q_aload_n 53 dX5_lost_52 rfl rfl ?_
        refine q_getR 56 dX5_lost_53 rfl fl_X5_28 (by decide) rfl rfl ?_
        refine q_iconst (v := 1) 57 dX5_lost_56 rfl rfl ?_
        refine q_callV 60 dX5_lost_57 rfl (c4_pass _ 2 (by decide) _ 1 (fun _ => m) hP.p17 hWk (RT_go (hT.kp (hK.tr Kp.p17)) hW.k k) _ 1 rfl (by decide)) cw_X5_182 (by decide) rfl rfl ⟨by decide, by decide⟩ ⟨by decide, by decide⟩ (Nat.le_of_ble_eq_true rfl) ?_
        rintro _ M3 ⟨rfl, q⟩
        refine q_iinc 63 dX5_lost_60 rfl rfl (by decide) rfl (nI_1 k) ?_
        refine q_goto 32 dX5_lost_63 rfl ?_
        rw [← sr1_t (q := fun n => lgB (goN s n) m) (by omega) h_47]
        exact q_fg (ih (k + 1) _ _ ((hK.tr Kp.p17).tr q.1) q.2.1 (by omega) (by omega) rfl) ⟨rfl, rfl, rfl, trivial⟩
      · skip
        simp only [bI_0, Classical.not_not] at h_47
        refine q_iload_n 51 dX5_lost_50 rfl rfl ?_
        refine q_iret dX5_lost_51 ?_
        exact ⟨congrArg (fun x => some (Value.int x)) (sr1_f (q := fun n => lgB (goN s n) m) (by omega) h_47), hK.tr Kp.p17⟩
set_option maxRecDepth 100000 in
set_option maxHeartbeats 4000000 in
theorem c5_lost {g : GT} (M : TM) (m : Int32) (s : SS) (hR : RW M 0 s) (hW : WF 9999 s) (hT : RT M s) : Cn g yX5_lost cX5_lost 3 (some .int) 6 [.ref (gad g 5 0), .int m] M (PT (aLost s m) M) := by
  refine Cn.ofTR (by decide +kernel) (Nat.le_of_ble_eq_true rfl) ?_
  have e11 : M 4 0 11 = s 0 := hR.1.2.1.1.trans hW.1.1.symm
  refine q_aload_n 1 dX5_lost_0 rfl rfl ?_
  refine q_iload_n 2 dX5_lost_1 rfl rfl ?_
  refine q_callVt 5 dX5_lost_2 rfl (c5_isMark _ _) cw_X5_83 (by decide) rfl rfl ⟨by decide, by decide⟩ ⟨by decide, by decide⟩ (Nat.le_of_ble_eq_true rfl) ?_
  refine q_if_ne 11 8 dX5_lost_5 rfl rfl (fun h_5 => ?_) (fun h_5 => ?_)
  · skip
    simp only [bI_0, Classical.not_not] at h_5
    rw [e11] at h_5
    obtain ⟨em, lm⟩ := isM_nat hW.1.1 hW.1.2 h_5
    have hm10 : tn m < 10 := by have := hW.1.2; omega
    refine q_aload_n 12 dX5_lost_11 rfl rfl ?_
    refine q_getR 15 dX5_lost_12 rfl fl_X5_28 (by decide) rfl rfl ?_
    refine q_aload_n 16 dX5_lost_15 rfl rfl ?_
    refine q_getR 19 dX5_lost_16 rfl fl_X5_21 (by decide) rfl rfl ?_
    refine q_callV 22 dX5_lost_19 rfl (c4_become _ 2 0 (by decide) (by decide) (by decide)) cw_X5_195 (by decide) rfl rfl ⟨by decide, by decide⟩ ⟨by decide, by decide⟩ (Nat.le_of_ble_eq_true rfl) ?_
    rintro _ M2 ⟨rfl, hB⟩
    have hR2 := hB.rw' hR
    refine q_aload_n 23 dX5_lost_22 rfl rfl ?_
    refine q_getR 26 dX5_lost_23 rfl fl_X5_28 (by decide) rfl rfl ?_
    refine q_iload_n 27 dX5_lost_26 rfl rfl ?_
    refine q_callVv 30 dX5_lost_27 rfl (c4_leaveOnly _ 2 (by decide) m (tn m) em hm10) cw_X5_199 (by decide) rfl rfl ⟨by decide, by decide⟩ ⟨by decide, by decide⟩ (Nat.le_of_ble_eq_true rfl) ?_
    refine q_iconst (v := 0) 31 dX5_lost_30 rfl rfl ?_
    refine q_istore_n 32 dX5_lost_31 rfl (by decide) rfl ?_
    refine TR_post (q_fg (l5_lost M m (tn m) s hW hT lm 202 0 _ _ (hB.1.tr loM_kp) (loM_RP hR2.1 lm) (by omega) (by omega) rfl) ⟨rfl, rfl, rfl, trivial⟩) ?_
    unfold aLost
    rw [if_pos h_5]
    exact fun _ _ h => h
  · skip
    simp only [bI_0, Classical.not_not] at h_5
    rw [e11] at h_5
    refine q_ldc 10 dX5_lost_8 rfl cs_X5_73 ?_
    refine q_iret dX5_lost_10 ?_
    exact ⟨congrArg (fun x => some (Value.int x)) (by unfold aLost; rw [if_neg h_5]), Kp.rf⟩
theorem ne0_iff {s : SS} {c : Nat} (h : WK s) (h6 : c < 6) : (s (9 + c) = 0) ↔ ¬ (0 < s (9 + c)) := by
  obtain ⟨h1, -⟩ := (h.2.2.1 c h6).1
  constructor
  · intro q; rw [q]; decide
  · intro q; exact Int32.le_antisymm (Int32.not_lt.mp q) h1
set_option maxRecDepth 100000 in
set_option maxHeartbeats 4000000 in
theorem l5_solid {g : GT} (M : TM) (x : Int32) (c : Nat) (hx : x = nI c) (h6 : c < 6) (s : SS) (hW : WF 9999 s) (hT : RT M s) : ∀ (j : Nat) (k : Nat) (N : TM) (y : Int32), Kp 2 M N → RP N 2 (goN s k) 0 (fun i => i) → 201 - k < j → k ≤ 201 → y = nI k → TR g (rmD 6) RX5 cX5_solid 3 (some .int) 0 0 (Zm g (PT (sr1 (fun n => decide (0 < goN s n (9 + c))) k) M)) 30 [some (.ref (gad g 5 0)), some (.int x), some (.int y)] [] N := by
  intro j
  induction j with
  | zero => intro k N y hK hP hj hk hy; exact absurd hj (by omega)
  | succ j ih =>
    intro k N y hK hP hj hk hy
    subst hy
    have hWk := goN_WK hW.k k
    have e18 : N 18 2 c = goN s k (9 + c) := (hP.1.1 c h6).1
    refine q_iload_n 31 dX5_solid_30 rfl rfl ?_
    refine q_sipush (v := 200) 34 dX5_solid_31 rfl rfl ?_
    refine q_icmp_gt 65 37 dX5_solid_34 rfl rfl (fun h_34 => ?_) (fun h_34 => ?_)
    · skip
      rw [show (200 : Int32) = nI 200 from rfl, nI_ltI (by omega) (by omega)] at h_34
      refine q_ldc 67 dX5_solid_65 rfl cs_X5_161 ?_
      refine q_iret dX5_solid_67 ?_
      exact ⟨congrArg (fun x => some (Value.int x)) (sr1_n (by omega)), hK⟩
    · skip
      rw [show (200 : Int32) = nI 200 from rfl, nI_ltI (by omega) (by omega)] at h_34
      refine q_aload_n 38 dX5_solid_37 rfl rfl ?_
      refine q_getR 41 dX5_solid_38 rfl fl_X5_28 (by decide) rfl rfl ?_
      refine q_getR 44 dX5_solid_41 rfl fl_X5_128 (by decide) rfl rfl ?_
      refine q_iload_n 45 dX5_solid_44 rfl rfl ?_
      refine q_iald 46 dX5_solid_45 rfl (by decide) (by decide) hx h6 ?_
      refine q_if_ne 51 49 dX5_solid_46 rfl rfl (fun h_46 => ?_) (fun h_46 => ?_)
      · skip
        rw [e18, ne0_iff hWk h6] at h_46
        refine q_aload_n 52 dX5_solid_51 rfl rfl ?_
        refine q_getR 55 dX5_solid_52 rfl fl_X5_28 (by decide) rfl rfl ?_
        refine q_iconst (v := 1) 56 dX5_solid_55 rfl rfl ?_
        refine q_callV 59 dX5_solid_56 rfl (c4_pass _ 2 (by decide) _ 0 (fun i => i) hP hWk (RT_go (hT.kp hK) hW.k k) _ 1 rfl (by decide)) cw_X5_182 (by decide) rfl rfl ⟨by decide, by decide⟩ ⟨by decide, by decide⟩ (Nat.le_of_ble_eq_true rfl) ?_
        rintro _ M3 ⟨rfl, q⟩
        refine q_iinc 62 dX5_solid_59 rfl rfl (by decide) rfl (nI_1 k) ?_
        refine q_goto 30 dX5_solid_62 rfl ?_
        rw [← sr1_t (q := fun n => decide (0 < goN s n (9 + c))) (by omega) (decide_eq_true (Classical.not_not.mp h_46))]
        exact q_fg (ih (k + 1) _ _ (hK.tr q.1) q.2.1 (by omega) (by omega) rfl) ⟨rfl, rfl, rfl, trivial⟩
      · skip
        rw [e18, ne0_iff hWk h6] at h_46
        refine q_iload_n 50 dX5_solid_49 rfl rfl ?_
        refine q_iret dX5_solid_50 ?_
        exact ⟨congrArg (fun x => some (Value.int x)) (sr1_f (q := fun n => decide (0 < goN s n (9 + c))) (by omega) (fun z => h_46 (of_decide_eq_true z))), hK⟩
set_option maxRecDepth 100000 in
set_option maxHeartbeats 4000000 in
theorem c5_solid {g : GT} (M : TM) (c : Int32) (s : SS) (hR : RW M 0 s) (hW : WF 9999 s) (hT : RT M s) : Cn g yX5_solid cX5_solid 3 (some .int) 6 [.ref (gad g 5 0), .int c] M (PT (aSolid s c) M) := by
  refine Cn.ofTR (by decide +kernel) (Nat.le_of_ble_eq_true rfl) ?_
  refine q_iload_n 1 dX5_solid_0 rfl rfl ?_
  refine q_callSt 4 dX5_solid_1 rfl (c5_isCell _ _) cw_X5_70 rfl rfl ⟨by decide, by decide⟩ ⟨by decide, by decide⟩ (Nat.le_of_ble_eq_true rfl) ?_
  refine q_if_ne 10 7 dX5_solid_4 rfl rfl (fun h_4 => ?_) (fun h_4 => ?_)
  · skip
    simp only [bI_0, Classical.not_not] at h_4
    obtain ⟨ec, lc⟩ := rg_tn h_4 (n := 5) rfl
    refine q_aload_n 11 dX5_solid_10 rfl rfl ?_
    refine q_getR 14 dX5_solid_11 rfl fl_X5_28 (by decide) rfl rfl ?_
    refine q_aload_n 15 dX5_solid_14 rfl rfl ?_
    refine q_getR 18 dX5_solid_15 rfl fl_X5_21 (by decide) rfl rfl ?_
    refine q_callV 21 dX5_solid_18 rfl (c4_become _ 2 0 (by decide) (by decide) (by decide)) cw_X5_195 (by decide) rfl rfl ⟨by decide, by decide⟩ ⟨by decide, by decide⟩ (Nat.le_of_ble_eq_true rfl) ?_
    rintro _ M2 ⟨rfl, hB⟩
    have hR2 := hB.rw' hR
    refine q_aload_n 22 dX5_solid_21 rfl rfl ?_
    refine q_getR 25 dX5_solid_22 rfl fl_X5_28 (by decide) rfl rfl ?_
    refine q_callVv 28 dX5_solid_25 rfl (c4_leaveNone _ 2 (by decide)) cw_X5_205 (by decide) rfl rfl ⟨by decide, by decide⟩ ⟨by decide, by decide⟩ (Nat.le_of_ble_eq_true rfl) ?_
    refine q_iconst (v := 0) 29 dX5_solid_28 rfl rfl ?_
    refine q_istore_n 30 dX5_solid_29 rfl (by decide) rfl ?_
    refine TR_post (q_fg (l5_solid M c (tn c) ec (by omega) s hW hT 202 0 _ _ (hB.1.tr (Kp.put Kp.rf (by omega))) (lnM_RP hR2.1) (by omega) (by omega) rfl) ⟨rfl, rfl, rfl, trivial⟩) ?_
    unfold aSolid
    rw [if_pos h_4]
    exact fun _ _ h => h
  · skip
    simp only [bI_0, Classical.not_not] at h_4
    refine q_ldc 9 dX5_solid_7 rfl cs_X5_73 ?_
    refine q_iret dX5_solid_9 ?_
    exact ⟨congrArg (fun x => some (Value.int x)) (by unfold aSolid; rw [if_neg h_4]), Kp.rf⟩
theorem RW_kp {M N : TM} {s : SS} {w : Nat} (h : RW M 0 s) (hK : Kp w M N) (hw : w ≠ 0) : RW N 0 s := by
  have e : ∀ t, t ≠ 17 → N t 0 = M t 0 := fun t ht => hK t 0 ht (by omega)
  unfold RW RP RC RM at *
  rw [e 4 (by decide), e 18 (by decide), e 19 (by decide), e 20 (by decide), e 21 (by decide), e 22 (by decide), e 23 (by decide), e 24 (by decide), e 25 (by decide), e 26 (by decide), e 27 (by decide)]
  exact h
set_option maxRecDepth 100000 in
set_option maxHeartbeats 4000000 in
theorem l5_spoon {g : GT} (M : TM) (x z : Int32) (m n c : Nat) (hx : x = nI m) (hz : z = nI n) (h60 : n ≤ 60) (s : SS) (hW : WF 9999 s) (hR : RW M 0 s) (hT : RT M s) (hm : m < nN s) (hc : mk s m 3 = nI c) (h6 : c < 6) : ∀ (j : Nat) (k : Nat) (N : TM) (y : Int32), Kp 2 M N → 100 - k < j → k ≤ 100 → y = nI k → TR g (rmD 6) RX5 cX5_spoon 4 (some .int) 0 0 (Zm g (PT (fst1 (fun v => lgB (goN (duF s c (nI v)) n) m) (100 - k) k) M)) 23 [some (.ref (gad g 5 0)), some (.int x), some (.int z), some (.int y)] [] N := by
  intro j
  induction j with
  | zero => intro k N y hK hj hk hy; exact absurd hj (by omega)
  | succ j ih =>
    intro k N y hK hj hk hy
    subst hy
    have h10 := hW.1.2
    have hRN : RW N 0 s := RW_kp hR hK (by decide)
    refine q_iload_n 24 dX5_spoon_23 rfl rfl ?_
    refine q_bipush (v := 99) 26 dX5_spoon_24 rfl rfl ?_
    refine q_icmp_gt 93 29 dX5_spoon_26 rfl rfl (fun h_26 => ?_) (fun h_26 => ?_)
    · skip
      rw [show (99 : Int32) = nI 99 from rfl, nI_ltI (by omega) (by omega)] at h_26
      refine q_ldc 95 dX5_spoon_93 rfl cs_X5_161 ?_
      refine q_iret dX5_spoon_95 ?_
      exact ⟨by rw [show 100 - k = 0 by omega]; rfl, hK⟩
    · skip
      rw [show (99 : Int32) = nI 99 from rfl, nI_ltI (by omega) (by omega)] at h_26
      refine q_aload_n 30 dX5_spoon_29 rfl rfl ?_
      refine q_getR 33 dX5_spoon_30 rfl fl_X5_28 (by decide) rfl rfl ?_
      refine q_aload_n 34 dX5_spoon_33 rfl rfl ?_
      refine q_getR 37 dX5_spoon_34 rfl fl_X5_21 (by decide) rfl rfl ?_
      refine q_callV 40 dX5_spoon_37 rfl (c4_become _ 2 0 (by decide) (by decide) (by decide)) cw_X5_195 (by decide) rfl rfl ⟨by decide, by decide⟩ ⟨by decide, by decide⟩ (Nat.le_of_ble_eq_true rfl) ?_
      rintro _ M2 ⟨rfl, hB⟩
      have hR2 := hB.rw' hRN
      have hP3 := loM_RP hR2.1 hm
      have hK3 := (hK.tr hB.1).tr (loM_kp (m := m))
      have e24 : loM M2 2 m 24 0 m = nI c := ((hK3 24 0 (by decide) (by omega)) ▸ ((hR.1.2.2 m hm).2.2.2.2.1.trans hc))
      have hWd := duF_WK hW.k h6 (n := k)
      refine q_aload_n 41 dX5_spoon_40 rfl rfl ?_
      refine q_getR 44 dX5_spoon_41 rfl fl_X5_28 (by decide) rfl rfl ?_
      refine q_iload_n 45 dX5_spoon_44 rfl rfl ?_
      refine q_callVv 48 dX5_spoon_45 rfl (c4_leaveOnly _ 2 (by decide) x m hx (by omega)) cw_X5_199 (by decide) rfl rfl ⟨by decide, by decide⟩ ⟨by decide, by decide⟩ (Nat.le_of_ble_eq_true rfl) ?_
      refine q_aload_n 49 dX5_spoon_48 rfl rfl ?_
      refine q_getR 52 dX5_spoon_49 rfl fl_X5_28 (by decide) rfl rfl ?_
      refine q_aload_n 53 dX5_spoon_52 rfl rfl ?_
      refine q_getR 56 dX5_spoon_53 rfl fl_X5_21 (by decide) rfl rfl ?_
      refine q_getR 59 dX5_spoon_56 rfl fl_X5_95 (by decide) rfl rfl ?_
      refine q_iload_n 60 dX5_spoon_59 rfl rfl ?_
      refine q_iald 61 dX5_spoon_60 rfl (by decide) (by decide) hx (show m < 10 by omega) ?_
      refine q_iload_n 62 dX5_spoon_61 rfl rfl ?_
      refine q_callVt 65 dX5_spoon_62 rfl (c4_digOut _ 2 (by decide) s 1 (fun _ => m) hP3 hW.k _ _ c k e24 h6 rfl (by omega)) cw_X5_173 (by decide) rfl rfl ⟨by decide, by decide⟩ ⟨by decide, by decide⟩ (Nat.le_of_ble_eq_true rfl) ?_
      refine q_pop 66 dX5_spoon_65 rfl rfl ?_
      refine q_aload_n 67 dX5_spoon_66 rfl rfl ?_
      refine q_getR 70 dX5_spoon_67 rfl fl_X5_28 (by decide) rfl rfl ?_
      refine q_iload_n 71 dX5_spoon_70 rfl rfl ?_
      refine q_callV 74 dX5_spoon_71 rfl (c4_pass _ 2 (by decide) _ 1 (fun _ => m) (dgO_RP hP3 hW.1.2 h6) (hWd (by omega)) (RT_du (hT.kp (hK3.tr dgO_kp)) hW.k h6 _) z n hz (by omega)) cw_X5_182 (by decide) rfl rfl ⟨by decide, by decide⟩ ⟨by decide, by decide⟩ (Nat.le_of_ble_eq_true rfl) ?_
      rintro _ M4 ⟨rfl, q⟩
      refine q_aload_n 75 dX5_spoon_74 rfl rfl ?_
      refine q_getR 78 dX5_spoon_75 rfl fl_X5_28 (by decide) rfl rfl ?_
      refine q_iconst (v := 0) 79 dX5_spoon_78 rfl rfl ?_
      refine q_callV 82 dX5_spoon_79 rfl (c4_isLegible _ 2 (by decide) _ 0 m rfl (by decide) (by omega) _ q.2.1.1 (q.2.1.2.2 0 (by omega)).2 ⟨(goN_WK (hWd (by omega)) n).1, (goN_WK (hWd (by omega)) n).2.2.2⟩ (RT_go (RT_du (hT.kp ((hK3.tr dgO_kp).tr q.1)) hW.k h6 _) (hWd (by omega)) n)) cw_X5_202 (by decide) rfl rfl ⟨by decide, by decide⟩ ⟨by decide, by decide⟩ (Nat.le_of_ble_eq_true rfl) ?_
      rintro _ _ ⟨rfl, p, rfl⟩
      refine q_if_eq 87 85 dX5_spoon_82 rfl rfl (fun h_82 => ?_) (fun h_82 => ?_)
      · skip
        simp only [bI_0, Classical.not_not] at h_82
        refine q_iinc 90 dX5_spoon_87 rfl rfl (by decide) rfl (nI_1 k) ?_
        refine q_goto 23 dX5_spoon_90 rfl ?_
        rw [show 100 - k = (100 - (k + 1)) + 1 by omega, fst1, if_neg (show ¬ (fun v => lgB (goN (duF s c (nI v)) n) m) k = true from h_82)]
        exact q_fg (ih (k + 1) _ _ (((hK3.tr dgO_kp).tr q.1).tr Kp.p17) (by omega) (by omega) rfl) ⟨rfl, rfl, rfl, rfl, trivial⟩
      · skip
        simp only [bI_0, Classical.not_not] at h_82
        refine q_iload_n 86 dX5_spoon_85 rfl rfl ?_
        refine q_iret dX5_spoon_86 ?_
        refine ⟨congrArg (fun x => some (Value.int x)) ?_, ((hK3.tr dgO_kp).tr q.1).tr Kp.p17⟩
        rw [show 100 - k = (99 - k) + 1 by omega, fst1, if_pos (show (fun v => lgB (goN (duF s c (nI v)) n) m) k = true from h_82)]
set_option maxRecDepth 100000 in
set_option maxHeartbeats 4000000 in
theorem c5_spoon {g : GT} (M : TM) (m n : Int32) (s : SS) (hR : RW M 0 s) (hW : WF 9999 s) (hT : RT M s) : Cn g yX5_spoon cX5_spoon 4 (some .int) 6 [.ref (gad g 5 0), .int m, .int n] M (PT (aSpoon s m n) M) := by
  refine Cn.ofTR (by decide +kernel) (Nat.le_of_ble_eq_true rfl) ?_
  have e11 : M 4 0 11 = s 0 := hR.1.2.1.1.trans hW.1.1.symm
  refine q_aload_n 1 dX5_spoon_0 rfl rfl ?_
  refine q_iload_n 2 dX5_spoon_1 rfl rfl ?_
  refine q_callVt 5 dX5_spoon_2 rfl (c5_isMark _ _) cw_X5_83 (by decide) rfl rfl ⟨by decide, by decide⟩ ⟨by decide, by decide⟩ (Nat.le_of_ble_eq_true rfl) ?_
  refine q_if_eq 18 8 dX5_spoon_5 rfl rfl (fun h_5 => ?_) (fun h_5 => ?_)
  · skip
    simp only [bI_0, Classical.not_not] at h_5
    rw [e11] at h_5
    refine q_ldc 20 dX5_spoon_18 rfl cs_X5_73 ?_
    refine q_iret dX5_spoon_20 ?_
    exact ⟨congrArg (fun x => some (Value.int x)) (by unfold aSpoon; rw [if_neg (fun q => by first | exact h_5 q.1 | exact h_15 q.2)]), Kp.rf⟩
  · skip
    simp only [bI_0, Classical.not_not] at h_5
    rw [e11] at h_5
    obtain ⟨em, lm⟩ := isM_nat hW.1.1 hW.1.2 h_5
    have hm10 : tn m < 10 := by have := hW.1.2; omega
    refine q_iload_n 9 dX5_spoon_8 rfl rfl ?_
    refine q_iconst (v := 0) 10 dX5_spoon_9 rfl rfl ?_
    refine q_bipush (v := 60) 12 dX5_spoon_10 rfl rfl ?_
    refine q_callSt 15 dX5_spoon_12 rfl (c5_within _ _ _ _) cw_X5_66 rfl rfl ⟨by decide, by decide⟩ ⟨by decide, by decide⟩ (Nat.le_of_ble_eq_true rfl) ?_
    refine q_if_ne 21 18 dX5_spoon_15 rfl rfl (fun h_15 => ?_) (fun h_15 => ?_)
    · skip
      simp only [bI_0, Classical.not_not] at h_15
      obtain ⟨en, ln⟩ := rg_tn h_15 (n := 60) rfl
      obtain ⟨ec, lc⟩ := rg_nat (hW.m.2.1 (tn m) hm10).2.2.2.1 (n := 5) rfl
      refine q_iconst (v := 0) 22 dX5_spoon_21 rfl rfl ?_
      refine q_istore_n 23 dX5_spoon_22 rfl (by decide) rfl ?_
      refine TR_post (q_fg (l5_spoon M m n (tn m) (tn n) _ em en ln s hW hR hT lm ec (by omega) 101 0 M _ Kp.rf (by omega) (by omega) rfl) ⟨rfl, rfl, rfl, rfl, trivial⟩) ?_
      unfold aSpoon
      rw [if_pos ⟨h_5, h_15⟩]
      exact fun _ _ h => h
    · skip
      simp only [bI_0, Classical.not_not] at h_15
      refine q_ldc 20 dX5_spoon_18 rfl cs_X5_73 ?_
      refine q_iret dX5_spoon_20 ?_
      exact ⟨congrArg (fun x => some (Value.int x)) (by unfold aSpoon; rw [if_neg (fun q => by first | exact h_5 q.1 | exact h_15 q.2)]), Kp.rf⟩
def moG (f : Nat → Int32) : Nat → Int32 × Int32
  | 0 => (0, -1)
  | v + 1 => if (moG f v).2 < f v then (nI v, f v) else moG f v
theorem moG_eq {f : Nat → Int32} (h : -1 < f 0) : ∀ v, moG f (v + 1) = moF f (v + 1)
  | 0 => by unfold moG moF; show (if (-1 : Int32) < f 0 then _ else _) = (if (-1 : Int32) < f 0 then _ else _); rw [if_pos h, if_pos h]
  | v + 1 => by unfold moG moF; rw [moG_eq h v]
theorem moG_t {f : Nat → Int32} {v : Nat} (h : (moG f v).2 < f v) : moG f (v + 1) = (nI v, f v) := if_pos h
theorem moG_f {f : Nat → Int32} {v : Nat} (h : ¬ (moG f v).2 < f v) : moG f (v + 1) = moG f v := if_neg h
theorem sh_pos {s : SS} (h : WK s) : -1 < s 6 := Int32.lt_of_lt_of_le (by decide) h.2.1.2.2.2.1.1
set_option maxRecDepth 100000 in
set_option maxHeartbeats 4000000 in
theorem l5_place {g : GT} (M : TM) (x z w : Int32) (m n : Nat) (hx : x = nI m) (hz : z = nI n) (h60 : n ≤ 60) (s : SS) (hW : WF 9999 s) (hR : RW M 0 s) (hT : RT M s) (hm : m < nN s) : ∀ (j : Nat) (k : Nat) (N : TM) (b mo y : Int32), Kp 2 M N → 6 - k < j → k ≤ 6 → b = (moG (fun v => goN (upd s (21 + 5 * m + 3) (nI v)) n 6) k).1 → mo = (moG (fun v => goN (upd s (21 + 5 * m + 3) (nI v)) n 6) k).2 → y = nI k → TR g (rmD 6) RX5 cX5_place 7 (some .int) 0 0 (Zm g (PT (if w = 0 then (moG (fun v => goN (upd s (21 + 5 * m + 3) (nI v)) n 6) 6).1 else (moG (fun v => goN (upd s (21 + 5 * m + 3) (nI v)) n 6) 6).2) M)) 39 [some (.ref (gad g 5 0)), some (.int x), some (.int z), some (.int w), some (.int b), some (.int mo), some (.int y)] [] N := by
  intro j
  induction j with
  | zero => intro k N b mo y hK hj hk hb hmo hy; exact absurd hj (by omega)
  | succ j ih =>
    intro k N b mo y hK hj hk hb hmo hy
    subst hy
    have h10 := hW.1.2
    have hRN : RW N 0 s := RW_kp hR hK (by decide)
    refine q_iload 41 dX5_place_39 rfl rfl ?_
    refine q_bipush (v := 6) 43 dX5_place_41 rfl rfl ?_
    refine q_icmp_ge 107 46 dX5_place_43 rfl rfl (fun h_43 => ?_) (fun h_43 => ?_)
    · skip
      rw [show (6 : Int32) = nI 6 from rfl, nI_leI (by omega) (by omega)] at h_43
      refine q_iload_n 108 dX5_place_107 rfl rfl ?_
      refine q_if_ne 116 111 dX5_place_108 rfl rfl (fun h_108 => ?_) (fun h_108 => ?_)
      · skip
        refine q_iload 118 dX5_place_116 rfl rfl ?_
        refine q_iret dX5_place_118 ?_
        have e : k = 6 := by omega
        subst e
        first | (have hq : ¬ w = 0 := h_108; rw [if_neg hq]; exact ⟨congrArg (fun x => some (Value.int x)) hmo, hK⟩) | (rw [if_pos h_108]; exact ⟨congrArg (fun x => some (Value.int x)) hb, hK⟩)
      · skip
        refine q_iload 113 dX5_place_111 rfl rfl ?_
        refine q_goto 118 dX5_place_113 rfl ?_
        refine q_iret dX5_place_118 ?_
        have e : k = 6 := by omega
        subst e
        first | (have hq : ¬ w = 0 := h_108; rw [if_neg hq]; exact ⟨congrArg (fun x => some (Value.int x)) hmo, hK⟩) | (rw [if_pos h_108]; exact ⟨congrArg (fun x => some (Value.int x)) hb, hK⟩)
    · skip
      rw [show (6 : Int32) = nI 6 from rfl, nI_leI (by omega) (by omega)] at h_43
      refine q_aload_n 47 dX5_place_46 rfl rfl ?_
      refine q_getR 50 dX5_place_47 rfl fl_X5_28 (by decide) rfl rfl ?_
      refine q_aload_n 51 dX5_place_50 rfl rfl ?_
      refine q_getR 54 dX5_place_51 rfl fl_X5_21 (by decide) rfl rfl ?_
      refine q_callV 57 dX5_place_54 rfl (c4_become _ 2 0 (by decide) (by decide) (by decide)) cw_X5_195 (by decide) rfl rfl ⟨by decide, by decide⟩ ⟨by decide, by decide⟩ (Nat.le_of_ble_eq_true rfl) ?_
      rintro _ M2 ⟨rfl, hB⟩
      have hR2 := hB.rw' hRN
      obtain ⟨ea, la⟩ := rg_nat (hW.m.2.1 m (by omega)).2.2.2.1 (n := 5) rfl
      have e24 : M2 24 2 m = nI (mk s m 3).toNatClampNeg := (hR2.1.2.2 m hm).2.2.2.2.1.trans ea
      have hR3 := mvM_RW (c := k) hR2 h10 hm ea (by omega) (show k < 6 by omega)
      have hK3 : Kp 2 M2 (mvM M2 2 m (mk s m 3).toNatClampNeg k) := mvM_kp
      have hWk := (WF_mk hW (k := m) (w := 3) (v := k) (by omega) (by omega) (by omega)).k
      refine q_aload_n 58 dX5_place_57 rfl rfl ?_
      refine q_getR 61 dX5_place_58 rfl fl_X5_28 (by decide) rfl rfl ?_
      refine q_iload_n 62 dX5_place_61 rfl rfl ?_
      refine q_iload 64 dX5_place_62 rfl rfl ?_
      refine q_callVt 67 dX5_place_64 rfl (c4_moveTo _ 2 (by decide) x _ m _ k hx (by omega) rfl (by omega) e24 (by omega)) cw_X5_124 (by decide) rfl rfl ⟨by decide, by decide⟩ ⟨by decide, by decide⟩ (Nat.le_of_ble_eq_true rfl) ?_
      refine q_pop 68 dX5_place_67 rfl rfl ?_
      refine q_aload_n 69 dX5_place_68 rfl rfl ?_
      refine q_getR 72 dX5_place_69 rfl fl_X5_28 (by decide) rfl rfl ?_
      refine q_iload_n 73 dX5_place_72 rfl rfl ?_
      refine q_callV 76 dX5_place_73 rfl (c4_pass _ 2 (by decide) _ _ (fun i => i) hR3.1 hWk (RT_to (hT.kp ((hK.tr hB.1).tr hK3)) (upd_n (by omega)) (fun i hi => upd_n (by omega))) z n hz (by omega)) cw_X5_182 (by decide) rfl rfl ⟨by decide, by decide⟩ ⟨by decide, by decide⟩ (Nat.le_of_ble_eq_true rfl) ?_
      rintro _ M4 ⟨rfl, q⟩
      have hR4 := RW_goN hR3 hWk q
      refine q_aload_n 77 dX5_place_76 rfl rfl ?_
      refine q_getR 80 dX5_place_77 rfl fl_X5_28 (by decide) rfl rfl ?_
      refine q_getI 83 dX5_place_80 rfl fl_X5_176 (by decide) rfl (by decide) ?_
      refine q_iload 85 dX5_place_83 rfl rfl ?_
      refine q_icmp_le 101 88 dX5_place_85 rfl rfl (fun h_85 => ?_) (fun h_85 => ?_)
      · skip
        rw [hR4.2.1] at h_85
        refine q_iinc 104 dX5_place_101 rfl rfl (by decide) rfl (nI_1 k) ?_
        refine q_goto 39 dX5_place_104 rfl ?_
        first
        | exact q_fg (ih (k + 1) _ _ _ _ (((hK.tr hB.1).tr hK3).tr q.1) (by omega) (by omega) (by rw [moG_f (by rw [← hmo]; exact Int32.not_lt.mpr h_85)]; exact hb) (by rw [moG_f (by rw [← hmo]; exact Int32.not_lt.mpr h_85)]; exact hmo) rfl) ⟨rfl, rfl, rfl, rfl, rfl, rfl, rfl, trivial⟩
        | exact q_fg (ih (k + 1) _ _ _ _ (((hK.tr hB.1).tr hK3).tr q.1) (by omega) (by omega) (by rw [moG_t (by rw [← hmo]; exact Int32.not_le.mp h_85)]) (by rw [moG_t (by rw [← hmo]; exact Int32.not_le.mp h_85)]; exact hR4.2.1) rfl) ⟨rfl, rfl, rfl, rfl, rfl, rfl, rfl, trivial⟩
      · skip
        rw [hR4.2.1] at h_85
        refine q_iload 90 dX5_place_88 rfl rfl ?_
        refine q_istore 92 dX5_place_90 rfl (by decide) rfl ?_
        refine q_aload_n 93 dX5_place_92 rfl rfl ?_
        refine q_getR 96 dX5_place_93 rfl fl_X5_28 (by decide) rfl rfl ?_
        refine q_getI 99 dX5_place_96 rfl fl_X5_176 (by decide) rfl (by decide) ?_
        refine q_istore 101 dX5_place_99 rfl (by decide) rfl ?_
        refine q_iinc 104 dX5_place_101 rfl rfl (by decide) rfl (nI_1 k) ?_
        refine q_goto 39 dX5_place_104 rfl ?_
        first
        | exact q_fg (ih (k + 1) _ _ _ _ (((hK.tr hB.1).tr hK3).tr q.1) (by omega) (by omega) (by rw [moG_f (by rw [← hmo]; exact Int32.not_lt.mpr h_85)]; exact hb) (by rw [moG_f (by rw [← hmo]; exact Int32.not_lt.mpr h_85)]; exact hmo) rfl) ⟨rfl, rfl, rfl, rfl, rfl, rfl, rfl, trivial⟩
        | exact q_fg (ih (k + 1) _ _ _ _ (((hK.tr hB.1).tr hK3).tr q.1) (by omega) (by omega) (by rw [moG_t (by rw [← hmo]; exact Int32.not_le.mp h_85)]) (by rw [moG_t (by rw [← hmo]; exact Int32.not_le.mp h_85)]; exact hR4.2.1) rfl) ⟨rfl, rfl, rfl, rfl, rfl, rfl, rfl, trivial⟩
set_option maxRecDepth 100000 in
set_option maxHeartbeats 4000000 in
theorem c5_place {g : GT} (M : TM) (m n w : Int32) (s : SS) (hR : RW M 0 s) (hW : WF 9999 s) (hT : RT M s) : Cn g yX5_place cX5_place 7 (some .int) 6 [.ref (gad g 5 0), .int m, .int n, .int w] M (PT (aMost s 3 m n w) M) := by
  refine Cn.ofTR (by decide +kernel) (Nat.le_of_ble_eq_true rfl) ?_
  have e11 : M 4 0 11 = s 0 := hR.1.2.1.1.trans hW.1.1.symm
  refine q_aload_n 1 dX5_place_0 rfl rfl ?_
  refine q_iload_n 2 dX5_place_1 rfl rfl ?_
  refine q_callVt 5 dX5_place_2 rfl (c5_isMark _ _) cw_X5_83 (by decide) rfl rfl ⟨by decide, by decide⟩ ⟨by decide, by decide⟩ (Nat.le_of_ble_eq_true rfl) ?_
  refine q_if_eq 27 8 dX5_place_5 rfl rfl (fun h_5 => ?_) (fun h_5 => ?_)
  · skip
    simp only [bI_0, Classical.not_not] at h_5
    rw [e11] at h_5
    refine q_ldc 29 dX5_place_27 rfl cs_X5_73 ?_
    refine q_iret dX5_place_29 ?_
    exact ⟨congrArg (fun x => some (Value.int x)) (by unfold aMost; rw [if_neg (fun q => by first | exact h_5 q.1 | exact h_15 q.2.1 | exact h_24 q.2.2)]), Kp.rf⟩
  · skip
    simp only [bI_0, Classical.not_not] at h_5
    rw [e11] at h_5
    obtain ⟨em, lm⟩ := isM_nat hW.1.1 hW.1.2 h_5
    have hm10 : tn m < 10 := by have := hW.1.2; omega
    refine q_iload_n 9 dX5_place_8 rfl rfl ?_
    refine q_iconst (v := 1) 10 dX5_place_9 rfl rfl ?_
    refine q_bipush (v := 60) 12 dX5_place_10 rfl rfl ?_
    refine q_callSt 15 dX5_place_12 rfl (c5_within _ _ _ _) cw_X5_66 rfl rfl ⟨by decide, by decide⟩ ⟨by decide, by decide⟩ (Nat.le_of_ble_eq_true rfl) ?_
    refine q_if_eq 27 18 dX5_place_15 rfl rfl (fun h_15 => ?_) (fun h_15 => ?_)
    · skip
      simp only [bI_0, Classical.not_not] at h_15
      refine q_ldc 29 dX5_place_27 rfl cs_X5_73 ?_
      refine q_iret dX5_place_29 ?_
      exact ⟨congrArg (fun x => some (Value.int x)) (by unfold aMost; rw [if_neg (fun q => by first | exact h_5 q.1 | exact h_15 q.2.1 | exact h_24 q.2.2)]), Kp.rf⟩
    · skip
      simp only [bI_0, Classical.not_not] at h_15
      obtain ⟨en, ln⟩ := rg_tn (x := n) (hi := 60) (n := 60) ⟨Int32.le_trans (by decide) h_15.1, h_15.2⟩ rfl
      refine q_iload_n 19 dX5_place_18 rfl rfl ?_
      refine q_iconst (v := 0) 20 dX5_place_19 rfl rfl ?_
      refine q_iconst (v := 1) 21 dX5_place_20 rfl rfl ?_
      refine q_callSt 24 dX5_place_21 rfl (c5_within _ _ _ _) cw_X5_66 rfl rfl ⟨by decide, by decide⟩ ⟨by decide, by decide⟩ (Nat.le_of_ble_eq_true rfl) ?_
      refine q_if_ne 30 27 dX5_place_24 rfl rfl (fun h_24 => ?_) (fun h_24 => ?_)
      · skip
        simp only [bI_0, Classical.not_not] at h_24
        refine q_iconst (v := 0) 31 dX5_place_30 rfl rfl ?_
        refine q_istore 33 dX5_place_31 rfl (by decide) rfl ?_
        refine q_iconst (v := (-1)) 34 dX5_place_33 rfl rfl ?_
        refine q_istore 36 dX5_place_34 rfl (by decide) rfl ?_
        refine q_iconst (v := 0) 37 dX5_place_36 rfl rfl ?_
        refine q_istore 39 dX5_place_37 rfl (by decide) rfl ?_
        refine TR_post (q_fg (l5_place M m n w (tn m) (tn n) em en ln s hW hR hT lm 7 0 M _ _ _ Kp.rf (by omega) (by omega) rfl rfl rfl) ⟨rfl, rfl, rfl, rfl, rfl, rfl, rfl, trivial⟩) ?_
        have hcc : isM s m ∧ ((1 ≤ n ∧ n ≤ 60) ∧ (0 ≤ w ∧ w ≤ 1)) := ⟨h_5, h_15, h_24⟩
        have hmo := moG_eq (f := fun v => goN (upd s (21 + 5 * tn m + 3) (nI v)) (tn n) 6) (sh_pos (goN_WK (WF_mk hW hm10 (by omega) (by omega)).k (tn n))) 5
        unfold aMost
        rw [if_pos hcc, ← hmo]
        exact fun _ _ h => h
      · skip
        simp only [bI_0, Classical.not_not] at h_24
        refine q_ldc 29 dX5_place_27 rfl cs_X5_73 ?_
        refine q_iret dX5_place_29 ?_
        exact ⟨congrArg (fun x => some (Value.int x)) (by unfold aMost; rw [if_neg (fun q => by first | exact h_5 q.1 | exact h_15 q.2.1 | exact h_24 q.2.2)]), Kp.rf⟩
set_option maxRecDepth 100000 in
set_option maxHeartbeats 4000000 in
theorem l5_becomes {g : GT} (M : TM) (x z w : Int32) (m n : Nat) (hx : x = nI m) (hz : z = nI n) (h60 : n ≤ 60) (s : SS) (hW : WF 9999 s) (hR : RW M 0 s) (hT : RT M s) (hm : m < nN s) : ∀ (j : Nat) (k : Nat) (N : TM) (b mo y : Int32), Kp 2 M N → 6 - k < j → k ≤ 6 → b = (moG (fun v => goN (upd s (21 + 5 * m + 0) (nI v)) n 6) k).1 → mo = (moG (fun v => goN (upd s (21 + 5 * m + 0) (nI v)) n 6) k).2 → y = nI k → TR g (rmD 6) RX5 cX5_becomes 7 (some .int) 0 0 (Zm g (PT (if w = 0 then (moG (fun v => goN (upd s (21 + 5 * m + 0) (nI v)) n 6) 6).1 else (moG (fun v => goN (upd s (21 + 5 * m + 0) (nI v)) n 6) 6).2) M)) 39 [some (.ref (gad g 5 0)), some (.int x), some (.int z), some (.int w), some (.int b), some (.int mo), some (.int y)] [] N := by
  intro j
  induction j with
  | zero => intro k N b mo y hK hj hk hb hmo hy; exact absurd hj (by omega)
  | succ j ih =>
    intro k N b mo y hK hj hk hb hmo hy
    subst hy
    have h10 := hW.1.2
    have hRN : RW N 0 s := RW_kp hR hK (by decide)
    refine q_iload 41 dX5_becomes_39 rfl rfl ?_
    refine q_iconst (v := 5) 42 dX5_becomes_41 rfl rfl ?_
    refine q_icmp_gt 106 45 dX5_becomes_42 rfl rfl (fun h_42 => ?_) (fun h_42 => ?_)
    · skip
      rw [show (5 : Int32) = nI 5 from rfl, nI_ltI (by omega) (by omega)] at h_42
      refine q_iload_n 107 dX5_becomes_106 rfl rfl ?_
      refine q_if_ne 115 110 dX5_becomes_107 rfl rfl (fun h_107 => ?_) (fun h_107 => ?_)
      · skip
        refine q_iload 117 dX5_becomes_115 rfl rfl ?_
        refine q_iret dX5_becomes_117 ?_
        have e : k = 6 := by omega
        subst e
        first | (have hq : ¬ w = 0 := h_107; rw [if_neg hq]; exact ⟨congrArg (fun x => some (Value.int x)) hmo, hK⟩) | (rw [if_pos h_107]; exact ⟨congrArg (fun x => some (Value.int x)) hb, hK⟩)
      · skip
        refine q_iload 112 dX5_becomes_110 rfl rfl ?_
        refine q_goto 117 dX5_becomes_112 rfl ?_
        refine q_iret dX5_becomes_117 ?_
        have e : k = 6 := by omega
        subst e
        first | (have hq : ¬ w = 0 := h_107; rw [if_neg hq]; exact ⟨congrArg (fun x => some (Value.int x)) hmo, hK⟩) | (rw [if_pos h_107]; exact ⟨congrArg (fun x => some (Value.int x)) hb, hK⟩)
    · skip
      rw [show (5 : Int32) = nI 5 from rfl, nI_ltI (by omega) (by omega)] at h_42
      refine q_aload_n 46 dX5_becomes_45 rfl rfl ?_
      refine q_getR 49 dX5_becomes_46 rfl fl_X5_28 (by decide) rfl rfl ?_
      refine q_aload_n 50 dX5_becomes_49 rfl rfl ?_
      refine q_getR 53 dX5_becomes_50 rfl fl_X5_21 (by decide) rfl rfl ?_
      refine q_callV 56 dX5_becomes_53 rfl (c4_become _ 2 0 (by decide) (by decide) (by decide)) cw_X5_195 (by decide) rfl rfl ⟨by decide, by decide⟩ ⟨by decide, by decide⟩ (Nat.le_of_ble_eq_true rfl) ?_
      rintro _ M2 ⟨rfl, hB⟩
      have hR2 := hB.rw' hRN
      have hR3 := RW_mk (m := m) (v := 0) hR2 h10 (by omega) (Or.inl rfl) (nI k)
      have hK3 : Kp 2 M2 (putA M2 (21 + 0) 2 (upd (M2 (21 + 0) 2) m (nI k))) := Kp.put Kp.rf (by omega)
      have hWk := (WF_mk hW (k := m) (w := 0) (v := k) (by omega) (by omega) (by omega)).k
      refine q_aload_n 57 dX5_becomes_56 rfl rfl ?_
      refine q_getR 60 dX5_becomes_57 rfl fl_X5_28 (by decide) rfl rfl ?_
      refine q_getR 63 dX5_becomes_60 rfl fl_X5_86 (by decide) rfl rfl ?_
      refine q_iload_n 64 dX5_becomes_63 rfl rfl ?_
      refine q_iload 66 dX5_becomes_64 rfl rfl ?_
      refine q_iast 67 dX5_becomes_66 rfl (by decide) (by decide) hx (show m < 10 by omega) ?_
      refine q_aload_n 68 dX5_becomes_67 rfl rfl ?_
      refine q_getR 71 dX5_becomes_68 rfl fl_X5_28 (by decide) rfl rfl ?_
      refine q_iload_n 72 dX5_becomes_71 rfl rfl ?_
      refine q_callV 75 dX5_becomes_72 rfl (c4_pass _ 2 (by decide) _ _ (fun i => i) hR3.1 hWk (RT_to (hT.kp ((hK.tr hB.1).tr hK3)) (upd_n (by omega)) (fun i hi => upd_n (by omega))) z n hz (by omega)) cw_X5_182 (by decide) rfl rfl ⟨by decide, by decide⟩ ⟨by decide, by decide⟩ (Nat.le_of_ble_eq_true rfl) ?_
      rintro _ M4 ⟨rfl, q⟩
      have hR4 := RW_goN hR3 hWk q
      refine q_aload_n 76 dX5_becomes_75 rfl rfl ?_
      refine q_getR 79 dX5_becomes_76 rfl fl_X5_28 (by decide) rfl rfl ?_
      refine q_getI 82 dX5_becomes_79 rfl fl_X5_176 (by decide) rfl (by decide) ?_
      refine q_iload 84 dX5_becomes_82 rfl rfl ?_
      refine q_icmp_le 100 87 dX5_becomes_84 rfl rfl (fun h_84 => ?_) (fun h_84 => ?_)
      · skip
        rw [hR4.2.1] at h_84
        refine q_iinc 103 dX5_becomes_100 rfl rfl (by decide) rfl (nI_1 k) ?_
        refine q_goto 39 dX5_becomes_103 rfl ?_
        first
        | exact q_fg (ih (k + 1) _ _ _ _ (((hK.tr hB.1).tr hK3).tr q.1) (by omega) (by omega) (by rw [moG_f (by rw [← hmo]; exact Int32.not_lt.mpr h_84)]; exact hb) (by rw [moG_f (by rw [← hmo]; exact Int32.not_lt.mpr h_84)]; exact hmo) rfl) ⟨rfl, rfl, rfl, rfl, rfl, rfl, rfl, trivial⟩
        | exact q_fg (ih (k + 1) _ _ _ _ (((hK.tr hB.1).tr hK3).tr q.1) (by omega) (by omega) (by rw [moG_t (by rw [← hmo]; exact Int32.not_le.mp h_84)]) (by rw [moG_t (by rw [← hmo]; exact Int32.not_le.mp h_84)]; exact hR4.2.1) rfl) ⟨rfl, rfl, rfl, rfl, rfl, rfl, rfl, trivial⟩
      · skip
        rw [hR4.2.1] at h_84
        refine q_iload 89 dX5_becomes_87 rfl rfl ?_
        refine q_istore 91 dX5_becomes_89 rfl (by decide) rfl ?_
        refine q_aload_n 92 dX5_becomes_91 rfl rfl ?_
        refine q_getR 95 dX5_becomes_92 rfl fl_X5_28 (by decide) rfl rfl ?_
        refine q_getI 98 dX5_becomes_95 rfl fl_X5_176 (by decide) rfl (by decide) ?_
        refine q_istore 100 dX5_becomes_98 rfl (by decide) rfl ?_
        refine q_iinc 103 dX5_becomes_100 rfl rfl (by decide) rfl (nI_1 k) ?_
        refine q_goto 39 dX5_becomes_103 rfl ?_
        first
        | exact q_fg (ih (k + 1) _ _ _ _ (((hK.tr hB.1).tr hK3).tr q.1) (by omega) (by omega) (by rw [moG_f (by rw [← hmo]; exact Int32.not_lt.mpr h_84)]; exact hb) (by rw [moG_f (by rw [← hmo]; exact Int32.not_lt.mpr h_84)]; exact hmo) rfl) ⟨rfl, rfl, rfl, rfl, rfl, rfl, rfl, trivial⟩
        | exact q_fg (ih (k + 1) _ _ _ _ (((hK.tr hB.1).tr hK3).tr q.1) (by omega) (by omega) (by rw [moG_t (by rw [← hmo]; exact Int32.not_le.mp h_84)]) (by rw [moG_t (by rw [← hmo]; exact Int32.not_le.mp h_84)]; exact hR4.2.1) rfl) ⟨rfl, rfl, rfl, rfl, rfl, rfl, rfl, trivial⟩
set_option maxRecDepth 100000 in
set_option maxHeartbeats 4000000 in
theorem c5_becomes {g : GT} (M : TM) (m n w : Int32) (s : SS) (hR : RW M 0 s) (hW : WF 9999 s) (hT : RT M s) : Cn g yX5_becomes cX5_becomes 7 (some .int) 6 [.ref (gad g 5 0), .int m, .int n, .int w] M (PT (aMost s 0 m n w) M) := by
  refine Cn.ofTR (by decide +kernel) (Nat.le_of_ble_eq_true rfl) ?_
  have e11 : M 4 0 11 = s 0 := hR.1.2.1.1.trans hW.1.1.symm
  refine q_aload_n 1 dX5_becomes_0 rfl rfl ?_
  refine q_iload_n 2 dX5_becomes_1 rfl rfl ?_
  refine q_callVt 5 dX5_becomes_2 rfl (c5_isMark _ _) cw_X5_83 (by decide) rfl rfl ⟨by decide, by decide⟩ ⟨by decide, by decide⟩ (Nat.le_of_ble_eq_true rfl) ?_
  refine q_if_eq 27 8 dX5_becomes_5 rfl rfl (fun h_5 => ?_) (fun h_5 => ?_)
  · skip
    simp only [bI_0, Classical.not_not] at h_5
    rw [e11] at h_5
    refine q_ldc 29 dX5_becomes_27 rfl cs_X5_73 ?_
    refine q_iret dX5_becomes_29 ?_
    exact ⟨congrArg (fun x => some (Value.int x)) (by unfold aMost; rw [if_neg (fun q => by first | exact h_5 q.1 | exact h_15 q.2.1 | exact h_24 q.2.2)]), Kp.rf⟩
  · skip
    simp only [bI_0, Classical.not_not] at h_5
    rw [e11] at h_5
    obtain ⟨em, lm⟩ := isM_nat hW.1.1 hW.1.2 h_5
    have hm10 : tn m < 10 := by have := hW.1.2; omega
    refine q_iload_n 9 dX5_becomes_8 rfl rfl ?_
    refine q_iconst (v := 1) 10 dX5_becomes_9 rfl rfl ?_
    refine q_bipush (v := 60) 12 dX5_becomes_10 rfl rfl ?_
    refine q_callSt 15 dX5_becomes_12 rfl (c5_within _ _ _ _) cw_X5_66 rfl rfl ⟨by decide, by decide⟩ ⟨by decide, by decide⟩ (Nat.le_of_ble_eq_true rfl) ?_
    refine q_if_eq 27 18 dX5_becomes_15 rfl rfl (fun h_15 => ?_) (fun h_15 => ?_)
    · skip
      simp only [bI_0, Classical.not_not] at h_15
      refine q_ldc 29 dX5_becomes_27 rfl cs_X5_73 ?_
      refine q_iret dX5_becomes_29 ?_
      exact ⟨congrArg (fun x => some (Value.int x)) (by unfold aMost; rw [if_neg (fun q => by first | exact h_5 q.1 | exact h_15 q.2.1 | exact h_24 q.2.2)]), Kp.rf⟩
    · skip
      simp only [bI_0, Classical.not_not] at h_15
      obtain ⟨en, ln⟩ := rg_tn (x := n) (hi := 60) (n := 60) ⟨Int32.le_trans (by decide) h_15.1, h_15.2⟩ rfl
      refine q_iload_n 19 dX5_becomes_18 rfl rfl ?_
      refine q_iconst (v := 0) 20 dX5_becomes_19 rfl rfl ?_
      refine q_iconst (v := 1) 21 dX5_becomes_20 rfl rfl ?_
      refine q_callSt 24 dX5_becomes_21 rfl (c5_within _ _ _ _) cw_X5_66 rfl rfl ⟨by decide, by decide⟩ ⟨by decide, by decide⟩ (Nat.le_of_ble_eq_true rfl) ?_
      refine q_if_ne 30 27 dX5_becomes_24 rfl rfl (fun h_24 => ?_) (fun h_24 => ?_)
      · skip
        simp only [bI_0, Classical.not_not] at h_24
        refine q_iconst (v := 0) 31 dX5_becomes_30 rfl rfl ?_
        refine q_istore 33 dX5_becomes_31 rfl (by decide) rfl ?_
        refine q_iconst (v := (-1)) 34 dX5_becomes_33 rfl rfl ?_
        refine q_istore 36 dX5_becomes_34 rfl (by decide) rfl ?_
        refine q_iconst (v := 0) 37 dX5_becomes_36 rfl rfl ?_
        refine q_istore 39 dX5_becomes_37 rfl (by decide) rfl ?_
        refine TR_post (q_fg (l5_becomes M m n w (tn m) (tn n) em en ln s hW hR hT lm 7 0 M _ _ _ Kp.rf (by omega) (by omega) rfl rfl rfl) ⟨rfl, rfl, rfl, rfl, rfl, rfl, rfl, trivial⟩) ?_
        have hcc : isM s m ∧ ((1 ≤ n ∧ n ≤ 60) ∧ (0 ≤ w ∧ w ≤ 1)) := ⟨h_5, h_15, h_24⟩
        have hmo := moG_eq (f := fun v => goN (upd s (21 + 5 * tn m + 0) (nI v)) (tn n) 6) (sh_pos (goN_WK (WF_mk hW hm10 (by omega) (by omega)).k (tn n))) 5
        unfold aMost
        rw [if_pos hcc, ← hmo]
        exact fun _ _ h => h
      · skip
        simp only [bI_0, Classical.not_not] at h_24
        refine q_ldc 29 dX5_becomes_27 rfl cs_X5_73 ?_
        refine q_iret dX5_becomes_29 ?_
        exact ⟨congrArg (fun x => some (Value.int x)) (by unfold aMost; rw [if_neg (fun q => by first | exact h_5 q.1 | exact h_15 q.2.1 | exact h_24 q.2.2)]), Kp.rf⟩
