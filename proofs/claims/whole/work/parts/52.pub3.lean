theorem drM_RW {M : TM} {w : Nat} {s : SS} (hR : RW M w s) (h10 : nN s ≤ 10) : RW (drM M w) w (drS s) := by
  have q := RW_z hR h10 (drF (s 8))
  rw [← hR.1.1.2.2.2.2.2] at q
  unfold drS
  rw [← hR.1.1.2.2.2.2.2]
  exact q
theorem RW.sp {M : TM} {w : Nat} {s : SS} (hR : RW M w s) : usF (drF (M 4 w 15)) = drA s := hR.1.z
theorem c4_drawM {g : GT} (M : TM) (w : Nat) (hw : w < 3) : Cn g yX4_draw cX4_draw 1 (some .int) 0 [.ref (gad g 4 w)] M (Rt (.int (usF (drF (M 4 w 15)))) (drM M w)) := c4_draw M w hw
theorem rm_c {x y : Int32} (h : x = y) (d : Int32) : x - x / d * d = rmF y d := by rw [h]; rfl
set_option maxRecDepth 100000 in
set_option maxHeartbeats 4000000 in
theorem l5_deal {g : GT} (M : TM) (x : Int32) (n : Nat) (s : SS) (hW : WK s) (hn : nN s + n ≤ 10) : ∀ (j : Nat) (k : Nat) (N : TM) (y : Int32), Kp 0 M N → RW N 0 (deN s k) → n - k < j → k ≤ n → y = nI k → TR g (rmD 3) RX5 cX5_deal 7 (some .int) 0 0 (Zm g (PN (nI n) M (deN s n))) 30 [some (.ref (gad g 5 0)), some (.int x), some (.int (nI n)), some (.int y), none, none, none] [] N := by
  intro j
  induction j with
  | zero => intro k N y hK hR hj hk hy; exact absurd hj (by omega)
  | succ j ih =>
    intro k N y hK hR hj hk hy
    subst hy
    obtain ⟨w1, w2, w3⟩ := deN_ok hW k (by omega)
    refine q_iload_n 31 dX5_deal_30 rfl rfl ?_
    refine q_iload_n 32 dX5_deal_31 rfl rfl ?_
    refine q_icmp_ge 104 35 dX5_deal_32 rfl rfl (fun h_32 => ?_) (fun h_32 => ?_)
    · skip
      rw [nI_leI (by omega) (by omega)] at h_32
      refine q_iload_n 105 dX5_deal_104 rfl rfl ?_
      refine q_iret dX5_deal_105 ?_
      have e : k = n := by omega
      subst e
      exact ⟨rfl, hK, hR⟩
    · skip
      rw [nI_leI (by omega) (by omega)] at h_32
      have hR1 := drM_RW hR w1.1.2
      have hR2 := drM_RW hR1 (drS_WK w1).1.2
      have hR3 := drM_RW hR2 (drS_WK (drS_WK w1)).1.2
      have hW4 := drS_WK (drS_WK (drS_WK (drS_WK w1)))
      have hR4 := drM_RW hR3 (drS_WK (drS_WK (drS_WK w1))).1.2
      have hn4 : nN (drS (drS (drS (drS (deN s k))))) = nN s + k := w2
      obtain ⟨d, hd, ed⟩ := drA_n (drS (drS (drS (deN s k)))) 6 (by decide) (by decide)
      refine q_aload_n 36 dX5_deal_35 rfl rfl ?_
      refine q_getR 39 dX5_deal_36 rfl fl_X5_21 (by decide) rfl rfl ?_
      refine q_callVt 42 dX5_deal_39 rfl (c4_drawM _ 0 (by decide)) cw_X5_154 (by decide) rfl rfl ⟨by decide, by decide⟩ ⟨by decide, by decide⟩ (Nat.le_of_ble_eq_true rfl) ?_
      refine q_bipush (v := 6) 44 dX5_deal_42 rfl rfl ?_
      refine q_irem 45 dX5_deal_44 rfl (by decide) ?_
      refine q_istore 47 dX5_deal_45 rfl (by decide) rfl ?_
      refine q_aload_n 48 dX5_deal_47 rfl rfl ?_
      refine q_getR 51 dX5_deal_48 rfl fl_X5_21 (by decide) rfl rfl ?_
      refine q_callVt 54 dX5_deal_51 rfl (c4_drawM _ 0 (by decide)) cw_X5_154 (by decide) rfl rfl ⟨by decide, by decide⟩ ⟨by decide, by decide⟩ (Nat.le_of_ble_eq_true rfl) ?_
      refine q_bipush (v := 70) 56 dX5_deal_54 rfl rfl ?_
      refine q_irem 57 dX5_deal_56 rfl (by decide) ?_
      refine q_bipush (v := 30) 59 dX5_deal_57 rfl rfl ?_
      refine q_iadd 60 dX5_deal_59 rfl ?_
      refine q_istore 62 dX5_deal_60 rfl (by decide) rfl ?_
      refine q_aload_n 63 dX5_deal_62 rfl rfl ?_
      refine q_getR 66 dX5_deal_63 rfl fl_X5_21 (by decide) rfl rfl ?_
      refine q_callVt 69 dX5_deal_66 rfl (c4_drawM _ 0 (by decide)) cw_X5_154 (by decide) rfl rfl ⟨by decide, by decide⟩ ⟨by decide, by decide⟩ (Nat.le_of_ble_eq_true rfl) ?_
      refine q_bipush (v := 40) 71 dX5_deal_69 rfl rfl ?_
      refine q_irem 72 dX5_deal_71 rfl (by decide) ?_
      refine q_istore 74 dX5_deal_72 rfl (by decide) rfl ?_
      refine q_aload_n 75 dX5_deal_74 rfl rfl ?_
      refine q_getR 78 dX5_deal_75 rfl fl_X5_21 (by decide) rfl rfl ?_
      refine q_iload 80 dX5_deal_78 rfl rfl ?_
      refine q_iload 82 dX5_deal_80 rfl rfl ?_
      refine q_iload 84 dX5_deal_82 rfl rfl ?_
      refine q_aload_n 85 dX5_deal_84 rfl rfl ?_
      refine q_getR 88 dX5_deal_85 rfl fl_X5_21 (by decide) rfl rfl ?_
      refine q_callVt 91 dX5_deal_88 rfl (c4_drawM _ 0 (by decide)) cw_X5_154 (by decide) rfl rfl ⟨by decide, by decide⟩ ⟨by decide, by decide⟩ (Nat.le_of_ble_eq_true rfl) ?_
      refine q_bipush (v := 6) 93 dX5_deal_91 rfl rfl ?_
      refine q_irem 94 dX5_deal_93 rfl (by decide) ?_
      refine q_callVt 97 dX5_deal_94 rfl (c4_add (drM (drM (drM (drM N 0) 0) 0) 0) 0 (by decide) (nN s + k) (hR4.1.2.1.1.trans (congrArg nI hn4)) (by omega) _ _ _ _ d ((rm_c hR3.sp 6).trans ed) hd) cw_X5_79 (by decide) rfl rfl ⟨by decide, by decide⟩ ⟨by decide, by decide⟩ (Nat.le_of_ble_eq_true rfl) ?_
      refine q_pop 98 dX5_deal_97 rfl rfl ?_
      refine q_iinc 101 dX5_deal_98 rfl rfl (by decide) rfl (nI_1 k) ?_
      refine q_goto 30 dX5_deal_101 rfl ?_
      skip
      refine q_fg (ih (k + 1) _ _ (hK.tr ((drM_kp.tr drM_kp).tr ((drM_kp.tr drM_kp).tr adM_kp))) ?_ (by omega) (by omega) rfl) ⟨rfl, rfl, rfl, rfl, trivial⟩
      have q := adM_RW (k := rmF (drA (deN s k)) 6) (i := rmF (drA (drS (deN s k))) 70 + 30) (d := rmF (drA (drS (drS (deN s k)))) 40) hR4 hW4.1.1 (by omega) hd
      rw [hn4, ← show rmF (drA (drS (drS (drS (deN s k))))) 6 = nI d from ed] at q
      rw [rm_c hR.sp 6, rm_c (d := 70) hR1.sp, rm_c (d := 40) hR2.sp]
      exact q
set_option maxRecDepth 100000 in
set_option maxHeartbeats 4000000 in
theorem c5_deal {g : GT} (M : TM) (n : Int32) (s : SS) (hR : RW M 0 s) (hW : WF 9999 s) (hT : RT M s) : Cn g yX5_deal cX5_deal 7 (some .int) 3 [.ref (gad g 5 0), .int n] M (PN (aDeal s n) M (sDeal s n)) := by
  refine Cn.ofTR (by decide +kernel) (Nat.le_of_ble_eq_true rfl) ?_
  have hR0 := hR
  obtain ⟨⟨hC, ⟨h11, hm10⟩, hM⟩, h12, h16⟩ := hR
  have hW0 := hW
  obtain ⟨⟨hn, hn10⟩, hsp, hr, hc, hm, ht⟩ := hW
  have e11 : M 4 0 11 = s 0 := h11.trans hn.symm
  refine q_iload_n 1 dX5_deal_0 rfl rfl ?_
  refine q_iconst (v := 1) 2 dX5_deal_1 rfl rfl ?_
  refine q_bipush (v := 10) 4 dX5_deal_2 rfl rfl ?_
  refine q_callSt 7 dX5_deal_4 rfl (c5_within _ _ _ _) cw_X5_66 rfl rfl ⟨by decide, by decide⟩ ⟨by decide, by decide⟩ (Nat.le_of_ble_eq_true rfl) ?_
  refine q_if_ne 13 10 dX5_deal_7 rfl rfl (fun h_7 => ?_) (fun h_7 => ?_)
  · skip
    simp only [bI_0, Classical.not_not] at h_7
    obtain ⟨en, ln⟩ := rg_tn (x := n) (hi := 10) (n := 10) ⟨Int32.le_trans (by decide) h_7.1, h_7.2⟩ rfl
    refine q_iload_n 14 dX5_deal_13 rfl rfl ?_
    refine q_bipush (v := 10) 16 dX5_deal_14 rfl rfl ?_
    refine q_aload_n 17 dX5_deal_16 rfl rfl ?_
    refine q_getR 20 dX5_deal_17 rfl fl_X5_21 (by decide) rfl rfl ?_
    refine q_getI 23 dX5_deal_20 rfl fl_X5_74 (by decide) rfl (by decide) ?_
    refine q_isub 24 dX5_deal_23 rfl ?_
    refine q_mmin 27 dX5_deal_24 rfl cw_X5_149 ⟨by decide, by decide⟩ ⟨by decide, by decide⟩ (Nat.le_of_ble_eq_true rfl) ?_
    refine q_istore_n 28 dX5_deal_27 rfl (by decide) rfl ?_
    refine q_iconst (v := 0) 29 dX5_deal_28 rfl rfl ?_
    refine q_istore_n 30 dX5_deal_29 rfl (by decide) rfl ?_
    have ed : miF n (10 - M 4 0 11) = nI (deA s n) := by rw [miF_le, h11, show (10 : Int32) = nI 10 from rfl, pk_sub hn10, en, leF_nI (by omega) (by omega)]; rw [show deA s (nI (tn n)) = deA s n by rw [← en]]; rfl
    rw [ed]
    refine TR_post (q_fg (l5_deal M n (deA s n) s hW0.k (by unfold deA; omega) (deA s n + 1) 0 M _ Kp.rf hR0 (by omega) (by omega) rfl) ⟨rfl, rfl, rfl, rfl, trivial⟩) ?_
    unfold aDeal sDeal
    rw [if_pos h_7, if_pos h_7]
    exact fun _ _ h => h
  · skip
    simp only [bI_0, Classical.not_not] at h_7
    refine q_ldc 12 dX5_deal_10 rfl cs_X5_73 ?_
    refine q_iret dX5_deal_12 ?_
    refine ⟨congrArg (fun x => some (Value.int x)) ?_, Kp.rf, ?_⟩
    · unfold aDeal; rw [if_neg h_7]
    · unfold sDeal; rw [if_neg h_7]; exact hR0
theorem br_id (s : SS) (c : Int32) : brC s c (fun i => i) (nN s) = brA s c := rfl
theorem RW_brF {M' M : TM} {s : SS} {c b : Int32} (hP : RP M' 0 (brF s c) (nN s) (fun i => i)) (hR : RW M 0 s) (h10 : nN s ≤ 10) (h4 : M' 4 0 = upd (upd (M 4 0) 17 b) 12 (leF 99999 (M 4 0 12 + brC s c (fun i => i) (nN s)))) : RW M' 0 (brF s c) := by
  have o0 : brF s c 0 = s 0 := brF_o (by omega) (fun j _ => by omega)
  have o1 : brF s c 1 = s 1 := brF_o (by omega) (fun j _ => by omega)
  refine ⟨by show RP M' 0 (brF s c) (nN (brF s c)) _; rw [nN_c o0]; exact hP, ?_, ?_⟩
  · rw [h4, upd_s, hR.2.1]; unfold brF; rw [upd_s]; rfl
  · rw [h4, upd_n (by decide), upd_n (by decide), nT_c o1]; exact hR.2.2
theorem RW_duF {M : TM} {s : SS} {c : Nat} {n : Int32} (hR : RW M 0 s) (h10 : nN s ≤ 10) (h6 : c < 6) : RW (dgO M 0 (nN s) (fun i => i) s c n (nN s)) 0 (duF s c n) := by
  have o : ∀ i, i < 7 → duF s c n i = s i := fun i hi => duF_o (by omega) (by omega) (by omega) (fun j _ => by omega)
  refine ⟨by show RP _ 0 (duF s c n) (nN (duF s c n)) _; rw [nN_c (o 0 (by omega))]; exact dgO_RP hR.1 h10 h6, ?_, ?_⟩
  · rw [dgO_4, upd_n (by decide), o 6 (by omega)]; exact hR.2.1
  · rw [dgO_4, upd_n (by decide), nT_c (o 1 (by omega))]; exact hR.2.2
theorem RW_goN {M M' : TM} {w : Nat} {s : SS} {n : Nat} (hR : RW M w s) (hW : WK s) (h : QP M w (nN s) s (fun i => i) n M') : RW M' w (goN s n) := by
  obtain ⟨h1, h2, h3, h4, h5⟩ := h
  refine ⟨by show RP M' w (goN s n) (nN (goN s n)) _; rw [nN_c (goN_o hW (by omega) n)]; exact h2, ?_, ?_⟩
  · rw [h4, hR.2.1, shV_full hW]
  · rw [h3, nT_c (goN_o hW (by omega) n)]; exact hR.2.2
set_option maxRecDepth 100000 in
set_option maxHeartbeats 4000000 in
theorem c5_breathe {g : GT} (M : TM) (c : Int32) (s : SS) (hR : RW M 0 s) (hW : WF 9999 s) (hT : RT M s) : Cn g yX5_breathe cX5_breathe 2 (some .int) 5 [.ref (gad g 5 0), .int c] M (PN (aBreathe s c) M (sBreathe s c)) := by
  refine Cn.ofTR (by decide +kernel) (Nat.le_of_ble_eq_true rfl) ?_
  refine q_iload_n 1 dX5_breathe_0 rfl rfl ?_
  refine q_callSt 4 dX5_breathe_1 rfl (c5_isCell _ _) cw_X5_70 rfl rfl ⟨by decide, by decide⟩ ⟨by decide, by decide⟩ (Nat.le_of_ble_eq_true rfl) ?_
  refine q_if_eq 18 7 dX5_breathe_4 rfl rfl (fun h_4 => ?_) (fun h_4 => ?_)
  · skip
    simp only [bI_0, Classical.not_not] at h_4
    refine q_ldc 20 dX5_breathe_18 rfl cs_X5_73 ?_
    refine q_iret dX5_breathe_20 ?_
    unfold aBreathe sBreathe
    first | (have hq : ¬ (0 ≤ c ∧ c ≤ 5) := h_4; rw [if_neg hq, if_neg hq]; exact ⟨rfl, Kp.rf, hR⟩) | (rw [if_pos h_4, if_pos h_4]; exact ⟨rfl, b1, RW_brF b2 hR hW.1.2 b3⟩)
  · skip
    simp only [bI_0, Classical.not_not] at h_4
    refine q_aload_n 8 dX5_breathe_7 rfl rfl ?_
    refine q_getR 11 dX5_breathe_8 rfl fl_X5_21 (by decide) rfl rfl ?_
    refine q_iload_n 12 dX5_breathe_11 rfl rfl ?_
    refine q_callV 15 dX5_breathe_12 rfl (c4_breathOn _ 0 (by decide) s (nN s) (fun i => i) hR.1 hW.k hT c) cw_X5_170 (by decide) rfl rfl ⟨by decide, by decide⟩ ⟨by decide, by decide⟩ (Nat.le_of_ble_eq_true rfl) ?_
    rintro _ M2 ⟨rfl, b1, b2, b3⟩
    refine q_goto 20 dX5_breathe_15 rfl ?_
    refine q_iret dX5_breathe_20 ?_
    unfold aBreathe sBreathe
    first | (have hq : ¬ (0 ≤ c ∧ c ≤ 5) := h_4; rw [if_neg hq, if_neg hq]; exact ⟨rfl, Kp.rf, hR⟩) | (rw [if_pos h_4, if_pos h_4]; exact ⟨rfl, b1, RW_brF b2 hR hW.1.2 b3⟩)
set_option maxRecDepth 100000 in
set_option maxHeartbeats 4000000 in
theorem c5_dig {g : GT} (M : TM) (c n : Int32) (s : SS) (hR : RW M 0 s) (hW : WF 9999 s) (hT : RT M s) : Cn g yX5_dig cX5_dig 3 (some .int) 2 [.ref (gad g 5 0), .int c, .int n] M (PN (aDig s c n) M (sDig s c n)) := by
  refine Cn.ofTR (by decide +kernel) (Nat.le_of_ble_eq_true rfl) ?_
  refine q_iload_n 1 dX5_dig_0 rfl rfl ?_
  refine q_callSt 4 dX5_dig_1 rfl (c5_isCell _ _) cw_X5_70 rfl rfl ⟨by decide, by decide⟩ ⟨by decide, by decide⟩ (Nat.le_of_ble_eq_true rfl) ?_
  refine q_if_eq 29 7 dX5_dig_4 rfl rfl (fun h_4 => ?_) (fun h_4 => ?_)
  · skip
    simp only [bI_0, Classical.not_not] at h_4
    refine q_ldc 31 dX5_dig_29 rfl cs_X5_73 ?_
    refine q_iret dX5_dig_31 ?_
    unfold aDig sDig
    first | (have hq : ¬ (0 ≤ c ∧ c ≤ 5) := h_4; rw [if_neg (fun z => hq z.1), if_neg (fun z => hq z.1)]; exact ⟨rfl, Kp.rf, hR⟩) | (have hq : ¬ (0 ≤ n ∧ n ≤ 99) := h_14; rw [if_neg (fun z => hq z.2), if_neg (fun z => hq z.2)]; exact ⟨rfl, Kp.rf, hR⟩) | (rw [if_pos ⟨h_4, h_14⟩, if_pos ⟨h_4, h_14⟩]; rw [← en]; have q := RW_duF (n := n) hR hW.1.2 (show tn c < 6 by omega); exact ⟨rfl, dgO_kp, q⟩)
  · skip
    simp only [bI_0, Classical.not_not] at h_4
    refine q_iload_n 8 dX5_dig_7 rfl rfl ?_
    refine q_iconst (v := 0) 9 dX5_dig_8 rfl rfl ?_
    refine q_bipush (v := 99) 11 dX5_dig_9 rfl rfl ?_
    refine q_callSt 14 dX5_dig_11 rfl (c5_within _ _ _ _) cw_X5_66 rfl rfl ⟨by decide, by decide⟩ ⟨by decide, by decide⟩ (Nat.le_of_ble_eq_true rfl) ?_
    refine q_if_eq 29 17 dX5_dig_14 rfl rfl (fun h_14 => ?_) (fun h_14 => ?_)
    · skip
      simp only [bI_0, Classical.not_not] at h_14
      refine q_ldc 31 dX5_dig_29 rfl cs_X5_73 ?_
      refine q_iret dX5_dig_31 ?_
      unfold aDig sDig
      first | (have hq : ¬ (0 ≤ c ∧ c ≤ 5) := h_4; rw [if_neg (fun z => hq z.1), if_neg (fun z => hq z.1)]; exact ⟨rfl, Kp.rf, hR⟩) | (have hq : ¬ (0 ≤ n ∧ n ≤ 99) := h_14; rw [if_neg (fun z => hq z.2), if_neg (fun z => hq z.2)]; exact ⟨rfl, Kp.rf, hR⟩) | (rw [if_pos ⟨h_4, h_14⟩, if_pos ⟨h_4, h_14⟩]; rw [← en]; have q := RW_duF (n := n) hR hW.1.2 (show tn c < 6 by omega); exact ⟨rfl, dgO_kp, q⟩)
    · skip
      simp only [bI_0, Classical.not_not] at h_14
      obtain ⟨ec, lc⟩ := rg_tn h_4 (n := 5) rfl
      obtain ⟨en, ln⟩ := rg_tn h_14 (n := 99) rfl
      refine q_aload_n 18 dX5_dig_17 rfl rfl ?_
      refine q_getR 21 dX5_dig_18 rfl fl_X5_21 (by decide) rfl rfl ?_
      refine q_iload_n 22 dX5_dig_21 rfl rfl ?_
      refine q_iload_n 23 dX5_dig_22 rfl rfl ?_
      refine q_callVt 26 dX5_dig_23 rfl (c4_digOut _ 0 (by decide) s (nN s) (fun i => i) hR.1 hW.k c n (tn c) (tn n) ec (by omega) en ln) cw_X5_173 (by decide) rfl rfl ⟨by decide, by decide⟩ ⟨by decide, by decide⟩ (Nat.le_of_ble_eq_true rfl) ?_
      refine q_goto 31 dX5_dig_26 rfl ?_
      refine q_iret dX5_dig_31 ?_
      unfold aDig sDig
      first | (have hq : ¬ (0 ≤ c ∧ c ≤ 5) := h_4; rw [if_neg (fun z => hq z.1), if_neg (fun z => hq z.1)]; exact ⟨rfl, Kp.rf, hR⟩) | (have hq : ¬ (0 ≤ n ∧ n ≤ 99) := h_14; rw [if_neg (fun z => hq z.2), if_neg (fun z => hq z.2)]; exact ⟨rfl, Kp.rf, hR⟩) | (rw [if_pos ⟨h_4, h_14⟩, if_pos ⟨h_4, h_14⟩]; rw [← en]; have q := RW_duF (n := n) hR hW.1.2 (show tn c < 6 by omega); exact ⟨rfl, dgO_kp, q⟩)
set_option maxRecDepth 100000 in
set_option maxHeartbeats 4000000 in
theorem c5_springs {g : GT} (M : TM) (n : Int32) (s : SS) (hR : RW M 0 s) (hW : WF 9999 s) (hT : RT M s) : Cn g yX5_springs cX5_springs 3 (some .int) 6 [.ref (gad g 5 0), .int n] M (PN (aSprings s n) M (sSprings s n)) := by
  refine Cn.ofTR (by decide +kernel) (Nat.le_of_ble_eq_true rfl) ?_
  refine q_iload_n 1 dX5_springs_0 rfl rfl ?_
  refine q_iconst (v := 1) 2 dX5_springs_1 rfl rfl ?_
  refine q_bipush (v := 100) 4 dX5_springs_2 rfl rfl ?_
  refine q_callSt 7 dX5_springs_4 rfl (c5_within _ _ _ _) cw_X5_66 rfl rfl ⟨by decide, by decide⟩ ⟨by decide, by decide⟩ (Nat.le_of_ble_eq_true rfl) ?_
  refine q_if_ne 13 10 dX5_springs_7 rfl rfl (fun h_7 => ?_) (fun h_7 => ?_)
  · skip
    simp only [bI_0, Classical.not_not] at h_7
    obtain ⟨es, ls1, ls2, ls3⟩ := spN_eq hW h_7
    have ex : miF n (9999 - M 4 0 14) = nI (spN s n) := by rw [miF_le, hR.1.1.2.2.2.2.1]; exact es
    refine q_aload_n 14 dX5_springs_13 rfl rfl ?_
    refine q_getR 17 dX5_springs_14 rfl fl_X5_21 (by decide) rfl rfl ?_
    refine q_getI 20 dX5_springs_17 rfl fl_X5_176 (by decide) rfl (by decide) ?_
    refine q_istore_n 21 dX5_springs_20 rfl (by decide) rfl ?_
    refine q_aload_n 22 dX5_springs_21 rfl rfl ?_
    refine q_getR 25 dX5_springs_22 rfl fl_X5_21 (by decide) rfl rfl ?_
    refine q_iload_n 26 dX5_springs_25 rfl rfl ?_
    refine q_sipush (v := 9999) 29 dX5_springs_26 rfl rfl ?_
    refine q_aload_n 30 dX5_springs_29 rfl rfl ?_
    refine q_getR 33 dX5_springs_30 rfl fl_X5_21 (by decide) rfl rfl ?_
    refine q_getI 36 dX5_springs_33 rfl fl_X5_179 (by decide) rfl (by decide) ?_
    refine q_isub 37 dX5_springs_36 rfl ?_
    refine q_mmin 40 dX5_springs_37 rfl cw_X5_149 ⟨by decide, by decide⟩ ⟨by decide, by decide⟩ (Nat.le_of_ble_eq_true rfl) ?_
    refine q_callV 43 dX5_springs_40 rfl (c4_pass _ 0 (by decide) s (nN s) (fun i => i) hR.1 hW.k hT _ (spN s n) ex (by omega)) cw_X5_182 (by decide) rfl rfl ⟨by decide, by decide⟩ ⟨by decide, by decide⟩ (Nat.le_of_ble_eq_true rfl) ?_
    rintro _ M2 ⟨rfl, q⟩
    have hR2 := RW_goN hR hW.k q
    refine q_aload_n 44 dX5_springs_43 rfl rfl ?_
    refine q_getR 47 dX5_springs_44 rfl fl_X5_21 (by decide) rfl rfl ?_
    refine q_getI 50 dX5_springs_47 rfl fl_X5_176 (by decide) rfl (by decide) ?_
    refine q_iload_n 51 dX5_springs_50 rfl rfl ?_
    refine q_isub 52 dX5_springs_51 rfl ?_
    refine q_iret dX5_springs_52 ?_
    unfold aSprings sSprings
    rw [if_pos h_7, if_pos h_7]
    exact ⟨by rw [hR2.2.1, hR.2.1], q.1, hR2⟩
  · skip
    simp only [bI_0, Classical.not_not] at h_7
    refine q_ldc 12 dX5_springs_10 rfl cs_X5_73 ?_
    refine q_iret dX5_springs_12 ?_
    unfold aSprings sSprings
    rw [if_neg h_7, if_neg h_7]
    exact ⟨rfl, Kp.rf, hR⟩
set_option maxRecDepth 100000 in
set_option maxHeartbeats 4000000 in
theorem c5_walls {g : GT} (M : TM) (w : Int32) (s : SS) (hR : RW M 0 s) (hW : WF 9999 s) (hT : RT M s) : Cn g yX5_walls cX5_walls 2 (some .int) 6 [.ref (gad g 5 0), .int w] M (Q17 (.int (aWalls s w)) M) := by
  refine Cn.ofTR (by decide +kernel) (Nat.le_of_ble_eq_true rfl) ?_
  refine q_iload_n 1 dX5_walls_0 rfl rfl ?_
  refine q_iconst (v := 0) 2 dX5_walls_1 rfl rfl ?_
  refine q_iconst (v := 4) 3 dX5_walls_2 rfl rfl ?_
  refine q_callSt 6 dX5_walls_3 rfl (c5_within _ _ _ _) cw_X5_66 rfl rfl ⟨by decide, by decide⟩ ⟨by decide, by decide⟩ (Nat.le_of_ble_eq_true rfl) ?_
  refine q_if_eq 18 9 dX5_walls_6 rfl rfl (fun h_6 => ?_) (fun h_6 => ?_)
  · skip
    simp only [bI_0, Classical.not_not] at h_6
    refine q_iload_n 19 dX5_walls_18 rfl rfl ?_
    by_cases hs_19_5 : w = (5 : Int32)
    · skip
      refine q_lookup 44 dX5_walls_19 (by decide) (lk_eq hs_19_5 rfl) rfl ?_
      refine q_aload_n 45 dX5_walls_44 rfl rfl ?_
      refine q_getR 48 dX5_walls_45 rfl fl_X5_21 (by decide) rfl rfl ?_
      refine q_callVt 51 dX5_walls_48 rfl (c4_narrowest _ 0 (by decide) s hR.1.1) cw_X5_189 (by decide) rfl rfl ⟨by decide, by decide⟩ ⟨by decide, by decide⟩ (Nat.le_of_ble_eq_true rfl) ?_
      refine q_iret dX5_walls_51 ?_
      refine ⟨congrArg (fun x => some (Value.int x)) ?_, M 17 0, (putA_id M 17 0).symm⟩
      unfold aWalls
      rw [if_neg h_6, if_pos hs_19_5]
    by_cases hs_19_6 : w = (6 : Int32)
    · skip
      refine q_lookup 52 dX5_walls_19 (by decide) (lk_eq hs_19_6 rfl) rfl ?_
      refine q_aload_n 53 dX5_walls_52 rfl rfl ?_
      refine q_getR 56 dX5_walls_53 rfl fl_X5_21 (by decide) rfl rfl ?_
      refine q_callV 59 dX5_walls_56 rfl (c4_legibleSet _ 0 (by decide) s hR.1 hW.m hT) cw_X5_192 (by decide) rfl rfl ⟨by decide, by decide⟩ ⟨by decide, by decide⟩ (Nat.le_of_ble_eq_true rfl) ?_
      rintro _ _ ⟨rfl, p, rfl⟩
      refine q_iret dX5_walls_59 ?_
      refine ⟨congrArg (fun x => some (Value.int x)) ?_, p, rfl⟩
      unfold aWalls
      rw [if_neg h_6, if_neg hs_19_5, if_pos hs_19_6]
    refine q_lookup 60 dX5_walls_19 (by decide) (lk_def _ [5, 6] rfl (by simp only [List.forall_mem_cons]; exact ⟨hs_19_5, hs_19_6, fun _ h => absurd h List.not_mem_nil⟩)) rfl ?_
    refine q_ldc 62 dX5_walls_60 rfl cs_X5_73 ?_
    refine q_iret dX5_walls_62 ?_
    refine ⟨congrArg (fun x => some (Value.int x)) ?_, M 17 0, (putA_id M 17 0).symm⟩
    unfold aWalls
    rw [if_neg h_6, if_neg hs_19_5, if_neg hs_19_6]
  · skip
    simp only [bI_0, Classical.not_not] at h_6
    refine q_aload_n 10 dX5_walls_9 rfl rfl ?_
    refine q_getR 13 dX5_walls_10 rfl fl_X5_21 (by decide) rfl rfl ?_
    refine q_iload_n 14 dX5_walls_13 rfl rfl ?_
    refine q_callVt 17 dX5_walls_14 rfl (c4_total _ 0 (by decide) s hR.1 hR.2.1 w h_6) cw_X5_186 (by decide) rfl rfl ⟨by decide, by decide⟩ ⟨by decide, by decide⟩ (Nat.le_of_ble_eq_true rfl) ?_
    refine q_iret dX5_walls_17 ?_
    refine ⟨congrArg (fun x => some (Value.int x)) ?_, M 17 0, (putA_id M 17 0).symm⟩
    unfold aWalls
    rw [if_pos h_6]
abbrev PT (a : Int32) (M : TM) : Option Value → TM → Prop := fun r M' => r = some (.int a) ∧ Kp 2 M M'
theorem cB_iff {s : SS} (hn : s 0 = nI (nN s)) (h10 : nN s ≤ 10) {w : Int32} : (0 ≤ w ∧ w ≤ 4 + s 0) ↔ (0 ≤ w ∧ (4 < w → isM s (w - 5))) := by
  constructor
  · rintro ⟨h1, h2⟩
    refine ⟨h1, fun h4 => ?_⟩
    obtain ⟨j, hj, rfl⟩ := nI_of (Int32.not_lt.mpr h1)
    rw [hn, show (4 : Int32) = nI 4 from rfl, nI_add, nI_leI hj (by omega)] at h2
    rw [show (4 : Int32) = nI 4 from rfl, nI_ltI (by omega) hj] at h4
    rw [show (5 : Int32) = nI 5 from rfl, pk_sub (by omega)]
    refine ⟨nI_pos' (by omega), ?_⟩
    rw [hn, ix_pre (by omega)]
    exact nI_le (by omega) (by omega)
  · rintro ⟨h1, h2⟩
    refine ⟨h1, ?_⟩
    obtain ⟨j, hj, rfl⟩ := nI_of (Int32.not_lt.mpr h1)
    rw [hn, show (4 : Int32) = nI 4 from rfl, nI_add, nI_leI hj (by omega)]
    by_cases h4 : 4 < j
    · have q := h2 (by rw [show (4 : Int32) = nI 4 from rfl, nI_ltI (by omega) hj]; exact h4)
      rw [show (5 : Int32) = nI 5 from rfl, pk_sub (by omega)] at q
      obtain ⟨-, l⟩ := isM_nat hn h10 q
      have e : tn (nI (j - 5)) = j - 5 := nI_clamp (by omega)
      omega
    · omega
theorem int_le5 {w : Int32} (h : ¬ 5 ≤ w) : w ≤ 4 := by
  have h1 := Int32.not_le.mp h
  rw [Int32.lt_iff_toInt_lt] at h1
  rw [Int32.le_iff_toInt_le]
  have e5 : (5 : Int32).toInt = 5 := rfl
  have e4 : (4 : Int32).toInt = 4 := rfl
  omega
set_option maxRecDepth 100000 in
set_option maxHeartbeats 4000000 in
theorem c5_behind {g : GT} (M : TM) (n w : Int32) (s : SS) (hR : RW M 0 s) (hW : WF 9999 s) (hT : RT M s) : Cn g yX5_behind cX5_behind 3 (some .int) 6 [.ref (gad g 5 0), .int n, .int w] M (PT (aBehind s n w) M) := by
  refine Cn.ofTR (by decide +kernel) (Nat.le_of_ble_eq_true rfl) ?_
  have e11 : M 4 0 11 = s 0 := hR.1.2.1.1.trans hW.1.1.symm
  refine q_iload_n 1 dX5_behind_0 rfl rfl ?_
  refine q_iconst (v := 0) 2 dX5_behind_1 rfl rfl ?_
  refine q_bipush (v := 100) 4 dX5_behind_2 rfl rfl ?_
  refine q_callSt 7 dX5_behind_4 rfl (c5_within _ _ _ _) cw_X5_66 rfl rfl ⟨by decide, by decide⟩ ⟨by decide, by decide⟩ (Nat.le_of_ble_eq_true rfl) ?_
  refine q_if_eq 27 10 dX5_behind_7 rfl rfl (fun h_7 => ?_) (fun h_7 => ?_)
  · skip
    simp only [bI_0, Classical.not_not] at h_7
    refine q_ldc 29 dX5_behind_27 rfl cs_X5_73 ?_
    refine q_iret dX5_behind_29 ?_
    refine ⟨congrArg (fun x => some (Value.int x)) ?_, Kp.rf⟩
    unfold aBehind
    rw [if_neg (fun z => by first | exact h_7 z.1 | exact h_24 z.2)]
  · skip
    simp only [bI_0, Classical.not_not] at h_7
    refine q_iload_n 11 dX5_behind_10 rfl rfl ?_
    refine q_iconst (v := 0) 12 dX5_behind_11 rfl rfl ?_
    refine q_iconst (v := 4) 13 dX5_behind_12 rfl rfl ?_
    refine q_aload_n 14 dX5_behind_13 rfl rfl ?_
    refine q_getR 17 dX5_behind_14 rfl fl_X5_21 (by decide) rfl rfl ?_
    refine q_getI 20 dX5_behind_17 rfl fl_X5_74 (by decide) rfl (by decide) ?_
    refine q_iadd 21 dX5_behind_20 rfl ?_
    refine q_callSt 24 dX5_behind_21 rfl (c5_within _ _ _ _) cw_X5_66 rfl rfl ⟨by decide, by decide⟩ ⟨by decide, by decide⟩ (Nat.le_of_ble_eq_true rfl) ?_
    refine q_if_ne 30 27 dX5_behind_24 rfl rfl (fun h_24 => ?_) (fun h_24 => ?_)
    · skip
      simp only [bI_0, Classical.not_not] at h_24
      rw [e11, cB_iff hW.1.1 hW.1.2] at h_24
      obtain ⟨en, ln⟩ := rg_tn h_7 (n := 100) rfl
      refine q_aload_n 31 dX5_behind_30 rfl rfl ?_
      refine q_getR 34 dX5_behind_31 rfl fl_X5_28 (by decide) rfl rfl ?_
      refine q_aload_n 35 dX5_behind_34 rfl rfl ?_
      refine q_getR 38 dX5_behind_35 rfl fl_X5_21 (by decide) rfl rfl ?_
      refine q_callV 41 dX5_behind_38 rfl (c4_become _ 2 0 (by decide) (by decide) (by decide)) cw_X5_195 (by decide) rfl rfl ⟨by decide, by decide⟩ ⟨by decide, by decide⟩ (Nat.le_of_ble_eq_true rfl) ?_
      rintro _ M2 ⟨rfl, hB⟩
      have hR2 := hB.rw' hR
      refine q_aload_n 42 dX5_behind_41 rfl rfl ?_
      refine q_getR 45 dX5_behind_42 rfl fl_X5_28 (by decide) rfl rfl ?_
      refine q_iload_n 46 dX5_behind_45 rfl rfl ?_
      refine q_callV 49 dX5_behind_46 rfl (c4_pass _ 2 (by decide) s (nN s) (fun i => i) hR2.1 hW.k (hT.kp hB.1) n (tn n) en (by omega)) cw_X5_182 (by decide) rfl rfl ⟨by decide, by decide⟩ ⟨by decide, by decide⟩ (Nat.le_of_ble_eq_true rfl) ?_
      rintro _ M3 ⟨rfl, q⟩
      have hR3 := RW_goN hR2 hW.k q
      refine q_iload_n 50 dX5_behind_49 rfl rfl ?_
      refine q_iconst (v := 5) 51 dX5_behind_50 rfl rfl ?_
      refine q_icmp_ge 65 54 dX5_behind_51 rfl rfl (fun h_51 => ?_) (fun h_51 => ?_)
      · skip
        obtain ⟨ew, lw⟩ := isM_nat hW.1.1 hW.1.2 (h_24.2 (Int32.lt_of_lt_of_le (by decide) h_51))
        have hw10 : tn (w - 5) < 10 := by have := hW.1.2; omega
        refine q_aload_n 66 dX5_behind_65 rfl rfl ?_
        refine q_getR 69 dX5_behind_66 rfl fl_X5_28 (by decide) rfl rfl ?_
        refine q_getR 72 dX5_behind_69 rfl fl_X5_92 (by decide) rfl rfl ?_
        refine q_iload_n 73 dX5_behind_72 rfl rfl ?_
        refine q_iconst (v := 5) 74 dX5_behind_73 rfl rfl ?_
        refine q_isub 75 dX5_behind_74 rfl ?_
        refine q_iald 76 dX5_behind_75 rfl (by decide) (by decide) ew hw10 ?_
        refine q_iret dX5_behind_76 ?_
        refine ⟨congrArg (fun x => some (Value.int x)) ?_, hB.1.tr q.1⟩
        unfold aBehind
        rw [if_pos ⟨h_7, h_24⟩]
        first | (have hq := Int32.not_le.mp h_51; rw [if_pos hq]) | (have hq := Int32.not_lt.mpr h_51; rw [if_neg hq]; exact (hR3.1.2.2 (tn (w - 5)) (by rw [nN_c (goN_o hW.k (by omega) (tn n))]; exact lw)).2.2.2.1)
      · skip
        refine q_aload_n 55 dX5_behind_54 rfl rfl ?_
        refine q_getR 58 dX5_behind_55 rfl fl_X5_28 (by decide) rfl rfl ?_
        refine q_iload_n 59 dX5_behind_58 rfl rfl ?_
        refine q_callVt 62 dX5_behind_59 rfl (c4_total _ 2 (by decide) _ hR3.1 hR3.2.1 w ⟨h_24.1, int_le5 h_51⟩) cw_X5_186 (by decide) rfl rfl ⟨by decide, by decide⟩ ⟨by decide, by decide⟩ (Nat.le_of_ble_eq_true rfl) ?_
        refine q_goto 76 dX5_behind_62 rfl ?_
        refine q_iret dX5_behind_76 ?_
        refine ⟨congrArg (fun x => some (Value.int x)) ?_, hB.1.tr q.1⟩
        unfold aBehind
        rw [if_pos ⟨h_7, h_24⟩]
        first | (have hq := Int32.not_le.mp h_51; rw [if_pos hq]) | (have hq := Int32.not_lt.mpr h_51; rw [if_neg hq]; exact (hR3.1.2.2 (tn (w - 5)) (by rw [nN_c (goN_o hW.k (by omega) (tn n))]; exact lw)).2.2.2.1)
    · skip
      simp only [bI_0, Classical.not_not] at h_24
      rw [e11, cB_iff hW.1.1 hW.1.2] at h_24
      refine q_ldc 29 dX5_behind_27 rfl cs_X5_73 ?_
      refine q_iret dX5_behind_29 ?_
      refine ⟨congrArg (fun x => some (Value.int x)) ?_, Kp.rf⟩
      unfold aBehind
      rw [if_neg (fun z => by first | exact h_7 z.1 | exact h_24 z.2)]
