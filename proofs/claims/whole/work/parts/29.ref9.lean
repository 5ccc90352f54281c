theorem WF_eyes {b : Nat} {s : SS} (h : WF b s) {v : Nat} (hv : v ≤ 99) : WF b (upd s 4 (nI v)) := by
  obtain ⟨⟨h0, h10⟩, ⟨sp, hs1, hs2⟩, hr, hc, hm, ht⟩ := h
  have e : ∀ i, i ≠ 4 → upd s 4 (nI v) i = s i := fun i hi => upd_n hi
  refine ⟨by rw [nN_c (e 0 (by omega)), e 0 (by omega)]; exact ⟨h0, h10⟩, ⟨sp, hs1, by rw [e 2 (by omega)]; exact hs2⟩, ?_, ?_, ?_, WFt_c (e 1 (by omega)) (fun i hi => e i (by omega)) ht⟩
  · unfold WFr; rw [e 3 (by omega), e 5 (by omega), e 6 (by omega), e 7 (by omega), upd_s]; exact ⟨hr.1, rg_of (b := 99) rfl hv, hr.2.2⟩
  · intro c hc6; rw [e _ (by omega), e _ (by omega)]; exact hc c hc6
  · intro j hj; unfold mk; rw [e _ (by omega), e _ (by omega), e _ (by omega), e _ (by omega), e _ (by omega)]; exact hm j hj
theorem am1 (x : Int32) : x + (-1) = x - 1 := by rw [Int32.sub_eq_add_neg]
set_option maxRecDepth 100000 in
set_option maxHeartbeats 4000000 in
theorem t6_eyesE {g : GT} (N : TM) (x z y : Int32) (b : Nat) (hb : b < 1000) (s : SS) (f f2 : Nat → Int32) : TR g (rmD 9) RX6 cX6_eyes 5 (some .int) 0 0 (Zm g (fun r M' => r = some (.int (nI b)) ∧ ∃ f f2, M' = putA (sc N f f2) 31 0 s)) 38 [some (.ref (gad g 6 0)), some (.int x), some (.int z), some (.int (nI b)), some (.int y)] [] (putA (sc N f f2) 31 0 s) := by
  refine q_iload 40 dX6_eyes_38 rfl rfl ?_
  refine q_if_lt 89 43 dX6_eyes_40 rfl rfl (fun h_40 => ?_) (fun h_40 => ?_)
  · skip
    refine q_iload_n 90 dX6_eyes_89 rfl rfl ?_
    refine q_iret dX6_eyes_90 ?_
    exact ⟨rfl, f, f2, rfl⟩
  · skip
    refine q_iload_n 44 dX6_eyes_43 rfl rfl ?_
    refine q_if_ge 89 47 dX6_eyes_44 rfl rfl (fun h_44 => ?_) (fun h_44 => ?_)
    · skip
      refine q_iload_n 90 dX6_eyes_89 rfl rfl ?_
      refine q_iret dX6_eyes_90 ?_
      exact ⟨rfl, f, f2, rfl⟩
    · skip
      exact absurd (nI_pos' (by omega)) h_44
set_option maxRecDepth 100000 in
set_option maxHeartbeats 4000000 in
theorem l6_eyes {g : GT} (N : TM) (x z : Int32) (n : Nat) (hx : x = nI n) (hn60 : n ≤ 60) (s : SS) (hW : WF 9999 s) (h1 : ∀ i, i < 71 → N 42 0 i = s i) : ∀ (j : Nat) (t : Nat) (y : Int32) (f f2 : Nat → Int32), t < j → t ≤ 100 → y = nI t - 1 → TR g (rmD 9) RX6 cX6_eyes 5 (some .int) 0 0 (Zm g (fun r M' => r = some (.int (fstD (fun e => decide (z ≤ goN (upd s 4 (nI e)) n 6)) t)) ∧ ∃ f f2, M' = putA (sc N f f2) 31 0 s)) 38 [some (.ref (gad g 6 0)), some (.int x), some (.int z), some (.int NONEc), some (.int y)] [] (putA (sc N f f2) 31 0 s) := by
  intro j
  induction j with
  | zero => intro t y f f2 hj ht hy; exact absurd hj (by omega)
  | succ j ih =>
    intro t y f f2 hj ht hy
    refine q_iload 40 dX6_eyes_38 rfl rfl ?_
    refine q_if_lt 89 43 dX6_eyes_40 rfl rfl (fun h_40 => ?_) (fun h_40 => ?_)
    · skip
      have e : t = 0 := by
        rcases Nat.eq_zero_or_pos t with q | q
        · exact q
        · rw [hy, ix_pre q] at h_40; exact absurd h_40 (nI_pos (by omega))
      subst e
      refine q_iload_n 90 dX6_eyes_89 rfl rfl ?_
      refine q_iret dX6_eyes_90 ?_
      exact ⟨rfl, f, f2, rfl⟩
    · skip
      obtain ⟨u, rfl⟩ : ∃ u, t = u + 1 := by
        rcases Nat.eq_zero_or_pos t with q | q
        · subst q; rw [hy] at h_40; exact absurd (by decide) h_40
        · exact ⟨t - 1, by omega⟩
      rw [nI_pred] at hy
      subst hy
      refine q_iload_n 44 dX6_eyes_43 rfl rfl ?_
      refine q_if_ge 89 47 dX6_eyes_44 rfl rfl (fun h_44 => absurd h_44 (by decide)) (fun _ => ?_)
      refine q_aload_n 48 dX6_eyes_47 rfl rfl ?_
      refine q_getR 51 dX6_eyes_48 rfl fl_X6_7 (by decide) rfl rfl ?_
      refine q_iconst (v := 4) 52 dX6_eyes_51 rfl rfl ?_
      refine q_iload 54 dX6_eyes_52 rfl rfl ?_
      refine q_iast 55 dX6_eyes_54 rfl (by decide) (by decide) rfl (by decide) ?_
      refine q_aload_n 56 dX6_eyes_55 rfl rfl ?_
      refine q_iload_n 57 dX6_eyes_56 rfl rfl ?_
      refine q_callV 60 dX6_eyes_57 rfl (c6_goesOnMany _ _ n hx (by omega) (upd s 4 (nI u)) (by rfl) 9999 (WF_eyes hW (by omega)) (by omega)) cw_X6_182 (by decide) rfl rfl ⟨by decide, by decide⟩ ⟨by decide, by decide⟩ (Nat.le_of_ble_eq_true rfl) ?_
      rintro _ _ ⟨rfl, f3, f4, rfl⟩
      refine q_eqM (M' := putA (sc N f3 f4) 31 0 (goN (upd s 4 (nI u)) n)) (by rw [sc_put, putA_pp, sc_put, putA_pp, sc_sc]) ?_
      refine q_aload_n 61 dX6_eyes_60 rfl rfl ?_
      refine q_getR 64 dX6_eyes_61 rfl fl_X6_7 (by decide) rfl rfl ?_
      refine q_bipush (v := 6) 66 dX6_eyes_64 rfl rfl ?_
      refine q_iald 67 dX6_eyes_66 rfl (by decide) (by decide) rfl (by decide) ?_
      refine q_iload_n 68 dX6_eyes_67 rfl rfl ?_
      refine q_icmp_lt 76 71 dX6_eyes_68 rfl rfl (fun h_68 => ?_) (fun h_68 => ?_)
      · skip
        refine q_ldc 78 dX6_eyes_76 rfl cs_X6_64 ?_
        refine q_istore_n 79 dX6_eyes_78 rfl (by decide) rfl ?_
        refine q_aload_n 80 dX6_eyes_79 rfl rfl ?_
        refine q_callVv 83 dX6_eyes_80 rfl (c6_laysBack' N s (goN (upd s 4 (nI u)) n) f3 f4 h1 (fun i h => (goN_hi (WF_eyes hW (by omega)) h n).trans (upd_n (by omega)))) cw_X6_197 (by decide) rfl rfl ⟨by decide, by decide⟩ ⟨by decide, by decide⟩ (Nat.le_of_ble_eq_true rfl) ?_
        refine q_iinc 86 dX6_eyes_83 rfl rfl (by decide) rfl (am1 (nI u)) ?_
        refine q_goto 38 dX6_eyes_86 rfl ?_
        first
        | (rw [fstD, if_neg (show ¬ (fun e => decide (z ≤ goN (upd s 4 (nI e)) n 6)) u = true from fun w => absurd h_68 (Int32.not_lt.mpr (of_decide_eq_true w)))]; exact q_fg (ih u _ f3 f4 (by omega) (by omega) rfl) ⟨rfl, rfl, rfl, rfl, rfl, trivial⟩)
        | (rw [fstD, if_pos (show (fun e => decide (z ≤ goN (upd s 4 (nI e)) n 6)) u = true from decide_eq_true (Int32.not_lt.mp h_68))]; exact q_fg (t6_eyesE N x z _ u (by omega) s f3 f4) ⟨rfl, rfl, rfl, rfl, rfl, trivial⟩)
      · skip
        refine q_iload 73 dX6_eyes_71 rfl rfl ?_
        refine q_goto 78 dX6_eyes_73 rfl ?_
        refine q_istore_n 79 dX6_eyes_78 rfl (by decide) rfl ?_
        refine q_aload_n 80 dX6_eyes_79 rfl rfl ?_
        refine q_callVv 83 dX6_eyes_80 rfl (c6_laysBack' N s (goN (upd s 4 (nI u)) n) f3 f4 h1 (fun i h => (goN_hi (WF_eyes hW (by omega)) h n).trans (upd_n (by omega)))) cw_X6_197 (by decide) rfl rfl ⟨by decide, by decide⟩ ⟨by decide, by decide⟩ (Nat.le_of_ble_eq_true rfl) ?_
        refine q_iinc 86 dX6_eyes_83 rfl rfl (by decide) rfl (am1 (nI u)) ?_
        refine q_goto 38 dX6_eyes_86 rfl ?_
        first
        | (rw [fstD, if_neg (show ¬ (fun e => decide (z ≤ goN (upd s 4 (nI e)) n 6)) u = true from fun w => absurd h_68 (Int32.not_lt.mpr (of_decide_eq_true w)))]; exact q_fg (ih u _ f3 f4 (by omega) (by omega) rfl) ⟨rfl, rfl, rfl, rfl, rfl, trivial⟩)
        | (rw [fstD, if_pos (show (fun e => decide (z ≤ goN (upd s 4 (nI e)) n 6)) u = true from decide_eq_true (Int32.not_lt.mp h_68))]; exact q_fg (t6_eyesE N x z _ u (by omega) s f3 f4) ⟨rfl, rfl, rfl, rfl, rfl, trivial⟩)
def aEyes (s : SS) (n v : Int32) : Int32 := if (0 ≤ n ∧ n ≤ 60) ∧ (0 ≤ v ∧ v ≤ 99999) then fstD (fun e => decide (v ≤ goN (upd s 4 (nI e)) (tn n) 6)) 100 else BADc
set_option maxRecDepth 100000 in
set_option maxHeartbeats 4000000 in
theorem c6_eyes {g : GT} (M : TM) (n v : Int32) (s : SS) (hs : M 31 0 = s) (hW : WF 9999 s) : Cn g yX6_eyes cX6_eyes 5 (some .int) 9 [.ref (gad g 6 0), .int n, .int v] M (Pt (aEyes s n v) M s) := by
  refine Cn.ofTR (by decide +kernel) (Nat.le_of_ble_eq_true rfl) ?_
  subst hs
  have hW0 := hW
  obtain ⟨⟨hn, hn10⟩, hsp, hr, hc, hm, ht⟩ := hW
  have hlo := fun i (h : i < 71) => mix_lo (M 31 0) (M 42 0) h
  refine q_iload_n 1 dX6_eyes_0 rfl rfl ?_
  refine q_i2l 2 dX6_eyes_1 rfl ?_
  refine q_lconst (v := 0) 3 dX6_eyes_2 rfl rfl ?_
  refine q_ldc2 6 dX6_eyes_3 rfl cl_X6_200 ?_
  refine q_callSt 9 dX6_eyes_6 rfl (c6_isIn' _ _ (0) (60) _ _) cw_X6_65 rfl rfl ⟨by decide, by decide⟩ ⟨by decide, by decide⟩ (Nat.le_of_ble_eq_true rfl) ?_
  refine q_if_eq 24 12 dX6_eyes_9 rfl rfl (fun h_9 => ?_) (fun h_9 => ?_)
  · skip
    simp only [bI_0, Classical.not_not] at h_9
    refine q_ldc 26 dX6_eyes_24 rfl cs_X6_110 ?_
    refine q_iret dX6_eyes_26 ?_
    refine Pt_id ?_ rfl
    unfold aEyes
    rw [if_neg (fun q => by first | exact h_9 q.1 | exact h_21 q.2)]
  · skip
    simp only [bI_0, Classical.not_not] at h_9
    refine q_iload_n 13 dX6_eyes_12 rfl rfl ?_
    refine q_i2l 14 dX6_eyes_13 rfl ?_
    refine q_lconst (v := 0) 15 dX6_eyes_14 rfl rfl ?_
    refine q_ldc2 18 dX6_eyes_15 rfl cl_X6_209 ?_
    refine q_callSt 21 dX6_eyes_18 rfl (c6_isIn' _ _ (0) (99999) _ _) cw_X6_65 rfl rfl ⟨by decide, by decide⟩ ⟨by decide, by decide⟩ (Nat.le_of_ble_eq_true rfl) ?_
    refine q_if_ne 27 24 dX6_eyes_21 rfl rfl (fun h_21 => ?_) (fun h_21 => ?_)
    · skip
      simp only [bI_0, Classical.not_not] at h_21
      obtain ⟨en, ln⟩ := rg_tn h_9 (n := 60) rfl
      refine q_aload_n 28 dX6_eyes_27 rfl rfl ?_
      refine q_callVv 31 dX6_eyes_28 rfl (c6_laysBy _) cw_X6_194 (by decide) rfl rfl ⟨by decide, by decide⟩ ⟨by decide, by decide⟩ (Nat.le_of_ble_eq_true rfl) ?_
      refine q_ldc 33 dX6_eyes_31 rfl cs_X6_64 ?_
      refine q_istore_n 34 dX6_eyes_33 rfl (by decide) rfl ?_
      refine q_bipush (v := 99) 36 dX6_eyes_34 rfl rfl ?_
      refine q_istore 38 dX6_eyes_36 rfl (by decide) rfl ?_
      refine q_eqM (M' := putA (sc (putA M 42 0 (mixF (M 31 0) (M 42 0) 71)) (M 44 0) (M 45 0)) 31 0 (M 31 0)) (sc31_id (putA M 42 0 (mixF (M 31 0) (M 42 0) 71))).symm ?_
      refine TR_post (q_fg (l6_eyes (putA M 42 0 (mixF (M 31 0) (M 42 0) 71)) n v (tn n) en ln (M 31 0) hW0 hlo 101 100 99 _ _ (by omega) (by omega) rfl) ⟨rfl, rfl, rfl, rfl, rfl, trivial⟩) ?_
      rintro _ _ ⟨rfl, f, f2, rfl⟩
      unfold aEyes
      rw [if_pos ⟨h_9, h_21⟩]
      exact ⟨rfl, _, f, f2, rfl⟩
    · skip
      simp only [bI_0, Classical.not_not] at h_21
      refine q_ldc 26 dX6_eyes_24 rfl cs_X6_110 ?_
      refine q_iret dX6_eyes_26 ?_
      refine Pt_id ?_ rfl
      unfold aEyes
      rw [if_neg (fun q => by first | exact h_9 q.1 | exact h_21 q.2)]
def aFee (s : SS) : Int32 := if laF s 1 (nT s) < 0 then s 6 else vaT (nmF (s 6) (s 7)) s (tn (laF s 1 (nT s)))
def aFine (s : SS) (m : Int32) : Int32 := if isM s m then (if laF s 2 (nT s) < 0 then mk s (tn m) 1 else vaT (nmI (mk s (tn m) 1) (mk s (tn m) 2)) s (tn (laF s 2 (nT s)))) else BADc
def nm2 (f : Nat → Int32) (i j : Nat) (a b : Int32) : Nat → Int32 := upd (upd f i a) j b
set_option maxRecDepth 100000 in
set_option maxHeartbeats 4000000 in
theorem c6_fee {g : GT} (M : TM)  (s : SS) (hs : M 31 0 = s) (hW : WF 9999 s) : Cn g yX6_fee cX6_fee 2 (some .int) 3 [.ref (gad g 6 0)] M (Rs (.int (aFee s)) M) := by
  refine Cn.ofTR (by decide +kernel) (Nat.le_of_ble_eq_true rfl) ?_
  subst hs
  have hW0 := hW
  obtain ⟨⟨hn, hn10⟩, hsp, hr, hc, hm, ht⟩ := hW
  refine q_aload_n 1 dX6_fee_0 rfl rfl ?_
  refine q_iconst (v := 1) 2 dX6_fee_1 rfl rfl ?_
  refine q_callVt 5 dX6_fee_2 rfl (c6_counts _ _ _ rfl (nT (M 31 0)) ht.1 ht.2.1) cw_X6_76 (by decide) rfl rfl ⟨by decide, by decide⟩ ⟨by decide, by decide⟩ (Nat.le_of_ble_eq_true rfl) ?_
  refine q_istore_n 6 dX6_fee_5 rfl (by decide) rfl ?_
  refine q_iload_n 7 dX6_fee_6 rfl rfl ?_
  refine q_if_ge 18 10 dX6_fee_7 rfl rfl (fun h_7 => ?_) (fun h_7 => ?_)
  · skip
    have ht14 := ht.2.1
    obtain ⟨t, e5, e3, e4⟩ := laF_pos ht.2.1 h_7
    obtain ⟨-, m1, hm1, hM, hg, hw⟩ := ht.2.2 t e5
    refine q_aload_n 19 dX6_fee_18 rfl rfl ?_
    refine q_getR 22 dX6_fee_19 rfl fl_X6_49 (by decide) rfl rfl ?_
    refine q_bipush (v := 115) 24 dX6_fee_22 rfl rfl ?_
    refine q_aload_n 25 dX6_fee_24 rfl rfl ?_
    refine q_getR 28 dX6_fee_25 rfl fl_X6_7 (by decide) rfl rfl ?_
    refine q_bipush (v := 6) 30 dX6_fee_28 rfl rfl ?_
    refine q_iald 31 dX6_fee_30 rfl (by decide) (by decide) rfl (by decide) ?_
    refine q_iast 32 dX6_fee_31 rfl (by decide) (by decide) rfl (by decide) ?_
    refine q_aload_n 33 dX6_fee_32 rfl rfl ?_
    refine q_getR 36 dX6_fee_33 rfl fl_X6_49 (by decide) rfl rfl ?_
    refine q_bipush (v := 103) 38 dX6_fee_36 rfl rfl ?_
    refine q_aload_n 39 dX6_fee_38 rfl rfl ?_
    refine q_getR 42 dX6_fee_39 rfl fl_X6_7 (by decide) rfl rfl ?_
    refine q_bipush (v := 7) 44 dX6_fee_42 rfl rfl ?_
    refine q_iald 45 dX6_fee_44 rfl (by decide) (by decide) rfl (by decide) ?_
    refine q_iast 46 dX6_fee_45 rfl (by decide) (by decide) rfl (by decide) ?_
    refine q_eqM (M' := putA M 44 0 (nm2 (M 44 0) 115 103 (M 31 0 6) (M 31 0 7))) (by simp only [putA_s, putA_pp]; rfl) ?_
    refine q_aload_n 47 dX6_fee_46 rfl rfl ?_
    refine q_iload_n 48 dX6_fee_47 rfl rfl ?_
    refine q_callV 51 dX6_fee_48 rfl (c6_worked _ _ t m1 e3 (by omega) (M 31 0) (by rfl) (fun v => (nm2 (M 44 0) 115 103 (M 31 0 6) (M 31 0 7)) v.toNatClampNeg) (fun c hc => by rw [nI_clamp (by omega)]; rfl) 1 hm1 hg hM (by rw [e4] at hw; exact hw)) cw_X6_89 (by decide) rfl rfl ⟨by decide, by decide⟩ ⟨by decide, by decide⟩ (Nat.le_of_ble_eq_true rfl) ?_
    rintro _ _ ⟨rfl, p, rfl⟩
    refine q_iret dX6_fee_51 ?_
    refine ⟨congrArg (fun x => some (Value.int x)) ?_, _, p, rfl⟩
    unfold aFee
    rw [if_neg (Int32.not_lt.mpr h_7), e3]
    show _ = vaT _ _ (nI t).toNatClampNeg
    rw [nI_clamp (by omega)]
    unfold vaT
    rw [hM, nI_clamp (by omega)]
    rw [e4] at hw
    refine pil_eq hw (fun c hc => ?_) m1 (Nat.le_refl _) 0 (by omega)
    unfold okN at hc
    rw [if_neg (by decide), if_pos rfl] at hc
    rcases hc with rfl | rfl <;> rfl
  · skip
    refine q_aload_n 11 dX6_fee_10 rfl rfl ?_
    refine q_getR 14 dX6_fee_11 rfl fl_X6_7 (by decide) rfl rfl ?_
    refine q_bipush (v := 6) 16 dX6_fee_14 rfl rfl ?_
    refine q_iald 17 dX6_fee_16 rfl (by decide) (by decide) rfl (by decide) ?_
    refine q_iret dX6_fee_17 ?_
    refine ⟨?_, _, _, (sc_id M).symm⟩
    unfold aFee
    rw [if_pos (Int32.not_le.mp h_7)]
set_option maxRecDepth 100000 in
set_option maxHeartbeats 4000000 in
theorem c6_fine {g : GT} (M : TM) (m : Int32) (s : SS) (hs : M 31 0 = s) (hW : WF 9999 s) : Cn g yX6_fine cX6_fine 3 (some .int) 3 [.ref (gad g 6 0), .int m] M (Rs (.int (aFine s m)) M) := by
  refine Cn.ofTR (by decide +kernel) (Nat.le_of_ble_eq_true rfl) ?_
  subst hs
  have hW0 := hW
  obtain ⟨⟨hn, hn10⟩, hsp, hr, hc, hm, ht⟩ := hW
  refine q_aload_n 1 dX6_fine_0 rfl rfl ?_
  refine q_iload_n 2 dX6_fine_1 rfl rfl ?_
  refine q_callVt 5 dX6_fine_2 rfl (c6_isMark _ _) cw_X6_116 (by decide) rfl rfl ⟨by decide, by decide⟩ ⟨by decide, by decide⟩ (Nat.le_of_ble_eq_true rfl) ?_
  refine q_if_ne 11 8 dX6_fine_5 rfl rfl (fun h_5 => ?_) (fun h_5 => ?_)
  · skip
    simp only [bI_0, Classical.not_not] at h_5
    obtain ⟨em, lm⟩ := isM_nat hn hn10 h_5
    refine q_aload_n 12 dX6_fine_11 rfl rfl ?_
    refine q_iconst (v := 2) 13 dX6_fine_12 rfl rfl ?_
    refine q_callVt 16 dX6_fine_13 rfl (c6_counts _ _ _ rfl (nT (M 31 0)) ht.1 ht.2.1) cw_X6_76 (by decide) rfl rfl ⟨by decide, by decide⟩ ⟨by decide, by decide⟩ (Nat.le_of_ble_eq_true rfl) ?_
    refine q_istore_n 17 dX6_fine_16 rfl (by decide) rfl ?_
    refine q_iload_n 18 dX6_fine_17 rfl rfl ?_
    refine q_if_ge 28 21 dX6_fine_18 rfl rfl (fun h_18 => ?_) (fun h_18 => ?_)
    · skip
      have ht14 := ht.2.1
      obtain ⟨t, e5, e3, e4⟩ := laF_pos ht.2.1 h_18
      obtain ⟨-, m1, hm1, hM, hg, hw⟩ := ht.2.2 t e5
      refine q_aload_n 29 dX6_fine_28 rfl rfl ?_
      refine q_getR 32 dX6_fine_29 rfl fl_X6_49 (by decide) rfl rfl ?_
      refine q_bipush (v := 105) 34 dX6_fine_32 rfl rfl ?_
      refine q_aload_n 35 dX6_fine_34 rfl rfl ?_
      refine q_iload_n 36 dX6_fine_35 rfl rfl ?_
      refine q_iconst (v := 1) 37 dX6_fine_36 rfl rfl ?_
      refine q_callVt 40 dX6_fine_37 rfl (c6_of _ _ _ (tn m) 1 em rfl (by omega)) cw_X6_72 (by decide) rfl rfl ⟨by decide, by decide⟩ ⟨by decide, by decide⟩ (Nat.le_of_ble_eq_true rfl) ?_
      refine q_iast 41 dX6_fine_40 rfl (by decide) (by decide) rfl (by decide) ?_
      refine q_aload_n 42 dX6_fine_41 rfl rfl ?_
      refine q_getR 45 dX6_fine_42 rfl fl_X6_49 (by decide) rfl rfl ?_
      refine q_bipush (v := 100) 47 dX6_fine_45 rfl rfl ?_
      refine q_aload_n 48 dX6_fine_47 rfl rfl ?_
      refine q_iload_n 49 dX6_fine_48 rfl rfl ?_
      refine q_iconst (v := 2) 50 dX6_fine_49 rfl rfl ?_
      refine q_callVt 53 dX6_fine_50 rfl (c6_of _ _ _ (tn m) 2 em rfl (by omega)) cw_X6_72 (by decide) rfl rfl ⟨by decide, by decide⟩ ⟨by decide, by decide⟩ (Nat.le_of_ble_eq_true rfl) ?_
      refine q_iast 54 dX6_fine_53 rfl (by decide) (by decide) rfl (by decide) ?_
      refine q_eqM (M' := putA M 44 0 (nm2 (M 44 0) 105 100 (mk (M 31 0) (tn m) 1) (mk (M 31 0) (tn m) 2))) (by simp only [putA_s, putA_pp]; rfl) ?_
      refine q_aload_n 55 dX6_fine_54 rfl rfl ?_
      refine q_iload_n 56 dX6_fine_55 rfl rfl ?_
      refine q_callV 59 dX6_fine_56 rfl (c6_worked _ _ t m1 e3 (by omega) (M 31 0) (by rfl) (fun v => (nm2 (M 44 0) 105 100 (mk (M 31 0) (tn m) 1) (mk (M 31 0) (tn m) 2)) v.toNatClampNeg) (fun c hc => by rw [nI_clamp (by omega)]; rfl) 2 hm1 hg hM (by rw [e4] at hw; exact hw)) cw_X6_89 (by decide) rfl rfl ⟨by decide, by decide⟩ ⟨by decide, by decide⟩ (Nat.le_of_ble_eq_true rfl) ?_
      rintro _ _ ⟨rfl, p, rfl⟩
      refine q_iret dX6_fine_59 ?_
      refine ⟨congrArg (fun x => some (Value.int x)) ?_, _, p, rfl⟩
      unfold aFine
      rw [if_pos h_5]
      rw [if_neg (Int32.not_lt.mpr h_18), e3]
      show _ = vaT _ _ (nI t).toNatClampNeg
      rw [nI_clamp (by omega)]
      unfold vaT
      rw [hM, nI_clamp (by omega)]
      rw [e4] at hw
      refine pil_eq hw (fun c hc => ?_) m1 (Nat.le_refl _) 0 (by omega)
      unfold okN at hc
      rw [if_neg (by decide), if_neg (by decide)] at hc
      rcases hc with rfl | rfl <;> rfl
    · skip
      refine q_aload_n 22 dX6_fine_21 rfl rfl ?_
      refine q_iload_n 23 dX6_fine_22 rfl rfl ?_
      refine q_iconst (v := 1) 24 dX6_fine_23 rfl rfl ?_
      refine q_callVt 27 dX6_fine_24 rfl (c6_of _ _ _ (tn m) 1 em rfl (by omega)) cw_X6_72 (by decide) rfl rfl ⟨by decide, by decide⟩ ⟨by decide, by decide⟩ (Nat.le_of_ble_eq_true rfl) ?_
      refine q_iret dX6_fine_27 ?_
      refine ⟨?_, _, _, (sc_id M).symm⟩
      unfold aFine
      rw [if_pos h_5, if_pos (Int32.not_le.mp h_18)]
      rfl
  · skip
    simp only [bI_0, Classical.not_not] at h_5
    refine q_ldc 10 dX6_fine_8 rfl cs_X6_110 ?_
    refine q_iret dX6_fine_10 ?_
    refine ⟨?_, _, _, (sc_id M).symm⟩
    unfold aFine
    rw [if_neg h_5]
def de1 (s : SS) : SS := cmF (drS (drS (drS (drS s)))) (rmF (drA s) 6) (rmF (drA (drS s)) 70 + 30) (rmF (drA (drS (drS s))) 40) (rmF (drA (drS (drS (drS s)))) 6)
def deN (s : SS) : Nat → SS
  | 0 => s
  | k + 1 => de1 (deN s k)
theorem drA_n (s : SS) (d : Nat) (h0 : 0 < d) (hd : d < 2 ^ 31) : ∃ a, a < d ∧ rmF (drA s) (nI d) = nI a := by
  obtain ⟨b, hb, e⟩ := usF_nat (drF (s 8))
  refine ⟨b % d, Nat.mod_lt _ h0, ?_⟩
  unfold drA; rw [e]; exact rmF_nI (by omega) h0 hd
theorem cmF_n {s : SS} {k i d c : Int32} {j : Nat} (h0 : j ≠ 0) (h : j < 21 + 5 * nN s ∨ 21 + 5 * nN s + 5 ≤ j) : cmF s k i d c j = s j := by
  unfold cmF; rw [upd_n (by omega), upd_n (by omega), upd_n (by omega), upd_n (by omega), upd_n (by omega), upd_n h0]
theorem cmF_WK {s : SS} (h : WK s) (h9 : nN s < 10) {k i d c : Nat} (hk : k ≤ 5) (hi : i ≤ 99) (hd : d ≤ 9999) (hc5 : c ≤ 5) : WK (cmF s (nI k) (nI i) (nI d) (nI c)) ∧ nN (cmF s (nI k) (nI i) (nI d) (nI c)) = nN s + 1 := by
  obtain ⟨⟨h0, h10⟩, hr, hc, hm, ht⟩ := h
  have e0 := cmF_0 s (nI k) (nI i) (nI d) (nI c)
  have en : nN (cmF s (nI k) (nI i) (nI d) (nI c)) = nN s + 1 := by
    show (cmF s (nI k) (nI i) (nI d) (nI c) 0).toNatClampNeg = _
    rw [e0, h0, nI_1, nI_clamp (by omega)]
  refine ⟨⟨?_, ?_, ?_, ?_, WFt_c (cmF_n (by omega) (by omega)) (fun j hj => cmF_n (by omega) (by omega)) ht⟩, en⟩
  · rw [en, e0, h0, nI_1]; exact ⟨rfl, by omega⟩
  · unfold WFr; rw [cmF_n (by omega) (by omega), cmF_n (by omega) (by omega), cmF_n (by omega) (by omega), cmF_n (by omega) (by omega), cmF_n (by omega) (by omega)]; exact hr
  · intro c' h6; rw [cmF_n (by omega) (by omega), cmF_n (by omega) (by omega)]; exact hc c' h6
  · intro j hj
    by_cases e : j = nN s
    · have v0 : mk (cmF s (nI k) (nI i) (nI d) (nI c)) j 0 = nI k := by unfold mk cmF; rw [e, upd_n (by omega), upd_n (by omega), upd_n (by omega), upd_n (by omega), upd_s]
      have v1 : mk (cmF s (nI k) (nI i) (nI d) (nI c)) j 1 = nI i := by unfold mk cmF; rw [e, upd_n (by omega), upd_n (by omega), upd_n (by omega), upd_s]
      have v2 : mk (cmF s (nI k) (nI i) (nI d) (nI c)) j 2 = nI d := by unfold mk cmF; rw [e, upd_n (by omega), upd_n (by omega), upd_s]
      have v3 : mk (cmF s (nI k) (nI i) (nI d) (nI c)) j 3 = nI c := by unfold mk cmF; rw [e, upd_n (by omega), upd_s]
      have v4 : mk (cmF s (nI k) (nI i) (nI d) (nI c)) j 4 = 0 := by unfold mk cmF; rw [e, upd_s]
      rw [v0, v1, v2, v3, v4]
      exact ⟨rg_of (b := 5) rfl hk, rg_of (b := 99) rfl hi, rg_of (b := 9999) rfl hd, rg_of (b := 5) rfl hc5, ⟨by decide, by decide⟩⟩
    · unfold mk; rw [cmF_n (by omega) (by omega), cmF_n (by omega) (by omega), cmF_n (by omega) (by omega), cmF_n (by omega) (by omega), cmF_n (by omega) (by omega)]; exact hm j hj
theorem de1_ok {s : SS} (h : WK s) (h9 : nN s < 10) : WK (de1 s) ∧ nN (de1 s) = nN s + 1 ∧ de1 s 2 = s 2 := by
  have hd : WK (drS (drS (drS (drS s)))) := upd_WK (upd_WK (upd_WK (upd_WK h _ (Or.inr rfl)) _ (Or.inr rfl)) _ (Or.inr rfl)) _ (Or.inr rfl)
  have en : nN (drS (drS (drS (drS s)))) = nN s := nN_c (by unfold drS; rw [upd_n (by decide), upd_n (by decide), upd_n (by decide), upd_n (by decide)])
  obtain ⟨a, ha, ea⟩ := drA_n s 6 (by decide) (by decide)
  obtain ⟨b, hb, eb⟩ := drA_n (drS s) 70 (by decide) (by decide)
  obtain ⟨c, hc, ec⟩ := drA_n (drS (drS s)) 40 (by decide) (by decide)
  obtain ⟨d, hd2, ed⟩ := drA_n (drS (drS (drS s))) 6 (by decide) (by decide)
  have e30 : rmF (drA (drS s)) 70 + 30 = nI (b + 30) := by
    show rmF (drA (drS s)) (nI 70) + nI 30 = _
    rw [eb, nI_add]
  unfold de1
  rw [show rmF (drA s) 6 = nI a from ea, e30, show rmF (drA (drS (drS s))) 40 = nI c from ec, show rmF (drA (drS (drS (drS s)))) 6 = nI d from ed]
  obtain ⟨q1, q2⟩ := cmF_WK hd (by omega) (k := a) (i := b + 30) (d := c) (c := d) (by omega) (by omega) (by omega) (by omega)
  refine ⟨q1, by rw [q2, en], ?_⟩
  rw [cmF_n (by decide) (by omega)]
  unfold drS; rw [upd_n (by decide), upd_n (by decide), upd_n (by decide), upd_n (by decide)]
theorem deN_ok {s : SS} (h : WK s) : ∀ k, nN s + k ≤ 10 → WK (deN s k) ∧ nN (deN s k) = nN s + k ∧ deN s k 2 = s 2
  | 0, _ => ⟨h, rfl, rfl⟩
  | k + 1, hk => by
    obtain ⟨h1, h2, h3⟩ := deN_ok h k (by omega)
    obtain ⟨g1, g2, g3⟩ := de1_ok h1 (by omega)
    exact ⟨g1, by show nN (de1 _) = _; rw [g2, h2]; omega, by show de1 _ 2 = _; rw [g3, h3]⟩
def deA (s : SS) (n : Int32) : Nat := min (tn n) (10 - nN s)
def aDeal (s : SS) (n : Int32) : Int32 := if 1 ≤ n ∧ n ≤ 10 then nI (deA s n) else BADc
def sDeal (s : SS) (n : Int32) : SS := if 1 ≤ n ∧ n ≤ 10 then deN s (deA s n) else s
set_option maxRecDepth 100000 in
set_option maxHeartbeats 4000000 in
theorem l6_deal {g : GT} (M : TM) (x : Int32) (n : Nat) (hx : x = nI n) (hn : n ≤ 10) (s : SS) (hW : WK s) : ∀ (j : Nat) (k : Nat) (y : Int32), 11 - k < j → k ≤ n → nN s + k ≤ 10 → y = nI k → TR g (rmD 2) RX6 cX6_deal 6 (some .int) 0 0 (Zm g (Pa (nI (min n (10 - nN s))) M (deN s (min n (10 - nN s))))) 17 [some (.ref (gad g 6 0)), some (.int x), some (.int y), none, none, none] [] (putA M 31 0 (deN s k)) := by
  intro j
  induction j with
  | zero => intro k y hj hkn hk10 hy; exact absurd hj (by omega)
  | succ j ih =>
    intro k y hj hkn hk10 hy
    subst hy
    obtain ⟨w1, w2, w3⟩ := deN_ok hW k hk10
    refine q_iload_n 18 dX6_deal_17 rfl rfl ?_
    refine q_iload_n 19 dX6_deal_18 rfl rfl ?_
    refine q_icmp_ge 84 22 dX6_deal_19 rfl rfl (fun h_19 => ?_) (fun h_19 => ?_)
    · skip
      rw [hx, nI_leI (by omega) (by omega)] at h_19
      refine q_iload_n 85 dX6_deal_84 rfl rfl ?_
      refine q_iret dX6_deal_85 ?_
      have e : k = min n (10 - nN s) := by omega
      exact ⟨by rw [← e], by rw [← e]⟩
    · skip
      rw [hx, nI_leI (by omega) (by omega)] at h_19
      refine q_aload_n 23 dX6_deal_22 rfl rfl ?_
      refine q_getR 26 dX6_deal_23 rfl fl_X6_7 (by decide) rfl rfl ?_
      refine q_iconst (v := 0) 27 dX6_deal_26 rfl rfl ?_
      refine q_iald 28 dX6_deal_27 rfl (by decide) (by decide) rfl (by decide) ?_
      refine q_bipush (v := 10) 30 dX6_deal_28 rfl rfl ?_
      refine q_icmp_ge 84 33 dX6_deal_30 rfl rfl (fun h_30 => ?_) (fun h_30 => ?_)
      · skip
        replace h_30 : nI 10 ≤ nI (nN (deN s k)) := by rw [← w1.1.1]; exact h_30
        rw [nI_leI (by omega) (by omega)] at h_30
        refine q_iload_n 85 dX6_deal_84 rfl rfl ?_
        refine q_iret dX6_deal_85 ?_
        have e : k = min n (10 - nN s) := by omega
        exact ⟨by rw [← e], by rw [← e]⟩
      · skip
        replace h_30 : ¬ nI 10 ≤ nI (nN (deN s k)) := by rw [← w1.1.1]; exact h_30
        rw [nI_leI (by omega) (by omega)] at h_30
        have w4 : WK (drS (drS (drS (drS (deN s k))))) := upd_WK (upd_WK (upd_WK (upd_WK w1 _ (Or.inr rfl)) _ (Or.inr rfl)) _ (Or.inr rfl)) _ (Or.inr rfl)
        have en : nN (drS (drS (drS (drS (deN s k))))) = nN (deN s k) := nN_c (by unfold drS; rw [upd_n (by decide), upd_n (by decide), upd_n (by decide), upd_n (by decide)])
        refine q_aload_n 34 dX6_deal_33 rfl rfl ?_
        refine q_callVt 37 dX6_deal_34 rfl (c6_drawn _) cw_X6_156 (by decide) rfl rfl ⟨by decide, by decide⟩ ⟨by decide, by decide⟩ (Nat.le_of_ble_eq_true rfl) ?_
        refine q_eqM (eM_up _ _ _ _) ?_
        refine q_bipush (v := 6) 39 dX6_deal_37 rfl rfl ?_
        refine q_irem 40 dX6_deal_39 rfl (by decide) ?_
        refine q_istore_n 41 dX6_deal_40 rfl (by decide) rfl ?_
        refine q_aload_n 42 dX6_deal_41 rfl rfl ?_
        refine q_callVt 45 dX6_deal_42 rfl (c6_drawn _) cw_X6_156 (by decide) rfl rfl ⟨by decide, by decide⟩ ⟨by decide, by decide⟩ (Nat.le_of_ble_eq_true rfl) ?_
        refine q_eqM (eM_up _ _ _ _) ?_
        refine q_bipush (v := 70) 47 dX6_deal_45 rfl rfl ?_
        refine q_irem 48 dX6_deal_47 rfl (by decide) ?_
        refine q_bipush (v := 30) 50 dX6_deal_48 rfl rfl ?_
        refine q_iadd 51 dX6_deal_50 rfl ?_
        refine q_istore 53 dX6_deal_51 rfl (by decide) rfl ?_
        refine q_aload_n 54 dX6_deal_53 rfl rfl ?_
        refine q_callVt 57 dX6_deal_54 rfl (c6_drawn _) cw_X6_156 (by decide) rfl rfl ⟨by decide, by decide⟩ ⟨by decide, by decide⟩ (Nat.le_of_ble_eq_true rfl) ?_
        refine q_eqM (eM_up _ _ _ _) ?_
        refine q_bipush (v := 40) 59 dX6_deal_57 rfl rfl ?_
        refine q_irem 60 dX6_deal_59 rfl (by decide) ?_
        refine q_istore 62 dX6_deal_60 rfl (by decide) rfl ?_
        refine q_aload_n 63 dX6_deal_62 rfl rfl ?_
        refine q_iload_n 64 dX6_deal_63 rfl rfl ?_
        refine q_iload 66 dX6_deal_64 rfl rfl ?_
        refine q_iload 68 dX6_deal_66 rfl rfl ?_
        refine q_aload_n 69 dX6_deal_68 rfl rfl ?_
        refine q_callVt 72 dX6_deal_69 rfl (c6_drawn _) cw_X6_156 (by decide) rfl rfl ⟨by decide, by decide⟩ ⟨by decide, by decide⟩ (Nat.le_of_ble_eq_true rfl) ?_
        refine q_eqM (eM_up _ _ _ _) ?_
        refine q_bipush (v := 6) 74 dX6_deal_72 rfl rfl ?_
        refine q_irem 75 dX6_deal_74 rfl (by decide) ?_
        refine q_callVv 78 dX6_deal_75 rfl (c6_comes _ _ _ _ _ (drS (drS (drS (drS (deN s k))))) (by rfl) w4.1.1 (by omega)) cw_X6_112 (by decide) rfl rfl ⟨by decide, by decide⟩ ⟨by decide, by decide⟩ (Nat.le_of_ble_eq_true rfl) ?_
        refine q_eqM (M' := putA M 31 0 (deN s (k + 1))) (by rw [putA_pp]; rfl) ?_
        refine q_iinc 81 dX6_deal_78 rfl rfl (by decide) rfl (nI_1 k) ?_
        refine q_goto 17 dX6_deal_81 rfl ?_
        exact q_fg (ih (k + 1) _ (by omega) (by omega) (by omega) rfl) ⟨rfl, rfl, rfl, trivial⟩
set_option maxRecDepth 100000 in
set_option maxHeartbeats 4000000 in
theorem c6_deal {g : GT} (M : TM) (n : Int32) (s : SS) (hs : M 31 0 = s) (hW : WK s) : Cn g yX6_deal cX6_deal 6 (some .int) 2 [.ref (gad g 6 0), .int n] M (Pa (aDeal s n) M (sDeal s n)) := by
  refine Cn.ofTR (by decide +kernel) (Nat.le_of_ble_eq_true rfl) ?_
  subst hs
  refine q_iload_n 1 dX6_deal_0 rfl rfl ?_
  refine q_i2l 2 dX6_deal_1 rfl ?_
  refine q_lconst (v := 1) 3 dX6_deal_2 rfl rfl ?_
  refine q_ldc2 6 dX6_deal_3 rfl cl_X6_154 ?_
  refine q_callSt 9 dX6_deal_6 rfl (c6_isIn' _ _ (1) (10) _ _) cw_X6_65 rfl rfl ⟨by decide, by decide⟩ ⟨by decide, by decide⟩ (Nat.le_of_ble_eq_true rfl) ?_
  refine q_if_ne 15 12 dX6_deal_9 rfl rfl (fun h_9 => ?_) (fun h_9 => ?_)
  · skip
    simp only [bI_0, Classical.not_not] at h_9
    obtain ⟨en, ln⟩ := rg_tn (x := n) (hi := 10) (n := 10) ⟨Int32.le_trans (by decide) h_9.1, h_9.2⟩ rfl
    refine q_iconst (v := 0) 16 dX6_deal_15 rfl rfl ?_
    refine q_istore_n 17 dX6_deal_16 rfl (by decide) rfl ?_
    refine q_eqM (putA_id M 31 0).symm (TR_post (q_fg (l6_deal M n (tn n) en ln (M 31 0) hW 12 0 0 (by omega) (by omega) (by have := hW.1.2; omega) rfl) ⟨rfl, rfl, rfl, trivial⟩) ?_)
    rintro _ _ ⟨rfl, rfl⟩
    unfold aDeal sDeal
    rw [if_pos h_9, if_pos h_9]
    exact ⟨rfl, rfl⟩
  · skip
    simp only [bI_0, Classical.not_not] at h_9
    refine q_ldc 14 dX6_deal_12 rfl cs_X6_110 ?_
    refine q_iret dX6_deal_14 ?_
    unfold aDeal sDeal
    exact Pa_id (by rw [if_neg h_9]) (if_neg h_9)
/-- the best of the sets below j; -1: none -/
def feF (sh : Nat → Int32) (n : Nat) (v : Int32) : Nat → Int32
  | 0 => -1
  | j + 1 => if (feF sh n v j < 0 ∨ popc j < popc (tn (feF sh n v j))) ∧ v ≤ sumS sh j.testBit n then nI j else feF sh n v j
theorem feF_ok (sh : Nat → Int32) (n : Nat) (v : Int32) : ∀ j, j ≤ 1024 → feF sh n v j = -1 ∨ ∃ a, a < j ∧ feF sh n v j = nI a
  | 0, _ => Or.inl rfl
  | j + 1, h => by
    unfold feF
    split
    · exact Or.inr ⟨j, by omega, rfl⟩
    · rcases feF_ok sh n v j (by omega) with q | ⟨a, h1, h2⟩
      · exact Or.inl q
      · exact Or.inr ⟨a, by omega, h2⟩
def aFewest (s : SS) (v w : Int32) : Int32 := if (0 ≤ v ∧ v ≤ 999) ∧ (0 ≤ w ∧ w ≤ 1) then (if feF (shF s) (nN s) v (2 ^ nN s) < 0 then NONEc else if w = 0 then feF (shF s) (nN s) v (2 ^ nN s) else nI (popc (tn (feF (shF s) (nN s) v (2 ^ nN s))))) else BADc
theorem pw10 {n : Nat} (h : n ≤ 10) : 2 ^ n ≤ 1024 := Nat.pow_le_pow_right (by decide) h
set_option maxRecDepth 100000 in
set_option maxHeartbeats 4000000 in
theorem l6_fewest {g : GT} (M : TM) (v w : Int32) (s : SS) (hs : M 31 0 = s) (hW : Wm s) (hv : 0 ≤ v ∧ v ≤ 999) (hw : 0 ≤ w ∧ w ≤ 1) : ∀ (j : Nat) (k : Nat) (b y : Int32) (f f2 : Nat → Int32), 2 ^ nN s - k < j → k ≤ 2 ^ nN s → b = (feF (shF s) (nN s) v k) → y = nI k → TR g (rmD 5) RX6 cX6_fewest 5 (some .int) 0 0 (Zm g (Rs (.int (aFewest s v w)) M)) 30 [some (.ref (gad g 6 0)), some (.int v), some (.int w), some (.int b), some (.int y)] [] (sc M f f2) := by
  intro j
  induction j with
  | zero => intro k b y f f2 hj hkn hb0 hy; exact absurd hj (by omega)
  | succ j ih =>
    intro k b y f f2 hj hkn hb0 hy
    have hW0 := hW
    subst hs; subst hy
    obtain ⟨⟨hn, hn10⟩, hm⟩ := hW
    have hpw := pw10 hn10
    have hb := feF_ok (shF (M 31 0)) (nN (M 31 0)) v k (by have := pw10 hn10; omega)
    have hpos := Nat.two_pow_pos (nN (M 31 0))
    refine q_iload 32 dX6_fewest_30 rfl rfl ?_
    refine q_iconst (v := 1) 33 dX6_fewest_32 rfl rfl ?_
    refine q_aload_n 34 dX6_fewest_33 rfl rfl ?_
    refine q_getR 37 dX6_fewest_34 rfl fl_X6_7 (by decide) rfl rfl ?_
    refine q_iconst (v := 0) 38 dX6_fewest_37 rfl rfl ?_
    refine q_iald 39 dX6_fewest_38 rfl (by decide) (by decide) rfl (by decide) ?_
    refine q_ishl 40 dX6_fewest_39 rfl ?_
    refine q_icmp_ge 82 43 dX6_fewest_40 rfl rfl (fun h_40 => ?_) (fun h_40 => ?_)
    · skip
      replace h_40 : nI (2 ^ nN (M 31 0)) ≤ nI k := by rw [← one_shl (nN (M 31 0)) (by omega), ← hn]; exact h_40
      rw [nI_leI (by omega) (by omega)] at h_40
      have e : k = 2 ^ nN (M 31 0) := by omega
      refine q_iload_n 83 dX6_fewest_82 rfl rfl ?_
      refine q_if_ge 91 86 dX6_fewest_83 rfl rfl (fun h_83 => ?_) (fun h_83 => ?_)
      · skip
        obtain ⟨a, ha1, ha2⟩ : ∃ a, a < k ∧ feF (shF (M 31 0)) (nN (M 31 0)) v k = nI a := by
          rcases hb with q | q
          · exact absurd h_83 (by rw [hb0, q]; decide)
          · exact q
        have eta : tn (feF (shF (M 31 0)) (nN (M 31 0)) v k) = a := by rw [ha2]; exact nI_clamp (by omega)
        refine q_iload_n 92 dX6_fewest_91 rfl rfl ?_
        refine q_if_ne 99 95 dX6_fewest_92 rfl rfl (fun h_92 => ?_) (fun h_92 => ?_)
        · skip
          refine q_iload_n 100 dX6_fewest_99 rfl rfl ?_
          refine q_callSt 103 dX6_fewest_100 rfl (c6_many _ _ a (hb0.trans ha2) (by omega)) cw_X6_86 rfl rfl ⟨by decide, by decide⟩ ⟨by decide, by decide⟩ (Nat.le_of_ble_eq_true rfl) ?_
          refine q_iret dX6_fewest_103 ?_
          refine ⟨congrArg (fun x => some (Value.int x)) ?_, f, f2, rfl⟩
          unfold aFewest
          rw [if_pos ⟨hv, hw⟩, ← e]
          first
          | (rw [if_pos (by rw [← hb0]; exact Int32.not_le.mp h_83)])
          | (rw [if_neg (by rw [← hb0]; exact Int32.not_lt.mpr h_83), if_pos h_92]; exact hb0)
          | (rw [if_neg (by rw [← hb0]; exact Int32.not_lt.mpr h_83), if_neg h_92, eta])
        · skip
          refine q_iload_n 96 dX6_fewest_95 rfl rfl ?_
          refine q_goto 103 dX6_fewest_96 rfl ?_
          refine q_iret dX6_fewest_103 ?_
          refine ⟨congrArg (fun x => some (Value.int x)) ?_, f, f2, rfl⟩
          unfold aFewest
          rw [if_pos ⟨hv, hw⟩, ← e]
          first
          | (rw [if_pos (by rw [← hb0]; exact Int32.not_le.mp h_83)])
          | (rw [if_neg (by rw [← hb0]; exact Int32.not_lt.mpr h_83), if_pos h_92]; exact hb0)
          | (rw [if_neg (by rw [← hb0]; exact Int32.not_lt.mpr h_83), if_neg h_92, eta])
      · skip
        refine q_ldc 88 dX6_fewest_86 rfl cs_X6_64 ?_
        refine q_goto 103 dX6_fewest_88 rfl ?_
        refine q_iret dX6_fewest_103 ?_
        refine ⟨congrArg (fun x => some (Value.int x)) ?_, f, f2, rfl⟩
        unfold aFewest
        rw [if_pos ⟨hv, hw⟩, ← e]
        first
        | (rw [if_pos (by rw [← hb0]; exact Int32.not_le.mp h_83)])
        | (rw [if_neg (by rw [← hb0]; exact Int32.not_lt.mpr h_83), if_pos h_92]; exact hb0)
        | (rw [if_neg (by rw [← hb0]; exact Int32.not_lt.mpr h_83), if_neg h_92, eta])
    · skip
      replace h_40 : ¬ nI (2 ^ nN (M 31 0)) ≤ nI k := by rw [← one_shl (nN (M 31 0)) (by omega), ← hn]; exact h_40
      rw [nI_leI (by omega) (by omega)] at h_40
      refine q_iload_n 44 dX6_fewest_43 rfl rfl ?_
      refine q_if_lt 59 47 dX6_fewest_44 rfl rfl (fun h_44 => ?_) (fun h_44 => ?_)
      · skip
        refine q_aload_n 60 dX6_fewest_59 rfl rfl ?_
        refine q_iload 62 dX6_fewest_60 rfl rfl ?_
        refine q_callV 65 dX6_fewest_62 rfl (c6_shownBy _ _ k rfl (by omega) (M 31 0) (by rfl) hW0) cw_X6_145 (by decide) rfl rfl ⟨by decide, by decide⟩ ⟨by decide, by decide⟩ (Nat.le_of_ble_eq_true rfl) ?_
        rintro _ _ ⟨rfl, f3, f4, rfl⟩
        refine q_eqM (sc_sc M f f2 f3 f4) ?_
        refine q_iload_n 66 dX6_fewest_65 rfl rfl ?_
        refine q_icmp_lt 74 69 dX6_fewest_66 rfl rfl (fun h_66 => ?_) (fun h_66 => ?_)
        · skip
          refine q_iload_n 75 dX6_fewest_74 rfl rfl ?_
          refine q_istore_n 76 dX6_fewest_75 rfl (by decide) rfl ?_
          refine q_iinc 79 dX6_fewest_76 rfl rfl (by decide) rfl (nI_1 k) ?_
          refine q_goto 30 dX6_fewest_79 rfl ?_
          refine q_fg (ih (k + 1) _ _ _ _ (by omega) (by omega) ?_ rfl) ⟨rfl, rfl, rfl, rfl, rfl, trivial⟩
          unfold feF
          first
          | (have hq := Int32.not_lt.mp h_66; have hz : feF (shF (M 31 0)) (nN (M 31 0)) v k < 0 := hb0 ▸ h_44; rw [if_pos ⟨Or.inl hz, hq⟩])
          | (have hq := Int32.not_le.mpr h_66; rw [if_neg (fun q => hq q.2)]; exact hb0)
          | (have hq : ¬ (feF (shF (M 31 0)) (nN (M 31 0)) v k < 0 ∨ popc k < popc (tn (feF (shF (M 31 0)) (nN (M 31 0)) v k))) := (by intro q; rcases q with z | z; exact h_44 (by rw [hb0]; exact z); rw [eta] at z; omega); rw [if_neg (fun q => hq q.1)]; exact hb0)
          | (have hq := Int32.not_lt.mp h_66; have hz : popc k < popc (tn (feF (shF (M 31 0)) (nN (M 31 0)) v k)) := (by rw [eta]; omega); rw [if_pos ⟨Or.inr hz, hq⟩])
        · skip
          refine q_iload 71 dX6_fewest_69 rfl rfl ?_
          refine q_goto 75 dX6_fewest_71 rfl ?_
          refine q_istore_n 76 dX6_fewest_75 rfl (by decide) rfl ?_
          refine q_iinc 79 dX6_fewest_76 rfl rfl (by decide) rfl (nI_1 k) ?_
          refine q_goto 30 dX6_fewest_79 rfl ?_
          refine q_fg (ih (k + 1) _ _ _ _ (by omega) (by omega) ?_ rfl) ⟨rfl, rfl, rfl, rfl, rfl, trivial⟩
          unfold feF
          first
          | (have hq := Int32.not_lt.mp h_66; have hz : feF (shF (M 31 0)) (nN (M 31 0)) v k < 0 := hb0 ▸ h_44; rw [if_pos ⟨Or.inl hz, hq⟩])
          | (have hq := Int32.not_le.mpr h_66; rw [if_neg (fun q => hq q.2)]; exact hb0)
          | (have hq : ¬ (feF (shF (M 31 0)) (nN (M 31 0)) v k < 0 ∨ popc k < popc (tn (feF (shF (M 31 0)) (nN (M 31 0)) v k))) := (by intro q; rcases q with z | z; exact h_44 (by rw [hb0]; exact z); rw [eta] at z; omega); rw [if_neg (fun q => hq q.1)]; exact hb0)
          | (have hq := Int32.not_lt.mp h_66; have hz : popc k < popc (tn (feF (shF (M 31 0)) (nN (M 31 0)) v k)) := (by rw [eta]; omega); rw [if_pos ⟨Or.inr hz, hq⟩])
      · skip
        obtain ⟨a, ha1, ha2⟩ : ∃ a, a < k ∧ feF (shF (M 31 0)) (nN (M 31 0)) v k = nI a := by
          rcases hb with q | q
          · exact absurd (by rw [hb0, q]; decide) h_44
          · exact q
        have eta : tn (feF (shF (M 31 0)) (nN (M 31 0)) v k) = a := by rw [ha2]; exact nI_clamp (by omega)
        refine q_iload 49 dX6_fewest_47 rfl rfl ?_
        refine q_callSt 52 dX6_fewest_49 rfl (c6_many _ _ k rfl (by omega)) cw_X6_86 rfl rfl ⟨by decide, by decide⟩ ⟨by decide, by decide⟩ (Nat.le_of_ble_eq_true rfl) ?_
        refine q_iload_n 53 dX6_fewest_52 rfl rfl ?_
        refine q_callSt 56 dX6_fewest_53 rfl (c6_many _ _ a (hb0.trans ha2) (by omega)) cw_X6_86 rfl rfl ⟨by decide, by decide⟩ ⟨by decide, by decide⟩ (Nat.le_of_ble_eq_true rfl) ?_
        refine q_icmp_ge 74 59 dX6_fewest_56 rfl rfl (fun h_56 => ?_) (fun h_56 => ?_)
        · skip
          rw [nI_leI (by have := popc_le a; omega) (by have := popc_le k; omega)] at h_56
          refine q_iload_n 75 dX6_fewest_74 rfl rfl ?_
          refine q_istore_n 76 dX6_fewest_75 rfl (by decide) rfl ?_
          refine q_iinc 79 dX6_fewest_76 rfl rfl (by decide) rfl (nI_1 k) ?_
          refine q_goto 30 dX6_fewest_79 rfl ?_
          refine q_fg (ih (k + 1) _ _ _ _ (by omega) (by omega) ?_ rfl) ⟨rfl, rfl, rfl, rfl, rfl, trivial⟩
          unfold feF
          first
          | (have hq := Int32.not_lt.mp h_66; have hz : feF (shF (M 31 0)) (nN (M 31 0)) v k < 0 := hb0 ▸ h_44; rw [if_pos ⟨Or.inl hz, hq⟩])
          | (have hq := Int32.not_le.mpr h_66; rw [if_neg (fun q => hq q.2)]; exact hb0)
          | (have hq : ¬ (feF (shF (M 31 0)) (nN (M 31 0)) v k < 0 ∨ popc k < popc (tn (feF (shF (M 31 0)) (nN (M 31 0)) v k))) := (by intro q; rcases q with z | z; exact h_44 (by rw [hb0]; exact z); rw [eta] at z; omega); rw [if_neg (fun q => hq q.1)]; exact hb0)
          | (have hq := Int32.not_lt.mp h_66; have hz : popc k < popc (tn (feF (shF (M 31 0)) (nN (M 31 0)) v k)) := (by rw [eta]; omega); rw [if_pos ⟨Or.inr hz, hq⟩])
        · skip
          rw [nI_leI (by have := popc_le a; omega) (by have := popc_le k; omega)] at h_56
          refine q_aload_n 60 dX6_fewest_59 rfl rfl ?_
          refine q_iload 62 dX6_fewest_60 rfl rfl ?_
          refine q_callV 65 dX6_fewest_62 rfl (c6_shownBy _ _ k rfl (by omega) (M 31 0) (by rfl) hW0) cw_X6_145 (by decide) rfl rfl ⟨by decide, by decide⟩ ⟨by decide, by decide⟩ (Nat.le_of_ble_eq_true rfl) ?_
          rintro _ _ ⟨rfl, f3, f4, rfl⟩
          refine q_eqM (sc_sc M f f2 f3 f4) ?_
          refine q_iload_n 66 dX6_fewest_65 rfl rfl ?_
          refine q_icmp_lt 74 69 dX6_fewest_66 rfl rfl (fun h_66 => ?_) (fun h_66 => ?_)
          · skip
            refine q_iload_n 75 dX6_fewest_74 rfl rfl ?_
            refine q_istore_n 76 dX6_fewest_75 rfl (by decide) rfl ?_
            refine q_iinc 79 dX6_fewest_76 rfl rfl (by decide) rfl (nI_1 k) ?_
            refine q_goto 30 dX6_fewest_79 rfl ?_
            refine q_fg (ih (k + 1) _ _ _ _ (by omega) (by omega) ?_ rfl) ⟨rfl, rfl, rfl, rfl, rfl, trivial⟩
            unfold feF
            first
            | (have hq := Int32.not_lt.mp h_66; have hz : feF (shF (M 31 0)) (nN (M 31 0)) v k < 0 := hb0 ▸ h_44; rw [if_pos ⟨Or.inl hz, hq⟩])
            | (have hq := Int32.not_le.mpr h_66; rw [if_neg (fun q => hq q.2)]; exact hb0)
            | (have hq : ¬ (feF (shF (M 31 0)) (nN (M 31 0)) v k < 0 ∨ popc k < popc (tn (feF (shF (M 31 0)) (nN (M 31 0)) v k))) := (by intro q; rcases q with z | z; exact h_44 (by rw [hb0]; exact z); rw [eta] at z; omega); rw [if_neg (fun q => hq q.1)]; exact hb0)
            | (have hq := Int32.not_lt.mp h_66; have hz : popc k < popc (tn (feF (shF (M 31 0)) (nN (M 31 0)) v k)) := (by rw [eta]; omega); rw [if_pos ⟨Or.inr hz, hq⟩])
          · skip
            refine q_iload 71 dX6_fewest_69 rfl rfl ?_
            refine q_goto 75 dX6_fewest_71 rfl ?_
            refine q_istore_n 76 dX6_fewest_75 rfl (by decide) rfl ?_
            refine q_iinc 79 dX6_fewest_76 rfl rfl (by decide) rfl (nI_1 k) ?_
            refine q_goto 30 dX6_fewest_79 rfl ?_
            refine q_fg (ih (k + 1) _ _ _ _ (by omega) (by omega) ?_ rfl) ⟨rfl, rfl, rfl, rfl, rfl, trivial⟩
            unfold feF
            first
            | (have hq := Int32.not_lt.mp h_66; have hz : feF (shF (M 31 0)) (nN (M 31 0)) v k < 0 := hb0 ▸ h_44; rw [if_pos ⟨Or.inl hz, hq⟩])
            | (have hq := Int32.not_le.mpr h_66; rw [if_neg (fun q => hq q.2)]; exact hb0)
            | (have hq : ¬ (feF (shF (M 31 0)) (nN (M 31 0)) v k < 0 ∨ popc k < popc (tn (feF (shF (M 31 0)) (nN (M 31 0)) v k))) := (by intro q; rcases q with z | z; exact h_44 (by rw [hb0]; exact z); rw [eta] at z; omega); rw [if_neg (fun q => hq q.1)]; exact hb0)
            | (have hq := Int32.not_lt.mp h_66; have hz : popc k < popc (tn (feF (shF (M 31 0)) (nN (M 31 0)) v k)) := (by rw [eta]; omega); rw [if_pos ⟨Or.inr hz, hq⟩])
set_option maxRecDepth 100000 in
set_option maxHeartbeats 4000000 in
theorem c6_fewest {g : GT} (M : TM) (v w : Int32) (s : SS) (hs : M 31 0 = s) (hW : WF 9999 s) : Cn g yX6_fewest cX6_fewest 5 (some .int) 5 [.ref (gad g 6 0), .int v, .int w] M (Rs (.int (aFewest s v w)) M) := by
  refine Cn.ofTR (by decide +kernel) (Nat.le_of_ble_eq_true rfl) ?_
  refine q_iload_n 1 dX6_fewest_0 rfl rfl ?_
  refine q_i2l 2 dX6_fewest_1 rfl ?_
  refine q_lconst (v := 0) 3 dX6_fewest_2 rfl rfl ?_
  refine q_ldc2 6 dX6_fewest_3 rfl cl_X6_160 ?_
  refine q_callSt 9 dX6_fewest_6 rfl (c6_isIn' _ _ (0) (999) _ _) cw_X6_65 rfl rfl ⟨by decide, by decide⟩ ⟨by decide, by decide⟩ (Nat.le_of_ble_eq_true rfl) ?_
  refine q_if_eq 22 12 dX6_fewest_9 rfl rfl (fun h_9 => ?_) (fun h_9 => ?_)
  · skip
    simp only [bI_0, Classical.not_not] at h_9
    refine q_ldc 24 dX6_fewest_22 rfl cs_X6_110 ?_
    refine q_iret dX6_fewest_24 ?_
    refine ⟨?_, _, _, (sc_id M).symm⟩
    unfold aFewest
    rw [if_neg (fun q => by first | exact h_9 q.1 | exact h_19 q.2)]
  · skip
    simp only [bI_0, Classical.not_not] at h_9
    refine q_iload_n 13 dX6_fewest_12 rfl rfl ?_
    refine q_i2l 14 dX6_fewest_13 rfl ?_
    refine q_lconst (v := 0) 15 dX6_fewest_14 rfl rfl ?_
    refine q_lconst (v := 1) 16 dX6_fewest_15 rfl rfl ?_
    refine q_callSt 19 dX6_fewest_16 rfl (c6_isIn' _ _ (0) (1) _ _) cw_X6_65 rfl rfl ⟨by decide, by decide⟩ ⟨by decide, by decide⟩ (Nat.le_of_ble_eq_true rfl) ?_
    refine q_if_ne 25 22 dX6_fewest_19 rfl rfl (fun h_19 => ?_) (fun h_19 => ?_)
    · skip
      simp only [bI_0, Classical.not_not] at h_19
      refine q_iconst (v := (-1)) 26 dX6_fewest_25 rfl rfl ?_
      refine q_istore_n 27 dX6_fewest_26 rfl (by decide) rfl ?_
      refine q_iconst (v := 0) 28 dX6_fewest_27 rfl rfl ?_
      refine q_istore 30 dX6_fewest_28 rfl (by decide) rfl ?_
      exact q_eqM (sc_id M).symm (q_fg (l6_fewest M v w s hs hW.m h_9 h_19 (2 ^ nN s + 1) 0 (-1) 0 _ _ (Nat.lt_succ_of_le (Nat.sub_le _ _)) (Nat.zero_le _) rfl rfl) ⟨rfl, rfl, rfl, rfl, rfl, trivial⟩)
    · skip
      simp only [bI_0, Classical.not_not] at h_19
      refine q_ldc 24 dX6_fewest_22 rfl cs_X6_110 ?_
      refine q_iret dX6_fewest_24 ?_
      refine ⟨?_, _, _, (sc_id M).symm⟩
      unfold aFewest
      rw [if_neg (fun q => by first | exact h_9 q.1 | exact h_19 q.2)]
