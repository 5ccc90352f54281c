abbrev tn (x : Int32) : Nat := x.toNatClampNeg
abbrev isM (s : SS) (x : Int32) : Prop := 0 ≤ x ∧ x ≤ s 0 - 1
abbrev BADc : Int32 := -1000000001
abbrev NOc : Int32 := -1000000002
abbrev FULLc : Int32 := -1000000003
abbrev NONEc : Int32 := -1000000005
abbrev NOTHc : Int32 := -1000000011
abbrev KINDc : Int32 := -1000000012
abbrev INDXc : Int32 := -1000000013
abbrev SIZEc : Int32 := -1000000014
theorem isM_nat {s : SS} {x : Int32} (hn : s 0 = nI (nN s)) (hn10 : nN s ≤ 10) (h : isM s x) : x = nI (tn x) ∧ tn x < nN s := by
  obtain ⟨h1, h2⟩ := h
  obtain ⟨j, hj, rfl⟩ := nI_of (Int32.not_lt.mpr h1)
  unfold tn
  rw [nI_clamp hj]
  refine ⟨rfl, ?_⟩
  rw [hn] at h2
  by_cases h0 : nN s = 0
  · rw [h0] at h2
    have : (nI j) ≤ -1 := h2
    exact absurd (Int32.le_trans h1 this) (by decide)
  · rw [ix_pre (by omega), nI_leI hj (by omega)] at h2
    omega
theorem rg_tn {x hi : Int32} {n : Nat} (h : 0 ≤ x ∧ x ≤ hi) (hh : hi.toInt = n) : x = nI (tn x) ∧ tn x ≤ n := rg_nat h hh
theorem cmF_0 (s : SS) (k i d c : Int32) : cmF s k i d c 0 = s 0 + 1 := by unfold cmF; rw [upd_n (by omega), upd_n (by omega), upd_n (by omega), upd_n (by omega), upd_n (by omega), upd_s]
/-- an answer, and the row s behind it -/
abbrev Pa (a : Int32) (M : TM) (S : SS) : Option Value → TM → Prop := fun r M' => r = some (.int a) ∧ M' = putA M 31 0 S
abbrev Pb (a : Int32) (M : TM) (S : SS) : Option Value → TM → Prop := fun r M' => r = some (.int a) ∧ ∃ f f2, M' = putA (sc M f f2) 31 0 S
theorem Pa_id {a b : Int32} {M : TM} {S : SS} (h : a = b) (hS : S = M 31 0) : Pa b M S (some (.int a)) M := ⟨by rw [h], by rw [hS, putA_id]⟩
def aWrites (s : SS) (k i d c : Int32) : Int32 := if ((0 ≤ k ∧ k ≤ 5) ∧ (0 ≤ i ∧ i ≤ 99) ∧ (0 ≤ d ∧ d ≤ 9999) ∧ (0 ≤ c ∧ c ≤ 5)) then (if s 0 = 10 then FULLc else s 0) else BADc
def sWrites (s : SS) (k i d c : Int32) : SS := if ((0 ≤ k ∧ k ≤ 5) ∧ (0 ≤ i ∧ i ≤ 99) ∧ (0 ≤ d ∧ d ≤ 9999) ∧ (0 ≤ c ∧ c ≤ 5)) ∧ ¬ s 0 = 10 then cmF s k i d c else s
set_option maxRecDepth 100000 in
set_option maxHeartbeats 4000000 in
theorem c6_writes {g : GT} (M : TM) (k i d c : Int32) (s : SS) (hs : M 31 0 = s) (hW : WK s) : Cn g yX6_writes cX6_writes 5 (some .int) 2 [.ref (gad g 6 0), .int k, .int i, .int d, .int c] M (Pa (aWrites s k i d c) M (sWrites s k i d c)) := by
  refine Cn.ofTR (by decide +kernel) (Nat.le_of_ble_eq_true rfl) ?_
  subst hs
  have hW0 := hW
  obtain ⟨⟨hn, hn10⟩, hr, hc, hm, ht⟩ := hW
  refine q_iload_n 1 dX6_writes_0 rfl rfl ?_
  refine q_i2l 2 dX6_writes_1 rfl ?_
  refine q_lconst (v := 0) 3 dX6_writes_2 rfl rfl ?_
  refine q_ldc2 6 dX6_writes_3 rfl cl_X6_70 ?_
  refine q_callSt 9 dX6_writes_6 rfl (c6_isIn' _ _ (0) (5) _ _) cw_X6_65 rfl rfl ⟨by decide, by decide⟩ ⟨by decide, by decide⟩ (Nat.le_of_ble_eq_true rfl) ?_
  refine q_if_eq 44 12 dX6_writes_9 rfl rfl (fun h_9 => ?_) (fun h_9 => ?_)
  · skip
    simp only [bI_0, Classical.not_not] at h_9
    refine q_ldc 46 dX6_writes_44 rfl cs_X6_110 ?_
    refine q_iret dX6_writes_46 ?_
    unfold aWrites sWrites
    exact Pa_id (by rw [if_neg (fun q => by first | exact h_9 q.1 | exact h_21 q.2.1 | exact h_33 q.2.2.1 | exact h_41 q.2.2.2)]) (if_neg (fun q => by first | exact h_9 q.1.1 | exact h_21 q.1.2.1 | exact h_33 q.1.2.2.1 | exact h_41 q.1.2.2.2))
  · skip
    simp only [bI_0, Classical.not_not] at h_9
    refine q_iload_n 13 dX6_writes_12 rfl rfl ?_
    refine q_i2l 14 dX6_writes_13 rfl ?_
    refine q_lconst (v := 0) 15 dX6_writes_14 rfl rfl ?_
    refine q_ldc2 18 dX6_writes_15 rfl cl_X6_102 ?_
    refine q_callSt 21 dX6_writes_18 rfl (c6_isIn' _ _ (0) (99) _ _) cw_X6_65 rfl rfl ⟨by decide, by decide⟩ ⟨by decide, by decide⟩ (Nat.le_of_ble_eq_true rfl) ?_
    refine q_if_eq 44 24 dX6_writes_21 rfl rfl (fun h_21 => ?_) (fun h_21 => ?_)
    · skip
      simp only [bI_0, Classical.not_not] at h_21
      refine q_ldc 46 dX6_writes_44 rfl cs_X6_110 ?_
      refine q_iret dX6_writes_46 ?_
      unfold aWrites sWrites
      exact Pa_id (by rw [if_neg (fun q => by first | exact h_9 q.1 | exact h_21 q.2.1 | exact h_33 q.2.2.1 | exact h_41 q.2.2.2)]) (if_neg (fun q => by first | exact h_9 q.1.1 | exact h_21 q.1.2.1 | exact h_33 q.1.2.2.1 | exact h_41 q.1.2.2.2))
    · skip
      simp only [bI_0, Classical.not_not] at h_21
      refine q_iload_n 25 dX6_writes_24 rfl rfl ?_
      refine q_i2l 26 dX6_writes_25 rfl ?_
      refine q_lconst (v := 0) 27 dX6_writes_26 rfl rfl ?_
      refine q_ldc2 30 dX6_writes_27 rfl cl_X6_104 ?_
      refine q_callSt 33 dX6_writes_30 rfl (c6_isIn' _ _ (0) (9999) _ _) cw_X6_65 rfl rfl ⟨by decide, by decide⟩ ⟨by decide, by decide⟩ (Nat.le_of_ble_eq_true rfl) ?_
      refine q_if_eq 44 36 dX6_writes_33 rfl rfl (fun h_33 => ?_) (fun h_33 => ?_)
      · skip
        simp only [bI_0, Classical.not_not] at h_33
        refine q_ldc 46 dX6_writes_44 rfl cs_X6_110 ?_
        refine q_iret dX6_writes_46 ?_
        unfold aWrites sWrites
        exact Pa_id (by rw [if_neg (fun q => by first | exact h_9 q.1 | exact h_21 q.2.1 | exact h_33 q.2.2.1 | exact h_41 q.2.2.2)]) (if_neg (fun q => by first | exact h_9 q.1.1 | exact h_21 q.1.2.1 | exact h_33 q.1.2.2.1 | exact h_41 q.1.2.2.2))
      · skip
        simp only [bI_0, Classical.not_not] at h_33
        refine q_iload 38 dX6_writes_36 rfl rfl ?_
        refine q_callSt 41 dX6_writes_38 rfl (c6_isCell _ _) cw_X6_106 rfl rfl ⟨by decide, by decide⟩ ⟨by decide, by decide⟩ (Nat.le_of_ble_eq_true rfl) ?_
        refine q_if_ne 47 44 dX6_writes_41 rfl rfl (fun h_41 => ?_) (fun h_41 => ?_)
        · skip
          simp only [bI_0, Classical.not_not] at h_41
          refine q_aload_n 48 dX6_writes_47 rfl rfl ?_
          refine q_getR 51 dX6_writes_48 rfl fl_X6_7 (by decide) rfl rfl ?_
          refine q_iconst (v := 0) 52 dX6_writes_51 rfl rfl ?_
          refine q_iald 53 dX6_writes_52 rfl (by decide) (by decide) rfl (by decide) ?_
          refine q_bipush (v := 10) 55 dX6_writes_53 rfl rfl ?_
          refine q_icmp_ne 61 58 dX6_writes_55 rfl rfl (fun h_55 => ?_) (fun h_55 => ?_)
          · skip
            have h9 : nN (M 31 0) < 10 := Nat.lt_of_le_of_ne hn10 (fun q => h_55 (by show M 31 0 0 = 10; rw [hn, q]; rfl))
            refine q_aload_n 62 dX6_writes_61 rfl rfl ?_
            refine q_iload_n 63 dX6_writes_62 rfl rfl ?_
            refine q_iload_n 64 dX6_writes_63 rfl rfl ?_
            refine q_iload_n 65 dX6_writes_64 rfl rfl ?_
            refine q_iload 67 dX6_writes_65 rfl rfl ?_
            refine q_callVv 70 dX6_writes_67 rfl (c6_comes _ _ _ _ _ (M 31 0) (by rfl) hn h9) cw_X6_112 (by decide) rfl rfl ⟨by decide, by decide⟩ ⟨by decide, by decide⟩ (Nat.le_of_ble_eq_true rfl) ?_
            refine q_aload_n 71 dX6_writes_70 rfl rfl ?_
            refine q_getR 74 dX6_writes_71 rfl fl_X6_7 (by decide) rfl rfl ?_
            refine q_iconst (v := 0) 75 dX6_writes_74 rfl rfl ?_
            refine q_iald 76 dX6_writes_75 rfl (by decide) (by decide) rfl (by decide) ?_
            refine q_iconst (v := 1) 77 dX6_writes_76 rfl rfl ?_
            refine q_isub 78 dX6_writes_77 rfl ?_
            refine q_iret dX6_writes_78 ?_
            unfold aWrites sWrites
            rw [if_pos ⟨h_9, h_21, h_33, h_41⟩, if_neg h_55, if_pos ⟨⟨h_9, h_21, h_33, h_41⟩, h_55⟩]
            refine ⟨congrArg (fun x => some (Value.int x)) ?_, rfl⟩
            show cmF (M 31 0) k i d c 0 - 1 = M 31 0 0
            rw [cmF_0, hn, nI_1, nI_pred]
          · skip
            refine q_ldc 60 dX6_writes_58 rfl cs_X6_111 ?_
            refine q_iret dX6_writes_60 ?_
            unfold aWrites sWrites
            refine Pa_id ?_ (if_neg (fun q => q.2 h_55))
            rw [if_pos ⟨h_9, h_21, h_33, h_41⟩, if_pos h_55]
        · skip
          simp only [bI_0, Classical.not_not] at h_41
          refine q_ldc 46 dX6_writes_44 rfl cs_X6_110 ?_
          refine q_iret dX6_writes_46 ?_
          unfold aWrites sWrites
          exact Pa_id (by rw [if_neg (fun q => by first | exact h_9 q.1 | exact h_21 q.2.1 | exact h_33 q.2.2.1 | exact h_41 q.2.2.2)]) (if_neg (fun q => by first | exact h_9 q.1.1 | exact h_21 q.1.2.1 | exact h_33 q.1.2.2.1 | exact h_41 q.1.2.2.2))
def aTold (s : SS) (m w : Int32) : Int32 := if isM s m ∧ (0 ≤ w ∧ w ≤ 8) then (if w = 5 then shF s (tn m) else if w = 6 then siF s (tn m) else if w = 7 then faF (mk s (tn m) 0) else if w = 8 then woF (mk s (tn m) 0) (mk s (tn m) 1) (mk s (tn m) 4) else mk s (tn m) (tn w)) else BADc
set_option maxRecDepth 100000 in
set_option maxHeartbeats 4000000 in
theorem c6_told {g : GT} (M : TM) (m w : Int32) (s : SS) (hs : M 31 0 = s) (hW : WK s) : Cn g yX6_told cX6_told 3 (some .int) 4 [.ref (gad g 6 0), .int m, .int w] M (Rs (.int (aTold s m w)) M) := by
  refine Cn.ofTR (by decide +kernel) (Nat.le_of_ble_eq_true rfl) ?_
  subst hs
  have hW0 := hW
  obtain ⟨⟨hn, hn10⟩, hr, hc, hm, ht⟩ := hW
  refine q_aload_n 1 dX6_told_0 rfl rfl ?_
  refine q_iload_n 2 dX6_told_1 rfl rfl ?_
  refine q_callVt 5 dX6_told_2 rfl (c6_isMark _ _) cw_X6_116 (by decide) rfl rfl ⟨by decide, by decide⟩ ⟨by decide, by decide⟩ (Nat.le_of_ble_eq_true rfl) ?_
  refine q_if_eq 20 8 dX6_told_5 rfl rfl (fun h_5 => ?_) (fun h_5 => ?_)
  · skip
    simp only [bI_0, Classical.not_not] at h_5
    refine q_ldc 22 dX6_told_20 rfl cs_X6_110 ?_
    refine q_iret dX6_told_22 ?_
    refine ⟨?_, _, _, (sc_id M).symm⟩
    unfold aTold
    rw [if_neg (fun q => by first | exact h_5 q.1 | exact h_17 q.2)]
  · skip
    simp only [bI_0, Classical.not_not] at h_5
    refine q_iload_n 9 dX6_told_8 rfl rfl ?_
    refine q_i2l 10 dX6_told_9 rfl ?_
    refine q_lconst (v := 0) 11 dX6_told_10 rfl rfl ?_
    refine q_ldc2 14 dX6_told_11 rfl cl_X6_119 ?_
    refine q_callSt 17 dX6_told_14 rfl (c6_isIn' _ _ (0) (8) _ _) cw_X6_65 rfl rfl ⟨by decide, by decide⟩ ⟨by decide, by decide⟩ (Nat.le_of_ble_eq_true rfl) ?_
    refine q_if_ne 23 20 dX6_told_17 rfl rfl (fun h_17 => ?_) (fun h_17 => ?_)
    · skip
      simp only [bI_0, Classical.not_not] at h_17
      obtain ⟨em, lm⟩ := isM_nat hn hn10 h_5
      refine q_iload_n 24 dX6_told_23 rfl rfl ?_
      by_cases hs_24_5 : w = (5 : Int32)
      · skip
        refine q_tab 56 dX6_told_24 rfl (sw_eq hs_24_5 rfl) rfl ?_
        refine q_aload_n 57 dX6_told_56 rfl rfl ?_
        refine q_iload_n 58 dX6_told_57 rfl rfl ?_
        refine q_callV 61 dX6_told_58 rfl (c6_shows _ _ (M 31 0) (by rfl) hW0.m (tn m) em (by omega)) cw_X6_121 (by decide) rfl rfl ⟨by decide, by decide⟩ ⟨by decide, by decide⟩ (Nat.le_of_ble_eq_true rfl) ?_
        rintro _ _ ⟨rfl, f, f2, rfl⟩
        refine q_iret dX6_told_61 ?_
        refine ⟨?_, f, f2, rfl⟩
        unfold aTold
        rw [if_pos ⟨h_5, h_17⟩, if_pos hs_24_5]
      by_cases hs_24_6 : w = (6 : Int32)
      · skip
        refine q_tab 62 dX6_told_24 rfl (sw_eq hs_24_6 rfl) rfl ?_
        refine q_aload_n 63 dX6_told_62 rfl rfl ?_
        refine q_iload_n 64 dX6_told_63 rfl rfl ?_
        refine q_callVt 67 dX6_told_64 rfl (c6_sinks _ _ (M 31 0) (by rfl) (tn m) em (by omega) (hm _ (by omega)).2.2.2.1) cw_X6_124 (by decide) rfl rfl ⟨by decide, by decide⟩ ⟨by decide, by decide⟩ (Nat.le_of_ble_eq_true rfl) ?_
        refine q_iret dX6_told_67 ?_
        refine ⟨?_, _, _, (sc_id M).symm⟩
        unfold aTold
        rw [if_pos ⟨h_5, h_17⟩, if_neg hs_24_5, if_pos hs_24_6]
      by_cases hs_24_7 : w = (7 : Int32)
      · skip
        refine q_tab 68 dX6_told_24 rfl (sw_eq hs_24_7 rfl) rfl ?_
        refine q_aload_n 69 dX6_told_68 rfl rfl ?_
        refine q_iload_n 70 dX6_told_69 rfl rfl ?_
        refine q_callVt 73 dX6_told_70 rfl (c6_fades _ _ (M 31 0) (by rfl) (tn m) em (by omega)) cw_X6_127 (by decide) rfl rfl ⟨by decide, by decide⟩ ⟨by decide, by decide⟩ (Nat.le_of_ble_eq_true rfl) ?_
        refine q_iret dX6_told_73 ?_
        refine ⟨?_, _, _, (sc_id M).symm⟩
        unfold aTold
        rw [if_pos ⟨h_5, h_17⟩, if_neg hs_24_5, if_neg hs_24_6, if_pos hs_24_7]
      by_cases hs_24_8 : w = (8 : Int32)
      · skip
        refine q_tab 74 dX6_told_24 rfl (sw_eq hs_24_8 rfl) rfl ?_
        refine q_aload_n 75 dX6_told_74 rfl rfl ?_
        refine q_iload_n 76 dX6_told_75 rfl rfl ?_
        refine q_callVt 79 dX6_told_76 rfl (c6_worth _ _ (M 31 0) (by rfl) (tn m) em (by omega)) cw_X6_130 (by decide) rfl rfl ⟨by decide, by decide⟩ ⟨by decide, by decide⟩ (Nat.le_of_ble_eq_true rfl) ?_
        refine q_iret dX6_told_79 ?_
        refine ⟨?_, _, _, (sc_id M).symm⟩
        unfold aTold
        rw [if_pos ⟨h_5, h_17⟩, if_neg hs_24_5, if_neg hs_24_6, if_neg hs_24_7, if_pos hs_24_8]
      refine q_tab 80 dX6_told_24 rfl (sw_def [5, 6, 7, 8] (by decide) rfl (by simp only [List.mem_cons, List.not_mem_nil, or_false, not_or]; exact ⟨lv_neT hs_24_5 rfl, lv_neT hs_24_6 rfl, lv_neT hs_24_7 rfl, lv_neT hs_24_8 rfl⟩)) rfl ?_
      refine q_aload_n 81 dX6_told_80 rfl rfl ?_
      refine q_iload_n 82 dX6_told_81 rfl rfl ?_
      refine q_iload_n 83 dX6_told_82 rfl rfl ?_
      refine q_callVt 86 dX6_told_83 rfl (c6_of _ _ _ (tn m) (tn w) em (rg_tn h_17 (n := 8) rfl).1 (by have := (rg_tn h_17 (n := 8) rfl).2; omega)) cw_X6_72 (by decide) rfl rfl ⟨by decide, by decide⟩ ⟨by decide, by decide⟩ (Nat.le_of_ble_eq_true rfl) ?_
      refine q_iret dX6_told_86 ?_
      refine ⟨?_, _, _, (sc_id M).symm⟩
      unfold aTold
      rw [if_pos ⟨h_5, h_17⟩, if_neg hs_24_5, if_neg hs_24_6, if_neg hs_24_7, if_neg hs_24_8]
      rfl
    · skip
      simp only [bI_0, Classical.not_not] at h_17
      refine q_ldc 22 dX6_told_20 rfl cs_X6_110 ?_
      refine q_iret dX6_told_22 ?_
      refine ⟨?_, _, _, (sc_id M).symm⟩
      unfold aTold
      rw [if_neg (fun q => by first | exact h_5 q.1 | exact h_17 q.2)]
def ofP (a b : Int32) : Prop := a = b ∨ b = 0 ∨ (b = 1 ∧ a = 3) ∨ (b = 2 ∧ a = 4)
def aAs (s : SS) (m k : Int32) : Int32 := if isM s m ∧ (0 ≤ k ∧ k ≤ 5) then (if mk s (tn m) 0 = k ∨ k = 0 ∨ (k = 1 ∧ mk s (tn m) 0 = 3) ∨ (k = 2 ∧ mk s (tn m) 0 = 4) then mk s (tn m) 1 else KINDc) else BADc
set_option maxRecDepth 100000 in
set_option maxHeartbeats 4000000 in
theorem c6_as {g : GT} (M : TM) (m k : Int32) (s : SS) (hs : M 31 0 = s) (hW : WK s) : Cn g yX6_as cX6_as 3 (some .int) 2 [.ref (gad g 6 0), .int m, .int k] M (Rt (.int (aAs s m k)) M) := by
  refine Cn.ofTR (by decide +kernel) (Nat.le_of_ble_eq_true rfl) ?_
  subst hs
  have hW0 := hW
  obtain ⟨⟨hn, hn10⟩, hr, hc, hm, ht⟩ := hW
  refine q_aload_n 1 dX6_as_0 rfl rfl ?_
  refine q_iload_n 2 dX6_as_1 rfl rfl ?_
  refine q_callVt 5 dX6_as_2 rfl (c6_isMark _ _) cw_X6_116 (by decide) rfl rfl ⟨by decide, by decide⟩ ⟨by decide, by decide⟩ (Nat.le_of_ble_eq_true rfl) ?_
  refine q_if_eq 20 8 dX6_as_5 rfl rfl (fun h_5 => ?_) (fun h_5 => ?_)
  · skip
    simp only [bI_0, Classical.not_not] at h_5
    refine q_ldc 22 dX6_as_20 rfl cs_X6_110 ?_
    refine q_iret dX6_as_22 ?_
    refine ⟨congrArg (fun x => some (Value.int x)) ?_, rfl⟩
    unfold aAs mk
    first | rw [if_neg (fun q => by first | exact h_5 q.1 | exact h_17 q.2)] | (rw [if_pos ⟨h_5, h_17⟩, if_pos (show _ from h_33)] <;> rfl) | (rw [if_pos ⟨h_5, h_17⟩, if_neg (show ¬ _ from h_33)] <;> rfl)
  · skip
    simp only [bI_0, Classical.not_not] at h_5
    refine q_iload_n 9 dX6_as_8 rfl rfl ?_
    refine q_i2l 10 dX6_as_9 rfl ?_
    refine q_lconst (v := 0) 11 dX6_as_10 rfl rfl ?_
    refine q_ldc2 14 dX6_as_11 rfl cl_X6_70 ?_
    refine q_callSt 17 dX6_as_14 rfl (c6_isIn' _ _ (0) (5) _ _) cw_X6_65 rfl rfl ⟨by decide, by decide⟩ ⟨by decide, by decide⟩ (Nat.le_of_ble_eq_true rfl) ?_
    refine q_if_ne 23 20 dX6_as_17 rfl rfl (fun h_17 => ?_) (fun h_17 => ?_)
    · skip
      simp only [bI_0, Classical.not_not] at h_17
      obtain ⟨em, lm⟩ := isM_nat hn hn10 h_5
      refine q_aload_n 24 dX6_as_23 rfl rfl ?_
      refine q_iload_n 25 dX6_as_24 rfl rfl ?_
      refine q_iconst (v := 0) 26 dX6_as_25 rfl rfl ?_
      refine q_callVt 29 dX6_as_26 rfl (c6_of _ _ _ (tn m) 0 em rfl (by omega)) cw_X6_72 (by decide) rfl rfl ⟨by decide, by decide⟩ ⟨by decide, by decide⟩ (Nat.le_of_ble_eq_true rfl) ?_
      refine q_iload_n 30 dX6_as_29 rfl rfl ?_
      refine q_callSt 33 dX6_as_30 rfl (c6_isOf _ _ _) cw_X6_133 rfl rfl ⟨by decide, by decide⟩ ⟨by decide, by decide⟩ (Nat.le_of_ble_eq_true rfl) ?_
      refine q_if_eq 45 36 dX6_as_33 rfl rfl (fun h_33 => ?_) (fun h_33 => ?_)
      · skip
        simp only [bI_0, Classical.not_not] at h_33
        refine q_ldc 47 dX6_as_45 rfl cs_X6_137 ?_
        refine q_iret dX6_as_47 ?_
        refine ⟨congrArg (fun x => some (Value.int x)) ?_, rfl⟩
        unfold aAs mk
        first | rw [if_neg (fun q => by first | exact h_5 q.1 | exact h_17 q.2)] | (rw [if_pos ⟨h_5, h_17⟩, if_pos (show _ from h_33)] <;> rfl) | (rw [if_pos ⟨h_5, h_17⟩, if_neg (show ¬ _ from h_33)] <;> rfl)
      · skip
        simp only [bI_0, Classical.not_not] at h_33
        refine q_aload_n 37 dX6_as_36 rfl rfl ?_
        refine q_iload_n 38 dX6_as_37 rfl rfl ?_
        refine q_iconst (v := 1) 39 dX6_as_38 rfl rfl ?_
        refine q_callVt 42 dX6_as_39 rfl (c6_of _ _ _ (tn m) 1 em rfl (by omega)) cw_X6_72 (by decide) rfl rfl ⟨by decide, by decide⟩ ⟨by decide, by decide⟩ (Nat.le_of_ble_eq_true rfl) ?_
        refine q_goto 47 dX6_as_42 rfl ?_
        refine q_iret dX6_as_47 ?_
        refine ⟨congrArg (fun x => some (Value.int x)) ?_, rfl⟩
        unfold aAs mk
        first | rw [if_neg (fun q => by first | exact h_5 q.1 | exact h_17 q.2)] | (rw [if_pos ⟨h_5, h_17⟩, if_pos (show _ from h_33)] <;> rfl) | (rw [if_pos ⟨h_5, h_17⟩, if_neg (show ¬ _ from h_33)] <;> rfl)
    · skip
      simp only [bI_0, Classical.not_not] at h_17
      refine q_ldc 22 dX6_as_20 rfl cs_X6_110 ?_
      refine q_iret dX6_as_22 ?_
      refine ⟨congrArg (fun x => some (Value.int x)) ?_, rfl⟩
      unfold aAs mk
      first | rw [if_neg (fun q => by first | exact h_5 q.1 | exact h_17 q.2)] | (rw [if_pos ⟨h_5, h_17⟩, if_pos (show _ from h_33)] <;> rfl) | (rw [if_pos ⟨h_5, h_17⟩, if_neg (show ¬ _ from h_33)] <;> rfl)
def aTurns (s : SS) (m k : Int32) : Int32 := if isM s m ∧ (0 ≤ k ∧ k ≤ 5) then mk s (tn m) 0 else BADc
def sTurns (s : SS) (m k : Int32) : SS := if isM s m ∧ (0 ≤ k ∧ k ≤ 5) then upd s (21 + 5 * tn m + 0) k else s
theorem ix_o1 {a : Nat} {x : Int32} (hx : x = nI a) : 21 + 5 * x = nI (21 + 5 * a + 0) := by
  subst hx; rw [show (21 : Int32) = nI 21 from rfl, show (5 : Int32) = nI 5 from rfl, pk_mul, nI_add, Nat.add_zero]
set_option maxRecDepth 100000 in
set_option maxHeartbeats 4000000 in
theorem c6_turns {g : GT} (M : TM) (m k : Int32) (s : SS) (hs : M 31 0 = s) (hW : WK s) : Cn g yX6_turns cX6_turns 3 (some .int) 2 [.ref (gad g 6 0), .int m, .int k] M (Pa (aTurns s m k) M (sTurns s m k)) := by
  refine Cn.ofTR (by decide +kernel) (Nat.le_of_ble_eq_true rfl) ?_
  subst hs
  have hW0 := hW
  obtain ⟨⟨hn, hn10⟩, hr, hc, hm, ht⟩ := hW
  refine q_aload_n 1 dX6_turns_0 rfl rfl ?_
  refine q_iload_n 2 dX6_turns_1 rfl rfl ?_
  refine q_callVt 5 dX6_turns_2 rfl (c6_isMark _ _) cw_X6_116 (by decide) rfl rfl ⟨by decide, by decide⟩ ⟨by decide, by decide⟩ (Nat.le_of_ble_eq_true rfl) ?_
  refine q_if_eq 34 8 dX6_turns_5 rfl rfl (fun h_5 => ?_) (fun h_5 => ?_)
  · skip
    simp only [bI_0, Classical.not_not] at h_5
    refine q_ldc 36 dX6_turns_34 rfl cs_X6_110 ?_
    refine q_iret dX6_turns_36 ?_
    unfold aTurns sTurns
    first | exact Pa_id (by rw [if_neg (fun q => by first | exact h_5 q.1 | exact h_17 q.2)]) (if_neg (fun q => by first | exact h_5 q.1 | exact h_17 q.2)) | (rw [if_pos ⟨h_5, h_17⟩, if_pos ⟨h_5, h_17⟩]; exact ⟨rfl, rfl⟩)
  · skip
    simp only [bI_0, Classical.not_not] at h_5
    refine q_iload_n 9 dX6_turns_8 rfl rfl ?_
    refine q_i2l 10 dX6_turns_9 rfl ?_
    refine q_lconst (v := 0) 11 dX6_turns_10 rfl rfl ?_
    refine q_ldc2 14 dX6_turns_11 rfl cl_X6_70 ?_
    refine q_callSt 17 dX6_turns_14 rfl (c6_isIn' _ _ (0) (5) _ _) cw_X6_65 rfl rfl ⟨by decide, by decide⟩ ⟨by decide, by decide⟩ (Nat.le_of_ble_eq_true rfl) ?_
    refine q_if_eq 34 20 dX6_turns_17 rfl rfl (fun h_17 => ?_) (fun h_17 => ?_)
    · skip
      simp only [bI_0, Classical.not_not] at h_17
      refine q_ldc 36 dX6_turns_34 rfl cs_X6_110 ?_
      refine q_iret dX6_turns_36 ?_
      unfold aTurns sTurns
      first | exact Pa_id (by rw [if_neg (fun q => by first | exact h_5 q.1 | exact h_17 q.2)]) (if_neg (fun q => by first | exact h_5 q.1 | exact h_17 q.2)) | (rw [if_pos ⟨h_5, h_17⟩, if_pos ⟨h_5, h_17⟩]; exact ⟨rfl, rfl⟩)
    · skip
      simp only [bI_0, Classical.not_not] at h_17
      obtain ⟨em, lm⟩ := isM_nat hn hn10 h_5
      refine q_aload_n 21 dX6_turns_20 rfl rfl ?_
      refine q_bipush (v := 21) 23 dX6_turns_21 rfl rfl ?_
      refine q_iconst (v := 5) 24 dX6_turns_23 rfl rfl ?_
      refine q_iload_n 25 dX6_turns_24 rfl rfl ?_
      refine q_imul 26 dX6_turns_25 rfl ?_
      refine q_iadd 27 dX6_turns_26 rfl ?_
      refine q_iload_n 28 dX6_turns_27 rfl rfl ?_
      refine q_callVt 31 dX6_turns_28 rfl (c6_changes _ _ _ (21 + 5 * tn m + 0) (ix_o1 em) (by omega)) cw_X6_138 (by decide) rfl rfl ⟨by decide, by decide⟩ ⟨by decide, by decide⟩ (Nat.le_of_ble_eq_true rfl) ?_
      refine q_goto 36 dX6_turns_31 rfl ?_
      refine q_iret dX6_turns_36 ?_
      unfold aTurns sTurns
      first | exact Pa_id (by rw [if_neg (fun q => by first | exact h_5 q.1 | exact h_17 q.2)]) (if_neg (fun q => by first | exact h_5 q.1 | exact h_17 q.2)) | (rw [if_pos ⟨h_5, h_17⟩, if_pos ⟨h_5, h_17⟩]; exact ⟨rfl, rfl⟩)
def aSet (s : SS) (m w v : Int32) : Int32 := if (isM s m ∧ (1 ≤ w ∧ w ≤ 4) ∧ (0 ≤ v ∧ v ≤ (if w = 1 then 99 else if w = 3 then 5 else 9999))) then mk s (tn m) (tn w) else BADc
def sSet (s : SS) (m w v : Int32) : SS := if (isM s m ∧ (1 ≤ w ∧ w ≤ 4) ∧ (0 ≤ v ∧ v ≤ (if w = 1 then 99 else if w = 3 then 5 else 9999))) then upd s (21 + 5 * tn m + tn w) v else s
set_option maxRecDepth 100000 in
set_option maxHeartbeats 4000000 in
theorem c6_set {g : GT} (M : TM) (m w v : Int32) (s : SS) (hs : M 31 0 = s) (hW : WK s) : Cn g yX6_set cX6_set 5 (some .int) 2 [.ref (gad g 6 0), .int m, .int w, .int v] M (Pa (aSet s m w v) M (sSet s m w v)) := by
  refine Cn.ofTR (by decide +kernel) (Nat.le_of_ble_eq_true rfl) ?_
  subst hs
  have hW0 := hW
  obtain ⟨⟨hn, hn10⟩, hr, hc, hm, ht⟩ := hW
  refine q_aload_n 1 dX6_set_0 rfl rfl ?_
  refine q_iload_n 2 dX6_set_1 rfl rfl ?_
  refine q_callVt 5 dX6_set_2 rfl (c6_isMark _ _) cw_X6_116 (by decide) rfl rfl ⟨by decide, by decide⟩ ⟨by decide, by decide⟩ (Nat.le_of_ble_eq_true rfl) ?_
  refine q_if_eq 58 8 dX6_set_5 rfl rfl (fun h_5 => ?_) (fun h_5 => ?_)
  · skip
    simp only [bI_0, Classical.not_not] at h_5
    refine q_iconst (v := 0) 59 dX6_set_58 rfl rfl ?_
    refine q_istore 61 dX6_set_59 rfl (by decide) rfl ?_
    refine q_iload 63 dX6_set_61 rfl rfl ?_
    refine q_if_eq 82 66 dX6_set_63 rfl rfl (fun _ => ?_) (fun h_63 => absurd (by decide) h_63)
    refine q_ldc 84 dX6_set_82 rfl cs_X6_110 ?_
    refine q_iret dX6_set_84 ?_
    unfold aSet sSet
    first | exact absurd h_63 (by decide) | exact absurd rfl h_63 | exact Pa_id (by rw [if_neg (fun q => by first | exact h_5 q.1 | exact h_17 q.2.1 | exact h_51 (by simpa [h_25] using q.2.2) | exact h_51 (by simpa [h_25, h_36] using q.2.2))]) (if_neg (fun q => by first | exact h_5 q.1 | exact h_17 q.2.1 | exact h_51 (by simpa [h_25] using q.2.2) | exact h_51 (by simpa [h_25, h_36] using q.2.2))) | (rw [if_pos ⟨h_5, h_17, by first | simpa [h_25] using h_51 | simpa [h_25, h_36] using h_51⟩, if_pos ⟨h_5, h_17, by first | simpa [h_25] using h_51 | simpa [h_25, h_36] using h_51⟩]; exact ⟨rfl, rfl⟩) | exact absurd h_63 (by decide) | exact absurd rfl h_63
  · skip
    simp only [bI_0, Classical.not_not] at h_5
    refine q_iload_n 9 dX6_set_8 rfl rfl ?_
    refine q_i2l 10 dX6_set_9 rfl ?_
    refine q_lconst (v := 1) 11 dX6_set_10 rfl rfl ?_
    refine q_ldc2 14 dX6_set_11 rfl cl_X6_141 ?_
    refine q_callSt 17 dX6_set_14 rfl (c6_isIn' _ _ (1) (4) _ _) cw_X6_65 rfl rfl ⟨by decide, by decide⟩ ⟨by decide, by decide⟩ (Nat.le_of_ble_eq_true rfl) ?_
    refine q_if_eq 58 20 dX6_set_17 rfl rfl (fun h_17 => ?_) (fun h_17 => ?_)
    · skip
      simp only [bI_0, Classical.not_not] at h_17
      refine q_iconst (v := 0) 59 dX6_set_58 rfl rfl ?_
      refine q_istore 61 dX6_set_59 rfl (by decide) rfl ?_
      refine q_iload 63 dX6_set_61 rfl rfl ?_
      refine q_if_eq 82 66 dX6_set_63 rfl rfl (fun _ => ?_) (fun h_63 => absurd (by decide) h_63)
      refine q_ldc 84 dX6_set_82 rfl cs_X6_110 ?_
      refine q_iret dX6_set_84 ?_
      unfold aSet sSet
      first | exact absurd h_63 (by decide) | exact absurd rfl h_63 | exact Pa_id (by rw [if_neg (fun q => by first | exact h_5 q.1 | exact h_17 q.2.1 | exact h_51 (by simpa [h_25] using q.2.2) | exact h_51 (by simpa [h_25, h_36] using q.2.2))]) (if_neg (fun q => by first | exact h_5 q.1 | exact h_17 q.2.1 | exact h_51 (by simpa [h_25] using q.2.2) | exact h_51 (by simpa [h_25, h_36] using q.2.2))) | (rw [if_pos ⟨h_5, h_17, by first | simpa [h_25] using h_51 | simpa [h_25, h_36] using h_51⟩, if_pos ⟨h_5, h_17, by first | simpa [h_25] using h_51 | simpa [h_25, h_36] using h_51⟩]; exact ⟨rfl, rfl⟩) | exact absurd h_63 (by decide) | exact absurd rfl h_63
    · skip
      simp only [bI_0, Classical.not_not] at h_17
      obtain ⟨em, lm⟩ := isM_nat hn hn10 h_5
      obtain ⟨ew, lw⟩ := rg_tn (x := w) (hi := 4) (n := 4) ⟨Int32.le_trans (by decide) h_17.1, h_17.2⟩ rfl
      refine q_iload_n 21 dX6_set_20 rfl rfl ?_
      refine q_i2l 22 dX6_set_21 rfl ?_
      refine q_lconst (v := 0) 23 dX6_set_22 rfl rfl ?_
      refine q_iload_n 24 dX6_set_23 rfl rfl ?_
      refine q_iconst (v := 1) 25 dX6_set_24 rfl rfl ?_
      refine q_icmp_ne 34 28 dX6_set_25 rfl rfl (fun h_25 => ?_) (fun h_25 => ?_)
      · skip
        refine q_iload_n 35 dX6_set_34 rfl rfl ?_
        refine q_iconst (v := 3) 36 dX6_set_35 rfl rfl ?_
        refine q_icmp_ne 45 39 dX6_set_36 rfl rfl (fun h_36 => ?_) (fun h_36 => ?_)
        · skip
          refine q_ldc2 48 dX6_set_45 rfl cl_X6_104 ?_
          refine q_callSt 51 dX6_set_48 rfl (c6_isIn' _ _ (0) (9999) _ _) cw_X6_65 rfl rfl ⟨by decide, by decide⟩ ⟨by decide, by decide⟩ (Nat.le_of_ble_eq_true rfl) ?_
          refine q_if_eq 58 54 dX6_set_51 rfl rfl (fun h_51 => ?_) (fun h_51 => ?_)
          · skip
            simp only [bI_0, Classical.not_not] at h_51
            refine q_iconst (v := 0) 59 dX6_set_58 rfl rfl ?_
            refine q_istore 61 dX6_set_59 rfl (by decide) rfl ?_
            refine q_iload 63 dX6_set_61 rfl rfl ?_
            refine q_if_eq 82 66 dX6_set_63 rfl rfl (fun _ => ?_) (fun h_63 => absurd (by decide) h_63)
            refine q_ldc 84 dX6_set_82 rfl cs_X6_110 ?_
            refine q_iret dX6_set_84 ?_
            unfold aSet sSet
            first | exact absurd h_63 (by decide) | exact absurd rfl h_63 | exact Pa_id (by rw [if_neg (fun q => by first | exact h_5 q.1 | exact h_17 q.2.1 | exact h_51 (by simpa [h_25] using q.2.2) | exact h_51 (by simpa [h_25, h_36] using q.2.2))]) (if_neg (fun q => by first | exact h_5 q.1 | exact h_17 q.2.1 | exact h_51 (by simpa [h_25] using q.2.2) | exact h_51 (by simpa [h_25, h_36] using q.2.2))) | (rw [if_pos ⟨h_5, h_17, by first | simpa [h_25] using h_51 | simpa [h_25, h_36] using h_51⟩, if_pos ⟨h_5, h_17, by first | simpa [h_25] using h_51 | simpa [h_25, h_36] using h_51⟩]; exact ⟨rfl, rfl⟩) | exact absurd h_63 (by decide) | exact absurd rfl h_63
          · skip
            simp only [bI_0, Classical.not_not] at h_51
            refine q_iconst (v := 1) 55 dX6_set_54 rfl rfl ?_
            refine q_goto 59 dX6_set_55 rfl ?_
            refine q_istore 61 dX6_set_59 rfl (by decide) rfl ?_
            refine q_iload 63 dX6_set_61 rfl rfl ?_
            refine q_if_eq 82 66 dX6_set_63 rfl rfl (fun h_63 => absurd h_63 (by decide)) (fun _ => ?_)
            refine q_aload_n 67 dX6_set_66 rfl rfl ?_
            refine q_bipush (v := 21) 69 dX6_set_67 rfl rfl ?_
            refine q_iconst (v := 5) 70 dX6_set_69 rfl rfl ?_
            refine q_iload_n 71 dX6_set_70 rfl rfl ?_
            refine q_imul 72 dX6_set_71 rfl ?_
            refine q_iadd 73 dX6_set_72 rfl ?_
            refine q_iload_n 74 dX6_set_73 rfl rfl ?_
            refine q_iadd 75 dX6_set_74 rfl ?_
            refine q_iload_n 76 dX6_set_75 rfl rfl ?_
            refine q_callVt 79 dX6_set_76 rfl (c6_changes _ _ _ (21 + 5 * tn m + tn w) (ix_of em ew) (by omega)) cw_X6_138 (by decide) rfl rfl ⟨by decide, by decide⟩ ⟨by decide, by decide⟩ (Nat.le_of_ble_eq_true rfl) ?_
            refine q_goto 84 dX6_set_79 rfl ?_
            refine q_iret dX6_set_84 ?_
            unfold aSet sSet
            first | exact absurd h_63 (by decide) | exact absurd rfl h_63 | exact Pa_id (by rw [if_neg (fun q => by first | exact h_5 q.1 | exact h_17 q.2.1 | exact h_51 (by simpa [h_25] using q.2.2) | exact h_51 (by simpa [h_25, h_36] using q.2.2))]) (if_neg (fun q => by first | exact h_5 q.1 | exact h_17 q.2.1 | exact h_51 (by simpa [h_25] using q.2.2) | exact h_51 (by simpa [h_25, h_36] using q.2.2))) | (rw [if_pos ⟨h_5, h_17, by first | simpa [h_25] using h_51 | simpa [h_25, h_36] using h_51⟩, if_pos ⟨h_5, h_17, by first | simpa [h_25] using h_51 | simpa [h_25, h_36] using h_51⟩]; exact ⟨rfl, rfl⟩) | exact absurd h_63 (by decide) | exact absurd rfl h_63
        · skip
          refine q_ldc2 42 dX6_set_39 rfl cl_X6_70 ?_
          refine q_goto 48 dX6_set_42 rfl ?_
          refine q_callSt 51 dX6_set_48 rfl (c6_isIn' _ _ (0) (5) _ _) cw_X6_65 rfl rfl ⟨by decide, by decide⟩ ⟨by decide, by decide⟩ (Nat.le_of_ble_eq_true rfl) ?_
          refine q_if_eq 58 54 dX6_set_51 rfl rfl (fun h_51 => ?_) (fun h_51 => ?_)
          · skip
            simp only [bI_0, Classical.not_not] at h_51
            refine q_iconst (v := 0) 59 dX6_set_58 rfl rfl ?_
            refine q_istore 61 dX6_set_59 rfl (by decide) rfl ?_
            refine q_iload 63 dX6_set_61 rfl rfl ?_
            refine q_if_eq 82 66 dX6_set_63 rfl rfl (fun _ => ?_) (fun h_63 => absurd (by decide) h_63)
            refine q_ldc 84 dX6_set_82 rfl cs_X6_110 ?_
            refine q_iret dX6_set_84 ?_
            unfold aSet sSet
            first | exact absurd h_63 (by decide) | exact absurd rfl h_63 | exact Pa_id (by rw [if_neg (fun q => by first | exact h_5 q.1 | exact h_17 q.2.1 | exact h_51 (by simpa [h_25] using q.2.2) | exact h_51 (by simpa [h_25, h_36] using q.2.2))]) (if_neg (fun q => by first | exact h_5 q.1 | exact h_17 q.2.1 | exact h_51 (by simpa [h_25] using q.2.2) | exact h_51 (by simpa [h_25, h_36] using q.2.2))) | (rw [if_pos ⟨h_5, h_17, by first | simpa [h_25] using h_51 | simpa [h_25, h_36] using h_51⟩, if_pos ⟨h_5, h_17, by first | simpa [h_25] using h_51 | simpa [h_25, h_36] using h_51⟩]; exact ⟨rfl, rfl⟩) | exact absurd h_63 (by decide) | exact absurd rfl h_63
          · skip
            simp only [bI_0, Classical.not_not] at h_51
            refine q_iconst (v := 1) 55 dX6_set_54 rfl rfl ?_
            refine q_goto 59 dX6_set_55 rfl ?_
            refine q_istore 61 dX6_set_59 rfl (by decide) rfl ?_
            refine q_iload 63 dX6_set_61 rfl rfl ?_
            refine q_if_eq 82 66 dX6_set_63 rfl rfl (fun h_63 => absurd h_63 (by decide)) (fun _ => ?_)
            refine q_aload_n 67 dX6_set_66 rfl rfl ?_
            refine q_bipush (v := 21) 69 dX6_set_67 rfl rfl ?_
            refine q_iconst (v := 5) 70 dX6_set_69 rfl rfl ?_
            refine q_iload_n 71 dX6_set_70 rfl rfl ?_
            refine q_imul 72 dX6_set_71 rfl ?_
            refine q_iadd 73 dX6_set_72 rfl ?_
            refine q_iload_n 74 dX6_set_73 rfl rfl ?_
            refine q_iadd 75 dX6_set_74 rfl ?_
            refine q_iload_n 76 dX6_set_75 rfl rfl ?_
            refine q_callVt 79 dX6_set_76 rfl (c6_changes _ _ _ (21 + 5 * tn m + tn w) (ix_of em ew) (by omega)) cw_X6_138 (by decide) rfl rfl ⟨by decide, by decide⟩ ⟨by decide, by decide⟩ (Nat.le_of_ble_eq_true rfl) ?_
            refine q_goto 84 dX6_set_79 rfl ?_
            refine q_iret dX6_set_84 ?_
            unfold aSet sSet
            first | exact absurd h_63 (by decide) | exact absurd rfl h_63 | exact Pa_id (by rw [if_neg (fun q => by first | exact h_5 q.1 | exact h_17 q.2.1 | exact h_51 (by simpa [h_25] using q.2.2) | exact h_51 (by simpa [h_25, h_36] using q.2.2))]) (if_neg (fun q => by first | exact h_5 q.1 | exact h_17 q.2.1 | exact h_51 (by simpa [h_25] using q.2.2) | exact h_51 (by simpa [h_25, h_36] using q.2.2))) | (rw [if_pos ⟨h_5, h_17, by first | simpa [h_25] using h_51 | simpa [h_25, h_36] using h_51⟩, if_pos ⟨h_5, h_17, by first | simpa [h_25] using h_51 | simpa [h_25, h_36] using h_51⟩]; exact ⟨rfl, rfl⟩) | exact absurd h_63 (by decide) | exact absurd rfl h_63
      · skip
        refine q_ldc2 31 dX6_set_28 rfl cl_X6_102 ?_
        refine q_goto 48 dX6_set_31 rfl ?_
        refine q_callSt 51 dX6_set_48 rfl (c6_isIn' _ _ (0) (99) _ _) cw_X6_65 rfl rfl ⟨by decide, by decide⟩ ⟨by decide, by decide⟩ (Nat.le_of_ble_eq_true rfl) ?_
        refine q_if_eq 58 54 dX6_set_51 rfl rfl (fun h_51 => ?_) (fun h_51 => ?_)
        · skip
          simp only [bI_0, Classical.not_not] at h_51
          refine q_iconst (v := 0) 59 dX6_set_58 rfl rfl ?_
          refine q_istore 61 dX6_set_59 rfl (by decide) rfl ?_
          refine q_iload 63 dX6_set_61 rfl rfl ?_
          refine q_if_eq 82 66 dX6_set_63 rfl rfl (fun _ => ?_) (fun h_63 => absurd (by decide) h_63)
          refine q_ldc 84 dX6_set_82 rfl cs_X6_110 ?_
          refine q_iret dX6_set_84 ?_
          unfold aSet sSet
          first | exact absurd h_63 (by decide) | exact absurd rfl h_63 | exact Pa_id (by rw [if_neg (fun q => by first | exact h_5 q.1 | exact h_17 q.2.1 | exact h_51 (by simpa [h_25] using q.2.2) | exact h_51 (by simpa [h_25, h_36] using q.2.2))]) (if_neg (fun q => by first | exact h_5 q.1 | exact h_17 q.2.1 | exact h_51 (by simpa [h_25] using q.2.2) | exact h_51 (by simpa [h_25, h_36] using q.2.2))) | (rw [if_pos ⟨h_5, h_17, by first | simpa [h_25] using h_51 | simpa [h_25, h_36] using h_51⟩, if_pos ⟨h_5, h_17, by first | simpa [h_25] using h_51 | simpa [h_25, h_36] using h_51⟩]; exact ⟨rfl, rfl⟩) | exact absurd h_63 (by decide) | exact absurd rfl h_63
        · skip
          simp only [bI_0, Classical.not_not] at h_51
          refine q_iconst (v := 1) 55 dX6_set_54 rfl rfl ?_
          refine q_goto 59 dX6_set_55 rfl ?_
          refine q_istore 61 dX6_set_59 rfl (by decide) rfl ?_
          refine q_iload 63 dX6_set_61 rfl rfl ?_
          refine q_if_eq 82 66 dX6_set_63 rfl rfl (fun h_63 => absurd h_63 (by decide)) (fun _ => ?_)
          refine q_aload_n 67 dX6_set_66 rfl rfl ?_
          refine q_bipush (v := 21) 69 dX6_set_67 rfl rfl ?_
          refine q_iconst (v := 5) 70 dX6_set_69 rfl rfl ?_
          refine q_iload_n 71 dX6_set_70 rfl rfl ?_
          refine q_imul 72 dX6_set_71 rfl ?_
          refine q_iadd 73 dX6_set_72 rfl ?_
          refine q_iload_n 74 dX6_set_73 rfl rfl ?_
          refine q_iadd 75 dX6_set_74 rfl ?_
          refine q_iload_n 76 dX6_set_75 rfl rfl ?_
          refine q_callVt 79 dX6_set_76 rfl (c6_changes _ _ _ (21 + 5 * tn m + tn w) (ix_of em ew) (by omega)) cw_X6_138 (by decide) rfl rfl ⟨by decide, by decide⟩ ⟨by decide, by decide⟩ (Nat.le_of_ble_eq_true rfl) ?_
          refine q_goto 84 dX6_set_79 rfl ?_
          refine q_iret dX6_set_84 ?_
          unfold aSet sSet
          first | exact absurd h_63 (by decide) | exact absurd rfl h_63 | exact Pa_id (by rw [if_neg (fun q => by first | exact h_5 q.1 | exact h_17 q.2.1 | exact h_51 (by simpa [h_25] using q.2.2) | exact h_51 (by simpa [h_25, h_36] using q.2.2))]) (if_neg (fun q => by first | exact h_5 q.1 | exact h_17 q.2.1 | exact h_51 (by simpa [h_25] using q.2.2) | exact h_51 (by simpa [h_25, h_36] using q.2.2))) | (rw [if_pos ⟨h_5, h_17, by first | simpa [h_25] using h_51 | simpa [h_25, h_36] using h_51⟩, if_pos ⟨h_5, h_17, by first | simpa [h_25] using h_51 | simpa [h_25, h_36] using h_51⟩]; exact ⟨rfl, rfl⟩) | exact absurd h_63 (by decide) | exact absurd rfl h_63
def aCell (s : SS) (c w v : Int32) : Int32 := if ((0 ≤ c ∧ c ≤ 5) ∧ (0 ≤ w ∧ w ≤ 1) ∧ (0 ≤ v ∧ v ≤ (if w = 0 then 99 else 9999))) then s ((if w = 0 then 9 else 15) + tn c) else BADc
def sCell (s : SS) (c w v : Int32) : SS := if ((0 ≤ c ∧ c ≤ 5) ∧ (0 ≤ w ∧ w ≤ 1) ∧ (0 ≤ v ∧ v ≤ (if w = 0 then 99 else 9999))) then upd s ((if w = 0 then 9 else 15) + tn c) v else s
set_option maxRecDepth 100000 in
set_option maxHeartbeats 4000000 in
theorem c6_cell {g : GT} (M : TM) (c w v : Int32) (s : SS) (hs : M 31 0 = s) (hW : WK s) : Cn g yX6_cell cX6_cell 4 (some .int) 2 [.ref (gad g 6 0), .int c, .int w, .int v] M (Pa (aCell s c w v) M (sCell s c w v)) := by
  refine Cn.ofTR (by decide +kernel) (Nat.le_of_ble_eq_true rfl) ?_
  subst hs
  have hW0 := hW
  obtain ⟨⟨hn, hn10⟩, hr, hc, hm, ht⟩ := hW
  refine q_iload_n 1 dX6_cell_0 rfl rfl ?_
  refine q_callSt 4 dX6_cell_1 rfl (c6_isCell _ _) cw_X6_106 rfl rfl ⟨by decide, by decide⟩ ⟨by decide, by decide⟩ (Nat.le_of_ble_eq_true rfl) ?_
  refine q_if_eq 39 7 dX6_cell_4 rfl rfl (fun h_4 => ?_) (fun h_4 => ?_)
  · skip
    simp only [bI_0, Classical.not_not] at h_4
    refine q_ldc 41 dX6_cell_39 rfl cs_X6_110 ?_
    refine q_iret dX6_cell_41 ?_
    unfold aCell sCell
    exact Pa_id (by rw [if_neg (fun q => by first | exact h_4 q.1 | exact h_14 q.2.1 | exact h_36 (by simpa [h_21] using q.2.2))]) (if_neg (fun q => by first | exact h_4 q.1 | exact h_14 q.2.1 | exact h_36 (by simpa [h_21] using q.2.2)))
  · skip
    simp only [bI_0, Classical.not_not] at h_4
    obtain ⟨ec, lc⟩ := rg_tn h_4 (n := 5) rfl
    refine q_iload_n 8 dX6_cell_7 rfl rfl ?_
    refine q_i2l 9 dX6_cell_8 rfl ?_
    refine q_lconst (v := 0) 10 dX6_cell_9 rfl rfl ?_
    refine q_lconst (v := 1) 11 dX6_cell_10 rfl rfl ?_
    refine q_callSt 14 dX6_cell_11 rfl (c6_isIn' _ _ (0) (1) _ _) cw_X6_65 rfl rfl ⟨by decide, by decide⟩ ⟨by decide, by decide⟩ (Nat.le_of_ble_eq_true rfl) ?_
    refine q_if_eq 39 17 dX6_cell_14 rfl rfl (fun h_14 => ?_) (fun h_14 => ?_)
    · skip
      simp only [bI_0, Classical.not_not] at h_14
      refine q_ldc 41 dX6_cell_39 rfl cs_X6_110 ?_
      refine q_iret dX6_cell_41 ?_
      unfold aCell sCell
      exact Pa_id (by rw [if_neg (fun q => by first | exact h_4 q.1 | exact h_14 q.2.1 | exact h_36 (by simpa [h_21] using q.2.2))]) (if_neg (fun q => by first | exact h_4 q.1 | exact h_14 q.2.1 | exact h_36 (by simpa [h_21] using q.2.2)))
    · skip
      simp only [bI_0, Classical.not_not] at h_14
      refine q_iload_n 18 dX6_cell_17 rfl rfl ?_
      refine q_i2l 19 dX6_cell_18 rfl ?_
      refine q_lconst (v := 0) 20 dX6_cell_19 rfl rfl ?_
      refine q_iload_n 21 dX6_cell_20 rfl rfl ?_
      refine q_if_ne 30 24 dX6_cell_21 rfl rfl (fun h_21 => ?_) (fun h_21 => ?_)
      · skip
        refine q_ldc2 33 dX6_cell_30 rfl cl_X6_104 ?_
        refine q_callSt 36 dX6_cell_33 rfl (c6_isIn' _ _ (0) (9999) _ _) cw_X6_65 rfl rfl ⟨by decide, by decide⟩ ⟨by decide, by decide⟩ (Nat.le_of_ble_eq_true rfl) ?_
        refine q_if_ne 42 39 dX6_cell_36 rfl rfl (fun h_36 => ?_) (fun h_36 => ?_)
        · skip
          simp only [bI_0, Classical.not_not] at h_36
          refine q_aload_n 43 dX6_cell_42 rfl rfl ?_
          refine q_iload_n 44 dX6_cell_43 rfl rfl ?_
          refine q_if_ne 52 47 dX6_cell_44 rfl rfl (fun h_44 => ?_) (fun h_44 => ?_)
          · skip
            refine q_bipush (v := 15) 54 dX6_cell_52 rfl rfl ?_
            refine q_iload_n 55 dX6_cell_54 rfl rfl ?_
            refine q_iadd 56 dX6_cell_55 rfl ?_
            refine q_iload_n 57 dX6_cell_56 rfl rfl ?_
            refine q_callVt 60 dX6_cell_57 rfl (c6_changes _ _ _ ((if w = 0 then 9 else 15) + tn c) (by first | (rw [if_pos h_44]; exact ix_ad ec) | (rw [if_neg h_44]; exact ix_ad ec)) (by split <;> omega)) cw_X6_138 (by decide) rfl rfl ⟨by decide, by decide⟩ ⟨by decide, by decide⟩ (Nat.le_of_ble_eq_true rfl) ?_
            refine q_iret dX6_cell_60 ?_
            unfold aCell sCell
            have hC : (0 ≤ c ∧ c ≤ 5) ∧ (0 ≤ w ∧ w ≤ 1) ∧ (0 ≤ v ∧ v ≤ (if w = 0 then 99 else 9999)) := ⟨h_4, h_14, by first | (rw [if_pos h_21]; exact h_36) | (rw [if_neg h_21]; exact h_36)⟩
            rw [if_pos hC, if_pos hC]
            exact ⟨rfl, rfl⟩
          · skip
            refine q_bipush (v := 9) 49 dX6_cell_47 rfl rfl ?_
            refine q_goto 54 dX6_cell_49 rfl ?_
            refine q_iload_n 55 dX6_cell_54 rfl rfl ?_
            refine q_iadd 56 dX6_cell_55 rfl ?_
            refine q_iload_n 57 dX6_cell_56 rfl rfl ?_
            refine q_callVt 60 dX6_cell_57 rfl (c6_changes _ _ _ ((if w = 0 then 9 else 15) + tn c) (by first | (rw [if_pos h_44]; exact ix_ad ec) | (rw [if_neg h_44]; exact ix_ad ec)) (by split <;> omega)) cw_X6_138 (by decide) rfl rfl ⟨by decide, by decide⟩ ⟨by decide, by decide⟩ (Nat.le_of_ble_eq_true rfl) ?_
            refine q_iret dX6_cell_60 ?_
            unfold aCell sCell
            have hC : (0 ≤ c ∧ c ≤ 5) ∧ (0 ≤ w ∧ w ≤ 1) ∧ (0 ≤ v ∧ v ≤ (if w = 0 then 99 else 9999)) := ⟨h_4, h_14, by first | (rw [if_pos h_21]; exact h_36) | (rw [if_neg h_21]; exact h_36)⟩
            rw [if_pos hC, if_pos hC]
            exact ⟨rfl, rfl⟩
        · skip
          simp only [bI_0, Classical.not_not] at h_36
          refine q_ldc 41 dX6_cell_39 rfl cs_X6_110 ?_
          refine q_iret dX6_cell_41 ?_
          unfold aCell sCell
          exact Pa_id (by rw [if_neg (fun q => by first | exact h_4 q.1 | exact h_14 q.2.1 | exact h_36 (by simpa [h_21] using q.2.2))]) (if_neg (fun q => by first | exact h_4 q.1 | exact h_14 q.2.1 | exact h_36 (by simpa [h_21] using q.2.2)))
      · skip
        refine q_ldc2 27 dX6_cell_24 rfl cl_X6_102 ?_
        refine q_goto 33 dX6_cell_27 rfl ?_
        refine q_callSt 36 dX6_cell_33 rfl (c6_isIn' _ _ (0) (99) _ _) cw_X6_65 rfl rfl ⟨by decide, by decide⟩ ⟨by decide, by decide⟩ (Nat.le_of_ble_eq_true rfl) ?_
        refine q_if_ne 42 39 dX6_cell_36 rfl rfl (fun h_36 => ?_) (fun h_36 => ?_)
        · skip
          simp only [bI_0, Classical.not_not] at h_36
          refine q_aload_n 43 dX6_cell_42 rfl rfl ?_
          refine q_iload_n 44 dX6_cell_43 rfl rfl ?_
          refine q_if_ne 52 47 dX6_cell_44 rfl rfl (fun h_44 => ?_) (fun h_44 => ?_)
          · skip
            refine q_bipush (v := 15) 54 dX6_cell_52 rfl rfl ?_
            refine q_iload_n 55 dX6_cell_54 rfl rfl ?_
            refine q_iadd 56 dX6_cell_55 rfl ?_
            refine q_iload_n 57 dX6_cell_56 rfl rfl ?_
            refine q_callVt 60 dX6_cell_57 rfl (c6_changes _ _ _ ((if w = 0 then 9 else 15) + tn c) (by first | (rw [if_pos h_44]; exact ix_ad ec) | (rw [if_neg h_44]; exact ix_ad ec)) (by split <;> omega)) cw_X6_138 (by decide) rfl rfl ⟨by decide, by decide⟩ ⟨by decide, by decide⟩ (Nat.le_of_ble_eq_true rfl) ?_
            refine q_iret dX6_cell_60 ?_
            unfold aCell sCell
            have hC : (0 ≤ c ∧ c ≤ 5) ∧ (0 ≤ w ∧ w ≤ 1) ∧ (0 ≤ v ∧ v ≤ (if w = 0 then 99 else 9999)) := ⟨h_4, h_14, by first | (rw [if_pos h_21]; exact h_36) | (rw [if_neg h_21]; exact h_36)⟩
            rw [if_pos hC, if_pos hC]
            exact ⟨rfl, rfl⟩
          · skip
            refine q_bipush (v := 9) 49 dX6_cell_47 rfl rfl ?_
            refine q_goto 54 dX6_cell_49 rfl ?_
            refine q_iload_n 55 dX6_cell_54 rfl rfl ?_
            refine q_iadd 56 dX6_cell_55 rfl ?_
            refine q_iload_n 57 dX6_cell_56 rfl rfl ?_
            refine q_callVt 60 dX6_cell_57 rfl (c6_changes _ _ _ ((if w = 0 then 9 else 15) + tn c) (by first | (rw [if_pos h_44]; exact ix_ad ec) | (rw [if_neg h_44]; exact ix_ad ec)) (by split <;> omega)) cw_X6_138 (by decide) rfl rfl ⟨by decide, by decide⟩ ⟨by decide, by decide⟩ (Nat.le_of_ble_eq_true rfl) ?_
            refine q_iret dX6_cell_60 ?_
            unfold aCell sCell
            have hC : (0 ≤ c ∧ c ≤ 5) ∧ (0 ≤ w ∧ w ≤ 1) ∧ (0 ≤ v ∧ v ≤ (if w = 0 then 99 else 9999)) := ⟨h_4, h_14, by first | (rw [if_pos h_21]; exact h_36) | (rw [if_neg h_21]; exact h_36)⟩
            rw [if_pos hC, if_pos hC]
            exact ⟨rfl, rfl⟩
        · skip
          simp only [bI_0, Classical.not_not] at h_36
          refine q_ldc 41 dX6_cell_39 rfl cs_X6_110 ?_
          refine q_iret dX6_cell_41 ?_
          unfold aCell sCell
          exact Pa_id (by rw [if_neg (fun q => by first | exact h_4 q.1 | exact h_14 q.2.1 | exact h_36 (by simpa [h_21] using q.2.2))]) (if_neg (fun q => by first | exact h_4 q.1 | exact h_14 q.2.1 | exact h_36 (by simpa [h_21] using q.2.2)))
def aCellOf (s : SS) (c w : Int32) : Int32 := if (0 ≤ c ∧ c ≤ 5) ∧ (0 ≤ w ∧ w ≤ 3) then (if w = 0 then s (9 + tn c) else if w = 1 then s (15 + tn c) else if w = 2 then nI (setC (inC s c) (nN s)) else sumS (shF s) (inC s c) (nN s)) else BADc
set_option maxRecDepth 100000 in
set_option maxHeartbeats 4000000 in
theorem c6_cellOf {g : GT} (M : TM) (c w : Int32) (s : SS) (hs : M 31 0 = s) (hW : WK s) : Cn g yX6_cellOf cX6_cellOf 3 (some .int) 5 [.ref (gad g 6 0), .int c, .int w] M (Rs (.int (aCellOf s c w)) M) := by
  refine Cn.ofTR (by decide +kernel) (Nat.le_of_ble_eq_true rfl) ?_
  subst hs
  have hW0 := hW
  obtain ⟨⟨hn, hn10⟩, hr, hc, hm, ht⟩ := hW
  refine q_iload_n 1 dX6_cellOf_0 rfl rfl ?_
  refine q_callSt 4 dX6_cellOf_1 rfl (c6_isCell _ _) cw_X6_106 rfl rfl ⟨by decide, by decide⟩ ⟨by decide, by decide⟩ (Nat.le_of_ble_eq_true rfl) ?_
  refine q_if_eq 19 7 dX6_cellOf_4 rfl rfl (fun h_4 => ?_) (fun h_4 => ?_)
  · skip
    simp only [bI_0, Classical.not_not] at h_4
    refine q_ldc 21 dX6_cellOf_19 rfl cs_X6_110 ?_
    refine q_iret dX6_cellOf_21 ?_
    unfold aCellOf
    first
    | (refine ⟨?_, _, _, (sc_id M).symm⟩; rw [if_neg (fun q => by first | exact h_4 q.1 | exact h_16 q.2)])
    | (refine ⟨?_, _, _, (sc_id M).symm⟩; rw [if_pos ⟨h_4, h_16⟩, if_pos h_23])
    | (refine ⟨?_, _, _, (sc_id M).symm⟩; rw [if_pos ⟨h_4, h_16⟩, if_neg h_23, if_pos h_40])
    | (refine ⟨?_, _, _, (sc_id M).symm⟩; rw [if_pos ⟨h_4, h_16⟩, if_neg h_23, if_neg h_40, if_pos h_57])
    | (refine ⟨congrArg (fun x => some (Value.int x)) ?_, f, f2, rfl⟩; rw [if_pos ⟨h_4, h_16⟩, if_neg h_23, if_neg h_40, if_neg h_57]; exact sumS_congr _ (fun k hk => ⟨by rw [setC_bit]; simp [hk], rfl⟩))
  · skip
    simp only [bI_0, Classical.not_not] at h_4
    obtain ⟨ec, lc⟩ := rg_tn h_4 (n := 5) rfl
    refine q_iload_n 8 dX6_cellOf_7 rfl rfl ?_
    refine q_i2l 9 dX6_cellOf_8 rfl ?_
    refine q_lconst (v := 0) 10 dX6_cellOf_9 rfl rfl ?_
    refine q_ldc2 13 dX6_cellOf_10 rfl cl_X6_143 ?_
    refine q_callSt 16 dX6_cellOf_13 rfl (c6_isIn' _ _ (0) (3) _ _) cw_X6_65 rfl rfl ⟨by decide, by decide⟩ ⟨by decide, by decide⟩ (Nat.le_of_ble_eq_true rfl) ?_
    refine q_if_ne 22 19 dX6_cellOf_16 rfl rfl (fun h_16 => ?_) (fun h_16 => ?_)
    · skip
      simp only [bI_0, Classical.not_not] at h_16
      refine q_iload_n 23 dX6_cellOf_22 rfl rfl ?_
      refine q_if_ne 38 26 dX6_cellOf_23 rfl rfl (fun h_23 => ?_) (fun h_23 => ?_)
      · skip
        refine q_iload_n 39 dX6_cellOf_38 rfl rfl ?_
        refine q_iconst (v := 1) 40 dX6_cellOf_39 rfl rfl ?_
        refine q_icmp_ne 55 43 dX6_cellOf_40 rfl rfl (fun h_40 => ?_) (fun h_40 => ?_)
        · skip
          refine q_iload_n 56 dX6_cellOf_55 rfl rfl ?_
          refine q_iconst (v := 2) 57 dX6_cellOf_56 rfl rfl ?_
          refine q_icmp_ne 68 60 dX6_cellOf_57 rfl rfl (fun h_57 => ?_) (fun h_57 => ?_)
          · skip
            refine q_aload_n 69 dX6_cellOf_68 rfl rfl ?_
            refine q_aload_n 70 dX6_cellOf_69 rfl rfl ?_
            refine q_iload_n 71 dX6_cellOf_70 rfl rfl ?_
            refine q_callVt 74 dX6_cellOf_71 rfl (c6_marksIn _ _ (M 31 0) (by rfl) (nN (M 31 0)) hn hn10) cw_X6_83 (by decide) rfl rfl ⟨by decide, by decide⟩ ⟨by decide, by decide⟩ (Nat.le_of_ble_eq_true rfl) ?_
            refine q_callV 77 dX6_cellOf_74 rfl (c6_shownBy _ _ _ rfl (setC_le _ hn10) (M 31 0) (by rfl) hW0.m) cw_X6_145 (by decide) rfl rfl ⟨by decide, by decide⟩ ⟨by decide, by decide⟩ (Nat.le_of_ble_eq_true rfl) ?_
            rintro _ _ ⟨rfl, f, f2, rfl⟩
            refine q_iret dX6_cellOf_77 ?_
            unfold aCellOf
            first
            | (refine ⟨?_, _, _, (sc_id M).symm⟩; rw [if_neg (fun q => by first | exact h_4 q.1 | exact h_16 q.2)])
            | (refine ⟨?_, _, _, (sc_id M).symm⟩; rw [if_pos ⟨h_4, h_16⟩, if_pos h_23])
            | (refine ⟨?_, _, _, (sc_id M).symm⟩; rw [if_pos ⟨h_4, h_16⟩, if_neg h_23, if_pos h_40])
            | (refine ⟨?_, _, _, (sc_id M).symm⟩; rw [if_pos ⟨h_4, h_16⟩, if_neg h_23, if_neg h_40, if_pos h_57])
            | (refine ⟨congrArg (fun x => some (Value.int x)) ?_, f, f2, rfl⟩; rw [if_pos ⟨h_4, h_16⟩, if_neg h_23, if_neg h_40, if_neg h_57]; exact sumS_congr _ (fun k hk => ⟨by rw [setC_bit]; simp [hk], rfl⟩))
          · skip
            refine q_aload_n 61 dX6_cellOf_60 rfl rfl ?_
            refine q_iload_n 62 dX6_cellOf_61 rfl rfl ?_
            refine q_callVt 65 dX6_cellOf_62 rfl (c6_marksIn _ _ (M 31 0) (by rfl) (nN (M 31 0)) hn hn10) cw_X6_83 (by decide) rfl rfl ⟨by decide, by decide⟩ ⟨by decide, by decide⟩ (Nat.le_of_ble_eq_true rfl) ?_
            refine q_goto 77 dX6_cellOf_65 rfl ?_
            refine q_iret dX6_cellOf_77 ?_
            unfold aCellOf
            first
            | (refine ⟨?_, _, _, (sc_id M).symm⟩; rw [if_neg (fun q => by first | exact h_4 q.1 | exact h_16 q.2)])
            | (refine ⟨?_, _, _, (sc_id M).symm⟩; rw [if_pos ⟨h_4, h_16⟩, if_pos h_23])
            | (refine ⟨?_, _, _, (sc_id M).symm⟩; rw [if_pos ⟨h_4, h_16⟩, if_neg h_23, if_pos h_40])
            | (refine ⟨?_, _, _, (sc_id M).symm⟩; rw [if_pos ⟨h_4, h_16⟩, if_neg h_23, if_neg h_40, if_pos h_57])
            | (refine ⟨congrArg (fun x => some (Value.int x)) ?_, f, f2, rfl⟩; rw [if_pos ⟨h_4, h_16⟩, if_neg h_23, if_neg h_40, if_neg h_57]; exact sumS_congr _ (fun k hk => ⟨by rw [setC_bit]; simp [hk], rfl⟩))
        · skip
          refine q_aload_n 44 dX6_cellOf_43 rfl rfl ?_
          refine q_getR 47 dX6_cellOf_44 rfl fl_X6_7 (by decide) rfl rfl ?_
          refine q_bipush (v := 15) 49 dX6_cellOf_47 rfl rfl ?_
          refine q_iload_n 50 dX6_cellOf_49 rfl rfl ?_
          refine q_iadd 51 dX6_cellOf_50 rfl ?_
          refine q_iald 52 dX6_cellOf_51 rfl (by decide) (by decide) (ix_ad ec) (show 15 + tn c < 3071 by omega) ?_
          refine q_goto 77 dX6_cellOf_52 rfl ?_
          refine q_iret dX6_cellOf_77 ?_
          unfold aCellOf
          first
          | (refine ⟨?_, _, _, (sc_id M).symm⟩; rw [if_neg (fun q => by first | exact h_4 q.1 | exact h_16 q.2)])
          | (refine ⟨?_, _, _, (sc_id M).symm⟩; rw [if_pos ⟨h_4, h_16⟩, if_pos h_23])
          | (refine ⟨?_, _, _, (sc_id M).symm⟩; rw [if_pos ⟨h_4, h_16⟩, if_neg h_23, if_pos h_40])
          | (refine ⟨?_, _, _, (sc_id M).symm⟩; rw [if_pos ⟨h_4, h_16⟩, if_neg h_23, if_neg h_40, if_pos h_57])
          | (refine ⟨congrArg (fun x => some (Value.int x)) ?_, f, f2, rfl⟩; rw [if_pos ⟨h_4, h_16⟩, if_neg h_23, if_neg h_40, if_neg h_57]; exact sumS_congr _ (fun k hk => ⟨by rw [setC_bit]; simp [hk], rfl⟩))
      · skip
        refine q_aload_n 27 dX6_cellOf_26 rfl rfl ?_
        refine q_getR 30 dX6_cellOf_27 rfl fl_X6_7 (by decide) rfl rfl ?_
        refine q_bipush (v := 9) 32 dX6_cellOf_30 rfl rfl ?_
        refine q_iload_n 33 dX6_cellOf_32 rfl rfl ?_
        refine q_iadd 34 dX6_cellOf_33 rfl ?_
        refine q_iald 35 dX6_cellOf_34 rfl (by decide) (by decide) (ix_ad ec) (show 9 + tn c < 3071 by omega) ?_
        refine q_goto 77 dX6_cellOf_35 rfl ?_
        refine q_iret dX6_cellOf_77 ?_
        unfold aCellOf
        first
        | (refine ⟨?_, _, _, (sc_id M).symm⟩; rw [if_neg (fun q => by first | exact h_4 q.1 | exact h_16 q.2)])
        | (refine ⟨?_, _, _, (sc_id M).symm⟩; rw [if_pos ⟨h_4, h_16⟩, if_pos h_23])
        | (refine ⟨?_, _, _, (sc_id M).symm⟩; rw [if_pos ⟨h_4, h_16⟩, if_neg h_23, if_pos h_40])
        | (refine ⟨?_, _, _, (sc_id M).symm⟩; rw [if_pos ⟨h_4, h_16⟩, if_neg h_23, if_neg h_40, if_pos h_57])
        | (refine ⟨congrArg (fun x => some (Value.int x)) ?_, f, f2, rfl⟩; rw [if_pos ⟨h_4, h_16⟩, if_neg h_23, if_neg h_40, if_neg h_57]; exact sumS_congr _ (fun k hk => ⟨by rw [setC_bit]; simp [hk], rfl⟩))
    · skip
      simp only [bI_0, Classical.not_not] at h_16
      refine q_ldc 21 dX6_cellOf_19 rfl cs_X6_110 ?_
      refine q_iret dX6_cellOf_21 ?_
      unfold aCellOf
      first
      | (refine ⟨?_, _, _, (sc_id M).symm⟩; rw [if_neg (fun q => by first | exact h_4 q.1 | exact h_16 q.2)])
      | (refine ⟨?_, _, _, (sc_id M).symm⟩; rw [if_pos ⟨h_4, h_16⟩, if_pos h_23])
      | (refine ⟨?_, _, _, (sc_id M).symm⟩; rw [if_pos ⟨h_4, h_16⟩, if_neg h_23, if_pos h_40])
      | (refine ⟨?_, _, _, (sc_id M).symm⟩; rw [if_pos ⟨h_4, h_16⟩, if_neg h_23, if_neg h_40, if_pos h_57])
      | (refine ⟨congrArg (fun x => some (Value.int x)) ?_, f, f2, rfl⟩; rw [if_pos ⟨h_4, h_16⟩, if_neg h_23, if_neg h_40, if_neg h_57]; exact sumS_congr _ (fun k hk => ⟨by rw [setC_bit]; simp [hk], rfl⟩))
def aRule (s : SS) (w v : Int32) : Int32 := if ((0 ≤ w ∧ w ≤ 2) ∧ ((if w = 0 then 1 else 0) ≤ v ∧ v ≤ (if w = 0 then 9 else if w = 1 then 99 else 100))) then s (3 + tn w) else BADc
def sRule (s : SS) (w v : Int32) : SS := if ((0 ≤ w ∧ w ≤ 2) ∧ ((if w = 0 then 1 else 0) ≤ v ∧ v ≤ (if w = 0 then 9 else if w = 1 then 99 else 100))) then upd s (3 + tn w) v else s
set_option maxRecDepth 100000 in
set_option maxHeartbeats 4000000 in
theorem c6_rule {g : GT} (M : TM) (w v : Int32) (s : SS) (hs : M 31 0 = s) (hW : WK s) : Cn g yX6_rule cX6_rule 3 (some .int) 2 [.ref (gad g 6 0), .int w, .int v] M (Pa (aRule s w v) M (sRule s w v)) := by
  refine Cn.ofTR (by decide +kernel) (Nat.le_of_ble_eq_true rfl) ?_
  subst hs
  have hW0 := hW
  obtain ⟨⟨hn, hn10⟩, hr, hc, hm, ht⟩ := hW
  refine q_iload_n 1 dX6_rule_0 rfl rfl ?_
  refine q_i2l 2 dX6_rule_1 rfl ?_
  refine q_lconst (v := 0) 3 dX6_rule_2 rfl rfl ?_
  refine q_ldc2 6 dX6_rule_3 rfl cl_X6_148 ?_
  refine q_callSt 9 dX6_rule_6 rfl (c6_isIn' _ _ (0) (2) _ _) cw_X6_65 rfl rfl ⟨by decide, by decide⟩ ⟨by decide, by decide⟩ (Nat.le_of_ble_eq_true rfl) ?_
  refine q_if_eq 64 12 dX6_rule_9 rfl rfl (fun h_9 => ?_) (fun h_9 => ?_)
  · skip
    simp only [bI_0, Classical.not_not] at h_9
    refine q_ldc 66 dX6_rule_64 rfl cs_X6_110 ?_
    refine q_iret dX6_rule_66 ?_
    unfold aRule sRule
    first | exact absurd h_24 h_15 | exact absurd h_15 h_24 | exact Pa_id (by rw [if_neg (fun q => by first | exact h_9 q.1 | exact h_50 (by simpa [h_15] using q.2) | exact h_50 (by simpa [h_15, h_35] using q.2))]) (if_neg (fun q => by first | exact h_9 q.1 | exact h_50 (by simpa [h_15] using q.2) | exact h_50 (by simpa [h_15, h_35] using q.2))) | (rw [if_pos ⟨h_9, by first | simpa [h_15] using h_50 | simpa [h_15, h_35] using h_50⟩, if_pos ⟨h_9, by first | simpa [h_15] using h_50 | simpa [h_15, h_35] using h_50⟩]; exact ⟨rfl, rfl⟩) | exact absurd h_24 h_15 | exact absurd h_15 h_24
  · skip
    simp only [bI_0, Classical.not_not] at h_9
    obtain ⟨ew, lw⟩ := rg_tn h_9 (n := 2) rfl
    refine q_iload_n 13 dX6_rule_12 rfl rfl ?_
    refine q_i2l 14 dX6_rule_13 rfl ?_
    refine q_iload_n 15 dX6_rule_14 rfl rfl ?_
    refine q_if_ne 22 18 dX6_rule_15 rfl rfl (fun h_15 => ?_) (fun h_15 => ?_)
    · skip
      refine q_lconst (v := 0) 23 dX6_rule_22 rfl rfl ?_
      refine q_iload_n 24 dX6_rule_23 rfl rfl ?_
      refine q_if_ne 33 27 dX6_rule_24 rfl rfl (fun h_24 => ?_) (fun h_24 => ?_)
      · skip
        refine q_iload_n 34 dX6_rule_33 rfl rfl ?_
        refine q_iconst (v := 1) 35 dX6_rule_34 rfl rfl ?_
        refine q_icmp_ne 44 38 dX6_rule_35 rfl rfl (fun h_35 => ?_) (fun h_35 => ?_)
        · skip
          refine q_ldc2 47 dX6_rule_44 rfl cl_X6_152 ?_
          refine q_callSt 50 dX6_rule_47 rfl (c6_isIn' _ _ (0) (100) _ _) cw_X6_65 rfl rfl ⟨by decide, by decide⟩ ⟨by decide, by decide⟩ (Nat.le_of_ble_eq_true rfl) ?_
          refine q_if_eq 64 53 dX6_rule_50 rfl rfl (fun h_50 => ?_) (fun h_50 => ?_)
          · skip
            simp only [bI_0, Classical.not_not] at h_50
            refine q_ldc 66 dX6_rule_64 rfl cs_X6_110 ?_
            refine q_iret dX6_rule_66 ?_
            unfold aRule sRule
            first | exact absurd h_24 h_15 | exact absurd h_15 h_24 | exact Pa_id (by rw [if_neg (fun q => by first | exact h_9 q.1 | exact h_50 (by simpa [h_15] using q.2) | exact h_50 (by simpa [h_15, h_35] using q.2))]) (if_neg (fun q => by first | exact h_9 q.1 | exact h_50 (by simpa [h_15] using q.2) | exact h_50 (by simpa [h_15, h_35] using q.2))) | (rw [if_pos ⟨h_9, by first | simpa [h_15] using h_50 | simpa [h_15, h_35] using h_50⟩, if_pos ⟨h_9, by first | simpa [h_15] using h_50 | simpa [h_15, h_35] using h_50⟩]; exact ⟨rfl, rfl⟩) | exact absurd h_24 h_15 | exact absurd h_15 h_24
          · skip
            simp only [bI_0, Classical.not_not] at h_50
            refine q_aload_n 54 dX6_rule_53 rfl rfl ?_
            refine q_iconst (v := 3) 55 dX6_rule_54 rfl rfl ?_
            refine q_iload_n 56 dX6_rule_55 rfl rfl ?_
            refine q_iadd 57 dX6_rule_56 rfl ?_
            refine q_iload_n 58 dX6_rule_57 rfl rfl ?_
            refine q_callVt 61 dX6_rule_58 rfl (c6_changes _ _ _ (3 + tn w) (ix_ad ew) (by omega)) cw_X6_138 (by decide) rfl rfl ⟨by decide, by decide⟩ ⟨by decide, by decide⟩ (Nat.le_of_ble_eq_true rfl) ?_
            refine q_goto 66 dX6_rule_61 rfl ?_
            refine q_iret dX6_rule_66 ?_
            unfold aRule sRule
            first | exact absurd h_24 h_15 | exact absurd h_15 h_24 | exact Pa_id (by rw [if_neg (fun q => by first | exact h_9 q.1 | exact h_50 (by simpa [h_15] using q.2) | exact h_50 (by simpa [h_15, h_35] using q.2))]) (if_neg (fun q => by first | exact h_9 q.1 | exact h_50 (by simpa [h_15] using q.2) | exact h_50 (by simpa [h_15, h_35] using q.2))) | (rw [if_pos ⟨h_9, by first | simpa [h_15] using h_50 | simpa [h_15, h_35] using h_50⟩, if_pos ⟨h_9, by first | simpa [h_15] using h_50 | simpa [h_15, h_35] using h_50⟩]; exact ⟨rfl, rfl⟩) | exact absurd h_24 h_15 | exact absurd h_15 h_24
        · skip
          refine q_ldc2 41 dX6_rule_38 rfl cl_X6_102 ?_
          refine q_goto 47 dX6_rule_41 rfl ?_
          refine q_callSt 50 dX6_rule_47 rfl (c6_isIn' _ _ (0) (99) _ _) cw_X6_65 rfl rfl ⟨by decide, by decide⟩ ⟨by decide, by decide⟩ (Nat.le_of_ble_eq_true rfl) ?_
          refine q_if_eq 64 53 dX6_rule_50 rfl rfl (fun h_50 => ?_) (fun h_50 => ?_)
          · skip
            simp only [bI_0, Classical.not_not] at h_50
            refine q_ldc 66 dX6_rule_64 rfl cs_X6_110 ?_
            refine q_iret dX6_rule_66 ?_
            unfold aRule sRule
            first | exact absurd h_24 h_15 | exact absurd h_15 h_24 | exact Pa_id (by rw [if_neg (fun q => by first | exact h_9 q.1 | exact h_50 (by simpa [h_15] using q.2) | exact h_50 (by simpa [h_15, h_35] using q.2))]) (if_neg (fun q => by first | exact h_9 q.1 | exact h_50 (by simpa [h_15] using q.2) | exact h_50 (by simpa [h_15, h_35] using q.2))) | (rw [if_pos ⟨h_9, by first | simpa [h_15] using h_50 | simpa [h_15, h_35] using h_50⟩, if_pos ⟨h_9, by first | simpa [h_15] using h_50 | simpa [h_15, h_35] using h_50⟩]; exact ⟨rfl, rfl⟩) | exact absurd h_24 h_15 | exact absurd h_15 h_24
          · skip
            simp only [bI_0, Classical.not_not] at h_50
            refine q_aload_n 54 dX6_rule_53 rfl rfl ?_
            refine q_iconst (v := 3) 55 dX6_rule_54 rfl rfl ?_
            refine q_iload_n 56 dX6_rule_55 rfl rfl ?_
            refine q_iadd 57 dX6_rule_56 rfl ?_
            refine q_iload_n 58 dX6_rule_57 rfl rfl ?_
            refine q_callVt 61 dX6_rule_58 rfl (c6_changes _ _ _ (3 + tn w) (ix_ad ew) (by omega)) cw_X6_138 (by decide) rfl rfl ⟨by decide, by decide⟩ ⟨by decide, by decide⟩ (Nat.le_of_ble_eq_true rfl) ?_
            refine q_goto 66 dX6_rule_61 rfl ?_
            refine q_iret dX6_rule_66 ?_
            unfold aRule sRule
            first | exact absurd h_24 h_15 | exact absurd h_15 h_24 | exact Pa_id (by rw [if_neg (fun q => by first | exact h_9 q.1 | exact h_50 (by simpa [h_15] using q.2) | exact h_50 (by simpa [h_15, h_35] using q.2))]) (if_neg (fun q => by first | exact h_9 q.1 | exact h_50 (by simpa [h_15] using q.2) | exact h_50 (by simpa [h_15, h_35] using q.2))) | (rw [if_pos ⟨h_9, by first | simpa [h_15] using h_50 | simpa [h_15, h_35] using h_50⟩, if_pos ⟨h_9, by first | simpa [h_15] using h_50 | simpa [h_15, h_35] using h_50⟩]; exact ⟨rfl, rfl⟩) | exact absurd h_24 h_15 | exact absurd h_15 h_24
      · skip
        refine q_ldc2 30 dX6_rule_27 rfl cl_X6_150 ?_
        refine q_goto 47 dX6_rule_30 rfl ?_
        refine q_callSt 50 dX6_rule_47 rfl (c6_isIn' _ _ (0) (9) _ _) cw_X6_65 rfl rfl ⟨by decide, by decide⟩ ⟨by decide, by decide⟩ (Nat.le_of_ble_eq_true rfl) ?_
        refine q_if_eq 64 53 dX6_rule_50 rfl rfl (fun h_50 => ?_) (fun h_50 => ?_)
        · skip
          simp only [bI_0, Classical.not_not] at h_50
          refine q_ldc 66 dX6_rule_64 rfl cs_X6_110 ?_
          refine q_iret dX6_rule_66 ?_
          unfold aRule sRule
          first | exact absurd h_24 h_15 | exact absurd h_15 h_24 | exact Pa_id (by rw [if_neg (fun q => by first | exact h_9 q.1 | exact h_50 (by simpa [h_15] using q.2) | exact h_50 (by simpa [h_15, h_35] using q.2))]) (if_neg (fun q => by first | exact h_9 q.1 | exact h_50 (by simpa [h_15] using q.2) | exact h_50 (by simpa [h_15, h_35] using q.2))) | (rw [if_pos ⟨h_9, by first | simpa [h_15] using h_50 | simpa [h_15, h_35] using h_50⟩, if_pos ⟨h_9, by first | simpa [h_15] using h_50 | simpa [h_15, h_35] using h_50⟩]; exact ⟨rfl, rfl⟩) | exact absurd h_24 h_15 | exact absurd h_15 h_24
        · skip
          simp only [bI_0, Classical.not_not] at h_50
          refine q_aload_n 54 dX6_rule_53 rfl rfl ?_
          refine q_iconst (v := 3) 55 dX6_rule_54 rfl rfl ?_
          refine q_iload_n 56 dX6_rule_55 rfl rfl ?_
          refine q_iadd 57 dX6_rule_56 rfl ?_
          refine q_iload_n 58 dX6_rule_57 rfl rfl ?_
          refine q_callVt 61 dX6_rule_58 rfl (c6_changes _ _ _ (3 + tn w) (ix_ad ew) (by omega)) cw_X6_138 (by decide) rfl rfl ⟨by decide, by decide⟩ ⟨by decide, by decide⟩ (Nat.le_of_ble_eq_true rfl) ?_
          refine q_goto 66 dX6_rule_61 rfl ?_
          refine q_iret dX6_rule_66 ?_
          unfold aRule sRule
          first | exact absurd h_24 h_15 | exact absurd h_15 h_24 | exact Pa_id (by rw [if_neg (fun q => by first | exact h_9 q.1 | exact h_50 (by simpa [h_15] using q.2) | exact h_50 (by simpa [h_15, h_35] using q.2))]) (if_neg (fun q => by first | exact h_9 q.1 | exact h_50 (by simpa [h_15] using q.2) | exact h_50 (by simpa [h_15, h_35] using q.2))) | (rw [if_pos ⟨h_9, by first | simpa [h_15] using h_50 | simpa [h_15, h_35] using h_50⟩, if_pos ⟨h_9, by first | simpa [h_15] using h_50 | simpa [h_15, h_35] using h_50⟩]; exact ⟨rfl, rfl⟩) | exact absurd h_24 h_15 | exact absurd h_15 h_24
    · skip
      refine q_lconst (v := 1) 19 dX6_rule_18 rfl rfl ?_
      refine q_goto 23 dX6_rule_19 rfl ?_
      refine q_iload_n 24 dX6_rule_23 rfl rfl ?_
      refine q_if_ne 33 27 dX6_rule_24 rfl rfl (fun h_24 => ?_) (fun h_24 => ?_)
      · skip
        refine q_iload_n 34 dX6_rule_33 rfl rfl ?_
        refine q_iconst (v := 1) 35 dX6_rule_34 rfl rfl ?_
        refine q_icmp_ne 44 38 dX6_rule_35 rfl rfl (fun h_35 => ?_) (fun h_35 => ?_)
        · skip
          refine q_ldc2 47 dX6_rule_44 rfl cl_X6_152 ?_
          refine q_callSt 50 dX6_rule_47 rfl (c6_isIn' _ _ (1) (100) _ _) cw_X6_65 rfl rfl ⟨by decide, by decide⟩ ⟨by decide, by decide⟩ (Nat.le_of_ble_eq_true rfl) ?_
          refine q_if_eq 64 53 dX6_rule_50 rfl rfl (fun h_50 => ?_) (fun h_50 => ?_)
          · skip
            simp only [bI_0, Classical.not_not] at h_50
            refine q_ldc 66 dX6_rule_64 rfl cs_X6_110 ?_
            refine q_iret dX6_rule_66 ?_
            unfold aRule sRule
            first | exact absurd h_24 h_15 | exact absurd h_15 h_24 | exact Pa_id (by rw [if_neg (fun q => by first | exact h_9 q.1 | exact h_50 (by simpa [h_15] using q.2) | exact h_50 (by simpa [h_15, h_35] using q.2))]) (if_neg (fun q => by first | exact h_9 q.1 | exact h_50 (by simpa [h_15] using q.2) | exact h_50 (by simpa [h_15, h_35] using q.2))) | (rw [if_pos ⟨h_9, by first | simpa [h_15] using h_50 | simpa [h_15, h_35] using h_50⟩, if_pos ⟨h_9, by first | simpa [h_15] using h_50 | simpa [h_15, h_35] using h_50⟩]; exact ⟨rfl, rfl⟩) | exact absurd h_24 h_15 | exact absurd h_15 h_24
          · skip
            simp only [bI_0, Classical.not_not] at h_50
            refine q_aload_n 54 dX6_rule_53 rfl rfl ?_
            refine q_iconst (v := 3) 55 dX6_rule_54 rfl rfl ?_
            refine q_iload_n 56 dX6_rule_55 rfl rfl ?_
            refine q_iadd 57 dX6_rule_56 rfl ?_
            refine q_iload_n 58 dX6_rule_57 rfl rfl ?_
            refine q_callVt 61 dX6_rule_58 rfl (c6_changes _ _ _ (3 + tn w) (ix_ad ew) (by omega)) cw_X6_138 (by decide) rfl rfl ⟨by decide, by decide⟩ ⟨by decide, by decide⟩ (Nat.le_of_ble_eq_true rfl) ?_
            refine q_goto 66 dX6_rule_61 rfl ?_
            refine q_iret dX6_rule_66 ?_
            unfold aRule sRule
            first | exact absurd h_24 h_15 | exact absurd h_15 h_24 | exact Pa_id (by rw [if_neg (fun q => by first | exact h_9 q.1 | exact h_50 (by simpa [h_15] using q.2) | exact h_50 (by simpa [h_15, h_35] using q.2))]) (if_neg (fun q => by first | exact h_9 q.1 | exact h_50 (by simpa [h_15] using q.2) | exact h_50 (by simpa [h_15, h_35] using q.2))) | (rw [if_pos ⟨h_9, by first | simpa [h_15] using h_50 | simpa [h_15, h_35] using h_50⟩, if_pos ⟨h_9, by first | simpa [h_15] using h_50 | simpa [h_15, h_35] using h_50⟩]; exact ⟨rfl, rfl⟩) | exact absurd h_24 h_15 | exact absurd h_15 h_24
        · skip
          refine q_ldc2 41 dX6_rule_38 rfl cl_X6_102 ?_
          refine q_goto 47 dX6_rule_41 rfl ?_
          refine q_callSt 50 dX6_rule_47 rfl (c6_isIn' _ _ (1) (99) _ _) cw_X6_65 rfl rfl ⟨by decide, by decide⟩ ⟨by decide, by decide⟩ (Nat.le_of_ble_eq_true rfl) ?_
          refine q_if_eq 64 53 dX6_rule_50 rfl rfl (fun h_50 => ?_) (fun h_50 => ?_)
          · skip
            simp only [bI_0, Classical.not_not] at h_50
            refine q_ldc 66 dX6_rule_64 rfl cs_X6_110 ?_
            refine q_iret dX6_rule_66 ?_
            unfold aRule sRule
            first | exact absurd h_24 h_15 | exact absurd h_15 h_24 | exact Pa_id (by rw [if_neg (fun q => by first | exact h_9 q.1 | exact h_50 (by simpa [h_15] using q.2) | exact h_50 (by simpa [h_15, h_35] using q.2))]) (if_neg (fun q => by first | exact h_9 q.1 | exact h_50 (by simpa [h_15] using q.2) | exact h_50 (by simpa [h_15, h_35] using q.2))) | (rw [if_pos ⟨h_9, by first | simpa [h_15] using h_50 | simpa [h_15, h_35] using h_50⟩, if_pos ⟨h_9, by first | simpa [h_15] using h_50 | simpa [h_15, h_35] using h_50⟩]; exact ⟨rfl, rfl⟩) | exact absurd h_24 h_15 | exact absurd h_15 h_24
          · skip
            simp only [bI_0, Classical.not_not] at h_50
            refine q_aload_n 54 dX6_rule_53 rfl rfl ?_
            refine q_iconst (v := 3) 55 dX6_rule_54 rfl rfl ?_
            refine q_iload_n 56 dX6_rule_55 rfl rfl ?_
            refine q_iadd 57 dX6_rule_56 rfl ?_
            refine q_iload_n 58 dX6_rule_57 rfl rfl ?_
            refine q_callVt 61 dX6_rule_58 rfl (c6_changes _ _ _ (3 + tn w) (ix_ad ew) (by omega)) cw_X6_138 (by decide) rfl rfl ⟨by decide, by decide⟩ ⟨by decide, by decide⟩ (Nat.le_of_ble_eq_true rfl) ?_
            refine q_goto 66 dX6_rule_61 rfl ?_
            refine q_iret dX6_rule_66 ?_
            unfold aRule sRule
            first | exact absurd h_24 h_15 | exact absurd h_15 h_24 | exact Pa_id (by rw [if_neg (fun q => by first | exact h_9 q.1 | exact h_50 (by simpa [h_15] using q.2) | exact h_50 (by simpa [h_15, h_35] using q.2))]) (if_neg (fun q => by first | exact h_9 q.1 | exact h_50 (by simpa [h_15] using q.2) | exact h_50 (by simpa [h_15, h_35] using q.2))) | (rw [if_pos ⟨h_9, by first | simpa [h_15] using h_50 | simpa [h_15, h_35] using h_50⟩, if_pos ⟨h_9, by first | simpa [h_15] using h_50 | simpa [h_15, h_35] using h_50⟩]; exact ⟨rfl, rfl⟩) | exact absurd h_24 h_15 | exact absurd h_15 h_24
      · skip
        refine q_ldc2 30 dX6_rule_27 rfl cl_X6_150 ?_
        refine q_goto 47 dX6_rule_30 rfl ?_
        refine q_callSt 50 dX6_rule_47 rfl (c6_isIn' _ _ (1) (9) _ _) cw_X6_65 rfl rfl ⟨by decide, by decide⟩ ⟨by decide, by decide⟩ (Nat.le_of_ble_eq_true rfl) ?_
        refine q_if_eq 64 53 dX6_rule_50 rfl rfl (fun h_50 => ?_) (fun h_50 => ?_)
        · skip
          simp only [bI_0, Classical.not_not] at h_50
          refine q_ldc 66 dX6_rule_64 rfl cs_X6_110 ?_
          refine q_iret dX6_rule_66 ?_
          unfold aRule sRule
          first | exact absurd h_24 h_15 | exact absurd h_15 h_24 | exact Pa_id (by rw [if_neg (fun q => by first | exact h_9 q.1 | exact h_50 (by simpa [h_15] using q.2) | exact h_50 (by simpa [h_15, h_35] using q.2))]) (if_neg (fun q => by first | exact h_9 q.1 | exact h_50 (by simpa [h_15] using q.2) | exact h_50 (by simpa [h_15, h_35] using q.2))) | (rw [if_pos ⟨h_9, by first | simpa [h_15] using h_50 | simpa [h_15, h_35] using h_50⟩, if_pos ⟨h_9, by first | simpa [h_15] using h_50 | simpa [h_15, h_35] using h_50⟩]; exact ⟨rfl, rfl⟩) | exact absurd h_24 h_15 | exact absurd h_15 h_24
        · skip
          simp only [bI_0, Classical.not_not] at h_50
          refine q_aload_n 54 dX6_rule_53 rfl rfl ?_
          refine q_iconst (v := 3) 55 dX6_rule_54 rfl rfl ?_
          refine q_iload_n 56 dX6_rule_55 rfl rfl ?_
          refine q_iadd 57 dX6_rule_56 rfl ?_
          refine q_iload_n 58 dX6_rule_57 rfl rfl ?_
          refine q_callVt 61 dX6_rule_58 rfl (c6_changes _ _ _ (3 + tn w) (ix_ad ew) (by omega)) cw_X6_138 (by decide) rfl rfl ⟨by decide, by decide⟩ ⟨by decide, by decide⟩ (Nat.le_of_ble_eq_true rfl) ?_
          refine q_goto 66 dX6_rule_61 rfl ?_
          refine q_iret dX6_rule_66 ?_
          unfold aRule sRule
          first | exact absurd h_24 h_15 | exact absurd h_15 h_24 | exact Pa_id (by rw [if_neg (fun q => by first | exact h_9 q.1 | exact h_50 (by simpa [h_15] using q.2) | exact h_50 (by simpa [h_15, h_35] using q.2))]) (if_neg (fun q => by first | exact h_9 q.1 | exact h_50 (by simpa [h_15] using q.2) | exact h_50 (by simpa [h_15, h_35] using q.2))) | (rw [if_pos ⟨h_9, by first | simpa [h_15] using h_50 | simpa [h_15, h_35] using h_50⟩, if_pos ⟨h_9, by first | simpa [h_15] using h_50 | simpa [h_15, h_35] using h_50⟩]; exact ⟨rfl, rfl⟩) | exact absurd h_24 h_15 | exact absurd h_15 h_24
set_option maxRecDepth 100000 in
set_option maxHeartbeats 4000000 in
theorem c6_seed {g : GT} (M : TM) (v : Int32) (s : SS) (hs : M 31 0 = s) : Cn g yX6_seed cX6_seed 2 (some .int) 1 [.ref (gad g 6 0), .int v] M (Pa (s 8) M (upd s 8 v)) := by
  refine Cn.ofTR (by decide +kernel) (Nat.le_of_ble_eq_true rfl) ?_
  subst hs
  refine q_aload_n 1 dX6_seed_0 rfl rfl ?_
  refine q_bipush (v := 8) 3 dX6_seed_1 rfl rfl ?_
  refine q_iload_n 4 dX6_seed_3 rfl rfl ?_
  refine q_callVt 7 dX6_seed_4 rfl (c6_changes _ _ _ 8 rfl (by decide)) cw_X6_138 (by decide) rfl rfl ⟨by decide, by decide⟩ ⟨by decide, by decide⟩ (Nat.le_of_ble_eq_true rfl) ?_
  refine q_iret dX6_seed_7 ?_
  exact ⟨rfl, rfl⟩
