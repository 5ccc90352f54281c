/-! THE CLASS: the fewest marks -/
set_option maxRecDepth 100000 in
set_option maxHeartbeats 4000000 in
theorem l5_sumOf {g : GT} (M : TM) (x : Int32) (a : Nat) (hx : x = nI a) (ha : a < 1024) : ∀ (j : Nat) (k : Nat) (y o : Int32), 10 - k < j → k ≤ 10 → y = nI k → o = sumS (M 30 0) a.testBit k → TR g (rmD 0) RX5 cX5_sumOf 4 (some .int) 0 0 (Zm g (Rt (.int (sumS (M 30 0) a.testBit 10)) M)) 4 [some (.ref (gad g 5 0)), some (.int x), some (.int o), some (.int y)] [] M := by
  intro j
  induction j with
  | zero => intro k y o hj hk hy ho; exact absurd hj (by omega)
  | succ j ih =>
    intro k y o hj hk hy ho
    subst hy
    refine q_iload_n 5 dX5_sumOf_4 rfl rfl ?_
    refine q_bipush (v := 10) 7 dX5_sumOf_5 rfl rfl ?_
    refine q_icmp_ge 33 10 dX5_sumOf_7 rfl rfl (fun h_7 => ?_) (fun h_7 => ?_)
    · skip
      rw [show (10 : Int32) = nI 10 from rfl, nI_leI (by omega) (by omega)] at h_7
      refine q_iload_n 34 dX5_sumOf_33 rfl rfl ?_
      refine q_iret dX5_sumOf_34 ?_
      exact ⟨by rw [ho, show k = 10 by omega], rfl⟩
    · skip
      rw [show (10 : Int32) = nI 10 from rfl, nI_leI (by omega) (by omega)] at h_7
      refine q_iload_n 11 dX5_sumOf_10 rfl rfl ?_
      refine q_iload_n 12 dX5_sumOf_11 rfl rfl ?_
      refine q_ishr 13 dX5_sumOf_12 rfl ?_
      refine q_iconst (v := 1) 14 dX5_sumOf_13 rfl rfl ?_
      refine q_iand 15 dX5_sumOf_14 rfl ?_
      refine q_if_eq 27 18 dX5_sumOf_15 rfl rfl (fun h_15 => ?_) (fun h_15 => ?_)
      · skip
        rw [hx, bit_at (by omega) (by omega), bI_0] at h_15
        refine q_iinc 30 dX5_sumOf_27 rfl rfl (by decide) rfl (nI_1 k) ?_
        refine q_goto 4 dX5_sumOf_30 rfl ?_
        first
        | (have hq := sum_f (f := M 30 0) h_15; exact q_fg (ih (k + 1) _ _ (by omega) (by omega) rfl (by rw [ho, ← hq, Int32.add_zero])) ⟨rfl, rfl, rfl, rfl, trivial⟩)
        | (have hq := sum_t (f := M 30 0) (Classical.not_not.mp h_15); exact q_fg (ih (k + 1) _ _ (by omega) (by omega) rfl (by rw [ho]; exact hq)) ⟨rfl, rfl, rfl, rfl, trivial⟩)
      · skip
        rw [hx, bit_at (by omega) (by omega), bI_0] at h_15
        refine q_iload_n 19 dX5_sumOf_18 rfl rfl ?_
        refine q_aload_n 20 dX5_sumOf_19 rfl rfl ?_
        refine q_getR 23 dX5_sumOf_20 rfl fl_X5_57 (by decide) rfl rfl ?_
        refine q_iload_n 24 dX5_sumOf_23 rfl rfl ?_
        refine q_iald 25 dX5_sumOf_24 rfl (by decide) (by decide) rfl (show k < 10 by omega) ?_
        refine q_iadd 26 dX5_sumOf_25 rfl ?_
        refine q_istore_n 27 dX5_sumOf_26 rfl (by decide) rfl ?_
        refine q_iinc 30 dX5_sumOf_27 rfl rfl (by decide) rfl (nI_1 k) ?_
        refine q_goto 4 dX5_sumOf_30 rfl ?_
        first
        | (have hq := sum_f (f := M 30 0) h_15; exact q_fg (ih (k + 1) _ _ (by omega) (by omega) rfl (by rw [ho, ← hq, Int32.add_zero])) ⟨rfl, rfl, rfl, rfl, trivial⟩)
        | (have hq := sum_t (f := M 30 0) (Classical.not_not.mp h_15); exact q_fg (ih (k + 1) _ _ (by omega) (by omega) rfl (by rw [ho]; exact hq)) ⟨rfl, rfl, rfl, rfl, trivial⟩)
set_option maxRecDepth 100000 in
set_option maxHeartbeats 4000000 in
theorem c5_sumOf {g : GT} (M : TM) (x : Int32) (a : Nat) (hx : x = nI a) (ha : a < 1024) : Cn g yX5_sumOf cX5_sumOf 4 (some .int) 0 [.ref (gad g 5 0), .int x] M (Rt (.int (sumS (M 30 0) a.testBit 10)) M) := by
  refine Cn.ofTR (by decide +kernel) (Nat.le_of_ble_eq_true rfl) ?_
  refine q_iconst (v := 0) 1 dX5_sumOf_0 rfl rfl ?_
  refine q_istore_n 2 dX5_sumOf_1 rfl (by decide) rfl ?_
  refine q_iconst (v := 0) 3 dX5_sumOf_2 rfl rfl ?_
  refine q_istore_n 4 dX5_sumOf_3 rfl (by decide) rfl ?_
  exact q_fg (l5_sumOf M x a hx ha 11 0 _ _ (by omega) (by omega) rfl rfl) ⟨rfl, rfl, rfl, rfl, trivial⟩
theorem sumS_hi {f : Nat → Int32} {a n : Nat} (ha : a < 2 ^ n) : ∀ k, n ≤ k → sumS f a.testBit k = sumS f a.testBit n
  | 0, h => by rw [Nat.le_zero.mp h]
  | k + 1, h => by
    by_cases e : n = k + 1
    · rw [e]
    · show sumS f a.testBit k + (if a.testBit k = true then f k else 0) = _
      rw [if_neg (by rw [Nat.testBit_lt_two_pow (Nat.lt_of_lt_of_le ha (Nat.pow_le_pow_right (by decide) (by omega)))]; decide), Int32.add_zero]
      exact sumS_hi ha k (by omega)
def beF (x : Int32) : Int32 := if x < 0 then NONEc else x
def fwF (x : Int32) : Int32 := if x < 0 then 11 else nI (popc (tn x))
theorem fw_iff (x : Int32) (j : Nat) : nI (popc j) < fwF x ↔ (x < 0 ∨ popc j < popc (tn x)) := by
  have h1 := popc_le j
  have h2 := popc_le (tn x)
  unfold fwF
  by_cases h : x < 0
  · rw [if_pos h]
    refine ⟨fun _ => Or.inl h, fun _ => ?_⟩
    rw [show (11 : Int32) = nI 11 from rfl, nI_ltI (by omega) (by omega)]; omega
  · rw [if_neg h, nI_ltI (by omega) (by omega)]
    exact ⟨Or.inr, fun q => q.resolve_left h⟩
theorem be_none {sh : Nat → Int32} {n : Nat} {v : Int32} {j : Nat} (hj : j ≤ 1024) : beF (feF sh n v j) = NONEc ↔ feF sh n v j < 0 := by
  unfold beF
  rcases feF_ok sh n v j hj with q | ⟨a, h1, h2⟩
  · rw [q]; decide
  · have hp : ¬ nI a < 0 := nI_pos (by omega)
    rw [h2, if_neg hp]
    exact ⟨fun e => absurd (e ▸ hp) (by decide), fun e => absurd e hp⟩
theorem fe_t {sh : Nat → Int32} {n : Nat} {v : Int32} {j : Nat} (h1 : feF sh n v j < 0 ∨ popc j < popc (tn (feF sh n v j))) (h2 : v ≤ sumS sh j.testBit n) : feF sh n v (j + 1) = nI j := if_pos ⟨h1, h2⟩
theorem fe_f {sh : Nat → Int32} {n : Nat} {v : Int32} {j : Nat} (h : ¬ ((feF sh n v j < 0 ∨ popc j < popc (tn (feF sh n v j))) ∧ v ≤ sumS sh j.testBit n)) : feF sh n v (j + 1) = feF sh n v j := if_neg h
theorem be_p {a : Nat} (h : a < 2000) : beF (nI a) = nI a ∧ fwF (nI a) = nI (popc a) := by
  have hp : ¬ nI a < 0 := nI_pos (by omega)
  unfold beF fwF
  rw [if_neg hp, if_neg hp, show tn (nI a) = a from nI_clamp (by omega)]; exact ⟨rfl, rfl⟩
set_option maxRecDepth 100000 in
set_option maxHeartbeats 4000000 in
theorem l5_few2 {g : GT} (N : TM) (v w : Int32) (s : SS) (h10 : nN s ≤ 10) (e11 : N 4 0 11 = nI (nN s)) (hb : ∀ i, i < nN s → N 30 0 i = shF s i) (hv : (0 ≤ v ∧ v ≤ 999) ∧ (0 ≤ w ∧ w ≤ 1)) : ∀ (j : Nat) (k : Nat) (b f y : Int32), 2 ^ nN s - k < j → k ≤ 2 ^ nN s → b = beF (feF (shF s) (nN s) v k) → f = fwF (feF (shF s) (nN s) v k) → y = nI k → TR g (rmD 4) RX5 cX5_fewest 7 (some .int) 0 0 (Zm g (Rt (.int (aFewest s v w)) N)) 66 [some (.ref (gad g 5 0)), some (.int v), some (.int w), some (.int b), some (.int f), some (.int y), none] [] N := by
  intro j
  induction j with
  | zero => intro k b f y hj hk hb1 hf1 hy; exact absurd hj (by omega)
  | succ j ih =>
    intro k b f y hj hk hb1 hf1 hy
    subst hy
    have hp10 := pw10 h10
    have esh : (1 : Int32) <<< (N 4 0 11 &&& 31) = nI (2 ^ nN s) := by rw [e11]; exact one_shl _ (by omega)
    refine q_iload 68 dX5_fewest_66 rfl rfl ?_
    refine q_iconst (v := 1) 69 dX5_fewest_68 rfl rfl ?_
    refine q_aload_n 70 dX5_fewest_69 rfl rfl ?_
    refine q_getR 73 dX5_fewest_70 rfl fl_X5_21 (by decide) rfl rfl ?_
    refine q_getI 76 dX5_fewest_73 rfl fl_X5_74 (by decide) rfl (by decide) ?_
    refine q_ishl 77 dX5_fewest_76 rfl ?_
    refine q_icmp_ge 117 80 dX5_fewest_77 rfl rfl (fun h_77 => ?_) (fun h_77 => ?_)
    · skip
      rw [esh, nI_leI (by omega) (by omega)] at h_77
      refine q_iload_n 118 dX5_fewest_117 rfl rfl ?_
      refine q_ldc 120 dX5_fewest_118 rfl cs_X5_161 ?_
      refine q_icmp_ne 126 123 dX5_fewest_120 rfl rfl (fun h_120 => ?_) (fun h_120 => ?_)
      · skip
        refine q_iload_n 127 dX5_fewest_126 rfl rfl ?_
        refine q_if_ne 134 130 dX5_fewest_127 rfl rfl (fun h_127 => ?_) (fun h_127 => ?_)
        · skip
          refine q_iload 136 dX5_fewest_134 rfl rfl ?_
          refine q_iret dX5_fewest_136 ?_
          have e : k = 2 ^ nN s := by omega
          rw [e] at hb1 hf1
          refine ⟨congrArg (fun x => some (Value.int x)) ?_, rfl⟩
          unfold aFewest
          rw [if_pos hv]
          rw [hb1, be_none hp10] at h_120
          first
          | (have hq : feF (shF s) (nN s) v (2 ^ nN s) < 0 := h_120; rw [if_pos hq]; done)
          | (have hw0 : ¬ w = 0 := h_127; rw [if_neg h_120, if_neg hw0, hf1]; unfold fwF; rw [if_neg h_120]; done)
          | (rw [if_neg h_120, if_pos h_127, hb1]; unfold beF; rw [if_neg h_120]; done)
        · skip
          refine q_iload_n 131 dX5_fewest_130 rfl rfl ?_
          refine q_goto 136 dX5_fewest_131 rfl ?_
          refine q_iret dX5_fewest_136 ?_
          have e : k = 2 ^ nN s := by omega
          rw [e] at hb1 hf1
          refine ⟨congrArg (fun x => some (Value.int x)) ?_, rfl⟩
          unfold aFewest
          rw [if_pos hv]
          rw [hb1, be_none hp10] at h_120
          first
          | (have hq : feF (shF s) (nN s) v (2 ^ nN s) < 0 := h_120; rw [if_pos hq]; done)
          | (have hw0 : ¬ w = 0 := h_127; rw [if_neg h_120, if_neg hw0, hf1]; unfold fwF; rw [if_neg h_120]; done)
          | (rw [if_neg h_120, if_pos h_127, hb1]; unfold beF; rw [if_neg h_120]; done)
      · skip
        refine q_ldc 125 dX5_fewest_123 rfl cs_X5_161 ?_
        refine q_iret dX5_fewest_125 ?_
        have e : k = 2 ^ nN s := by omega
        rw [e] at hb1 hf1
        refine ⟨congrArg (fun x => some (Value.int x)) ?_, rfl⟩
        unfold aFewest
        rw [if_pos hv]
        rw [hb1, be_none hp10] at h_120
        first
        | (have hq : feF (shF s) (nN s) v (2 ^ nN s) < 0 := h_120; rw [if_pos hq]; done)
        | (have hw0 : ¬ w = 0 := h_127; rw [if_neg h_120, if_neg hw0, hf1]; unfold fwF; rw [if_neg h_120]; done)
        | (rw [if_neg h_120, if_pos h_127, hb1]; unfold beF; rw [if_neg h_120]; done)
    · skip
      rw [esh, nI_leI (by omega) (by omega)] at h_77
      have hk2 : k < 2 ^ nN s := by omega
      have esum : sumS (N 30 0) k.testBit 10 = sumS (shF s) k.testBit (nN s) := by rw [sumS_hi hk2 10 h10]; exact sumS_congr _ (fun i hi => ⟨rfl, hb i hi⟩)
      refine q_iload 82 dX5_fewest_80 rfl rfl ?_
      refine q_callSt 85 dX5_fewest_82 rfl (cJ_bitCount _ _ k rfl (by omega)) cw_X5_162 rfl rfl ⟨by decide, by decide⟩ ⟨by decide, by decide⟩ (Nat.le_of_ble_eq_true rfl) ?_
      refine q_istore 87 dX5_fewest_85 rfl (by decide) rfl ?_
      refine q_iload 89 dX5_fewest_87 rfl rfl ?_
      refine q_iload 91 dX5_fewest_89 rfl rfl ?_
      refine q_icmp_ge 111 94 dX5_fewest_91 rfl rfl (fun h_91 => ?_) (fun h_91 => ?_)
      · skip
        rw [hf1] at h_91
        refine q_iinc 114 dX5_fewest_111 rfl rfl (by decide) rfl (nI_1 k) ?_
        refine q_goto 66 dX5_fewest_114 rfl ?_
        first
        | (have hq := fe_f (sh := shF s) (n := nN s) (v := v) (j := k) (fun q => absurd ((fw_iff _ k).mpr q.1) (Int32.not_lt.mpr h_91)); exact q_fg (ih (k + 1) _ _ _ (by omega) (by omega) (by rw [hq]; exact hb1) (by rw [hq]; exact hf1) rfl) ⟨rfl, rfl, rfl, rfl, rfl, rfl, trivial⟩)
        | (have hq := fe_f (sh := shF s) (n := nN s) (v := v) (j := k) (fun q => absurd q.2 (Int32.not_le.mpr h_101)); exact q_fg (ih (k + 1) _ _ _ (by omega) (by omega) (by rw [hq]; exact hb1) (by rw [hq]; exact hf1) rfl) ⟨rfl, rfl, rfl, rfl, rfl, rfl, trivial⟩)
        | (have hq := fe_t (sh := shF s) (n := nN s) (v := v) (j := k) ((fw_iff _ k).mp (Int32.not_le.mp h_91)) (Int32.not_lt.mp h_101); exact q_fg (ih (k + 1) _ _ _ (by omega) (by omega) (by rw [hq]; exact (be_p (by omega)).1.symm) (by rw [hq]; exact (be_p (by omega)).2.symm) rfl) ⟨rfl, rfl, rfl, rfl, rfl, rfl, trivial⟩)
      · skip
        rw [hf1] at h_91
        refine q_aload_n 95 dX5_fewest_94 rfl rfl ?_
        refine q_iload 97 dX5_fewest_95 rfl rfl ?_
        refine q_callVt 100 dX5_fewest_97 rfl (c5_sumOf _ _ k rfl (by omega)) cw_X5_167 (by decide) rfl rfl ⟨by decide, by decide⟩ ⟨by decide, by decide⟩ (Nat.le_of_ble_eq_true rfl) ?_
        refine q_iload_n 101 dX5_fewest_100 rfl rfl ?_
        refine q_icmp_lt 111 104 dX5_fewest_101 rfl rfl (fun h_101 => ?_) (fun h_101 => ?_)
        · skip
          rw [esum] at h_101
          refine q_iinc 114 dX5_fewest_111 rfl rfl (by decide) rfl (nI_1 k) ?_
          refine q_goto 66 dX5_fewest_114 rfl ?_
          first
          | (have hq := fe_f (sh := shF s) (n := nN s) (v := v) (j := k) (fun q => absurd ((fw_iff _ k).mpr q.1) (Int32.not_lt.mpr h_91)); exact q_fg (ih (k + 1) _ _ _ (by omega) (by omega) (by rw [hq]; exact hb1) (by rw [hq]; exact hf1) rfl) ⟨rfl, rfl, rfl, rfl, rfl, rfl, trivial⟩)
          | (have hq := fe_f (sh := shF s) (n := nN s) (v := v) (j := k) (fun q => absurd q.2 (Int32.not_le.mpr h_101)); exact q_fg (ih (k + 1) _ _ _ (by omega) (by omega) (by rw [hq]; exact hb1) (by rw [hq]; exact hf1) rfl) ⟨rfl, rfl, rfl, rfl, rfl, rfl, trivial⟩)
          | (have hq := fe_t (sh := shF s) (n := nN s) (v := v) (j := k) ((fw_iff _ k).mp (Int32.not_le.mp h_91)) (Int32.not_lt.mp h_101); exact q_fg (ih (k + 1) _ _ _ (by omega) (by omega) (by rw [hq]; exact (be_p (by omega)).1.symm) (by rw [hq]; exact (be_p (by omega)).2.symm) rfl) ⟨rfl, rfl, rfl, rfl, rfl, rfl, trivial⟩)
        · skip
          rw [esum] at h_101
          refine q_iload 106 dX5_fewest_104 rfl rfl ?_
          refine q_istore_n 107 dX5_fewest_106 rfl (by decide) rfl ?_
          refine q_iload 109 dX5_fewest_107 rfl rfl ?_
          refine q_istore 111 dX5_fewest_109 rfl (by decide) rfl ?_
          refine q_iinc 114 dX5_fewest_111 rfl rfl (by decide) rfl (nI_1 k) ?_
          refine q_goto 66 dX5_fewest_114 rfl ?_
          first
          | (have hq := fe_f (sh := shF s) (n := nN s) (v := v) (j := k) (fun q => absurd ((fw_iff _ k).mpr q.1) (Int32.not_lt.mpr h_91)); exact q_fg (ih (k + 1) _ _ _ (by omega) (by omega) (by rw [hq]; exact hb1) (by rw [hq]; exact hf1) rfl) ⟨rfl, rfl, rfl, rfl, rfl, rfl, trivial⟩)
          | (have hq := fe_f (sh := shF s) (n := nN s) (v := v) (j := k) (fun q => absurd q.2 (Int32.not_le.mpr h_101)); exact q_fg (ih (k + 1) _ _ _ (by omega) (by omega) (by rw [hq]; exact hb1) (by rw [hq]; exact hf1) rfl) ⟨rfl, rfl, rfl, rfl, rfl, rfl, trivial⟩)
          | (have hq := fe_t (sh := shF s) (n := nN s) (v := v) (j := k) ((fw_iff _ k).mp (Int32.not_le.mp h_91)) (Int32.not_lt.mp h_101); exact q_fg (ih (k + 1) _ _ _ (by omega) (by omega) (by rw [hq]; exact (be_p (by omega)).1.symm) (by rw [hq]; exact (be_p (by omega)).2.symm) rfl) ⟨rfl, rfl, rfl, rfl, rfl, rfl, trivial⟩)
set_option maxRecDepth 100000 in
set_option maxHeartbeats 4000000 in
theorem l5_few1 {g : GT} (M : TM) (v w : Int32) (s : SS) (hR : RW M 0 s) (hW : Wm s) (hT : RT M s) (hv : (0 ≤ v ∧ v ≤ 999) ∧ (0 ≤ w ∧ w ≤ 1)) : ∀ (j : Nat) (k : Nat) (p : Nat → Int32) (y : Int32), nN s - k < j → k ≤ nN s → y = nI k → TR g (rmD 4) RX5 cX5_fewest 7 (some .int) 0 0 (Zm g (fun r M' => r = some (.int (aFewest s v w)) ∧ ∃ p F, M' = putA (putA M 17 0 p) 30 0 F)) 25 [some (.ref (gad g 5 0)), some (.int v), some (.int w), some (.int y), none, none, none] [] (putA (putA M 17 0 p) 30 0 (mixF (shF s) (M 30 0) k)) := by
  intro j
  induction j with
  | zero => intro k p y hj hk hy; exact absurd hj (by omega)
  | succ j ih =>
    intro k p y hj hk hy
    subst hy
    have h10 := hW.1.2
    have e11 : (putA (putA M 17 0 p) 30 0 (mixF (shF s) (M 30 0) k)) 4 0 11 = nI (nN s) := hR.1.2.1.1
    refine q_iload_n 26 dX5_fewest_25 rfl rfl ?_
    refine q_aload_n 27 dX5_fewest_26 rfl rfl ?_
    refine q_getR 30 dX5_fewest_27 rfl fl_X5_21 (by decide) rfl rfl ?_
    refine q_getI 33 dX5_fewest_30 rfl fl_X5_74 (by decide) rfl (by decide) ?_
    refine q_icmp_ge 56 36 dX5_fewest_33 rfl rfl (fun h_33 => ?_) (fun h_33 => ?_)
    · skip
      rw [e11, nI_leI (by omega) (by omega)] at h_33
      refine q_ldc 58 dX5_fewest_56 rfl cs_X5_161 ?_
      refine q_istore_n 59 dX5_fewest_58 rfl (by decide) rfl ?_
      refine q_bipush (v := 11) 61 dX5_fewest_59 rfl rfl ?_
      refine q_istore 63 dX5_fewest_61 rfl (by decide) rfl ?_
      refine q_iconst (v := 0) 64 dX5_fewest_63 rfl rfl ?_
      refine q_istore 66 dX5_fewest_64 rfl (by decide) rfl ?_
      have e : k = nN s := by omega
      refine TR_post (q_fg (l5_few2 _ v w s h10 e11 (fun i hi => by rw [putA_s, mix_lo _ _ (by omega)]) hv (2 ^ nN s + 1) 0 _ _ _ (Nat.lt_succ_of_le (Nat.sub_le _ _)) (Nat.zero_le _) rfl rfl rfl) ⟨rfl, rfl, rfl, rfl, rfl, rfl, trivial⟩) ?_
      rintro _ _ ⟨rfl, rfl⟩
      exact ⟨rfl, p, _, rfl⟩
    · skip
      rw [e11, nI_leI (by omega) (by omega)] at h_33
      refine q_aload_n 37 dX5_fewest_36 rfl rfl ?_
      refine q_getR 40 dX5_fewest_37 rfl fl_X5_57 (by decide) rfl rfl ?_
      refine q_iload_n 41 dX5_fewest_40 rfl rfl ?_
      refine q_aload_n 42 dX5_fewest_41 rfl rfl ?_
      refine q_getR 45 dX5_fewest_42 rfl fl_X5_21 (by decide) rfl rfl ?_
      refine q_iload_n 46 dX5_fewest_45 rfl rfl ?_
      refine q_callV 49 dX5_fewest_46 rfl (c4_shows _ 0 (by decide) _ k k rfl (by omega) (by omega) s hR.1.1 (hR.1.2.2 k (by omega)).2 hW hT) cw_X5_101 (by decide) rfl rfl ⟨by decide, by decide⟩ ⟨by decide, by decide⟩ (Nat.le_of_ble_eq_true rfl) ?_
      rintro _ _ ⟨rfl, p2, rfl⟩
      refine q_iast 50 dX5_fewest_49 rfl (by decide) (by decide) rfl (show k < 10 by omega) ?_
      refine q_iinc 53 dX5_fewest_50 rfl rfl (by decide) rfl (nI_1 k) ?_
      refine q_goto 25 dX5_fewest_53 rfl ?_
      refine q_eqM (M' := putA (putA M 17 0 p2) 30 0 (mixF (shF s) (M 30 0) (k + 1))) ?_ (q_fg (ih (k + 1) p2 _ (by omega) (by omega) rfl) ⟨rfl, rfl, rfl, rfl, trivial⟩)
      rw [putA_nt _ _ _ _ (show (30 : Nat) ≠ 17 by decide), putA_s, mixF_s, putA_cm (putA M 17 0 p) _ p2 (by decide), putA_pp, putA_pp]
set_option maxRecDepth 100000 in
set_option maxHeartbeats 4000000 in
theorem c5_fewest {g : GT} (M : TM) (v w : Int32) (s : SS) (hR : RW M 0 s) (hW : WF 9999 s) (hT : RT M s) : Cn g yX5_fewest cX5_fewest 7 (some .int) 4 [.ref (gad g 5 0), .int v, .int w] M (fun r M' => r = some (.int (aFewest s v w)) ∧ ∃ p F, M' = putA (putA M 17 0 p) 30 0 F) := by
  refine Cn.ofTR (by decide +kernel) (Nat.le_of_ble_eq_true rfl) ?_
  refine q_iload_n 1 dX5_fewest_0 rfl rfl ?_
  refine q_iconst (v := 0) 2 dX5_fewest_1 rfl rfl ?_
  refine q_sipush (v := 999) 5 dX5_fewest_2 rfl rfl ?_
  refine q_callSt 8 dX5_fewest_5 rfl (c5_within _ _ _ _) cw_X5_66 rfl rfl ⟨by decide, by decide⟩ ⟨by decide, by decide⟩ (Nat.le_of_ble_eq_true rfl) ?_
  refine q_if_eq 20 11 dX5_fewest_8 rfl rfl (fun h_8 => ?_) (fun h_8 => ?_)
  · skip
    simp only [bI_0, Classical.not_not] at h_8
    refine q_ldc 22 dX5_fewest_20 rfl cs_X5_73 ?_
    refine q_iret dX5_fewest_22 ?_
    refine ⟨congrArg (fun x => some (Value.int x)) ?_, M 17 0, M 30 0, by rw [putA_id, putA_id]⟩
    unfold aFewest
    rw [if_neg (fun q => by first | exact h_8 q.1 | exact h_17 q.2)]
  · skip
    simp only [bI_0, Classical.not_not] at h_8
    refine q_iload_n 12 dX5_fewest_11 rfl rfl ?_
    refine q_iconst (v := 0) 13 dX5_fewest_12 rfl rfl ?_
    refine q_iconst (v := 1) 14 dX5_fewest_13 rfl rfl ?_
    refine q_callSt 17 dX5_fewest_14 rfl (c5_within _ _ _ _) cw_X5_66 rfl rfl ⟨by decide, by decide⟩ ⟨by decide, by decide⟩ (Nat.le_of_ble_eq_true rfl) ?_
    refine q_if_ne 23 20 dX5_fewest_17 rfl rfl (fun h_17 => ?_) (fun h_17 => ?_)
    · skip
      simp only [bI_0, Classical.not_not] at h_17
      refine q_iconst (v := 0) 24 dX5_fewest_23 rfl rfl ?_
      refine q_istore_n 25 dX5_fewest_24 rfl (by decide) rfl ?_
      refine q_eqM (M' := putA (putA M 17 0 (M 17 0)) 30 0 (mixF (shF s) (M 30 0) 0)) (by rw [mixF_0, putA_id, putA_id]) (q_fg (l5_few1 M v w s hR hW.m hT ⟨h_8, h_17⟩ (nN s + 1) 0 _ _ (by omega) (by omega) rfl) ⟨rfl, rfl, rfl, rfl, trivial⟩)
    · skip
      simp only [bI_0, Classical.not_not] at h_17
      refine q_ldc 22 dX5_fewest_20 rfl cs_X5_73 ?_
      refine q_iret dX5_fewest_22 ?_
      refine ⟨congrArg (fun x => some (Value.int x)) ?_, M 17 0, M 30 0, by rw [putA_id, putA_id]⟩
      unfold aFewest
      rw [if_neg (fun q => by first | exact h_8 q.1 | exact h_17 q.2)]
