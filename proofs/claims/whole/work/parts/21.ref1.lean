theorem ix_tx {a : Nat} {x : Int32} (hx : x = nI a) : 71 + 200 * x = nI (71 + 200 * a) := by
  subst hx
  rw [show (71 : Int32) = nI 71 from rfl, show (200 : Int32) = nI 200 from rfl, pk_mul, nI_add]
theorem ix_ad {a : Nat} {x : Int32} {y : Int32} {b : Nat} (hx : x = nI a) (hy : y = nI b := by rfl) : y + x = nI (b + a) := by
  subst hx; subst hy; exact nI_add _ _
set_option maxRecDepth 100000 in
set_option maxHeartbeats 4000000 in
theorem l6_many {g : GT} (M : TM) (a0 : Int32) : ∀ (j : Nat) (a m : Nat) (x y : Int32), a < j → a < 1024 → x = nI a → y = nI m → TR g (rmD 0) RX6 cX6_many 3 (some .int) 0 0 (Zm g (Rt (.int (nI (m + popc a))) M)) 4 [some (.int a0), some (.int y), some (.int x)] [] M := by
  intro j
  induction j with
  | zero => intro a m x y hj ha hx hy; exact absurd hj (by omega)
  | succ j ih =>
    intro a m x y hj ha hx hy
    refine q_iload_n 5 dX6_many_4 rfl rfl ?_
    refine q_if_eq 20 8 dX6_many_5 rfl rfl (fun h_5 => ?_) (fun h_5 => ?_)
    · skip
      have e : a = 0 := nI_inj (by omega) (by decide) (hx.symm.trans h_5)
      subst e
      refine q_iload_n 21 dX6_many_20 rfl rfl ?_
      refine q_iret dX6_many_21 ?_
      exact ⟨by rw [hy]; rfl, rfl⟩
    · skip
      have e : a ≠ 0 := fun q => h_5 (by rw [hx, q]; rfl)
      obtain ⟨e1, e2⟩ := popc_step a ha e
      subst hx; subst hy
      refine q_iinc 11 dX6_many_8 rfl rfl (by decide) rfl (nI_1 m) ?_
      refine q_iload_n 12 dX6_many_11 rfl rfl ?_
      refine q_iload_n 13 dX6_many_12 rfl rfl ?_
      refine q_iconst (v := 1) 14 dX6_many_13 rfl rfl ?_
      refine q_isub 15 dX6_many_14 rfl ?_
      refine q_iand 16 dX6_many_15 rfl ?_
      refine q_istore_n 17 dX6_many_16 rfl (by decide) rfl ?_
      refine q_goto 4 dX6_many_17 rfl ?_
      have q := ih (a &&& (a - 1)) (m + 1) _ _ (by omega) (by omega) (nI_and1 ha e) rfl
      rw [show m + 1 + popc (a &&& (a - 1)) = m + popc a by omega] at q
      exact q_fg q ⟨rfl, rfl, rfl, trivial⟩
set_option maxRecDepth 100000 in
set_option maxHeartbeats 4000000 in
theorem c6_many {g : GT} (M : TM) (x : Int32) (a : Nat) (hx : x = nI a) (ha : a < 1024) : Cn g yX6_many cX6_many 3 (some .int) 0 [.int x] M (Rt (.int (nI (popc a))) M) := by
  refine Cn.ofTR (by decide +kernel) (Nat.le_of_ble_eq_true rfl) ?_
  refine q_iconst (v := 0) 1 dX6_many_0 rfl rfl ?_
  refine q_istore_n 2 dX6_many_1 rfl (by decide) rfl ?_
  refine q_iload_n 3 dX6_many_2 rfl rfl ?_
  refine q_istore_n 4 dX6_many_3 rfl (by decide) rfl ?_
  have q := l6_many M x (g := g) (a + 1) a 0 x 0 (by omega) ha hx rfl
  rw [Nat.zero_add] at q
  exact q_fg q ⟨rfl, rfl, rfl, trivial⟩
set_option maxRecDepth 100000 in
set_option maxHeartbeats 4000000 in
theorem l6_marksIn {g : GT} (M : TM) (c : Int32) (s : SS) (hs : M 31 0 = s) (n : Nat) (hn : s 0 = nI n) (h10 : n ≤ 10) : ∀ (j : Nat) (k : Nat) (x y : Int32), n - k < j → k ≤ n → x = nI (setC (inC s c) k) → y = nI k → TR g (rmD 1) RX6 cX6_marksIn 4 (some .int) 0 0 (Zm g (Rt (.int (nI (setC (inC s c) n))) M)) 4 [some (.ref (gad g 6 0)), some (.int c), some (.int x), some (.int y)] [] M := by
  intro j
  induction j with
  | zero => intro k x y hj hkn hx hk; exact absurd hj (by omega)
  | succ j ih =>
    intro k x y hj hkn hx hk
    subst hs; subst hk
    refine q_iload_n 5 dX6_marksIn_4 rfl rfl ?_
    refine q_aload_n 6 dX6_marksIn_5 rfl rfl ?_
    refine q_getR 9 dX6_marksIn_6 rfl fl_X6_7 (by decide) rfl rfl ?_
    refine q_iconst (v := 0) 10 dX6_marksIn_9 rfl rfl ?_
    refine q_iald 11 dX6_marksIn_10 rfl (by decide) (by decide) rfl (by decide) ?_
    refine q_icmp_ge 40 14 dX6_marksIn_11 rfl rfl (fun h_11 => ?_) (fun h_11 => ?_)
    · skip
      rw [hn, nI_leI (by omega) (by omega)] at h_11
      refine q_iload_n 41 dX6_marksIn_40 rfl rfl ?_
      refine q_iret dX6_marksIn_41 ?_
      exact ⟨by rw [hx, show k = n by omega], rfl⟩
    · skip
      rw [hn, nI_leI (by omega) (by omega)] at h_11
      refine q_iload_n 15 dX6_marksIn_14 rfl rfl ?_
      refine q_aload_n 16 dX6_marksIn_15 rfl rfl ?_
      refine q_iload_n 17 dX6_marksIn_16 rfl rfl ?_
      refine q_iconst (v := 3) 18 dX6_marksIn_17 rfl rfl ?_
      refine q_callVt 21 dX6_marksIn_18 rfl (c6_of _ _ _ k 3 rfl rfl (by omega)) cw_X6_72 (by decide) rfl rfl ⟨by decide, by decide⟩ ⟨by decide, by decide⟩ (Nat.le_of_ble_eq_true rfl) ?_
      refine q_iload_n 22 dX6_marksIn_21 rfl rfl ?_
      refine q_icmp_ne 31 25 dX6_marksIn_22 rfl rfl (fun h_22 => ?_) (fun h_22 => ?_)
      · skip
        refine q_iconst (v := 0) 32 dX6_marksIn_31 rfl rfl ?_
        refine q_ior 33 dX6_marksIn_32 rfl ?_
        refine q_istore_n 34 dX6_marksIn_33 rfl (by decide) rfl ?_
        refine q_iinc 37 dX6_marksIn_34 rfl rfl (by decide) rfl (nI_1 k) ?_
        refine q_goto 4 dX6_marksIn_37 rfl ?_
        refine q_fg (ih (k + 1) _ _ (by omega) (by omega) ?_ rfl) ⟨rfl, rfl, rfl, rfl, trivial⟩
        unfold setC inC mk
        first | rw [if_pos (by simpa using h_22), hx, one_shl k (by omega), nI_or_pow (setC_lt _ k) (by omega)] <;> rfl | rw [if_neg (by simpa using h_22), hx, nI_or_0] <;> rfl
      · skip
        refine q_iconst (v := 1) 26 dX6_marksIn_25 rfl rfl ?_
        refine q_iload_n 27 dX6_marksIn_26 rfl rfl ?_
        refine q_ishl 28 dX6_marksIn_27 rfl ?_
        refine q_goto 32 dX6_marksIn_28 rfl ?_
        refine q_ior 33 dX6_marksIn_32 rfl ?_
        refine q_istore_n 34 dX6_marksIn_33 rfl (by decide) rfl ?_
        refine q_iinc 37 dX6_marksIn_34 rfl rfl (by decide) rfl (nI_1 k) ?_
        refine q_goto 4 dX6_marksIn_37 rfl ?_
        refine q_fg (ih (k + 1) _ _ (by omega) (by omega) ?_ rfl) ⟨rfl, rfl, rfl, rfl, trivial⟩
        unfold setC inC mk
        first | rw [if_pos (by simpa using h_22), hx, one_shl k (by omega), nI_or_pow (setC_lt _ k) (by omega)] <;> rfl | rw [if_neg (by simpa using h_22), hx, nI_or_0] <;> rfl
set_option maxRecDepth 100000 in
set_option maxHeartbeats 4000000 in
theorem c6_marksIn {g : GT} (M : TM) (c : Int32) (s : SS) (hs : M 31 0 = s) (n : Nat) (hn : s 0 = nI n) (h10 : n ≤ 10) : Cn g yX6_marksIn cX6_marksIn 4 (some .int) 1 [.ref (gad g 6 0), .int c] M (Rt (.int (nI (setC (inC s c) n))) M) := by
  refine Cn.ofTR (by decide +kernel) (Nat.le_of_ble_eq_true rfl) ?_
  refine q_iconst (v := 0) 1 dX6_marksIn_0 rfl rfl ?_
  refine q_istore_n 2 dX6_marksIn_1 rfl (by decide) rfl ?_
  refine q_iconst (v := 0) 3 dX6_marksIn_2 rfl rfl ?_
  refine q_istore_n 4 dX6_marksIn_3 rfl (by decide) rfl ?_
  exact q_fg (l6_marksIn M c s hs n hn h10 (n + 1) 0 0 0 (by omega) (by omega) rfl rfl) ⟨rfl, rfl, rfl, rfl, trivial⟩
set_option maxRecDepth 100000 in
set_option maxHeartbeats 4000000 in
theorem l6_counts {g : GT} (M : TM) (c : Int32) (s : SS) (hs : M 31 0 = s) (n : Nat) (hn : s 1 = nI n) (h10 : n ≤ 14) : ∀ (j : Nat) (k : Nat) (x y : Int32), n - k < j → k ≤ n → x = laF s c k → y = nI k → TR g (rmD 1) RX6 cX6_counts 4 (some .int) 0 0 (Zm g (Rt (.int (laF s c n)) M)) 4 [some (.ref (gad g 6 0)), some (.int c), some (.int x), some (.int y)] [] M := by
  intro j
  induction j with
  | zero => intro k x y hj hkn hx hk; exact absurd hj (by omega)
  | succ j ih =>
    intro k x y hj hkn hx hk
    subst hs; subst hk
    refine q_iload_n 5 dX6_counts_4 rfl rfl ?_
    refine q_aload_n 6 dX6_counts_5 rfl rfl ?_
    refine q_getR 9 dX6_counts_6 rfl fl_X6_7 (by decide) rfl rfl ?_
    refine q_iconst (v := 1) 10 dX6_counts_9 rfl rfl ?_
    refine q_iald 11 dX6_counts_10 rfl (by decide) (by decide) rfl (by decide) ?_
    refine q_icmp_ge 40 14 dX6_counts_11 rfl rfl (fun h_11 => ?_) (fun h_11 => ?_)
    · skip
      rw [hn, nI_leI (by omega) (by omega)] at h_11
      refine q_iload_n 41 dX6_counts_40 rfl rfl ?_
      refine q_iret dX6_counts_41 ?_
      exact ⟨by rw [hx, show k = n by omega], rfl⟩
    · skip
      rw [hn, nI_leI (by omega) (by omega)] at h_11
      refine q_aload_n 15 dX6_counts_14 rfl rfl ?_
      refine q_getR 18 dX6_counts_15 rfl fl_X6_7 (by decide) rfl rfl ?_
      refine q_aload_n 19 dX6_counts_18 rfl rfl ?_
      refine q_iload_n 20 dX6_counts_19 rfl rfl ?_
      refine q_callVt 23 dX6_counts_20 rfl (c6_textAt _ _) cw_X6_294 (by decide) rfl rfl ⟨by decide, by decide⟩ ⟨by decide, by decide⟩ (Nat.le_of_ble_eq_true rfl) ?_
      refine q_iald 24 dX6_counts_23 rfl (by decide) (by decide) (ix_tx rfl) (show 71 + 200 * k < 3071 by omega) ?_
      refine q_iload_n 25 dX6_counts_24 rfl rfl ?_
      refine q_icmp_ne 32 28 dX6_counts_25 rfl rfl (fun h_25 => ?_) (fun h_25 => ?_)
      · skip
        refine q_iload_n 33 dX6_counts_32 rfl rfl ?_
        refine q_istore_n 34 dX6_counts_33 rfl (by decide) rfl ?_
        refine q_iinc 37 dX6_counts_34 rfl rfl (by decide) rfl (nI_1 k) ?_
        refine q_goto 4 dX6_counts_37 rfl ?_
        refine q_fg (ih (k + 1) _ _ (by omega) (by omega) ?_ rfl) ⟨rfl, rfl, rfl, rfl, trivial⟩
        unfold laF
        first | rw [if_pos h_25] | rw [if_neg h_25, hx]
      · skip
        refine q_iload_n 29 dX6_counts_28 rfl rfl ?_
        refine q_goto 33 dX6_counts_29 rfl ?_
        refine q_istore_n 34 dX6_counts_33 rfl (by decide) rfl ?_
        refine q_iinc 37 dX6_counts_34 rfl rfl (by decide) rfl (nI_1 k) ?_
        refine q_goto 4 dX6_counts_37 rfl ?_
        refine q_fg (ih (k + 1) _ _ (by omega) (by omega) ?_ rfl) ⟨rfl, rfl, rfl, rfl, trivial⟩
        unfold laF
        first | rw [if_pos h_25] | rw [if_neg h_25, hx]
set_option maxRecDepth 100000 in
set_option maxHeartbeats 4000000 in
theorem c6_counts {g : GT} (M : TM) (c : Int32) (s : SS) (hs : M 31 0 = s) (n : Nat) (hn : s 1 = nI n) (h10 : n ≤ 14) : Cn g yX6_counts cX6_counts 4 (some .int) 1 [.ref (gad g 6 0), .int c] M (Rt (.int (laF s c n)) M) := by
  refine Cn.ofTR (by decide +kernel) (Nat.le_of_ble_eq_true rfl) ?_
  refine q_iconst (v := (-1)) 1 dX6_counts_0 rfl rfl ?_
  refine q_istore_n 2 dX6_counts_1 rfl (by decide) rfl ?_
  refine q_iconst (v := 0) 3 dX6_counts_2 rfl rfl ?_
  refine q_istore_n 4 dX6_counts_3 rfl (by decide) rfl ?_
  exact q_fg (l6_counts M c s hs n hn h10 (n + 1) 0 (-1) 0 (by omega) (by omega) rfl rfl) ⟨rfl, rfl, rfl, rfl, trivial⟩
set_option maxRecDepth 100000 in
set_option maxHeartbeats 4000000 in
theorem c6_fades {g : GT} (M : TM) (x : Int32) (s : SS) (hs : M 31 0 = s) (k : Nat) (hk : x = nI k) (h9 : k < 10) : Cn g yX6_fades cX6_fades 2 (some .int) 1 [.ref (gad g 6 0), .int x] M (Rt (.int (faF (mk s k 0))) M) := by
  refine Cn.ofTR (by decide +kernel) (Nat.le_of_ble_eq_true rfl) ?_
  subst hs
  refine q_aload_n 1 dX6_fades_0 rfl rfl ?_
  refine q_iload_n 2 dX6_fades_1 rfl rfl ?_
  refine q_iconst (v := 0) 3 dX6_fades_2 rfl rfl ?_
  refine q_callVt 6 dX6_fades_3 rfl (c6_of _ _ _ k 0 hk rfl (by omega)) cw_X6_72 (by decide) rfl rfl ⟨by decide, by decide⟩ ⟨by decide, by decide⟩ (Nat.le_of_ble_eq_true rfl) ?_
  by_cases hs_6_2 : M 31 0 (21 + 5 * k + 0) = (2 : Int32)
  · skip
    refine q_tab 36 dX6_fades_6 rfl (sw_eq hs_6_2 rfl) rfl ?_
    refine q_iconst (v := 0) 37 dX6_fades_36 rfl rfl ?_
    refine q_iret dX6_fades_37 ?_
    refine ⟨congrArg (fun x => some (Value.int x)) ?_, rfl⟩
    unfold faF mk
    simp_all [-Int32.not_lt, -Int64.not_lt, -Int32.not_le, -Int64.not_le]
  by_cases hs_6_3 : M 31 0 (21 + 5 * k + 0) = (3 : Int32)
  · skip
    refine q_tab 38 dX6_fades_6 rfl (sw_eq hs_6_3 rfl) rfl ?_
    refine q_iconst (v := 3) 39 dX6_fades_38 rfl rfl ?_
    refine q_iret dX6_fades_39 ?_
    refine ⟨congrArg (fun x => some (Value.int x)) ?_, rfl⟩
    unfold faF mk
    simp_all [-Int32.not_lt, -Int64.not_lt, -Int32.not_le, -Int64.not_le]
  by_cases hs_6_4 : M 31 0 (21 + 5 * k + 0) = (4 : Int32)
  · skip
    refine q_tab 38 dX6_fades_6 rfl (sw_eq hs_6_4 rfl) rfl ?_
    refine q_iconst (v := 3) 39 dX6_fades_38 rfl rfl ?_
    refine q_iret dX6_fades_39 ?_
    refine ⟨congrArg (fun x => some (Value.int x)) ?_, rfl⟩
    unfold faF mk
    simp_all [-Int32.not_lt, -Int64.not_lt, -Int32.not_le, -Int64.not_le]
  by_cases hs_6_5 : M 31 0 (21 + 5 * k + 0) = (5 : Int32)
  · skip
    refine q_tab 40 dX6_fades_6 rfl (sw_eq hs_6_5 rfl) rfl ?_
    refine q_iconst (v := 5) 41 dX6_fades_40 rfl rfl ?_
    refine q_iret dX6_fades_41 ?_
    refine ⟨congrArg (fun x => some (Value.int x)) ?_, rfl⟩
    unfold faF mk
    simp_all [-Int32.not_lt, -Int64.not_lt, -Int32.not_le, -Int64.not_le]
  refine q_tab 42 dX6_fades_6 rfl (sw_def [2, 3, 4, 5] (by decide) rfl (by simp only [List.mem_cons, List.not_mem_nil, or_false, not_or]; exact ⟨lv_neT hs_6_2 rfl, lv_neT hs_6_3 rfl, lv_neT hs_6_4 rfl, lv_neT hs_6_5 rfl⟩)) rfl ?_
  refine q_iconst (v := 1) 43 dX6_fades_42 rfl rfl ?_
  refine q_iret dX6_fades_43 ?_
  refine ⟨congrArg (fun x => some (Value.int x)) ?_, rfl⟩
  unfold faF mk
  simp_all [-Int32.not_lt, -Int64.not_lt, -Int32.not_le, -Int64.not_le]
set_option maxRecDepth 100000 in
set_option maxHeartbeats 4000000 in
theorem c6_worth {g : GT} (M : TM) (x : Int32) (s : SS) (hs : M 31 0 = s) (k : Nat) (hk : x = nI k) (h9 : k < 10) : Cn g yX6_worth cX6_worth 3 (some .int) 1 [.ref (gad g 6 0), .int x] M (Rt (.int (woF (mk s k 0) (mk s k 1) (mk s k 4))) M) := by
  refine Cn.ofTR (by decide +kernel) (Nat.le_of_ble_eq_true rfl) ?_
  subst hs
  refine q_aload_n 1 dX6_worth_0 rfl rfl ?_
  refine q_iload_n 2 dX6_worth_1 rfl rfl ?_
  refine q_iconst (v := 1) 3 dX6_worth_2 rfl rfl ?_
  refine q_callVt 6 dX6_worth_3 rfl (c6_of _ _ _ k 1 hk rfl (by omega)) cw_X6_72 (by decide) rfl rfl ⟨by decide, by decide⟩ ⟨by decide, by decide⟩ (Nat.le_of_ble_eq_true rfl) ?_
  refine q_aload_n 7 dX6_worth_6 rfl rfl ?_
  refine q_iload_n 8 dX6_worth_7 rfl rfl ?_
  refine q_iconst (v := 4) 9 dX6_worth_8 rfl rfl ?_
  refine q_callVt 12 dX6_worth_9 rfl (c6_of _ _ _ k 4 hk rfl (by omega)) cw_X6_72 (by decide) rfl rfl ⟨by decide, by decide⟩ ⟨by decide, by decide⟩ (Nat.le_of_ble_eq_true rfl) ?_
  refine q_iadd 13 dX6_worth_12 rfl ?_
  refine q_istore_n 14 dX6_worth_13 rfl (by decide) rfl ?_
  refine q_aload_n 15 dX6_worth_14 rfl rfl ?_
  refine q_iload_n 16 dX6_worth_15 rfl rfl ?_
  refine q_iconst (v := 0) 17 dX6_worth_16 rfl rfl ?_
  refine q_callVt 20 dX6_worth_17 rfl (c6_of _ _ _ k 0 hk rfl (by omega)) cw_X6_72 (by decide) rfl rfl ⟨by decide, by decide⟩ ⟨by decide, by decide⟩ (Nat.le_of_ble_eq_true rfl) ?_
  by_cases hs_20_1 : M 31 0 (21 + 5 * k + 0) = (1 : Int32)
  · skip
    refine q_tab 56 dX6_worth_20 rfl (sw_eq hs_20_1 rfl) rfl ?_
    refine q_iload_n 57 dX6_worth_56 rfl rfl ?_
    refine q_iret dX6_worth_57 ?_
    refine ⟨congrArg (fun x => some (Value.int x)) ?_, rfl⟩
    unfold woF mk
    simp_all [-Int32.not_lt, -Int64.not_lt, -Int32.not_le, -Int64.not_le]
  by_cases hs_20_2 : M 31 0 (21 + 5 * k + 0) = (2 : Int32)
  · skip
    refine q_tab 58 dX6_worth_20 rfl (sw_eq hs_20_2 rfl) rfl ?_
    refine q_bipush (v := 99) 60 dX6_worth_58 rfl rfl ?_
    refine q_aload_n 61 dX6_worth_60 rfl rfl ?_
    refine q_iload_n 62 dX6_worth_61 rfl rfl ?_
    refine q_iconst (v := 1) 63 dX6_worth_62 rfl rfl ?_
    refine q_callVt 66 dX6_worth_63 rfl (c6_of _ _ _ k 1 hk rfl (by omega)) cw_X6_72 (by decide) rfl rfl ⟨by decide, by decide⟩ ⟨by decide, by decide⟩ (Nat.le_of_ble_eq_true rfl) ?_
    refine q_isub 67 dX6_worth_66 rfl ?_
    refine q_iret dX6_worth_67 ?_
    refine ⟨congrArg (fun x => some (Value.int x)) ?_, rfl⟩
    unfold woF mk
    simp_all [-Int32.not_lt, -Int64.not_lt, -Int32.not_le, -Int64.not_le]
  by_cases hs_20_3 : M 31 0 (21 + 5 * k + 0) = (3 : Int32)
  · skip
    refine q_tab 68 dX6_worth_20 rfl (sw_eq hs_20_3 rfl) rfl ?_
    refine q_iload_n 69 dX6_worth_68 rfl rfl ?_
    refine q_iconst (v := 2) 70 dX6_worth_69 rfl rfl ?_
    refine q_idiv 71 dX6_worth_70 rfl (by decide) ?_
    refine q_iret dX6_worth_71 ?_
    refine ⟨congrArg (fun x => some (Value.int x)) ?_, rfl⟩
    unfold woF mk
    simp_all [-Int32.not_lt, -Int64.not_lt, -Int32.not_le, -Int64.not_le]
  by_cases hs_20_4 : M 31 0 (21 + 5 * k + 0) = (4 : Int32)
  · skip
    refine q_tab 72 dX6_worth_20 rfl (sw_eq hs_20_4 rfl) rfl ?_
    refine q_bipush (v := 99) 74 dX6_worth_72 rfl rfl ?_
    refine q_aload_n 75 dX6_worth_74 rfl rfl ?_
    refine q_iload_n 76 dX6_worth_75 rfl rfl ?_
    refine q_iconst (v := 1) 77 dX6_worth_76 rfl rfl ?_
    refine q_callVt 80 dX6_worth_77 rfl (c6_of _ _ _ k 1 hk rfl (by omega)) cw_X6_72 (by decide) rfl rfl ⟨by decide, by decide⟩ ⟨by decide, by decide⟩ (Nat.le_of_ble_eq_true rfl) ?_
    refine q_isub 81 dX6_worth_80 rfl ?_
    refine q_bipush (v := 7) 83 dX6_worth_81 rfl rfl ?_
    refine q_iadd 84 dX6_worth_83 rfl ?_
    refine q_iret dX6_worth_84 ?_
    refine ⟨congrArg (fun x => some (Value.int x)) ?_, rfl⟩
    unfold woF mk
    simp_all [-Int32.not_lt, -Int64.not_lt, -Int32.not_le, -Int64.not_le]
  by_cases hs_20_5 : M 31 0 (21 + 5 * k + 0) = (5 : Int32)
  · skip
    refine q_tab 85 dX6_worth_20 rfl (sw_eq hs_20_5 rfl) rfl ?_
    refine q_aload_n 86 dX6_worth_85 rfl rfl ?_
    refine q_iload_n 87 dX6_worth_86 rfl rfl ?_
    refine q_iconst (v := 4) 88 dX6_worth_87 rfl rfl ?_
    refine q_callVt 91 dX6_worth_88 rfl (c6_of _ _ _ k 4 hk rfl (by omega)) cw_X6_72 (by decide) rfl rfl ⟨by decide, by decide⟩ ⟨by decide, by decide⟩ (Nat.le_of_ble_eq_true rfl) ?_
    refine q_iret dX6_worth_91 ?_
    refine ⟨congrArg (fun x => some (Value.int x)) ?_, rfl⟩
    unfold woF mk
    simp_all [-Int32.not_lt, -Int64.not_lt, -Int32.not_le, -Int64.not_le]
  refine q_tab 92 dX6_worth_20 rfl (sw_def [1, 2, 3, 4, 5] (by decide) rfl (by simp only [List.mem_cons, List.not_mem_nil, or_false, not_or]; exact ⟨lv_neT hs_20_1 rfl, lv_neT hs_20_2 rfl, lv_neT hs_20_3 rfl, lv_neT hs_20_4 rfl, lv_neT hs_20_5 rfl⟩)) rfl ?_
  refine q_aload_n 93 dX6_worth_92 rfl rfl ?_
  refine q_iload_n 94 dX6_worth_93 rfl rfl ?_
  refine q_iconst (v := 1) 95 dX6_worth_94 rfl rfl ?_
  refine q_callVt 98 dX6_worth_95 rfl (c6_of _ _ _ k 1 hk rfl (by omega)) cw_X6_72 (by decide) rfl rfl ⟨by decide, by decide⟩ ⟨by decide, by decide⟩ (Nat.le_of_ble_eq_true rfl) ?_
  refine q_iret dX6_worth_98 ?_
  refine ⟨congrArg (fun x => some (Value.int x)) ?_, rfl⟩
  unfold woF mk
  simp_all [-Int32.not_lt, -Int64.not_lt, -Int32.not_le, -Int64.not_le]
set_option maxRecDepth 100000 in
set_option maxHeartbeats 4000000 in
theorem c6_sinks {g : GT} (M : TM) (x : Int32) (s : SS) (hs : M 31 0 = s) (k : Nat) (hk : x = nI k) (h9 : k < 10) (hc : rg (mk s k 3) 0 5) : Cn g yX6_sinks cX6_sinks 3 (some .int) 1 [.ref (gad g 6 0), .int x] M (Rt (.int (siF s k)) M) := by
  refine Cn.ofTR (by decide +kernel) (Nat.le_of_ble_eq_true rfl) ?_
  subst hs
  obtain ⟨e1, e2⟩ := rg_nat hc (n := 5) rfl
  refine q_aload_n 1 dX6_sinks_0 rfl rfl ?_
  refine q_getR 4 dX6_sinks_1 rfl fl_X6_7 (by decide) rfl rfl ?_
  refine q_bipush (v := 9) 6 dX6_sinks_4 rfl rfl ?_
  refine q_aload_n 7 dX6_sinks_6 rfl rfl ?_
  refine q_iload_n 8 dX6_sinks_7 rfl rfl ?_
  refine q_iconst (v := 3) 9 dX6_sinks_8 rfl rfl ?_
  refine q_callVt 12 dX6_sinks_9 rfl (c6_of _ _ _ k 3 hk rfl (by omega)) cw_X6_72 (by decide) rfl rfl ⟨by decide, by decide⟩ ⟨by decide, by decide⟩ (Nat.le_of_ble_eq_true rfl) ?_
  refine q_iadd 13 dX6_sinks_12 rfl ?_
  refine q_iald 14 dX6_sinks_13 rfl (by decide) (by decide) (ix_ad e1) (show 9 + (mk (M 31 0) k 3).toNatClampNeg < 3071 by omega) ?_
  refine q_bipush (v := 30) 16 dX6_sinks_14 rfl rfl ?_
  refine q_icmp_ge 23 19 dX6_sinks_16 rfl rfl (fun h_16 => ?_) (fun h_16 => ?_)
  · skip
    refine q_iconst (v := 1) 24 dX6_sinks_23 rfl rfl ?_
    refine q_istore_n 25 dX6_sinks_24 rfl (by decide) rfl ?_
    refine q_aload_n 26 dX6_sinks_25 rfl rfl ?_
    refine q_iload_n 27 dX6_sinks_26 rfl rfl ?_
    refine q_iconst (v := 0) 28 dX6_sinks_27 rfl rfl ?_
    refine q_callVt 31 dX6_sinks_28 rfl (c6_of _ _ _ k 0 hk rfl (by omega)) cw_X6_72 (by decide) rfl rfl ⟨by decide, by decide⟩ ⟨by decide, by decide⟩ (Nat.le_of_ble_eq_true rfl) ?_
    by_cases hs_31_2 : M 31 0 (21 + 5 * k + 0) = (2 : Int32)
    · skip
      refine q_tab 60 dX6_sinks_31 rfl (sw_eq hs_31_2 rfl) rfl ?_
      refine q_iload_n 61 dX6_sinks_60 rfl rfl ?_
      refine q_iret dX6_sinks_61 ?_
      refine ⟨congrArg (fun x => some (Value.int x)) ?_, rfl⟩
      clear e1 e2 hc
      simp only [siF, siK, mk, ← Int32.not_lt] at *
      simp_all [-Int32.not_lt, -Int64.not_lt, -Int32.not_le, -Int64.not_le]
    by_cases hs_31_3 : M 31 0 (21 + 5 * k + 0) = (3 : Int32)
    · skip
      refine q_tab 62 dX6_sinks_31 rfl (sw_eq hs_31_3 rfl) rfl ?_
      refine q_iconst (v := 2) 63 dX6_sinks_62 rfl rfl ?_
      refine q_iret dX6_sinks_63 ?_
      refine ⟨congrArg (fun x => some (Value.int x)) ?_, rfl⟩
      clear e1 e2 hc
      simp only [siF, siK, mk, ← Int32.not_lt] at *
      simp_all [-Int32.not_lt, -Int64.not_lt, -Int32.not_le, -Int64.not_le]
    by_cases hs_31_4 : M 31 0 (21 + 5 * k + 0) = (4 : Int32)
    · skip
      refine q_tab 64 dX6_sinks_31 rfl (sw_eq hs_31_4 rfl) rfl ?_
      refine q_iload_n 65 dX6_sinks_64 rfl rfl ?_
      refine q_iconst (v := 1) 66 dX6_sinks_65 rfl rfl ?_
      refine q_iadd 67 dX6_sinks_66 rfl ?_
      refine q_iret dX6_sinks_67 ?_
      refine ⟨congrArg (fun x => some (Value.int x)) ?_, rfl⟩
      clear e1 e2 hc
      simp only [siF, siK, mk, ← Int32.not_lt] at *
      simp_all [-Int32.not_lt, -Int64.not_lt, -Int32.not_le, -Int64.not_le]
    by_cases hs_31_5 : M 31 0 (21 + 5 * k + 0) = (5 : Int32)
    · skip
      refine q_tab 68 dX6_sinks_31 rfl (sw_eq hs_31_5 rfl) rfl ?_
      refine q_iconst (v := 0) 69 dX6_sinks_68 rfl rfl ?_
      refine q_iret dX6_sinks_69 ?_
      refine ⟨congrArg (fun x => some (Value.int x)) ?_, rfl⟩
      clear e1 e2 hc
      simp only [siF, siK, mk, ← Int32.not_lt] at *
      simp_all [-Int32.not_lt, -Int64.not_lt, -Int32.not_le, -Int64.not_le]
    refine q_tab 70 dX6_sinks_31 rfl (sw_def [2, 3, 4, 5] (by decide) rfl (by simp only [List.mem_cons, List.not_mem_nil, or_false, not_or]; exact ⟨lv_neT hs_31_2 rfl, lv_neT hs_31_3 rfl, lv_neT hs_31_4 rfl, lv_neT hs_31_5 rfl⟩)) rfl ?_
    refine q_iconst (v := 1) 71 dX6_sinks_70 rfl rfl ?_
    refine q_iret dX6_sinks_71 ?_
    refine ⟨congrArg (fun x => some (Value.int x)) ?_, rfl⟩
    clear e1 e2 hc
    simp only [siF, siK, mk, ← Int32.not_lt] at *
    simp_all [-Int32.not_lt, -Int64.not_lt, -Int32.not_le, -Int64.not_le]
  · skip
    refine q_iconst (v := 2) 20 dX6_sinks_19 rfl rfl ?_
    refine q_goto 24 dX6_sinks_20 rfl ?_
    refine q_istore_n 25 dX6_sinks_24 rfl (by decide) rfl ?_
    refine q_aload_n 26 dX6_sinks_25 rfl rfl ?_
    refine q_iload_n 27 dX6_sinks_26 rfl rfl ?_
    refine q_iconst (v := 0) 28 dX6_sinks_27 rfl rfl ?_
    refine q_callVt 31 dX6_sinks_28 rfl (c6_of _ _ _ k 0 hk rfl (by omega)) cw_X6_72 (by decide) rfl rfl ⟨by decide, by decide⟩ ⟨by decide, by decide⟩ (Nat.le_of_ble_eq_true rfl) ?_
    by_cases hs_31_2 : M 31 0 (21 + 5 * k + 0) = (2 : Int32)
    · skip
      refine q_tab 60 dX6_sinks_31 rfl (sw_eq hs_31_2 rfl) rfl ?_
      refine q_iload_n 61 dX6_sinks_60 rfl rfl ?_
      refine q_iret dX6_sinks_61 ?_
      refine ⟨congrArg (fun x => some (Value.int x)) ?_, rfl⟩
      clear e1 e2 hc
      simp only [siF, siK, mk, ← Int32.not_lt] at *
      simp_all [-Int32.not_lt, -Int64.not_lt, -Int32.not_le, -Int64.not_le]
    by_cases hs_31_3 : M 31 0 (21 + 5 * k + 0) = (3 : Int32)
    · skip
      refine q_tab 62 dX6_sinks_31 rfl (sw_eq hs_31_3 rfl) rfl ?_
      refine q_iconst (v := 2) 63 dX6_sinks_62 rfl rfl ?_
      refine q_iret dX6_sinks_63 ?_
      refine ⟨congrArg (fun x => some (Value.int x)) ?_, rfl⟩
      clear e1 e2 hc
      simp only [siF, siK, mk, ← Int32.not_lt] at *
      simp_all [-Int32.not_lt, -Int64.not_lt, -Int32.not_le, -Int64.not_le]
    by_cases hs_31_4 : M 31 0 (21 + 5 * k + 0) = (4 : Int32)
    · skip
      refine q_tab 64 dX6_sinks_31 rfl (sw_eq hs_31_4 rfl) rfl ?_
      refine q_iload_n 65 dX6_sinks_64 rfl rfl ?_
      refine q_iconst (v := 1) 66 dX6_sinks_65 rfl rfl ?_
      refine q_iadd 67 dX6_sinks_66 rfl ?_
      refine q_iret dX6_sinks_67 ?_
      refine ⟨congrArg (fun x => some (Value.int x)) ?_, rfl⟩
      clear e1 e2 hc
      simp only [siF, siK, mk, ← Int32.not_lt] at *
      simp_all [-Int32.not_lt, -Int64.not_lt, -Int32.not_le, -Int64.not_le]
    by_cases hs_31_5 : M 31 0 (21 + 5 * k + 0) = (5 : Int32)
    · skip
      refine q_tab 68 dX6_sinks_31 rfl (sw_eq hs_31_5 rfl) rfl ?_
      refine q_iconst (v := 0) 69 dX6_sinks_68 rfl rfl ?_
      refine q_iret dX6_sinks_69 ?_
      refine ⟨congrArg (fun x => some (Value.int x)) ?_, rfl⟩
      clear e1 e2 hc
      simp only [siF, siK, mk, ← Int32.not_lt] at *
      simp_all [-Int32.not_lt, -Int64.not_lt, -Int32.not_le, -Int64.not_le]
    refine q_tab 70 dX6_sinks_31 rfl (sw_def [2, 3, 4, 5] (by decide) rfl (by simp only [List.mem_cons, List.not_mem_nil, or_false, not_or]; exact ⟨lv_neT hs_31_2 rfl, lv_neT hs_31_3 rfl, lv_neT hs_31_4 rfl, lv_neT hs_31_5 rfl⟩)) rfl ?_
    refine q_iconst (v := 1) 71 dX6_sinks_70 rfl rfl ?_
    refine q_iret dX6_sinks_71 ?_
    refine ⟨congrArg (fun x => some (Value.int x)) ?_, rfl⟩
    clear e1 e2 hc
    simp only [siF, siK, mk, ← Int32.not_lt] at *
    simp_all [-Int32.not_lt, -Int64.not_lt, -Int32.not_le, -Int64.not_le]
