/-! THE CLASS: what a wall is asked -/
abbrev RF (M : TM) (w : Nat) (s : SS) : Prop := RP M w s (nN s) (fun i => i)
theorem set_t {p : Nat → Bool} {k : Nat} (hk : k < 31) (h : p k = true) : nI (setC p k) ||| ((1 : Int32) <<< (nI k &&& 31)) = nI (setC p (k + 1)) := by
  rw [one_shl k hk, nI_or_pow (setC_lt p k) hk]
  show _ = nI (setC p k + if p k = true then 2 ^ k else 0)
  rw [if_pos h]
theorem set_f {p : Nat → Bool} {k : Nat} (h : ¬ p k = true) : nI (setC p k) ||| 0 = nI (setC p (k + 1)) := by
  rw [nI_or_0]
  show _ = nI (setC p k + if p k = true then 2 ^ k else 0)
  rw [if_neg h]; rfl
theorem sum_t {f : Nat → Int32} {q : Nat → Bool} {k : Nat} (h : q k = true) : sumS f q k + f k = sumS f q (k + 1) := by
  show _ = sumS f q k + (if q k = true then f k else 0)
  rw [if_pos h]
theorem sum_f {f : Nat → Int32} {q : Nat → Bool} {k : Nat} (h : ¬ q k = true) : sumS f q k + 0 = sumS f q (k + 1) := by
  show _ = sumS f q k + (if q k = true then f k else 0)
  rw [if_neg h]
theorem inC_t {s : SS} {c : Int32} {k : Nat} (h : mk s k 3 = c) : inC s c k = true := decide_eq_true h
theorem inC_f {s : SS} {c : Int32} {k : Nat} (h : ¬ mk s k 3 = c) : ¬ inC s c k = true := fun q => h (of_decide_eq_true q)
set_option maxRecDepth 100000 in
set_option maxHeartbeats 4000000 in
theorem l4_legibleSet {g : GT} (M : TM) (w : Nat) (hw : w < 3) (s : SS) (hP : RF M w s) (hW : Wm s) (hT : RT M s) : ∀ (j : Nat) (k : Nat) (p : Nat → Int32) (y z : Int32), nN s - k < j → k ≤ nN s → y = nI k → z = nI (setC (lgB s) k) → TR g (rmD 5) RX4 cX4_legibleSet 3 (some .int) 0 0 (Zm g (Q17 (.int (nI (setC (lgB s) (nN s)))) M)) 4 [some (.ref (gad g 4 w)), some (.int z), some (.int y)] [] (putA M 17 0 p) := by
  intro j
  induction j with
  | zero => intro k p y z hj hk hy hz; exact absurd hj (by omega)
  | succ j ih =>
    intro k p y z hj hk hy hz
    subst hy
    have hP0 := hP
    obtain ⟨hC, ⟨h11, hm10⟩, hM⟩ := hP
    refine q_iload_n 5 dX4_legibleSet_4 rfl rfl ?_
    refine q_aload_n 6 dX4_legibleSet_5 rfl rfl ?_
    refine q_getI 9 dX4_legibleSet_6 rfl fl_X4_66 hw rfl (by decide) ?_
    refine q_icmp_ge 36 12 dX4_legibleSet_9 rfl rfl (fun h_9 => ?_) (fun h_9 => ?_)
    · skip
      rw [show (putA M 17 0 p) 4 w 11 = nI (nN s) from h11, nI_leI (by omega) (by omega)] at h_9
      refine q_iload_n 37 dX4_legibleSet_36 rfl rfl ?_
      refine q_iret dX4_legibleSet_37 ?_
      exact ⟨by rw [hz, show k = nN s by omega], p, rfl⟩
    · skip
      rw [show (putA M 17 0 p) 4 w 11 = nI (nN s) from h11, nI_leI (by omega) (by omega)] at h_9
      refine q_iload_n 13 dX4_legibleSet_12 rfl rfl ?_
      refine q_aload_n 14 dX4_legibleSet_13 rfl rfl ?_
      refine q_iload_n 15 dX4_legibleSet_14 rfl rfl ?_
      refine q_callV 18 dX4_legibleSet_15 rfl (c4_isLegible _ w hw _ k k rfl (by omega) (by omega) s hC.p17 (hM k (by omega)).2.p17 hW (hT.kp (Kp.p17 (w := w)))) cw_X4_108 hw rfl rfl ⟨by decide, by decide⟩ ⟨by decide, by decide⟩ (Nat.le_of_ble_eq_true rfl) ?_
      rintro _ _ ⟨rfl, p2, rfl⟩
      refine q_if_eq 27 21 dX4_legibleSet_18 rfl rfl (fun h_18 => ?_) (fun h_18 => ?_)
      · skip
        simp only [bI_0, Classical.not_not] at h_18
        refine q_iconst (v := 0) 28 dX4_legibleSet_27 rfl rfl ?_
        refine q_ior 29 dX4_legibleSet_28 rfl ?_
        refine q_istore_n 30 dX4_legibleSet_29 rfl (by decide) rfl ?_
        refine q_iinc 33 dX4_legibleSet_30 rfl rfl (by decide) rfl (nI_1 k) ?_
        refine q_goto 4 dX4_legibleSet_33 rfl ?_
        refine q_eqM (M' := putA M 17 0 p2) (putA_pp _ _ _ _ _) ?_
        first
        | exact q_fg (ih (k + 1) p2 _ _ (by omega) (by omega) rfl (by rw [hz]; exact set_t (by omega) h_18)) ⟨rfl, rfl, rfl, trivial⟩
        | exact q_fg (ih (k + 1) p2 _ _ (by omega) (by omega) rfl (by rw [hz]; exact set_f h_18)) ⟨rfl, rfl, rfl, trivial⟩
      · skip
        simp only [bI_0, Classical.not_not] at h_18
        refine q_iconst (v := 1) 22 dX4_legibleSet_21 rfl rfl ?_
        refine q_iload_n 23 dX4_legibleSet_22 rfl rfl ?_
        refine q_ishl 24 dX4_legibleSet_23 rfl ?_
        refine q_goto 28 dX4_legibleSet_24 rfl ?_
        refine q_ior 29 dX4_legibleSet_28 rfl ?_
        refine q_istore_n 30 dX4_legibleSet_29 rfl (by decide) rfl ?_
        refine q_iinc 33 dX4_legibleSet_30 rfl rfl (by decide) rfl (nI_1 k) ?_
        refine q_goto 4 dX4_legibleSet_33 rfl ?_
        refine q_eqM (M' := putA M 17 0 p2) (putA_pp _ _ _ _ _) ?_
        first
        | exact q_fg (ih (k + 1) p2 _ _ (by omega) (by omega) rfl (by rw [hz]; exact set_t (by omega) h_18)) ⟨rfl, rfl, rfl, trivial⟩
        | exact q_fg (ih (k + 1) p2 _ _ (by omega) (by omega) rfl (by rw [hz]; exact set_f h_18)) ⟨rfl, rfl, rfl, trivial⟩
set_option maxRecDepth 100000 in
set_option maxHeartbeats 4000000 in
theorem c4_legibleSet {g : GT} (M : TM) (w : Nat) (hw : w < 3) (s : SS) (hP : RF M w s) (hW : Wm s) (hT : RT M s) : Cn g yX4_legibleSet cX4_legibleSet 3 (some .int) 5 [.ref (gad g 4 w)] M (Q17 (.int (nI (setC (lgB s) (nN s)))) M) := by
  refine Cn.ofTR (by decide +kernel) (Nat.le_of_ble_eq_true rfl) ?_
  refine q_iconst (v := 0) 1 dX4_legibleSet_0 rfl rfl ?_
  refine q_istore_n 2 dX4_legibleSet_1 rfl (by decide) rfl ?_
  refine q_iconst (v := 0) 3 dX4_legibleSet_2 rfl rfl ?_
  refine q_istore_n 4 dX4_legibleSet_3 rfl (by decide) rfl ?_
  exact q_eqM (M' := putA M 17 0 (M 17 0)) (putA_id _ _ _).symm (q_fg (l4_legibleSet M w hw s hP hW hT (nN s + 1) 0 (M 17 0) _ _ (by omega) (by omega) rfl rfl) ⟨rfl, rfl, rfl, trivial⟩)
set_option maxRecDepth 100000 in
set_option maxHeartbeats 4000000 in
theorem l4_setIn {g : GT} (M : TM) (w : Nat) (hw : w < 3) (s : SS) (hP : RF M w s) (c : Int32) : ∀ (j : Nat) (k : Nat) (y z : Int32), nN s - k < j → k ≤ nN s → y = nI k → z = nI (setC (inC s c) k) → TR g (rmD 0) RX4 cX4_setIn 4 (some .int) 0 0 (Zm g (Rt (.int (nI (setC (inC s c) (nN s)))) M)) 4 [some (.ref (gad g 4 w)), some (.int c), some (.int z), some (.int y)] [] M := by
  intro j
  induction j with
  | zero => intro k y z hj hk hy hz; exact absurd hj (by omega)
  | succ j ih =>
    intro k y z hj hk hy hz
    subst hy
    have hP0 := hP
    obtain ⟨hC, ⟨h11, hm10⟩, hM⟩ := hP
    refine q_iload_n 5 dX4_setIn_4 rfl rfl ?_
    refine q_aload_n 6 dX4_setIn_5 rfl rfl ?_
    refine q_getI 9 dX4_setIn_6 rfl fl_X4_66 hw rfl (by decide) ?_
    refine q_icmp_ge 38 12 dX4_setIn_9 rfl rfl (fun h_9 => ?_) (fun h_9 => ?_)
    · skip
      rw [h11, nI_leI (by omega) (by omega)] at h_9
      refine q_iload_n 39 dX4_setIn_38 rfl rfl ?_
      refine q_iret dX4_setIn_39 ?_
      exact ⟨by rw [hz, show k = nN s by omega], rfl⟩
    · skip
      rw [h11, nI_leI (by omega) (by omega)] at h_9
      have r3 : M 24 w k = mk s k 3 := (hM k (by omega)).2.2.2.2.1
      refine q_iload_n 13 dX4_setIn_12 rfl rfl ?_
      refine q_aload_n 14 dX4_setIn_13 rfl rfl ?_
      refine q_getR 17 dX4_setIn_14 rfl fl_X4_30 hw rfl rfl ?_
      refine q_iload_n 18 dX4_setIn_17 rfl rfl ?_
      refine q_iald 19 dX4_setIn_18 rfl (by decide) hw rfl (show k < 10 by omega) ?_
      refine q_iload_n 20 dX4_setIn_19 rfl rfl ?_
      refine q_icmp_ne 29 23 dX4_setIn_20 rfl rfl (fun h_20 => ?_) (fun h_20 => ?_)
      · skip
        rw [r3] at h_20
        refine q_iconst (v := 0) 30 dX4_setIn_29 rfl rfl ?_
        refine q_ior 31 dX4_setIn_30 rfl ?_
        refine q_istore_n 32 dX4_setIn_31 rfl (by decide) rfl ?_
        refine q_iinc 35 dX4_setIn_32 rfl rfl (by decide) rfl (nI_1 k) ?_
        refine q_goto 4 dX4_setIn_35 rfl ?_
        first
        | exact q_fg (ih (k + 1) _ _ (by omega) (by omega) rfl (by rw [hz]; exact set_t (by omega) (inC_t h_20))) ⟨rfl, rfl, rfl, rfl, trivial⟩
        | exact q_fg (ih (k + 1) _ _ (by omega) (by omega) rfl (by rw [hz]; exact set_f (inC_f h_20))) ⟨rfl, rfl, rfl, rfl, trivial⟩
      · skip
        rw [r3] at h_20
        refine q_iconst (v := 1) 24 dX4_setIn_23 rfl rfl ?_
        refine q_iload_n 25 dX4_setIn_24 rfl rfl ?_
        refine q_ishl 26 dX4_setIn_25 rfl ?_
        refine q_goto 30 dX4_setIn_26 rfl ?_
        refine q_ior 31 dX4_setIn_30 rfl ?_
        refine q_istore_n 32 dX4_setIn_31 rfl (by decide) rfl ?_
        refine q_iinc 35 dX4_setIn_32 rfl rfl (by decide) rfl (nI_1 k) ?_
        refine q_goto 4 dX4_setIn_35 rfl ?_
        first
        | exact q_fg (ih (k + 1) _ _ (by omega) (by omega) rfl (by rw [hz]; exact set_t (by omega) (inC_t h_20))) ⟨rfl, rfl, rfl, rfl, trivial⟩
        | exact q_fg (ih (k + 1) _ _ (by omega) (by omega) rfl (by rw [hz]; exact set_f (inC_f h_20))) ⟨rfl, rfl, rfl, rfl, trivial⟩
set_option maxRecDepth 100000 in
set_option maxHeartbeats 4000000 in
theorem c4_setIn {g : GT} (M : TM) (w : Nat) (hw : w < 3) (s : SS) (hP : RF M w s) (c : Int32) : Cn g yX4_setIn cX4_setIn 4 (some .int) 0 [.ref (gad g 4 w), .int c] M (Rt (.int (nI (setC (inC s c) (nN s)))) M) := by
  refine Cn.ofTR (by decide +kernel) (Nat.le_of_ble_eq_true rfl) ?_
  refine q_iconst (v := 0) 1 dX4_setIn_0 rfl rfl ?_
  refine q_istore_n 2 dX4_setIn_1 rfl (by decide) rfl ?_
  refine q_iconst (v := 0) 3 dX4_setIn_2 rfl rfl ?_
  refine q_istore_n 4 dX4_setIn_3 rfl (by decide) rfl ?_
  exact q_fg (l4_setIn M w hw s hP c (nN s + 1) 0 _ _ (by omega) (by omega) rfl rfl) ⟨rfl, rfl, rfl, rfl, trivial⟩
set_option maxRecDepth 100000 in
set_option maxHeartbeats 4000000 in
theorem l4_showIn {g : GT} (M : TM) (w : Nat) (hw : w < 3) (s : SS) (hP : RF M w s) (hW : Wm s) (hT : RT M s) (c : Int32) : ∀ (j : Nat) (k : Nat) (p : Nat → Int32) (y z : Int32), nN s - k < j → k ≤ nN s → y = nI k → z = sumS (shF s) (inC s c) k → TR g (rmD 4) RX4 cX4_showIn 4 (some .int) 0 0 (Zm g (Q17 (.int (sumS (shF s) (inC s c) (nN s))) M)) 4 [some (.ref (gad g 4 w)), some (.int c), some (.int z), some (.int y)] [] (putA M 17 0 p) := by
  intro j
  induction j with
  | zero => intro k p y z hj hk hy hz; exact absurd hj (by omega)
  | succ j ih =>
    intro k p y z hj hk hy hz
    subst hy
    have hP0 := hP
    obtain ⟨hC, ⟨h11, hm10⟩, hM⟩ := hP
    refine q_iload_n 5 dX4_showIn_4 rfl rfl ?_
    refine q_aload_n 6 dX4_showIn_5 rfl rfl ?_
    refine q_getI 9 dX4_showIn_6 rfl fl_X4_66 hw rfl (by decide) ?_
    refine q_icmp_ge 40 12 dX4_showIn_9 rfl rfl (fun h_9 => ?_) (fun h_9 => ?_)
    · skip
      rw [show (putA M 17 0 p) 4 w 11 = nI (nN s) from h11, nI_leI (by omega) (by omega)] at h_9
      refine q_iload_n 41 dX4_showIn_40 rfl rfl ?_
      refine q_iret dX4_showIn_41 ?_
      exact ⟨by rw [hz, show k = nN s by omega], p, rfl⟩
    · skip
      rw [show (putA M 17 0 p) 4 w 11 = nI (nN s) from h11, nI_leI (by omega) (by omega)] at h_9
      have r3 : M 24 w k = mk s k 3 := (hM k (by omega)).2.2.2.2.1
      refine q_iload_n 13 dX4_showIn_12 rfl rfl ?_
      refine q_aload_n 14 dX4_showIn_13 rfl rfl ?_
      refine q_getR 17 dX4_showIn_14 rfl fl_X4_30 hw rfl rfl ?_
      refine q_iload_n 18 dX4_showIn_17 rfl rfl ?_
      refine q_iald 19 dX4_showIn_18 rfl (by decide) hw rfl (show k < 10 by omega) ?_
      refine q_iload_n 20 dX4_showIn_19 rfl rfl ?_
      refine q_icmp_ne 31 23 dX4_showIn_20 rfl rfl (fun h_20 => ?_) (fun h_20 => ?_)
      · skip
        rw [show (putA M 17 0 p) 24 w k = mk s k 3 from r3] at h_20
        refine q_iconst (v := 0) 32 dX4_showIn_31 rfl rfl ?_
        refine q_iadd 33 dX4_showIn_32 rfl ?_
        refine q_istore_n 34 dX4_showIn_33 rfl (by decide) rfl ?_
        refine q_iinc 37 dX4_showIn_34 rfl rfl (by decide) rfl (nI_1 k) ?_
        refine q_goto 4 dX4_showIn_37 rfl ?_
        first
        | exact q_eqM (M' := putA M 17 0 p2) (putA_pp _ _ _ _ _) (q_fg (ih (k + 1) p2 _ _ (by omega) (by omega) rfl (by rw [hz]; exact sum_t (inC_t h_20))) ⟨rfl, rfl, rfl, rfl, trivial⟩)
        | exact q_fg (ih (k + 1) p _ _ (by omega) (by omega) rfl (by rw [hz]; exact sum_f (inC_f h_20))) ⟨rfl, rfl, rfl, rfl, trivial⟩
      · skip
        rw [show (putA M 17 0 p) 24 w k = mk s k 3 from r3] at h_20
        refine q_aload_n 24 dX4_showIn_23 rfl rfl ?_
        refine q_iload_n 25 dX4_showIn_24 rfl rfl ?_
        refine q_callV 28 dX4_showIn_25 rfl (c4_shows _ w hw _ k k rfl (by omega) (by omega) s hC.p17 (hM k (by omega)).2.p17 hW (hT.kp (Kp.p17 (w := w)))) cw_X4_105 hw rfl rfl ⟨by decide, by decide⟩ ⟨by decide, by decide⟩ (Nat.le_of_ble_eq_true rfl) ?_
        rintro _ _ ⟨rfl, p2, rfl⟩
        refine q_goto 32 dX4_showIn_28 rfl ?_
        refine q_iadd 33 dX4_showIn_32 rfl ?_
        refine q_istore_n 34 dX4_showIn_33 rfl (by decide) rfl ?_
        refine q_iinc 37 dX4_showIn_34 rfl rfl (by decide) rfl (nI_1 k) ?_
        refine q_goto 4 dX4_showIn_37 rfl ?_
        first
        | exact q_eqM (M' := putA M 17 0 p2) (putA_pp _ _ _ _ _) (q_fg (ih (k + 1) p2 _ _ (by omega) (by omega) rfl (by rw [hz]; exact sum_t (inC_t h_20))) ⟨rfl, rfl, rfl, rfl, trivial⟩)
        | exact q_fg (ih (k + 1) p _ _ (by omega) (by omega) rfl (by rw [hz]; exact sum_f (inC_f h_20))) ⟨rfl, rfl, rfl, rfl, trivial⟩
set_option maxRecDepth 100000 in
set_option maxHeartbeats 4000000 in
theorem c4_showIn {g : GT} (M : TM) (w : Nat) (hw : w < 3) (s : SS) (hP : RF M w s) (hW : Wm s) (hT : RT M s) (c : Int32) : Cn g yX4_showIn cX4_showIn 4 (some .int) 4 [.ref (gad g 4 w), .int c] M (Q17 (.int (sumS (shF s) (inC s c) (nN s))) M) := by
  refine Cn.ofTR (by decide +kernel) (Nat.le_of_ble_eq_true rfl) ?_
  refine q_iconst (v := 0) 1 dX4_showIn_0 rfl rfl ?_
  refine q_istore_n 2 dX4_showIn_1 rfl (by decide) rfl ?_
  refine q_iconst (v := 0) 3 dX4_showIn_2 rfl rfl ?_
  refine q_istore_n 4 dX4_showIn_3 rfl (by decide) rfl ?_
  exact q_eqM (M' := putA M 17 0 (M 17 0)) (putA_id _ _ _).symm (q_fg (l4_showIn M w hw s hP hW hT c (nN s + 1) 0 (M 17 0) _ _ (by omega) (by omega) rfl rfl) ⟨rfl, rfl, rfl, rfl, trivial⟩)
set_option maxRecDepth 100000 in
set_option maxHeartbeats 4000000 in
theorem l4_narrowest {g : GT} (M : TM) (w : Nat) (hw : w < 3) (s : SS) (hC : RC M w s) : ∀ (j : Nat) (k : Nat) (y z : Int32), 5 - k < j → k ≤ 5 → y = nI (k + 1) → z = nI (naF s k) → TR g (rmD 0) RX4 cX4_narrowest 3 (some .int) 0 0 (Zm g (Rt (.int (nI (naF s 5))) M)) 4 [some (.ref (gad g 4 w)), some (.int z), some (.int y)] [] M := by
  intro j
  induction j with
  | zero => intro k y z hj hk hy hz; exact absurd hj (by omega)
  | succ j ih =>
    intro k y z hj hk hy hz
    subst hy
    have hnl := naF_le s k
    refine q_iload_n 5 dX4_narrowest_4 rfl rfl ?_
    refine q_bipush (v := 6) 7 dX4_narrowest_5 rfl rfl ?_
    refine q_icmp_ge 33 10 dX4_narrowest_7 rfl rfl (fun h_7 => ?_) (fun h_7 => ?_)
    · skip
      rw [show (6 : Int32) = nI 6 from rfl, nI_leI (by omega) (by omega)] at h_7
      refine q_iload_n 34 dX4_narrowest_33 rfl rfl ?_
      refine q_iret dX4_narrowest_34 ?_
      exact ⟨by rw [hz, show k = 5 by omega], rfl⟩
    · skip
      rw [show (6 : Int32) = nI 6 from rfl, nI_leI (by omega) (by omega)] at h_7
      refine q_aload_n 11 dX4_narrowest_10 rfl rfl ?_
      refine q_getR 14 dX4_narrowest_11 rfl fl_X4_9 hw rfl rfl ?_
      refine q_iload_n 15 dX4_narrowest_14 rfl rfl ?_
      refine q_iald 16 dX4_narrowest_15 rfl (by decide) hw rfl (show k + 1 < 6 by omega) ?_
      refine q_aload_n 17 dX4_narrowest_16 rfl rfl ?_
      refine q_getR 20 dX4_narrowest_17 rfl fl_X4_9 hw rfl rfl ?_
      refine q_iload_n 21 dX4_narrowest_20 rfl rfl ?_
      refine q_iald 22 dX4_narrowest_21 rfl (by decide) hw hz (show naF s k < 6 by omega) ?_
      refine q_icmp_ge 27 25 dX4_narrowest_22 rfl rfl (fun h_22 => ?_) (fun h_22 => ?_)
      · skip
        rw [(hC.1 (k + 1) (by omega)).1, (hC.1 (naF s k) (by omega)).1] at h_22
        refine q_iinc 30 dX4_narrowest_27 rfl rfl (by decide) rfl (nI_1 (k + 1)) ?_
        refine q_goto 4 dX4_narrowest_30 rfl ?_
        first
        | exact q_fg (ih (k + 1) _ _ (by omega) (by omega) rfl (by show _ = nI (if _ then _ else _); rw [if_neg (Int32.not_lt.mpr h_22)]; exact hz)) ⟨rfl, rfl, rfl, trivial⟩
        | exact q_fg (ih (k + 1) _ _ (by omega) (by omega) rfl (by show _ = nI (if _ then _ else _); rw [if_pos (Int32.not_le.mp h_22)])) ⟨rfl, rfl, rfl, trivial⟩
      · skip
        rw [(hC.1 (k + 1) (by omega)).1, (hC.1 (naF s k) (by omega)).1] at h_22
        refine q_iload_n 26 dX4_narrowest_25 rfl rfl ?_
        refine q_istore_n 27 dX4_narrowest_26 rfl (by decide) rfl ?_
        refine q_iinc 30 dX4_narrowest_27 rfl rfl (by decide) rfl (nI_1 (k + 1)) ?_
        refine q_goto 4 dX4_narrowest_30 rfl ?_
        first
        | exact q_fg (ih (k + 1) _ _ (by omega) (by omega) rfl (by show _ = nI (if _ then _ else _); rw [if_neg (Int32.not_lt.mpr h_22)]; exact hz)) ⟨rfl, rfl, rfl, trivial⟩
        | exact q_fg (ih (k + 1) _ _ (by omega) (by omega) rfl (by show _ = nI (if _ then _ else _); rw [if_pos (Int32.not_le.mp h_22)])) ⟨rfl, rfl, rfl, trivial⟩
set_option maxRecDepth 100000 in
set_option maxHeartbeats 4000000 in
theorem c4_narrowest {g : GT} (M : TM) (w : Nat) (hw : w < 3) (s : SS) (hC : RC M w s) : Cn g yX4_narrowest cX4_narrowest 3 (some .int) 0 [.ref (gad g 4 w)] M (Rt (.int (nI (naF s 5))) M) := by
  refine Cn.ofTR (by decide +kernel) (Nat.le_of_ble_eq_true rfl) ?_
  refine q_iconst (v := 0) 1 dX4_narrowest_0 rfl rfl ?_
  refine q_istore_n 2 dX4_narrowest_1 rfl (by decide) rfl ?_
  refine q_iconst (v := 1) 3 dX4_narrowest_2 rfl rfl ?_
  refine q_istore_n 4 dX4_narrowest_3 rfl (by decide) rfl ?_
  exact q_fg (l4_narrowest M w hw s hC 6 0 _ _ (by omega) (by omega) rfl rfl) ⟨rfl, rfl, rfl, trivial⟩
theorem t5 {t : Nat} (h : 21 ≤ t ∧ t ≤ 25) : 9 < t ∧ cnt t = 3 ∧ len t = 10 := by
  have : t = 21 ∨ t = 22 ∨ t = 23 ∨ t = 24 ∨ t = 25 := by omega
  rcases this with rfl | rfl | rfl | rfl | rfl <;> decide
set_option maxRecDepth 100000 in
set_option maxHeartbeats 4000000 in
theorem l4_sumOfMarks {g : GT} (M : TM) (w : Nat) (hw : w < 3) (s : SS) (h11 : M 4 w 11 = nI (nN s)) (hm10 : nN s ≤ 10) (t v : Nat) (ht : 21 ≤ t ∧ t ≤ 25) (hv : ∀ k, k < nN s → M t w k = mk s k v) : ∀ (j : Nat) (k : Nat) (y z : Int32), nN s - k < j → k ≤ nN s → y = nI k → z = suF s v k → TR g (rmD 0) RX4 cX4_sumOfMarks 4 (some .int) 0 0 (Zm g (Rt (.int (suF s v (nN s))) M)) 4 [some (.ref (gad g 4 w)), some (.ref (gad g t w)), some (.int z), some (.int y)] [] M := by
  intro j
  induction j with
  | zero => intro k y z hj hk hy hz; exact absurd hj (by omega)
  | succ j ih =>
    intro k y z hj hk hy hz
    subst hy
    obtain ⟨t9, tc, tl⟩ := t5 ht
    refine q_iload_n 5 dX4_sumOfMarks_4 rfl rfl ?_
    refine q_aload_n 6 dX4_sumOfMarks_5 rfl rfl ?_
    refine q_getI 9 dX4_sumOfMarks_6 rfl fl_X4_66 hw rfl (by decide) ?_
    refine q_icmp_ge 30 12 dX4_sumOfMarks_9 rfl rfl (fun h_9 => ?_) (fun h_9 => ?_)
    · skip
      rw [h11, nI_leI (by omega) (by omega)] at h_9
      refine q_iload_n 31 dX4_sumOfMarks_30 rfl rfl ?_
      refine q_iret dX4_sumOfMarks_31 ?_
      exact ⟨by rw [hz, show k = nN s by omega], rfl⟩
    · skip
      rw [h11, nI_leI (by omega) (by omega)] at h_9
      refine q_iload_n 13 dX4_sumOfMarks_12 rfl rfl ?_
      refine q_aload_n 14 dX4_sumOfMarks_13 rfl rfl ?_
      refine q_alen 15 dX4_sumOfMarks_14 rfl t9 (show w < cnt t by rw [tc]; exact hw) rfl ?_
      refine q_icmp_ge 30 18 dX4_sumOfMarks_15 rfl rfl (fun h_15 => absurd h_15 (by rw [tl, nI_leI (by omega) (by omega)]; omega)) (fun _ => ?_)
      refine q_iload_n 19 dX4_sumOfMarks_18 rfl rfl ?_
      refine q_aload_n 20 dX4_sumOfMarks_19 rfl rfl ?_
      refine q_iload_n 21 dX4_sumOfMarks_20 rfl rfl ?_
      refine q_iald 22 dX4_sumOfMarks_21 rfl t9 (show w < cnt t by rw [tc]; exact hw) rfl (show k < len t by rw [tl]; omega) ?_
      refine q_iadd 23 dX4_sumOfMarks_22 rfl ?_
      refine q_istore_n 24 dX4_sumOfMarks_23 rfl (by decide) rfl ?_
      refine q_iinc 27 dX4_sumOfMarks_24 rfl rfl (by decide) rfl (nI_1 k) ?_
      refine q_goto 4 dX4_sumOfMarks_27 rfl ?_
      exact q_fg (ih (k + 1) _ _ (by omega) (by omega) rfl (by rw [hz, hv k (by omega)]; rfl)) ⟨rfl, rfl, rfl, rfl, trivial⟩
set_option maxRecDepth 100000 in
set_option maxHeartbeats 4000000 in
theorem c4_sumOfMarks {g : GT} (M : TM) (w : Nat) (hw : w < 3) (s : SS) (h11 : M 4 w 11 = nI (nN s)) (hm10 : nN s ≤ 10) (t v : Nat) (ht : 21 ≤ t ∧ t ≤ 25) (hv : ∀ k, k < nN s → M t w k = mk s k v) : Cn g yX4_sumOfMarks cX4_sumOfMarks 4 (some .int) 0 [.ref (gad g 4 w), .ref (gad g t w)] M (Rt (.int (suF s v (nN s))) M) := by
  refine Cn.ofTR (by decide +kernel) (Nat.le_of_ble_eq_true rfl) ?_
  refine q_iconst (v := 0) 1 dX4_sumOfMarks_0 rfl rfl ?_
  refine q_istore_n 2 dX4_sumOfMarks_1 rfl (by decide) rfl ?_
  refine q_iconst (v := 0) 3 dX4_sumOfMarks_2 rfl rfl ?_
  refine q_istore_n 4 dX4_sumOfMarks_3 rfl (by decide) rfl ?_
  exact q_fg (l4_sumOfMarks M w hw s h11 hm10 t v ht hv (nN s + 1) 0 _ _ (by omega) (by omega) rfl rfl) ⟨rfl, rfl, rfl, rfl, trivial⟩
set_option maxRecDepth 100000 in
set_option maxHeartbeats 4000000 in
theorem c4_total {g : GT} (M : TM) (w : Nat) (hw : w < 3) (s : SS) (hP : RF M w s) (h12 : M 4 w 12 = s 6) (x : Int32) (hx : 0 ≤ x ∧ x ≤ 4) : Cn g yX4_total cX4_total 2 (some .int) 1 [.ref (gad g 4 w), .int x] M (Rt (.int (waF s x)) M) := by
  refine Cn.ofTR (by decide +kernel) (Nat.le_of_ble_eq_true rfl) ?_
  obtain ⟨hC, ⟨h11, hm10⟩, hM⟩ := hP
  refine q_iload_n 1 dX4_total_0 rfl rfl ?_
  by_cases hs_1_0 : x = (0 : Int32)
  · skip
    refine q_tab 36 dX4_total_1 rfl (sw_eq hs_1_0 rfl) rfl ?_
    refine q_aload_n 37 dX4_total_36 rfl rfl ?_
    refine q_getI 40 dX4_total_37 rfl fl_X4_69 hw rfl (by decide) ?_
    refine q_iret dX4_total_40 ?_
    refine ⟨congrArg (fun x => some (Value.int x)) ?_, rfl⟩
    unfold waF
    rw [if_pos hs_1_0]
    exact h12
  by_cases hs_1_1 : x = (1 : Int32)
  · skip
    refine q_tab 41 dX4_total_1 rfl (sw_eq hs_1_1 rfl) rfl ?_
    refine q_aload_n 42 dX4_total_41 rfl rfl ?_
    refine q_getI 45 dX4_total_42 rfl fl_X4_72 hw rfl (by decide) ?_
    refine q_iret dX4_total_45 ?_
    refine ⟨congrArg (fun x => some (Value.int x)) ?_, rfl⟩
    unfold waF
    rw [if_neg hs_1_0, if_pos hs_1_1]
    exact hC.2.2.2.1
  by_cases hs_1_2 : x = (2 : Int32)
  · skip
    refine q_tab 46 dX4_total_1 rfl (sw_eq hs_1_2 rfl) rfl ?_
    refine q_aload_n 47 dX4_total_46 rfl rfl ?_
    refine q_aload_n 48 dX4_total_47 rfl rfl ?_
    refine q_getR 51 dX4_total_48 rfl fl_X4_27 hw rfl rfl ?_
    refine q_callVt 54 dX4_total_51 rfl (c4_sumOfMarks _ w hw s h11 hm10 23 2 (by omega) (fun k hk => (hM k hk).2.2.2.1)) cw_X4_112 hw rfl rfl ⟨by decide, by decide⟩ ⟨by decide, by decide⟩ (Nat.le_of_ble_eq_true rfl) ?_
    refine q_iret dX4_total_54 ?_
    refine ⟨congrArg (fun x => some (Value.int x)) ?_, rfl⟩
    unfold waF
    rw [if_neg hs_1_0, if_neg hs_1_1, if_pos hs_1_2]
  by_cases hs_1_3 : x = (3 : Int32)
  · skip
    refine q_tab 55 dX4_total_1 rfl (sw_eq hs_1_3 rfl) rfl ?_
    refine q_aload_n 56 dX4_total_55 rfl rfl ?_
    refine q_aload_n 57 dX4_total_56 rfl rfl ?_
    refine q_getR 60 dX4_total_57 rfl fl_X4_24 hw rfl rfl ?_
    refine q_callVt 63 dX4_total_60 rfl (c4_sumOfMarks _ w hw s h11 hm10 22 1 (by omega) (fun k hk => (hM k hk).2.2.1)) cw_X4_112 hw rfl rfl ⟨by decide, by decide⟩ ⟨by decide, by decide⟩ (Nat.le_of_ble_eq_true rfl) ?_
    refine q_iret dX4_total_63 ?_
    refine ⟨congrArg (fun x => some (Value.int x)) ?_, rfl⟩
    unfold waF
    rw [if_neg hs_1_0, if_neg hs_1_1, if_neg hs_1_2, if_pos hs_1_3]
  by_cases hs_1_4 : x = (4 : Int32)
  · skip
    refine q_tab 64 dX4_total_1 rfl (sw_eq hs_1_4 rfl) rfl ?_
    refine q_aload_n 65 dX4_total_64 rfl rfl ?_
    refine q_aload_n 66 dX4_total_65 rfl rfl ?_
    refine q_getR 69 dX4_total_66 rfl fl_X4_33 hw rfl rfl ?_
    refine q_callVt 72 dX4_total_69 rfl (c4_sumOfMarks _ w hw s h11 hm10 25 4 (by omega) (fun k hk => (hM k hk).2.2.2.2.2)) cw_X4_112 hw rfl rfl ⟨by decide, by decide⟩ ⟨by decide, by decide⟩ (Nat.le_of_ble_eq_true rfl) ?_
    refine q_iret dX4_total_72 ?_
    refine ⟨congrArg (fun x => some (Value.int x)) ?_, rfl⟩
    unfold waF
    rw [if_neg hs_1_0, if_neg hs_1_1, if_neg hs_1_2, if_neg hs_1_3]
  refine q_tab 73 dX4_total_1 rfl (sw_def [0, 1, 2, 3, 4] (by decide) rfl (by simp only [List.mem_cons, List.not_mem_nil, or_false, not_or]; exact ⟨lv_neT hs_1_0 rfl, lv_neT hs_1_1 rfl, lv_neT hs_1_2 rfl, lv_neT hs_1_3 rfl, lv_neT hs_1_4 rfl⟩)) rfl ?_
  refine q_ldc 75 dX4_total_73 rfl cs_X4_116 ?_
  refine q_iret dX4_total_75 ?_
  exfalso
  obtain ⟨e, l⟩ := rg_tn hx (n := 4) rfl
  have : tn x = 0 ∨ tn x = 1 ∨ tn x = 2 ∨ tn x = 3 ∨ tn x = 4 := by omega
  rcases this with q | q | q | q | q <;> rw [q] at e <;> contradiction
