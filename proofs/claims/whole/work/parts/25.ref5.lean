theorem sc_put (M : TM) (S : SS) (f f2 : Nat → Int32) : sc (putA M 31 0 S) f f2 = putA (sc M f f2) 31 0 S := by
  unfold sc; rw [putA_cm M S f (by decide), putA_cm (putA M 44 0 f) S f2 (by decide)]
theorem coN_2 (s : SS) : ∀ c, c ≤ 6 → coN s c 2 = s 2
  | 0, _ => rfl
  | c + 1, h => by
    show coF (coN s c) c 2 = _
    rw [coF_o (by omega) (by omega) (by omega) (fun j _ => by omega)]; exact coN_2 s c (by omega)
set_option maxRecDepth 100000 in
set_option maxHeartbeats 4000000 in
theorem l6_isBreathedOn {g : GT} (N : TM) (x : Int32) (s : SS) (n : Nat) (hn : s 0 = nI n) (hn10 : n ≤ 10) (q : Nat → Bool) : ∀ (j : Nat) (k : Nat) (y : Int32), n - k < j → k ≤ n → y = nI k → TR g (rmD 6) RX6 cX6_isBreathedOn 4 (some .int) 0 0 (Zm g (Rt (.int (nI (cntB q n))) (putA N 31 0 (upd (bdp s q n) 6 (leF 99999 (s 6 + nI (cntB q n))))))) 13 [some (.ref (gad g 6 0)), some (.int x), some (.int (nI (setC q n))), some (.int y)] [] (putA N 31 0 (bdp s q k)) := by
  intro j
  induction j with
  | zero => intro k y hj hkn hk; exact absurd hj (by omega)
  | succ j ih =>
    intro k y hj hkn hk
    subst hk
    have eS := bdp_n s q k
    refine q_iload_n 14 dX6_isBreathedOn_13 rfl rfl ?_
    refine q_aload_n 15 dX6_isBreathedOn_14 rfl rfl ?_
    refine q_getR 18 dX6_isBreathedOn_15 rfl fl_X6_7 (by decide) rfl rfl ?_
    refine q_iconst (v := 0) 19 dX6_isBreathedOn_18 rfl rfl ?_
    refine q_iald 20 dX6_isBreathedOn_19 rfl (by decide) (by decide) rfl (by decide) ?_
    refine q_icmp_ge 81 23 dX6_isBreathedOn_20 rfl rfl (fun h_20 => ?_) (fun h_20 => ?_)
    · skip
      replace h_20 : nI n ≤ nI k := by rw [← hn]; exact (show s 0 ≤ _ from (eS 0 (by omega)) ▸ h_20)
      rw [nI_leI (by omega) (by omega)] at h_20
      have e : k = n := by omega
      subst e
      refine q_aload_n 82 dX6_isBreathedOn_81 rfl rfl ?_
      refine q_getR 85 dX6_isBreathedOn_82 rfl fl_X6_7 (by decide) rfl rfl ?_
      refine q_bipush (v := 6) 87 dX6_isBreathedOn_85 rfl rfl ?_
      refine q_ldc 89 dX6_isBreathedOn_87 rfl cs_X6_168 ?_
      refine q_aload_n 90 dX6_isBreathedOn_89 rfl rfl ?_
      refine q_getR 93 dX6_isBreathedOn_90 rfl fl_X6_7 (by decide) rfl rfl ?_
      refine q_bipush (v := 6) 95 dX6_isBreathedOn_93 rfl rfl ?_
      refine q_iald 96 dX6_isBreathedOn_95 rfl (by decide) (by decide) rfl (by decide) ?_
      refine q_iload_n 97 dX6_isBreathedOn_96 rfl rfl ?_
      refine q_callSt 100 dX6_isBreathedOn_97 rfl (c6_many' _ _ q _ rfl hn10) cw_X6_86 rfl rfl ⟨by decide, by decide⟩ ⟨by decide, by decide⟩ (Nat.le_of_ble_eq_true rfl) ?_
      refine q_iadd 101 dX6_isBreathedOn_100 rfl ?_
      refine q_callSt 104 dX6_isBreathedOn_101 rfl (c6_least _ _ _) cw_X6_95 rfl rfl ⟨by decide, by decide⟩ ⟨by decide, by decide⟩ (Nat.le_of_ble_eq_true rfl) ?_
      refine q_iast 105 dX6_isBreathedOn_104 rfl (by decide) (by decide) rfl (by decide) ?_
      refine q_iload_n 106 dX6_isBreathedOn_105 rfl rfl ?_
      refine q_callSt 109 dX6_isBreathedOn_106 rfl (c6_many' _ _ q _ rfl hn10) cw_X6_86 rfl rfl ⟨by decide, by decide⟩ ⟨by decide, by decide⟩ (Nat.le_of_ble_eq_true rfl) ?_
      refine q_iret dX6_isBreathedOn_109 ?_
      refine ⟨rfl, (eM_up _ _ _ _).trans (putA_cg ?_)⟩
      congr 1
      show leF 99999 (bdp s q k 6 + _) = _
      rw [eS 6 (by omega)]
    · skip
      replace h_20 : ¬ nI n ≤ nI k := by rw [← hn]; exact (show ¬ s 0 ≤ _ from (eS 0 (by omega)) ▸ h_20)
      rw [nI_leI (by omega) (by omega)] at h_20
      refine q_iload_n 24 dX6_isBreathedOn_23 rfl rfl ?_
      refine q_iload_n 25 dX6_isBreathedOn_24 rfl rfl ?_
      refine q_ishr 26 dX6_isBreathedOn_25 rfl ?_
      refine q_iconst (v := 1) 27 dX6_isBreathedOn_26 rfl rfl ?_
      refine q_iand 28 dX6_isBreathedOn_27 rfl ?_
      refine q_iconst (v := 1) 29 dX6_isBreathedOn_28 rfl rfl ?_
      refine q_icmp_ne 75 32 dX6_isBreathedOn_29 rfl rfl (fun h_29 => ?_) (fun h_29 => ?_)
      · skip
        rw [bit_at (Nat.lt_trans (setC_le q hn10) (by decide)) (by omega), bI_1, setC_bit] at h_29
        replace h_29 : ¬ q k = true := fun z => h_29 (by simp [show k < n by omega, z])
        refine q_iinc 78 dX6_isBreathedOn_75 rfl rfl (by decide) rfl (nI_1 k) ?_
        refine q_goto 13 dX6_isBreathedOn_78 rfl ?_
        first
        | (refine q_eqM (putA_cg ?_) (q_fg (ih (k + 1) _ (by omega) (by omega) rfl) ⟨rfl, rfl, rfl, rfl, trivial⟩); rw [bdp_s, if_neg h_29])
        | (refine q_eqM (M' := putA N 31 0 (bdp s q (k + 1))) ?_ (q_fg (ih (k + 1) _ (by omega) (by omega) rfl) ⟨rfl, rfl, rfl, rfl, trivial⟩); simp only [eM_up]; refine putA_cg ?_; rw [bdp_s, if_pos h_29]; simp only [putA_s]; unfold mk; rw [upd_n (show 21 + 5 * k + 1 ≠ 21 + 5 * k + 4 by omega), upd_n (show 21 + 5 * k + 0 ≠ 21 + 5 * k + 4 by omega), eS (21 + 5 * k + 4) (fun j hj => by omega), eS (21 + 5 * k + 1) (fun j hj => by omega), eS (21 + 5 * k + 0) (fun j hj => by omega)])
      · skip
        rw [bit_at (Nat.lt_trans (setC_le q hn10) (by decide)) (by omega), bI_1, setC_bit] at h_29
        replace h_29 : q k = true := by simpa [show k < n by omega] using h_29
        refine q_aload_n 33 dX6_isBreathedOn_32 rfl rfl ?_
        refine q_iload_n 34 dX6_isBreathedOn_33 rfl rfl ?_
        refine q_iconst (v := 4) 35 dX6_isBreathedOn_34 rfl rfl ?_
        refine q_sipush (v := 9999) 38 dX6_isBreathedOn_35 rfl rfl ?_
        refine q_aload_n 39 dX6_isBreathedOn_38 rfl rfl ?_
        refine q_iload_n 40 dX6_isBreathedOn_39 rfl rfl ?_
        refine q_iconst (v := 4) 41 dX6_isBreathedOn_40 rfl rfl ?_
        refine q_callVt 44 dX6_isBreathedOn_41 rfl (c6_of _ _ _ k 4 rfl rfl (by omega)) cw_X6_72 (by decide) rfl rfl ⟨by decide, by decide⟩ ⟨by decide, by decide⟩ (Nat.le_of_ble_eq_true rfl) ?_
        refine q_iconst (v := 1) 45 dX6_isBreathedOn_44 rfl rfl ?_
        refine q_iadd 46 dX6_isBreathedOn_45 rfl ?_
        refine q_callSt 49 dX6_isBreathedOn_46 rfl (c6_least _ _ _) cw_X6_95 rfl rfl ⟨by decide, by decide⟩ ⟨by decide, by decide⟩ (Nat.le_of_ble_eq_true rfl) ?_
        refine q_callVv 52 dX6_isBreathedOn_49 rfl (c6_sets _ _ _ _ k 4 rfl rfl (by omega)) cw_X6_98 (by decide) rfl rfl ⟨by decide, by decide⟩ ⟨by decide, by decide⟩ (Nat.le_of_ble_eq_true rfl) ?_
        refine q_aload_n 53 dX6_isBreathedOn_52 rfl rfl ?_
        refine q_iload_n 54 dX6_isBreathedOn_53 rfl rfl ?_
        refine q_iconst (v := 1) 55 dX6_isBreathedOn_54 rfl rfl ?_
        refine q_aload_n 56 dX6_isBreathedOn_55 rfl rfl ?_
        refine q_iload_n 57 dX6_isBreathedOn_56 rfl rfl ?_
        refine q_iconst (v := 1) 58 dX6_isBreathedOn_57 rfl rfl ?_
        refine q_callVt 61 dX6_isBreathedOn_58 rfl (c6_of _ _ _ k 1 rfl rfl (by omega)) cw_X6_72 (by decide) rfl rfl ⟨by decide, by decide⟩ ⟨by decide, by decide⟩ (Nat.le_of_ble_eq_true rfl) ?_
        refine q_aload_n 62 dX6_isBreathedOn_61 rfl rfl ?_
        refine q_iload_n 63 dX6_isBreathedOn_62 rfl rfl ?_
        refine q_callVt 66 dX6_isBreathedOn_63 rfl (c6_fades _ _ _ rfl k rfl (by omega)) cw_X6_127 (by decide) rfl rfl ⟨by decide, by decide⟩ ⟨by decide, by decide⟩ (Nat.le_of_ble_eq_true rfl) ?_
        refine q_isub 67 dX6_isBreathedOn_66 rfl ?_
        refine q_bipush (v := 99) 69 dX6_isBreathedOn_67 rfl rfl ?_
        refine q_callSt 72 dX6_isBreathedOn_69 rfl (c6_within _ _ _) cw_X6_80 rfl rfl ⟨by decide, by decide⟩ ⟨by decide, by decide⟩ (Nat.le_of_ble_eq_true rfl) ?_
        refine q_callVv 75 dX6_isBreathedOn_72 rfl (c6_sets _ _ _ _ k 1 rfl rfl (by omega)) cw_X6_98 (by decide) rfl rfl ⟨by decide, by decide⟩ ⟨by decide, by decide⟩ (Nat.le_of_ble_eq_true rfl) ?_
        refine q_iinc 78 dX6_isBreathedOn_75 rfl rfl (by decide) rfl (nI_1 k) ?_
        refine q_goto 13 dX6_isBreathedOn_78 rfl ?_
        first
        | (refine q_eqM (putA_cg ?_) (q_fg (ih (k + 1) _ (by omega) (by omega) rfl) ⟨rfl, rfl, rfl, rfl, trivial⟩); rw [bdp_s, if_neg h_29])
        | (refine q_eqM (M' := putA N 31 0 (bdp s q (k + 1))) ?_ (q_fg (ih (k + 1) _ (by omega) (by omega) rfl) ⟨rfl, rfl, rfl, rfl, trivial⟩); simp only [eM_up]; refine putA_cg ?_; rw [bdp_s, if_pos h_29]; simp only [putA_s]; unfold mk; rw [upd_n (show 21 + 5 * k + 1 ≠ 21 + 5 * k + 4 by omega), upd_n (show 21 + 5 * k + 0 ≠ 21 + 5 * k + 4 by omega), eS (21 + 5 * k + 4) (fun j hj => by omega), eS (21 + 5 * k + 1) (fun j hj => by omega), eS (21 + 5 * k + 0) (fun j hj => by omega)])
set_option maxRecDepth 100000 in
set_option maxHeartbeats 4000000 in
theorem c6_isBreathedOn {g : GT} (M : TM) (x : Int32) (s : SS) (hs : M 31 0 = s) (hW : Wm s) : Cn g yX6_isBreathedOn cX6_isBreathedOn 4 (some .int) 6 [.ref (gad g 6 0), .int x] M (fun r M' => r = some (.int (brA s x)) ∧ ∃ f f2, M' = putA (sc M f f2) 31 0 (brF s x)) := by
  refine Cn.ofTR (by decide +kernel) (Nat.le_of_ble_eq_true rfl) ?_
  have hW0 := hW
  subst hs
  obtain ⟨⟨hn, hn10⟩, hm⟩ := hW
  refine q_aload_n 1 dX6_isBreathedOn_0 rfl rfl ?_
  refine q_callV 4 dX6_isBreathedOn_1 rfl (c6_legible _ (M 31 0) (by rfl) hW0) cw_X6_165 (by decide) rfl rfl ⟨by decide, by decide⟩ ⟨by decide, by decide⟩ (Nat.le_of_ble_eq_true rfl) ?_
  rintro _ _ ⟨rfl, f, f2, rfl⟩
  refine q_aload_n 5 dX6_isBreathedOn_4 rfl rfl ?_
  refine q_iload_n 6 dX6_isBreathedOn_5 rfl rfl ?_
  refine q_callVt 9 dX6_isBreathedOn_6 rfl (c6_marksIn _ _ (M 31 0) (by rfl) (nN (M 31 0)) hn hn10) cw_X6_83 (by decide) rfl rfl ⟨by decide, by decide⟩ ⟨by decide, by decide⟩ (Nat.le_of_ble_eq_true rfl) ?_
  refine q_iand 10 dX6_isBreathedOn_9 rfl ?_
  refine q_istore_n 11 dX6_isBreathedOn_10 rfl (by decide) rfl ?_
  refine q_iconst (v := 0) 12 dX6_isBreathedOn_11 rfl rfl ?_
  refine q_istore_n 13 dX6_isBreathedOn_12 rfl (by decide) rfl ?_
  have e : nI (setC (fun k => decide (M 31 0 4 ≤ shF (M 31 0) k)) (nN (M 31 0))) &&& nI (setC (inC (M 31 0) x) (nN (M 31 0))) = nI (setC (brQ (M 31 0) x) (nN (M 31 0))) := by
    rw [nI_and (Nat.lt_trans (setC_le _ hn10) (by decide)) (Nat.lt_trans (setC_le _ hn10) (by decide)), setC_and]; rfl
  have q := l6_isBreathedOn (g := g) (sc M f f2) x (M 31 0) (nN (M 31 0)) hn hn10 (brQ (M 31 0) x) (nN (M 31 0) + 1) 0 0 (by omega) (by omega) rfl
  rw [← e] at q
  refine q_eqM (putA_id (sc M f f2) 31 0).symm (q_fg (TR_post q ?_) ⟨rfl, rfl, rfl, rfl, trivial⟩)
  rintro _ _ ⟨rfl, rfl⟩
  exact ⟨rfl, f, f2, rfl⟩
theorem c6_isBreathedOn' {g : GT} (M : TM) (x c : Int32) (hx : x = c) (s : SS) (hs : M 31 0 = s) (hW : Wm s) : Cn g yX6_isBreathedOn cX6_isBreathedOn 4 (some .int) 6 [.ref (gad g 6 0), .int x] M (fun r M' => r = some (.int (brA s c)) ∧ ∃ f f2, M' = putA (sc M f f2) 31 0 (brF s c)) := by
  subst hx; exact c6_isBreathedOn M x s hs hW
set_option maxRecDepth 100000 in
set_option maxHeartbeats 4000000 in
theorem l6_isDug {g : GT} (N : TM) (x d z : Int32) (s : SS) (n : Nat) (hn : s 0 = nI n) (hn10 : n ≤ 10) : ∀ (j : Nat) (k : Nat) (y : Int32), n - k < j → k ≤ n → y = nI k → TR g (rmD 1) RX6 cX6_isDug 5 (some .int) 0 0 (Zm g (Rt (.int z) (putA N 31 0 (ddp s x d n)))) 83 [some (.ref (gad g 6 0)), some (.int x), some (.int d), some (.int z), some (.int y)] [] (putA N 31 0 (ddp s x d k)) := by
  intro j
  induction j with
  | zero => intro k y hj hkn hk; exact absurd hj (by omega)
  | succ j ih =>
    intro k y hj hkn hk
    subst hk
    have eS := ddp_n s x d k
    refine q_iload 85 dX6_isDug_83 rfl rfl ?_
    refine q_aload_n 86 dX6_isDug_85 rfl rfl ?_
    refine q_getR 89 dX6_isDug_86 rfl fl_X6_7 (by decide) rfl rfl ?_
    refine q_iconst (v := 0) 90 dX6_isDug_89 rfl rfl ?_
    refine q_iald 91 dX6_isDug_90 rfl (by decide) (by decide) rfl (by decide) ?_
    refine q_icmp_ge 143 94 dX6_isDug_91 rfl rfl (fun h_91 => ?_) (fun h_91 => ?_)
    · skip
      replace h_91 : nI n ≤ nI k := by rw [← hn]; exact (show s 0 ≤ _ from (eS 0 (by omega)) ▸ h_91)
      rw [nI_leI (by omega) (by omega)] at h_91
      have e : k = n := by omega
      subst e
      refine q_iload_n 144 dX6_isDug_143 rfl rfl ?_
      refine q_iret dX6_isDug_144 ?_
      exact ⟨rfl, rfl⟩
    · skip
      replace h_91 : ¬ nI n ≤ nI k := by rw [← hn]; exact (show ¬ s 0 ≤ _ from (eS 0 (by omega)) ▸ h_91)
      rw [nI_leI (by omega) (by omega)] at h_91
      refine q_aload_n 95 dX6_isDug_94 rfl rfl ?_
      refine q_iload 97 dX6_isDug_95 rfl rfl ?_
      refine q_iconst (v := 2) 98 dX6_isDug_97 rfl rfl ?_
      refine q_aload_n 99 dX6_isDug_98 rfl rfl ?_
      refine q_iload 101 dX6_isDug_99 rfl rfl ?_
      refine q_iconst (v := 3) 102 dX6_isDug_101 rfl rfl ?_
      refine q_callVt 105 dX6_isDug_102 rfl (c6_of _ _ _ k 3 rfl rfl (by omega)) cw_X6_72 (by decide) rfl rfl ⟨by decide, by decide⟩ ⟨by decide, by decide⟩ (Nat.le_of_ble_eq_true rfl) ?_
      refine q_iload_n 106 dX6_isDug_105 rfl rfl ?_
      refine q_icmp_ne 127 109 dX6_isDug_106 rfl rfl (fun h_106 => ?_) (fun h_106 => ?_)
      · skip
        refine q_aload_n 128 dX6_isDug_127 rfl rfl ?_
        refine q_iload 130 dX6_isDug_128 rfl rfl ?_
        refine q_iconst (v := 2) 131 dX6_isDug_130 rfl rfl ?_
        refine q_callVt 134 dX6_isDug_131 rfl (c6_of _ _ _ k 2 rfl rfl (by omega)) cw_X6_72 (by decide) rfl rfl ⟨by decide, by decide⟩ ⟨by decide, by decide⟩ (Nat.le_of_ble_eq_true rfl) ?_
        refine q_callVv 137 dX6_isDug_134 rfl (c6_sets _ _ _ _ k 2 rfl rfl (by omega)) cw_X6_98 (by decide) rfl rfl ⟨by decide, by decide⟩ ⟨by decide, by decide⟩ (Nat.le_of_ble_eq_true rfl) ?_
        refine q_iinc 140 dX6_isDug_137 rfl rfl (by decide) rfl (nI_1 k) ?_
        refine q_goto 83 dX6_isDug_140 rfl ?_
        refine q_eqM ((eM_up _ _ _ _).trans (putA_cg ?_)) (q_fg (ih (k + 1) _ (by omega) (by omega) rfl) ⟨rfl, rfl, rfl, rfl, rfl, trivial⟩)
        rw [ddp_s]
        congr 1
        first
        | (rw [if_neg (show ¬ mk s k 3 = x from fun q => h_106 (by show ddp s x d k (21 + 5 * k + 3) = x; rw [eS _ (by omega)]; exact q))]; exact eS _ (by omega))
        | (rw [if_pos (show mk s k 3 = x by rw [← h_106]; exact (eS _ (by omega)).symm)]; show wiF (ddp s x d k (21 + 5 * k + 2) - d) 9999 = _; rw [eS _ (by omega)]; rfl)
      · skip
        refine q_aload_n 110 dX6_isDug_109 rfl rfl ?_
        refine q_iload 112 dX6_isDug_110 rfl rfl ?_
        refine q_iconst (v := 2) 113 dX6_isDug_112 rfl rfl ?_
        refine q_callVt 116 dX6_isDug_113 rfl (c6_of _ _ _ k 2 rfl rfl (by omega)) cw_X6_72 (by decide) rfl rfl ⟨by decide, by decide⟩ ⟨by decide, by decide⟩ (Nat.le_of_ble_eq_true rfl) ?_
        refine q_iload_n 117 dX6_isDug_116 rfl rfl ?_
        refine q_isub 118 dX6_isDug_117 rfl ?_
        refine q_sipush (v := 9999) 121 dX6_isDug_118 rfl rfl ?_
        refine q_callSt 124 dX6_isDug_121 rfl (c6_within _ _ _) cw_X6_80 rfl rfl ⟨by decide, by decide⟩ ⟨by decide, by decide⟩ (Nat.le_of_ble_eq_true rfl) ?_
        refine q_goto 134 dX6_isDug_124 rfl ?_
        refine q_callVv 137 dX6_isDug_134 rfl (c6_sets _ _ _ _ k 2 rfl rfl (by omega)) cw_X6_98 (by decide) rfl rfl ⟨by decide, by decide⟩ ⟨by decide, by decide⟩ (Nat.le_of_ble_eq_true rfl) ?_
        refine q_iinc 140 dX6_isDug_137 rfl rfl (by decide) rfl (nI_1 k) ?_
        refine q_goto 83 dX6_isDug_140 rfl ?_
        refine q_eqM ((eM_up _ _ _ _).trans (putA_cg ?_)) (q_fg (ih (k + 1) _ (by omega) (by omega) rfl) ⟨rfl, rfl, rfl, rfl, rfl, trivial⟩)
        rw [ddp_s]
        congr 1
        first
        | (rw [if_neg (show ¬ mk s k 3 = x from fun q => h_106 (by show ddp s x d k (21 + 5 * k + 3) = x; rw [eS _ (by omega)]; exact q))]; exact eS _ (by omega))
        | (rw [if_pos (show mk s k 3 = x by rw [← h_106]; exact (eS _ (by omega)).symm)]; show wiF (ddp s x d k (21 + 5 * k + 2) - d) 9999 = _; rw [eS _ (by omega)]; rfl)
set_option maxRecDepth 100000 in
set_option maxHeartbeats 4000000 in
theorem c6_isDug {g : GT} (M : TM) (x d : Int32) (c : Nat) (hx : x = nI c) (h6 : c < 6) (s : SS) (hs : M 31 0 = s) (hn : s 0 = nI (nN s)) (hn10 : nN s ≤ 10) (h3 : ¬ s 3 = 0) : Cn g yX6_isDug cX6_isDug 5 (some .int) 1 [.ref (gad g 6 0), .int x, .int d] M (Rt (.int (duA s c d)) (putA M 31 0 (duF s c d))) := by
  refine Cn.ofTR (by decide +kernel) (Nat.le_of_ble_eq_true rfl) ?_
  subst hs
  subst hx
  have h3b : ∀ a b, ¬ upd (upd (M 31 0) (15 + c) a) 7 b 3 = 0 := fun a b => by rw [upd_n (by decide), upd_n (by omega)]; exact h3
  refine q_iload_n 1 dX6_isDug_0 rfl rfl ?_
  refine q_aload_n 2 dX6_isDug_1 rfl rfl ?_
  refine q_getR 5 dX6_isDug_2 rfl fl_X6_7 (by decide) rfl rfl ?_
  refine q_bipush (v := 15) 7 dX6_isDug_5 rfl rfl ?_
  refine q_iload_n 8 dX6_isDug_7 rfl rfl ?_
  refine q_iadd 9 dX6_isDug_8 rfl ?_
  refine q_iald 10 dX6_isDug_9 rfl (by decide) (by decide) (ix_ad rfl) (show 15 + c < 3071 by omega) ?_
  refine q_callSt 13 dX6_isDug_10 rfl (c6_least _ _ _) cw_X6_95 rfl rfl ⟨by decide, by decide⟩ ⟨by decide, by decide⟩ (Nat.le_of_ble_eq_true rfl) ?_
  refine q_istore_n 14 dX6_isDug_13 rfl (by decide) rfl ?_
  refine q_aload_n 15 dX6_isDug_14 rfl rfl ?_
  refine q_getR 18 dX6_isDug_15 rfl fl_X6_7 (by decide) rfl rfl ?_
  refine q_bipush (v := 15) 20 dX6_isDug_18 rfl rfl ?_
  refine q_iload_n 21 dX6_isDug_20 rfl rfl ?_
  refine q_iadd 22 dX6_isDug_21 rfl ?_
  refine q_dup2 23 dX6_isDug_22 rfl rfl rfl ?_
  refine q_iald 24 dX6_isDug_23 rfl (by decide) (by decide) (ix_ad rfl) (show 15 + c < 3071 by omega) ?_
  refine q_iload_n 25 dX6_isDug_24 rfl rfl ?_
  refine q_isub 26 dX6_isDug_25 rfl ?_
  refine q_iast 27 dX6_isDug_26 rfl (by decide) (by decide) (ix_ad rfl) (show 15 + c < 3071 by omega) ?_
  refine q_aload_n 28 dX6_isDug_27 rfl rfl ?_
  refine q_getR 31 dX6_isDug_28 rfl fl_X6_7 (by decide) rfl rfl ?_
  refine q_bipush (v := 7) 33 dX6_isDug_31 rfl rfl ?_
  refine q_ldc 35 dX6_isDug_33 rfl cs_X6_168 ?_
  refine q_aload_n 36 dX6_isDug_35 rfl rfl ?_
  refine q_getR 39 dX6_isDug_36 rfl fl_X6_7 (by decide) rfl rfl ?_
  refine q_bipush (v := 7) 41 dX6_isDug_39 rfl rfl ?_
  refine q_iald 42 dX6_isDug_41 rfl (by decide) (by decide) rfl (by decide) ?_
  refine q_iload_n 43 dX6_isDug_42 rfl rfl ?_
  refine q_iadd 44 dX6_isDug_43 rfl ?_
  refine q_callSt 47 dX6_isDug_44 rfl (c6_least _ _ _) cw_X6_95 rfl rfl ⟨by decide, by decide⟩ ⟨by decide, by decide⟩ (Nat.le_of_ble_eq_true rfl) ?_
  refine q_iast 48 dX6_isDug_47 rfl (by decide) (by decide) rfl (by decide) ?_
  refine q_aload_n 49 dX6_isDug_48 rfl rfl ?_
  refine q_getR 52 dX6_isDug_49 rfl fl_X6_7 (by decide) rfl rfl ?_
  refine q_bipush (v := 9) 54 dX6_isDug_52 rfl rfl ?_
  refine q_iload_n 55 dX6_isDug_54 rfl rfl ?_
  refine q_iadd 56 dX6_isDug_55 rfl ?_
  refine q_bipush (v := 99) 58 dX6_isDug_56 rfl rfl ?_
  refine q_aload_n 59 dX6_isDug_58 rfl rfl ?_
  refine q_getR 62 dX6_isDug_59 rfl fl_X6_7 (by decide) rfl rfl ?_
  refine q_bipush (v := 9) 64 dX6_isDug_62 rfl rfl ?_
  refine q_iload_n 65 dX6_isDug_64 rfl rfl ?_
  refine q_iadd 66 dX6_isDug_65 rfl ?_
  refine q_iald 67 dX6_isDug_66 rfl (by decide) (by decide) (ix_ad rfl) (show 9 + c < 3071 by omega) ?_
  refine q_iload_n 68 dX6_isDug_67 rfl rfl ?_
  refine q_aload_n 69 dX6_isDug_68 rfl rfl ?_
  refine q_getR 72 dX6_isDug_69 rfl fl_X6_7 (by decide) rfl rfl ?_
  refine q_iconst (v := 3) 73 dX6_isDug_72 rfl rfl ?_
  refine q_iald 74 dX6_isDug_73 rfl (by decide) (by decide) rfl (by decide) ?_
  refine q_idiv 75 dX6_isDug_74 rfl (by simp only [putA_s, upd_n (show (3 : Nat) ≠ 7 by omega), upd_n (show (3 : Nat) ≠ 15 + c by omega)]; exact h3) ?_
  refine q_iadd 76 dX6_isDug_75 rfl ?_
  refine q_callSt 79 dX6_isDug_76 rfl (c6_least _ _ _) cw_X6_95 rfl rfl ⟨by decide, by decide⟩ ⟨by decide, by decide⟩ (Nat.le_of_ble_eq_true rfl) ?_
  refine q_iast 80 dX6_isDug_79 rfl (by decide) (by decide) (ix_ad rfl) (show 9 + c < 3071 by omega) ?_
  refine q_iconst (v := 0) 81 dX6_isDug_80 rfl rfl ?_
  refine q_istore 83 dX6_isDug_81 rfl (by decide) rfl ?_
  refine q_eqM (M' := putA M 31 0 (du1 (M 31 0) c d)) ?_ (q_fg (l6_isDug (g := g) M (nI c) d (duA (M 31 0) c d) (du1 (M 31 0) c d) (nN (M 31 0)) (by unfold du1; rw [upd_n (by omega), upd_n (by omega), upd_n (by omega)]; exact hn) hn10 (nN (M 31 0) + 1) 0 0 (by omega) (by omega) rfl) ⟨rfl, rfl, rfl, rfl, rfl, trivial⟩)
  simp only [putA_s, putA_pp]
  refine putA_cg ?_
  unfold du1
  simp only [upd_n (show (7 : Nat) ≠ 15 + c by omega), upd_n (show 9 + c ≠ 7 by omega), upd_n (show 9 + c ≠ 15 + c by omega), upd_n (show (3 : Nat) ≠ 7 by omega), upd_n (show (3 : Nat) ≠ 15 + c by omega)]
  rfl
set_option maxRecDepth 100000 in
set_option maxHeartbeats 4000000 in
theorem t6_goesOn2 {g : GT} (N : TM) (B : SS) (hW2 : WK B) (z : Int32) : TR g (rmD 7) RX6 cX6_goesOn 4 none 0 0 (Zm g (Rv (putA N 31 0 (upd (spF B) 2 (B 2 + 1))))) 33 [some (.ref (gad g 6 0)), some (.int z), none, none] [] (putA N 31 0 B) := by
  refine q_aload_n 34 dX6_goesOn_33 rfl rfl ?_
  refine q_callVt 37 dX6_goesOn_34 rfl (c6_drawn _) cw_X6_156 (by decide) rfl rfl ⟨by decide, by decide⟩ ⟨by decide, by decide⟩ (Nat.le_of_ble_eq_true rfl) ?_
  refine q_eqM (eM_up _ _ _ _) ?_
  refine q_bipush (v := 100) 39 dX6_goesOn_37 rfl rfl ?_
  refine q_irem 40 dX6_goesOn_39 rfl (by decide) ?_
  refine q_aload_n 41 dX6_goesOn_40 rfl rfl ?_
  refine q_getR 44 dX6_goesOn_41 rfl fl_X6_7 (by decide) rfl rfl ?_
  refine q_iconst (v := 5) 45 dX6_goesOn_44 rfl rfl ?_
  refine q_iald 46 dX6_goesOn_45 rfl (by decide) (by decide) rfl (by decide) ?_
  refine q_icmp_ge 70 49 dX6_goesOn_46 rfl rfl (fun h_46 => ?_) (fun h_46 => ?_)
  · skip
    refine q_aload_n 71 dX6_goesOn_70 rfl rfl ?_
    refine q_getR 74 dX6_goesOn_71 rfl fl_X6_7 (by decide) rfl rfl ?_
    refine q_iconst (v := 2) 75 dX6_goesOn_74 rfl rfl ?_
    refine q_dup2 76 dX6_goesOn_75 rfl rfl rfl ?_
    refine q_iald 77 dX6_goesOn_76 rfl (by decide) (by decide) rfl (by decide) ?_
    refine q_iconst (v := 1) 78 dX6_goesOn_77 rfl rfl ?_
    refine q_iadd 79 dX6_goesOn_78 rfl ?_
    refine q_iast 80 dX6_goesOn_79 rfl (by decide) (by decide) rfl (by decide) ?_
    refine q_vret dX6_goesOn_80 ?_
    refine ⟨rfl, (eM_up _ _ _ _).trans (putA_cg ?_)⟩
    unfold spF
    first
    | (rw [if_neg (show ¬ rmF (drA B) 100 < B 5 from Int32.not_lt.mpr h_46)]; rfl)
    | (rw [if_pos (show rmF (drA B) 100 < B 5 from Int32.not_le.mp h_46), ea, nI_clamp (by omega)]; congr 1; show duF _ a _ 2 + 1 = _; rw [duF_o (by omega) (by omega) (by omega) (fun j _ => by omega)]; rfl)
  · skip
    obtain ⟨a, ha, ea⟩ := drA_6 (drS B)
    have hW5 : WK (drS (drS (drS B))) := upd_WK (upd_WK (upd_WK hW2 _ (Or.inr rfl)) _ (Or.inr rfl)) _ (Or.inr rfl)
    refine q_aload_n 50 dX6_goesOn_49 rfl rfl ?_
    refine q_callVt 53 dX6_goesOn_50 rfl (c6_drawn _) cw_X6_156 (by decide) rfl rfl ⟨by decide, by decide⟩ ⟨by decide, by decide⟩ (Nat.le_of_ble_eq_true rfl) ?_
    refine q_eqM (eM_up _ _ _ _) ?_
    refine q_bipush (v := 6) 55 dX6_goesOn_53 rfl rfl ?_
    refine q_irem 56 dX6_goesOn_55 rfl (by decide) ?_
    refine q_istore_n 57 dX6_goesOn_56 rfl (by decide) rfl ?_
    refine q_aload_n 58 dX6_goesOn_57 rfl rfl ?_
    refine q_iload_n 59 dX6_goesOn_58 rfl rfl ?_
    refine q_aload_n 60 dX6_goesOn_59 rfl rfl ?_
    refine q_callVt 63 dX6_goesOn_60 rfl (c6_drawn _) cw_X6_156 (by decide) rfl rfl ⟨by decide, by decide⟩ ⟨by decide, by decide⟩ (Nat.le_of_ble_eq_true rfl) ?_
    refine q_eqM (eM_up _ _ _ _) ?_
    refine q_bipush (v := 10) 65 dX6_goesOn_63 rfl rfl ?_
    refine q_irem 66 dX6_goesOn_65 rfl (by decide) ?_
    refine q_callVt 69 dX6_goesOn_66 rfl (c6_isDug _ _ _ a ea ha (drS (drS (drS B))) (by rfl) hW5.1.1 hW5.1.2 hW5.n3) cw_X6_172 (by decide) rfl rfl ⟨by decide, by decide⟩ ⟨by decide, by decide⟩ (Nat.le_of_ble_eq_true rfl) ?_
    refine q_eqM (M' := putA N 31 0 (duF (drS (drS (drS B))) a (rmF (drA (drS (drS B))) 10))) (by rw [putA_pp]; rfl) ?_
    refine q_istore_n 70 dX6_goesOn_69 rfl (by decide) rfl ?_
    refine q_aload_n 71 dX6_goesOn_70 rfl rfl ?_
    refine q_getR 74 dX6_goesOn_71 rfl fl_X6_7 (by decide) rfl rfl ?_
    refine q_iconst (v := 2) 75 dX6_goesOn_74 rfl rfl ?_
    refine q_dup2 76 dX6_goesOn_75 rfl rfl rfl ?_
    refine q_iald 77 dX6_goesOn_76 rfl (by decide) (by decide) rfl (by decide) ?_
    refine q_iconst (v := 1) 78 dX6_goesOn_77 rfl rfl ?_
    refine q_iadd 79 dX6_goesOn_78 rfl ?_
    refine q_iast 80 dX6_goesOn_79 rfl (by decide) (by decide) rfl (by decide) ?_
    refine q_vret dX6_goesOn_80 ?_
    refine ⟨rfl, (eM_up _ _ _ _).trans (putA_cg ?_)⟩
    unfold spF
    first
    | (rw [if_neg (show ¬ rmF (drA B) 100 < B 5 from Int32.not_lt.mpr h_46)]; rfl)
    | (rw [if_pos (show rmF (drA B) 100 < B 5 from Int32.not_le.mp h_46), ea, nI_clamp (by omega)]; congr 1; show duF _ a _ 2 + 1 = _; rw [duF_o (by omega) (by omega) (by omega) (fun j _ => by omega)]; rfl)
set_option maxRecDepth 100000 in
set_option maxHeartbeats 4000000 in
theorem l6_goesOn {g : GT} (M : TM) (s : SS) (hW : WK s) : ∀ (j : Nat) (c : Nat) (y : Int32), 6 - c < j → c ≤ 6 → y = nI c → TR g (rmD 7) RX6 cX6_goesOn 4 none 0 0 (Zm g (fun r M' => r = none ∧ ∃ f f2, M' = putA (sc M f f2) 31 0 (goF s))) 2 [some (.ref (gad g 6 0)), some (.int y), none, none] [] (putA M 31 0 (coN s c)) := by
  intro j
  induction j with
  | zero => intro c y hj hc6 hc; exact absurd hj (by omega)
  | succ j ih =>
    intro c y hj hc6 hc
    subst hc
    have hWc := coN_WK hW c hc6
    have e2 := coN_2 s c hc6
    refine q_iload_n 3 dX6_goesOn_2 rfl rfl ?_
    refine q_bipush (v := 6) 5 dX6_goesOn_3 rfl rfl ?_
    refine q_icmp_ge 19 8 dX6_goesOn_5 rfl rfl (fun h_5 => ?_) (fun h_5 => ?_)
    · skip
      rw [show (6 : Int32) = nI 6 from rfl, nI_leI (by decide) (by omega)] at h_5
      have e : c = 6 := by omega
      subst e
      have eg : goF s = upd (spF (brF (coN s 6) (rmF (s 2) 6))) 2 (s 2 + 1) := rfl
      generalize coN s 6 = S at hWc e2 eg
      refine q_aload_n 20 dX6_goesOn_19 rfl rfl ?_
      refine q_aload_n 21 dX6_goesOn_20 rfl rfl ?_
      refine q_getR 24 dX6_goesOn_21 rfl fl_X6_7 (by decide) rfl rfl ?_
      refine q_iconst (v := 2) 25 dX6_goesOn_24 rfl rfl ?_
      refine q_iald 26 dX6_goesOn_25 rfl (by decide) (by decide) rfl (by decide) ?_
      refine q_bipush (v := 6) 28 dX6_goesOn_26 rfl rfl ?_
      refine q_irem 29 dX6_goesOn_28 rfl (by decide) ?_
      refine q_callV 32 dX6_goesOn_29 rfl (c6_isBreathedOn' _ _ (rmF (s 2) 6) (by show rmF (putA M 31 0 S 31 0 2) 6 = _; rw [putA_s, e2]) S (by rfl) hWc.m) cw_X6_169 (by decide) rfl rfl ⟨by decide, by decide⟩ ⟨by decide, by decide⟩ (Nat.le_of_ble_eq_true rfl) ?_
      rintro _ _ ⟨rfl, f, f2, rfl⟩
      rw [eg]
      have hW2 := brF_WK hWc (rmF (s 2) 6)
      have e3 : brF S (rmF (s 2) 6) 2 = s 2 := by rw [brF_o (by decide) (fun j _ => by omega), e2]
      generalize brF S (rmF (s 2) 6) = B at hW2 e3
      refine q_eqM (M' := putA (sc M f f2) 31 0 B) (by rw [sc_put, putA_pp]) ?_
      refine q_istore_n 33 dX6_goesOn_32 rfl (by decide) rfl ?_
      refine TR_post (q_fg (t6_goesOn2 (sc M f f2) B hW2 _) ⟨rfl, rfl, trivial⟩) ?_
      rintro _ _ ⟨rfl, rfl⟩
      exact ⟨rfl, f, f2, by rw [e3]⟩
    · skip
      rw [show (6 : Int32) = nI 6 from rfl, nI_leI (by decide) (by omega)] at h_5
      refine q_aload_n 9 dX6_goesOn_8 rfl rfl ?_
      refine q_iload_n 10 dX6_goesOn_9 rfl rfl ?_
      refine q_callVv 13 dX6_goesOn_10 rfl (c6_isCoated _ _ c rfl (by omega) (coN s c) (by rfl) hWc.1.1 hWc.1.2 hWc.2.2.2.1 hWc.n3) cw_X6_175 (by decide) rfl rfl ⟨by decide, by decide⟩ ⟨by decide, by decide⟩ (Nat.le_of_ble_eq_true rfl) ?_
      refine q_iinc 16 dX6_goesOn_13 rfl rfl (by decide) rfl (nI_1 c) ?_
      refine q_goto 2 dX6_goesOn_16 rfl ?_
      refine q_eqM (M' := putA M 31 0 (coN s (c + 1))) (by rw [putA_pp]; rfl) (q_fg (ih (c + 1) _ (by omega) (by omega) rfl) ⟨rfl, rfl, trivial⟩)
set_option maxRecDepth 100000 in
set_option maxHeartbeats 4000000 in
theorem c6_goesOn {g : GT} (M : TM) (s : SS) (hs : M 31 0 = s) (b : Nat) (hW : WF b s) (hb : b < 100000) : Cn g yX6_goesOn cX6_goesOn 4 none 7 [.ref (gad g 6 0)] M (fun r M' => r = none ∧ ∃ f f2, M' = putA (sc M f f2) 31 0 (goF s)) := by
  refine Cn.ofTR (by decide +kernel) (Nat.le_of_ble_eq_true rfl) ?_
  obtain ⟨sp, h1, h2⟩ := hW.2.1
  subst hs
  refine q_iconst (v := 0) 1 dX6_goesOn_0 rfl rfl ?_
  refine q_istore_n 2 dX6_goesOn_1 rfl (by decide) rfl ?_
  refine q_eqM (putA_id M 31 0).symm (q_fg (l6_goesOn M (M 31 0) hW.k 7 0 0 (by omega) (by omega) rfl) ⟨rfl, rfl, trivial⟩)
set_option maxRecDepth 100000 in
set_option maxHeartbeats 4000000 in
theorem l6_goesOnMany {g : GT} (M : TM) (x : Int32) (n : Nat) (hx : x = nI n) (hn : n < 10000) (s : SS) (b : Nat) (hW : WF b s) (hb : b < 10000) : ∀ (j : Nat) (k : Nat) (y : Int32) (f f2 : Nat → Int32), n - k < j → k ≤ n → y = nI k → TR g (rmD 8) RX6 cX6_goesOnMany 3 none 0 0 (Zm g (fun r M' => r = none ∧ ∃ f f2, M' = putA (sc M f f2) 31 0 (goN s n))) 2 [some (.ref (gad g 6 0)), some (.int x), some (.int y)] [] (putA (sc M f f2) 31 0 (goN s k)) := by
  intro j
  induction j with
  | zero => intro k y f f2 hj hkn hk; exact absurd hj (by omega)
  | succ j ih =>
    intro k y f f2 hj hkn hk
    subst hk; subst hx
    refine q_iload_n 3 dX6_goesOnMany_2 rfl rfl ?_
    refine q_iload_n 4 dX6_goesOnMany_3 rfl rfl ?_
    refine q_icmp_ge 17 7 dX6_goesOnMany_4 rfl rfl (fun h_4 => ?_) (fun h_4 => ?_)
    · skip
      rw [nI_leI (by omega) (by omega)] at h_4
      refine q_vret dX6_goesOnMany_17 ?_
      exact ⟨rfl, f, f2, by rw [show k = n by omega]⟩
    · skip
      rw [nI_leI (by omega) (by omega)] at h_4
      refine q_aload_n 8 dX6_goesOnMany_7 rfl rfl ?_
      refine q_callV 11 dX6_goesOnMany_8 rfl (c6_goesOn _ (goN s k) (by rfl) (b + k) (goN_WF hW k) (by omega)) cw_X6_179 (by decide) rfl rfl ⟨by decide, by decide⟩ ⟨by decide, by decide⟩ (Nat.le_of_ble_eq_true rfl) ?_
      rintro _ _ ⟨rfl, f3, f4, rfl⟩
      refine q_eqM (M' := putA (sc M f3 f4) 31 0 (goN s (k + 1))) (by rw [sc_put, putA_pp, sc_sc]; rfl) ?_
      refine q_iinc 14 dX6_goesOnMany_11 rfl rfl (by decide) rfl (nI_1 k) ?_
      refine q_goto 2 dX6_goesOnMany_14 rfl ?_
      exact q_fg (ih (k + 1) _ f3 f4 (by omega) (by omega) rfl) ⟨rfl, rfl, rfl, trivial⟩
set_option maxRecDepth 100000 in
set_option maxHeartbeats 4000000 in
theorem c6_goesOnMany {g : GT} (M : TM) (x : Int32) (n : Nat) (hx : x = nI n) (hn : n < 10000) (s : SS) (hs : M 31 0 = s) (b : Nat) (hW : WF b s) (hb : b < 10000) : Cn g yX6_goesOnMany cX6_goesOnMany 3 none 8 [.ref (gad g 6 0), .int x] M (fun r M' => r = none ∧ ∃ f f2, M' = putA (sc M f f2) 31 0 (goN s n)) := by
  refine Cn.ofTR (by decide +kernel) (Nat.le_of_ble_eq_true rfl) ?_
  subst hs
  refine q_iconst (v := 0) 1 dX6_goesOnMany_0 rfl rfl ?_
  refine q_istore_n 2 dX6_goesOnMany_1 rfl (by decide) rfl ?_
  refine q_eqM (M' := putA (sc M (M 44 0) (M 45 0)) 31 0 (M 31 0)) (by rw [sc_id, putA_id]) (q_fg (l6_goesOnMany M x n hx hn (M 31 0) b hW hb (n + 1) 0 0 _ _ (by omega) (by omega) rfl) ⟨rfl, rfl, rfl, trivial⟩)
set_option maxRecDepth 100000 in
set_option maxHeartbeats 4000000 in
theorem l6_sumOf {g : GT} (M : TM) (x : Int32) (w : Nat) (hx : x = nI w) (hw : w < 5) (s : SS) (hs : M 31 0 = s) (n : Nat) (hn : s 0 = nI n) (hn10 : n ≤ 10) : ∀ (j : Nat) (k : Nat) (z y : Int32), n - k < j → k ≤ n → z = suF s w k → y = nI k → TR g (rmD 1) RX6 cX6_sumOf 4 (some .int) 0 0 (Zm g (Rt (.int (suF s w n)) M)) 4 [some (.ref (gad g 6 0)), some (.int x), some (.int z), some (.int y)] [] M := by
  intro j
  induction j with
  | zero => intro k z y hj hkn hz hk; exact absurd hj (by omega)
  | succ j ih =>
    intro k z y hj hkn hz hk
    subst hk; subst hs
    refine q_iload_n 5 dX6_sumOf_4 rfl rfl ?_
    refine q_aload_n 6 dX6_sumOf_5 rfl rfl ?_
    refine q_getR 9 dX6_sumOf_6 rfl fl_X6_7 (by decide) rfl rfl ?_
    refine q_iconst (v := 0) 10 dX6_sumOf_9 rfl rfl ?_
    refine q_iald 11 dX6_sumOf_10 rfl (by decide) (by decide) rfl (by decide) ?_
    refine q_icmp_ge 29 14 dX6_sumOf_11 rfl rfl (fun h_11 => ?_) (fun h_11 => ?_)
    · skip
      rw [hn, nI_leI (by omega) (by omega)] at h_11
      refine q_iload_n 30 dX6_sumOf_29 rfl rfl ?_
      refine q_iret dX6_sumOf_30 ?_
      exact ⟨by rw [hz, show k = n by omega], rfl⟩
    · skip
      rw [hn, nI_leI (by omega) (by omega)] at h_11
      refine q_iload_n 15 dX6_sumOf_14 rfl rfl ?_
      refine q_aload_n 16 dX6_sumOf_15 rfl rfl ?_
      refine q_iload_n 17 dX6_sumOf_16 rfl rfl ?_
      refine q_iload_n 18 dX6_sumOf_17 rfl rfl ?_
      refine q_callVt 21 dX6_sumOf_18 rfl (c6_of _ _ _ k w rfl hx (by omega)) cw_X6_72 (by decide) rfl rfl ⟨by decide, by decide⟩ ⟨by decide, by decide⟩ (Nat.le_of_ble_eq_true rfl) ?_
      refine q_iadd 22 dX6_sumOf_21 rfl ?_
      refine q_istore_n 23 dX6_sumOf_22 rfl (by decide) rfl ?_
      refine q_iinc 26 dX6_sumOf_23 rfl rfl (by decide) rfl (nI_1 k) ?_
      refine q_goto 4 dX6_sumOf_26 rfl ?_
      exact q_fg (ih (k + 1) _ _ (by omega) (by omega) (by rw [hz]; rfl) rfl) ⟨rfl, rfl, rfl, rfl, trivial⟩
set_option maxRecDepth 100000 in
set_option maxHeartbeats 4000000 in
theorem c6_sumOf {g : GT} (M : TM) (x : Int32) (w : Nat) (hx : x = nI w) (hw : w < 5) (s : SS) (hs : M 31 0 = s) (n : Nat) (hn : s 0 = nI n) (hn10 : n ≤ 10) : Cn g yX6_sumOf cX6_sumOf 4 (some .int) 1 [.ref (gad g 6 0), .int x] M (Rt (.int (suF s w n)) M) := by
  refine Cn.ofTR (by decide +kernel) (Nat.le_of_ble_eq_true rfl) ?_
  refine q_iconst (v := 0) 1 dX6_sumOf_0 rfl rfl ?_
  refine q_istore_n 2 dX6_sumOf_1 rfl (by decide) rfl ?_
  refine q_iconst (v := 0) 3 dX6_sumOf_2 rfl rfl ?_
  refine q_istore_n 4 dX6_sumOf_3 rfl (by decide) rfl ?_
  exact q_fg (l6_sumOf M x w hx hw s hs n hn hn10 (n + 1) 0 0 0 (by omega) (by omega) rfl rfl) ⟨rfl, rfl, rfl, rfl, trivial⟩
theorem naF_le (s : SS) : ∀ c, naF s c ≤ c
  | 0 => Nat.le_refl _
  | c + 1 => by have := naF_le s c; unfold naF; split <;> omega
set_option maxRecDepth 100000 in
set_option maxHeartbeats 4000000 in
theorem l6_narrowest {g : GT} (M : TM) (s : SS) (hs : M 31 0 = s) : ∀ (j : Nat) (c : Nat) (z y : Int32), 5 - c < j → c ≤ 5 → z = nI (naF s c) → y = nI (c + 1) → TR g (rmD 0) RX6 cX6_narrowest 3 (some .int) 0 0 (Zm g (Rt (.int (nI (naF s 5))) M)) 4 [some (.ref (gad g 6 0)), some (.int z), some (.int y)] [] M := by
  intro j
  induction j with
  | zero => intro c z y hj hkn hz hk; exact absurd hj (by omega)
  | succ j ih =>
    intro c z y hj hkn hz hk
    subst hk; subst hs
    have hl := naF_le (M 31 0) c
    refine q_iload_n 5 dX6_narrowest_4 rfl rfl ?_
    refine q_bipush (v := 6) 7 dX6_narrowest_5 rfl rfl ?_
    refine q_icmp_ge 43 10 dX6_narrowest_7 rfl rfl (fun h_7 => ?_) (fun h_7 => ?_)
    · skip
      rw [show (6 : Int32) = nI 6 from rfl, nI_leI (by omega) (by omega)] at h_7
      refine q_iload_n 44 dX6_narrowest_43 rfl rfl ?_
      refine q_iret dX6_narrowest_44 ?_
      exact ⟨by rw [hz, show c = 5 by omega], rfl⟩
    · skip
      rw [show (6 : Int32) = nI 6 from rfl, nI_leI (by omega) (by omega)] at h_7
      refine q_aload_n 11 dX6_narrowest_10 rfl rfl ?_
      refine q_getR 14 dX6_narrowest_11 rfl fl_X6_7 (by decide) rfl rfl ?_
      refine q_bipush (v := 9) 16 dX6_narrowest_14 rfl rfl ?_
      refine q_iload_n 17 dX6_narrowest_16 rfl rfl ?_
      refine q_iadd 18 dX6_narrowest_17 rfl ?_
      refine q_iald 19 dX6_narrowest_18 rfl (by decide) (by decide) (ix_ad rfl) (show 9 + (c + 1) < 3071 by omega) ?_
      refine q_aload_n 20 dX6_narrowest_19 rfl rfl ?_
      refine q_getR 23 dX6_narrowest_20 rfl fl_X6_7 (by decide) rfl rfl ?_
      refine q_bipush (v := 9) 25 dX6_narrowest_23 rfl rfl ?_
      refine q_iload_n 26 dX6_narrowest_25 rfl rfl ?_
      refine q_iadd 27 dX6_narrowest_26 rfl ?_
      refine q_iald 28 dX6_narrowest_27 rfl (by decide) (by decide) (ix_ad hz) (show 9 + naF (M 31 0) c < 3071 by omega) ?_
      refine q_icmp_ge 35 31 dX6_narrowest_28 rfl rfl (fun h_28 => ?_) (fun h_28 => ?_)
      · skip
        refine q_iload_n 36 dX6_narrowest_35 rfl rfl ?_
        refine q_istore_n 37 dX6_narrowest_36 rfl (by decide) rfl ?_
        refine q_iinc 40 dX6_narrowest_37 rfl rfl (by decide) rfl (nI_1 (c + 1)) ?_
        refine q_goto 4 dX6_narrowest_40 rfl ?_
        refine q_fg (ih (c + 1) _ _ (by omega) (by omega) ?_ rfl) ⟨rfl, rfl, rfl, trivial⟩
        unfold naF
        first | rw [if_neg (Int32.not_lt.mpr h_28), hz] | rw [if_pos (Int32.not_le.mp h_28)]
      · skip
        refine q_iload_n 32 dX6_narrowest_31 rfl rfl ?_
        refine q_goto 36 dX6_narrowest_32 rfl ?_
        refine q_istore_n 37 dX6_narrowest_36 rfl (by decide) rfl ?_
        refine q_iinc 40 dX6_narrowest_37 rfl rfl (by decide) rfl (nI_1 (c + 1)) ?_
        refine q_goto 4 dX6_narrowest_40 rfl ?_
        refine q_fg (ih (c + 1) _ _ (by omega) (by omega) ?_ rfl) ⟨rfl, rfl, rfl, trivial⟩
        unfold naF
        first | rw [if_neg (Int32.not_lt.mpr h_28), hz] | rw [if_pos (Int32.not_le.mp h_28)]
set_option maxRecDepth 100000 in
set_option maxHeartbeats 4000000 in
theorem c6_narrowest {g : GT} (M : TM) (s : SS) (hs : M 31 0 = s) : Cn g yX6_narrowest cX6_narrowest 3 (some .int) 0 [.ref (gad g 6 0)] M (Rt (.int (nI (naF s 5))) M) := by
  refine Cn.ofTR (by decide +kernel) (Nat.le_of_ble_eq_true rfl) ?_
  refine q_iconst (v := 0) 1 dX6_narrowest_0 rfl rfl ?_
  refine q_istore_n 2 dX6_narrowest_1 rfl (by decide) rfl ?_
  refine q_iconst (v := 1) 3 dX6_narrowest_2 rfl rfl ?_
  refine q_istore_n 4 dX6_narrowest_3 rfl (by decide) rfl ?_
  exact q_fg (l6_narrowest M s hs 6 0 0 1 (by omega) (by omega) rfl rfl) ⟨rfl, rfl, rfl, trivial⟩
def waF (s : SS) (w : Int32) : Int32 := if w = 0 then s 6 else if w = 1 then s 7 else if w = 2 then suF s 2 (nN s) else if w = 3 then suF s 1 (nN s) else suF s 4 (nN s)
set_option maxRecDepth 100000 in
set_option maxHeartbeats 4000000 in
theorem c6_wallsOf {g : GT} (M : TM) (w : Int32) (s : SS) (hs : M 31 0 = s) (hn : s 0 = nI (nN s)) (hn10 : nN s ≤ 10) : Cn g yX6_wallsOf cX6_wallsOf 2 (some .int) 2 [.ref (gad g 6 0), .int w] M (Rt (.int (waF s w)) M) := by
  refine Cn.ofTR (by decide +kernel) (Nat.le_of_ble_eq_true rfl) ?_
  subst hs
  refine q_iload_n 1 dX6_wallsOf_0 rfl rfl ?_
  by_cases hs_1_0 : w = (0 : Int32)
  · skip
    refine q_tab 32 dX6_wallsOf_1 rfl (sw_eq hs_1_0 rfl) rfl ?_
    refine q_aload_n 33 dX6_wallsOf_32 rfl rfl ?_
    refine q_getR 36 dX6_wallsOf_33 rfl fl_X6_7 (by decide) rfl rfl ?_
    refine q_bipush (v := 6) 38 dX6_wallsOf_36 rfl rfl ?_
    refine q_iald 39 dX6_wallsOf_38 rfl (by decide) (by decide) rfl (by decide) ?_
    refine q_iret dX6_wallsOf_39 ?_
    refine ⟨congrArg (fun x => some (Value.int x)) ?_, rfl⟩
    unfold waF
    first | (rw [if_pos hs_1_0] <;> rfl) | (rw [if_neg hs_1_0, if_pos hs_1_1] <;> rfl) | (rw [if_neg hs_1_0, if_neg hs_1_1, if_pos hs_1_2] <;> rfl) | (rw [if_neg hs_1_0, if_neg hs_1_1, if_neg hs_1_2, if_pos hs_1_3] <;> rfl) | (rw [if_neg hs_1_0, if_neg hs_1_1, if_neg hs_1_2, if_neg hs_1_3] <;> rfl)
  by_cases hs_1_1 : w = (1 : Int32)
  · skip
    refine q_tab 40 dX6_wallsOf_1 rfl (sw_eq hs_1_1 rfl) rfl ?_
    refine q_aload_n 41 dX6_wallsOf_40 rfl rfl ?_
    refine q_getR 44 dX6_wallsOf_41 rfl fl_X6_7 (by decide) rfl rfl ?_
    refine q_bipush (v := 7) 46 dX6_wallsOf_44 rfl rfl ?_
    refine q_iald 47 dX6_wallsOf_46 rfl (by decide) (by decide) rfl (by decide) ?_
    refine q_iret dX6_wallsOf_47 ?_
    refine ⟨congrArg (fun x => some (Value.int x)) ?_, rfl⟩
    unfold waF
    first | (rw [if_pos hs_1_0] <;> rfl) | (rw [if_neg hs_1_0, if_pos hs_1_1] <;> rfl) | (rw [if_neg hs_1_0, if_neg hs_1_1, if_pos hs_1_2] <;> rfl) | (rw [if_neg hs_1_0, if_neg hs_1_1, if_neg hs_1_2, if_pos hs_1_3] <;> rfl) | (rw [if_neg hs_1_0, if_neg hs_1_1, if_neg hs_1_2, if_neg hs_1_3] <;> rfl)
  by_cases hs_1_2 : w = (2 : Int32)
  · skip
    refine q_tab 48 dX6_wallsOf_1 rfl (sw_eq hs_1_2 rfl) rfl ?_
    refine q_aload_n 49 dX6_wallsOf_48 rfl rfl ?_
    refine q_iconst (v := 2) 50 dX6_wallsOf_49 rfl rfl ?_
    refine q_callVt 53 dX6_wallsOf_50 rfl (c6_sumOf _ _ 2 rfl (by decide) _ rfl _ hn hn10) cw_X6_185 (by decide) rfl rfl ⟨by decide, by decide⟩ ⟨by decide, by decide⟩ (Nat.le_of_ble_eq_true rfl) ?_
    refine q_iret dX6_wallsOf_53 ?_
    refine ⟨congrArg (fun x => some (Value.int x)) ?_, rfl⟩
    unfold waF
    first | (rw [if_pos hs_1_0] <;> rfl) | (rw [if_neg hs_1_0, if_pos hs_1_1] <;> rfl) | (rw [if_neg hs_1_0, if_neg hs_1_1, if_pos hs_1_2] <;> rfl) | (rw [if_neg hs_1_0, if_neg hs_1_1, if_neg hs_1_2, if_pos hs_1_3] <;> rfl) | (rw [if_neg hs_1_0, if_neg hs_1_1, if_neg hs_1_2, if_neg hs_1_3] <;> rfl)
  by_cases hs_1_3 : w = (3 : Int32)
  · skip
    refine q_tab 54 dX6_wallsOf_1 rfl (sw_eq hs_1_3 rfl) rfl ?_
    refine q_aload_n 55 dX6_wallsOf_54 rfl rfl ?_
    refine q_iconst (v := 1) 56 dX6_wallsOf_55 rfl rfl ?_
    refine q_callVt 59 dX6_wallsOf_56 rfl (c6_sumOf _ _ 1 rfl (by decide) _ rfl _ hn hn10) cw_X6_185 (by decide) rfl rfl ⟨by decide, by decide⟩ ⟨by decide, by decide⟩ (Nat.le_of_ble_eq_true rfl) ?_
    refine q_iret dX6_wallsOf_59 ?_
    refine ⟨congrArg (fun x => some (Value.int x)) ?_, rfl⟩
    unfold waF
    first | (rw [if_pos hs_1_0] <;> rfl) | (rw [if_neg hs_1_0, if_pos hs_1_1] <;> rfl) | (rw [if_neg hs_1_0, if_neg hs_1_1, if_pos hs_1_2] <;> rfl) | (rw [if_neg hs_1_0, if_neg hs_1_1, if_neg hs_1_2, if_pos hs_1_3] <;> rfl) | (rw [if_neg hs_1_0, if_neg hs_1_1, if_neg hs_1_2, if_neg hs_1_3] <;> rfl)
  refine q_tab 60 dX6_wallsOf_1 rfl (sw_def [0, 1, 2, 3] (by decide) rfl (by simp only [List.mem_cons, List.not_mem_nil, or_false, not_or]; exact ⟨lv_neT hs_1_0 rfl, lv_neT hs_1_1 rfl, lv_neT hs_1_2 rfl, lv_neT hs_1_3 rfl⟩)) rfl ?_
  refine q_aload_n 61 dX6_wallsOf_60 rfl rfl ?_
  refine q_iconst (v := 4) 62 dX6_wallsOf_61 rfl rfl ?_
  refine q_callVt 65 dX6_wallsOf_62 rfl (c6_sumOf _ _ 4 rfl (by decide) _ rfl _ hn hn10) cw_X6_185 (by decide) rfl rfl ⟨by decide, by decide⟩ ⟨by decide, by decide⟩ (Nat.le_of_ble_eq_true rfl) ?_
  refine q_iret dX6_wallsOf_65 ?_
  refine ⟨congrArg (fun x => some (Value.int x)) ?_, rfl⟩
  unfold waF
  first | (rw [if_pos hs_1_0] <;> rfl) | (rw [if_neg hs_1_0, if_pos hs_1_1] <;> rfl) | (rw [if_neg hs_1_0, if_neg hs_1_1, if_pos hs_1_2] <;> rfl) | (rw [if_neg hs_1_0, if_neg hs_1_1, if_neg hs_1_2, if_pos hs_1_3] <;> rfl) | (rw [if_neg hs_1_0, if_neg hs_1_1, if_neg hs_1_2, if_neg hs_1_3] <;> rfl)
/-- the first k of one row, the rest of another -/
def mixF (f f2 : Nat → Int32) (k : Nat) : Nat → Int32 := fun i => if i < k then f i else f2 i
theorem mixF_0 (f f2 : Nat → Int32) : mixF f f2 0 = f2 := by funext i; unfold mixF; rw [if_neg (Nat.not_lt_zero _)]
theorem mixF_s (f f2 : Nat → Int32) (k : Nat) : upd (mixF f f2 k) k (f k) = mixF f f2 (k + 1) := by
  funext i; unfold mixF upd; dsimp only
  by_cases h : i = k
  · subst h; rw [if_pos rfl, if_pos (by omega)]
  · rw [if_neg h]
    by_cases h2 : i < k
    · rw [if_pos h2, if_pos (by omega)]
    · rw [if_neg h2, if_neg (by omega)]
set_option maxRecDepth 100000 in
set_option maxHeartbeats 4000000 in
theorem l6_laysBy {g : GT} (M : TM) : ∀ (j : Nat) (k : Nat) (y : Int32), 71 - k < j → k ≤ 71 → y = nI k → TR g (rmD 0) RX6 cX6_laysBy 2 none 0 0 (Zm g (Rv (putA M 42 0 (mixF (M 31 0) (M 42 0) 71)))) 2 [some (.ref (gad g 6 0)), some (.int y)] [] (putA M 42 0 (mixF (M 31 0) (M 42 0) k)) := by
  intro j
  induction j with
  | zero => intro k y hj hkn hk; exact absurd hj (by omega)
  | succ j ih =>
    intro k y hj hkn hk
    subst hk
    refine q_iload_n 3 dX6_laysBy_2 rfl rfl ?_
    refine q_bipush (v := 71) 5 dX6_laysBy_3 rfl rfl ?_
    refine q_icmp_ge 26 8 dX6_laysBy_5 rfl rfl (fun h_5 => ?_) (fun h_5 => ?_)
    · skip
      rw [show (71 : Int32) = nI 71 from rfl, nI_leI (by omega) (by omega)] at h_5
      refine q_vret dX6_laysBy_26 ?_
      exact ⟨rfl, by rw [show k = 71 by omega]⟩
    · skip
      rw [show (71 : Int32) = nI 71 from rfl, nI_leI (by omega) (by omega)] at h_5
      refine q_aload_n 9 dX6_laysBy_8 rfl rfl ?_
      refine q_getR 12 dX6_laysBy_9 rfl fl_X6_43 (by decide) rfl rfl ?_
      refine q_iload_n 13 dX6_laysBy_12 rfl rfl ?_
      refine q_aload_n 14 dX6_laysBy_13 rfl rfl ?_
      refine q_getR 17 dX6_laysBy_14 rfl fl_X6_7 (by decide) rfl rfl ?_
      refine q_iload_n 18 dX6_laysBy_17 rfl rfl ?_
      refine q_iald 19 dX6_laysBy_18 rfl (by decide) (by decide) rfl (show k < 3071 by omega) ?_
      refine q_iast 20 dX6_laysBy_19 rfl (by decide) (by decide) rfl (show k < 71 by omega) ?_
      refine q_iinc 23 dX6_laysBy_20 rfl rfl (by decide) rfl (nI_1 k) ?_
      refine q_goto 2 dX6_laysBy_23 rfl ?_
      refine q_eqM (M' := putA M 42 0 (mixF (M 31 0) (M 42 0) (k + 1))) ?_ (q_fg (ih (k + 1) _ (by omega) (by omega) rfl) ⟨rfl, rfl, trivial⟩)
      rw [putA_pp, ← mixF_s]
      rfl
set_option maxRecDepth 100000 in
set_option maxHeartbeats 4000000 in
theorem c6_laysBy {g : GT} (M : TM) : Cn g yX6_laysBy cX6_laysBy 2 none 0 [.ref (gad g 6 0)] M (Rv (putA M 42 0 (mixF (M 31 0) (M 42 0) 71))) := by
  refine Cn.ofTR (by decide +kernel) (Nat.le_of_ble_eq_true rfl) ?_
  refine q_iconst (v := 0) 1 dX6_laysBy_0 rfl rfl ?_
  refine q_istore_n 2 dX6_laysBy_1 rfl (by decide) rfl ?_
  refine q_eqM (M' := putA M 42 0 (mixF (M 31 0) (M 42 0) 0)) (by rw [mixF_0, putA_id]) (q_fg (l6_laysBy M 72 0 0 (by omega) (by omega) rfl) ⟨rfl, rfl, trivial⟩)
set_option maxRecDepth 100000 in
set_option maxHeartbeats 4000000 in
theorem l6_laysBack {g : GT} (M : TM) : ∀ (j : Nat) (k : Nat) (y : Int32), 71 - k < j → k ≤ 71 → y = nI k → TR g (rmD 0) RX6 cX6_laysBack 2 none 0 0 (Zm g (Rv (putA M 31 0 (mixF (M 42 0) (M 31 0) 71)))) 2 [some (.ref (gad g 6 0)), some (.int y)] [] (putA M 31 0 (mixF (M 42 0) (M 31 0) k)) := by
  intro j
  induction j with
  | zero => intro k y hj hkn hk; exact absurd hj (by omega)
  | succ j ih =>
    intro k y hj hkn hk
    subst hk
    refine q_iload_n 3 dX6_laysBack_2 rfl rfl ?_
    refine q_bipush (v := 71) 5 dX6_laysBack_3 rfl rfl ?_
    refine q_icmp_ge 26 8 dX6_laysBack_5 rfl rfl (fun h_5 => ?_) (fun h_5 => ?_)
    · skip
      rw [show (71 : Int32) = nI 71 from rfl, nI_leI (by omega) (by omega)] at h_5
      refine q_vret dX6_laysBack_26 ?_
      exact ⟨rfl, by rw [show k = 71 by omega]⟩
    · skip
      rw [show (71 : Int32) = nI 71 from rfl, nI_leI (by omega) (by omega)] at h_5
      refine q_aload_n 9 dX6_laysBack_8 rfl rfl ?_
      refine q_getR 12 dX6_laysBack_9 rfl fl_X6_7 (by decide) rfl rfl ?_
      refine q_iload_n 13 dX6_laysBack_12 rfl rfl ?_
      refine q_aload_n 14 dX6_laysBack_13 rfl rfl ?_
      refine q_getR 17 dX6_laysBack_14 rfl fl_X6_43 (by decide) rfl rfl ?_
      refine q_iload_n 18 dX6_laysBack_17 rfl rfl ?_
      refine q_iald 19 dX6_laysBack_18 rfl (by decide) (by decide) rfl (show k < 71 by omega) ?_
      refine q_iast 20 dX6_laysBack_19 rfl (by decide) (by decide) rfl (show k < 3071 by omega) ?_
      refine q_iinc 23 dX6_laysBack_20 rfl rfl (by decide) rfl (nI_1 k) ?_
      refine q_goto 2 dX6_laysBack_23 rfl ?_
      refine q_eqM (M' := putA M 31 0 (mixF (M 42 0) (M 31 0) (k + 1))) ?_ (q_fg (ih (k + 1) _ (by omega) (by omega) rfl) ⟨rfl, rfl, trivial⟩)
      rw [putA_pp, ← mixF_s]
      rfl
set_option maxRecDepth 100000 in
set_option maxHeartbeats 4000000 in
theorem c6_laysBack {g : GT} (M : TM) : Cn g yX6_laysBack cX6_laysBack 2 none 0 [.ref (gad g 6 0)] M (Rv (putA M 31 0 (mixF (M 42 0) (M 31 0) 71))) := by
  refine Cn.ofTR (by decide +kernel) (Nat.le_of_ble_eq_true rfl) ?_
  refine q_iconst (v := 0) 1 dX6_laysBack_0 rfl rfl ?_
  refine q_istore_n 2 dX6_laysBack_1 rfl (by decide) rfl ?_
  refine q_eqM (M' := putA M 31 0 (mixF (M 42 0) (M 31 0) 0)) (by rw [mixF_0, putA_id]) (q_fg (l6_laysBack M 72 0 0 (by omega) (by omega) rfl) ⟨rfl, rfl, trivial⟩)
