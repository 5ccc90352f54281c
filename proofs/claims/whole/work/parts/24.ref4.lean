theorem eM_up (M : TM) (S : SS) (i : Nat) (v : Int32) : putA (putA M 31 0 S) 31 0 (upd (putA M 31 0 S 31 0) i v) = putA M 31 0 (upd S i v) := by rw [putA_pp, putA_s]
theorem putA_cg {M : TM} {t k : Nat} {f f' : Nat → Int32} (h : f = f') : putA M t k f = putA M t k f' := by rw [h]
set_option maxRecDepth 100000 in
set_option maxHeartbeats 4000000 in
theorem c6_comes {g : GT} (M : TM) (kind ink depth cell : Int32) (s : SS) (hs : M 31 0 = s) (hn : s 0 = nI (nN s)) (h9 : nN s < 10) : Cn g yX6_comes cX6_comes 6 none 1 [.ref (gad g 6 0), .int kind, .int ink, .int depth, .int cell] M (Rv (putA M 31 0 (cmF s kind ink depth cell))) := by
  refine Cn.ofTR (by decide +kernel) (Nat.le_of_ble_eq_true rfl) ?_
  subst hs
  refine q_aload_n 1 dX6_comes_0 rfl rfl ?_
  refine q_getR 4 dX6_comes_1 rfl fl_X6_7 (by decide) rfl rfl ?_
  refine q_iconst (v := 0) 5 dX6_comes_4 rfl rfl ?_
  refine q_iald 6 dX6_comes_5 rfl (by decide) (by decide) rfl (by decide) ?_
  refine q_istore 8 dX6_comes_6 rfl (by decide) rfl ?_
  refine q_aload_n 9 dX6_comes_8 rfl rfl ?_
  refine q_getR 12 dX6_comes_9 rfl fl_X6_7 (by decide) rfl rfl ?_
  refine q_iconst (v := 0) 13 dX6_comes_12 rfl rfl ?_
  refine q_dup2 14 dX6_comes_13 rfl rfl rfl ?_
  refine q_iald 15 dX6_comes_14 rfl (by decide) (by decide) rfl (by decide) ?_
  refine q_iconst (v := 1) 16 dX6_comes_15 rfl rfl ?_
  refine q_iadd 17 dX6_comes_16 rfl ?_
  refine q_iast 18 dX6_comes_17 rfl (by decide) (by decide) rfl (by decide) ?_
  refine q_aload_n 19 dX6_comes_18 rfl rfl ?_
  refine q_iload 21 dX6_comes_19 rfl rfl ?_
  refine q_iconst (v := 0) 22 dX6_comes_21 rfl rfl ?_
  refine q_iload_n 23 dX6_comes_22 rfl rfl ?_
  refine q_callVv 26 dX6_comes_23 rfl (c6_sets _ _ _ _ (nN (M 31 0)) 0 hn rfl (by omega)) cw_X6_98 (by decide) rfl rfl ⟨by decide, by decide⟩ ⟨by decide, by decide⟩ (Nat.le_of_ble_eq_true rfl) ?_
  refine q_aload_n 27 dX6_comes_26 rfl rfl ?_
  refine q_iload 29 dX6_comes_27 rfl rfl ?_
  refine q_iconst (v := 1) 30 dX6_comes_29 rfl rfl ?_
  refine q_iload_n 31 dX6_comes_30 rfl rfl ?_
  refine q_callVv 34 dX6_comes_31 rfl (c6_sets _ _ _ _ (nN (M 31 0)) 1 hn rfl (by omega)) cw_X6_98 (by decide) rfl rfl ⟨by decide, by decide⟩ ⟨by decide, by decide⟩ (Nat.le_of_ble_eq_true rfl) ?_
  refine q_aload_n 35 dX6_comes_34 rfl rfl ?_
  refine q_iload 37 dX6_comes_35 rfl rfl ?_
  refine q_iconst (v := 2) 38 dX6_comes_37 rfl rfl ?_
  refine q_iload_n 39 dX6_comes_38 rfl rfl ?_
  refine q_callVv 42 dX6_comes_39 rfl (c6_sets _ _ _ _ (nN (M 31 0)) 2 hn rfl (by omega)) cw_X6_98 (by decide) rfl rfl ⟨by decide, by decide⟩ ⟨by decide, by decide⟩ (Nat.le_of_ble_eq_true rfl) ?_
  refine q_aload_n 43 dX6_comes_42 rfl rfl ?_
  refine q_iload 45 dX6_comes_43 rfl rfl ?_
  refine q_iconst (v := 3) 46 dX6_comes_45 rfl rfl ?_
  refine q_iload 48 dX6_comes_46 rfl rfl ?_
  refine q_callVv 51 dX6_comes_48 rfl (c6_sets _ _ _ _ (nN (M 31 0)) 3 hn rfl (by omega)) cw_X6_98 (by decide) rfl rfl ⟨by decide, by decide⟩ ⟨by decide, by decide⟩ (Nat.le_of_ble_eq_true rfl) ?_
  refine q_aload_n 52 dX6_comes_51 rfl rfl ?_
  refine q_iload 54 dX6_comes_52 rfl rfl ?_
  refine q_iconst (v := 4) 55 dX6_comes_54 rfl rfl ?_
  refine q_iconst (v := 0) 56 dX6_comes_55 rfl rfl ?_
  refine q_callVv 59 dX6_comes_56 rfl (c6_sets _ _ _ _ (nN (M 31 0)) 4 hn rfl (by omega)) cw_X6_98 (by decide) rfl rfl ⟨by decide, by decide⟩ ⟨by decide, by decide⟩ (Nat.le_of_ble_eq_true rfl) ?_
  refine q_vret dX6_comes_59 ?_
  exact ⟨rfl, by simp only [putA_s, putA_pp]; rfl⟩
set_option maxRecDepth 100000 in
set_option maxHeartbeats 4000000 in
theorem l6_isCoated {g : GT} (M : TM) (x : Int32) (c : Nat) (hx : x = nI c) (h6 : c < 6) (s : SS) (n : Nat) (hn : s 0 = nI n) (hn10 : n ≤ 10) (hm : WFm s) (h3 : ¬ s 3 = 0) : ∀ (j : Nat) (k : Nat) (y : Int32), n - k < j → k ≤ n → y = nI k → TR g (rmD 2) RX6 cX6_isCoated 3 none 0 0 (Zm g (Rv (putA M 31 0 (upd (cdp s c n) (9 + c) (if rmF (s (15 + c)) (s 3) = 0 then wiF (s (9 + c) - 1) 99 else s (9 + c)))))) 28 [some (.ref (gad g 6 0)), some (.int x), some (.int y)] [] (putA M 31 0 (cdp s c k)) := by
  intro j
  induction j with
  | zero => intro k y hj hkn hk; exact absurd hj (by omega)
  | succ j ih =>
    intro k y hj hkn hk
    subst hk
    have eS := cdp_n s c k
    refine q_iload_n 29 dX6_isCoated_28 rfl rfl ?_
    refine q_aload_n 30 dX6_isCoated_29 rfl rfl ?_
    refine q_getR 33 dX6_isCoated_30 rfl fl_X6_7 (by decide) rfl rfl ?_
    refine q_iconst (v := 0) 34 dX6_isCoated_33 rfl rfl ?_
    refine q_iald 35 dX6_isCoated_34 rfl (by decide) (by decide) rfl (by decide) ?_
    refine q_icmp_ge 87 38 dX6_isCoated_35 rfl rfl (fun h_35 => ?_) (fun h_35 => ?_)
    · skip
      replace h_35 : nI n ≤ nI k := by rw [← hn]; exact (show s 0 ≤ _ from (eS 0 (by omega)) ▸ h_35)
      rw [nI_leI (by omega) (by omega)] at h_35
      have e : k = n := by omega
      subst e
      refine q_aload_n 88 dX6_isCoated_87 rfl rfl ?_
      refine q_getR 91 dX6_isCoated_88 rfl fl_X6_7 (by decide) rfl rfl ?_
      refine q_bipush (v := 9) 93 dX6_isCoated_91 rfl rfl ?_
      refine q_iload_n 94 dX6_isCoated_93 rfl rfl ?_
      refine q_iadd 95 dX6_isCoated_94 rfl ?_
      refine q_aload_n 96 dX6_isCoated_95 rfl rfl ?_
      refine q_getR 99 dX6_isCoated_96 rfl fl_X6_7 (by decide) rfl rfl ?_
      refine q_bipush (v := 15) 101 dX6_isCoated_99 rfl rfl ?_
      refine q_iload_n 102 dX6_isCoated_101 rfl rfl ?_
      refine q_iadd 103 dX6_isCoated_102 rfl ?_
      refine q_iald 104 dX6_isCoated_103 rfl (by decide) (by decide) (ix_ad hx) (show 15 + c < 3071 by omega) ?_
      refine q_aload_n 105 dX6_isCoated_104 rfl rfl ?_
      refine q_getR 108 dX6_isCoated_105 rfl fl_X6_7 (by decide) rfl rfl ?_
      refine q_iconst (v := 3) 109 dX6_isCoated_108 rfl rfl ?_
      refine q_iald 110 dX6_isCoated_109 rfl (by decide) (by decide) rfl (by decide) ?_
      refine q_irem 111 dX6_isCoated_110 rfl (show ¬ cdp s c k 3 = 0 by rw [eS 3 (by omega)]; exact h3) ?_
      refine q_if_ne 133 114 dX6_isCoated_111 rfl rfl (fun h_111 => ?_) (fun h_111 => ?_)
      · skip
        refine q_aload_n 134 dX6_isCoated_133 rfl rfl ?_
        refine q_getR 137 dX6_isCoated_134 rfl fl_X6_7 (by decide) rfl rfl ?_
        refine q_bipush (v := 9) 139 dX6_isCoated_137 rfl rfl ?_
        refine q_iload_n 140 dX6_isCoated_139 rfl rfl ?_
        refine q_iadd 141 dX6_isCoated_140 rfl ?_
        refine q_iald 142 dX6_isCoated_141 rfl (by decide) (by decide) (ix_ad hx) (show 9 + c < 3071 by omega) ?_
        refine q_iast 143 dX6_isCoated_142 rfl (by decide) (by decide) (ix_ad hx) (show 9 + c < 3071 by omega) ?_
        refine q_vret dX6_isCoated_143 ?_
        refine ⟨rfl, (eM_up _ _ _ _).trans (putA_cg ?_)⟩
        congr 1
        replace h_111 : _ := h_111
        first
        | (rw [if_pos (show rmF (s (15 + c)) (s 3) = 0 by rw [← eS (15 + c) (by omega), ← eS 3 (by omega)]; exact h_111)]; show wiF (cdp s c k (9 + c) - 1) 99 = _; rw [eS _ (by omega)])
        | (rw [if_neg (show ¬ rmF (s (15 + c)) (s 3) = 0 by rw [← eS (15 + c) (by omega), ← eS 3 (by omega)]; exact h_111)]; exact eS _ (by omega))
      · skip
        refine q_aload_n 115 dX6_isCoated_114 rfl rfl ?_
        refine q_getR 118 dX6_isCoated_115 rfl fl_X6_7 (by decide) rfl rfl ?_
        refine q_bipush (v := 9) 120 dX6_isCoated_118 rfl rfl ?_
        refine q_iload_n 121 dX6_isCoated_120 rfl rfl ?_
        refine q_iadd 122 dX6_isCoated_121 rfl ?_
        refine q_iald 123 dX6_isCoated_122 rfl (by decide) (by decide) (ix_ad hx) (show 9 + c < 3071 by omega) ?_
        refine q_iconst (v := 1) 124 dX6_isCoated_123 rfl rfl ?_
        refine q_isub 125 dX6_isCoated_124 rfl ?_
        refine q_bipush (v := 99) 127 dX6_isCoated_125 rfl rfl ?_
        refine q_callSt 130 dX6_isCoated_127 rfl (c6_within _ _ _) cw_X6_80 rfl rfl ⟨by decide, by decide⟩ ⟨by decide, by decide⟩ (Nat.le_of_ble_eq_true rfl) ?_
        refine q_goto 142 dX6_isCoated_130 rfl ?_
        refine q_iast 143 dX6_isCoated_142 rfl (by decide) (by decide) (ix_ad hx) (show 9 + c < 3071 by omega) ?_
        refine q_vret dX6_isCoated_143 ?_
        refine ⟨rfl, (eM_up _ _ _ _).trans (putA_cg ?_)⟩
        congr 1
        replace h_111 : _ := h_111
        first
        | (rw [if_pos (show rmF (s (15 + c)) (s 3) = 0 by rw [← eS (15 + c) (by omega), ← eS 3 (by omega)]; exact h_111)]; show wiF (cdp s c k (9 + c) - 1) 99 = _; rw [eS _ (by omega)])
        | (rw [if_neg (show ¬ rmF (s (15 + c)) (s 3) = 0 by rw [← eS (15 + c) (by omega), ← eS 3 (by omega)]; exact h_111)]; exact eS _ (by omega))
    · skip
      replace h_35 : ¬ nI n ≤ nI k := by rw [← hn]; exact (show ¬ s 0 ≤ _ from (eS 0 (by omega)) ▸ h_35)
      rw [nI_leI (by omega) (by omega)] at h_35
      refine q_aload_n 39 dX6_isCoated_38 rfl rfl ?_
      refine q_iload_n 40 dX6_isCoated_39 rfl rfl ?_
      refine q_iconst (v := 2) 41 dX6_isCoated_40 rfl rfl ?_
      refine q_aload_n 42 dX6_isCoated_41 rfl rfl ?_
      refine q_iload_n 43 dX6_isCoated_42 rfl rfl ?_
      refine q_iconst (v := 3) 44 dX6_isCoated_43 rfl rfl ?_
      refine q_callVt 47 dX6_isCoated_44 rfl (c6_of _ _ _ k 3 rfl rfl (by omega)) cw_X6_72 (by decide) rfl rfl ⟨by decide, by decide⟩ ⟨by decide, by decide⟩ (Nat.le_of_ble_eq_true rfl) ?_
      refine q_iload_n 48 dX6_isCoated_47 rfl rfl ?_
      refine q_icmp_ne 72 51 dX6_isCoated_48 rfl rfl (fun h_48 => ?_) (fun h_48 => ?_)
      · skip
        refine q_aload_n 73 dX6_isCoated_72 rfl rfl ?_
        refine q_iload_n 74 dX6_isCoated_73 rfl rfl ?_
        refine q_iconst (v := 2) 75 dX6_isCoated_74 rfl rfl ?_
        refine q_callVt 78 dX6_isCoated_75 rfl (c6_of _ _ _ k 2 rfl rfl (by omega)) cw_X6_72 (by decide) rfl rfl ⟨by decide, by decide⟩ ⟨by decide, by decide⟩ (Nat.le_of_ble_eq_true rfl) ?_
        refine q_callVv 81 dX6_isCoated_78 rfl (c6_sets _ _ _ _ k 2 rfl rfl (by omega)) cw_X6_98 (by decide) rfl rfl ⟨by decide, by decide⟩ ⟨by decide, by decide⟩ (Nat.le_of_ble_eq_true rfl) ?_
        refine q_iinc 84 dX6_isCoated_81 rfl rfl (by decide) rfl (nI_1 k) ?_
        refine q_goto 28 dX6_isCoated_84 rfl ?_
        refine q_eqM ((eM_up _ _ _ _).trans (putA_cg ?_)) (q_fg (ih (k + 1) _ (by omega) (by omega) rfl) ⟨rfl, rfl, rfl, trivial⟩)
        rw [cdp_s]
        congr 1
        first
        | (rw [if_neg (show ¬ mk s k 3 = nI c from fun q => h_48 (by show cdp s c k (21 + 5 * k + 3) = x; rw [eS _ (by omega), hx]; exact q))]; exact eS _ (by omega))
        | (rw [if_pos (show mk s k 3 = nI c by rw [← hx, ← h_48]; exact (eS _ (by omega)).symm)]; show leF 9999 (cdp s c k (21 + 5 * k + 2) + siF (cdp s c k) k) = _; rw [eS _ (by omega), siF_c (s := s) (eS _ (by omega)) (eS _ (by omega)) (hm k (by omega)).2.2.2.1 (fun c hc => eS _ (by omega))]; rfl)
      · skip
        refine q_sipush (v := 9999) 54 dX6_isCoated_51 rfl rfl ?_
        refine q_aload_n 55 dX6_isCoated_54 rfl rfl ?_
        refine q_iload_n 56 dX6_isCoated_55 rfl rfl ?_
        refine q_iconst (v := 2) 57 dX6_isCoated_56 rfl rfl ?_
        refine q_callVt 60 dX6_isCoated_57 rfl (c6_of _ _ _ k 2 rfl rfl (by omega)) cw_X6_72 (by decide) rfl rfl ⟨by decide, by decide⟩ ⟨by decide, by decide⟩ (Nat.le_of_ble_eq_true rfl) ?_
        refine q_aload_n 61 dX6_isCoated_60 rfl rfl ?_
        refine q_iload_n 62 dX6_isCoated_61 rfl rfl ?_
        refine q_callVt 65 dX6_isCoated_62 rfl (c6_sinks _ _ (cdp s c k) (by rfl) k rfl (by omega) (by unfold mk; rw [eS _ (by omega)]; exact (hm k (by omega)).2.2.2.1)) cw_X6_124 (by decide) rfl rfl ⟨by decide, by decide⟩ ⟨by decide, by decide⟩ (Nat.le_of_ble_eq_true rfl) ?_
        refine q_iadd 66 dX6_isCoated_65 rfl ?_
        refine q_callSt 69 dX6_isCoated_66 rfl (c6_least _ _ _) cw_X6_95 rfl rfl ⟨by decide, by decide⟩ ⟨by decide, by decide⟩ (Nat.le_of_ble_eq_true rfl) ?_
        refine q_goto 78 dX6_isCoated_69 rfl ?_
        refine q_callVv 81 dX6_isCoated_78 rfl (c6_sets _ _ _ _ k 2 rfl rfl (by omega)) cw_X6_98 (by decide) rfl rfl ⟨by decide, by decide⟩ ⟨by decide, by decide⟩ (Nat.le_of_ble_eq_true rfl) ?_
        refine q_iinc 84 dX6_isCoated_81 rfl rfl (by decide) rfl (nI_1 k) ?_
        refine q_goto 28 dX6_isCoated_84 rfl ?_
        refine q_eqM ((eM_up _ _ _ _).trans (putA_cg ?_)) (q_fg (ih (k + 1) _ (by omega) (by omega) rfl) ⟨rfl, rfl, rfl, trivial⟩)
        rw [cdp_s]
        congr 1
        first
        | (rw [if_neg (show ¬ mk s k 3 = nI c from fun q => h_48 (by show cdp s c k (21 + 5 * k + 3) = x; rw [eS _ (by omega), hx]; exact q))]; exact eS _ (by omega))
        | (rw [if_pos (show mk s k 3 = nI c by rw [← hx, ← h_48]; exact (eS _ (by omega)).symm)]; show leF 9999 (cdp s c k (21 + 5 * k + 2) + siF (cdp s c k) k) = _; rw [eS _ (by omega), siF_c (s := s) (eS _ (by omega)) (eS _ (by omega)) (hm k (by omega)).2.2.2.1 (fun c hc => eS _ (by omega))]; rfl)
set_option maxRecDepth 100000 in
set_option maxHeartbeats 4000000 in
theorem c6_isCoated {g : GT} (M : TM) (x : Int32) (c : Nat) (hx : x = nI c) (h6 : c < 6) (s : SS) (hs : M 31 0 = s) (hn : s 0 = nI (nN s)) (hn10 : nN s ≤ 10) (hm : WFm s) (h3 : ¬ s 3 = 0) : Cn g yX6_isCoated cX6_isCoated 3 none 2 [.ref (gad g 6 0), .int x] M (Rv (putA M 31 0 (coF s c))) := by
  refine Cn.ofTR (by decide +kernel) (Nat.le_of_ble_eq_true rfl) ?_
  subst hs
  refine q_aload_n 1 dX6_isCoated_0 rfl rfl ?_
  refine q_getR 4 dX6_isCoated_1 rfl fl_X6_7 (by decide) rfl rfl ?_
  refine q_bipush (v := 15) 6 dX6_isCoated_4 rfl rfl ?_
  refine q_iload_n 7 dX6_isCoated_6 rfl rfl ?_
  refine q_iadd 8 dX6_isCoated_7 rfl ?_
  refine q_sipush (v := 9999) 11 dX6_isCoated_8 rfl rfl ?_
  refine q_aload_n 12 dX6_isCoated_11 rfl rfl ?_
  refine q_getR 15 dX6_isCoated_12 rfl fl_X6_7 (by decide) rfl rfl ?_
  refine q_bipush (v := 15) 17 dX6_isCoated_15 rfl rfl ?_
  refine q_iload_n 18 dX6_isCoated_17 rfl rfl ?_
  refine q_iadd 19 dX6_isCoated_18 rfl ?_
  refine q_iald 20 dX6_isCoated_19 rfl (by decide) (by decide) (ix_ad hx) (show 15 + c < 3071 by omega) ?_
  refine q_iconst (v := 1) 21 dX6_isCoated_20 rfl rfl ?_
  refine q_iadd 22 dX6_isCoated_21 rfl ?_
  refine q_callSt 25 dX6_isCoated_22 rfl (c6_least _ _ _) cw_X6_95 rfl rfl ⟨by decide, by decide⟩ ⟨by decide, by decide⟩ (Nat.le_of_ble_eq_true rfl) ?_
  refine q_iast 26 dX6_isCoated_25 rfl (by decide) (by decide) (ix_ad hx) (show 15 + c < 3071 by omega) ?_
  refine q_iconst (v := 0) 27 dX6_isCoated_26 rfl rfl ?_
  refine q_istore_n 28 dX6_isCoated_27 rfl (by decide) rfl ?_
  have q := l6_isCoated (g := g) M x c hx h6 (upd (M 31 0) (15 + c) (leF 9999 (M 31 0 (15 + c) + 1))) (nN (M 31 0)) (by rw [upd_n (by omega)]; exact hn) hn10 (fun k hk => by unfold mk; rw [upd_n (by omega), upd_n (by omega), upd_n (by omega), upd_n (by omega), upd_n (by omega)]; exact hm k hk) (by rw [upd_n (by omega)]; exact h3) (nN (M 31 0) + 1) 0 0 (by omega) (by omega) rfl
  rw [upd_s, upd_n (show 3 ≠ 15 + c by omega), upd_n (show 9 + c ≠ 15 + c by omega)] at q
  exact q_fg q ⟨rfl, rfl, rfl, trivial⟩
