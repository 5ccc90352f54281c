def fdB (a b c : Int32) (k : Nat) : Int32 := ((if k < 4 then a else if k < 8 then b else c) >>> ((24 - 8 * nI (k % 4)) &&& 31)) &&& 255
def fdT (T : Nat → Int32) (tp : Nat) (a b c : Int32) : Nat → Nat → Int32
  | 0 => T
  | k + 1 => upd (fdT T tp a b c k) (tp + k) (fdB a b c k)
def mFeed (M : TM) (a b c : Int32) (tp k : Nat) : TM := putA (putA M 43 0 (fdT (M 43 0) tp a b c k)) 6 0 (upd (M 6 0) 14 (nI (tp + k)))
theorem mFeed_14 (M : TM) (a b c : Int32) (tp k : Nat) : mFeed M a b c tp k 6 0 14 = nI (tp + k) := by unfold mFeed; rw [putA_s, upd_s]
theorem mFeed_s (M : TM) (a b c v : Int32) (tp k : Nat) (hv : v = fdB a b c k) : fm (putA (mFeed M a b c tp k) 43 0 (upd (mFeed M a b c tp k 43 0) (tp + k) v)) 14 (nI (tp + k + 1)) = mFeed M a b c tp (k + 1) := by
  subst hv
  unfold mFeed
  rw [show (putA (putA M 43 0 (fdT (M 43 0) tp a b c k)) 6 0 (upd (M 6 0) 14 (nI (tp + k)))) 43 0 = fdT (M 43 0) tp a b c k from rfl]
  rw [putA_cm (putA M 43 0 _) _ _ (by decide), putA_pp, show fm (putA (putA M 43 0 (upd (fdT (M 43 0) tp a b c k) (tp + k) (fdB a b c k))) 6 0 (upd (M 6 0) 14 (nI (tp + k)))) 14 (nI (tp + k + 1)) = putA (putA (putA M 43 0 (upd (fdT (M 43 0) tp a b c k) (tp + k) (fdB a b c k))) 6 0 (upd (M 6 0) 14 (nI (tp + k)))) 6 0 (upd (upd (M 6 0) 14 (nI (tp + k))) 14 (nI (tp + k + 1))) from rfl, putA_pp, show upd (upd (M 6 0) 14 (nI (tp + k))) 14 (nI (tp + k + 1)) = upd (M 6 0) 14 (nI (tp + k + 1)) by funext i; unfold upd; split <;> rfl]
  rfl
set_option maxRecDepth 100000 in
set_option maxHeartbeats 4000000 in
theorem l6_feed {g : GT} (M : TM) (a b c : Int32) (tp : Nat) (h84 : tp ≤ 84) : ∀ (j : Nat) (k : Nat) (y : Int32), 12 - k < j → k ≤ 12 → y = nI k → TR g (rmD 0) RX6 cX6_feed 6 (some .int) 0 0 (Zm g (Rt (.int (nI (tp + 12))) (mFeed M a b c tp 12))) 18 [some (.ref (gad g 6 0)), some (.int a), some (.int b), some (.int c), some (.int y), none] [] (mFeed M a b c tp k) := by
  intro j
  induction j with
  | zero => intro k y hj hk hy; exact absurd hj (by omega)
  | succ j ih =>
    intro k y hj hk hy
    subst hy
    refine q_iload 20 dX6_feed_18 rfl rfl ?_
    refine q_bipush (v := 12) 22 dX6_feed_20 rfl rfl ?_
    refine q_icmp_ge 91 25 dX6_feed_22 rfl rfl (fun h_22 => ?_) (fun h_22 => ?_)
    · skip
      rw [show (12 : Int32) = nI 12 from rfl, nI_leI (by omega) (by omega)] at h_22
      refine q_aload_n 92 dX6_feed_91 rfl rfl ?_
      refine q_getI 95 dX6_feed_92 rfl fl_X6_211 (by decide) rfl (by decide) ?_
      refine q_iret dX6_feed_95 ?_
      have e : k = 12 := by omega
      subst e
      exact ⟨congrArg (fun x => some (Value.int x)) (mFeed_14 M a b c tp 12), rfl⟩
    · skip
      rw [show (12 : Int32) = nI 12 from rfl, nI_leI (by omega) (by omega)] at h_22
      refine q_iload 27 dX6_feed_25 rfl rfl ?_
      refine q_iconst (v := 4) 28 dX6_feed_27 rfl rfl ?_
      refine q_icmp_ge 35 31 dX6_feed_28 rfl rfl (fun h_28 => ?_) (fun h_28 => ?_)
      · skip
        rw [show (4 : Int32) = nI 4 from rfl, nI_leI (by omega) (by omega)] at h_28
        refine q_iload 37 dX6_feed_35 rfl rfl ?_
        refine q_bipush (v := 8) 39 dX6_feed_37 rfl rfl ?_
        refine q_icmp_ge 46 42 dX6_feed_39 rfl rfl (fun h_39 => ?_) (fun h_39 => ?_)
        · skip
          rw [show (8 : Int32) = nI 8 from rfl, nI_leI (by omega) (by omega)] at h_39
          refine q_iload_n 47 dX6_feed_46 rfl rfl ?_
          refine q_istore 49 dX6_feed_47 rfl (by decide) rfl ?_
          refine q_aload_n 50 dX6_feed_49 rfl rfl ?_
          refine q_getR 53 dX6_feed_50 rfl fl_X6_46 (by decide) rfl rfl ?_
          refine q_aload_n 54 dX6_feed_53 rfl rfl ?_
          refine q_getI 57 dX6_feed_54 rfl fl_X6_211 (by decide) rfl (by decide) ?_
          refine q_iload 59 dX6_feed_57 rfl rfl ?_
          refine q_bipush (v := 24) 61 dX6_feed_59 rfl rfl ?_
          refine q_bipush (v := 8) 63 dX6_feed_61 rfl rfl ?_
          refine q_iload 65 dX6_feed_63 rfl rfl ?_
          refine q_iconst (v := 4) 66 dX6_feed_65 rfl rfl ?_
          refine q_irem 67 dX6_feed_66 rfl (by decide) ?_
          refine q_imul 68 dX6_feed_67 rfl ?_
          refine q_isub 69 dX6_feed_68 rfl ?_
          refine q_ishr 70 dX6_feed_69 rfl ?_
          refine q_sipush (v := 255) 73 dX6_feed_70 rfl rfl ?_
          refine q_iand 74 dX6_feed_73 rfl ?_
          refine q_iast 75 dX6_feed_74 rfl (by decide) (by decide) (mFeed_14 M a b c tp k) (show tp + k < 96 by omega) ?_
          refine q_aload_n 76 dX6_feed_75 rfl rfl ?_
          refine q_dup 77 dX6_feed_76 rfl rfl ?_
          refine q_getI 80 dX6_feed_77 rfl fl_X6_211 (by decide) rfl (by decide) ?_
          refine q_iconst (v := 1) 81 dX6_feed_80 rfl rfl ?_
          refine q_iadd 82 dX6_feed_81 rfl ?_
          refine q_putI 85 dX6_feed_82 rfl fl_X6_211 fp_6_14 (by decide) rfl (by decide) rfl rfl ?_
          refine q_iinc 88 dX6_feed_85 rfl rfl (by decide) rfl (nI_1 k) ?_
          refine q_goto 18 dX6_feed_88 rfl ?_
          refine q_eqM (M' := mFeed M a b c tp (k + 1)) ?_ (q_fg (ih (k + 1) _ (by omega) (by omega) rfl) ⟨rfl, rfl, rfl, rfl, rfl, trivial⟩)
          rw [← mFeed_s M a b c _ tp k rfl]
          have e1 : mFeed M a b c tp k 6 0 14 + 1 = nI (tp + k + 1) := by rw [mFeed_14, nI_1]
          have e2 : nI k - nI k / 4 * 4 = nI (k % 4) := pk_rem (d := 4) (by omega) (by decide) (by decide)
          unfold fdB
          rw [e2]
          show fm _ 14 (mFeed M a b c tp k 6 0 14 + 1) = _
          rw [e1]
          first | rw [if_neg (show ¬ k < 4 by omega), if_neg (show ¬ k < 8 by omega)] | rw [if_neg (show ¬ k < 4 by omega), if_pos (show k < 8 by omega)] | rw [if_pos (show k < 4 by omega)]
        · skip
          rw [show (8 : Int32) = nI 8 from rfl, nI_leI (by omega) (by omega)] at h_39
          refine q_iload_n 43 dX6_feed_42 rfl rfl ?_
          refine q_goto 47 dX6_feed_43 rfl ?_
          refine q_istore 49 dX6_feed_47 rfl (by decide) rfl ?_
          refine q_aload_n 50 dX6_feed_49 rfl rfl ?_
          refine q_getR 53 dX6_feed_50 rfl fl_X6_46 (by decide) rfl rfl ?_
          refine q_aload_n 54 dX6_feed_53 rfl rfl ?_
          refine q_getI 57 dX6_feed_54 rfl fl_X6_211 (by decide) rfl (by decide) ?_
          refine q_iload 59 dX6_feed_57 rfl rfl ?_
          refine q_bipush (v := 24) 61 dX6_feed_59 rfl rfl ?_
          refine q_bipush (v := 8) 63 dX6_feed_61 rfl rfl ?_
          refine q_iload 65 dX6_feed_63 rfl rfl ?_
          refine q_iconst (v := 4) 66 dX6_feed_65 rfl rfl ?_
          refine q_irem 67 dX6_feed_66 rfl (by decide) ?_
          refine q_imul 68 dX6_feed_67 rfl ?_
          refine q_isub 69 dX6_feed_68 rfl ?_
          refine q_ishr 70 dX6_feed_69 rfl ?_
          refine q_sipush (v := 255) 73 dX6_feed_70 rfl rfl ?_
          refine q_iand 74 dX6_feed_73 rfl ?_
          refine q_iast 75 dX6_feed_74 rfl (by decide) (by decide) (mFeed_14 M a b c tp k) (show tp + k < 96 by omega) ?_
          refine q_aload_n 76 dX6_feed_75 rfl rfl ?_
          refine q_dup 77 dX6_feed_76 rfl rfl ?_
          refine q_getI 80 dX6_feed_77 rfl fl_X6_211 (by decide) rfl (by decide) ?_
          refine q_iconst (v := 1) 81 dX6_feed_80 rfl rfl ?_
          refine q_iadd 82 dX6_feed_81 rfl ?_
          refine q_putI 85 dX6_feed_82 rfl fl_X6_211 fp_6_14 (by decide) rfl (by decide) rfl rfl ?_
          refine q_iinc 88 dX6_feed_85 rfl rfl (by decide) rfl (nI_1 k) ?_
          refine q_goto 18 dX6_feed_88 rfl ?_
          refine q_eqM (M' := mFeed M a b c tp (k + 1)) ?_ (q_fg (ih (k + 1) _ (by omega) (by omega) rfl) ⟨rfl, rfl, rfl, rfl, rfl, trivial⟩)
          rw [← mFeed_s M a b c _ tp k rfl]
          have e1 : mFeed M a b c tp k 6 0 14 + 1 = nI (tp + k + 1) := by rw [mFeed_14, nI_1]
          have e2 : nI k - nI k / 4 * 4 = nI (k % 4) := pk_rem (d := 4) (by omega) (by decide) (by decide)
          unfold fdB
          rw [e2]
          show fm _ 14 (mFeed M a b c tp k 6 0 14 + 1) = _
          rw [e1]
          first | rw [if_neg (show ¬ k < 4 by omega), if_neg (show ¬ k < 8 by omega)] | rw [if_neg (show ¬ k < 4 by omega), if_pos (show k < 8 by omega)] | rw [if_pos (show k < 4 by omega)]
      · skip
        rw [show (4 : Int32) = nI 4 from rfl, nI_leI (by omega) (by omega)] at h_28
        refine q_iload_n 32 dX6_feed_31 rfl rfl ?_
        refine q_goto 47 dX6_feed_32 rfl ?_
        refine q_istore 49 dX6_feed_47 rfl (by decide) rfl ?_
        refine q_aload_n 50 dX6_feed_49 rfl rfl ?_
        refine q_getR 53 dX6_feed_50 rfl fl_X6_46 (by decide) rfl rfl ?_
        refine q_aload_n 54 dX6_feed_53 rfl rfl ?_
        refine q_getI 57 dX6_feed_54 rfl fl_X6_211 (by decide) rfl (by decide) ?_
        refine q_iload 59 dX6_feed_57 rfl rfl ?_
        refine q_bipush (v := 24) 61 dX6_feed_59 rfl rfl ?_
        refine q_bipush (v := 8) 63 dX6_feed_61 rfl rfl ?_
        refine q_iload 65 dX6_feed_63 rfl rfl ?_
        refine q_iconst (v := 4) 66 dX6_feed_65 rfl rfl ?_
        refine q_irem 67 dX6_feed_66 rfl (by decide) ?_
        refine q_imul 68 dX6_feed_67 rfl ?_
        refine q_isub 69 dX6_feed_68 rfl ?_
        refine q_ishr 70 dX6_feed_69 rfl ?_
        refine q_sipush (v := 255) 73 dX6_feed_70 rfl rfl ?_
        refine q_iand 74 dX6_feed_73 rfl ?_
        refine q_iast 75 dX6_feed_74 rfl (by decide) (by decide) (mFeed_14 M a b c tp k) (show tp + k < 96 by omega) ?_
        refine q_aload_n 76 dX6_feed_75 rfl rfl ?_
        refine q_dup 77 dX6_feed_76 rfl rfl ?_
        refine q_getI 80 dX6_feed_77 rfl fl_X6_211 (by decide) rfl (by decide) ?_
        refine q_iconst (v := 1) 81 dX6_feed_80 rfl rfl ?_
        refine q_iadd 82 dX6_feed_81 rfl ?_
        refine q_putI 85 dX6_feed_82 rfl fl_X6_211 fp_6_14 (by decide) rfl (by decide) rfl rfl ?_
        refine q_iinc 88 dX6_feed_85 rfl rfl (by decide) rfl (nI_1 k) ?_
        refine q_goto 18 dX6_feed_88 rfl ?_
        refine q_eqM (M' := mFeed M a b c tp (k + 1)) ?_ (q_fg (ih (k + 1) _ (by omega) (by omega) rfl) ⟨rfl, rfl, rfl, rfl, rfl, trivial⟩)
        rw [← mFeed_s M a b c _ tp k rfl]
        have e1 : mFeed M a b c tp k 6 0 14 + 1 = nI (tp + k + 1) := by rw [mFeed_14, nI_1]
        have e2 : nI k - nI k / 4 * 4 = nI (k % 4) := pk_rem (d := 4) (by omega) (by decide) (by decide)
        unfold fdB
        rw [e2]
        show fm _ 14 (mFeed M a b c tp k 6 0 14 + 1) = _
        rw [e1]
        first | rw [if_neg (show ¬ k < 4 by omega), if_neg (show ¬ k < 8 by omega)] | rw [if_neg (show ¬ k < 4 by omega), if_pos (show k < 8 by omega)] | rw [if_pos (show k < 4 by omega)]
set_option maxRecDepth 100000 in
set_option maxHeartbeats 4000000 in
theorem c6_feed {g : GT} (M : TM) (a b c : Int32) (tp : Nat) (ht : M 6 0 14 = nI tp) (h96 : tp ≤ 96) : Cn g yX6_feed cX6_feed 6 (some .int) 0 [.ref (gad g 6 0), .int a, .int b, .int c] M (Pi (84 < tp) FULLc (nI (tp + 12)) M (mFeed M a b c tp 12)) := by
  refine Cn.ofTR (by decide +kernel) (Nat.le_of_ble_eq_true rfl) ?_
  refine q_aload_n 1 dX6_feed_0 rfl rfl ?_
  refine q_getI 4 dX6_feed_1 rfl fl_X6_211 (by decide) rfl (by decide) ?_
  refine q_bipush (v := 12) 6 dX6_feed_4 rfl rfl ?_
  refine q_iadd 7 dX6_feed_6 rfl ?_
  refine q_bipush (v := 96) 9 dX6_feed_7 rfl rfl ?_
  refine q_icmp_le 15 12 dX6_feed_9 rfl rfl (fun h_9 => ?_) (fun h_9 => ?_)
  · skip
    rw [ht, show (12 : Int32) = nI 12 from rfl, nI_add, show (96 : Int32) = nI 96 from rfl, nI_leI (by omega) (by omega)] at h_9
    refine q_iconst (v := 0) 16 dX6_feed_15 rfl rfl ?_
    refine q_istore 18 dX6_feed_16 rfl (by decide) rfl ?_
    refine q_eqM (M' := mFeed M a b c tp 0) ?_ (TR_post (q_fg (l6_feed M a b c tp (by omega) 13 0 0 (by omega) (by omega) rfl) ⟨rfl, rfl, rfl, rfl, rfl, trivial⟩) (by rintro _ _ ⟨rfl, rfl⟩; exact Pi_f (by omega)))
    unfold mFeed
    rw [Nat.add_zero, ← ht, upd_id]
    show M = putA (putA M 43 0 (M 43 0)) 6 0 (M 6 0)
    rw [putA_id, putA_id]
  · skip
    rw [ht, show (12 : Int32) = nI 12 from rfl, nI_add, show (96 : Int32) = nI 96 from rfl, nI_leI (by omega) (by omega)] at h_9
    refine q_ldc 14 dX6_feed_12 rfl cs_X6_111 ?_
    refine q_iret dX6_feed_14 ?_
    exact Pi_t (by omega)
abbrev cLay (s : SS) (l t k : Int32) : Prop := isL l ∧ (t = 0 ∨ t = 3 ∨ (t = 1 ∧ isM s k) ∨ (t = 2 ∧ isS k))
def aLay (M : TM) (l t k : Int32) : Int32 := if cLay (M 31 0) l t k then (if t = 2 ∧ M 34 0 (tn k) < 0 then NOTHc else M 37 0 (tn l)) else BADc
def mLay0 (M : TM) (l t k : Int32) : TM := putA (putA (putA M 37 0 (upd (M 37 0) (tn l) t)) 38 0 (upd (M 38 0) (tn l) (if t = 1 then mk (M 31 0) (tn k) 0 else k))) 39 0 (upd (M 39 0) (tn l) (if t = 1 then woF (mk (M 31 0) (tn k) 0) (mk (M 31 0) (tn k) 1) (mk (M 31 0) (tn k) 4) else 0))
def mLay (M : TM) (l t k : Int32) : TM := if cLay (M 31 0) l t k ∧ ¬ (t = 2 ∧ M 34 0 (tn k) < 0) then (if t = 2 then putA (putA (mLay0 M l t k) 40 0 (upd (M 40 0) (tn l) (M 35 0 (tn k)))) 41 0 (va_cpy (M 36 0) (M 41 0) (24 * tn k) (24 * tn l) 24) else mLay0 M l t k) else M
set_option maxRecDepth 100000 in
set_option maxHeartbeats 4000000 in
theorem l6_lay {g : GT} (N : TM) (l t k z w : Int32) (ll kk : Nat) (el : l = nI ll) (ek : k = nI kk) (h5 : ll < 5) (h4 : kk < 4) : ∀ (j : Nat) (i : Nat) (y : Int32), 24 - i < j → i ≤ 24 → y = nI i → TR g (rmD 2) RX6 cX6_lay 7 (some .int) 0 0 (Zm g (Rt (.int z) (putA N 41 0 (va_cpy (N 36 0) (N 41 0) (24 * kk) (24 * ll) 24)))) 150 [some (.ref (gad g 6 0)), some (.int l), some (.int t), some (.int k), some (.int w), some (.int z), some (.int y)] [] (putA N 41 0 (va_cpy (N 36 0) (N 41 0) (24 * kk) (24 * ll) i)) := by
  intro j
  induction j with
  | zero => intro i y hj hi hy; exact absurd hj (by omega)
  | succ j ih =>
    intro i y hj hi hy
    subst hy
    refine q_iload 152 dX6_lay_150 rfl rfl ?_
    refine q_bipush (v := 24) 154 dX6_lay_152 rfl rfl ?_
    refine q_icmp_ge 187 157 dX6_lay_154 rfl rfl (fun h_154 => ?_) (fun h_154 => ?_)
    · skip
      rw [show (24 : Int32) = nI 24 from rfl, nI_leI (by omega) (by omega)] at h_154
      refine q_iload 189 dX6_lay_187 rfl rfl ?_
      refine q_iret dX6_lay_189 ?_
      exact ⟨rfl, by rw [show i = 24 by omega]⟩
    · skip
      rw [show (24 : Int32) = nI 24 from rfl, nI_leI (by omega) (by omega)] at h_154
      refine q_aload_n 158 dX6_lay_157 rfl rfl ?_
      refine q_getR 161 dX6_lay_158 rfl fl_X6_40 (by decide) rfl rfl ?_
      refine q_bipush (v := 24) 163 dX6_lay_161 rfl rfl ?_
      refine q_iload_n 164 dX6_lay_163 rfl rfl ?_
      refine q_imul 165 dX6_lay_164 rfl ?_
      refine q_iload 167 dX6_lay_165 rfl rfl ?_
      refine q_iadd 168 dX6_lay_167 rfl ?_
      refine q_aload_n 169 dX6_lay_168 rfl rfl ?_
      refine q_getR 172 dX6_lay_169 rfl fl_X6_25 (by decide) rfl rfl ?_
      refine q_bipush (v := 24) 174 dX6_lay_172 rfl rfl ?_
      refine q_iload_n 175 dX6_lay_174 rfl rfl ?_
      refine q_imul 176 dX6_lay_175 rfl ?_
      refine q_iload 178 dX6_lay_176 rfl rfl ?_
      refine q_iadd 179 dX6_lay_178 rfl ?_
      refine q_iald 180 dX6_lay_179 rfl (by decide) (by decide) (ix_24 ek rfl) (show 24 * kk + i < 96 by omega) ?_
      refine q_iast 181 dX6_lay_180 rfl (by decide) (by decide) (ix_24 el rfl) (show 24 * ll + i < 120 by omega) ?_
      refine q_iinc 184 dX6_lay_181 rfl rfl (by decide) rfl (nI_1 i) ?_
      refine q_goto 150 dX6_lay_184 rfl ?_
      refine q_eqM (M' := putA N 41 0 (va_cpy (N 36 0) (N 41 0) (24 * kk) (24 * ll) (i + 1))) (by rw [putA_pp, putA_s, ← cpy_s]; rfl) (q_fg (ih (i + 1) _ (by omega) (by omega) rfl) ⟨rfl, rfl, rfl, rfl, rfl, rfl, rfl, trivial⟩)
set_option maxRecDepth 100000 in
set_option maxHeartbeats 4000000 in
theorem c6_lay {g : GT} (M : TM) (l t k : Int32) (s : SS) (hs : M 31 0 = s) (hn : s 0 = nI (nN s)) (hn10 : nN s ≤ 10) : Cn g yX6_lay cX6_lay 7 (some .int) 2 [.ref (gad g 6 0), .int l, .int t, .int k] M (fun r M' => r = some (.int (aLay M l t k)) ∧ M' = mLay M l t k) := by
  refine Cn.ofTR (by decide +kernel) (Nat.le_of_ble_eq_true rfl) ?_
  subst hs
  refine q_iload_n 1 dX6_lay_0 rfl rfl ?_
  refine q_if_eq 34 4 dX6_lay_1 rfl rfl (fun h_1 => ?_) (fun h_1 => ?_)
  · skip
    refine q_iconst (v := 1) 35 dX6_lay_34 rfl rfl ?_
    refine q_goto 39 dX6_lay_35 rfl ?_
    refine q_istore 41 dX6_lay_39 rfl (by decide) rfl ?_
    refine q_iload_n 42 dX6_lay_41 rfl rfl ?_
    refine q_callSt 45 dX6_lay_42 rfl (c6_isSlot _ _) cw_X6_330 rfl rfl ⟨by decide, by decide⟩ ⟨by decide, by decide⟩ (Nat.le_of_ble_eq_true rfl) ?_
    refine q_if_eq 53 48 dX6_lay_45 rfl rfl (fun h_45 => ?_) (fun h_45 => ?_)
    · skip
      simp only [bI_0, Classical.not_not] at h_45
      refine q_ldc 55 dX6_lay_53 rfl cs_X6_110 ?_
      refine q_iret dX6_lay_55 ?_
      have hC : ¬ cLay (M 31 0) l t k := by
        rintro ⟨q1, q2⟩
        first | exact h_45 q1 | (rcases q2 with q2 | q2 | q2 | q2; exact h_1 q2; exact h_6 q2; (first | exact h_11 q2.1 | exact h_19 q2.2); (first | exact h_24 q2.1 | exact h_31 q2.2))
      unfold aLay mLay
      rw [if_neg hC, if_neg (fun q => hC q.1)]
      exact ⟨rfl, rfl⟩
    · skip
      simp only [bI_0, Classical.not_not] at h_45
      obtain ⟨el, ll⟩ := rg_tn h_45 (n := 4) rfl
      refine q_iload 50 dX6_lay_48 rfl rfl ?_
      refine q_if_ne 56 53 dX6_lay_50 rfl rfl (fun _ => ?_) (fun h_50 => absurd h_50 (by decide))
      refine q_iload_n 57 dX6_lay_56 rfl rfl ?_
      refine q_iconst (v := 2) 58 dX6_lay_57 rfl rfl ?_
      refine q_icmp_ne 74 61 dX6_lay_58 rfl rfl (fun h_58 => ?_) (fun h_58 => ?_)
      · skip
        refine q_aload_n 75 dX6_lay_74 rfl rfl ?_
        refine q_getR 78 dX6_lay_75 rfl fl_X6_28 (by decide) rfl rfl ?_
        refine q_iload_n 79 dX6_lay_78 rfl rfl ?_
        refine q_iald 80 dX6_lay_79 rfl (by decide) (by decide) el (show tn l < 5 by omega) ?_
        refine q_istore 82 dX6_lay_80 rfl (by decide) rfl ?_
        refine q_aload_n 83 dX6_lay_82 rfl rfl ?_
        refine q_getR 86 dX6_lay_83 rfl fl_X6_28 (by decide) rfl rfl ?_
        refine q_iload_n 87 dX6_lay_86 rfl rfl ?_
        refine q_iload_n 88 dX6_lay_87 rfl rfl ?_
        refine q_iast 89 dX6_lay_88 rfl (by decide) (by decide) el (show tn l < 5 by omega) ?_
        refine q_aload_n 90 dX6_lay_89 rfl rfl ?_
        refine q_getR 93 dX6_lay_90 rfl fl_X6_31 (by decide) rfl rfl ?_
        refine q_iload_n 94 dX6_lay_93 rfl rfl ?_
        refine q_iload_n 95 dX6_lay_94 rfl rfl ?_
        refine q_iconst (v := 1) 96 dX6_lay_95 rfl rfl ?_
        refine q_icmp_ne 108 99 dX6_lay_96 rfl rfl (fun h_96 => ?_) (fun h_96 => ?_)
        · skip
          refine q_iload_n 109 dX6_lay_108 rfl rfl ?_
          refine q_iast 110 dX6_lay_109 rfl (by decide) (by decide) el (show tn l < 5 by omega) ?_
          refine q_aload_n 111 dX6_lay_110 rfl rfl ?_
          refine q_getR 114 dX6_lay_111 rfl fl_X6_34 (by decide) rfl rfl ?_
          refine q_iload_n 115 dX6_lay_114 rfl rfl ?_
          refine q_iload_n 116 dX6_lay_115 rfl rfl ?_
          refine q_iconst (v := 1) 117 dX6_lay_116 rfl rfl ?_
          refine q_icmp_ne 128 120 dX6_lay_117 rfl rfl (fun h_117 => ?_) (fun h_117 => ?_)
          · skip
            refine q_iconst (v := 0) 129 dX6_lay_128 rfl rfl ?_
            refine q_iast 130 dX6_lay_129 rfl (by decide) (by decide) el (show tn l < 5 by omega) ?_
            refine q_iload_n 131 dX6_lay_130 rfl rfl ?_
            refine q_iconst (v := 2) 132 dX6_lay_131 rfl rfl ?_
            refine q_icmp_ne 187 135 dX6_lay_132 rfl rfl (fun h_132 => ?_) (fun h_132 => ?_)
            · skip
              refine q_iload 189 dX6_lay_187 rfl rfl ?_
              refine q_iret dX6_lay_189 ?_
              have hC : cLay (M 31 0) l t k := ⟨h_45, by first | exact Or.inl h_1 | exact Or.inr (Or.inl h_6) | exact Or.inr (Or.inr (Or.inl ⟨h_11, h_19⟩)) | exact Or.inr (Or.inr (Or.inr ⟨h_24, h_31⟩))⟩
              first | exact absurd h_58 h_132 | exact absurd h_96 h_117 | exact absurd h_117 h_96 | (have d1 : ¬ (t = 2 ∧ M 34 0 (tn k) < 0) := (fun q => by first | exact h_58 q.1 | exact absurd h_67 (Int32.not_le.mpr q.2)); unfold aLay mLay; rw [if_pos hC, if_neg d1, if_pos ⟨hC, d1⟩, if_neg h_132]; unfold mLay0; first | (have hq := h_96; rw [if_pos hq, if_pos hq]; exact ⟨rfl, rfl⟩) | (have hq := h_96; rw [if_neg hq, if_neg hq]; exact ⟨rfl, rfl⟩))
            · skip
              have hK : isS k := by first | exact hK | exact absurd h_132 h_58
              obtain ⟨ek, lk⟩ := rg_tn hK (n := 3) rfl
              refine q_aload_n 136 dX6_lay_135 rfl rfl ?_
              refine q_getR 139 dX6_lay_136 rfl fl_X6_37 (by decide) rfl rfl ?_
              refine q_iload_n 140 dX6_lay_139 rfl rfl ?_
              refine q_aload_n 141 dX6_lay_140 rfl rfl ?_
              refine q_getR 144 dX6_lay_141 rfl fl_X6_22 (by decide) rfl rfl ?_
              refine q_iload_n 145 dX6_lay_144 rfl rfl ?_
              refine q_iald 146 dX6_lay_145 rfl (by decide) (by decide) ek (show tn k < 4 by omega) ?_
              refine q_iast 147 dX6_lay_146 rfl (by decide) (by decide) el (show tn l < 5 by omega) ?_
              refine q_iconst (v := 0) 148 dX6_lay_147 rfl rfl ?_
              refine q_istore 150 dX6_lay_148 rfl (by decide) rfl ?_
              have hC : cLay (M 31 0) l t k := ⟨h_45, by first | exact Or.inl h_1 | exact Or.inr (Or.inl h_6) | exact Or.inr (Or.inr (Or.inl ⟨h_11, h_19⟩)) | exact Or.inr (Or.inr (Or.inr ⟨h_24, h_31⟩))⟩
              first
              | exact absurd (h_132.symm.trans h_96) (by decide)
              | exact absurd h_132 h_58
              | exact absurd (h_132.symm.trans h_117) (by decide)
              | (have d1 : ¬ (t = 2 ∧ M 34 0 (tn k) < 0) := fun q => absurd h_67 (Int32.not_le.mpr q.2); have ea : aLay M l t k = M 37 0 (tn l) := (by unfold aLay; rw [if_pos hC, if_neg d1]); have em : mLay M l t k = putA (putA (mLay0 M l t k) 40 0 (upd (M 40 0) (tn l) (M 35 0 (tn k)))) 41 0 (va_cpy (M 36 0) (M 41 0) (24 * tn k) (24 * tn l) 24) := (by unfold mLay; rw [if_pos ⟨hC, d1⟩, if_pos h_132]); rw [ea, em]; unfold mLay0; rw [if_neg h_96, if_neg h_96]; refine q_eqM ?_ (TR_post (q_fg (l6_lay (putA (putA (putA (putA M 37 0 (upd (M 37 0) (tn l) t)) 38 0 (upd (M 38 0) (tn l) k)) 39 0 (upd (M 39 0) (tn l) 0)) 40 0 (upd (M 40 0) (tn l) (M 35 0 (tn k)))) l t k _ _ (tn l) (tn k) el ek (by omega) (by omega) 25 0 0 (by omega) (by omega) rfl) ⟨rfl, rfl, rfl, rfl, rfl, rfl, rfl, trivial⟩) (by rintro _ _ ⟨rfl, rfl⟩; exact ⟨rfl, rfl⟩)); rw [cpy_0]; exact (putA_id _ 41 0).symm)
          · skip
            have hM : isM (M 31 0) k := by first | exact hM | exact absurd h_117 h_96
            obtain ⟨em, lm⟩ := isM_nat hn hn10 hM
            refine q_aload_n 121 dX6_lay_120 rfl rfl ?_
            refine q_iload_n 122 dX6_lay_121 rfl rfl ?_
            refine q_callVt 125 dX6_lay_122 rfl (c6_worth _ _ (M 31 0) (by rfl) (tn k) em (by omega)) cw_X6_130 (by decide) rfl rfl ⟨by decide, by decide⟩ ⟨by decide, by decide⟩ (Nat.le_of_ble_eq_true rfl) ?_
            refine q_goto 129 dX6_lay_125 rfl ?_
            refine q_iast 130 dX6_lay_129 rfl (by decide) (by decide) el (show tn l < 5 by omega) ?_
            refine q_iload_n 131 dX6_lay_130 rfl rfl ?_
            refine q_iconst (v := 2) 132 dX6_lay_131 rfl rfl ?_
            refine q_icmp_ne 187 135 dX6_lay_132 rfl rfl (fun h_132 => ?_) (fun h_132 => ?_)
            · skip
              refine q_iload 189 dX6_lay_187 rfl rfl ?_
              refine q_iret dX6_lay_189 ?_
              have hC : cLay (M 31 0) l t k := ⟨h_45, by first | exact Or.inl h_1 | exact Or.inr (Or.inl h_6) | exact Or.inr (Or.inr (Or.inl ⟨h_11, h_19⟩)) | exact Or.inr (Or.inr (Or.inr ⟨h_24, h_31⟩))⟩
              first | exact absurd h_58 h_132 | exact absurd h_96 h_117 | exact absurd h_117 h_96 | (have d1 : ¬ (t = 2 ∧ M 34 0 (tn k) < 0) := (fun q => by first | exact h_58 q.1 | exact absurd h_67 (Int32.not_le.mpr q.2)); unfold aLay mLay; rw [if_pos hC, if_neg d1, if_pos ⟨hC, d1⟩, if_neg h_132]; unfold mLay0; first | (have hq := h_96; rw [if_pos hq, if_pos hq]; exact ⟨rfl, rfl⟩) | (have hq := h_96; rw [if_neg hq, if_neg hq]; exact ⟨rfl, rfl⟩))
            · skip
              have hK : isS k := by first | exact hK | exact absurd h_132 h_58
              obtain ⟨ek, lk⟩ := rg_tn hK (n := 3) rfl
              refine q_aload_n 136 dX6_lay_135 rfl rfl ?_
              refine q_getR 139 dX6_lay_136 rfl fl_X6_37 (by decide) rfl rfl ?_
              refine q_iload_n 140 dX6_lay_139 rfl rfl ?_
              refine q_aload_n 141 dX6_lay_140 rfl rfl ?_
              refine q_getR 144 dX6_lay_141 rfl fl_X6_22 (by decide) rfl rfl ?_
              refine q_iload_n 145 dX6_lay_144 rfl rfl ?_
              refine q_iald 146 dX6_lay_145 rfl (by decide) (by decide) ek (show tn k < 4 by omega) ?_
              refine q_iast 147 dX6_lay_146 rfl (by decide) (by decide) el (show tn l < 5 by omega) ?_
              refine q_iconst (v := 0) 148 dX6_lay_147 rfl rfl ?_
              refine q_istore 150 dX6_lay_148 rfl (by decide) rfl ?_
              have hC : cLay (M 31 0) l t k := ⟨h_45, by first | exact Or.inl h_1 | exact Or.inr (Or.inl h_6) | exact Or.inr (Or.inr (Or.inl ⟨h_11, h_19⟩)) | exact Or.inr (Or.inr (Or.inr ⟨h_24, h_31⟩))⟩
              first
              | exact absurd (h_132.symm.trans h_96) (by decide)
              | exact absurd h_132 h_58
              | exact absurd (h_132.symm.trans h_117) (by decide)
              | (have d1 : ¬ (t = 2 ∧ M 34 0 (tn k) < 0) := fun q => absurd h_67 (Int32.not_le.mpr q.2); have ea : aLay M l t k = M 37 0 (tn l) := (by unfold aLay; rw [if_pos hC, if_neg d1]); have em : mLay M l t k = putA (putA (mLay0 M l t k) 40 0 (upd (M 40 0) (tn l) (M 35 0 (tn k)))) 41 0 (va_cpy (M 36 0) (M 41 0) (24 * tn k) (24 * tn l) 24) := (by unfold mLay; rw [if_pos ⟨hC, d1⟩, if_pos h_132]); rw [ea, em]; unfold mLay0; rw [if_neg h_96, if_neg h_96]; refine q_eqM ?_ (TR_post (q_fg (l6_lay (putA (putA (putA (putA M 37 0 (upd (M 37 0) (tn l) t)) 38 0 (upd (M 38 0) (tn l) k)) 39 0 (upd (M 39 0) (tn l) 0)) 40 0 (upd (M 40 0) (tn l) (M 35 0 (tn k)))) l t k _ _ (tn l) (tn k) el ek (by omega) (by omega) 25 0 0 (by omega) (by omega) rfl) ⟨rfl, rfl, rfl, rfl, rfl, rfl, rfl, trivial⟩) (by rintro _ _ ⟨rfl, rfl⟩; exact ⟨rfl, rfl⟩)); rw [cpy_0]; exact (putA_id _ 41 0).symm)
        · skip
          have hM : isM (M 31 0) k := by first | exact h_19 | exact absurd (h_1.symm.trans h_96) (by decide) | exact absurd (h_6.symm.trans h_96) (by decide) | exact absurd (h_24.symm.trans h_96) (by decide)
          obtain ⟨em, lm⟩ := isM_nat hn hn10 hM
          refine q_aload_n 100 dX6_lay_99 rfl rfl ?_
          refine q_iload_n 101 dX6_lay_100 rfl rfl ?_
          refine q_iconst (v := 0) 102 dX6_lay_101 rfl rfl ?_
          refine q_callVt 105 dX6_lay_102 rfl (c6_of _ _ _ (tn k) 0 em rfl (by omega)) cw_X6_72 (by decide) rfl rfl ⟨by decide, by decide⟩ ⟨by decide, by decide⟩ (Nat.le_of_ble_eq_true rfl) ?_
          refine q_goto 109 dX6_lay_105 rfl ?_
          refine q_iast 110 dX6_lay_109 rfl (by decide) (by decide) el (show tn l < 5 by omega) ?_
          refine q_aload_n 111 dX6_lay_110 rfl rfl ?_
          refine q_getR 114 dX6_lay_111 rfl fl_X6_34 (by decide) rfl rfl ?_
          refine q_iload_n 115 dX6_lay_114 rfl rfl ?_
          refine q_iload_n 116 dX6_lay_115 rfl rfl ?_
          refine q_iconst (v := 1) 117 dX6_lay_116 rfl rfl ?_
          refine q_icmp_ne 128 120 dX6_lay_117 rfl rfl (fun h_117 => ?_) (fun h_117 => ?_)
          · skip
            refine q_iconst (v := 0) 129 dX6_lay_128 rfl rfl ?_
            refine q_iast 130 dX6_lay_129 rfl (by decide) (by decide) el (show tn l < 5 by omega) ?_
            refine q_iload_n 131 dX6_lay_130 rfl rfl ?_
            refine q_iconst (v := 2) 132 dX6_lay_131 rfl rfl ?_
            refine q_icmp_ne 187 135 dX6_lay_132 rfl rfl (fun h_132 => ?_) (fun h_132 => ?_)
            · skip
              refine q_iload 189 dX6_lay_187 rfl rfl ?_
              refine q_iret dX6_lay_189 ?_
              have hC : cLay (M 31 0) l t k := ⟨h_45, by first | exact Or.inl h_1 | exact Or.inr (Or.inl h_6) | exact Or.inr (Or.inr (Or.inl ⟨h_11, h_19⟩)) | exact Or.inr (Or.inr (Or.inr ⟨h_24, h_31⟩))⟩
              first | exact absurd h_58 h_132 | exact absurd h_96 h_117 | exact absurd h_117 h_96 | (have d1 : ¬ (t = 2 ∧ M 34 0 (tn k) < 0) := (fun q => by first | exact h_58 q.1 | exact absurd h_67 (Int32.not_le.mpr q.2)); unfold aLay mLay; rw [if_pos hC, if_neg d1, if_pos ⟨hC, d1⟩, if_neg h_132]; unfold mLay0; first | (have hq := h_96; rw [if_pos hq, if_pos hq]; exact ⟨rfl, rfl⟩) | (have hq := h_96; rw [if_neg hq, if_neg hq]; exact ⟨rfl, rfl⟩))
            · skip
              have hK : isS k := by first | exact hK | exact absurd h_132 h_58
              obtain ⟨ek, lk⟩ := rg_tn hK (n := 3) rfl
              refine q_aload_n 136 dX6_lay_135 rfl rfl ?_
              refine q_getR 139 dX6_lay_136 rfl fl_X6_37 (by decide) rfl rfl ?_
              refine q_iload_n 140 dX6_lay_139 rfl rfl ?_
              refine q_aload_n 141 dX6_lay_140 rfl rfl ?_
              refine q_getR 144 dX6_lay_141 rfl fl_X6_22 (by decide) rfl rfl ?_
              refine q_iload_n 145 dX6_lay_144 rfl rfl ?_
              refine q_iald 146 dX6_lay_145 rfl (by decide) (by decide) ek (show tn k < 4 by omega) ?_
              refine q_iast 147 dX6_lay_146 rfl (by decide) (by decide) el (show tn l < 5 by omega) ?_
              refine q_iconst (v := 0) 148 dX6_lay_147 rfl rfl ?_
              refine q_istore 150 dX6_lay_148 rfl (by decide) rfl ?_
              have hC : cLay (M 31 0) l t k := ⟨h_45, by first | exact Or.inl h_1 | exact Or.inr (Or.inl h_6) | exact Or.inr (Or.inr (Or.inl ⟨h_11, h_19⟩)) | exact Or.inr (Or.inr (Or.inr ⟨h_24, h_31⟩))⟩
              first
              | exact absurd (h_132.symm.trans h_96) (by decide)
              | exact absurd h_132 h_58
              | exact absurd (h_132.symm.trans h_117) (by decide)
              | (have d1 : ¬ (t = 2 ∧ M 34 0 (tn k) < 0) := fun q => absurd h_67 (Int32.not_le.mpr q.2); have ea : aLay M l t k = M 37 0 (tn l) := (by unfold aLay; rw [if_pos hC, if_neg d1]); have em : mLay M l t k = putA (putA (mLay0 M l t k) 40 0 (upd (M 40 0) (tn l) (M 35 0 (tn k)))) 41 0 (va_cpy (M 36 0) (M 41 0) (24 * tn k) (24 * tn l) 24) := (by unfold mLay; rw [if_pos ⟨hC, d1⟩, if_pos h_132]); rw [ea, em]; unfold mLay0; rw [if_neg h_96, if_neg h_96]; refine q_eqM ?_ (TR_post (q_fg (l6_lay (putA (putA (putA (putA M 37 0 (upd (M 37 0) (tn l) t)) 38 0 (upd (M 38 0) (tn l) k)) 39 0 (upd (M 39 0) (tn l) 0)) 40 0 (upd (M 40 0) (tn l) (M 35 0 (tn k)))) l t k _ _ (tn l) (tn k) el ek (by omega) (by omega) 25 0 0 (by omega) (by omega) rfl) ⟨rfl, rfl, rfl, rfl, rfl, rfl, rfl, trivial⟩) (by rintro _ _ ⟨rfl, rfl⟩; exact ⟨rfl, rfl⟩)); rw [cpy_0]; exact (putA_id _ 41 0).symm)
          · skip
            have hM : isM (M 31 0) k := by first | exact hM | exact absurd h_117 h_96
            obtain ⟨em, lm⟩ := isM_nat hn hn10 hM
            refine q_aload_n 121 dX6_lay_120 rfl rfl ?_
            refine q_iload_n 122 dX6_lay_121 rfl rfl ?_
            refine q_callVt 125 dX6_lay_122 rfl (c6_worth _ _ (M 31 0) (by rfl) (tn k) em (by omega)) cw_X6_130 (by decide) rfl rfl ⟨by decide, by decide⟩ ⟨by decide, by decide⟩ (Nat.le_of_ble_eq_true rfl) ?_
            refine q_goto 129 dX6_lay_125 rfl ?_
            refine q_iast 130 dX6_lay_129 rfl (by decide) (by decide) el (show tn l < 5 by omega) ?_
            refine q_iload_n 131 dX6_lay_130 rfl rfl ?_
            refine q_iconst (v := 2) 132 dX6_lay_131 rfl rfl ?_
            refine q_icmp_ne 187 135 dX6_lay_132 rfl rfl (fun h_132 => ?_) (fun h_132 => ?_)
            · skip
              refine q_iload 189 dX6_lay_187 rfl rfl ?_
              refine q_iret dX6_lay_189 ?_
              have hC : cLay (M 31 0) l t k := ⟨h_45, by first | exact Or.inl h_1 | exact Or.inr (Or.inl h_6) | exact Or.inr (Or.inr (Or.inl ⟨h_11, h_19⟩)) | exact Or.inr (Or.inr (Or.inr ⟨h_24, h_31⟩))⟩
              first | exact absurd h_58 h_132 | exact absurd h_96 h_117 | exact absurd h_117 h_96 | (have d1 : ¬ (t = 2 ∧ M 34 0 (tn k) < 0) := (fun q => by first | exact h_58 q.1 | exact absurd h_67 (Int32.not_le.mpr q.2)); unfold aLay mLay; rw [if_pos hC, if_neg d1, if_pos ⟨hC, d1⟩, if_neg h_132]; unfold mLay0; first | (have hq := h_96; rw [if_pos hq, if_pos hq]; exact ⟨rfl, rfl⟩) | (have hq := h_96; rw [if_neg hq, if_neg hq]; exact ⟨rfl, rfl⟩))
            · skip
              have hK : isS k := by first | exact hK | exact absurd h_132 h_58
              obtain ⟨ek, lk⟩ := rg_tn hK (n := 3) rfl
              refine q_aload_n 136 dX6_lay_135 rfl rfl ?_
              refine q_getR 139 dX6_lay_136 rfl fl_X6_37 (by decide) rfl rfl ?_
              refine q_iload_n 140 dX6_lay_139 rfl rfl ?_
              refine q_aload_n 141 dX6_lay_140 rfl rfl ?_
              refine q_getR 144 dX6_lay_141 rfl fl_X6_22 (by decide) rfl rfl ?_
              refine q_iload_n 145 dX6_lay_144 rfl rfl ?_
              refine q_iald 146 dX6_lay_145 rfl (by decide) (by decide) ek (show tn k < 4 by omega) ?_
              refine q_iast 147 dX6_lay_146 rfl (by decide) (by decide) el (show tn l < 5 by omega) ?_
              refine q_iconst (v := 0) 148 dX6_lay_147 rfl rfl ?_
              refine q_istore 150 dX6_lay_148 rfl (by decide) rfl ?_
              have hC : cLay (M 31 0) l t k := ⟨h_45, by first | exact Or.inl h_1 | exact Or.inr (Or.inl h_6) | exact Or.inr (Or.inr (Or.inl ⟨h_11, h_19⟩)) | exact Or.inr (Or.inr (Or.inr ⟨h_24, h_31⟩))⟩
              first
              | exact absurd (h_132.symm.trans h_96) (by decide)
              | exact absurd h_132 h_58
              | exact absurd (h_132.symm.trans h_117) (by decide)
              | (have d1 : ¬ (t = 2 ∧ M 34 0 (tn k) < 0) := fun q => absurd h_67 (Int32.not_le.mpr q.2); have ea : aLay M l t k = M 37 0 (tn l) := (by unfold aLay; rw [if_pos hC, if_neg d1]); have em : mLay M l t k = putA (putA (mLay0 M l t k) 40 0 (upd (M 40 0) (tn l) (M 35 0 (tn k)))) 41 0 (va_cpy (M 36 0) (M 41 0) (24 * tn k) (24 * tn l) 24) := (by unfold mLay; rw [if_pos ⟨hC, d1⟩, if_pos h_132]); rw [ea, em]; unfold mLay0; rw [if_neg h_96, if_neg h_96]; refine q_eqM ?_ (TR_post (q_fg (l6_lay (putA (putA (putA (putA M 37 0 (upd (M 37 0) (tn l) t)) 38 0 (upd (M 38 0) (tn l) k)) 39 0 (upd (M 39 0) (tn l) 0)) 40 0 (upd (M 40 0) (tn l) (M 35 0 (tn k)))) l t k _ _ (tn l) (tn k) el ek (by omega) (by omega) 25 0 0 (by omega) (by omega) rfl) ⟨rfl, rfl, rfl, rfl, rfl, rfl, rfl, trivial⟩) (by rintro _ _ ⟨rfl, rfl⟩; exact ⟨rfl, rfl⟩)); rw [cpy_0]; exact (putA_id _ 41 0).symm)
      · skip
        have hK : isS k := by first | exact h_31 | exact absurd (h_1.symm.trans h_58) (by decide) | exact absurd (h_6.symm.trans h_58) (by decide) | exact absurd (h_11.symm.trans h_58) (by decide)
        obtain ⟨ek, lk⟩ := rg_tn hK (n := 3) rfl
        refine q_aload_n 62 dX6_lay_61 rfl rfl ?_
        refine q_getR 65 dX6_lay_62 rfl fl_X6_19 (by decide) rfl rfl ?_
        refine q_iload_n 66 dX6_lay_65 rfl rfl ?_
        refine q_iald 67 dX6_lay_66 rfl (by decide) (by decide) ek (show tn k < 4 by omega) ?_
        refine q_if_ge 74 70 dX6_lay_67 rfl rfl (fun h_67 => ?_) (fun h_67 => ?_)
        · skip
          refine q_aload_n 75 dX6_lay_74 rfl rfl ?_
          refine q_getR 78 dX6_lay_75 rfl fl_X6_28 (by decide) rfl rfl ?_
          refine q_iload_n 79 dX6_lay_78 rfl rfl ?_
          refine q_iald 80 dX6_lay_79 rfl (by decide) (by decide) el (show tn l < 5 by omega) ?_
          refine q_istore 82 dX6_lay_80 rfl (by decide) rfl ?_
          refine q_aload_n 83 dX6_lay_82 rfl rfl ?_
          refine q_getR 86 dX6_lay_83 rfl fl_X6_28 (by decide) rfl rfl ?_
          refine q_iload_n 87 dX6_lay_86 rfl rfl ?_
          refine q_iload_n 88 dX6_lay_87 rfl rfl ?_
          refine q_iast 89 dX6_lay_88 rfl (by decide) (by decide) el (show tn l < 5 by omega) ?_
          refine q_aload_n 90 dX6_lay_89 rfl rfl ?_
          refine q_getR 93 dX6_lay_90 rfl fl_X6_31 (by decide) rfl rfl ?_
          refine q_iload_n 94 dX6_lay_93 rfl rfl ?_
          refine q_iload_n 95 dX6_lay_94 rfl rfl ?_
          refine q_iconst (v := 1) 96 dX6_lay_95 rfl rfl ?_
          refine q_icmp_ne 108 99 dX6_lay_96 rfl rfl (fun h_96 => ?_) (fun h_96 => ?_)
          · skip
            refine q_iload_n 109 dX6_lay_108 rfl rfl ?_
            refine q_iast 110 dX6_lay_109 rfl (by decide) (by decide) el (show tn l < 5 by omega) ?_
            refine q_aload_n 111 dX6_lay_110 rfl rfl ?_
            refine q_getR 114 dX6_lay_111 rfl fl_X6_34 (by decide) rfl rfl ?_
            refine q_iload_n 115 dX6_lay_114 rfl rfl ?_
            refine q_iload_n 116 dX6_lay_115 rfl rfl ?_
            refine q_iconst (v := 1) 117 dX6_lay_116 rfl rfl ?_
            refine q_icmp_ne 128 120 dX6_lay_117 rfl rfl (fun h_117 => ?_) (fun h_117 => ?_)
            · skip
              refine q_iconst (v := 0) 129 dX6_lay_128 rfl rfl ?_
              refine q_iast 130 dX6_lay_129 rfl (by decide) (by decide) el (show tn l < 5 by omega) ?_
              refine q_iload_n 131 dX6_lay_130 rfl rfl ?_
              refine q_iconst (v := 2) 132 dX6_lay_131 rfl rfl ?_
              refine q_icmp_ne 187 135 dX6_lay_132 rfl rfl (fun h_132 => ?_) (fun h_132 => ?_)
              · skip
                refine q_iload 189 dX6_lay_187 rfl rfl ?_
                refine q_iret dX6_lay_189 ?_
                have hC : cLay (M 31 0) l t k := ⟨h_45, by first | exact Or.inl h_1 | exact Or.inr (Or.inl h_6) | exact Or.inr (Or.inr (Or.inl ⟨h_11, h_19⟩)) | exact Or.inr (Or.inr (Or.inr ⟨h_24, h_31⟩))⟩
                first | exact absurd h_58 h_132 | exact absurd h_96 h_117 | exact absurd h_117 h_96 | (have d1 : ¬ (t = 2 ∧ M 34 0 (tn k) < 0) := (fun q => by first | exact h_58 q.1 | exact absurd h_67 (Int32.not_le.mpr q.2)); unfold aLay mLay; rw [if_pos hC, if_neg d1, if_pos ⟨hC, d1⟩, if_neg h_132]; unfold mLay0; first | (have hq := h_96; rw [if_pos hq, if_pos hq]; exact ⟨rfl, rfl⟩) | (have hq := h_96; rw [if_neg hq, if_neg hq]; exact ⟨rfl, rfl⟩))
              · skip
                have hK : isS k := by first | exact hK | exact absurd h_132 h_58
                obtain ⟨ek, lk⟩ := rg_tn hK (n := 3) rfl
                refine q_aload_n 136 dX6_lay_135 rfl rfl ?_
                refine q_getR 139 dX6_lay_136 rfl fl_X6_37 (by decide) rfl rfl ?_
                refine q_iload_n 140 dX6_lay_139 rfl rfl ?_
                refine q_aload_n 141 dX6_lay_140 rfl rfl ?_
                refine q_getR 144 dX6_lay_141 rfl fl_X6_22 (by decide) rfl rfl ?_
                refine q_iload_n 145 dX6_lay_144 rfl rfl ?_
                refine q_iald 146 dX6_lay_145 rfl (by decide) (by decide) ek (show tn k < 4 by omega) ?_
                refine q_iast 147 dX6_lay_146 rfl (by decide) (by decide) el (show tn l < 5 by omega) ?_
                refine q_iconst (v := 0) 148 dX6_lay_147 rfl rfl ?_
                refine q_istore 150 dX6_lay_148 rfl (by decide) rfl ?_
                have hC : cLay (M 31 0) l t k := ⟨h_45, by first | exact Or.inl h_1 | exact Or.inr (Or.inl h_6) | exact Or.inr (Or.inr (Or.inl ⟨h_11, h_19⟩)) | exact Or.inr (Or.inr (Or.inr ⟨h_24, h_31⟩))⟩
                first
                | exact absurd (h_132.symm.trans h_96) (by decide)
                | exact absurd h_132 h_58
                | exact absurd (h_132.symm.trans h_117) (by decide)
                | (have d1 : ¬ (t = 2 ∧ M 34 0 (tn k) < 0) := fun q => absurd h_67 (Int32.not_le.mpr q.2); have ea : aLay M l t k = M 37 0 (tn l) := (by unfold aLay; rw [if_pos hC, if_neg d1]); have em : mLay M l t k = putA (putA (mLay0 M l t k) 40 0 (upd (M 40 0) (tn l) (M 35 0 (tn k)))) 41 0 (va_cpy (M 36 0) (M 41 0) (24 * tn k) (24 * tn l) 24) := (by unfold mLay; rw [if_pos ⟨hC, d1⟩, if_pos h_132]); rw [ea, em]; unfold mLay0; rw [if_neg h_96, if_neg h_96]; refine q_eqM ?_ (TR_post (q_fg (l6_lay (putA (putA (putA (putA M 37 0 (upd (M 37 0) (tn l) t)) 38 0 (upd (M 38 0) (tn l) k)) 39 0 (upd (M 39 0) (tn l) 0)) 40 0 (upd (M 40 0) (tn l) (M 35 0 (tn k)))) l t k _ _ (tn l) (tn k) el ek (by omega) (by omega) 25 0 0 (by omega) (by omega) rfl) ⟨rfl, rfl, rfl, rfl, rfl, rfl, rfl, trivial⟩) (by rintro _ _ ⟨rfl, rfl⟩; exact ⟨rfl, rfl⟩)); rw [cpy_0]; exact (putA_id _ 41 0).symm)
            · skip
              have hM : isM (M 31 0) k := by first | exact hM | exact absurd h_117 h_96
              obtain ⟨em, lm⟩ := isM_nat hn hn10 hM
              refine q_aload_n 121 dX6_lay_120 rfl rfl ?_
              refine q_iload_n 122 dX6_lay_121 rfl rfl ?_
              refine q_callVt 125 dX6_lay_122 rfl (c6_worth _ _ (M 31 0) (by rfl) (tn k) em (by omega)) cw_X6_130 (by decide) rfl rfl ⟨by decide, by decide⟩ ⟨by decide, by decide⟩ (Nat.le_of_ble_eq_true rfl) ?_
              refine q_goto 129 dX6_lay_125 rfl ?_
              refine q_iast 130 dX6_lay_129 rfl (by decide) (by decide) el (show tn l < 5 by omega) ?_
              refine q_iload_n 131 dX6_lay_130 rfl rfl ?_
              refine q_iconst (v := 2) 132 dX6_lay_131 rfl rfl ?_
              refine q_icmp_ne 187 135 dX6_lay_132 rfl rfl (fun h_132 => ?_) (fun h_132 => ?_)
              · skip
                refine q_iload 189 dX6_lay_187 rfl rfl ?_
                refine q_iret dX6_lay_189 ?_
                have hC : cLay (M 31 0) l t k := ⟨h_45, by first | exact Or.inl h_1 | exact Or.inr (Or.inl h_6) | exact Or.inr (Or.inr (Or.inl ⟨h_11, h_19⟩)) | exact Or.inr (Or.inr (Or.inr ⟨h_24, h_31⟩))⟩
                first | exact absurd h_58 h_132 | exact absurd h_96 h_117 | exact absurd h_117 h_96 | (have d1 : ¬ (t = 2 ∧ M 34 0 (tn k) < 0) := (fun q => by first | exact h_58 q.1 | exact absurd h_67 (Int32.not_le.mpr q.2)); unfold aLay mLay; rw [if_pos hC, if_neg d1, if_pos ⟨hC, d1⟩, if_neg h_132]; unfold mLay0; first | (have hq := h_96; rw [if_pos hq, if_pos hq]; exact ⟨rfl, rfl⟩) | (have hq := h_96; rw [if_neg hq, if_neg hq]; exact ⟨rfl, rfl⟩))
              · skip
                have hK : isS k := by first | exact hK | exact absurd h_132 h_58
                obtain ⟨ek, lk⟩ := rg_tn hK (n := 3) rfl
                refine q_aload_n 136 dX6_lay_135 rfl rfl ?_
                refine q_getR 139 dX6_lay_136 rfl fl_X6_37 (by decide) rfl rfl ?_
                refine q_iload_n 140 dX6_lay_139 rfl rfl ?_
                refine q_aload_n 141 dX6_lay_140 rfl rfl ?_
                refine q_getR 144 dX6_lay_141 rfl fl_X6_22 (by decide) rfl rfl ?_
                refine q_iload_n 145 dX6_lay_144 rfl rfl ?_
                refine q_iald 146 dX6_lay_145 rfl (by decide) (by decide) ek (show tn k < 4 by omega) ?_
                refine q_iast 147 dX6_lay_146 rfl (by decide) (by decide) el (show tn l < 5 by omega) ?_
                refine q_iconst (v := 0) 148 dX6_lay_147 rfl rfl ?_
                refine q_istore 150 dX6_lay_148 rfl (by decide) rfl ?_
                have hC : cLay (M 31 0) l t k := ⟨h_45, by first | exact Or.inl h_1 | exact Or.inr (Or.inl h_6) | exact Or.inr (Or.inr (Or.inl ⟨h_11, h_19⟩)) | exact Or.inr (Or.inr (Or.inr ⟨h_24, h_31⟩))⟩
                first
                | exact absurd (h_132.symm.trans h_96) (by decide)
                | exact absurd h_132 h_58
                | exact absurd (h_132.symm.trans h_117) (by decide)
                | (have d1 : ¬ (t = 2 ∧ M 34 0 (tn k) < 0) := fun q => absurd h_67 (Int32.not_le.mpr q.2); have ea : aLay M l t k = M 37 0 (tn l) := (by unfold aLay; rw [if_pos hC, if_neg d1]); have em : mLay M l t k = putA (putA (mLay0 M l t k) 40 0 (upd (M 40 0) (tn l) (M 35 0 (tn k)))) 41 0 (va_cpy (M 36 0) (M 41 0) (24 * tn k) (24 * tn l) 24) := (by unfold mLay; rw [if_pos ⟨hC, d1⟩, if_pos h_132]); rw [ea, em]; unfold mLay0; rw [if_neg h_96, if_neg h_96]; refine q_eqM ?_ (TR_post (q_fg (l6_lay (putA (putA (putA (putA M 37 0 (upd (M 37 0) (tn l) t)) 38 0 (upd (M 38 0) (tn l) k)) 39 0 (upd (M 39 0) (tn l) 0)) 40 0 (upd (M 40 0) (tn l) (M 35 0 (tn k)))) l t k _ _ (tn l) (tn k) el ek (by omega) (by omega) 25 0 0 (by omega) (by omega) rfl) ⟨rfl, rfl, rfl, rfl, rfl, rfl, rfl, trivial⟩) (by rintro _ _ ⟨rfl, rfl⟩; exact ⟨rfl, rfl⟩)); rw [cpy_0]; exact (putA_id _ 41 0).symm)
          · skip
            have hM : isM (M 31 0) k := by first | exact h_19 | exact absurd (h_1.symm.trans h_96) (by decide) | exact absurd (h_6.symm.trans h_96) (by decide) | exact absurd (h_24.symm.trans h_96) (by decide)
            obtain ⟨em, lm⟩ := isM_nat hn hn10 hM
            refine q_aload_n 100 dX6_lay_99 rfl rfl ?_
            refine q_iload_n 101 dX6_lay_100 rfl rfl ?_
            refine q_iconst (v := 0) 102 dX6_lay_101 rfl rfl ?_
            refine q_callVt 105 dX6_lay_102 rfl (c6_of _ _ _ (tn k) 0 em rfl (by omega)) cw_X6_72 (by decide) rfl rfl ⟨by decide, by decide⟩ ⟨by decide, by decide⟩ (Nat.le_of_ble_eq_true rfl) ?_
            refine q_goto 109 dX6_lay_105 rfl ?_
            refine q_iast 110 dX6_lay_109 rfl (by decide) (by decide) el (show tn l < 5 by omega) ?_
            refine q_aload_n 111 dX6_lay_110 rfl rfl ?_
            refine q_getR 114 dX6_lay_111 rfl fl_X6_34 (by decide) rfl rfl ?_
            refine q_iload_n 115 dX6_lay_114 rfl rfl ?_
            refine q_iload_n 116 dX6_lay_115 rfl rfl ?_
            refine q_iconst (v := 1) 117 dX6_lay_116 rfl rfl ?_
            refine q_icmp_ne 128 120 dX6_lay_117 rfl rfl (fun h_117 => ?_) (fun h_117 => ?_)
            · skip
              refine q_iconst (v := 0) 129 dX6_lay_128 rfl rfl ?_
              refine q_iast 130 dX6_lay_129 rfl (by decide) (by decide) el (show tn l < 5 by omega) ?_
              refine q_iload_n 131 dX6_lay_130 rfl rfl ?_
              refine q_iconst (v := 2) 132 dX6_lay_131 rfl rfl ?_
              refine q_icmp_ne 187 135 dX6_lay_132 rfl rfl (fun h_132 => ?_) (fun h_132 => ?_)
              · skip
                refine q_iload 189 dX6_lay_187 rfl rfl ?_
                refine q_iret dX6_lay_189 ?_
                have hC : cLay (M 31 0) l t k := ⟨h_45, by first | exact Or.inl h_1 | exact Or.inr (Or.inl h_6) | exact Or.inr (Or.inr (Or.inl ⟨h_11, h_19⟩)) | exact Or.inr (Or.inr (Or.inr ⟨h_24, h_31⟩))⟩
                first | exact absurd h_58 h_132 | exact absurd h_96 h_117 | exact absurd h_117 h_96 | (have d1 : ¬ (t = 2 ∧ M 34 0 (tn k) < 0) := (fun q => by first | exact h_58 q.1 | exact absurd h_67 (Int32.not_le.mpr q.2)); unfold aLay mLay; rw [if_pos hC, if_neg d1, if_pos ⟨hC, d1⟩, if_neg h_132]; unfold mLay0; first | (have hq := h_96; rw [if_pos hq, if_pos hq]; exact ⟨rfl, rfl⟩) | (have hq := h_96; rw [if_neg hq, if_neg hq]; exact ⟨rfl, rfl⟩))
              · skip
                have hK : isS k := by first | exact hK | exact absurd h_132 h_58
                obtain ⟨ek, lk⟩ := rg_tn hK (n := 3) rfl
                refine q_aload_n 136 dX6_lay_135 rfl rfl ?_
                refine q_getR 139 dX6_lay_136 rfl fl_X6_37 (by decide) rfl rfl ?_
                refine q_iload_n 140 dX6_lay_139 rfl rfl ?_
                refine q_aload_n 141 dX6_lay_140 rfl rfl ?_
                refine q_getR 144 dX6_lay_141 rfl fl_X6_22 (by decide) rfl rfl ?_
                refine q_iload_n 145 dX6_lay_144 rfl rfl ?_
                refine q_iald 146 dX6_lay_145 rfl (by decide) (by decide) ek (show tn k < 4 by omega) ?_
                refine q_iast 147 dX6_lay_146 rfl (by decide) (by decide) el (show tn l < 5 by omega) ?_
                refine q_iconst (v := 0) 148 dX6_lay_147 rfl rfl ?_
                refine q_istore 150 dX6_lay_148 rfl (by decide) rfl ?_
                have hC : cLay (M 31 0) l t k := ⟨h_45, by first | exact Or.inl h_1 | exact Or.inr (Or.inl h_6) | exact Or.inr (Or.inr (Or.inl ⟨h_11, h_19⟩)) | exact Or.inr (Or.inr (Or.inr ⟨h_24, h_31⟩))⟩
                first
                | exact absurd (h_132.symm.trans h_96) (by decide)
                | exact absurd h_132 h_58
                | exact absurd (h_132.symm.trans h_117) (by decide)
                | (have d1 : ¬ (t = 2 ∧ M 34 0 (tn k) < 0) := fun q => absurd h_67 (Int32.not_le.mpr q.2); have ea : aLay M l t k = M 37 0 (tn l) := (by unfold aLay; rw [if_pos hC, if_neg d1]); have em : mLay M l t k = putA (putA (mLay0 M l t k) 40 0 (upd (M 40 0) (tn l) (M 35 0 (tn k)))) 41 0 (va_cpy (M 36 0) (M 41 0) (24 * tn k) (24 * tn l) 24) := (by unfold mLay; rw [if_pos ⟨hC, d1⟩, if_pos h_132]); rw [ea, em]; unfold mLay0; rw [if_neg h_96, if_neg h_96]; refine q_eqM ?_ (TR_post (q_fg (l6_lay (putA (putA (putA (putA M 37 0 (upd (M 37 0) (tn l) t)) 38 0 (upd (M 38 0) (tn l) k)) 39 0 (upd (M 39 0) (tn l) 0)) 40 0 (upd (M 40 0) (tn l) (M 35 0 (tn k)))) l t k _ _ (tn l) (tn k) el ek (by omega) (by omega) 25 0 0 (by omega) (by omega) rfl) ⟨rfl, rfl, rfl, rfl, rfl, rfl, rfl, trivial⟩) (by rintro _ _ ⟨rfl, rfl⟩; exact ⟨rfl, rfl⟩)); rw [cpy_0]; exact (putA_id _ 41 0).symm)
            · skip
              have hM : isM (M 31 0) k := by first | exact hM | exact absurd h_117 h_96
              obtain ⟨em, lm⟩ := isM_nat hn hn10 hM
              refine q_aload_n 121 dX6_lay_120 rfl rfl ?_
              refine q_iload_n 122 dX6_lay_121 rfl rfl ?_
              refine q_callVt 125 dX6_lay_122 rfl (c6_worth _ _ (M 31 0) (by rfl) (tn k) em (by omega)) cw_X6_130 (by decide) rfl rfl ⟨by decide, by decide⟩ ⟨by decide, by decide⟩ (Nat.le_of_ble_eq_true rfl) ?_
              refine q_goto 129 dX6_lay_125 rfl ?_
              refine q_iast 130 dX6_lay_129 rfl (by decide) (by decide) el (show tn l < 5 by omega) ?_
              refine q_iload_n 131 dX6_lay_130 rfl rfl ?_
              refine q_iconst (v := 2) 132 dX6_lay_131 rfl rfl ?_
              refine q_icmp_ne 187 135 dX6_lay_132 rfl rfl (fun h_132 => ?_) (fun h_132 => ?_)
              · skip
                refine q_iload 189 dX6_lay_187 rfl rfl ?_
                refine q_iret dX6_lay_189 ?_
                have hC : cLay (M 31 0) l t k := ⟨h_45, by first | exact Or.inl h_1 | exact Or.inr (Or.inl h_6) | exact Or.inr (Or.inr (Or.inl ⟨h_11, h_19⟩)) | exact Or.inr (Or.inr (Or.inr ⟨h_24, h_31⟩))⟩
                first | exact absurd h_58 h_132 | exact absurd h_96 h_117 | exact absurd h_117 h_96 | (have d1 : ¬ (t = 2 ∧ M 34 0 (tn k) < 0) := (fun q => by first | exact h_58 q.1 | exact absurd h_67 (Int32.not_le.mpr q.2)); unfold aLay mLay; rw [if_pos hC, if_neg d1, if_pos ⟨hC, d1⟩, if_neg h_132]; unfold mLay0; first | (have hq := h_96; rw [if_pos hq, if_pos hq]; exact ⟨rfl, rfl⟩) | (have hq := h_96; rw [if_neg hq, if_neg hq]; exact ⟨rfl, rfl⟩))
              · skip
                have hK : isS k := by first | exact hK | exact absurd h_132 h_58
                obtain ⟨ek, lk⟩ := rg_tn hK (n := 3) rfl
                refine q_aload_n 136 dX6_lay_135 rfl rfl ?_
                refine q_getR 139 dX6_lay_136 rfl fl_X6_37 (by decide) rfl rfl ?_
                refine q_iload_n 140 dX6_lay_139 rfl rfl ?_
                refine q_aload_n 141 dX6_lay_140 rfl rfl ?_
                refine q_getR 144 dX6_lay_141 rfl fl_X6_22 (by decide) rfl rfl ?_
                refine q_iload_n 145 dX6_lay_144 rfl rfl ?_
                refine q_iald 146 dX6_lay_145 rfl (by decide) (by decide) ek (show tn k < 4 by omega) ?_
                refine q_iast 147 dX6_lay_146 rfl (by decide) (by decide) el (show tn l < 5 by omega) ?_
                refine q_iconst (v := 0) 148 dX6_lay_147 rfl rfl ?_
                refine q_istore 150 dX6_lay_148 rfl (by decide) rfl ?_
                have hC : cLay (M 31 0) l t k := ⟨h_45, by first | exact Or.inl h_1 | exact Or.inr (Or.inl h_6) | exact Or.inr (Or.inr (Or.inl ⟨h_11, h_19⟩)) | exact Or.inr (Or.inr (Or.inr ⟨h_24, h_31⟩))⟩
                first
                | exact absurd (h_132.symm.trans h_96) (by decide)
                | exact absurd h_132 h_58
                | exact absurd (h_132.symm.trans h_117) (by decide)
                | (have d1 : ¬ (t = 2 ∧ M 34 0 (tn k) < 0) := fun q => absurd h_67 (Int32.not_le.mpr q.2); have ea : aLay M l t k = M 37 0 (tn l) := (by unfold aLay; rw [if_pos hC, if_neg d1]); have em : mLay M l t k = putA (putA (mLay0 M l t k) 40 0 (upd (M 40 0) (tn l) (M 35 0 (tn k)))) 41 0 (va_cpy (M 36 0) (M 41 0) (24 * tn k) (24 * tn l) 24) := (by unfold mLay; rw [if_pos ⟨hC, d1⟩, if_pos h_132]); rw [ea, em]; unfold mLay0; rw [if_neg h_96, if_neg h_96]; refine q_eqM ?_ (TR_post (q_fg (l6_lay (putA (putA (putA (putA M 37 0 (upd (M 37 0) (tn l) t)) 38 0 (upd (M 38 0) (tn l) k)) 39 0 (upd (M 39 0) (tn l) 0)) 40 0 (upd (M 40 0) (tn l) (M 35 0 (tn k)))) l t k _ _ (tn l) (tn k) el ek (by omega) (by omega) 25 0 0 (by omega) (by omega) rfl) ⟨rfl, rfl, rfl, rfl, rfl, rfl, rfl, trivial⟩) (by rintro _ _ ⟨rfl, rfl⟩; exact ⟨rfl, rfl⟩)); rw [cpy_0]; exact (putA_id _ 41 0).symm)
        · skip
          refine q_ldc_w 73 dX6_lay_70 rfl cs_X6_319 ?_
          refine q_iret dX6_lay_73 ?_
          have hC : cLay (M 31 0) l t k := ⟨h_45, by first | exact Or.inl h_1 | exact Or.inr (Or.inl h_6) | exact Or.inr (Or.inr (Or.inl ⟨h_11, h_19⟩)) | exact Or.inr (Or.inr (Or.inr ⟨h_24, h_31⟩))⟩
          have d2 : t = 2 ∧ M 34 0 (tn k) < 0 := ⟨h_58, Int32.not_le.mp h_67⟩
          unfold aLay mLay
          rw [if_pos hC, if_pos d2, if_neg (fun q => q.2 d2)]
          exact ⟨rfl, rfl⟩
  · skip
    refine q_iload_n 5 dX6_lay_4 rfl rfl ?_
    refine q_iconst (v := 3) 6 dX6_lay_5 rfl rfl ?_
    refine q_icmp_eq 34 9 dX6_lay_6 rfl rfl (fun h_6 => ?_) (fun h_6 => ?_)
    · skip
      refine q_iconst (v := 1) 35 dX6_lay_34 rfl rfl ?_
      refine q_goto 39 dX6_lay_35 rfl ?_
      refine q_istore 41 dX6_lay_39 rfl (by decide) rfl ?_
      refine q_iload_n 42 dX6_lay_41 rfl rfl ?_
      refine q_callSt 45 dX6_lay_42 rfl (c6_isSlot _ _) cw_X6_330 rfl rfl ⟨by decide, by decide⟩ ⟨by decide, by decide⟩ (Nat.le_of_ble_eq_true rfl) ?_
      refine q_if_eq 53 48 dX6_lay_45 rfl rfl (fun h_45 => ?_) (fun h_45 => ?_)
      · skip
        simp only [bI_0, Classical.not_not] at h_45
        refine q_ldc 55 dX6_lay_53 rfl cs_X6_110 ?_
        refine q_iret dX6_lay_55 ?_
        have hC : ¬ cLay (M 31 0) l t k := by
          rintro ⟨q1, q2⟩
          first | exact h_45 q1 | (rcases q2 with q2 | q2 | q2 | q2; exact h_1 q2; exact h_6 q2; (first | exact h_11 q2.1 | exact h_19 q2.2); (first | exact h_24 q2.1 | exact h_31 q2.2))
        unfold aLay mLay
        rw [if_neg hC, if_neg (fun q => hC q.1)]
        exact ⟨rfl, rfl⟩
      · skip
        simp only [bI_0, Classical.not_not] at h_45
        obtain ⟨el, ll⟩ := rg_tn h_45 (n := 4) rfl
        refine q_iload 50 dX6_lay_48 rfl rfl ?_
        refine q_if_ne 56 53 dX6_lay_50 rfl rfl (fun _ => ?_) (fun h_50 => absurd h_50 (by decide))
        refine q_iload_n 57 dX6_lay_56 rfl rfl ?_
        refine q_iconst (v := 2) 58 dX6_lay_57 rfl rfl ?_
        refine q_icmp_ne 74 61 dX6_lay_58 rfl rfl (fun h_58 => ?_) (fun h_58 => ?_)
        · skip
          refine q_aload_n 75 dX6_lay_74 rfl rfl ?_
          refine q_getR 78 dX6_lay_75 rfl fl_X6_28 (by decide) rfl rfl ?_
          refine q_iload_n 79 dX6_lay_78 rfl rfl ?_
          refine q_iald 80 dX6_lay_79 rfl (by decide) (by decide) el (show tn l < 5 by omega) ?_
          refine q_istore 82 dX6_lay_80 rfl (by decide) rfl ?_
          refine q_aload_n 83 dX6_lay_82 rfl rfl ?_
          refine q_getR 86 dX6_lay_83 rfl fl_X6_28 (by decide) rfl rfl ?_
          refine q_iload_n 87 dX6_lay_86 rfl rfl ?_
          refine q_iload_n 88 dX6_lay_87 rfl rfl ?_
          refine q_iast 89 dX6_lay_88 rfl (by decide) (by decide) el (show tn l < 5 by omega) ?_
          refine q_aload_n 90 dX6_lay_89 rfl rfl ?_
          refine q_getR 93 dX6_lay_90 rfl fl_X6_31 (by decide) rfl rfl ?_
          refine q_iload_n 94 dX6_lay_93 rfl rfl ?_
          refine q_iload_n 95 dX6_lay_94 rfl rfl ?_
          refine q_iconst (v := 1) 96 dX6_lay_95 rfl rfl ?_
          refine q_icmp_ne 108 99 dX6_lay_96 rfl rfl (fun h_96 => ?_) (fun h_96 => ?_)
          · skip
            refine q_iload_n 109 dX6_lay_108 rfl rfl ?_
            refine q_iast 110 dX6_lay_109 rfl (by decide) (by decide) el (show tn l < 5 by omega) ?_
            refine q_aload_n 111 dX6_lay_110 rfl rfl ?_
            refine q_getR 114 dX6_lay_111 rfl fl_X6_34 (by decide) rfl rfl ?_
            refine q_iload_n 115 dX6_lay_114 rfl rfl ?_
            refine q_iload_n 116 dX6_lay_115 rfl rfl ?_
            refine q_iconst (v := 1) 117 dX6_lay_116 rfl rfl ?_
            refine q_icmp_ne 128 120 dX6_lay_117 rfl rfl (fun h_117 => ?_) (fun h_117 => ?_)
            · skip
              refine q_iconst (v := 0) 129 dX6_lay_128 rfl rfl ?_
              refine q_iast 130 dX6_lay_129 rfl (by decide) (by decide) el (show tn l < 5 by omega) ?_
              refine q_iload_n 131 dX6_lay_130 rfl rfl ?_
              refine q_iconst (v := 2) 132 dX6_lay_131 rfl rfl ?_
              refine q_icmp_ne 187 135 dX6_lay_132 rfl rfl (fun h_132 => ?_) (fun h_132 => ?_)
              · skip
                refine q_iload 189 dX6_lay_187 rfl rfl ?_
                refine q_iret dX6_lay_189 ?_
                have hC : cLay (M 31 0) l t k := ⟨h_45, by first | exact Or.inl h_1 | exact Or.inr (Or.inl h_6) | exact Or.inr (Or.inr (Or.inl ⟨h_11, h_19⟩)) | exact Or.inr (Or.inr (Or.inr ⟨h_24, h_31⟩))⟩
                first | exact absurd h_58 h_132 | exact absurd h_96 h_117 | exact absurd h_117 h_96 | (have d1 : ¬ (t = 2 ∧ M 34 0 (tn k) < 0) := (fun q => by first | exact h_58 q.1 | exact absurd h_67 (Int32.not_le.mpr q.2)); unfold aLay mLay; rw [if_pos hC, if_neg d1, if_pos ⟨hC, d1⟩, if_neg h_132]; unfold mLay0; first | (have hq := h_96; rw [if_pos hq, if_pos hq]; exact ⟨rfl, rfl⟩) | (have hq := h_96; rw [if_neg hq, if_neg hq]; exact ⟨rfl, rfl⟩))
              · skip
                have hK : isS k := by first | exact hK | exact absurd h_132 h_58
                obtain ⟨ek, lk⟩ := rg_tn hK (n := 3) rfl
                refine q_aload_n 136 dX6_lay_135 rfl rfl ?_
                refine q_getR 139 dX6_lay_136 rfl fl_X6_37 (by decide) rfl rfl ?_
                refine q_iload_n 140 dX6_lay_139 rfl rfl ?_
                refine q_aload_n 141 dX6_lay_140 rfl rfl ?_
                refine q_getR 144 dX6_lay_141 rfl fl_X6_22 (by decide) rfl rfl ?_
                refine q_iload_n 145 dX6_lay_144 rfl rfl ?_
                refine q_iald 146 dX6_lay_145 rfl (by decide) (by decide) ek (show tn k < 4 by omega) ?_
                refine q_iast 147 dX6_lay_146 rfl (by decide) (by decide) el (show tn l < 5 by omega) ?_
                refine q_iconst (v := 0) 148 dX6_lay_147 rfl rfl ?_
                refine q_istore 150 dX6_lay_148 rfl (by decide) rfl ?_
                have hC : cLay (M 31 0) l t k := ⟨h_45, by first | exact Or.inl h_1 | exact Or.inr (Or.inl h_6) | exact Or.inr (Or.inr (Or.inl ⟨h_11, h_19⟩)) | exact Or.inr (Or.inr (Or.inr ⟨h_24, h_31⟩))⟩
                first
                | exact absurd (h_132.symm.trans h_96) (by decide)
                | exact absurd h_132 h_58
                | exact absurd (h_132.symm.trans h_117) (by decide)
                | (have d1 : ¬ (t = 2 ∧ M 34 0 (tn k) < 0) := fun q => absurd h_67 (Int32.not_le.mpr q.2); have ea : aLay M l t k = M 37 0 (tn l) := (by unfold aLay; rw [if_pos hC, if_neg d1]); have em : mLay M l t k = putA (putA (mLay0 M l t k) 40 0 (upd (M 40 0) (tn l) (M 35 0 (tn k)))) 41 0 (va_cpy (M 36 0) (M 41 0) (24 * tn k) (24 * tn l) 24) := (by unfold mLay; rw [if_pos ⟨hC, d1⟩, if_pos h_132]); rw [ea, em]; unfold mLay0; rw [if_neg h_96, if_neg h_96]; refine q_eqM ?_ (TR_post (q_fg (l6_lay (putA (putA (putA (putA M 37 0 (upd (M 37 0) (tn l) t)) 38 0 (upd (M 38 0) (tn l) k)) 39 0 (upd (M 39 0) (tn l) 0)) 40 0 (upd (M 40 0) (tn l) (M 35 0 (tn k)))) l t k _ _ (tn l) (tn k) el ek (by omega) (by omega) 25 0 0 (by omega) (by omega) rfl) ⟨rfl, rfl, rfl, rfl, rfl, rfl, rfl, trivial⟩) (by rintro _ _ ⟨rfl, rfl⟩; exact ⟨rfl, rfl⟩)); rw [cpy_0]; exact (putA_id _ 41 0).symm)
            · skip
              have hM : isM (M 31 0) k := by first | exact hM | exact absurd h_117 h_96
              obtain ⟨em, lm⟩ := isM_nat hn hn10 hM
              refine q_aload_n 121 dX6_lay_120 rfl rfl ?_
              refine q_iload_n 122 dX6_lay_121 rfl rfl ?_
              refine q_callVt 125 dX6_lay_122 rfl (c6_worth _ _ (M 31 0) (by rfl) (tn k) em (by omega)) cw_X6_130 (by decide) rfl rfl ⟨by decide, by decide⟩ ⟨by decide, by decide⟩ (Nat.le_of_ble_eq_true rfl) ?_
              refine q_goto 129 dX6_lay_125 rfl ?_
              refine q_iast 130 dX6_lay_129 rfl (by decide) (by decide) el (show tn l < 5 by omega) ?_
              refine q_iload_n 131 dX6_lay_130 rfl rfl ?_
              refine q_iconst (v := 2) 132 dX6_lay_131 rfl rfl ?_
              refine q_icmp_ne 187 135 dX6_lay_132 rfl rfl (fun h_132 => ?_) (fun h_132 => ?_)
              · skip
                refine q_iload 189 dX6_lay_187 rfl rfl ?_
                refine q_iret dX6_lay_189 ?_
                have hC : cLay (M 31 0) l t k := ⟨h_45, by first | exact Or.inl h_1 | exact Or.inr (Or.inl h_6) | exact Or.inr (Or.inr (Or.inl ⟨h_11, h_19⟩)) | exact Or.inr (Or.inr (Or.inr ⟨h_24, h_31⟩))⟩
                first | exact absurd h_58 h_132 | exact absurd h_96 h_117 | exact absurd h_117 h_96 | (have d1 : ¬ (t = 2 ∧ M 34 0 (tn k) < 0) := (fun q => by first | exact h_58 q.1 | exact absurd h_67 (Int32.not_le.mpr q.2)); unfold aLay mLay; rw [if_pos hC, if_neg d1, if_pos ⟨hC, d1⟩, if_neg h_132]; unfold mLay0; first | (have hq := h_96; rw [if_pos hq, if_pos hq]; exact ⟨rfl, rfl⟩) | (have hq := h_96; rw [if_neg hq, if_neg hq]; exact ⟨rfl, rfl⟩))
              · skip
                have hK : isS k := by first | exact hK | exact absurd h_132 h_58
                obtain ⟨ek, lk⟩ := rg_tn hK (n := 3) rfl
                refine q_aload_n 136 dX6_lay_135 rfl rfl ?_
                refine q_getR 139 dX6_lay_136 rfl fl_X6_37 (by decide) rfl rfl ?_
                refine q_iload_n 140 dX6_lay_139 rfl rfl ?_
                refine q_aload_n 141 dX6_lay_140 rfl rfl ?_
                refine q_getR 144 dX6_lay_141 rfl fl_X6_22 (by decide) rfl rfl ?_
                refine q_iload_n 145 dX6_lay_144 rfl rfl ?_
                refine q_iald 146 dX6_lay_145 rfl (by decide) (by decide) ek (show tn k < 4 by omega) ?_
                refine q_iast 147 dX6_lay_146 rfl (by decide) (by decide) el (show tn l < 5 by omega) ?_
                refine q_iconst (v := 0) 148 dX6_lay_147 rfl rfl ?_
                refine q_istore 150 dX6_lay_148 rfl (by decide) rfl ?_
                have hC : cLay (M 31 0) l t k := ⟨h_45, by first | exact Or.inl h_1 | exact Or.inr (Or.inl h_6) | exact Or.inr (Or.inr (Or.inl ⟨h_11, h_19⟩)) | exact Or.inr (Or.inr (Or.inr ⟨h_24, h_31⟩))⟩
                first
                | exact absurd (h_132.symm.trans h_96) (by decide)
                | exact absurd h_132 h_58
                | exact absurd (h_132.symm.trans h_117) (by decide)
                | (have d1 : ¬ (t = 2 ∧ M 34 0 (tn k) < 0) := fun q => absurd h_67 (Int32.not_le.mpr q.2); have ea : aLay M l t k = M 37 0 (tn l) := (by unfold aLay; rw [if_pos hC, if_neg d1]); have em : mLay M l t k = putA (putA (mLay0 M l t k) 40 0 (upd (M 40 0) (tn l) (M 35 0 (tn k)))) 41 0 (va_cpy (M 36 0) (M 41 0) (24 * tn k) (24 * tn l) 24) := (by unfold mLay; rw [if_pos ⟨hC, d1⟩, if_pos h_132]); rw [ea, em]; unfold mLay0; rw [if_neg h_96, if_neg h_96]; refine q_eqM ?_ (TR_post (q_fg (l6_lay (putA (putA (putA (putA M 37 0 (upd (M 37 0) (tn l) t)) 38 0 (upd (M 38 0) (tn l) k)) 39 0 (upd (M 39 0) (tn l) 0)) 40 0 (upd (M 40 0) (tn l) (M 35 0 (tn k)))) l t k _ _ (tn l) (tn k) el ek (by omega) (by omega) 25 0 0 (by omega) (by omega) rfl) ⟨rfl, rfl, rfl, rfl, rfl, rfl, rfl, trivial⟩) (by rintro _ _ ⟨rfl, rfl⟩; exact ⟨rfl, rfl⟩)); rw [cpy_0]; exact (putA_id _ 41 0).symm)
          · skip
            have hM : isM (M 31 0) k := by first | exact h_19 | exact absurd (h_1.symm.trans h_96) (by decide) | exact absurd (h_6.symm.trans h_96) (by decide) | exact absurd (h_24.symm.trans h_96) (by decide)
            obtain ⟨em, lm⟩ := isM_nat hn hn10 hM
            refine q_aload_n 100 dX6_lay_99 rfl rfl ?_
            refine q_iload_n 101 dX6_lay_100 rfl rfl ?_
            refine q_iconst (v := 0) 102 dX6_lay_101 rfl rfl ?_
            refine q_callVt 105 dX6_lay_102 rfl (c6_of _ _ _ (tn k) 0 em rfl (by omega)) cw_X6_72 (by decide) rfl rfl ⟨by decide, by decide⟩ ⟨by decide, by decide⟩ (Nat.le_of_ble_eq_true rfl) ?_
            refine q_goto 109 dX6_lay_105 rfl ?_
            refine q_iast 110 dX6_lay_109 rfl (by decide) (by decide) el (show tn l < 5 by omega) ?_
            refine q_aload_n 111 dX6_lay_110 rfl rfl ?_
            refine q_getR 114 dX6_lay_111 rfl fl_X6_34 (by decide) rfl rfl ?_
            refine q_iload_n 115 dX6_lay_114 rfl rfl ?_
            refine q_iload_n 116 dX6_lay_115 rfl rfl ?_
            refine q_iconst (v := 1) 117 dX6_lay_116 rfl rfl ?_
            refine q_icmp_ne 128 120 dX6_lay_117 rfl rfl (fun h_117 => ?_) (fun h_117 => ?_)
            · skip
              refine q_iconst (v := 0) 129 dX6_lay_128 rfl rfl ?_
              refine q_iast 130 dX6_lay_129 rfl (by decide) (by decide) el (show tn l < 5 by omega) ?_
              refine q_iload_n 131 dX6_lay_130 rfl rfl ?_
              refine q_iconst (v := 2) 132 dX6_lay_131 rfl rfl ?_
              refine q_icmp_ne 187 135 dX6_lay_132 rfl rfl (fun h_132 => ?_) (fun h_132 => ?_)
              · skip
                refine q_iload 189 dX6_lay_187 rfl rfl ?_
                refine q_iret dX6_lay_189 ?_
                have hC : cLay (M 31 0) l t k := ⟨h_45, by first | exact Or.inl h_1 | exact Or.inr (Or.inl h_6) | exact Or.inr (Or.inr (Or.inl ⟨h_11, h_19⟩)) | exact Or.inr (Or.inr (Or.inr ⟨h_24, h_31⟩))⟩
                first | exact absurd h_58 h_132 | exact absurd h_96 h_117 | exact absurd h_117 h_96 | (have d1 : ¬ (t = 2 ∧ M 34 0 (tn k) < 0) := (fun q => by first | exact h_58 q.1 | exact absurd h_67 (Int32.not_le.mpr q.2)); unfold aLay mLay; rw [if_pos hC, if_neg d1, if_pos ⟨hC, d1⟩, if_neg h_132]; unfold mLay0; first | (have hq := h_96; rw [if_pos hq, if_pos hq]; exact ⟨rfl, rfl⟩) | (have hq := h_96; rw [if_neg hq, if_neg hq]; exact ⟨rfl, rfl⟩))
              · skip
                have hK : isS k := by first | exact hK | exact absurd h_132 h_58
                obtain ⟨ek, lk⟩ := rg_tn hK (n := 3) rfl
                refine q_aload_n 136 dX6_lay_135 rfl rfl ?_
                refine q_getR 139 dX6_lay_136 rfl fl_X6_37 (by decide) rfl rfl ?_
                refine q_iload_n 140 dX6_lay_139 rfl rfl ?_
                refine q_aload_n 141 dX6_lay_140 rfl rfl ?_
                refine q_getR 144 dX6_lay_141 rfl fl_X6_22 (by decide) rfl rfl ?_
                refine q_iload_n 145 dX6_lay_144 rfl rfl ?_
                refine q_iald 146 dX6_lay_145 rfl (by decide) (by decide) ek (show tn k < 4 by omega) ?_
                refine q_iast 147 dX6_lay_146 rfl (by decide) (by decide) el (show tn l < 5 by omega) ?_
                refine q_iconst (v := 0) 148 dX6_lay_147 rfl rfl ?_
                refine q_istore 150 dX6_lay_148 rfl (by decide) rfl ?_
                have hC : cLay (M 31 0) l t k := ⟨h_45, by first | exact Or.inl h_1 | exact Or.inr (Or.inl h_6) | exact Or.inr (Or.inr (Or.inl ⟨h_11, h_19⟩)) | exact Or.inr (Or.inr (Or.inr ⟨h_24, h_31⟩))⟩
                first
                | exact absurd (h_132.symm.trans h_96) (by decide)
                | exact absurd h_132 h_58
                | exact absurd (h_132.symm.trans h_117) (by decide)
                | (have d1 : ¬ (t = 2 ∧ M 34 0 (tn k) < 0) := fun q => absurd h_67 (Int32.not_le.mpr q.2); have ea : aLay M l t k = M 37 0 (tn l) := (by unfold aLay; rw [if_pos hC, if_neg d1]); have em : mLay M l t k = putA (putA (mLay0 M l t k) 40 0 (upd (M 40 0) (tn l) (M 35 0 (tn k)))) 41 0 (va_cpy (M 36 0) (M 41 0) (24 * tn k) (24 * tn l) 24) := (by unfold mLay; rw [if_pos ⟨hC, d1⟩, if_pos h_132]); rw [ea, em]; unfold mLay0; rw [if_neg h_96, if_neg h_96]; refine q_eqM ?_ (TR_post (q_fg (l6_lay (putA (putA (putA (putA M 37 0 (upd (M 37 0) (tn l) t)) 38 0 (upd (M 38 0) (tn l) k)) 39 0 (upd (M 39 0) (tn l) 0)) 40 0 (upd (M 40 0) (tn l) (M 35 0 (tn k)))) l t k _ _ (tn l) (tn k) el ek (by omega) (by omega) 25 0 0 (by omega) (by omega) rfl) ⟨rfl, rfl, rfl, rfl, rfl, rfl, rfl, trivial⟩) (by rintro _ _ ⟨rfl, rfl⟩; exact ⟨rfl, rfl⟩)); rw [cpy_0]; exact (putA_id _ 41 0).symm)
            · skip
              have hM : isM (M 31 0) k := by first | exact hM | exact absurd h_117 h_96
              obtain ⟨em, lm⟩ := isM_nat hn hn10 hM
              refine q_aload_n 121 dX6_lay_120 rfl rfl ?_
              refine q_iload_n 122 dX6_lay_121 rfl rfl ?_
              refine q_callVt 125 dX6_lay_122 rfl (c6_worth _ _ (M 31 0) (by rfl) (tn k) em (by omega)) cw_X6_130 (by decide) rfl rfl ⟨by decide, by decide⟩ ⟨by decide, by decide⟩ (Nat.le_of_ble_eq_true rfl) ?_
              refine q_goto 129 dX6_lay_125 rfl ?_
              refine q_iast 130 dX6_lay_129 rfl (by decide) (by decide) el (show tn l < 5 by omega) ?_
              refine q_iload_n 131 dX6_lay_130 rfl rfl ?_
              refine q_iconst (v := 2) 132 dX6_lay_131 rfl rfl ?_
              refine q_icmp_ne 187 135 dX6_lay_132 rfl rfl (fun h_132 => ?_) (fun h_132 => ?_)
              · skip
                refine q_iload 189 dX6_lay_187 rfl rfl ?_
                refine q_iret dX6_lay_189 ?_
                have hC : cLay (M 31 0) l t k := ⟨h_45, by first | exact Or.inl h_1 | exact Or.inr (Or.inl h_6) | exact Or.inr (Or.inr (Or.inl ⟨h_11, h_19⟩)) | exact Or.inr (Or.inr (Or.inr ⟨h_24, h_31⟩))⟩
                first | exact absurd h_58 h_132 | exact absurd h_96 h_117 | exact absurd h_117 h_96 | (have d1 : ¬ (t = 2 ∧ M 34 0 (tn k) < 0) := (fun q => by first | exact h_58 q.1 | exact absurd h_67 (Int32.not_le.mpr q.2)); unfold aLay mLay; rw [if_pos hC, if_neg d1, if_pos ⟨hC, d1⟩, if_neg h_132]; unfold mLay0; first | (have hq := h_96; rw [if_pos hq, if_pos hq]; exact ⟨rfl, rfl⟩) | (have hq := h_96; rw [if_neg hq, if_neg hq]; exact ⟨rfl, rfl⟩))
              · skip
                have hK : isS k := by first | exact hK | exact absurd h_132 h_58
                obtain ⟨ek, lk⟩ := rg_tn hK (n := 3) rfl
                refine q_aload_n 136 dX6_lay_135 rfl rfl ?_
                refine q_getR 139 dX6_lay_136 rfl fl_X6_37 (by decide) rfl rfl ?_
                refine q_iload_n 140 dX6_lay_139 rfl rfl ?_
                refine q_aload_n 141 dX6_lay_140 rfl rfl ?_
                refine q_getR 144 dX6_lay_141 rfl fl_X6_22 (by decide) rfl rfl ?_
                refine q_iload_n 145 dX6_lay_144 rfl rfl ?_
                refine q_iald 146 dX6_lay_145 rfl (by decide) (by decide) ek (show tn k < 4 by omega) ?_
                refine q_iast 147 dX6_lay_146 rfl (by decide) (by decide) el (show tn l < 5 by omega) ?_
                refine q_iconst (v := 0) 148 dX6_lay_147 rfl rfl ?_
                refine q_istore 150 dX6_lay_148 rfl (by decide) rfl ?_
                have hC : cLay (M 31 0) l t k := ⟨h_45, by first | exact Or.inl h_1 | exact Or.inr (Or.inl h_6) | exact Or.inr (Or.inr (Or.inl ⟨h_11, h_19⟩)) | exact Or.inr (Or.inr (Or.inr ⟨h_24, h_31⟩))⟩
                first
                | exact absurd (h_132.symm.trans h_96) (by decide)
                | exact absurd h_132 h_58
                | exact absurd (h_132.symm.trans h_117) (by decide)
                | (have d1 : ¬ (t = 2 ∧ M 34 0 (tn k) < 0) := fun q => absurd h_67 (Int32.not_le.mpr q.2); have ea : aLay M l t k = M 37 0 (tn l) := (by unfold aLay; rw [if_pos hC, if_neg d1]); have em : mLay M l t k = putA (putA (mLay0 M l t k) 40 0 (upd (M 40 0) (tn l) (M 35 0 (tn k)))) 41 0 (va_cpy (M 36 0) (M 41 0) (24 * tn k) (24 * tn l) 24) := (by unfold mLay; rw [if_pos ⟨hC, d1⟩, if_pos h_132]); rw [ea, em]; unfold mLay0; rw [if_neg h_96, if_neg h_96]; refine q_eqM ?_ (TR_post (q_fg (l6_lay (putA (putA (putA (putA M 37 0 (upd (M 37 0) (tn l) t)) 38 0 (upd (M 38 0) (tn l) k)) 39 0 (upd (M 39 0) (tn l) 0)) 40 0 (upd (M 40 0) (tn l) (M 35 0 (tn k)))) l t k _ _ (tn l) (tn k) el ek (by omega) (by omega) 25 0 0 (by omega) (by omega) rfl) ⟨rfl, rfl, rfl, rfl, rfl, rfl, rfl, trivial⟩) (by rintro _ _ ⟨rfl, rfl⟩; exact ⟨rfl, rfl⟩)); rw [cpy_0]; exact (putA_id _ 41 0).symm)
        · skip
          have hK : isS k := by first | exact h_31 | exact absurd (h_1.symm.trans h_58) (by decide) | exact absurd (h_6.symm.trans h_58) (by decide) | exact absurd (h_11.symm.trans h_58) (by decide)
          obtain ⟨ek, lk⟩ := rg_tn hK (n := 3) rfl
          refine q_aload_n 62 dX6_lay_61 rfl rfl ?_
          refine q_getR 65 dX6_lay_62 rfl fl_X6_19 (by decide) rfl rfl ?_
          refine q_iload_n 66 dX6_lay_65 rfl rfl ?_
          refine q_iald 67 dX6_lay_66 rfl (by decide) (by decide) ek (show tn k < 4 by omega) ?_
          refine q_if_ge 74 70 dX6_lay_67 rfl rfl (fun h_67 => ?_) (fun h_67 => ?_)
          · skip
            refine q_aload_n 75 dX6_lay_74 rfl rfl ?_
            refine q_getR 78 dX6_lay_75 rfl fl_X6_28 (by decide) rfl rfl ?_
            refine q_iload_n 79 dX6_lay_78 rfl rfl ?_
            refine q_iald 80 dX6_lay_79 rfl (by decide) (by decide) el (show tn l < 5 by omega) ?_
            refine q_istore 82 dX6_lay_80 rfl (by decide) rfl ?_
            refine q_aload_n 83 dX6_lay_82 rfl rfl ?_
            refine q_getR 86 dX6_lay_83 rfl fl_X6_28 (by decide) rfl rfl ?_
            refine q_iload_n 87 dX6_lay_86 rfl rfl ?_
            refine q_iload_n 88 dX6_lay_87 rfl rfl ?_
            refine q_iast 89 dX6_lay_88 rfl (by decide) (by decide) el (show tn l < 5 by omega) ?_
            refine q_aload_n 90 dX6_lay_89 rfl rfl ?_
            refine q_getR 93 dX6_lay_90 rfl fl_X6_31 (by decide) rfl rfl ?_
            refine q_iload_n 94 dX6_lay_93 rfl rfl ?_
            refine q_iload_n 95 dX6_lay_94 rfl rfl ?_
            refine q_iconst (v := 1) 96 dX6_lay_95 rfl rfl ?_
            refine q_icmp_ne 108 99 dX6_lay_96 rfl rfl (fun h_96 => ?_) (fun h_96 => ?_)
            · skip
              refine q_iload_n 109 dX6_lay_108 rfl rfl ?_
              refine q_iast 110 dX6_lay_109 rfl (by decide) (by decide) el (show tn l < 5 by omega) ?_
              refine q_aload_n 111 dX6_lay_110 rfl rfl ?_
              refine q_getR 114 dX6_lay_111 rfl fl_X6_34 (by decide) rfl rfl ?_
              refine q_iload_n 115 dX6_lay_114 rfl rfl ?_
              refine q_iload_n 116 dX6_lay_115 rfl rfl ?_
              refine q_iconst (v := 1) 117 dX6_lay_116 rfl rfl ?_
              refine q_icmp_ne 128 120 dX6_lay_117 rfl rfl (fun h_117 => ?_) (fun h_117 => ?_)
              · skip
                refine q_iconst (v := 0) 129 dX6_lay_128 rfl rfl ?_
                refine q_iast 130 dX6_lay_129 rfl (by decide) (by decide) el (show tn l < 5 by omega) ?_
                refine q_iload_n 131 dX6_lay_130 rfl rfl ?_
                refine q_iconst (v := 2) 132 dX6_lay_131 rfl rfl ?_
                refine q_icmp_ne 187 135 dX6_lay_132 rfl rfl (fun h_132 => ?_) (fun h_132 => ?_)
                · skip
                  refine q_iload 189 dX6_lay_187 rfl rfl ?_
                  refine q_iret dX6_lay_189 ?_
                  have hC : cLay (M 31 0) l t k := ⟨h_45, by first | exact Or.inl h_1 | exact Or.inr (Or.inl h_6) | exact Or.inr (Or.inr (Or.inl ⟨h_11, h_19⟩)) | exact Or.inr (Or.inr (Or.inr ⟨h_24, h_31⟩))⟩
                  first | exact absurd h_58 h_132 | exact absurd h_96 h_117 | exact absurd h_117 h_96 | (have d1 : ¬ (t = 2 ∧ M 34 0 (tn k) < 0) := (fun q => by first | exact h_58 q.1 | exact absurd h_67 (Int32.not_le.mpr q.2)); unfold aLay mLay; rw [if_pos hC, if_neg d1, if_pos ⟨hC, d1⟩, if_neg h_132]; unfold mLay0; first | (have hq := h_96; rw [if_pos hq, if_pos hq]; exact ⟨rfl, rfl⟩) | (have hq := h_96; rw [if_neg hq, if_neg hq]; exact ⟨rfl, rfl⟩))
                · skip
                  have hK : isS k := by first | exact hK | exact absurd h_132 h_58
                  obtain ⟨ek, lk⟩ := rg_tn hK (n := 3) rfl
                  refine q_aload_n 136 dX6_lay_135 rfl rfl ?_
                  refine q_getR 139 dX6_lay_136 rfl fl_X6_37 (by decide) rfl rfl ?_
                  refine q_iload_n 140 dX6_lay_139 rfl rfl ?_
                  refine q_aload_n 141 dX6_lay_140 rfl rfl ?_
                  refine q_getR 144 dX6_lay_141 rfl fl_X6_22 (by decide) rfl rfl ?_
                  refine q_iload_n 145 dX6_lay_144 rfl rfl ?_
                  refine q_iald 146 dX6_lay_145 rfl (by decide) (by decide) ek (show tn k < 4 by omega) ?_
                  refine q_iast 147 dX6_lay_146 rfl (by decide) (by decide) el (show tn l < 5 by omega) ?_
                  refine q_iconst (v := 0) 148 dX6_lay_147 rfl rfl ?_
                  refine q_istore 150 dX6_lay_148 rfl (by decide) rfl ?_
                  have hC : cLay (M 31 0) l t k := ⟨h_45, by first | exact Or.inl h_1 | exact Or.inr (Or.inl h_6) | exact Or.inr (Or.inr (Or.inl ⟨h_11, h_19⟩)) | exact Or.inr (Or.inr (Or.inr ⟨h_24, h_31⟩))⟩
                  first
                  | exact absurd (h_132.symm.trans h_96) (by decide)
                  | exact absurd h_132 h_58
                  | exact absurd (h_132.symm.trans h_117) (by decide)
                  | (have d1 : ¬ (t = 2 ∧ M 34 0 (tn k) < 0) := fun q => absurd h_67 (Int32.not_le.mpr q.2); have ea : aLay M l t k = M 37 0 (tn l) := (by unfold aLay; rw [if_pos hC, if_neg d1]); have em : mLay M l t k = putA (putA (mLay0 M l t k) 40 0 (upd (M 40 0) (tn l) (M 35 0 (tn k)))) 41 0 (va_cpy (M 36 0) (M 41 0) (24 * tn k) (24 * tn l) 24) := (by unfold mLay; rw [if_pos ⟨hC, d1⟩, if_pos h_132]); rw [ea, em]; unfold mLay0; rw [if_neg h_96, if_neg h_96]; refine q_eqM ?_ (TR_post (q_fg (l6_lay (putA (putA (putA (putA M 37 0 (upd (M 37 0) (tn l) t)) 38 0 (upd (M 38 0) (tn l) k)) 39 0 (upd (M 39 0) (tn l) 0)) 40 0 (upd (M 40 0) (tn l) (M 35 0 (tn k)))) l t k _ _ (tn l) (tn k) el ek (by omega) (by omega) 25 0 0 (by omega) (by omega) rfl) ⟨rfl, rfl, rfl, rfl, rfl, rfl, rfl, trivial⟩) (by rintro _ _ ⟨rfl, rfl⟩; exact ⟨rfl, rfl⟩)); rw [cpy_0]; exact (putA_id _ 41 0).symm)
              · skip
                have hM : isM (M 31 0) k := by first | exact hM | exact absurd h_117 h_96
                obtain ⟨em, lm⟩ := isM_nat hn hn10 hM
                refine q_aload_n 121 dX6_lay_120 rfl rfl ?_
                refine q_iload_n 122 dX6_lay_121 rfl rfl ?_
                refine q_callVt 125 dX6_lay_122 rfl (c6_worth _ _ (M 31 0) (by rfl) (tn k) em (by omega)) cw_X6_130 (by decide) rfl rfl ⟨by decide, by decide⟩ ⟨by decide, by decide⟩ (Nat.le_of_ble_eq_true rfl) ?_
                refine q_goto 129 dX6_lay_125 rfl ?_
                refine q_iast 130 dX6_lay_129 rfl (by decide) (by decide) el (show tn l < 5 by omega) ?_
                refine q_iload_n 131 dX6_lay_130 rfl rfl ?_
                refine q_iconst (v := 2) 132 dX6_lay_131 rfl rfl ?_
                refine q_icmp_ne 187 135 dX6_lay_132 rfl rfl (fun h_132 => ?_) (fun h_132 => ?_)
                · skip
                  refine q_iload 189 dX6_lay_187 rfl rfl ?_
                  refine q_iret dX6_lay_189 ?_
                  have hC : cLay (M 31 0) l t k := ⟨h_45, by first | exact Or.inl h_1 | exact Or.inr (Or.inl h_6) | exact Or.inr (Or.inr (Or.inl ⟨h_11, h_19⟩)) | exact Or.inr (Or.inr (Or.inr ⟨h_24, h_31⟩))⟩
                  first | exact absurd h_58 h_132 | exact absurd h_96 h_117 | exact absurd h_117 h_96 | (have d1 : ¬ (t = 2 ∧ M 34 0 (tn k) < 0) := (fun q => by first | exact h_58 q.1 | exact absurd h_67 (Int32.not_le.mpr q.2)); unfold aLay mLay; rw [if_pos hC, if_neg d1, if_pos ⟨hC, d1⟩, if_neg h_132]; unfold mLay0; first | (have hq := h_96; rw [if_pos hq, if_pos hq]; exact ⟨rfl, rfl⟩) | (have hq := h_96; rw [if_neg hq, if_neg hq]; exact ⟨rfl, rfl⟩))
                · skip
                  have hK : isS k := by first | exact hK | exact absurd h_132 h_58
                  obtain ⟨ek, lk⟩ := rg_tn hK (n := 3) rfl
                  refine q_aload_n 136 dX6_lay_135 rfl rfl ?_
                  refine q_getR 139 dX6_lay_136 rfl fl_X6_37 (by decide) rfl rfl ?_
                  refine q_iload_n 140 dX6_lay_139 rfl rfl ?_
                  refine q_aload_n 141 dX6_lay_140 rfl rfl ?_
                  refine q_getR 144 dX6_lay_141 rfl fl_X6_22 (by decide) rfl rfl ?_
                  refine q_iload_n 145 dX6_lay_144 rfl rfl ?_
                  refine q_iald 146 dX6_lay_145 rfl (by decide) (by decide) ek (show tn k < 4 by omega) ?_
                  refine q_iast 147 dX6_lay_146 rfl (by decide) (by decide) el (show tn l < 5 by omega) ?_
                  refine q_iconst (v := 0) 148 dX6_lay_147 rfl rfl ?_
                  refine q_istore 150 dX6_lay_148 rfl (by decide) rfl ?_
                  have hC : cLay (M 31 0) l t k := ⟨h_45, by first | exact Or.inl h_1 | exact Or.inr (Or.inl h_6) | exact Or.inr (Or.inr (Or.inl ⟨h_11, h_19⟩)) | exact Or.inr (Or.inr (Or.inr ⟨h_24, h_31⟩))⟩
                  first
                  | exact absurd (h_132.symm.trans h_96) (by decide)
                  | exact absurd h_132 h_58
                  | exact absurd (h_132.symm.trans h_117) (by decide)
                  | (have d1 : ¬ (t = 2 ∧ M 34 0 (tn k) < 0) := fun q => absurd h_67 (Int32.not_le.mpr q.2); have ea : aLay M l t k = M 37 0 (tn l) := (by unfold aLay; rw [if_pos hC, if_neg d1]); have em : mLay M l t k = putA (putA (mLay0 M l t k) 40 0 (upd (M 40 0) (tn l) (M 35 0 (tn k)))) 41 0 (va_cpy (M 36 0) (M 41 0) (24 * tn k) (24 * tn l) 24) := (by unfold mLay; rw [if_pos ⟨hC, d1⟩, if_pos h_132]); rw [ea, em]; unfold mLay0; rw [if_neg h_96, if_neg h_96]; refine q_eqM ?_ (TR_post (q_fg (l6_lay (putA (putA (putA (putA M 37 0 (upd (M 37 0) (tn l) t)) 38 0 (upd (M 38 0) (tn l) k)) 39 0 (upd (M 39 0) (tn l) 0)) 40 0 (upd (M 40 0) (tn l) (M 35 0 (tn k)))) l t k _ _ (tn l) (tn k) el ek (by omega) (by omega) 25 0 0 (by omega) (by omega) rfl) ⟨rfl, rfl, rfl, rfl, rfl, rfl, rfl, trivial⟩) (by rintro _ _ ⟨rfl, rfl⟩; exact ⟨rfl, rfl⟩)); rw [cpy_0]; exact (putA_id _ 41 0).symm)
            · skip
              have hM : isM (M 31 0) k := by first | exact h_19 | exact absurd (h_1.symm.trans h_96) (by decide) | exact absurd (h_6.symm.trans h_96) (by decide) | exact absurd (h_24.symm.trans h_96) (by decide)
              obtain ⟨em, lm⟩ := isM_nat hn hn10 hM
              refine q_aload_n 100 dX6_lay_99 rfl rfl ?_
              refine q_iload_n 101 dX6_lay_100 rfl rfl ?_
              refine q_iconst (v := 0) 102 dX6_lay_101 rfl rfl ?_
              refine q_callVt 105 dX6_lay_102 rfl (c6_of _ _ _ (tn k) 0 em rfl (by omega)) cw_X6_72 (by decide) rfl rfl ⟨by decide, by decide⟩ ⟨by decide, by decide⟩ (Nat.le_of_ble_eq_true rfl) ?_
              refine q_goto 109 dX6_lay_105 rfl ?_
              refine q_iast 110 dX6_lay_109 rfl (by decide) (by decide) el (show tn l < 5 by omega) ?_
              refine q_aload_n 111 dX6_lay_110 rfl rfl ?_
              refine q_getR 114 dX6_lay_111 rfl fl_X6_34 (by decide) rfl rfl ?_
              refine q_iload_n 115 dX6_lay_114 rfl rfl ?_
              refine q_iload_n 116 dX6_lay_115 rfl rfl ?_
              refine q_iconst (v := 1) 117 dX6_lay_116 rfl rfl ?_
              refine q_icmp_ne 128 120 dX6_lay_117 rfl rfl (fun h_117 => ?_) (fun h_117 => ?_)
              · skip
                refine q_iconst (v := 0) 129 dX6_lay_128 rfl rfl ?_
                refine q_iast 130 dX6_lay_129 rfl (by decide) (by decide) el (show tn l < 5 by omega) ?_
                refine q_iload_n 131 dX6_lay_130 rfl rfl ?_
                refine q_iconst (v := 2) 132 dX6_lay_131 rfl rfl ?_
                refine q_icmp_ne 187 135 dX6_lay_132 rfl rfl (fun h_132 => ?_) (fun h_132 => ?_)
                · skip
                  refine q_iload 189 dX6_lay_187 rfl rfl ?_
                  refine q_iret dX6_lay_189 ?_
                  have hC : cLay (M 31 0) l t k := ⟨h_45, by first | exact Or.inl h_1 | exact Or.inr (Or.inl h_6) | exact Or.inr (Or.inr (Or.inl ⟨h_11, h_19⟩)) | exact Or.inr (Or.inr (Or.inr ⟨h_24, h_31⟩))⟩
                  first | exact absurd h_58 h_132 | exact absurd h_96 h_117 | exact absurd h_117 h_96 | (have d1 : ¬ (t = 2 ∧ M 34 0 (tn k) < 0) := (fun q => by first | exact h_58 q.1 | exact absurd h_67 (Int32.not_le.mpr q.2)); unfold aLay mLay; rw [if_pos hC, if_neg d1, if_pos ⟨hC, d1⟩, if_neg h_132]; unfold mLay0; first | (have hq := h_96; rw [if_pos hq, if_pos hq]; exact ⟨rfl, rfl⟩) | (have hq := h_96; rw [if_neg hq, if_neg hq]; exact ⟨rfl, rfl⟩))
                · skip
                  have hK : isS k := by first | exact hK | exact absurd h_132 h_58
                  obtain ⟨ek, lk⟩ := rg_tn hK (n := 3) rfl
                  refine q_aload_n 136 dX6_lay_135 rfl rfl ?_
                  refine q_getR 139 dX6_lay_136 rfl fl_X6_37 (by decide) rfl rfl ?_
                  refine q_iload_n 140 dX6_lay_139 rfl rfl ?_
                  refine q_aload_n 141 dX6_lay_140 rfl rfl ?_
                  refine q_getR 144 dX6_lay_141 rfl fl_X6_22 (by decide) rfl rfl ?_
                  refine q_iload_n 145 dX6_lay_144 rfl rfl ?_
                  refine q_iald 146 dX6_lay_145 rfl (by decide) (by decide) ek (show tn k < 4 by omega) ?_
                  refine q_iast 147 dX6_lay_146 rfl (by decide) (by decide) el (show tn l < 5 by omega) ?_
                  refine q_iconst (v := 0) 148 dX6_lay_147 rfl rfl ?_
                  refine q_istore 150 dX6_lay_148 rfl (by decide) rfl ?_
                  have hC : cLay (M 31 0) l t k := ⟨h_45, by first | exact Or.inl h_1 | exact Or.inr (Or.inl h_6) | exact Or.inr (Or.inr (Or.inl ⟨h_11, h_19⟩)) | exact Or.inr (Or.inr (Or.inr ⟨h_24, h_31⟩))⟩
                  first
                  | exact absurd (h_132.symm.trans h_96) (by decide)
                  | exact absurd h_132 h_58
                  | exact absurd (h_132.symm.trans h_117) (by decide)
                  | (have d1 : ¬ (t = 2 ∧ M 34 0 (tn k) < 0) := fun q => absurd h_67 (Int32.not_le.mpr q.2); have ea : aLay M l t k = M 37 0 (tn l) := (by unfold aLay; rw [if_pos hC, if_neg d1]); have em : mLay M l t k = putA (putA (mLay0 M l t k) 40 0 (upd (M 40 0) (tn l) (M 35 0 (tn k)))) 41 0 (va_cpy (M 36 0) (M 41 0) (24 * tn k) (24 * tn l) 24) := (by unfold mLay; rw [if_pos ⟨hC, d1⟩, if_pos h_132]); rw [ea, em]; unfold mLay0; rw [if_neg h_96, if_neg h_96]; refine q_eqM ?_ (TR_post (q_fg (l6_lay (putA (putA (putA (putA M 37 0 (upd (M 37 0) (tn l) t)) 38 0 (upd (M 38 0) (tn l) k)) 39 0 (upd (M 39 0) (tn l) 0)) 40 0 (upd (M 40 0) (tn l) (M 35 0 (tn k)))) l t k _ _ (tn l) (tn k) el ek (by omega) (by omega) 25 0 0 (by omega) (by omega) rfl) ⟨rfl, rfl, rfl, rfl, rfl, rfl, rfl, trivial⟩) (by rintro _ _ ⟨rfl, rfl⟩; exact ⟨rfl, rfl⟩)); rw [cpy_0]; exact (putA_id _ 41 0).symm)
              · skip
                have hM : isM (M 31 0) k := by first | exact hM | exact absurd h_117 h_96
                obtain ⟨em, lm⟩ := isM_nat hn hn10 hM
                refine q_aload_n 121 dX6_lay_120 rfl rfl ?_
                refine q_iload_n 122 dX6_lay_121 rfl rfl ?_
                refine q_callVt 125 dX6_lay_122 rfl (c6_worth _ _ (M 31 0) (by rfl) (tn k) em (by omega)) cw_X6_130 (by decide) rfl rfl ⟨by decide, by decide⟩ ⟨by decide, by decide⟩ (Nat.le_of_ble_eq_true rfl) ?_
                refine q_goto 129 dX6_lay_125 rfl ?_
                refine q_iast 130 dX6_lay_129 rfl (by decide) (by decide) el (show tn l < 5 by omega) ?_
                refine q_iload_n 131 dX6_lay_130 rfl rfl ?_
                refine q_iconst (v := 2) 132 dX6_lay_131 rfl rfl ?_
                refine q_icmp_ne 187 135 dX6_lay_132 rfl rfl (fun h_132 => ?_) (fun h_132 => ?_)
                · skip
                  refine q_iload 189 dX6_lay_187 rfl rfl ?_
                  refine q_iret dX6_lay_189 ?_
                  have hC : cLay (M 31 0) l t k := ⟨h_45, by first | exact Or.inl h_1 | exact Or.inr (Or.inl h_6) | exact Or.inr (Or.inr (Or.inl ⟨h_11, h_19⟩)) | exact Or.inr (Or.inr (Or.inr ⟨h_24, h_31⟩))⟩
                  first | exact absurd h_58 h_132 | exact absurd h_96 h_117 | exact absurd h_117 h_96 | (have d1 : ¬ (t = 2 ∧ M 34 0 (tn k) < 0) := (fun q => by first | exact h_58 q.1 | exact absurd h_67 (Int32.not_le.mpr q.2)); unfold aLay mLay; rw [if_pos hC, if_neg d1, if_pos ⟨hC, d1⟩, if_neg h_132]; unfold mLay0; first | (have hq := h_96; rw [if_pos hq, if_pos hq]; exact ⟨rfl, rfl⟩) | (have hq := h_96; rw [if_neg hq, if_neg hq]; exact ⟨rfl, rfl⟩))
                · skip
                  have hK : isS k := by first | exact hK | exact absurd h_132 h_58
                  obtain ⟨ek, lk⟩ := rg_tn hK (n := 3) rfl
                  refine q_aload_n 136 dX6_lay_135 rfl rfl ?_
                  refine q_getR 139 dX6_lay_136 rfl fl_X6_37 (by decide) rfl rfl ?_
                  refine q_iload_n 140 dX6_lay_139 rfl rfl ?_
                  refine q_aload_n 141 dX6_lay_140 rfl rfl ?_
                  refine q_getR 144 dX6_lay_141 rfl fl_X6_22 (by decide) rfl rfl ?_
                  refine q_iload_n 145 dX6_lay_144 rfl rfl ?_
                  refine q_iald 146 dX6_lay_145 rfl (by decide) (by decide) ek (show tn k < 4 by omega) ?_
                  refine q_iast 147 dX6_lay_146 rfl (by decide) (by decide) el (show tn l < 5 by omega) ?_
                  refine q_iconst (v := 0) 148 dX6_lay_147 rfl rfl ?_
                  refine q_istore 150 dX6_lay_148 rfl (by decide) rfl ?_
                  have hC : cLay (M 31 0) l t k := ⟨h_45, by first | exact Or.inl h_1 | exact Or.inr (Or.inl h_6) | exact Or.inr (Or.inr (Or.inl ⟨h_11, h_19⟩)) | exact Or.inr (Or.inr (Or.inr ⟨h_24, h_31⟩))⟩
                  first
                  | exact absurd (h_132.symm.trans h_96) (by decide)
                  | exact absurd h_132 h_58
                  | exact absurd (h_132.symm.trans h_117) (by decide)
                  | (have d1 : ¬ (t = 2 ∧ M 34 0 (tn k) < 0) := fun q => absurd h_67 (Int32.not_le.mpr q.2); have ea : aLay M l t k = M 37 0 (tn l) := (by unfold aLay; rw [if_pos hC, if_neg d1]); have em : mLay M l t k = putA (putA (mLay0 M l t k) 40 0 (upd (M 40 0) (tn l) (M 35 0 (tn k)))) 41 0 (va_cpy (M 36 0) (M 41 0) (24 * tn k) (24 * tn l) 24) := (by unfold mLay; rw [if_pos ⟨hC, d1⟩, if_pos h_132]); rw [ea, em]; unfold mLay0; rw [if_neg h_96, if_neg h_96]; refine q_eqM ?_ (TR_post (q_fg (l6_lay (putA (putA (putA (putA M 37 0 (upd (M 37 0) (tn l) t)) 38 0 (upd (M 38 0) (tn l) k)) 39 0 (upd (M 39 0) (tn l) 0)) 40 0 (upd (M 40 0) (tn l) (M 35 0 (tn k)))) l t k _ _ (tn l) (tn k) el ek (by omega) (by omega) 25 0 0 (by omega) (by omega) rfl) ⟨rfl, rfl, rfl, rfl, rfl, rfl, rfl, trivial⟩) (by rintro _ _ ⟨rfl, rfl⟩; exact ⟨rfl, rfl⟩)); rw [cpy_0]; exact (putA_id _ 41 0).symm)
          · skip
            refine q_ldc_w 73 dX6_lay_70 rfl cs_X6_319 ?_
            refine q_iret dX6_lay_73 ?_
            have hC : cLay (M 31 0) l t k := ⟨h_45, by first | exact Or.inl h_1 | exact Or.inr (Or.inl h_6) | exact Or.inr (Or.inr (Or.inl ⟨h_11, h_19⟩)) | exact Or.inr (Or.inr (Or.inr ⟨h_24, h_31⟩))⟩
            have d2 : t = 2 ∧ M 34 0 (tn k) < 0 := ⟨h_58, Int32.not_le.mp h_67⟩
            unfold aLay mLay
            rw [if_pos hC, if_pos d2, if_neg (fun q => q.2 d2)]
            exact ⟨rfl, rfl⟩
    · skip
      refine q_iload_n 10 dX6_lay_9 rfl rfl ?_
      refine q_iconst (v := 1) 11 dX6_lay_10 rfl rfl ?_
      refine q_icmp_ne 22 14 dX6_lay_11 rfl rfl (fun h_11 => ?_) (fun h_11 => ?_)
      · skip
        refine q_iload_n 23 dX6_lay_22 rfl rfl ?_
        refine q_iconst (v := 2) 24 dX6_lay_23 rfl rfl ?_
        refine q_icmp_ne 38 27 dX6_lay_24 rfl rfl (fun h_24 => ?_) (fun h_24 => ?_)
        · skip
          refine q_iconst (v := 0) 39 dX6_lay_38 rfl rfl ?_
          refine q_istore 41 dX6_lay_39 rfl (by decide) rfl ?_
          refine q_iload_n 42 dX6_lay_41 rfl rfl ?_
          refine q_callSt 45 dX6_lay_42 rfl (c6_isSlot _ _) cw_X6_330 rfl rfl ⟨by decide, by decide⟩ ⟨by decide, by decide⟩ (Nat.le_of_ble_eq_true rfl) ?_
          refine q_if_eq 53 48 dX6_lay_45 rfl rfl (fun h_45 => ?_) (fun h_45 => ?_)
          · skip
            simp only [bI_0, Classical.not_not] at h_45
            refine q_ldc 55 dX6_lay_53 rfl cs_X6_110 ?_
            refine q_iret dX6_lay_55 ?_
            have hC : ¬ cLay (M 31 0) l t k := by
              rintro ⟨q1, q2⟩
              first | exact h_45 q1 | (rcases q2 with q2 | q2 | q2 | q2; exact h_1 q2; exact h_6 q2; (first | exact h_11 q2.1 | exact h_19 q2.2); (first | exact h_24 q2.1 | exact h_31 q2.2))
            unfold aLay mLay
            rw [if_neg hC, if_neg (fun q => hC q.1)]
            exact ⟨rfl, rfl⟩
          · skip
            simp only [bI_0, Classical.not_not] at h_45
            obtain ⟨el, ll⟩ := rg_tn h_45 (n := 4) rfl
            refine q_iload 50 dX6_lay_48 rfl rfl ?_
            refine q_if_ne 56 53 dX6_lay_50 rfl rfl (fun h_50 => absurd rfl h_50) (fun _ => ?_)
            refine q_ldc 55 dX6_lay_53 rfl cs_X6_110 ?_
            refine q_iret dX6_lay_55 ?_
            have hC : ¬ cLay (M 31 0) l t k := by
              rintro ⟨q1, q2⟩
              first | exact h_45 q1 | (rcases q2 with q2 | q2 | q2 | q2; exact h_1 q2; exact h_6 q2; (first | exact h_11 q2.1 | exact h_19 q2.2); (first | exact h_24 q2.1 | exact h_31 q2.2))
            unfold aLay mLay
            rw [if_neg hC, if_neg (fun q => hC q.1)]
            exact ⟨rfl, rfl⟩
        · skip
          refine q_iload_n 28 dX6_lay_27 rfl rfl ?_
          refine q_callSt 31 dX6_lay_28 rfl (c6_isSheet _ _) cw_X6_313 rfl rfl ⟨by decide, by decide⟩ ⟨by decide, by decide⟩ (Nat.le_of_ble_eq_true rfl) ?_
          refine q_if_eq 38 34 dX6_lay_31 rfl rfl (fun h_31 => ?_) (fun h_31 => ?_)
          · skip
            simp only [bI_0, Classical.not_not] at h_31
            refine q_iconst (v := 0) 39 dX6_lay_38 rfl rfl ?_
            refine q_istore 41 dX6_lay_39 rfl (by decide) rfl ?_
            refine q_iload_n 42 dX6_lay_41 rfl rfl ?_
            refine q_callSt 45 dX6_lay_42 rfl (c6_isSlot _ _) cw_X6_330 rfl rfl ⟨by decide, by decide⟩ ⟨by decide, by decide⟩ (Nat.le_of_ble_eq_true rfl) ?_
            refine q_if_eq 53 48 dX6_lay_45 rfl rfl (fun h_45 => ?_) (fun h_45 => ?_)
            · skip
              simp only [bI_0, Classical.not_not] at h_45
              refine q_ldc 55 dX6_lay_53 rfl cs_X6_110 ?_
              refine q_iret dX6_lay_55 ?_
              have hC : ¬ cLay (M 31 0) l t k := by
                rintro ⟨q1, q2⟩
                first | exact h_45 q1 | (rcases q2 with q2 | q2 | q2 | q2; exact h_1 q2; exact h_6 q2; (first | exact h_11 q2.1 | exact h_19 q2.2); (first | exact h_24 q2.1 | exact h_31 q2.2))
              unfold aLay mLay
              rw [if_neg hC, if_neg (fun q => hC q.1)]
              exact ⟨rfl, rfl⟩
            · skip
              simp only [bI_0, Classical.not_not] at h_45
              obtain ⟨el, ll⟩ := rg_tn h_45 (n := 4) rfl
              refine q_iload 50 dX6_lay_48 rfl rfl ?_
              refine q_if_ne 56 53 dX6_lay_50 rfl rfl (fun h_50 => absurd rfl h_50) (fun _ => ?_)
              refine q_ldc 55 dX6_lay_53 rfl cs_X6_110 ?_
              refine q_iret dX6_lay_55 ?_
              have hC : ¬ cLay (M 31 0) l t k := by
                rintro ⟨q1, q2⟩
                first | exact h_45 q1 | (rcases q2 with q2 | q2 | q2 | q2; exact h_1 q2; exact h_6 q2; (first | exact h_11 q2.1 | exact h_19 q2.2); (first | exact h_24 q2.1 | exact h_31 q2.2))
              unfold aLay mLay
              rw [if_neg hC, if_neg (fun q => hC q.1)]
              exact ⟨rfl, rfl⟩
          · skip
            simp only [bI_0, Classical.not_not] at h_31
            refine q_iconst (v := 1) 35 dX6_lay_34 rfl rfl ?_
            refine q_goto 39 dX6_lay_35 rfl ?_
            refine q_istore 41 dX6_lay_39 rfl (by decide) rfl ?_
            refine q_iload_n 42 dX6_lay_41 rfl rfl ?_
            refine q_callSt 45 dX6_lay_42 rfl (c6_isSlot _ _) cw_X6_330 rfl rfl ⟨by decide, by decide⟩ ⟨by decide, by decide⟩ (Nat.le_of_ble_eq_true rfl) ?_
            refine q_if_eq 53 48 dX6_lay_45 rfl rfl (fun h_45 => ?_) (fun h_45 => ?_)
            · skip
              simp only [bI_0, Classical.not_not] at h_45
              refine q_ldc 55 dX6_lay_53 rfl cs_X6_110 ?_
              refine q_iret dX6_lay_55 ?_
              have hC : ¬ cLay (M 31 0) l t k := by
                rintro ⟨q1, q2⟩
                first | exact h_45 q1 | (rcases q2 with q2 | q2 | q2 | q2; exact h_1 q2; exact h_6 q2; (first | exact h_11 q2.1 | exact h_19 q2.2); (first | exact h_24 q2.1 | exact h_31 q2.2))
              unfold aLay mLay
              rw [if_neg hC, if_neg (fun q => hC q.1)]
              exact ⟨rfl, rfl⟩
            · skip
              simp only [bI_0, Classical.not_not] at h_45
              obtain ⟨el, ll⟩ := rg_tn h_45 (n := 4) rfl
              refine q_iload 50 dX6_lay_48 rfl rfl ?_
              refine q_if_ne 56 53 dX6_lay_50 rfl rfl (fun _ => ?_) (fun h_50 => absurd h_50 (by decide))
              refine q_iload_n 57 dX6_lay_56 rfl rfl ?_
              refine q_iconst (v := 2) 58 dX6_lay_57 rfl rfl ?_
              refine q_icmp_ne 74 61 dX6_lay_58 rfl rfl (fun h_58 => ?_) (fun h_58 => ?_)
              · skip
                refine q_aload_n 75 dX6_lay_74 rfl rfl ?_
                refine q_getR 78 dX6_lay_75 rfl fl_X6_28 (by decide) rfl rfl ?_
                refine q_iload_n 79 dX6_lay_78 rfl rfl ?_
                refine q_iald 80 dX6_lay_79 rfl (by decide) (by decide) el (show tn l < 5 by omega) ?_
                refine q_istore 82 dX6_lay_80 rfl (by decide) rfl ?_
                refine q_aload_n 83 dX6_lay_82 rfl rfl ?_
                refine q_getR 86 dX6_lay_83 rfl fl_X6_28 (by decide) rfl rfl ?_
                refine q_iload_n 87 dX6_lay_86 rfl rfl ?_
                refine q_iload_n 88 dX6_lay_87 rfl rfl ?_
                refine q_iast 89 dX6_lay_88 rfl (by decide) (by decide) el (show tn l < 5 by omega) ?_
                refine q_aload_n 90 dX6_lay_89 rfl rfl ?_
                refine q_getR 93 dX6_lay_90 rfl fl_X6_31 (by decide) rfl rfl ?_
                refine q_iload_n 94 dX6_lay_93 rfl rfl ?_
                refine q_iload_n 95 dX6_lay_94 rfl rfl ?_
                refine q_iconst (v := 1) 96 dX6_lay_95 rfl rfl ?_
                refine q_icmp_ne 108 99 dX6_lay_96 rfl rfl (fun h_96 => ?_) (fun h_96 => ?_)
                · skip
                  refine q_iload_n 109 dX6_lay_108 rfl rfl ?_
                  refine q_iast 110 dX6_lay_109 rfl (by decide) (by decide) el (show tn l < 5 by omega) ?_
                  refine q_aload_n 111 dX6_lay_110 rfl rfl ?_
                  refine q_getR 114 dX6_lay_111 rfl fl_X6_34 (by decide) rfl rfl ?_
                  refine q_iload_n 115 dX6_lay_114 rfl rfl ?_
                  refine q_iload_n 116 dX6_lay_115 rfl rfl ?_
                  refine q_iconst (v := 1) 117 dX6_lay_116 rfl rfl ?_
                  refine q_icmp_ne 128 120 dX6_lay_117 rfl rfl (fun h_117 => ?_) (fun h_117 => ?_)
                  · skip
                    refine q_iconst (v := 0) 129 dX6_lay_128 rfl rfl ?_
                    refine q_iast 130 dX6_lay_129 rfl (by decide) (by decide) el (show tn l < 5 by omega) ?_
                    refine q_iload_n 131 dX6_lay_130 rfl rfl ?_
                    refine q_iconst (v := 2) 132 dX6_lay_131 rfl rfl ?_
                    refine q_icmp_ne 187 135 dX6_lay_132 rfl rfl (fun h_132 => ?_) (fun h_132 => ?_)
                    · skip
                      refine q_iload 189 dX6_lay_187 rfl rfl ?_
                      refine q_iret dX6_lay_189 ?_
                      have hC : cLay (M 31 0) l t k := ⟨h_45, by first | exact Or.inl h_1 | exact Or.inr (Or.inl h_6) | exact Or.inr (Or.inr (Or.inl ⟨h_11, h_19⟩)) | exact Or.inr (Or.inr (Or.inr ⟨h_24, h_31⟩))⟩
                      first | exact absurd h_58 h_132 | exact absurd h_96 h_117 | exact absurd h_117 h_96 | (have d1 : ¬ (t = 2 ∧ M 34 0 (tn k) < 0) := (fun q => by first | exact h_58 q.1 | exact absurd h_67 (Int32.not_le.mpr q.2)); unfold aLay mLay; rw [if_pos hC, if_neg d1, if_pos ⟨hC, d1⟩, if_neg h_132]; unfold mLay0; first | (have hq := h_96; rw [if_pos hq, if_pos hq]; exact ⟨rfl, rfl⟩) | (have hq := h_96; rw [if_neg hq, if_neg hq]; exact ⟨rfl, rfl⟩))
                    · skip
                      have hK : isS k := by first | exact hK | exact absurd h_132 h_58
                      obtain ⟨ek, lk⟩ := rg_tn hK (n := 3) rfl
                      refine q_aload_n 136 dX6_lay_135 rfl rfl ?_
                      refine q_getR 139 dX6_lay_136 rfl fl_X6_37 (by decide) rfl rfl ?_
                      refine q_iload_n 140 dX6_lay_139 rfl rfl ?_
                      refine q_aload_n 141 dX6_lay_140 rfl rfl ?_
                      refine q_getR 144 dX6_lay_141 rfl fl_X6_22 (by decide) rfl rfl ?_
                      refine q_iload_n 145 dX6_lay_144 rfl rfl ?_
                      refine q_iald 146 dX6_lay_145 rfl (by decide) (by decide) ek (show tn k < 4 by omega) ?_
                      refine q_iast 147 dX6_lay_146 rfl (by decide) (by decide) el (show tn l < 5 by omega) ?_
                      refine q_iconst (v := 0) 148 dX6_lay_147 rfl rfl ?_
                      refine q_istore 150 dX6_lay_148 rfl (by decide) rfl ?_
                      have hC : cLay (M 31 0) l t k := ⟨h_45, by first | exact Or.inl h_1 | exact Or.inr (Or.inl h_6) | exact Or.inr (Or.inr (Or.inl ⟨h_11, h_19⟩)) | exact Or.inr (Or.inr (Or.inr ⟨h_24, h_31⟩))⟩
                      first
                      | exact absurd (h_132.symm.trans h_96) (by decide)
                      | exact absurd h_132 h_58
                      | exact absurd (h_132.symm.trans h_117) (by decide)
                      | (have d1 : ¬ (t = 2 ∧ M 34 0 (tn k) < 0) := fun q => absurd h_67 (Int32.not_le.mpr q.2); have ea : aLay M l t k = M 37 0 (tn l) := (by unfold aLay; rw [if_pos hC, if_neg d1]); have em : mLay M l t k = putA (putA (mLay0 M l t k) 40 0 (upd (M 40 0) (tn l) (M 35 0 (tn k)))) 41 0 (va_cpy (M 36 0) (M 41 0) (24 * tn k) (24 * tn l) 24) := (by unfold mLay; rw [if_pos ⟨hC, d1⟩, if_pos h_132]); rw [ea, em]; unfold mLay0; rw [if_neg h_96, if_neg h_96]; refine q_eqM ?_ (TR_post (q_fg (l6_lay (putA (putA (putA (putA M 37 0 (upd (M 37 0) (tn l) t)) 38 0 (upd (M 38 0) (tn l) k)) 39 0 (upd (M 39 0) (tn l) 0)) 40 0 (upd (M 40 0) (tn l) (M 35 0 (tn k)))) l t k _ _ (tn l) (tn k) el ek (by omega) (by omega) 25 0 0 (by omega) (by omega) rfl) ⟨rfl, rfl, rfl, rfl, rfl, rfl, rfl, trivial⟩) (by rintro _ _ ⟨rfl, rfl⟩; exact ⟨rfl, rfl⟩)); rw [cpy_0]; exact (putA_id _ 41 0).symm)
                  · skip
                    have hM : isM (M 31 0) k := by first | exact hM | exact absurd h_117 h_96
                    obtain ⟨em, lm⟩ := isM_nat hn hn10 hM
                    refine q_aload_n 121 dX6_lay_120 rfl rfl ?_
                    refine q_iload_n 122 dX6_lay_121 rfl rfl ?_
                    refine q_callVt 125 dX6_lay_122 rfl (c6_worth _ _ (M 31 0) (by rfl) (tn k) em (by omega)) cw_X6_130 (by decide) rfl rfl ⟨by decide, by decide⟩ ⟨by decide, by decide⟩ (Nat.le_of_ble_eq_true rfl) ?_
                    refine q_goto 129 dX6_lay_125 rfl ?_
                    refine q_iast 130 dX6_lay_129 rfl (by decide) (by decide) el (show tn l < 5 by omega) ?_
                    refine q_iload_n 131 dX6_lay_130 rfl rfl ?_
                    refine q_iconst (v := 2) 132 dX6_lay_131 rfl rfl ?_
                    refine q_icmp_ne 187 135 dX6_lay_132 rfl rfl (fun h_132 => ?_) (fun h_132 => ?_)
                    · skip
                      refine q_iload 189 dX6_lay_187 rfl rfl ?_
                      refine q_iret dX6_lay_189 ?_
                      have hC : cLay (M 31 0) l t k := ⟨h_45, by first | exact Or.inl h_1 | exact Or.inr (Or.inl h_6) | exact Or.inr (Or.inr (Or.inl ⟨h_11, h_19⟩)) | exact Or.inr (Or.inr (Or.inr ⟨h_24, h_31⟩))⟩
                      first | exact absurd h_58 h_132 | exact absurd h_96 h_117 | exact absurd h_117 h_96 | (have d1 : ¬ (t = 2 ∧ M 34 0 (tn k) < 0) := (fun q => by first | exact h_58 q.1 | exact absurd h_67 (Int32.not_le.mpr q.2)); unfold aLay mLay; rw [if_pos hC, if_neg d1, if_pos ⟨hC, d1⟩, if_neg h_132]; unfold mLay0; first | (have hq := h_96; rw [if_pos hq, if_pos hq]; exact ⟨rfl, rfl⟩) | (have hq := h_96; rw [if_neg hq, if_neg hq]; exact ⟨rfl, rfl⟩))
                    · skip
                      have hK : isS k := by first | exact hK | exact absurd h_132 h_58
                      obtain ⟨ek, lk⟩ := rg_tn hK (n := 3) rfl
                      refine q_aload_n 136 dX6_lay_135 rfl rfl ?_
                      refine q_getR 139 dX6_lay_136 rfl fl_X6_37 (by decide) rfl rfl ?_
                      refine q_iload_n 140 dX6_lay_139 rfl rfl ?_
                      refine q_aload_n 141 dX6_lay_140 rfl rfl ?_
                      refine q_getR 144 dX6_lay_141 rfl fl_X6_22 (by decide) rfl rfl ?_
                      refine q_iload_n 145 dX6_lay_144 rfl rfl ?_
                      refine q_iald 146 dX6_lay_145 rfl (by decide) (by decide) ek (show tn k < 4 by omega) ?_
                      refine q_iast 147 dX6_lay_146 rfl (by decide) (by decide) el (show tn l < 5 by omega) ?_
                      refine q_iconst (v := 0) 148 dX6_lay_147 rfl rfl ?_
                      refine q_istore 150 dX6_lay_148 rfl (by decide) rfl ?_
                      have hC : cLay (M 31 0) l t k := ⟨h_45, by first | exact Or.inl h_1 | exact Or.inr (Or.inl h_6) | exact Or.inr (Or.inr (Or.inl ⟨h_11, h_19⟩)) | exact Or.inr (Or.inr (Or.inr ⟨h_24, h_31⟩))⟩
                      first
                      | exact absurd (h_132.symm.trans h_96) (by decide)
                      | exact absurd h_132 h_58
                      | exact absurd (h_132.symm.trans h_117) (by decide)
                      | (have d1 : ¬ (t = 2 ∧ M 34 0 (tn k) < 0) := fun q => absurd h_67 (Int32.not_le.mpr q.2); have ea : aLay M l t k = M 37 0 (tn l) := (by unfold aLay; rw [if_pos hC, if_neg d1]); have em : mLay M l t k = putA (putA (mLay0 M l t k) 40 0 (upd (M 40 0) (tn l) (M 35 0 (tn k)))) 41 0 (va_cpy (M 36 0) (M 41 0) (24 * tn k) (24 * tn l) 24) := (by unfold mLay; rw [if_pos ⟨hC, d1⟩, if_pos h_132]); rw [ea, em]; unfold mLay0; rw [if_neg h_96, if_neg h_96]; refine q_eqM ?_ (TR_post (q_fg (l6_lay (putA (putA (putA (putA M 37 0 (upd (M 37 0) (tn l) t)) 38 0 (upd (M 38 0) (tn l) k)) 39 0 (upd (M 39 0) (tn l) 0)) 40 0 (upd (M 40 0) (tn l) (M 35 0 (tn k)))) l t k _ _ (tn l) (tn k) el ek (by omega) (by omega) 25 0 0 (by omega) (by omega) rfl) ⟨rfl, rfl, rfl, rfl, rfl, rfl, rfl, trivial⟩) (by rintro _ _ ⟨rfl, rfl⟩; exact ⟨rfl, rfl⟩)); rw [cpy_0]; exact (putA_id _ 41 0).symm)
                · skip
                  have hM : isM (M 31 0) k := by first | exact h_19 | exact absurd (h_1.symm.trans h_96) (by decide) | exact absurd (h_6.symm.trans h_96) (by decide) | exact absurd (h_24.symm.trans h_96) (by decide)
                  obtain ⟨em, lm⟩ := isM_nat hn hn10 hM
                  refine q_aload_n 100 dX6_lay_99 rfl rfl ?_
                  refine q_iload_n 101 dX6_lay_100 rfl rfl ?_
                  refine q_iconst (v := 0) 102 dX6_lay_101 rfl rfl ?_
                  refine q_callVt 105 dX6_lay_102 rfl (c6_of _ _ _ (tn k) 0 em rfl (by omega)) cw_X6_72 (by decide) rfl rfl ⟨by decide, by decide⟩ ⟨by decide, by decide⟩ (Nat.le_of_ble_eq_true rfl) ?_
                  refine q_goto 109 dX6_lay_105 rfl ?_
                  refine q_iast 110 dX6_lay_109 rfl (by decide) (by decide) el (show tn l < 5 by omega) ?_
                  refine q_aload_n 111 dX6_lay_110 rfl rfl ?_
                  refine q_getR 114 dX6_lay_111 rfl fl_X6_34 (by decide) rfl rfl ?_
                  refine q_iload_n 115 dX6_lay_114 rfl rfl ?_
                  refine q_iload_n 116 dX6_lay_115 rfl rfl ?_
                  refine q_iconst (v := 1) 117 dX6_lay_116 rfl rfl ?_
                  refine q_icmp_ne 128 120 dX6_lay_117 rfl rfl (fun h_117 => ?_) (fun h_117 => ?_)
                  · skip
                    refine q_iconst (v := 0) 129 dX6_lay_128 rfl rfl ?_
                    refine q_iast 130 dX6_lay_129 rfl (by decide) (by decide) el (show tn l < 5 by omega) ?_
                    refine q_iload_n 131 dX6_lay_130 rfl rfl ?_
                    refine q_iconst (v := 2) 132 dX6_lay_131 rfl rfl ?_
                    refine q_icmp_ne 187 135 dX6_lay_132 rfl rfl (fun h_132 => ?_) (fun h_132 => ?_)
                    · skip
                      refine q_iload 189 dX6_lay_187 rfl rfl ?_
                      refine q_iret dX6_lay_189 ?_
                      have hC : cLay (M 31 0) l t k := ⟨h_45, by first | exact Or.inl h_1 | exact Or.inr (Or.inl h_6) | exact Or.inr (Or.inr (Or.inl ⟨h_11, h_19⟩)) | exact Or.inr (Or.inr (Or.inr ⟨h_24, h_31⟩))⟩
                      first | exact absurd h_58 h_132 | exact absurd h_96 h_117 | exact absurd h_117 h_96 | (have d1 : ¬ (t = 2 ∧ M 34 0 (tn k) < 0) := (fun q => by first | exact h_58 q.1 | exact absurd h_67 (Int32.not_le.mpr q.2)); unfold aLay mLay; rw [if_pos hC, if_neg d1, if_pos ⟨hC, d1⟩, if_neg h_132]; unfold mLay0; first | (have hq := h_96; rw [if_pos hq, if_pos hq]; exact ⟨rfl, rfl⟩) | (have hq := h_96; rw [if_neg hq, if_neg hq]; exact ⟨rfl, rfl⟩))
                    · skip
                      have hK : isS k := by first | exact hK | exact absurd h_132 h_58
                      obtain ⟨ek, lk⟩ := rg_tn hK (n := 3) rfl
                      refine q_aload_n 136 dX6_lay_135 rfl rfl ?_
                      refine q_getR 139 dX6_lay_136 rfl fl_X6_37 (by decide) rfl rfl ?_
                      refine q_iload_n 140 dX6_lay_139 rfl rfl ?_
                      refine q_aload_n 141 dX6_lay_140 rfl rfl ?_
                      refine q_getR 144 dX6_lay_141 rfl fl_X6_22 (by decide) rfl rfl ?_
                      refine q_iload_n 145 dX6_lay_144 rfl rfl ?_
                      refine q_iald 146 dX6_lay_145 rfl (by decide) (by decide) ek (show tn k < 4 by omega) ?_
                      refine q_iast 147 dX6_lay_146 rfl (by decide) (by decide) el (show tn l < 5 by omega) ?_
                      refine q_iconst (v := 0) 148 dX6_lay_147 rfl rfl ?_
                      refine q_istore 150 dX6_lay_148 rfl (by decide) rfl ?_
                      have hC : cLay (M 31 0) l t k := ⟨h_45, by first | exact Or.inl h_1 | exact Or.inr (Or.inl h_6) | exact Or.inr (Or.inr (Or.inl ⟨h_11, h_19⟩)) | exact Or.inr (Or.inr (Or.inr ⟨h_24, h_31⟩))⟩
                      first
                      | exact absurd (h_132.symm.trans h_96) (by decide)
                      | exact absurd h_132 h_58
                      | exact absurd (h_132.symm.trans h_117) (by decide)
                      | (have d1 : ¬ (t = 2 ∧ M 34 0 (tn k) < 0) := fun q => absurd h_67 (Int32.not_le.mpr q.2); have ea : aLay M l t k = M 37 0 (tn l) := (by unfold aLay; rw [if_pos hC, if_neg d1]); have em : mLay M l t k = putA (putA (mLay0 M l t k) 40 0 (upd (M 40 0) (tn l) (M 35 0 (tn k)))) 41 0 (va_cpy (M 36 0) (M 41 0) (24 * tn k) (24 * tn l) 24) := (by unfold mLay; rw [if_pos ⟨hC, d1⟩, if_pos h_132]); rw [ea, em]; unfold mLay0; rw [if_neg h_96, if_neg h_96]; refine q_eqM ?_ (TR_post (q_fg (l6_lay (putA (putA (putA (putA M 37 0 (upd (M 37 0) (tn l) t)) 38 0 (upd (M 38 0) (tn l) k)) 39 0 (upd (M 39 0) (tn l) 0)) 40 0 (upd (M 40 0) (tn l) (M 35 0 (tn k)))) l t k _ _ (tn l) (tn k) el ek (by omega) (by omega) 25 0 0 (by omega) (by omega) rfl) ⟨rfl, rfl, rfl, rfl, rfl, rfl, rfl, trivial⟩) (by rintro _ _ ⟨rfl, rfl⟩; exact ⟨rfl, rfl⟩)); rw [cpy_0]; exact (putA_id _ 41 0).symm)
                  · skip
                    have hM : isM (M 31 0) k := by first | exact hM | exact absurd h_117 h_96
                    obtain ⟨em, lm⟩ := isM_nat hn hn10 hM
                    refine q_aload_n 121 dX6_lay_120 rfl rfl ?_
                    refine q_iload_n 122 dX6_lay_121 rfl rfl ?_
                    refine q_callVt 125 dX6_lay_122 rfl (c6_worth _ _ (M 31 0) (by rfl) (tn k) em (by omega)) cw_X6_130 (by decide) rfl rfl ⟨by decide, by decide⟩ ⟨by decide, by decide⟩ (Nat.le_of_ble_eq_true rfl) ?_
                    refine q_goto 129 dX6_lay_125 rfl ?_
                    refine q_iast 130 dX6_lay_129 rfl (by decide) (by decide) el (show tn l < 5 by omega) ?_
                    refine q_iload_n 131 dX6_lay_130 rfl rfl ?_
                    refine q_iconst (v := 2) 132 dX6_lay_131 rfl rfl ?_
                    refine q_icmp_ne 187 135 dX6_lay_132 rfl rfl (fun h_132 => ?_) (fun h_132 => ?_)
                    · skip
                      refine q_iload 189 dX6_lay_187 rfl rfl ?_
                      refine q_iret dX6_lay_189 ?_
                      have hC : cLay (M 31 0) l t k := ⟨h_45, by first | exact Or.inl h_1 | exact Or.inr (Or.inl h_6) | exact Or.inr (Or.inr (Or.inl ⟨h_11, h_19⟩)) | exact Or.inr (Or.inr (Or.inr ⟨h_24, h_31⟩))⟩
                      first | exact absurd h_58 h_132 | exact absurd h_96 h_117 | exact absurd h_117 h_96 | (have d1 : ¬ (t = 2 ∧ M 34 0 (tn k) < 0) := (fun q => by first | exact h_58 q.1 | exact absurd h_67 (Int32.not_le.mpr q.2)); unfold aLay mLay; rw [if_pos hC, if_neg d1, if_pos ⟨hC, d1⟩, if_neg h_132]; unfold mLay0; first | (have hq := h_96; rw [if_pos hq, if_pos hq]; exact ⟨rfl, rfl⟩) | (have hq := h_96; rw [if_neg hq, if_neg hq]; exact ⟨rfl, rfl⟩))
                    · skip
                      have hK : isS k := by first | exact hK | exact absurd h_132 h_58
                      obtain ⟨ek, lk⟩ := rg_tn hK (n := 3) rfl
                      refine q_aload_n 136 dX6_lay_135 rfl rfl ?_
                      refine q_getR 139 dX6_lay_136 rfl fl_X6_37 (by decide) rfl rfl ?_
                      refine q_iload_n 140 dX6_lay_139 rfl rfl ?_
                      refine q_aload_n 141 dX6_lay_140 rfl rfl ?_
                      refine q_getR 144 dX6_lay_141 rfl fl_X6_22 (by decide) rfl rfl ?_
                      refine q_iload_n 145 dX6_lay_144 rfl rfl ?_
                      refine q_iald 146 dX6_lay_145 rfl (by decide) (by decide) ek (show tn k < 4 by omega) ?_
                      refine q_iast 147 dX6_lay_146 rfl (by decide) (by decide) el (show tn l < 5 by omega) ?_
                      refine q_iconst (v := 0) 148 dX6_lay_147 rfl rfl ?_
                      refine q_istore 150 dX6_lay_148 rfl (by decide) rfl ?_
                      have hC : cLay (M 31 0) l t k := ⟨h_45, by first | exact Or.inl h_1 | exact Or.inr (Or.inl h_6) | exact Or.inr (Or.inr (Or.inl ⟨h_11, h_19⟩)) | exact Or.inr (Or.inr (Or.inr ⟨h_24, h_31⟩))⟩
                      first
                      | exact absurd (h_132.symm.trans h_96) (by decide)
                      | exact absurd h_132 h_58
                      | exact absurd (h_132.symm.trans h_117) (by decide)
                      | (have d1 : ¬ (t = 2 ∧ M 34 0 (tn k) < 0) := fun q => absurd h_67 (Int32.not_le.mpr q.2); have ea : aLay M l t k = M 37 0 (tn l) := (by unfold aLay; rw [if_pos hC, if_neg d1]); have em : mLay M l t k = putA (putA (mLay0 M l t k) 40 0 (upd (M 40 0) (tn l) (M 35 0 (tn k)))) 41 0 (va_cpy (M 36 0) (M 41 0) (24 * tn k) (24 * tn l) 24) := (by unfold mLay; rw [if_pos ⟨hC, d1⟩, if_pos h_132]); rw [ea, em]; unfold mLay0; rw [if_neg h_96, if_neg h_96]; refine q_eqM ?_ (TR_post (q_fg (l6_lay (putA (putA (putA (putA M 37 0 (upd (M 37 0) (tn l) t)) 38 0 (upd (M 38 0) (tn l) k)) 39 0 (upd (M 39 0) (tn l) 0)) 40 0 (upd (M 40 0) (tn l) (M 35 0 (tn k)))) l t k _ _ (tn l) (tn k) el ek (by omega) (by omega) 25 0 0 (by omega) (by omega) rfl) ⟨rfl, rfl, rfl, rfl, rfl, rfl, rfl, trivial⟩) (by rintro _ _ ⟨rfl, rfl⟩; exact ⟨rfl, rfl⟩)); rw [cpy_0]; exact (putA_id _ 41 0).symm)
              · skip
                have hK : isS k := by first | exact h_31 | exact absurd (h_1.symm.trans h_58) (by decide) | exact absurd (h_6.symm.trans h_58) (by decide) | exact absurd (h_11.symm.trans h_58) (by decide)
                obtain ⟨ek, lk⟩ := rg_tn hK (n := 3) rfl
                refine q_aload_n 62 dX6_lay_61 rfl rfl ?_
                refine q_getR 65 dX6_lay_62 rfl fl_X6_19 (by decide) rfl rfl ?_
                refine q_iload_n 66 dX6_lay_65 rfl rfl ?_
                refine q_iald 67 dX6_lay_66 rfl (by decide) (by decide) ek (show tn k < 4 by omega) ?_
                refine q_if_ge 74 70 dX6_lay_67 rfl rfl (fun h_67 => ?_) (fun h_67 => ?_)
                · skip
                  refine q_aload_n 75 dX6_lay_74 rfl rfl ?_
                  refine q_getR 78 dX6_lay_75 rfl fl_X6_28 (by decide) rfl rfl ?_
                  refine q_iload_n 79 dX6_lay_78 rfl rfl ?_
                  refine q_iald 80 dX6_lay_79 rfl (by decide) (by decide) el (show tn l < 5 by omega) ?_
                  refine q_istore 82 dX6_lay_80 rfl (by decide) rfl ?_
                  refine q_aload_n 83 dX6_lay_82 rfl rfl ?_
                  refine q_getR 86 dX6_lay_83 rfl fl_X6_28 (by decide) rfl rfl ?_
                  refine q_iload_n 87 dX6_lay_86 rfl rfl ?_
                  refine q_iload_n 88 dX6_lay_87 rfl rfl ?_
                  refine q_iast 89 dX6_lay_88 rfl (by decide) (by decide) el (show tn l < 5 by omega) ?_
                  refine q_aload_n 90 dX6_lay_89 rfl rfl ?_
                  refine q_getR 93 dX6_lay_90 rfl fl_X6_31 (by decide) rfl rfl ?_
                  refine q_iload_n 94 dX6_lay_93 rfl rfl ?_
                  refine q_iload_n 95 dX6_lay_94 rfl rfl ?_
                  refine q_iconst (v := 1) 96 dX6_lay_95 rfl rfl ?_
                  refine q_icmp_ne 108 99 dX6_lay_96 rfl rfl (fun h_96 => ?_) (fun h_96 => ?_)
                  · skip
                    refine q_iload_n 109 dX6_lay_108 rfl rfl ?_
                    refine q_iast 110 dX6_lay_109 rfl (by decide) (by decide) el (show tn l < 5 by omega) ?_
                    refine q_aload_n 111 dX6_lay_110 rfl rfl ?_
                    refine q_getR 114 dX6_lay_111 rfl fl_X6_34 (by decide) rfl rfl ?_
                    refine q_iload_n 115 dX6_lay_114 rfl rfl ?_
                    refine q_iload_n 116 dX6_lay_115 rfl rfl ?_
                    refine q_iconst (v := 1) 117 dX6_lay_116 rfl rfl ?_
                    refine q_icmp_ne 128 120 dX6_lay_117 rfl rfl (fun h_117 => ?_) (fun h_117 => ?_)
                    · skip
                      refine q_iconst (v := 0) 129 dX6_lay_128 rfl rfl ?_
                      refine q_iast 130 dX6_lay_129 rfl (by decide) (by decide) el (show tn l < 5 by omega) ?_
                      refine q_iload_n 131 dX6_lay_130 rfl rfl ?_
                      refine q_iconst (v := 2) 132 dX6_lay_131 rfl rfl ?_
                      refine q_icmp_ne 187 135 dX6_lay_132 rfl rfl (fun h_132 => ?_) (fun h_132 => ?_)
                      · skip
                        refine q_iload 189 dX6_lay_187 rfl rfl ?_
                        refine q_iret dX6_lay_189 ?_
                        have hC : cLay (M 31 0) l t k := ⟨h_45, by first | exact Or.inl h_1 | exact Or.inr (Or.inl h_6) | exact Or.inr (Or.inr (Or.inl ⟨h_11, h_19⟩)) | exact Or.inr (Or.inr (Or.inr ⟨h_24, h_31⟩))⟩
                        first | exact absurd h_58 h_132 | exact absurd h_96 h_117 | exact absurd h_117 h_96 | (have d1 : ¬ (t = 2 ∧ M 34 0 (tn k) < 0) := (fun q => by first | exact h_58 q.1 | exact absurd h_67 (Int32.not_le.mpr q.2)); unfold aLay mLay; rw [if_pos hC, if_neg d1, if_pos ⟨hC, d1⟩, if_neg h_132]; unfold mLay0; first | (have hq := h_96; rw [if_pos hq, if_pos hq]; exact ⟨rfl, rfl⟩) | (have hq := h_96; rw [if_neg hq, if_neg hq]; exact ⟨rfl, rfl⟩))
                      · skip
                        have hK : isS k := by first | exact hK | exact absurd h_132 h_58
                        obtain ⟨ek, lk⟩ := rg_tn hK (n := 3) rfl
                        refine q_aload_n 136 dX6_lay_135 rfl rfl ?_
                        refine q_getR 139 dX6_lay_136 rfl fl_X6_37 (by decide) rfl rfl ?_
                        refine q_iload_n 140 dX6_lay_139 rfl rfl ?_
                        refine q_aload_n 141 dX6_lay_140 rfl rfl ?_
                        refine q_getR 144 dX6_lay_141 rfl fl_X6_22 (by decide) rfl rfl ?_
                        refine q_iload_n 145 dX6_lay_144 rfl rfl ?_
                        refine q_iald 146 dX6_lay_145 rfl (by decide) (by decide) ek (show tn k < 4 by omega) ?_
                        refine q_iast 147 dX6_lay_146 rfl (by decide) (by decide) el (show tn l < 5 by omega) ?_
                        refine q_iconst (v := 0) 148 dX6_lay_147 rfl rfl ?_
                        refine q_istore 150 dX6_lay_148 rfl (by decide) rfl ?_
                        have hC : cLay (M 31 0) l t k := ⟨h_45, by first | exact Or.inl h_1 | exact Or.inr (Or.inl h_6) | exact Or.inr (Or.inr (Or.inl ⟨h_11, h_19⟩)) | exact Or.inr (Or.inr (Or.inr ⟨h_24, h_31⟩))⟩
                        first
                        | exact absurd (h_132.symm.trans h_96) (by decide)
                        | exact absurd h_132 h_58
                        | exact absurd (h_132.symm.trans h_117) (by decide)
                        | (have d1 : ¬ (t = 2 ∧ M 34 0 (tn k) < 0) := fun q => absurd h_67 (Int32.not_le.mpr q.2); have ea : aLay M l t k = M 37 0 (tn l) := (by unfold aLay; rw [if_pos hC, if_neg d1]); have em : mLay M l t k = putA (putA (mLay0 M l t k) 40 0 (upd (M 40 0) (tn l) (M 35 0 (tn k)))) 41 0 (va_cpy (M 36 0) (M 41 0) (24 * tn k) (24 * tn l) 24) := (by unfold mLay; rw [if_pos ⟨hC, d1⟩, if_pos h_132]); rw [ea, em]; unfold mLay0; rw [if_neg h_96, if_neg h_96]; refine q_eqM ?_ (TR_post (q_fg (l6_lay (putA (putA (putA (putA M 37 0 (upd (M 37 0) (tn l) t)) 38 0 (upd (M 38 0) (tn l) k)) 39 0 (upd (M 39 0) (tn l) 0)) 40 0 (upd (M 40 0) (tn l) (M 35 0 (tn k)))) l t k _ _ (tn l) (tn k) el ek (by omega) (by omega) 25 0 0 (by omega) (by omega) rfl) ⟨rfl, rfl, rfl, rfl, rfl, rfl, rfl, trivial⟩) (by rintro _ _ ⟨rfl, rfl⟩; exact ⟨rfl, rfl⟩)); rw [cpy_0]; exact (putA_id _ 41 0).symm)
                    · skip
                      have hM : isM (M 31 0) k := by first | exact hM | exact absurd h_117 h_96
                      obtain ⟨em, lm⟩ := isM_nat hn hn10 hM
                      refine q_aload_n 121 dX6_lay_120 rfl rfl ?_
                      refine q_iload_n 122 dX6_lay_121 rfl rfl ?_
                      refine q_callVt 125 dX6_lay_122 rfl (c6_worth _ _ (M 31 0) (by rfl) (tn k) em (by omega)) cw_X6_130 (by decide) rfl rfl ⟨by decide, by decide⟩ ⟨by decide, by decide⟩ (Nat.le_of_ble_eq_true rfl) ?_
                      refine q_goto 129 dX6_lay_125 rfl ?_
                      refine q_iast 130 dX6_lay_129 rfl (by decide) (by decide) el (show tn l < 5 by omega) ?_
                      refine q_iload_n 131 dX6_lay_130 rfl rfl ?_
                      refine q_iconst (v := 2) 132 dX6_lay_131 rfl rfl ?_
                      refine q_icmp_ne 187 135 dX6_lay_132 rfl rfl (fun h_132 => ?_) (fun h_132 => ?_)
                      · skip
                        refine q_iload 189 dX6_lay_187 rfl rfl ?_
                        refine q_iret dX6_lay_189 ?_
                        have hC : cLay (M 31 0) l t k := ⟨h_45, by first | exact Or.inl h_1 | exact Or.inr (Or.inl h_6) | exact Or.inr (Or.inr (Or.inl ⟨h_11, h_19⟩)) | exact Or.inr (Or.inr (Or.inr ⟨h_24, h_31⟩))⟩
                        first | exact absurd h_58 h_132 | exact absurd h_96 h_117 | exact absurd h_117 h_96 | (have d1 : ¬ (t = 2 ∧ M 34 0 (tn k) < 0) := (fun q => by first | exact h_58 q.1 | exact absurd h_67 (Int32.not_le.mpr q.2)); unfold aLay mLay; rw [if_pos hC, if_neg d1, if_pos ⟨hC, d1⟩, if_neg h_132]; unfold mLay0; first | (have hq := h_96; rw [if_pos hq, if_pos hq]; exact ⟨rfl, rfl⟩) | (have hq := h_96; rw [if_neg hq, if_neg hq]; exact ⟨rfl, rfl⟩))
                      · skip
                        have hK : isS k := by first | exact hK | exact absurd h_132 h_58
                        obtain ⟨ek, lk⟩ := rg_tn hK (n := 3) rfl
                        refine q_aload_n 136 dX6_lay_135 rfl rfl ?_
                        refine q_getR 139 dX6_lay_136 rfl fl_X6_37 (by decide) rfl rfl ?_
                        refine q_iload_n 140 dX6_lay_139 rfl rfl ?_
                        refine q_aload_n 141 dX6_lay_140 rfl rfl ?_
                        refine q_getR 144 dX6_lay_141 rfl fl_X6_22 (by decide) rfl rfl ?_
                        refine q_iload_n 145 dX6_lay_144 rfl rfl ?_
                        refine q_iald 146 dX6_lay_145 rfl (by decide) (by decide) ek (show tn k < 4 by omega) ?_
                        refine q_iast 147 dX6_lay_146 rfl (by decide) (by decide) el (show tn l < 5 by omega) ?_
                        refine q_iconst (v := 0) 148 dX6_lay_147 rfl rfl ?_
                        refine q_istore 150 dX6_lay_148 rfl (by decide) rfl ?_
                        have hC : cLay (M 31 0) l t k := ⟨h_45, by first | exact Or.inl h_1 | exact Or.inr (Or.inl h_6) | exact Or.inr (Or.inr (Or.inl ⟨h_11, h_19⟩)) | exact Or.inr (Or.inr (Or.inr ⟨h_24, h_31⟩))⟩
                        first
                        | exact absurd (h_132.symm.trans h_96) (by decide)
                        | exact absurd h_132 h_58
                        | exact absurd (h_132.symm.trans h_117) (by decide)
                        | (have d1 : ¬ (t = 2 ∧ M 34 0 (tn k) < 0) := fun q => absurd h_67 (Int32.not_le.mpr q.2); have ea : aLay M l t k = M 37 0 (tn l) := (by unfold aLay; rw [if_pos hC, if_neg d1]); have em : mLay M l t k = putA (putA (mLay0 M l t k) 40 0 (upd (M 40 0) (tn l) (M 35 0 (tn k)))) 41 0 (va_cpy (M 36 0) (M 41 0) (24 * tn k) (24 * tn l) 24) := (by unfold mLay; rw [if_pos ⟨hC, d1⟩, if_pos h_132]); rw [ea, em]; unfold mLay0; rw [if_neg h_96, if_neg h_96]; refine q_eqM ?_ (TR_post (q_fg (l6_lay (putA (putA (putA (putA M 37 0 (upd (M 37 0) (tn l) t)) 38 0 (upd (M 38 0) (tn l) k)) 39 0 (upd (M 39 0) (tn l) 0)) 40 0 (upd (M 40 0) (tn l) (M 35 0 (tn k)))) l t k _ _ (tn l) (tn k) el ek (by omega) (by omega) 25 0 0 (by omega) (by omega) rfl) ⟨rfl, rfl, rfl, rfl, rfl, rfl, rfl, trivial⟩) (by rintro _ _ ⟨rfl, rfl⟩; exact ⟨rfl, rfl⟩)); rw [cpy_0]; exact (putA_id _ 41 0).symm)
                  · skip
                    have hM : isM (M 31 0) k := by first | exact h_19 | exact absurd (h_1.symm.trans h_96) (by decide) | exact absurd (h_6.symm.trans h_96) (by decide) | exact absurd (h_24.symm.trans h_96) (by decide)
                    obtain ⟨em, lm⟩ := isM_nat hn hn10 hM
                    refine q_aload_n 100 dX6_lay_99 rfl rfl ?_
                    refine q_iload_n 101 dX6_lay_100 rfl rfl ?_
                    refine q_iconst (v := 0) 102 dX6_lay_101 rfl rfl ?_
                    refine q_callVt 105 dX6_lay_102 rfl (c6_of _ _ _ (tn k) 0 em rfl (by omega)) cw_X6_72 (by decide) rfl rfl ⟨by decide, by decide⟩ ⟨by decide, by decide⟩ (Nat.le_of_ble_eq_true rfl) ?_
                    refine q_goto 109 dX6_lay_105 rfl ?_
                    refine q_iast 110 dX6_lay_109 rfl (by decide) (by decide) el (show tn l < 5 by omega) ?_
                    refine q_aload_n 111 dX6_lay_110 rfl rfl ?_
                    refine q_getR 114 dX6_lay_111 rfl fl_X6_34 (by decide) rfl rfl ?_
                    refine q_iload_n 115 dX6_lay_114 rfl rfl ?_
                    refine q_iload_n 116 dX6_lay_115 rfl rfl ?_
                    refine q_iconst (v := 1) 117 dX6_lay_116 rfl rfl ?_
                    refine q_icmp_ne 128 120 dX6_lay_117 rfl rfl (fun h_117 => ?_) (fun h_117 => ?_)
                    · skip
                      refine q_iconst (v := 0) 129 dX6_lay_128 rfl rfl ?_
                      refine q_iast 130 dX6_lay_129 rfl (by decide) (by decide) el (show tn l < 5 by omega) ?_
                      refine q_iload_n 131 dX6_lay_130 rfl rfl ?_
                      refine q_iconst (v := 2) 132 dX6_lay_131 rfl rfl ?_
                      refine q_icmp_ne 187 135 dX6_lay_132 rfl rfl (fun h_132 => ?_) (fun h_132 => ?_)
                      · skip
                        refine q_iload 189 dX6_lay_187 rfl rfl ?_
                        refine q_iret dX6_lay_189 ?_
                        have hC : cLay (M 31 0) l t k := ⟨h_45, by first | exact Or.inl h_1 | exact Or.inr (Or.inl h_6) | exact Or.inr (Or.inr (Or.inl ⟨h_11, h_19⟩)) | exact Or.inr (Or.inr (Or.inr ⟨h_24, h_31⟩))⟩
                        first | exact absurd h_58 h_132 | exact absurd h_96 h_117 | exact absurd h_117 h_96 | (have d1 : ¬ (t = 2 ∧ M 34 0 (tn k) < 0) := (fun q => by first | exact h_58 q.1 | exact absurd h_67 (Int32.not_le.mpr q.2)); unfold aLay mLay; rw [if_pos hC, if_neg d1, if_pos ⟨hC, d1⟩, if_neg h_132]; unfold mLay0; first | (have hq := h_96; rw [if_pos hq, if_pos hq]; exact ⟨rfl, rfl⟩) | (have hq := h_96; rw [if_neg hq, if_neg hq]; exact ⟨rfl, rfl⟩))
                      · skip
                        have hK : isS k := by first | exact hK | exact absurd h_132 h_58
                        obtain ⟨ek, lk⟩ := rg_tn hK (n := 3) rfl
                        refine q_aload_n 136 dX6_lay_135 rfl rfl ?_
                        refine q_getR 139 dX6_lay_136 rfl fl_X6_37 (by decide) rfl rfl ?_
                        refine q_iload_n 140 dX6_lay_139 rfl rfl ?_
                        refine q_aload_n 141 dX6_lay_140 rfl rfl ?_
                        refine q_getR 144 dX6_lay_141 rfl fl_X6_22 (by decide) rfl rfl ?_
                        refine q_iload_n 145 dX6_lay_144 rfl rfl ?_
                        refine q_iald 146 dX6_lay_145 rfl (by decide) (by decide) ek (show tn k < 4 by omega) ?_
                        refine q_iast 147 dX6_lay_146 rfl (by decide) (by decide) el (show tn l < 5 by omega) ?_
                        refine q_iconst (v := 0) 148 dX6_lay_147 rfl rfl ?_
                        refine q_istore 150 dX6_lay_148 rfl (by decide) rfl ?_
                        have hC : cLay (M 31 0) l t k := ⟨h_45, by first | exact Or.inl h_1 | exact Or.inr (Or.inl h_6) | exact Or.inr (Or.inr (Or.inl ⟨h_11, h_19⟩)) | exact Or.inr (Or.inr (Or.inr ⟨h_24, h_31⟩))⟩
                        first
                        | exact absurd (h_132.symm.trans h_96) (by decide)
                        | exact absurd h_132 h_58
                        | exact absurd (h_132.symm.trans h_117) (by decide)
                        | (have d1 : ¬ (t = 2 ∧ M 34 0 (tn k) < 0) := fun q => absurd h_67 (Int32.not_le.mpr q.2); have ea : aLay M l t k = M 37 0 (tn l) := (by unfold aLay; rw [if_pos hC, if_neg d1]); have em : mLay M l t k = putA (putA (mLay0 M l t k) 40 0 (upd (M 40 0) (tn l) (M 35 0 (tn k)))) 41 0 (va_cpy (M 36 0) (M 41 0) (24 * tn k) (24 * tn l) 24) := (by unfold mLay; rw [if_pos ⟨hC, d1⟩, if_pos h_132]); rw [ea, em]; unfold mLay0; rw [if_neg h_96, if_neg h_96]; refine q_eqM ?_ (TR_post (q_fg (l6_lay (putA (putA (putA (putA M 37 0 (upd (M 37 0) (tn l) t)) 38 0 (upd (M 38 0) (tn l) k)) 39 0 (upd (M 39 0) (tn l) 0)) 40 0 (upd (M 40 0) (tn l) (M 35 0 (tn k)))) l t k _ _ (tn l) (tn k) el ek (by omega) (by omega) 25 0 0 (by omega) (by omega) rfl) ⟨rfl, rfl, rfl, rfl, rfl, rfl, rfl, trivial⟩) (by rintro _ _ ⟨rfl, rfl⟩; exact ⟨rfl, rfl⟩)); rw [cpy_0]; exact (putA_id _ 41 0).symm)
                    · skip
                      have hM : isM (M 31 0) k := by first | exact hM | exact absurd h_117 h_96
                      obtain ⟨em, lm⟩ := isM_nat hn hn10 hM
                      refine q_aload_n 121 dX6_lay_120 rfl rfl ?_
                      refine q_iload_n 122 dX6_lay_121 rfl rfl ?_
                      refine q_callVt 125 dX6_lay_122 rfl (c6_worth _ _ (M 31 0) (by rfl) (tn k) em (by omega)) cw_X6_130 (by decide) rfl rfl ⟨by decide, by decide⟩ ⟨by decide, by decide⟩ (Nat.le_of_ble_eq_true rfl) ?_
                      refine q_goto 129 dX6_lay_125 rfl ?_
                      refine q_iast 130 dX6_lay_129 rfl (by decide) (by decide) el (show tn l < 5 by omega) ?_
                      refine q_iload_n 131 dX6_lay_130 rfl rfl ?_
                      refine q_iconst (v := 2) 132 dX6_lay_131 rfl rfl ?_
                      refine q_icmp_ne 187 135 dX6_lay_132 rfl rfl (fun h_132 => ?_) (fun h_132 => ?_)
                      · skip
                        refine q_iload 189 dX6_lay_187 rfl rfl ?_
                        refine q_iret dX6_lay_189 ?_
                        have hC : cLay (M 31 0) l t k := ⟨h_45, by first | exact Or.inl h_1 | exact Or.inr (Or.inl h_6) | exact Or.inr (Or.inr (Or.inl ⟨h_11, h_19⟩)) | exact Or.inr (Or.inr (Or.inr ⟨h_24, h_31⟩))⟩
                        first | exact absurd h_58 h_132 | exact absurd h_96 h_117 | exact absurd h_117 h_96 | (have d1 : ¬ (t = 2 ∧ M 34 0 (tn k) < 0) := (fun q => by first | exact h_58 q.1 | exact absurd h_67 (Int32.not_le.mpr q.2)); unfold aLay mLay; rw [if_pos hC, if_neg d1, if_pos ⟨hC, d1⟩, if_neg h_132]; unfold mLay0; first | (have hq := h_96; rw [if_pos hq, if_pos hq]; exact ⟨rfl, rfl⟩) | (have hq := h_96; rw [if_neg hq, if_neg hq]; exact ⟨rfl, rfl⟩))
                      · skip
                        have hK : isS k := by first | exact hK | exact absurd h_132 h_58
                        obtain ⟨ek, lk⟩ := rg_tn hK (n := 3) rfl
                        refine q_aload_n 136 dX6_lay_135 rfl rfl ?_
                        refine q_getR 139 dX6_lay_136 rfl fl_X6_37 (by decide) rfl rfl ?_
                        refine q_iload_n 140 dX6_lay_139 rfl rfl ?_
                        refine q_aload_n 141 dX6_lay_140 rfl rfl ?_
                        refine q_getR 144 dX6_lay_141 rfl fl_X6_22 (by decide) rfl rfl ?_
                        refine q_iload_n 145 dX6_lay_144 rfl rfl ?_
                        refine q_iald 146 dX6_lay_145 rfl (by decide) (by decide) ek (show tn k < 4 by omega) ?_
                        refine q_iast 147 dX6_lay_146 rfl (by decide) (by decide) el (show tn l < 5 by omega) ?_
                        refine q_iconst (v := 0) 148 dX6_lay_147 rfl rfl ?_
                        refine q_istore 150 dX6_lay_148 rfl (by decide) rfl ?_
                        have hC : cLay (M 31 0) l t k := ⟨h_45, by first | exact Or.inl h_1 | exact Or.inr (Or.inl h_6) | exact Or.inr (Or.inr (Or.inl ⟨h_11, h_19⟩)) | exact Or.inr (Or.inr (Or.inr ⟨h_24, h_31⟩))⟩
                        first
                        | exact absurd (h_132.symm.trans h_96) (by decide)
                        | exact absurd h_132 h_58
                        | exact absurd (h_132.symm.trans h_117) (by decide)
                        | (have d1 : ¬ (t = 2 ∧ M 34 0 (tn k) < 0) := fun q => absurd h_67 (Int32.not_le.mpr q.2); have ea : aLay M l t k = M 37 0 (tn l) := (by unfold aLay; rw [if_pos hC, if_neg d1]); have em : mLay M l t k = putA (putA (mLay0 M l t k) 40 0 (upd (M 40 0) (tn l) (M 35 0 (tn k)))) 41 0 (va_cpy (M 36 0) (M 41 0) (24 * tn k) (24 * tn l) 24) := (by unfold mLay; rw [if_pos ⟨hC, d1⟩, if_pos h_132]); rw [ea, em]; unfold mLay0; rw [if_neg h_96, if_neg h_96]; refine q_eqM ?_ (TR_post (q_fg (l6_lay (putA (putA (putA (putA M 37 0 (upd (M 37 0) (tn l) t)) 38 0 (upd (M 38 0) (tn l) k)) 39 0 (upd (M 39 0) (tn l) 0)) 40 0 (upd (M 40 0) (tn l) (M 35 0 (tn k)))) l t k _ _ (tn l) (tn k) el ek (by omega) (by omega) 25 0 0 (by omega) (by omega) rfl) ⟨rfl, rfl, rfl, rfl, rfl, rfl, rfl, trivial⟩) (by rintro _ _ ⟨rfl, rfl⟩; exact ⟨rfl, rfl⟩)); rw [cpy_0]; exact (putA_id _ 41 0).symm)
                · skip
                  refine q_ldc_w 73 dX6_lay_70 rfl cs_X6_319 ?_
                  refine q_iret dX6_lay_73 ?_
                  have hC : cLay (M 31 0) l t k := ⟨h_45, by first | exact Or.inl h_1 | exact Or.inr (Or.inl h_6) | exact Or.inr (Or.inr (Or.inl ⟨h_11, h_19⟩)) | exact Or.inr (Or.inr (Or.inr ⟨h_24, h_31⟩))⟩
                  have d2 : t = 2 ∧ M 34 0 (tn k) < 0 := ⟨h_58, Int32.not_le.mp h_67⟩
                  unfold aLay mLay
                  rw [if_pos hC, if_pos d2, if_neg (fun q => q.2 d2)]
                  exact ⟨rfl, rfl⟩
      · skip
        refine q_aload_n 15 dX6_lay_14 rfl rfl ?_
        refine q_iload_n 16 dX6_lay_15 rfl rfl ?_
        refine q_callVt 19 dX6_lay_16 rfl (c6_isMark _ _) cw_X6_116 (by decide) rfl rfl ⟨by decide, by decide⟩ ⟨by decide, by decide⟩ (Nat.le_of_ble_eq_true rfl) ?_
        refine q_if_ne 34 22 dX6_lay_19 rfl rfl (fun h_19 => ?_) (fun h_19 => ?_)
        · skip
          simp only [bI_0, Classical.not_not] at h_19
          refine q_iconst (v := 1) 35 dX6_lay_34 rfl rfl ?_
          refine q_goto 39 dX6_lay_35 rfl ?_
          refine q_istore 41 dX6_lay_39 rfl (by decide) rfl ?_
          refine q_iload_n 42 dX6_lay_41 rfl rfl ?_
          refine q_callSt 45 dX6_lay_42 rfl (c6_isSlot _ _) cw_X6_330 rfl rfl ⟨by decide, by decide⟩ ⟨by decide, by decide⟩ (Nat.le_of_ble_eq_true rfl) ?_
          refine q_if_eq 53 48 dX6_lay_45 rfl rfl (fun h_45 => ?_) (fun h_45 => ?_)
          · skip
            simp only [bI_0, Classical.not_not] at h_45
            refine q_ldc 55 dX6_lay_53 rfl cs_X6_110 ?_
            refine q_iret dX6_lay_55 ?_
            have hC : ¬ cLay (M 31 0) l t k := by
              rintro ⟨q1, q2⟩
              first | exact h_45 q1 | (rcases q2 with q2 | q2 | q2 | q2; exact h_1 q2; exact h_6 q2; (first | exact h_11 q2.1 | exact h_19 q2.2); (first | exact h_24 q2.1 | exact h_31 q2.2))
            unfold aLay mLay
            rw [if_neg hC, if_neg (fun q => hC q.1)]
            exact ⟨rfl, rfl⟩
          · skip
            simp only [bI_0, Classical.not_not] at h_45
            obtain ⟨el, ll⟩ := rg_tn h_45 (n := 4) rfl
            refine q_iload 50 dX6_lay_48 rfl rfl ?_
            refine q_if_ne 56 53 dX6_lay_50 rfl rfl (fun _ => ?_) (fun h_50 => absurd h_50 (by decide))
            refine q_iload_n 57 dX6_lay_56 rfl rfl ?_
            refine q_iconst (v := 2) 58 dX6_lay_57 rfl rfl ?_
            refine q_icmp_ne 74 61 dX6_lay_58 rfl rfl (fun h_58 => ?_) (fun h_58 => ?_)
            · skip
              refine q_aload_n 75 dX6_lay_74 rfl rfl ?_
              refine q_getR 78 dX6_lay_75 rfl fl_X6_28 (by decide) rfl rfl ?_
              refine q_iload_n 79 dX6_lay_78 rfl rfl ?_
              refine q_iald 80 dX6_lay_79 rfl (by decide) (by decide) el (show tn l < 5 by omega) ?_
              refine q_istore 82 dX6_lay_80 rfl (by decide) rfl ?_
              refine q_aload_n 83 dX6_lay_82 rfl rfl ?_
              refine q_getR 86 dX6_lay_83 rfl fl_X6_28 (by decide) rfl rfl ?_
              refine q_iload_n 87 dX6_lay_86 rfl rfl ?_
              refine q_iload_n 88 dX6_lay_87 rfl rfl ?_
              refine q_iast 89 dX6_lay_88 rfl (by decide) (by decide) el (show tn l < 5 by omega) ?_
              refine q_aload_n 90 dX6_lay_89 rfl rfl ?_
              refine q_getR 93 dX6_lay_90 rfl fl_X6_31 (by decide) rfl rfl ?_
              refine q_iload_n 94 dX6_lay_93 rfl rfl ?_
              refine q_iload_n 95 dX6_lay_94 rfl rfl ?_
              refine q_iconst (v := 1) 96 dX6_lay_95 rfl rfl ?_
              refine q_icmp_ne 108 99 dX6_lay_96 rfl rfl (fun h_96 => ?_) (fun h_96 => ?_)
              · skip
                refine q_iload_n 109 dX6_lay_108 rfl rfl ?_
                refine q_iast 110 dX6_lay_109 rfl (by decide) (by decide) el (show tn l < 5 by omega) ?_
                refine q_aload_n 111 dX6_lay_110 rfl rfl ?_
                refine q_getR 114 dX6_lay_111 rfl fl_X6_34 (by decide) rfl rfl ?_
                refine q_iload_n 115 dX6_lay_114 rfl rfl ?_
                refine q_iload_n 116 dX6_lay_115 rfl rfl ?_
                refine q_iconst (v := 1) 117 dX6_lay_116 rfl rfl ?_
                refine q_icmp_ne 128 120 dX6_lay_117 rfl rfl (fun h_117 => ?_) (fun h_117 => ?_)
                · skip
                  refine q_iconst (v := 0) 129 dX6_lay_128 rfl rfl ?_
                  refine q_iast 130 dX6_lay_129 rfl (by decide) (by decide) el (show tn l < 5 by omega) ?_
                  refine q_iload_n 131 dX6_lay_130 rfl rfl ?_
                  refine q_iconst (v := 2) 132 dX6_lay_131 rfl rfl ?_
                  refine q_icmp_ne 187 135 dX6_lay_132 rfl rfl (fun h_132 => ?_) (fun h_132 => ?_)
                  · skip
                    refine q_iload 189 dX6_lay_187 rfl rfl ?_
                    refine q_iret dX6_lay_189 ?_
                    have hC : cLay (M 31 0) l t k := ⟨h_45, by first | exact Or.inl h_1 | exact Or.inr (Or.inl h_6) | exact Or.inr (Or.inr (Or.inl ⟨h_11, h_19⟩)) | exact Or.inr (Or.inr (Or.inr ⟨h_24, h_31⟩))⟩
                    first | exact absurd h_58 h_132 | exact absurd h_96 h_117 | exact absurd h_117 h_96 | (have d1 : ¬ (t = 2 ∧ M 34 0 (tn k) < 0) := (fun q => by first | exact h_58 q.1 | exact absurd h_67 (Int32.not_le.mpr q.2)); unfold aLay mLay; rw [if_pos hC, if_neg d1, if_pos ⟨hC, d1⟩, if_neg h_132]; unfold mLay0; first | (have hq := h_96; rw [if_pos hq, if_pos hq]; exact ⟨rfl, rfl⟩) | (have hq := h_96; rw [if_neg hq, if_neg hq]; exact ⟨rfl, rfl⟩))
                  · skip
                    have hK : isS k := by first | exact hK | exact absurd h_132 h_58
                    obtain ⟨ek, lk⟩ := rg_tn hK (n := 3) rfl
                    refine q_aload_n 136 dX6_lay_135 rfl rfl ?_
                    refine q_getR 139 dX6_lay_136 rfl fl_X6_37 (by decide) rfl rfl ?_
                    refine q_iload_n 140 dX6_lay_139 rfl rfl ?_
                    refine q_aload_n 141 dX6_lay_140 rfl rfl ?_
                    refine q_getR 144 dX6_lay_141 rfl fl_X6_22 (by decide) rfl rfl ?_
                    refine q_iload_n 145 dX6_lay_144 rfl rfl ?_
                    refine q_iald 146 dX6_lay_145 rfl (by decide) (by decide) ek (show tn k < 4 by omega) ?_
                    refine q_iast 147 dX6_lay_146 rfl (by decide) (by decide) el (show tn l < 5 by omega) ?_
                    refine q_iconst (v := 0) 148 dX6_lay_147 rfl rfl ?_
                    refine q_istore 150 dX6_lay_148 rfl (by decide) rfl ?_
                    have hC : cLay (M 31 0) l t k := ⟨h_45, by first | exact Or.inl h_1 | exact Or.inr (Or.inl h_6) | exact Or.inr (Or.inr (Or.inl ⟨h_11, h_19⟩)) | exact Or.inr (Or.inr (Or.inr ⟨h_24, h_31⟩))⟩
                    first
                    | exact absurd (h_132.symm.trans h_96) (by decide)
                    | exact absurd h_132 h_58
                    | exact absurd (h_132.symm.trans h_117) (by decide)
                    | (have d1 : ¬ (t = 2 ∧ M 34 0 (tn k) < 0) := fun q => absurd h_67 (Int32.not_le.mpr q.2); have ea : aLay M l t k = M 37 0 (tn l) := (by unfold aLay; rw [if_pos hC, if_neg d1]); have em : mLay M l t k = putA (putA (mLay0 M l t k) 40 0 (upd (M 40 0) (tn l) (M 35 0 (tn k)))) 41 0 (va_cpy (M 36 0) (M 41 0) (24 * tn k) (24 * tn l) 24) := (by unfold mLay; rw [if_pos ⟨hC, d1⟩, if_pos h_132]); rw [ea, em]; unfold mLay0; rw [if_neg h_96, if_neg h_96]; refine q_eqM ?_ (TR_post (q_fg (l6_lay (putA (putA (putA (putA M 37 0 (upd (M 37 0) (tn l) t)) 38 0 (upd (M 38 0) (tn l) k)) 39 0 (upd (M 39 0) (tn l) 0)) 40 0 (upd (M 40 0) (tn l) (M 35 0 (tn k)))) l t k _ _ (tn l) (tn k) el ek (by omega) (by omega) 25 0 0 (by omega) (by omega) rfl) ⟨rfl, rfl, rfl, rfl, rfl, rfl, rfl, trivial⟩) (by rintro _ _ ⟨rfl, rfl⟩; exact ⟨rfl, rfl⟩)); rw [cpy_0]; exact (putA_id _ 41 0).symm)
                · skip
                  have hM : isM (M 31 0) k := by first | exact hM | exact absurd h_117 h_96
                  obtain ⟨em, lm⟩ := isM_nat hn hn10 hM
                  refine q_aload_n 121 dX6_lay_120 rfl rfl ?_
                  refine q_iload_n 122 dX6_lay_121 rfl rfl ?_
                  refine q_callVt 125 dX6_lay_122 rfl (c6_worth _ _ (M 31 0) (by rfl) (tn k) em (by omega)) cw_X6_130 (by decide) rfl rfl ⟨by decide, by decide⟩ ⟨by decide, by decide⟩ (Nat.le_of_ble_eq_true rfl) ?_
                  refine q_goto 129 dX6_lay_125 rfl ?_
                  refine q_iast 130 dX6_lay_129 rfl (by decide) (by decide) el (show tn l < 5 by omega) ?_
                  refine q_iload_n 131 dX6_lay_130 rfl rfl ?_
                  refine q_iconst (v := 2) 132 dX6_lay_131 rfl rfl ?_
                  refine q_icmp_ne 187 135 dX6_lay_132 rfl rfl (fun h_132 => ?_) (fun h_132 => ?_)
                  · skip
                    refine q_iload 189 dX6_lay_187 rfl rfl ?_
                    refine q_iret dX6_lay_189 ?_
                    have hC : cLay (M 31 0) l t k := ⟨h_45, by first | exact Or.inl h_1 | exact Or.inr (Or.inl h_6) | exact Or.inr (Or.inr (Or.inl ⟨h_11, h_19⟩)) | exact Or.inr (Or.inr (Or.inr ⟨h_24, h_31⟩))⟩
                    first | exact absurd h_58 h_132 | exact absurd h_96 h_117 | exact absurd h_117 h_96 | (have d1 : ¬ (t = 2 ∧ M 34 0 (tn k) < 0) := (fun q => by first | exact h_58 q.1 | exact absurd h_67 (Int32.not_le.mpr q.2)); unfold aLay mLay; rw [if_pos hC, if_neg d1, if_pos ⟨hC, d1⟩, if_neg h_132]; unfold mLay0; first | (have hq := h_96; rw [if_pos hq, if_pos hq]; exact ⟨rfl, rfl⟩) | (have hq := h_96; rw [if_neg hq, if_neg hq]; exact ⟨rfl, rfl⟩))
                  · skip
                    have hK : isS k := by first | exact hK | exact absurd h_132 h_58
                    obtain ⟨ek, lk⟩ := rg_tn hK (n := 3) rfl
                    refine q_aload_n 136 dX6_lay_135 rfl rfl ?_
                    refine q_getR 139 dX6_lay_136 rfl fl_X6_37 (by decide) rfl rfl ?_
                    refine q_iload_n 140 dX6_lay_139 rfl rfl ?_
                    refine q_aload_n 141 dX6_lay_140 rfl rfl ?_
                    refine q_getR 144 dX6_lay_141 rfl fl_X6_22 (by decide) rfl rfl ?_
                    refine q_iload_n 145 dX6_lay_144 rfl rfl ?_
                    refine q_iald 146 dX6_lay_145 rfl (by decide) (by decide) ek (show tn k < 4 by omega) ?_
                    refine q_iast 147 dX6_lay_146 rfl (by decide) (by decide) el (show tn l < 5 by omega) ?_
                    refine q_iconst (v := 0) 148 dX6_lay_147 rfl rfl ?_
                    refine q_istore 150 dX6_lay_148 rfl (by decide) rfl ?_
                    have hC : cLay (M 31 0) l t k := ⟨h_45, by first | exact Or.inl h_1 | exact Or.inr (Or.inl h_6) | exact Or.inr (Or.inr (Or.inl ⟨h_11, h_19⟩)) | exact Or.inr (Or.inr (Or.inr ⟨h_24, h_31⟩))⟩
                    first
                    | exact absurd (h_132.symm.trans h_96) (by decide)
                    | exact absurd h_132 h_58
                    | exact absurd (h_132.symm.trans h_117) (by decide)
                    | (have d1 : ¬ (t = 2 ∧ M 34 0 (tn k) < 0) := fun q => absurd h_67 (Int32.not_le.mpr q.2); have ea : aLay M l t k = M 37 0 (tn l) := (by unfold aLay; rw [if_pos hC, if_neg d1]); have em : mLay M l t k = putA (putA (mLay0 M l t k) 40 0 (upd (M 40 0) (tn l) (M 35 0 (tn k)))) 41 0 (va_cpy (M 36 0) (M 41 0) (24 * tn k) (24 * tn l) 24) := (by unfold mLay; rw [if_pos ⟨hC, d1⟩, if_pos h_132]); rw [ea, em]; unfold mLay0; rw [if_neg h_96, if_neg h_96]; refine q_eqM ?_ (TR_post (q_fg (l6_lay (putA (putA (putA (putA M 37 0 (upd (M 37 0) (tn l) t)) 38 0 (upd (M 38 0) (tn l) k)) 39 0 (upd (M 39 0) (tn l) 0)) 40 0 (upd (M 40 0) (tn l) (M 35 0 (tn k)))) l t k _ _ (tn l) (tn k) el ek (by omega) (by omega) 25 0 0 (by omega) (by omega) rfl) ⟨rfl, rfl, rfl, rfl, rfl, rfl, rfl, trivial⟩) (by rintro _ _ ⟨rfl, rfl⟩; exact ⟨rfl, rfl⟩)); rw [cpy_0]; exact (putA_id _ 41 0).symm)
              · skip
                have hM : isM (M 31 0) k := by first | exact h_19 | exact absurd (h_1.symm.trans h_96) (by decide) | exact absurd (h_6.symm.trans h_96) (by decide) | exact absurd (h_24.symm.trans h_96) (by decide)
                obtain ⟨em, lm⟩ := isM_nat hn hn10 hM
                refine q_aload_n 100 dX6_lay_99 rfl rfl ?_
                refine q_iload_n 101 dX6_lay_100 rfl rfl ?_
                refine q_iconst (v := 0) 102 dX6_lay_101 rfl rfl ?_
                refine q_callVt 105 dX6_lay_102 rfl (c6_of _ _ _ (tn k) 0 em rfl (by omega)) cw_X6_72 (by decide) rfl rfl ⟨by decide, by decide⟩ ⟨by decide, by decide⟩ (Nat.le_of_ble_eq_true rfl) ?_
                refine q_goto 109 dX6_lay_105 rfl ?_
                refine q_iast 110 dX6_lay_109 rfl (by decide) (by decide) el (show tn l < 5 by omega) ?_
                refine q_aload_n 111 dX6_lay_110 rfl rfl ?_
                refine q_getR 114 dX6_lay_111 rfl fl_X6_34 (by decide) rfl rfl ?_
                refine q_iload_n 115 dX6_lay_114 rfl rfl ?_
                refine q_iload_n 116 dX6_lay_115 rfl rfl ?_
                refine q_iconst (v := 1) 117 dX6_lay_116 rfl rfl ?_
                refine q_icmp_ne 128 120 dX6_lay_117 rfl rfl (fun h_117 => ?_) (fun h_117 => ?_)
                · skip
                  refine q_iconst (v := 0) 129 dX6_lay_128 rfl rfl ?_
                  refine q_iast 130 dX6_lay_129 rfl (by decide) (by decide) el (show tn l < 5 by omega) ?_
                  refine q_iload_n 131 dX6_lay_130 rfl rfl ?_
                  refine q_iconst (v := 2) 132 dX6_lay_131 rfl rfl ?_
                  refine q_icmp_ne 187 135 dX6_lay_132 rfl rfl (fun h_132 => ?_) (fun h_132 => ?_)
                  · skip
                    refine q_iload 189 dX6_lay_187 rfl rfl ?_
                    refine q_iret dX6_lay_189 ?_
                    have hC : cLay (M 31 0) l t k := ⟨h_45, by first | exact Or.inl h_1 | exact Or.inr (Or.inl h_6) | exact Or.inr (Or.inr (Or.inl ⟨h_11, h_19⟩)) | exact Or.inr (Or.inr (Or.inr ⟨h_24, h_31⟩))⟩
                    first | exact absurd h_58 h_132 | exact absurd h_96 h_117 | exact absurd h_117 h_96 | (have d1 : ¬ (t = 2 ∧ M 34 0 (tn k) < 0) := (fun q => by first | exact h_58 q.1 | exact absurd h_67 (Int32.not_le.mpr q.2)); unfold aLay mLay; rw [if_pos hC, if_neg d1, if_pos ⟨hC, d1⟩, if_neg h_132]; unfold mLay0; first | (have hq := h_96; rw [if_pos hq, if_pos hq]; exact ⟨rfl, rfl⟩) | (have hq := h_96; rw [if_neg hq, if_neg hq]; exact ⟨rfl, rfl⟩))
                  · skip
                    have hK : isS k := by first | exact hK | exact absurd h_132 h_58
                    obtain ⟨ek, lk⟩ := rg_tn hK (n := 3) rfl
                    refine q_aload_n 136 dX6_lay_135 rfl rfl ?_
                    refine q_getR 139 dX6_lay_136 rfl fl_X6_37 (by decide) rfl rfl ?_
                    refine q_iload_n 140 dX6_lay_139 rfl rfl ?_
                    refine q_aload_n 141 dX6_lay_140 rfl rfl ?_
                    refine q_getR 144 dX6_lay_141 rfl fl_X6_22 (by decide) rfl rfl ?_
                    refine q_iload_n 145 dX6_lay_144 rfl rfl ?_
                    refine q_iald 146 dX6_lay_145 rfl (by decide) (by decide) ek (show tn k < 4 by omega) ?_
                    refine q_iast 147 dX6_lay_146 rfl (by decide) (by decide) el (show tn l < 5 by omega) ?_
                    refine q_iconst (v := 0) 148 dX6_lay_147 rfl rfl ?_
                    refine q_istore 150 dX6_lay_148 rfl (by decide) rfl ?_
                    have hC : cLay (M 31 0) l t k := ⟨h_45, by first | exact Or.inl h_1 | exact Or.inr (Or.inl h_6) | exact Or.inr (Or.inr (Or.inl ⟨h_11, h_19⟩)) | exact Or.inr (Or.inr (Or.inr ⟨h_24, h_31⟩))⟩
                    first
                    | exact absurd (h_132.symm.trans h_96) (by decide)
                    | exact absurd h_132 h_58
                    | exact absurd (h_132.symm.trans h_117) (by decide)
                    | (have d1 : ¬ (t = 2 ∧ M 34 0 (tn k) < 0) := fun q => absurd h_67 (Int32.not_le.mpr q.2); have ea : aLay M l t k = M 37 0 (tn l) := (by unfold aLay; rw [if_pos hC, if_neg d1]); have em : mLay M l t k = putA (putA (mLay0 M l t k) 40 0 (upd (M 40 0) (tn l) (M 35 0 (tn k)))) 41 0 (va_cpy (M 36 0) (M 41 0) (24 * tn k) (24 * tn l) 24) := (by unfold mLay; rw [if_pos ⟨hC, d1⟩, if_pos h_132]); rw [ea, em]; unfold mLay0; rw [if_neg h_96, if_neg h_96]; refine q_eqM ?_ (TR_post (q_fg (l6_lay (putA (putA (putA (putA M 37 0 (upd (M 37 0) (tn l) t)) 38 0 (upd (M 38 0) (tn l) k)) 39 0 (upd (M 39 0) (tn l) 0)) 40 0 (upd (M 40 0) (tn l) (M 35 0 (tn k)))) l t k _ _ (tn l) (tn k) el ek (by omega) (by omega) 25 0 0 (by omega) (by omega) rfl) ⟨rfl, rfl, rfl, rfl, rfl, rfl, rfl, trivial⟩) (by rintro _ _ ⟨rfl, rfl⟩; exact ⟨rfl, rfl⟩)); rw [cpy_0]; exact (putA_id _ 41 0).symm)
                · skip
                  have hM : isM (M 31 0) k := by first | exact hM | exact absurd h_117 h_96
                  obtain ⟨em, lm⟩ := isM_nat hn hn10 hM
                  refine q_aload_n 121 dX6_lay_120 rfl rfl ?_
                  refine q_iload_n 122 dX6_lay_121 rfl rfl ?_
                  refine q_callVt 125 dX6_lay_122 rfl (c6_worth _ _ (M 31 0) (by rfl) (tn k) em (by omega)) cw_X6_130 (by decide) rfl rfl ⟨by decide, by decide⟩ ⟨by decide, by decide⟩ (Nat.le_of_ble_eq_true rfl) ?_
                  refine q_goto 129 dX6_lay_125 rfl ?_
                  refine q_iast 130 dX6_lay_129 rfl (by decide) (by decide) el (show tn l < 5 by omega) ?_
                  refine q_iload_n 131 dX6_lay_130 rfl rfl ?_
                  refine q_iconst (v := 2) 132 dX6_lay_131 rfl rfl ?_
                  refine q_icmp_ne 187 135 dX6_lay_132 rfl rfl (fun h_132 => ?_) (fun h_132 => ?_)
                  · skip
                    refine q_iload 189 dX6_lay_187 rfl rfl ?_
                    refine q_iret dX6_lay_189 ?_
                    have hC : cLay (M 31 0) l t k := ⟨h_45, by first | exact Or.inl h_1 | exact Or.inr (Or.inl h_6) | exact Or.inr (Or.inr (Or.inl ⟨h_11, h_19⟩)) | exact Or.inr (Or.inr (Or.inr ⟨h_24, h_31⟩))⟩
                    first | exact absurd h_58 h_132 | exact absurd h_96 h_117 | exact absurd h_117 h_96 | (have d1 : ¬ (t = 2 ∧ M 34 0 (tn k) < 0) := (fun q => by first | exact h_58 q.1 | exact absurd h_67 (Int32.not_le.mpr q.2)); unfold aLay mLay; rw [if_pos hC, if_neg d1, if_pos ⟨hC, d1⟩, if_neg h_132]; unfold mLay0; first | (have hq := h_96; rw [if_pos hq, if_pos hq]; exact ⟨rfl, rfl⟩) | (have hq := h_96; rw [if_neg hq, if_neg hq]; exact ⟨rfl, rfl⟩))
                  · skip
                    have hK : isS k := by first | exact hK | exact absurd h_132 h_58
                    obtain ⟨ek, lk⟩ := rg_tn hK (n := 3) rfl
                    refine q_aload_n 136 dX6_lay_135 rfl rfl ?_
                    refine q_getR 139 dX6_lay_136 rfl fl_X6_37 (by decide) rfl rfl ?_
                    refine q_iload_n 140 dX6_lay_139 rfl rfl ?_
                    refine q_aload_n 141 dX6_lay_140 rfl rfl ?_
                    refine q_getR 144 dX6_lay_141 rfl fl_X6_22 (by decide) rfl rfl ?_
                    refine q_iload_n 145 dX6_lay_144 rfl rfl ?_
                    refine q_iald 146 dX6_lay_145 rfl (by decide) (by decide) ek (show tn k < 4 by omega) ?_
                    refine q_iast 147 dX6_lay_146 rfl (by decide) (by decide) el (show tn l < 5 by omega) ?_
                    refine q_iconst (v := 0) 148 dX6_lay_147 rfl rfl ?_
                    refine q_istore 150 dX6_lay_148 rfl (by decide) rfl ?_
                    have hC : cLay (M 31 0) l t k := ⟨h_45, by first | exact Or.inl h_1 | exact Or.inr (Or.inl h_6) | exact Or.inr (Or.inr (Or.inl ⟨h_11, h_19⟩)) | exact Or.inr (Or.inr (Or.inr ⟨h_24, h_31⟩))⟩
                    first
                    | exact absurd (h_132.symm.trans h_96) (by decide)
                    | exact absurd h_132 h_58
                    | exact absurd (h_132.symm.trans h_117) (by decide)
                    | (have d1 : ¬ (t = 2 ∧ M 34 0 (tn k) < 0) := fun q => absurd h_67 (Int32.not_le.mpr q.2); have ea : aLay M l t k = M 37 0 (tn l) := (by unfold aLay; rw [if_pos hC, if_neg d1]); have em : mLay M l t k = putA (putA (mLay0 M l t k) 40 0 (upd (M 40 0) (tn l) (M 35 0 (tn k)))) 41 0 (va_cpy (M 36 0) (M 41 0) (24 * tn k) (24 * tn l) 24) := (by unfold mLay; rw [if_pos ⟨hC, d1⟩, if_pos h_132]); rw [ea, em]; unfold mLay0; rw [if_neg h_96, if_neg h_96]; refine q_eqM ?_ (TR_post (q_fg (l6_lay (putA (putA (putA (putA M 37 0 (upd (M 37 0) (tn l) t)) 38 0 (upd (M 38 0) (tn l) k)) 39 0 (upd (M 39 0) (tn l) 0)) 40 0 (upd (M 40 0) (tn l) (M 35 0 (tn k)))) l t k _ _ (tn l) (tn k) el ek (by omega) (by omega) 25 0 0 (by omega) (by omega) rfl) ⟨rfl, rfl, rfl, rfl, rfl, rfl, rfl, trivial⟩) (by rintro _ _ ⟨rfl, rfl⟩; exact ⟨rfl, rfl⟩)); rw [cpy_0]; exact (putA_id _ 41 0).symm)
            · skip
              have hK : isS k := by first | exact h_31 | exact absurd (h_1.symm.trans h_58) (by decide) | exact absurd (h_6.symm.trans h_58) (by decide) | exact absurd (h_11.symm.trans h_58) (by decide)
              obtain ⟨ek, lk⟩ := rg_tn hK (n := 3) rfl
              refine q_aload_n 62 dX6_lay_61 rfl rfl ?_
              refine q_getR 65 dX6_lay_62 rfl fl_X6_19 (by decide) rfl rfl ?_
              refine q_iload_n 66 dX6_lay_65 rfl rfl ?_
              refine q_iald 67 dX6_lay_66 rfl (by decide) (by decide) ek (show tn k < 4 by omega) ?_
              refine q_if_ge 74 70 dX6_lay_67 rfl rfl (fun h_67 => ?_) (fun h_67 => ?_)
              · skip
                refine q_aload_n 75 dX6_lay_74 rfl rfl ?_
                refine q_getR 78 dX6_lay_75 rfl fl_X6_28 (by decide) rfl rfl ?_
                refine q_iload_n 79 dX6_lay_78 rfl rfl ?_
                refine q_iald 80 dX6_lay_79 rfl (by decide) (by decide) el (show tn l < 5 by omega) ?_
                refine q_istore 82 dX6_lay_80 rfl (by decide) rfl ?_
                refine q_aload_n 83 dX6_lay_82 rfl rfl ?_
                refine q_getR 86 dX6_lay_83 rfl fl_X6_28 (by decide) rfl rfl ?_
                refine q_iload_n 87 dX6_lay_86 rfl rfl ?_
                refine q_iload_n 88 dX6_lay_87 rfl rfl ?_
                refine q_iast 89 dX6_lay_88 rfl (by decide) (by decide) el (show tn l < 5 by omega) ?_
                refine q_aload_n 90 dX6_lay_89 rfl rfl ?_
                refine q_getR 93 dX6_lay_90 rfl fl_X6_31 (by decide) rfl rfl ?_
                refine q_iload_n 94 dX6_lay_93 rfl rfl ?_
                refine q_iload_n 95 dX6_lay_94 rfl rfl ?_
                refine q_iconst (v := 1) 96 dX6_lay_95 rfl rfl ?_
                refine q_icmp_ne 108 99 dX6_lay_96 rfl rfl (fun h_96 => ?_) (fun h_96 => ?_)
                · skip
                  refine q_iload_n 109 dX6_lay_108 rfl rfl ?_
                  refine q_iast 110 dX6_lay_109 rfl (by decide) (by decide) el (show tn l < 5 by omega) ?_
                  refine q_aload_n 111 dX6_lay_110 rfl rfl ?_
                  refine q_getR 114 dX6_lay_111 rfl fl_X6_34 (by decide) rfl rfl ?_
                  refine q_iload_n 115 dX6_lay_114 rfl rfl ?_
                  refine q_iload_n 116 dX6_lay_115 rfl rfl ?_
                  refine q_iconst (v := 1) 117 dX6_lay_116 rfl rfl ?_
                  refine q_icmp_ne 128 120 dX6_lay_117 rfl rfl (fun h_117 => ?_) (fun h_117 => ?_)
                  · skip
                    refine q_iconst (v := 0) 129 dX6_lay_128 rfl rfl ?_
                    refine q_iast 130 dX6_lay_129 rfl (by decide) (by decide) el (show tn l < 5 by omega) ?_
                    refine q_iload_n 131 dX6_lay_130 rfl rfl ?_
                    refine q_iconst (v := 2) 132 dX6_lay_131 rfl rfl ?_
                    refine q_icmp_ne 187 135 dX6_lay_132 rfl rfl (fun h_132 => ?_) (fun h_132 => ?_)
                    · skip
                      refine q_iload 189 dX6_lay_187 rfl rfl ?_
                      refine q_iret dX6_lay_189 ?_
                      have hC : cLay (M 31 0) l t k := ⟨h_45, by first | exact Or.inl h_1 | exact Or.inr (Or.inl h_6) | exact Or.inr (Or.inr (Or.inl ⟨h_11, h_19⟩)) | exact Or.inr (Or.inr (Or.inr ⟨h_24, h_31⟩))⟩
                      first | exact absurd h_58 h_132 | exact absurd h_96 h_117 | exact absurd h_117 h_96 | (have d1 : ¬ (t = 2 ∧ M 34 0 (tn k) < 0) := (fun q => by first | exact h_58 q.1 | exact absurd h_67 (Int32.not_le.mpr q.2)); unfold aLay mLay; rw [if_pos hC, if_neg d1, if_pos ⟨hC, d1⟩, if_neg h_132]; unfold mLay0; first | (have hq := h_96; rw [if_pos hq, if_pos hq]; exact ⟨rfl, rfl⟩) | (have hq := h_96; rw [if_neg hq, if_neg hq]; exact ⟨rfl, rfl⟩))
                    · skip
                      have hK : isS k := by first | exact hK | exact absurd h_132 h_58
                      obtain ⟨ek, lk⟩ := rg_tn hK (n := 3) rfl
                      refine q_aload_n 136 dX6_lay_135 rfl rfl ?_
                      refine q_getR 139 dX6_lay_136 rfl fl_X6_37 (by decide) rfl rfl ?_
                      refine q_iload_n 140 dX6_lay_139 rfl rfl ?_
                      refine q_aload_n 141 dX6_lay_140 rfl rfl ?_
                      refine q_getR 144 dX6_lay_141 rfl fl_X6_22 (by decide) rfl rfl ?_
                      refine q_iload_n 145 dX6_lay_144 rfl rfl ?_
                      refine q_iald 146 dX6_lay_145 rfl (by decide) (by decide) ek (show tn k < 4 by omega) ?_
                      refine q_iast 147 dX6_lay_146 rfl (by decide) (by decide) el (show tn l < 5 by omega) ?_
                      refine q_iconst (v := 0) 148 dX6_lay_147 rfl rfl ?_
                      refine q_istore 150 dX6_lay_148 rfl (by decide) rfl ?_
                      have hC : cLay (M 31 0) l t k := ⟨h_45, by first | exact Or.inl h_1 | exact Or.inr (Or.inl h_6) | exact Or.inr (Or.inr (Or.inl ⟨h_11, h_19⟩)) | exact Or.inr (Or.inr (Or.inr ⟨h_24, h_31⟩))⟩
                      first
                      | exact absurd (h_132.symm.trans h_96) (by decide)
                      | exact absurd h_132 h_58
                      | exact absurd (h_132.symm.trans h_117) (by decide)
                      | (have d1 : ¬ (t = 2 ∧ M 34 0 (tn k) < 0) := fun q => absurd h_67 (Int32.not_le.mpr q.2); have ea : aLay M l t k = M 37 0 (tn l) := (by unfold aLay; rw [if_pos hC, if_neg d1]); have em : mLay M l t k = putA (putA (mLay0 M l t k) 40 0 (upd (M 40 0) (tn l) (M 35 0 (tn k)))) 41 0 (va_cpy (M 36 0) (M 41 0) (24 * tn k) (24 * tn l) 24) := (by unfold mLay; rw [if_pos ⟨hC, d1⟩, if_pos h_132]); rw [ea, em]; unfold mLay0; rw [if_neg h_96, if_neg h_96]; refine q_eqM ?_ (TR_post (q_fg (l6_lay (putA (putA (putA (putA M 37 0 (upd (M 37 0) (tn l) t)) 38 0 (upd (M 38 0) (tn l) k)) 39 0 (upd (M 39 0) (tn l) 0)) 40 0 (upd (M 40 0) (tn l) (M 35 0 (tn k)))) l t k _ _ (tn l) (tn k) el ek (by omega) (by omega) 25 0 0 (by omega) (by omega) rfl) ⟨rfl, rfl, rfl, rfl, rfl, rfl, rfl, trivial⟩) (by rintro _ _ ⟨rfl, rfl⟩; exact ⟨rfl, rfl⟩)); rw [cpy_0]; exact (putA_id _ 41 0).symm)
                  · skip
                    have hM : isM (M 31 0) k := by first | exact hM | exact absurd h_117 h_96
                    obtain ⟨em, lm⟩ := isM_nat hn hn10 hM
                    refine q_aload_n 121 dX6_lay_120 rfl rfl ?_
                    refine q_iload_n 122 dX6_lay_121 rfl rfl ?_
                    refine q_callVt 125 dX6_lay_122 rfl (c6_worth _ _ (M 31 0) (by rfl) (tn k) em (by omega)) cw_X6_130 (by decide) rfl rfl ⟨by decide, by decide⟩ ⟨by decide, by decide⟩ (Nat.le_of_ble_eq_true rfl) ?_
                    refine q_goto 129 dX6_lay_125 rfl ?_
                    refine q_iast 130 dX6_lay_129 rfl (by decide) (by decide) el (show tn l < 5 by omega) ?_
                    refine q_iload_n 131 dX6_lay_130 rfl rfl ?_
                    refine q_iconst (v := 2) 132 dX6_lay_131 rfl rfl ?_
                    refine q_icmp_ne 187 135 dX6_lay_132 rfl rfl (fun h_132 => ?_) (fun h_132 => ?_)
                    · skip
                      refine q_iload 189 dX6_lay_187 rfl rfl ?_
                      refine q_iret dX6_lay_189 ?_
                      have hC : cLay (M 31 0) l t k := ⟨h_45, by first | exact Or.inl h_1 | exact Or.inr (Or.inl h_6) | exact Or.inr (Or.inr (Or.inl ⟨h_11, h_19⟩)) | exact Or.inr (Or.inr (Or.inr ⟨h_24, h_31⟩))⟩
                      first | exact absurd h_58 h_132 | exact absurd h_96 h_117 | exact absurd h_117 h_96 | (have d1 : ¬ (t = 2 ∧ M 34 0 (tn k) < 0) := (fun q => by first | exact h_58 q.1 | exact absurd h_67 (Int32.not_le.mpr q.2)); unfold aLay mLay; rw [if_pos hC, if_neg d1, if_pos ⟨hC, d1⟩, if_neg h_132]; unfold mLay0; first | (have hq := h_96; rw [if_pos hq, if_pos hq]; exact ⟨rfl, rfl⟩) | (have hq := h_96; rw [if_neg hq, if_neg hq]; exact ⟨rfl, rfl⟩))
                    · skip
                      have hK : isS k := by first | exact hK | exact absurd h_132 h_58
                      obtain ⟨ek, lk⟩ := rg_tn hK (n := 3) rfl
                      refine q_aload_n 136 dX6_lay_135 rfl rfl ?_
                      refine q_getR 139 dX6_lay_136 rfl fl_X6_37 (by decide) rfl rfl ?_
                      refine q_iload_n 140 dX6_lay_139 rfl rfl ?_
                      refine q_aload_n 141 dX6_lay_140 rfl rfl ?_
                      refine q_getR 144 dX6_lay_141 rfl fl_X6_22 (by decide) rfl rfl ?_
                      refine q_iload_n 145 dX6_lay_144 rfl rfl ?_
                      refine q_iald 146 dX6_lay_145 rfl (by decide) (by decide) ek (show tn k < 4 by omega) ?_
                      refine q_iast 147 dX6_lay_146 rfl (by decide) (by decide) el (show tn l < 5 by omega) ?_
                      refine q_iconst (v := 0) 148 dX6_lay_147 rfl rfl ?_
                      refine q_istore 150 dX6_lay_148 rfl (by decide) rfl ?_
                      have hC : cLay (M 31 0) l t k := ⟨h_45, by first | exact Or.inl h_1 | exact Or.inr (Or.inl h_6) | exact Or.inr (Or.inr (Or.inl ⟨h_11, h_19⟩)) | exact Or.inr (Or.inr (Or.inr ⟨h_24, h_31⟩))⟩
                      first
                      | exact absurd (h_132.symm.trans h_96) (by decide)
                      | exact absurd h_132 h_58
                      | exact absurd (h_132.symm.trans h_117) (by decide)
                      | (have d1 : ¬ (t = 2 ∧ M 34 0 (tn k) < 0) := fun q => absurd h_67 (Int32.not_le.mpr q.2); have ea : aLay M l t k = M 37 0 (tn l) := (by unfold aLay; rw [if_pos hC, if_neg d1]); have em : mLay M l t k = putA (putA (mLay0 M l t k) 40 0 (upd (M 40 0) (tn l) (M 35 0 (tn k)))) 41 0 (va_cpy (M 36 0) (M 41 0) (24 * tn k) (24 * tn l) 24) := (by unfold mLay; rw [if_pos ⟨hC, d1⟩, if_pos h_132]); rw [ea, em]; unfold mLay0; rw [if_neg h_96, if_neg h_96]; refine q_eqM ?_ (TR_post (q_fg (l6_lay (putA (putA (putA (putA M 37 0 (upd (M 37 0) (tn l) t)) 38 0 (upd (M 38 0) (tn l) k)) 39 0 (upd (M 39 0) (tn l) 0)) 40 0 (upd (M 40 0) (tn l) (M 35 0 (tn k)))) l t k _ _ (tn l) (tn k) el ek (by omega) (by omega) 25 0 0 (by omega) (by omega) rfl) ⟨rfl, rfl, rfl, rfl, rfl, rfl, rfl, trivial⟩) (by rintro _ _ ⟨rfl, rfl⟩; exact ⟨rfl, rfl⟩)); rw [cpy_0]; exact (putA_id _ 41 0).symm)
                · skip
                  have hM : isM (M 31 0) k := by first | exact h_19 | exact absurd (h_1.symm.trans h_96) (by decide) | exact absurd (h_6.symm.trans h_96) (by decide) | exact absurd (h_24.symm.trans h_96) (by decide)
                  obtain ⟨em, lm⟩ := isM_nat hn hn10 hM
                  refine q_aload_n 100 dX6_lay_99 rfl rfl ?_
                  refine q_iload_n 101 dX6_lay_100 rfl rfl ?_
                  refine q_iconst (v := 0) 102 dX6_lay_101 rfl rfl ?_
                  refine q_callVt 105 dX6_lay_102 rfl (c6_of _ _ _ (tn k) 0 em rfl (by omega)) cw_X6_72 (by decide) rfl rfl ⟨by decide, by decide⟩ ⟨by decide, by decide⟩ (Nat.le_of_ble_eq_true rfl) ?_
                  refine q_goto 109 dX6_lay_105 rfl ?_
                  refine q_iast 110 dX6_lay_109 rfl (by decide) (by decide) el (show tn l < 5 by omega) ?_
                  refine q_aload_n 111 dX6_lay_110 rfl rfl ?_
                  refine q_getR 114 dX6_lay_111 rfl fl_X6_34 (by decide) rfl rfl ?_
                  refine q_iload_n 115 dX6_lay_114 rfl rfl ?_
                  refine q_iload_n 116 dX6_lay_115 rfl rfl ?_
                  refine q_iconst (v := 1) 117 dX6_lay_116 rfl rfl ?_
                  refine q_icmp_ne 128 120 dX6_lay_117 rfl rfl (fun h_117 => ?_) (fun h_117 => ?_)
                  · skip
                    refine q_iconst (v := 0) 129 dX6_lay_128 rfl rfl ?_
                    refine q_iast 130 dX6_lay_129 rfl (by decide) (by decide) el (show tn l < 5 by omega) ?_
                    refine q_iload_n 131 dX6_lay_130 rfl rfl ?_
                    refine q_iconst (v := 2) 132 dX6_lay_131 rfl rfl ?_
                    refine q_icmp_ne 187 135 dX6_lay_132 rfl rfl (fun h_132 => ?_) (fun h_132 => ?_)
                    · skip
                      refine q_iload 189 dX6_lay_187 rfl rfl ?_
                      refine q_iret dX6_lay_189 ?_
                      have hC : cLay (M 31 0) l t k := ⟨h_45, by first | exact Or.inl h_1 | exact Or.inr (Or.inl h_6) | exact Or.inr (Or.inr (Or.inl ⟨h_11, h_19⟩)) | exact Or.inr (Or.inr (Or.inr ⟨h_24, h_31⟩))⟩
                      first | exact absurd h_58 h_132 | exact absurd h_96 h_117 | exact absurd h_117 h_96 | (have d1 : ¬ (t = 2 ∧ M 34 0 (tn k) < 0) := (fun q => by first | exact h_58 q.1 | exact absurd h_67 (Int32.not_le.mpr q.2)); unfold aLay mLay; rw [if_pos hC, if_neg d1, if_pos ⟨hC, d1⟩, if_neg h_132]; unfold mLay0; first | (have hq := h_96; rw [if_pos hq, if_pos hq]; exact ⟨rfl, rfl⟩) | (have hq := h_96; rw [if_neg hq, if_neg hq]; exact ⟨rfl, rfl⟩))
                    · skip
                      have hK : isS k := by first | exact hK | exact absurd h_132 h_58
                      obtain ⟨ek, lk⟩ := rg_tn hK (n := 3) rfl
                      refine q_aload_n 136 dX6_lay_135 rfl rfl ?_
                      refine q_getR 139 dX6_lay_136 rfl fl_X6_37 (by decide) rfl rfl ?_
                      refine q_iload_n 140 dX6_lay_139 rfl rfl ?_
                      refine q_aload_n 141 dX6_lay_140 rfl rfl ?_
                      refine q_getR 144 dX6_lay_141 rfl fl_X6_22 (by decide) rfl rfl ?_
                      refine q_iload_n 145 dX6_lay_144 rfl rfl ?_
                      refine q_iald 146 dX6_lay_145 rfl (by decide) (by decide) ek (show tn k < 4 by omega) ?_
                      refine q_iast 147 dX6_lay_146 rfl (by decide) (by decide) el (show tn l < 5 by omega) ?_
                      refine q_iconst (v := 0) 148 dX6_lay_147 rfl rfl ?_
                      refine q_istore 150 dX6_lay_148 rfl (by decide) rfl ?_
                      have hC : cLay (M 31 0) l t k := ⟨h_45, by first | exact Or.inl h_1 | exact Or.inr (Or.inl h_6) | exact Or.inr (Or.inr (Or.inl ⟨h_11, h_19⟩)) | exact Or.inr (Or.inr (Or.inr ⟨h_24, h_31⟩))⟩
                      first
                      | exact absurd (h_132.symm.trans h_96) (by decide)
                      | exact absurd h_132 h_58
                      | exact absurd (h_132.symm.trans h_117) (by decide)
                      | (have d1 : ¬ (t = 2 ∧ M 34 0 (tn k) < 0) := fun q => absurd h_67 (Int32.not_le.mpr q.2); have ea : aLay M l t k = M 37 0 (tn l) := (by unfold aLay; rw [if_pos hC, if_neg d1]); have em : mLay M l t k = putA (putA (mLay0 M l t k) 40 0 (upd (M 40 0) (tn l) (M 35 0 (tn k)))) 41 0 (va_cpy (M 36 0) (M 41 0) (24 * tn k) (24 * tn l) 24) := (by unfold mLay; rw [if_pos ⟨hC, d1⟩, if_pos h_132]); rw [ea, em]; unfold mLay0; rw [if_neg h_96, if_neg h_96]; refine q_eqM ?_ (TR_post (q_fg (l6_lay (putA (putA (putA (putA M 37 0 (upd (M 37 0) (tn l) t)) 38 0 (upd (M 38 0) (tn l) k)) 39 0 (upd (M 39 0) (tn l) 0)) 40 0 (upd (M 40 0) (tn l) (M 35 0 (tn k)))) l t k _ _ (tn l) (tn k) el ek (by omega) (by omega) 25 0 0 (by omega) (by omega) rfl) ⟨rfl, rfl, rfl, rfl, rfl, rfl, rfl, trivial⟩) (by rintro _ _ ⟨rfl, rfl⟩; exact ⟨rfl, rfl⟩)); rw [cpy_0]; exact (putA_id _ 41 0).symm)
                  · skip
                    have hM : isM (M 31 0) k := by first | exact hM | exact absurd h_117 h_96
                    obtain ⟨em, lm⟩ := isM_nat hn hn10 hM
                    refine q_aload_n 121 dX6_lay_120 rfl rfl ?_
                    refine q_iload_n 122 dX6_lay_121 rfl rfl ?_
                    refine q_callVt 125 dX6_lay_122 rfl (c6_worth _ _ (M 31 0) (by rfl) (tn k) em (by omega)) cw_X6_130 (by decide) rfl rfl ⟨by decide, by decide⟩ ⟨by decide, by decide⟩ (Nat.le_of_ble_eq_true rfl) ?_
                    refine q_goto 129 dX6_lay_125 rfl ?_
                    refine q_iast 130 dX6_lay_129 rfl (by decide) (by decide) el (show tn l < 5 by omega) ?_
                    refine q_iload_n 131 dX6_lay_130 rfl rfl ?_
                    refine q_iconst (v := 2) 132 dX6_lay_131 rfl rfl ?_
                    refine q_icmp_ne 187 135 dX6_lay_132 rfl rfl (fun h_132 => ?_) (fun h_132 => ?_)
                    · skip
                      refine q_iload 189 dX6_lay_187 rfl rfl ?_
                      refine q_iret dX6_lay_189 ?_
                      have hC : cLay (M 31 0) l t k := ⟨h_45, by first | exact Or.inl h_1 | exact Or.inr (Or.inl h_6) | exact Or.inr (Or.inr (Or.inl ⟨h_11, h_19⟩)) | exact Or.inr (Or.inr (Or.inr ⟨h_24, h_31⟩))⟩
                      first | exact absurd h_58 h_132 | exact absurd h_96 h_117 | exact absurd h_117 h_96 | (have d1 : ¬ (t = 2 ∧ M 34 0 (tn k) < 0) := (fun q => by first | exact h_58 q.1 | exact absurd h_67 (Int32.not_le.mpr q.2)); unfold aLay mLay; rw [if_pos hC, if_neg d1, if_pos ⟨hC, d1⟩, if_neg h_132]; unfold mLay0; first | (have hq := h_96; rw [if_pos hq, if_pos hq]; exact ⟨rfl, rfl⟩) | (have hq := h_96; rw [if_neg hq, if_neg hq]; exact ⟨rfl, rfl⟩))
                    · skip
                      have hK : isS k := by first | exact hK | exact absurd h_132 h_58
                      obtain ⟨ek, lk⟩ := rg_tn hK (n := 3) rfl
                      refine q_aload_n 136 dX6_lay_135 rfl rfl ?_
                      refine q_getR 139 dX6_lay_136 rfl fl_X6_37 (by decide) rfl rfl ?_
                      refine q_iload_n 140 dX6_lay_139 rfl rfl ?_
                      refine q_aload_n 141 dX6_lay_140 rfl rfl ?_
                      refine q_getR 144 dX6_lay_141 rfl fl_X6_22 (by decide) rfl rfl ?_
                      refine q_iload_n 145 dX6_lay_144 rfl rfl ?_
                      refine q_iald 146 dX6_lay_145 rfl (by decide) (by decide) ek (show tn k < 4 by omega) ?_
                      refine q_iast 147 dX6_lay_146 rfl (by decide) (by decide) el (show tn l < 5 by omega) ?_
                      refine q_iconst (v := 0) 148 dX6_lay_147 rfl rfl ?_
                      refine q_istore 150 dX6_lay_148 rfl (by decide) rfl ?_
                      have hC : cLay (M 31 0) l t k := ⟨h_45, by first | exact Or.inl h_1 | exact Or.inr (Or.inl h_6) | exact Or.inr (Or.inr (Or.inl ⟨h_11, h_19⟩)) | exact Or.inr (Or.inr (Or.inr ⟨h_24, h_31⟩))⟩
                      first
                      | exact absurd (h_132.symm.trans h_96) (by decide)
                      | exact absurd h_132 h_58
                      | exact absurd (h_132.symm.trans h_117) (by decide)
                      | (have d1 : ¬ (t = 2 ∧ M 34 0 (tn k) < 0) := fun q => absurd h_67 (Int32.not_le.mpr q.2); have ea : aLay M l t k = M 37 0 (tn l) := (by unfold aLay; rw [if_pos hC, if_neg d1]); have em : mLay M l t k = putA (putA (mLay0 M l t k) 40 0 (upd (M 40 0) (tn l) (M 35 0 (tn k)))) 41 0 (va_cpy (M 36 0) (M 41 0) (24 * tn k) (24 * tn l) 24) := (by unfold mLay; rw [if_pos ⟨hC, d1⟩, if_pos h_132]); rw [ea, em]; unfold mLay0; rw [if_neg h_96, if_neg h_96]; refine q_eqM ?_ (TR_post (q_fg (l6_lay (putA (putA (putA (putA M 37 0 (upd (M 37 0) (tn l) t)) 38 0 (upd (M 38 0) (tn l) k)) 39 0 (upd (M 39 0) (tn l) 0)) 40 0 (upd (M 40 0) (tn l) (M 35 0 (tn k)))) l t k _ _ (tn l) (tn k) el ek (by omega) (by omega) 25 0 0 (by omega) (by omega) rfl) ⟨rfl, rfl, rfl, rfl, rfl, rfl, rfl, trivial⟩) (by rintro _ _ ⟨rfl, rfl⟩; exact ⟨rfl, rfl⟩)); rw [cpy_0]; exact (putA_id _ 41 0).symm)
              · skip
                refine q_ldc_w 73 dX6_lay_70 rfl cs_X6_319 ?_
                refine q_iret dX6_lay_73 ?_
                have hC : cLay (M 31 0) l t k := ⟨h_45, by first | exact Or.inl h_1 | exact Or.inr (Or.inl h_6) | exact Or.inr (Or.inr (Or.inl ⟨h_11, h_19⟩)) | exact Or.inr (Or.inr (Or.inr ⟨h_24, h_31⟩))⟩
                have d2 : t = 2 ∧ M 34 0 (tn k) < 0 := ⟨h_58, Int32.not_le.mp h_67⟩
                unfold aLay mLay
                rw [if_pos hC, if_pos d2, if_neg (fun q => q.2 d2)]
                exact ⟨rfl, rfl⟩
        · skip
          simp only [bI_0, Classical.not_not] at h_19
          refine q_iload_n 23 dX6_lay_22 rfl rfl ?_
          refine q_iconst (v := 2) 24 dX6_lay_23 rfl rfl ?_
          refine q_icmp_ne 38 27 dX6_lay_24 rfl rfl (fun h_24 => ?_) (fun h_24 => ?_)
          · skip
            refine q_iconst (v := 0) 39 dX6_lay_38 rfl rfl ?_
            refine q_istore 41 dX6_lay_39 rfl (by decide) rfl ?_
            refine q_iload_n 42 dX6_lay_41 rfl rfl ?_
            refine q_callSt 45 dX6_lay_42 rfl (c6_isSlot _ _) cw_X6_330 rfl rfl ⟨by decide, by decide⟩ ⟨by decide, by decide⟩ (Nat.le_of_ble_eq_true rfl) ?_
            refine q_if_eq 53 48 dX6_lay_45 rfl rfl (fun h_45 => ?_) (fun h_45 => ?_)
            · skip
              simp only [bI_0, Classical.not_not] at h_45
              refine q_ldc 55 dX6_lay_53 rfl cs_X6_110 ?_
              refine q_iret dX6_lay_55 ?_
              have hC : ¬ cLay (M 31 0) l t k := by
                rintro ⟨q1, q2⟩
                first | exact h_45 q1 | (rcases q2 with q2 | q2 | q2 | q2; exact h_1 q2; exact h_6 q2; (first | exact h_11 q2.1 | exact h_19 q2.2); (first | exact h_24 q2.1 | exact h_31 q2.2))
              unfold aLay mLay
              rw [if_neg hC, if_neg (fun q => hC q.1)]
              exact ⟨rfl, rfl⟩
            · skip
              simp only [bI_0, Classical.not_not] at h_45
              obtain ⟨el, ll⟩ := rg_tn h_45 (n := 4) rfl
              refine q_iload 50 dX6_lay_48 rfl rfl ?_
              refine q_if_ne 56 53 dX6_lay_50 rfl rfl (fun h_50 => absurd rfl h_50) (fun _ => ?_)
              refine q_ldc 55 dX6_lay_53 rfl cs_X6_110 ?_
              refine q_iret dX6_lay_55 ?_
              have hC : ¬ cLay (M 31 0) l t k := by
                rintro ⟨q1, q2⟩
                first | exact h_45 q1 | (rcases q2 with q2 | q2 | q2 | q2; exact h_1 q2; exact h_6 q2; (first | exact h_11 q2.1 | exact h_19 q2.2); (first | exact h_24 q2.1 | exact h_31 q2.2))
              unfold aLay mLay
              rw [if_neg hC, if_neg (fun q => hC q.1)]
              exact ⟨rfl, rfl⟩
          · skip
            refine q_iload_n 28 dX6_lay_27 rfl rfl ?_
            refine q_callSt 31 dX6_lay_28 rfl (c6_isSheet _ _) cw_X6_313 rfl rfl ⟨by decide, by decide⟩ ⟨by decide, by decide⟩ (Nat.le_of_ble_eq_true rfl) ?_
            refine q_if_eq 38 34 dX6_lay_31 rfl rfl (fun h_31 => ?_) (fun h_31 => ?_)
            · skip
              simp only [bI_0, Classical.not_not] at h_31
              refine q_iconst (v := 0) 39 dX6_lay_38 rfl rfl ?_
              refine q_istore 41 dX6_lay_39 rfl (by decide) rfl ?_
              refine q_iload_n 42 dX6_lay_41 rfl rfl ?_
              refine q_callSt 45 dX6_lay_42 rfl (c6_isSlot _ _) cw_X6_330 rfl rfl ⟨by decide, by decide⟩ ⟨by decide, by decide⟩ (Nat.le_of_ble_eq_true rfl) ?_
              refine q_if_eq 53 48 dX6_lay_45 rfl rfl (fun h_45 => ?_) (fun h_45 => ?_)
              · skip
                simp only [bI_0, Classical.not_not] at h_45
                refine q_ldc 55 dX6_lay_53 rfl cs_X6_110 ?_
                refine q_iret dX6_lay_55 ?_
                have hC : ¬ cLay (M 31 0) l t k := by
                  rintro ⟨q1, q2⟩
                  first | exact h_45 q1 | (rcases q2 with q2 | q2 | q2 | q2; exact h_1 q2; exact h_6 q2; (first | exact h_11 q2.1 | exact h_19 q2.2); (first | exact h_24 q2.1 | exact h_31 q2.2))
                unfold aLay mLay
                rw [if_neg hC, if_neg (fun q => hC q.1)]
                exact ⟨rfl, rfl⟩
              · skip
                simp only [bI_0, Classical.not_not] at h_45
                obtain ⟨el, ll⟩ := rg_tn h_45 (n := 4) rfl
                refine q_iload 50 dX6_lay_48 rfl rfl ?_
                refine q_if_ne 56 53 dX6_lay_50 rfl rfl (fun h_50 => absurd rfl h_50) (fun _ => ?_)
                refine q_ldc 55 dX6_lay_53 rfl cs_X6_110 ?_
                refine q_iret dX6_lay_55 ?_
                have hC : ¬ cLay (M 31 0) l t k := by
                  rintro ⟨q1, q2⟩
                  first | exact h_45 q1 | (rcases q2 with q2 | q2 | q2 | q2; exact h_1 q2; exact h_6 q2; (first | exact h_11 q2.1 | exact h_19 q2.2); (first | exact h_24 q2.1 | exact h_31 q2.2))
                unfold aLay mLay
                rw [if_neg hC, if_neg (fun q => hC q.1)]
                exact ⟨rfl, rfl⟩
            · skip
              simp only [bI_0, Classical.not_not] at h_31
              refine q_iconst (v := 1) 35 dX6_lay_34 rfl rfl ?_
              refine q_goto 39 dX6_lay_35 rfl ?_
              refine q_istore 41 dX6_lay_39 rfl (by decide) rfl ?_
              refine q_iload_n 42 dX6_lay_41 rfl rfl ?_
              refine q_callSt 45 dX6_lay_42 rfl (c6_isSlot _ _) cw_X6_330 rfl rfl ⟨by decide, by decide⟩ ⟨by decide, by decide⟩ (Nat.le_of_ble_eq_true rfl) ?_
              refine q_if_eq 53 48 dX6_lay_45 rfl rfl (fun h_45 => ?_) (fun h_45 => ?_)
              · skip
                simp only [bI_0, Classical.not_not] at h_45
                refine q_ldc 55 dX6_lay_53 rfl cs_X6_110 ?_
                refine q_iret dX6_lay_55 ?_
                have hC : ¬ cLay (M 31 0) l t k := by
                  rintro ⟨q1, q2⟩
                  first | exact h_45 q1 | (rcases q2 with q2 | q2 | q2 | q2; exact h_1 q2; exact h_6 q2; (first | exact h_11 q2.1 | exact h_19 q2.2); (first | exact h_24 q2.1 | exact h_31 q2.2))
                unfold aLay mLay
                rw [if_neg hC, if_neg (fun q => hC q.1)]
                exact ⟨rfl, rfl⟩
              · skip
                simp only [bI_0, Classical.not_not] at h_45
                obtain ⟨el, ll⟩ := rg_tn h_45 (n := 4) rfl
                refine q_iload 50 dX6_lay_48 rfl rfl ?_
                refine q_if_ne 56 53 dX6_lay_50 rfl rfl (fun _ => ?_) (fun h_50 => absurd h_50 (by decide))
                refine q_iload_n 57 dX6_lay_56 rfl rfl ?_
                refine q_iconst (v := 2) 58 dX6_lay_57 rfl rfl ?_
                refine q_icmp_ne 74 61 dX6_lay_58 rfl rfl (fun h_58 => ?_) (fun h_58 => ?_)
                · skip
                  refine q_aload_n 75 dX6_lay_74 rfl rfl ?_
                  refine q_getR 78 dX6_lay_75 rfl fl_X6_28 (by decide) rfl rfl ?_
                  refine q_iload_n 79 dX6_lay_78 rfl rfl ?_
                  refine q_iald 80 dX6_lay_79 rfl (by decide) (by decide) el (show tn l < 5 by omega) ?_
                  refine q_istore 82 dX6_lay_80 rfl (by decide) rfl ?_
                  refine q_aload_n 83 dX6_lay_82 rfl rfl ?_
                  refine q_getR 86 dX6_lay_83 rfl fl_X6_28 (by decide) rfl rfl ?_
                  refine q_iload_n 87 dX6_lay_86 rfl rfl ?_
                  refine q_iload_n 88 dX6_lay_87 rfl rfl ?_
                  refine q_iast 89 dX6_lay_88 rfl (by decide) (by decide) el (show tn l < 5 by omega) ?_
                  refine q_aload_n 90 dX6_lay_89 rfl rfl ?_
                  refine q_getR 93 dX6_lay_90 rfl fl_X6_31 (by decide) rfl rfl ?_
                  refine q_iload_n 94 dX6_lay_93 rfl rfl ?_
                  refine q_iload_n 95 dX6_lay_94 rfl rfl ?_
                  refine q_iconst (v := 1) 96 dX6_lay_95 rfl rfl ?_
                  refine q_icmp_ne 108 99 dX6_lay_96 rfl rfl (fun h_96 => ?_) (fun h_96 => ?_)
                  · skip
                    refine q_iload_n 109 dX6_lay_108 rfl rfl ?_
                    refine q_iast 110 dX6_lay_109 rfl (by decide) (by decide) el (show tn l < 5 by omega) ?_
                    refine q_aload_n 111 dX6_lay_110 rfl rfl ?_
                    refine q_getR 114 dX6_lay_111 rfl fl_X6_34 (by decide) rfl rfl ?_
                    refine q_iload_n 115 dX6_lay_114 rfl rfl ?_
                    refine q_iload_n 116 dX6_lay_115 rfl rfl ?_
                    refine q_iconst (v := 1) 117 dX6_lay_116 rfl rfl ?_
                    refine q_icmp_ne 128 120 dX6_lay_117 rfl rfl (fun h_117 => ?_) (fun h_117 => ?_)
                    · skip
                      refine q_iconst (v := 0) 129 dX6_lay_128 rfl rfl ?_
                      refine q_iast 130 dX6_lay_129 rfl (by decide) (by decide) el (show tn l < 5 by omega) ?_
                      refine q_iload_n 131 dX6_lay_130 rfl rfl ?_
                      refine q_iconst (v := 2) 132 dX6_lay_131 rfl rfl ?_
                      refine q_icmp_ne 187 135 dX6_lay_132 rfl rfl (fun h_132 => ?_) (fun h_132 => ?_)
                      · skip
                        refine q_iload 189 dX6_lay_187 rfl rfl ?_
                        refine q_iret dX6_lay_189 ?_
                        have hC : cLay (M 31 0) l t k := ⟨h_45, by first | exact Or.inl h_1 | exact Or.inr (Or.inl h_6) | exact Or.inr (Or.inr (Or.inl ⟨h_11, h_19⟩)) | exact Or.inr (Or.inr (Or.inr ⟨h_24, h_31⟩))⟩
                        first | exact absurd h_58 h_132 | exact absurd h_96 h_117 | exact absurd h_117 h_96 | (have d1 : ¬ (t = 2 ∧ M 34 0 (tn k) < 0) := (fun q => by first | exact h_58 q.1 | exact absurd h_67 (Int32.not_le.mpr q.2)); unfold aLay mLay; rw [if_pos hC, if_neg d1, if_pos ⟨hC, d1⟩, if_neg h_132]; unfold mLay0; first | (have hq := h_96; rw [if_pos hq, if_pos hq]; exact ⟨rfl, rfl⟩) | (have hq := h_96; rw [if_neg hq, if_neg hq]; exact ⟨rfl, rfl⟩))
                      · skip
                        have hK : isS k := by first | exact hK | exact absurd h_132 h_58
                        obtain ⟨ek, lk⟩ := rg_tn hK (n := 3) rfl
                        refine q_aload_n 136 dX6_lay_135 rfl rfl ?_
                        refine q_getR 139 dX6_lay_136 rfl fl_X6_37 (by decide) rfl rfl ?_
                        refine q_iload_n 140 dX6_lay_139 rfl rfl ?_
                        refine q_aload_n 141 dX6_lay_140 rfl rfl ?_
                        refine q_getR 144 dX6_lay_141 rfl fl_X6_22 (by decide) rfl rfl ?_
                        refine q_iload_n 145 dX6_lay_144 rfl rfl ?_
                        refine q_iald 146 dX6_lay_145 rfl (by decide) (by decide) ek (show tn k < 4 by omega) ?_
                        refine q_iast 147 dX6_lay_146 rfl (by decide) (by decide) el (show tn l < 5 by omega) ?_
                        refine q_iconst (v := 0) 148 dX6_lay_147 rfl rfl ?_
                        refine q_istore 150 dX6_lay_148 rfl (by decide) rfl ?_
                        have hC : cLay (M 31 0) l t k := ⟨h_45, by first | exact Or.inl h_1 | exact Or.inr (Or.inl h_6) | exact Or.inr (Or.inr (Or.inl ⟨h_11, h_19⟩)) | exact Or.inr (Or.inr (Or.inr ⟨h_24, h_31⟩))⟩
                        first
                        | exact absurd (h_132.symm.trans h_96) (by decide)
                        | exact absurd h_132 h_58
                        | exact absurd (h_132.symm.trans h_117) (by decide)
                        | (have d1 : ¬ (t = 2 ∧ M 34 0 (tn k) < 0) := fun q => absurd h_67 (Int32.not_le.mpr q.2); have ea : aLay M l t k = M 37 0 (tn l) := (by unfold aLay; rw [if_pos hC, if_neg d1]); have em : mLay M l t k = putA (putA (mLay0 M l t k) 40 0 (upd (M 40 0) (tn l) (M 35 0 (tn k)))) 41 0 (va_cpy (M 36 0) (M 41 0) (24 * tn k) (24 * tn l) 24) := (by unfold mLay; rw [if_pos ⟨hC, d1⟩, if_pos h_132]); rw [ea, em]; unfold mLay0; rw [if_neg h_96, if_neg h_96]; refine q_eqM ?_ (TR_post (q_fg (l6_lay (putA (putA (putA (putA M 37 0 (upd (M 37 0) (tn l) t)) 38 0 (upd (M 38 0) (tn l) k)) 39 0 (upd (M 39 0) (tn l) 0)) 40 0 (upd (M 40 0) (tn l) (M 35 0 (tn k)))) l t k _ _ (tn l) (tn k) el ek (by omega) (by omega) 25 0 0 (by omega) (by omega) rfl) ⟨rfl, rfl, rfl, rfl, rfl, rfl, rfl, trivial⟩) (by rintro _ _ ⟨rfl, rfl⟩; exact ⟨rfl, rfl⟩)); rw [cpy_0]; exact (putA_id _ 41 0).symm)
                    · skip
                      have hM : isM (M 31 0) k := by first | exact hM | exact absurd h_117 h_96
                      obtain ⟨em, lm⟩ := isM_nat hn hn10 hM
                      refine q_aload_n 121 dX6_lay_120 rfl rfl ?_
                      refine q_iload_n 122 dX6_lay_121 rfl rfl ?_
                      refine q_callVt 125 dX6_lay_122 rfl (c6_worth _ _ (M 31 0) (by rfl) (tn k) em (by omega)) cw_X6_130 (by decide) rfl rfl ⟨by decide, by decide⟩ ⟨by decide, by decide⟩ (Nat.le_of_ble_eq_true rfl) ?_
                      refine q_goto 129 dX6_lay_125 rfl ?_
                      refine q_iast 130 dX6_lay_129 rfl (by decide) (by decide) el (show tn l < 5 by omega) ?_
                      refine q_iload_n 131 dX6_lay_130 rfl rfl ?_
                      refine q_iconst (v := 2) 132 dX6_lay_131 rfl rfl ?_
                      refine q_icmp_ne 187 135 dX6_lay_132 rfl rfl (fun h_132 => ?_) (fun h_132 => ?_)
                      · skip
                        refine q_iload 189 dX6_lay_187 rfl rfl ?_
                        refine q_iret dX6_lay_189 ?_
                        have hC : cLay (M 31 0) l t k := ⟨h_45, by first | exact Or.inl h_1 | exact Or.inr (Or.inl h_6) | exact Or.inr (Or.inr (Or.inl ⟨h_11, h_19⟩)) | exact Or.inr (Or.inr (Or.inr ⟨h_24, h_31⟩))⟩
                        first | exact absurd h_58 h_132 | exact absurd h_96 h_117 | exact absurd h_117 h_96 | (have d1 : ¬ (t = 2 ∧ M 34 0 (tn k) < 0) := (fun q => by first | exact h_58 q.1 | exact absurd h_67 (Int32.not_le.mpr q.2)); unfold aLay mLay; rw [if_pos hC, if_neg d1, if_pos ⟨hC, d1⟩, if_neg h_132]; unfold mLay0; first | (have hq := h_96; rw [if_pos hq, if_pos hq]; exact ⟨rfl, rfl⟩) | (have hq := h_96; rw [if_neg hq, if_neg hq]; exact ⟨rfl, rfl⟩))
                      · skip
                        have hK : isS k := by first | exact hK | exact absurd h_132 h_58
                        obtain ⟨ek, lk⟩ := rg_tn hK (n := 3) rfl
                        refine q_aload_n 136 dX6_lay_135 rfl rfl ?_
                        refine q_getR 139 dX6_lay_136 rfl fl_X6_37 (by decide) rfl rfl ?_
                        refine q_iload_n 140 dX6_lay_139 rfl rfl ?_
                        refine q_aload_n 141 dX6_lay_140 rfl rfl ?_
                        refine q_getR 144 dX6_lay_141 rfl fl_X6_22 (by decide) rfl rfl ?_
                        refine q_iload_n 145 dX6_lay_144 rfl rfl ?_
                        refine q_iald 146 dX6_lay_145 rfl (by decide) (by decide) ek (show tn k < 4 by omega) ?_
                        refine q_iast 147 dX6_lay_146 rfl (by decide) (by decide) el (show tn l < 5 by omega) ?_
                        refine q_iconst (v := 0) 148 dX6_lay_147 rfl rfl ?_
                        refine q_istore 150 dX6_lay_148 rfl (by decide) rfl ?_
                        have hC : cLay (M 31 0) l t k := ⟨h_45, by first | exact Or.inl h_1 | exact Or.inr (Or.inl h_6) | exact Or.inr (Or.inr (Or.inl ⟨h_11, h_19⟩)) | exact Or.inr (Or.inr (Or.inr ⟨h_24, h_31⟩))⟩
                        first
                        | exact absurd (h_132.symm.trans h_96) (by decide)
                        | exact absurd h_132 h_58
                        | exact absurd (h_132.symm.trans h_117) (by decide)
                        | (have d1 : ¬ (t = 2 ∧ M 34 0 (tn k) < 0) := fun q => absurd h_67 (Int32.not_le.mpr q.2); have ea : aLay M l t k = M 37 0 (tn l) := (by unfold aLay; rw [if_pos hC, if_neg d1]); have em : mLay M l t k = putA (putA (mLay0 M l t k) 40 0 (upd (M 40 0) (tn l) (M 35 0 (tn k)))) 41 0 (va_cpy (M 36 0) (M 41 0) (24 * tn k) (24 * tn l) 24) := (by unfold mLay; rw [if_pos ⟨hC, d1⟩, if_pos h_132]); rw [ea, em]; unfold mLay0; rw [if_neg h_96, if_neg h_96]; refine q_eqM ?_ (TR_post (q_fg (l6_lay (putA (putA (putA (putA M 37 0 (upd (M 37 0) (tn l) t)) 38 0 (upd (M 38 0) (tn l) k)) 39 0 (upd (M 39 0) (tn l) 0)) 40 0 (upd (M 40 0) (tn l) (M 35 0 (tn k)))) l t k _ _ (tn l) (tn k) el ek (by omega) (by omega) 25 0 0 (by omega) (by omega) rfl) ⟨rfl, rfl, rfl, rfl, rfl, rfl, rfl, trivial⟩) (by rintro _ _ ⟨rfl, rfl⟩; exact ⟨rfl, rfl⟩)); rw [cpy_0]; exact (putA_id _ 41 0).symm)
                  · skip
                    have hM : isM (M 31 0) k := by first | exact h_19 | exact absurd (h_1.symm.trans h_96) (by decide) | exact absurd (h_6.symm.trans h_96) (by decide) | exact absurd (h_24.symm.trans h_96) (by decide)
                    obtain ⟨em, lm⟩ := isM_nat hn hn10 hM
                    refine q_aload_n 100 dX6_lay_99 rfl rfl ?_
                    refine q_iload_n 101 dX6_lay_100 rfl rfl ?_
                    refine q_iconst (v := 0) 102 dX6_lay_101 rfl rfl ?_
                    refine q_callVt 105 dX6_lay_102 rfl (c6_of _ _ _ (tn k) 0 em rfl (by omega)) cw_X6_72 (by decide) rfl rfl ⟨by decide, by decide⟩ ⟨by decide, by decide⟩ (Nat.le_of_ble_eq_true rfl) ?_
                    refine q_goto 109 dX6_lay_105 rfl ?_
                    refine q_iast 110 dX6_lay_109 rfl (by decide) (by decide) el (show tn l < 5 by omega) ?_
                    refine q_aload_n 111 dX6_lay_110 rfl rfl ?_
                    refine q_getR 114 dX6_lay_111 rfl fl_X6_34 (by decide) rfl rfl ?_
                    refine q_iload_n 115 dX6_lay_114 rfl rfl ?_
                    refine q_iload_n 116 dX6_lay_115 rfl rfl ?_
                    refine q_iconst (v := 1) 117 dX6_lay_116 rfl rfl ?_
                    refine q_icmp_ne 128 120 dX6_lay_117 rfl rfl (fun h_117 => ?_) (fun h_117 => ?_)
                    · skip
                      refine q_iconst (v := 0) 129 dX6_lay_128 rfl rfl ?_
                      refine q_iast 130 dX6_lay_129 rfl (by decide) (by decide) el (show tn l < 5 by omega) ?_
                      refine q_iload_n 131 dX6_lay_130 rfl rfl ?_
                      refine q_iconst (v := 2) 132 dX6_lay_131 rfl rfl ?_
                      refine q_icmp_ne 187 135 dX6_lay_132 rfl rfl (fun h_132 => ?_) (fun h_132 => ?_)
                      · skip
                        refine q_iload 189 dX6_lay_187 rfl rfl ?_
                        refine q_iret dX6_lay_189 ?_
                        have hC : cLay (M 31 0) l t k := ⟨h_45, by first | exact Or.inl h_1 | exact Or.inr (Or.inl h_6) | exact Or.inr (Or.inr (Or.inl ⟨h_11, h_19⟩)) | exact Or.inr (Or.inr (Or.inr ⟨h_24, h_31⟩))⟩
                        first | exact absurd h_58 h_132 | exact absurd h_96 h_117 | exact absurd h_117 h_96 | (have d1 : ¬ (t = 2 ∧ M 34 0 (tn k) < 0) := (fun q => by first | exact h_58 q.1 | exact absurd h_67 (Int32.not_le.mpr q.2)); unfold aLay mLay; rw [if_pos hC, if_neg d1, if_pos ⟨hC, d1⟩, if_neg h_132]; unfold mLay0; first | (have hq := h_96; rw [if_pos hq, if_pos hq]; exact ⟨rfl, rfl⟩) | (have hq := h_96; rw [if_neg hq, if_neg hq]; exact ⟨rfl, rfl⟩))
                      · skip
                        have hK : isS k := by first | exact hK | exact absurd h_132 h_58
                        obtain ⟨ek, lk⟩ := rg_tn hK (n := 3) rfl
                        refine q_aload_n 136 dX6_lay_135 rfl rfl ?_
                        refine q_getR 139 dX6_lay_136 rfl fl_X6_37 (by decide) rfl rfl ?_
                        refine q_iload_n 140 dX6_lay_139 rfl rfl ?_
                        refine q_aload_n 141 dX6_lay_140 rfl rfl ?_
                        refine q_getR 144 dX6_lay_141 rfl fl_X6_22 (by decide) rfl rfl ?_
                        refine q_iload_n 145 dX6_lay_144 rfl rfl ?_
                        refine q_iald 146 dX6_lay_145 rfl (by decide) (by decide) ek (show tn k < 4 by omega) ?_
                        refine q_iast 147 dX6_lay_146 rfl (by decide) (by decide) el (show tn l < 5 by omega) ?_
                        refine q_iconst (v := 0) 148 dX6_lay_147 rfl rfl ?_
                        refine q_istore 150 dX6_lay_148 rfl (by decide) rfl ?_
                        have hC : cLay (M 31 0) l t k := ⟨h_45, by first | exact Or.inl h_1 | exact Or.inr (Or.inl h_6) | exact Or.inr (Or.inr (Or.inl ⟨h_11, h_19⟩)) | exact Or.inr (Or.inr (Or.inr ⟨h_24, h_31⟩))⟩
                        first
                        | exact absurd (h_132.symm.trans h_96) (by decide)
                        | exact absurd h_132 h_58
                        | exact absurd (h_132.symm.trans h_117) (by decide)
                        | (have d1 : ¬ (t = 2 ∧ M 34 0 (tn k) < 0) := fun q => absurd h_67 (Int32.not_le.mpr q.2); have ea : aLay M l t k = M 37 0 (tn l) := (by unfold aLay; rw [if_pos hC, if_neg d1]); have em : mLay M l t k = putA (putA (mLay0 M l t k) 40 0 (upd (M 40 0) (tn l) (M 35 0 (tn k)))) 41 0 (va_cpy (M 36 0) (M 41 0) (24 * tn k) (24 * tn l) 24) := (by unfold mLay; rw [if_pos ⟨hC, d1⟩, if_pos h_132]); rw [ea, em]; unfold mLay0; rw [if_neg h_96, if_neg h_96]; refine q_eqM ?_ (TR_post (q_fg (l6_lay (putA (putA (putA (putA M 37 0 (upd (M 37 0) (tn l) t)) 38 0 (upd (M 38 0) (tn l) k)) 39 0 (upd (M 39 0) (tn l) 0)) 40 0 (upd (M 40 0) (tn l) (M 35 0 (tn k)))) l t k _ _ (tn l) (tn k) el ek (by omega) (by omega) 25 0 0 (by omega) (by omega) rfl) ⟨rfl, rfl, rfl, rfl, rfl, rfl, rfl, trivial⟩) (by rintro _ _ ⟨rfl, rfl⟩; exact ⟨rfl, rfl⟩)); rw [cpy_0]; exact (putA_id _ 41 0).symm)
                    · skip
                      have hM : isM (M 31 0) k := by first | exact hM | exact absurd h_117 h_96
                      obtain ⟨em, lm⟩ := isM_nat hn hn10 hM
                      refine q_aload_n 121 dX6_lay_120 rfl rfl ?_
                      refine q_iload_n 122 dX6_lay_121 rfl rfl ?_
                      refine q_callVt 125 dX6_lay_122 rfl (c6_worth _ _ (M 31 0) (by rfl) (tn k) em (by omega)) cw_X6_130 (by decide) rfl rfl ⟨by decide, by decide⟩ ⟨by decide, by decide⟩ (Nat.le_of_ble_eq_true rfl) ?_
                      refine q_goto 129 dX6_lay_125 rfl ?_
                      refine q_iast 130 dX6_lay_129 rfl (by decide) (by decide) el (show tn l < 5 by omega) ?_
                      refine q_iload_n 131 dX6_lay_130 rfl rfl ?_
                      refine q_iconst (v := 2) 132 dX6_lay_131 rfl rfl ?_
                      refine q_icmp_ne 187 135 dX6_lay_132 rfl rfl (fun h_132 => ?_) (fun h_132 => ?_)
                      · skip
                        refine q_iload 189 dX6_lay_187 rfl rfl ?_
                        refine q_iret dX6_lay_189 ?_
                        have hC : cLay (M 31 0) l t k := ⟨h_45, by first | exact Or.inl h_1 | exact Or.inr (Or.inl h_6) | exact Or.inr (Or.inr (Or.inl ⟨h_11, h_19⟩)) | exact Or.inr (Or.inr (Or.inr ⟨h_24, h_31⟩))⟩
                        first | exact absurd h_58 h_132 | exact absurd h_96 h_117 | exact absurd h_117 h_96 | (have d1 : ¬ (t = 2 ∧ M 34 0 (tn k) < 0) := (fun q => by first | exact h_58 q.1 | exact absurd h_67 (Int32.not_le.mpr q.2)); unfold aLay mLay; rw [if_pos hC, if_neg d1, if_pos ⟨hC, d1⟩, if_neg h_132]; unfold mLay0; first | (have hq := h_96; rw [if_pos hq, if_pos hq]; exact ⟨rfl, rfl⟩) | (have hq := h_96; rw [if_neg hq, if_neg hq]; exact ⟨rfl, rfl⟩))
                      · skip
                        have hK : isS k := by first | exact hK | exact absurd h_132 h_58
                        obtain ⟨ek, lk⟩ := rg_tn hK (n := 3) rfl
                        refine q_aload_n 136 dX6_lay_135 rfl rfl ?_
                        refine q_getR 139 dX6_lay_136 rfl fl_X6_37 (by decide) rfl rfl ?_
                        refine q_iload_n 140 dX6_lay_139 rfl rfl ?_
                        refine q_aload_n 141 dX6_lay_140 rfl rfl ?_
                        refine q_getR 144 dX6_lay_141 rfl fl_X6_22 (by decide) rfl rfl ?_
                        refine q_iload_n 145 dX6_lay_144 rfl rfl ?_
                        refine q_iald 146 dX6_lay_145 rfl (by decide) (by decide) ek (show tn k < 4 by omega) ?_
                        refine q_iast 147 dX6_lay_146 rfl (by decide) (by decide) el (show tn l < 5 by omega) ?_
                        refine q_iconst (v := 0) 148 dX6_lay_147 rfl rfl ?_
                        refine q_istore 150 dX6_lay_148 rfl (by decide) rfl ?_
                        have hC : cLay (M 31 0) l t k := ⟨h_45, by first | exact Or.inl h_1 | exact Or.inr (Or.inl h_6) | exact Or.inr (Or.inr (Or.inl ⟨h_11, h_19⟩)) | exact Or.inr (Or.inr (Or.inr ⟨h_24, h_31⟩))⟩
                        first
                        | exact absurd (h_132.symm.trans h_96) (by decide)
                        | exact absurd h_132 h_58
                        | exact absurd (h_132.symm.trans h_117) (by decide)
                        | (have d1 : ¬ (t = 2 ∧ M 34 0 (tn k) < 0) := fun q => absurd h_67 (Int32.not_le.mpr q.2); have ea : aLay M l t k = M 37 0 (tn l) := (by unfold aLay; rw [if_pos hC, if_neg d1]); have em : mLay M l t k = putA (putA (mLay0 M l t k) 40 0 (upd (M 40 0) (tn l) (M 35 0 (tn k)))) 41 0 (va_cpy (M 36 0) (M 41 0) (24 * tn k) (24 * tn l) 24) := (by unfold mLay; rw [if_pos ⟨hC, d1⟩, if_pos h_132]); rw [ea, em]; unfold mLay0; rw [if_neg h_96, if_neg h_96]; refine q_eqM ?_ (TR_post (q_fg (l6_lay (putA (putA (putA (putA M 37 0 (upd (M 37 0) (tn l) t)) 38 0 (upd (M 38 0) (tn l) k)) 39 0 (upd (M 39 0) (tn l) 0)) 40 0 (upd (M 40 0) (tn l) (M 35 0 (tn k)))) l t k _ _ (tn l) (tn k) el ek (by omega) (by omega) 25 0 0 (by omega) (by omega) rfl) ⟨rfl, rfl, rfl, rfl, rfl, rfl, rfl, trivial⟩) (by rintro _ _ ⟨rfl, rfl⟩; exact ⟨rfl, rfl⟩)); rw [cpy_0]; exact (putA_id _ 41 0).symm)
                · skip
                  have hK : isS k := by first | exact h_31 | exact absurd (h_1.symm.trans h_58) (by decide) | exact absurd (h_6.symm.trans h_58) (by decide) | exact absurd (h_11.symm.trans h_58) (by decide)
                  obtain ⟨ek, lk⟩ := rg_tn hK (n := 3) rfl
                  refine q_aload_n 62 dX6_lay_61 rfl rfl ?_
                  refine q_getR 65 dX6_lay_62 rfl fl_X6_19 (by decide) rfl rfl ?_
                  refine q_iload_n 66 dX6_lay_65 rfl rfl ?_
                  refine q_iald 67 dX6_lay_66 rfl (by decide) (by decide) ek (show tn k < 4 by omega) ?_
                  refine q_if_ge 74 70 dX6_lay_67 rfl rfl (fun h_67 => ?_) (fun h_67 => ?_)
                  · skip
                    refine q_aload_n 75 dX6_lay_74 rfl rfl ?_
                    refine q_getR 78 dX6_lay_75 rfl fl_X6_28 (by decide) rfl rfl ?_
                    refine q_iload_n 79 dX6_lay_78 rfl rfl ?_
                    refine q_iald 80 dX6_lay_79 rfl (by decide) (by decide) el (show tn l < 5 by omega) ?_
                    refine q_istore 82 dX6_lay_80 rfl (by decide) rfl ?_
                    refine q_aload_n 83 dX6_lay_82 rfl rfl ?_
                    refine q_getR 86 dX6_lay_83 rfl fl_X6_28 (by decide) rfl rfl ?_
                    refine q_iload_n 87 dX6_lay_86 rfl rfl ?_
                    refine q_iload_n 88 dX6_lay_87 rfl rfl ?_
                    refine q_iast 89 dX6_lay_88 rfl (by decide) (by decide) el (show tn l < 5 by omega) ?_
                    refine q_aload_n 90 dX6_lay_89 rfl rfl ?_
                    refine q_getR 93 dX6_lay_90 rfl fl_X6_31 (by decide) rfl rfl ?_
                    refine q_iload_n 94 dX6_lay_93 rfl rfl ?_
                    refine q_iload_n 95 dX6_lay_94 rfl rfl ?_
                    refine q_iconst (v := 1) 96 dX6_lay_95 rfl rfl ?_
                    refine q_icmp_ne 108 99 dX6_lay_96 rfl rfl (fun h_96 => ?_) (fun h_96 => ?_)
                    · skip
                      refine q_iload_n 109 dX6_lay_108 rfl rfl ?_
                      refine q_iast 110 dX6_lay_109 rfl (by decide) (by decide) el (show tn l < 5 by omega) ?_
                      refine q_aload_n 111 dX6_lay_110 rfl rfl ?_
                      refine q_getR 114 dX6_lay_111 rfl fl_X6_34 (by decide) rfl rfl ?_
                      refine q_iload_n 115 dX6_lay_114 rfl rfl ?_
                      refine q_iload_n 116 dX6_lay_115 rfl rfl ?_
                      refine q_iconst (v := 1) 117 dX6_lay_116 rfl rfl ?_
                      refine q_icmp_ne 128 120 dX6_lay_117 rfl rfl (fun h_117 => ?_) (fun h_117 => ?_)
                      · skip
                        refine q_iconst (v := 0) 129 dX6_lay_128 rfl rfl ?_
                        refine q_iast 130 dX6_lay_129 rfl (by decide) (by decide) el (show tn l < 5 by omega) ?_
                        refine q_iload_n 131 dX6_lay_130 rfl rfl ?_
                        refine q_iconst (v := 2) 132 dX6_lay_131 rfl rfl ?_
                        refine q_icmp_ne 187 135 dX6_lay_132 rfl rfl (fun h_132 => ?_) (fun h_132 => ?_)
                        · skip
                          refine q_iload 189 dX6_lay_187 rfl rfl ?_
                          refine q_iret dX6_lay_189 ?_
                          have hC : cLay (M 31 0) l t k := ⟨h_45, by first | exact Or.inl h_1 | exact Or.inr (Or.inl h_6) | exact Or.inr (Or.inr (Or.inl ⟨h_11, h_19⟩)) | exact Or.inr (Or.inr (Or.inr ⟨h_24, h_31⟩))⟩
                          first | exact absurd h_58 h_132 | exact absurd h_96 h_117 | exact absurd h_117 h_96 | (have d1 : ¬ (t = 2 ∧ M 34 0 (tn k) < 0) := (fun q => by first | exact h_58 q.1 | exact absurd h_67 (Int32.not_le.mpr q.2)); unfold aLay mLay; rw [if_pos hC, if_neg d1, if_pos ⟨hC, d1⟩, if_neg h_132]; unfold mLay0; first | (have hq := h_96; rw [if_pos hq, if_pos hq]; exact ⟨rfl, rfl⟩) | (have hq := h_96; rw [if_neg hq, if_neg hq]; exact ⟨rfl, rfl⟩))
                        · skip
                          have hK : isS k := by first | exact hK | exact absurd h_132 h_58
                          obtain ⟨ek, lk⟩ := rg_tn hK (n := 3) rfl
                          refine q_aload_n 136 dX6_lay_135 rfl rfl ?_
                          refine q_getR 139 dX6_lay_136 rfl fl_X6_37 (by decide) rfl rfl ?_
                          refine q_iload_n 140 dX6_lay_139 rfl rfl ?_
                          refine q_aload_n 141 dX6_lay_140 rfl rfl ?_
                          refine q_getR 144 dX6_lay_141 rfl fl_X6_22 (by decide) rfl rfl ?_
                          refine q_iload_n 145 dX6_lay_144 rfl rfl ?_
                          refine q_iald 146 dX6_lay_145 rfl (by decide) (by decide) ek (show tn k < 4 by omega) ?_
                          refine q_iast 147 dX6_lay_146 rfl (by decide) (by decide) el (show tn l < 5 by omega) ?_
                          refine q_iconst (v := 0) 148 dX6_lay_147 rfl rfl ?_
                          refine q_istore 150 dX6_lay_148 rfl (by decide) rfl ?_
                          have hC : cLay (M 31 0) l t k := ⟨h_45, by first | exact Or.inl h_1 | exact Or.inr (Or.inl h_6) | exact Or.inr (Or.inr (Or.inl ⟨h_11, h_19⟩)) | exact Or.inr (Or.inr (Or.inr ⟨h_24, h_31⟩))⟩
                          first
                          | exact absurd (h_132.symm.trans h_96) (by decide)
                          | exact absurd h_132 h_58
                          | exact absurd (h_132.symm.trans h_117) (by decide)
                          | (have d1 : ¬ (t = 2 ∧ M 34 0 (tn k) < 0) := fun q => absurd h_67 (Int32.not_le.mpr q.2); have ea : aLay M l t k = M 37 0 (tn l) := (by unfold aLay; rw [if_pos hC, if_neg d1]); have em : mLay M l t k = putA (putA (mLay0 M l t k) 40 0 (upd (M 40 0) (tn l) (M 35 0 (tn k)))) 41 0 (va_cpy (M 36 0) (M 41 0) (24 * tn k) (24 * tn l) 24) := (by unfold mLay; rw [if_pos ⟨hC, d1⟩, if_pos h_132]); rw [ea, em]; unfold mLay0; rw [if_neg h_96, if_neg h_96]; refine q_eqM ?_ (TR_post (q_fg (l6_lay (putA (putA (putA (putA M 37 0 (upd (M 37 0) (tn l) t)) 38 0 (upd (M 38 0) (tn l) k)) 39 0 (upd (M 39 0) (tn l) 0)) 40 0 (upd (M 40 0) (tn l) (M 35 0 (tn k)))) l t k _ _ (tn l) (tn k) el ek (by omega) (by omega) 25 0 0 (by omega) (by omega) rfl) ⟨rfl, rfl, rfl, rfl, rfl, rfl, rfl, trivial⟩) (by rintro _ _ ⟨rfl, rfl⟩; exact ⟨rfl, rfl⟩)); rw [cpy_0]; exact (putA_id _ 41 0).symm)
                      · skip
                        have hM : isM (M 31 0) k := by first | exact hM | exact absurd h_117 h_96
                        obtain ⟨em, lm⟩ := isM_nat hn hn10 hM
                        refine q_aload_n 121 dX6_lay_120 rfl rfl ?_
                        refine q_iload_n 122 dX6_lay_121 rfl rfl ?_
                        refine q_callVt 125 dX6_lay_122 rfl (c6_worth _ _ (M 31 0) (by rfl) (tn k) em (by omega)) cw_X6_130 (by decide) rfl rfl ⟨by decide, by decide⟩ ⟨by decide, by decide⟩ (Nat.le_of_ble_eq_true rfl) ?_
                        refine q_goto 129 dX6_lay_125 rfl ?_
                        refine q_iast 130 dX6_lay_129 rfl (by decide) (by decide) el (show tn l < 5 by omega) ?_
                        refine q_iload_n 131 dX6_lay_130 rfl rfl ?_
                        refine q_iconst (v := 2) 132 dX6_lay_131 rfl rfl ?_
                        refine q_icmp_ne 187 135 dX6_lay_132 rfl rfl (fun h_132 => ?_) (fun h_132 => ?_)
                        · skip
                          refine q_iload 189 dX6_lay_187 rfl rfl ?_
                          refine q_iret dX6_lay_189 ?_
                          have hC : cLay (M 31 0) l t k := ⟨h_45, by first | exact Or.inl h_1 | exact Or.inr (Or.inl h_6) | exact Or.inr (Or.inr (Or.inl ⟨h_11, h_19⟩)) | exact Or.inr (Or.inr (Or.inr ⟨h_24, h_31⟩))⟩
                          first | exact absurd h_58 h_132 | exact absurd h_96 h_117 | exact absurd h_117 h_96 | (have d1 : ¬ (t = 2 ∧ M 34 0 (tn k) < 0) := (fun q => by first | exact h_58 q.1 | exact absurd h_67 (Int32.not_le.mpr q.2)); unfold aLay mLay; rw [if_pos hC, if_neg d1, if_pos ⟨hC, d1⟩, if_neg h_132]; unfold mLay0; first | (have hq := h_96; rw [if_pos hq, if_pos hq]; exact ⟨rfl, rfl⟩) | (have hq := h_96; rw [if_neg hq, if_neg hq]; exact ⟨rfl, rfl⟩))
                        · skip
                          have hK : isS k := by first | exact hK | exact absurd h_132 h_58
                          obtain ⟨ek, lk⟩ := rg_tn hK (n := 3) rfl
                          refine q_aload_n 136 dX6_lay_135 rfl rfl ?_
                          refine q_getR 139 dX6_lay_136 rfl fl_X6_37 (by decide) rfl rfl ?_
                          refine q_iload_n 140 dX6_lay_139 rfl rfl ?_
                          refine q_aload_n 141 dX6_lay_140 rfl rfl ?_
                          refine q_getR 144 dX6_lay_141 rfl fl_X6_22 (by decide) rfl rfl ?_
                          refine q_iload_n 145 dX6_lay_144 rfl rfl ?_
                          refine q_iald 146 dX6_lay_145 rfl (by decide) (by decide) ek (show tn k < 4 by omega) ?_
                          refine q_iast 147 dX6_lay_146 rfl (by decide) (by decide) el (show tn l < 5 by omega) ?_
                          refine q_iconst (v := 0) 148 dX6_lay_147 rfl rfl ?_
                          refine q_istore 150 dX6_lay_148 rfl (by decide) rfl ?_
                          have hC : cLay (M 31 0) l t k := ⟨h_45, by first | exact Or.inl h_1 | exact Or.inr (Or.inl h_6) | exact Or.inr (Or.inr (Or.inl ⟨h_11, h_19⟩)) | exact Or.inr (Or.inr (Or.inr ⟨h_24, h_31⟩))⟩
                          first
                          | exact absurd (h_132.symm.trans h_96) (by decide)
                          | exact absurd h_132 h_58
                          | exact absurd (h_132.symm.trans h_117) (by decide)
                          | (have d1 : ¬ (t = 2 ∧ M 34 0 (tn k) < 0) := fun q => absurd h_67 (Int32.not_le.mpr q.2); have ea : aLay M l t k = M 37 0 (tn l) := (by unfold aLay; rw [if_pos hC, if_neg d1]); have em : mLay M l t k = putA (putA (mLay0 M l t k) 40 0 (upd (M 40 0) (tn l) (M 35 0 (tn k)))) 41 0 (va_cpy (M 36 0) (M 41 0) (24 * tn k) (24 * tn l) 24) := (by unfold mLay; rw [if_pos ⟨hC, d1⟩, if_pos h_132]); rw [ea, em]; unfold mLay0; rw [if_neg h_96, if_neg h_96]; refine q_eqM ?_ (TR_post (q_fg (l6_lay (putA (putA (putA (putA M 37 0 (upd (M 37 0) (tn l) t)) 38 0 (upd (M 38 0) (tn l) k)) 39 0 (upd (M 39 0) (tn l) 0)) 40 0 (upd (M 40 0) (tn l) (M 35 0 (tn k)))) l t k _ _ (tn l) (tn k) el ek (by omega) (by omega) 25 0 0 (by omega) (by omega) rfl) ⟨rfl, rfl, rfl, rfl, rfl, rfl, rfl, trivial⟩) (by rintro _ _ ⟨rfl, rfl⟩; exact ⟨rfl, rfl⟩)); rw [cpy_0]; exact (putA_id _ 41 0).symm)
                    · skip
                      have hM : isM (M 31 0) k := by first | exact h_19 | exact absurd (h_1.symm.trans h_96) (by decide) | exact absurd (h_6.symm.trans h_96) (by decide) | exact absurd (h_24.symm.trans h_96) (by decide)
                      obtain ⟨em, lm⟩ := isM_nat hn hn10 hM
                      refine q_aload_n 100 dX6_lay_99 rfl rfl ?_
                      refine q_iload_n 101 dX6_lay_100 rfl rfl ?_
                      refine q_iconst (v := 0) 102 dX6_lay_101 rfl rfl ?_
                      refine q_callVt 105 dX6_lay_102 rfl (c6_of _ _ _ (tn k) 0 em rfl (by omega)) cw_X6_72 (by decide) rfl rfl ⟨by decide, by decide⟩ ⟨by decide, by decide⟩ (Nat.le_of_ble_eq_true rfl) ?_
                      refine q_goto 109 dX6_lay_105 rfl ?_
                      refine q_iast 110 dX6_lay_109 rfl (by decide) (by decide) el (show tn l < 5 by omega) ?_
                      refine q_aload_n 111 dX6_lay_110 rfl rfl ?_
                      refine q_getR 114 dX6_lay_111 rfl fl_X6_34 (by decide) rfl rfl ?_
                      refine q_iload_n 115 dX6_lay_114 rfl rfl ?_
                      refine q_iload_n 116 dX6_lay_115 rfl rfl ?_
                      refine q_iconst (v := 1) 117 dX6_lay_116 rfl rfl ?_
                      refine q_icmp_ne 128 120 dX6_lay_117 rfl rfl (fun h_117 => ?_) (fun h_117 => ?_)
                      · skip
                        refine q_iconst (v := 0) 129 dX6_lay_128 rfl rfl ?_
                        refine q_iast 130 dX6_lay_129 rfl (by decide) (by decide) el (show tn l < 5 by omega) ?_
                        refine q_iload_n 131 dX6_lay_130 rfl rfl ?_
                        refine q_iconst (v := 2) 132 dX6_lay_131 rfl rfl ?_
                        refine q_icmp_ne 187 135 dX6_lay_132 rfl rfl (fun h_132 => ?_) (fun h_132 => ?_)
                        · skip
                          refine q_iload 189 dX6_lay_187 rfl rfl ?_
                          refine q_iret dX6_lay_189 ?_
                          have hC : cLay (M 31 0) l t k := ⟨h_45, by first | exact Or.inl h_1 | exact Or.inr (Or.inl h_6) | exact Or.inr (Or.inr (Or.inl ⟨h_11, h_19⟩)) | exact Or.inr (Or.inr (Or.inr ⟨h_24, h_31⟩))⟩
                          first | exact absurd h_58 h_132 | exact absurd h_96 h_117 | exact absurd h_117 h_96 | (have d1 : ¬ (t = 2 ∧ M 34 0 (tn k) < 0) := (fun q => by first | exact h_58 q.1 | exact absurd h_67 (Int32.not_le.mpr q.2)); unfold aLay mLay; rw [if_pos hC, if_neg d1, if_pos ⟨hC, d1⟩, if_neg h_132]; unfold mLay0; first | (have hq := h_96; rw [if_pos hq, if_pos hq]; exact ⟨rfl, rfl⟩) | (have hq := h_96; rw [if_neg hq, if_neg hq]; exact ⟨rfl, rfl⟩))
                        · skip
                          have hK : isS k := by first | exact hK | exact absurd h_132 h_58
                          obtain ⟨ek, lk⟩ := rg_tn hK (n := 3) rfl
                          refine q_aload_n 136 dX6_lay_135 rfl rfl ?_
                          refine q_getR 139 dX6_lay_136 rfl fl_X6_37 (by decide) rfl rfl ?_
                          refine q_iload_n 140 dX6_lay_139 rfl rfl ?_
                          refine q_aload_n 141 dX6_lay_140 rfl rfl ?_
                          refine q_getR 144 dX6_lay_141 rfl fl_X6_22 (by decide) rfl rfl ?_
                          refine q_iload_n 145 dX6_lay_144 rfl rfl ?_
                          refine q_iald 146 dX6_lay_145 rfl (by decide) (by decide) ek (show tn k < 4 by omega) ?_
                          refine q_iast 147 dX6_lay_146 rfl (by decide) (by decide) el (show tn l < 5 by omega) ?_
                          refine q_iconst (v := 0) 148 dX6_lay_147 rfl rfl ?_
                          refine q_istore 150 dX6_lay_148 rfl (by decide) rfl ?_
                          have hC : cLay (M 31 0) l t k := ⟨h_45, by first | exact Or.inl h_1 | exact Or.inr (Or.inl h_6) | exact Or.inr (Or.inr (Or.inl ⟨h_11, h_19⟩)) | exact Or.inr (Or.inr (Or.inr ⟨h_24, h_31⟩))⟩
                          first
                          | exact absurd (h_132.symm.trans h_96) (by decide)
                          | exact absurd h_132 h_58
                          | exact absurd (h_132.symm.trans h_117) (by decide)
                          | (have d1 : ¬ (t = 2 ∧ M 34 0 (tn k) < 0) := fun q => absurd h_67 (Int32.not_le.mpr q.2); have ea : aLay M l t k = M 37 0 (tn l) := (by unfold aLay; rw [if_pos hC, if_neg d1]); have em : mLay M l t k = putA (putA (mLay0 M l t k) 40 0 (upd (M 40 0) (tn l) (M 35 0 (tn k)))) 41 0 (va_cpy (M 36 0) (M 41 0) (24 * tn k) (24 * tn l) 24) := (by unfold mLay; rw [if_pos ⟨hC, d1⟩, if_pos h_132]); rw [ea, em]; unfold mLay0; rw [if_neg h_96, if_neg h_96]; refine q_eqM ?_ (TR_post (q_fg (l6_lay (putA (putA (putA (putA M 37 0 (upd (M 37 0) (tn l) t)) 38 0 (upd (M 38 0) (tn l) k)) 39 0 (upd (M 39 0) (tn l) 0)) 40 0 (upd (M 40 0) (tn l) (M 35 0 (tn k)))) l t k _ _ (tn l) (tn k) el ek (by omega) (by omega) 25 0 0 (by omega) (by omega) rfl) ⟨rfl, rfl, rfl, rfl, rfl, rfl, rfl, trivial⟩) (by rintro _ _ ⟨rfl, rfl⟩; exact ⟨rfl, rfl⟩)); rw [cpy_0]; exact (putA_id _ 41 0).symm)
                      · skip
                        have hM : isM (M 31 0) k := by first | exact hM | exact absurd h_117 h_96
                        obtain ⟨em, lm⟩ := isM_nat hn hn10 hM
                        refine q_aload_n 121 dX6_lay_120 rfl rfl ?_
                        refine q_iload_n 122 dX6_lay_121 rfl rfl ?_
                        refine q_callVt 125 dX6_lay_122 rfl (c6_worth _ _ (M 31 0) (by rfl) (tn k) em (by omega)) cw_X6_130 (by decide) rfl rfl ⟨by decide, by decide⟩ ⟨by decide, by decide⟩ (Nat.le_of_ble_eq_true rfl) ?_
                        refine q_goto 129 dX6_lay_125 rfl ?_
                        refine q_iast 130 dX6_lay_129 rfl (by decide) (by decide) el (show tn l < 5 by omega) ?_
                        refine q_iload_n 131 dX6_lay_130 rfl rfl ?_
                        refine q_iconst (v := 2) 132 dX6_lay_131 rfl rfl ?_
                        refine q_icmp_ne 187 135 dX6_lay_132 rfl rfl (fun h_132 => ?_) (fun h_132 => ?_)
                        · skip
                          refine q_iload 189 dX6_lay_187 rfl rfl ?_
                          refine q_iret dX6_lay_189 ?_
                          have hC : cLay (M 31 0) l t k := ⟨h_45, by first | exact Or.inl h_1 | exact Or.inr (Or.inl h_6) | exact Or.inr (Or.inr (Or.inl ⟨h_11, h_19⟩)) | exact Or.inr (Or.inr (Or.inr ⟨h_24, h_31⟩))⟩
                          first | exact absurd h_58 h_132 | exact absurd h_96 h_117 | exact absurd h_117 h_96 | (have d1 : ¬ (t = 2 ∧ M 34 0 (tn k) < 0) := (fun q => by first | exact h_58 q.1 | exact absurd h_67 (Int32.not_le.mpr q.2)); unfold aLay mLay; rw [if_pos hC, if_neg d1, if_pos ⟨hC, d1⟩, if_neg h_132]; unfold mLay0; first | (have hq := h_96; rw [if_pos hq, if_pos hq]; exact ⟨rfl, rfl⟩) | (have hq := h_96; rw [if_neg hq, if_neg hq]; exact ⟨rfl, rfl⟩))
                        · skip
                          have hK : isS k := by first | exact hK | exact absurd h_132 h_58
                          obtain ⟨ek, lk⟩ := rg_tn hK (n := 3) rfl
                          refine q_aload_n 136 dX6_lay_135 rfl rfl ?_
                          refine q_getR 139 dX6_lay_136 rfl fl_X6_37 (by decide) rfl rfl ?_
                          refine q_iload_n 140 dX6_lay_139 rfl rfl ?_
                          refine q_aload_n 141 dX6_lay_140 rfl rfl ?_
                          refine q_getR 144 dX6_lay_141 rfl fl_X6_22 (by decide) rfl rfl ?_
                          refine q_iload_n 145 dX6_lay_144 rfl rfl ?_
                          refine q_iald 146 dX6_lay_145 rfl (by decide) (by decide) ek (show tn k < 4 by omega) ?_
                          refine q_iast 147 dX6_lay_146 rfl (by decide) (by decide) el (show tn l < 5 by omega) ?_
                          refine q_iconst (v := 0) 148 dX6_lay_147 rfl rfl ?_
                          refine q_istore 150 dX6_lay_148 rfl (by decide) rfl ?_
                          have hC : cLay (M 31 0) l t k := ⟨h_45, by first | exact Or.inl h_1 | exact Or.inr (Or.inl h_6) | exact Or.inr (Or.inr (Or.inl ⟨h_11, h_19⟩)) | exact Or.inr (Or.inr (Or.inr ⟨h_24, h_31⟩))⟩
                          first
                          | exact absurd (h_132.symm.trans h_96) (by decide)
                          | exact absurd h_132 h_58
                          | exact absurd (h_132.symm.trans h_117) (by decide)
                          | (have d1 : ¬ (t = 2 ∧ M 34 0 (tn k) < 0) := fun q => absurd h_67 (Int32.not_le.mpr q.2); have ea : aLay M l t k = M 37 0 (tn l) := (by unfold aLay; rw [if_pos hC, if_neg d1]); have em : mLay M l t k = putA (putA (mLay0 M l t k) 40 0 (upd (M 40 0) (tn l) (M 35 0 (tn k)))) 41 0 (va_cpy (M 36 0) (M 41 0) (24 * tn k) (24 * tn l) 24) := (by unfold mLay; rw [if_pos ⟨hC, d1⟩, if_pos h_132]); rw [ea, em]; unfold mLay0; rw [if_neg h_96, if_neg h_96]; refine q_eqM ?_ (TR_post (q_fg (l6_lay (putA (putA (putA (putA M 37 0 (upd (M 37 0) (tn l) t)) 38 0 (upd (M 38 0) (tn l) k)) 39 0 (upd (M 39 0) (tn l) 0)) 40 0 (upd (M 40 0) (tn l) (M 35 0 (tn k)))) l t k _ _ (tn l) (tn k) el ek (by omega) (by omega) 25 0 0 (by omega) (by omega) rfl) ⟨rfl, rfl, rfl, rfl, rfl, rfl, rfl, trivial⟩) (by rintro _ _ ⟨rfl, rfl⟩; exact ⟨rfl, rfl⟩)); rw [cpy_0]; exact (putA_id _ 41 0).symm)
                  · skip
                    refine q_ldc_w 73 dX6_lay_70 rfl cs_X6_319 ?_
                    refine q_iret dX6_lay_73 ?_
                    have hC : cLay (M 31 0) l t k := ⟨h_45, by first | exact Or.inl h_1 | exact Or.inr (Or.inl h_6) | exact Or.inr (Or.inr (Or.inl ⟨h_11, h_19⟩)) | exact Or.inr (Or.inr (Or.inr ⟨h_24, h_31⟩))⟩
                    have d2 : t = 2 ∧ M 34 0 (tn k) < 0 := ⟨h_58, Int32.not_le.mp h_67⟩
                    unfold aLay mLay
                    rw [if_pos hC, if_pos d2, if_neg (fun q => q.2 d2)]
                    exact ⟨rfl, rfl⟩
