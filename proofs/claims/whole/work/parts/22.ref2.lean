theorem ix_pre {h : Nat} (h1 : 1 ≤ h) : nI h - 1 = nI (h - 1) := by
  obtain ⟨b, rfl⟩ : ∃ b, h = b + 1 := ⟨h - 1, by omega⟩
  rw [nI_pred, Nat.add_sub_cancel]
theorem ix_pre2 {h : Nat} (h1 : 2 ≤ h) : nI (h - 1) - 1 = nI (h - 2) := by
  rw [ix_pre (by omega)]; congr 1
theorem ix_m1 {h : Nat} (h1 : 1 ≤ h) : nI h + (-1) = nI (h - 1) := by
  obtain ⟨b, rfl⟩ : ∃ b, h = b + 1 := ⟨h - 1, by omega⟩
  rw [pk_m1, Nat.add_sub_cancel]
theorem hgt_s (s : SS) (b k : Nat) : hgt s b (k + 1) = if s (b + 2 * k) = 2 then (if s (b + 2 * k + 1) = 33 then hgt s b k else hgt s b k - 1) else hgt s b k + 1 := rfl
theorem pil_s (nm : Int32 → Int32) (s : SS) (b : Nat) (p0 : Nat → Int32) (k : Nat) : pil nm s b p0 (k + 1) = if s (b + 2 * k) = 2 then (if s (b + 2 * k + 1) = 33 then upd (pil nm s b p0 k) (hgt s b k - 1) (if pil nm s b p0 k (hgt s b k - 1) = 0 then 1 else 0)
      else upd (pil nm s b p0 k) (hgt s b k - 2) (joF (s (b + 2 * k + 1)) (pil nm s b p0 k (hgt s b k - 2)) (pil nm s b p0 k (hgt s b k - 1))))
    else upd (pil nm s b p0 k) (hgt s b k) (if s (b + 2 * k) = 0 then s (b + 2 * k + 1) else nm (s (b + 2 * k + 1))) := rfl
theorem ix_w2 {t : Nat} {x : Int32} (hx : x = nI t) : 71 + 200 * x + 2 = nI (73 + 200 * t) := by
  rw [ix_tx hx, show (2 : Int32) = nI 2 from rfl, nI_add]; congr 1; omega
theorem ix_w4 {t k : Nat} {x : Int32} (hx : x = nI t) : 71 + 200 * x + 4 + 2 * nI k = nI (75 + 200 * t + 2 * k) := by
  rw [ix_tx hx, show (4 : Int32) = nI 4 from rfl, show (2 : Int32) = nI 2 from rfl, pk_mul, nI_add, nI_add]; congr 1; omega
theorem ix_w5 {t k : Nat} {x : Int32} (hx : x = nI t) : 71 + 200 * x + 4 + 2 * nI k + 1 = nI (75 + 200 * t + 2 * k + 1) := by
  rw [ix_w4 hx, nI_1]
theorem eM_pp {M M' : TM} {t k : Nat} {f f2 : Nat → Int32} (h : M' = putA M t k f2) : putA (putA M t k f) t k f2 = M' := by rw [putA_pp, h]
set_option maxRecDepth 100000 in
set_option maxHeartbeats 4000000 in
theorem l6_worked {g : GT} (M : TM) (x : Int32) (t m : Nat) (hx : x = nI t) (ht : t < 14) (s : SS) (hs : M 31 0 = s) (nm : Int32 → Int32) (hnm : ∀ c, c < 128 → nm (nI c) = M 44 0 c) (key : Int32) (hm : m ≤ 96) (hM : s (73 + 200 * t) = nI m) (hw : wfS s key (75 + 200 * t) m) : ∀ (j : Nat) (k : Nat) (y z : Int32), m - k < j → k ≤ m → y = nI (hgt s (75 + 200 * t) k) → z = nI k → TR g (rmD 1) RX6 cX6_worked 6 (some .int) 0 0 (Zm g (fun r M' => r = some (.int ((pil nm s (75 + 200 * t) (M 45 0) m) 0)) ∧ ∃ p, M' = putA M 45 0 p)) 4 [some (.ref (gad g 6 0)), some (.int x), some (.int y), some (.int z), none, none] [] (putA M 45 0 (pil nm s (75 + 200 * t) (M 45 0) k)) := by
  intro j
  induction j with
  | zero => intro k y z hj hkn hy hz; exact absurd hj (by omega)
  | succ j ih =>
    intro k y z hj hkn hy hz
    subst hs; subst hz; subst hy
    have hh := hgt_le (M 31 0) (75 + 200 * t) k
    refine q_iload_n 5 dX6_worked_4 rfl rfl ?_
    refine q_aload_n 6 dX6_worked_5 rfl rfl ?_
    refine q_getR 9 dX6_worked_6 rfl fl_X6_7 (by decide) rfl rfl ?_
    refine q_aload_n 10 dX6_worked_9 rfl rfl ?_
    refine q_iload_n 11 dX6_worked_10 rfl rfl ?_
    refine q_callVt 14 dX6_worked_11 rfl (c6_textAt _ _) cw_X6_294 (by decide) rfl rfl ⟨by decide, by decide⟩ ⟨by decide, by decide⟩ (Nat.le_of_ble_eq_true rfl) ?_
    refine q_iconst (v := 2) 15 dX6_worked_14 rfl rfl ?_
    refine q_iadd 16 dX6_worked_15 rfl ?_
    refine q_iald 17 dX6_worked_16 rfl (by decide) (by decide) (ix_w2 hx) (show 73 + 200 * t < 3071 by omega) ?_
    refine q_icmp_ge 163 20 dX6_worked_17 rfl rfl (fun h_17 => ?_) (fun h_17 => ?_)
    · skip
      replace h_17 : nI m ≤ nI k := by rw [← hM]; exact h_17
      rw [nI_leI (by omega) (by omega)] at h_17
      have e : k = m := by omega
      subst e
      refine q_aload_n 164 dX6_worked_163 rfl rfl ?_
      refine q_getR 167 dX6_worked_164 rfl fl_X6_52 (by decide) rfl rfl ?_
      refine q_iconst (v := 0) 168 dX6_worked_167 rfl rfl ?_
      refine q_iald 169 dX6_worked_168 rfl (by decide) (by decide) rfl (by decide) ?_
      refine q_iret dX6_worked_169 ?_
      exact ⟨rfl, _, rfl⟩
    · skip
      replace h_17 : ¬ nI m ≤ nI k := by rw [← hM]; exact h_17
      rw [nI_leI (by omega) (by omega)] at h_17
      obtain ⟨w1, w2⟩ := hw k (by omega)
      refine q_aload_n 21 dX6_worked_20 rfl rfl ?_
      refine q_getR 24 dX6_worked_21 rfl fl_X6_7 (by decide) rfl rfl ?_
      refine q_aload_n 25 dX6_worked_24 rfl rfl ?_
      refine q_iload_n 26 dX6_worked_25 rfl rfl ?_
      refine q_callVt 29 dX6_worked_26 rfl (c6_textAt _ _) cw_X6_294 (by decide) rfl rfl ⟨by decide, by decide⟩ ⟨by decide, by decide⟩ (Nat.le_of_ble_eq_true rfl) ?_
      refine q_iconst (v := 4) 30 dX6_worked_29 rfl rfl ?_
      refine q_iadd 31 dX6_worked_30 rfl ?_
      refine q_iconst (v := 2) 32 dX6_worked_31 rfl rfl ?_
      refine q_iload_n 33 dX6_worked_32 rfl rfl ?_
      refine q_imul 34 dX6_worked_33 rfl ?_
      refine q_iadd 35 dX6_worked_34 rfl ?_
      refine q_iald 36 dX6_worked_35 rfl (by decide) (by decide) (ix_w4 hx) (show 75 + 200 * t + 2 * k < 3071 by omega) ?_
      refine q_istore 38 dX6_worked_36 rfl (by decide) rfl ?_
      refine q_aload_n 39 dX6_worked_38 rfl rfl ?_
      refine q_getR 42 dX6_worked_39 rfl fl_X6_7 (by decide) rfl rfl ?_
      refine q_aload_n 43 dX6_worked_42 rfl rfl ?_
      refine q_iload_n 44 dX6_worked_43 rfl rfl ?_
      refine q_callVt 47 dX6_worked_44 rfl (c6_textAt _ _) cw_X6_294 (by decide) rfl rfl ⟨by decide, by decide⟩ ⟨by decide, by decide⟩ (Nat.le_of_ble_eq_true rfl) ?_
      refine q_iconst (v := 4) 48 dX6_worked_47 rfl rfl ?_
      refine q_iadd 49 dX6_worked_48 rfl ?_
      refine q_iconst (v := 2) 50 dX6_worked_49 rfl rfl ?_
      refine q_iload_n 51 dX6_worked_50 rfl rfl ?_
      refine q_imul 52 dX6_worked_51 rfl ?_
      refine q_iadd 53 dX6_worked_52 rfl ?_
      refine q_iconst (v := 1) 54 dX6_worked_53 rfl rfl ?_
      refine q_iadd 55 dX6_worked_54 rfl ?_
      refine q_iald 56 dX6_worked_55 rfl (by decide) (by decide) (ix_w5 hx) (show 75 + 200 * t + 2 * k + 1 < 3071 by omega) ?_
      refine q_istore 58 dX6_worked_56 rfl (by decide) rfl ?_
      refine q_iload 60 dX6_worked_58 rfl rfl ?_
      refine q_iconst (v := 2) 61 dX6_worked_60 rfl rfl ?_
      refine q_icmp_eq 93 64 dX6_worked_61 rfl rfl (fun h_61 => ?_) (fun h_61 => ?_)
      · skip
        replace h_61 : M 31 0 (75 + 200 * t + 2 * k) = 2 := h_61
        have w1 := w1 h_61
        refine q_iload 95 dX6_worked_93 rfl rfl ?_
        refine q_bipush (v := 33) 97 dX6_worked_95 rfl rfl ?_
        refine q_icmp_ne 127 100 dX6_worked_97 rfl rfl (fun h_97 => ?_) (fun h_97 => ?_)
        · skip
          replace h_97 : ¬ M 31 0 (75 + 200 * t + 2 * k + 1) = 33 := h_97
          rw [if_neg h_97] at w1
          refine q_iinc 130 dX6_worked_127 rfl rfl (by decide) rfl (ix_m1 (by omega)) ?_
          refine q_aload_n 131 dX6_worked_130 rfl rfl ?_
          refine q_getR 134 dX6_worked_131 rfl fl_X6_52 (by decide) rfl rfl ?_
          refine q_iload_n 135 dX6_worked_134 rfl rfl ?_
          refine q_iconst (v := 1) 136 dX6_worked_135 rfl rfl ?_
          refine q_isub 137 dX6_worked_136 rfl ?_
          refine q_iload 139 dX6_worked_137 rfl rfl ?_
          refine q_aload_n 140 dX6_worked_139 rfl rfl ?_
          refine q_getR 143 dX6_worked_140 rfl fl_X6_52 (by decide) rfl rfl ?_
          refine q_iload_n 144 dX6_worked_143 rfl rfl ?_
          refine q_iconst (v := 1) 145 dX6_worked_144 rfl rfl ?_
          refine q_isub 146 dX6_worked_145 rfl ?_
          refine q_iald 147 dX6_worked_146 rfl (by decide) (by decide) (ix_pre2 w1) (show hgt (M 31 0) (75 + 200 * t) k - 2 < 100 by omega) ?_
          refine q_aload_n 148 dX6_worked_147 rfl rfl ?_
          refine q_getR 151 dX6_worked_148 rfl fl_X6_52 (by decide) rfl rfl ?_
          refine q_iload_n 152 dX6_worked_151 rfl rfl ?_
          refine q_iald 153 dX6_worked_152 rfl (by decide) (by decide) rfl (show hgt (M 31 0) (75 + 200 * t) k - 1 < 100 by omega) ?_
          refine q_callSt 156 dX6_worked_153 rfl (c6_joined _ _ _ _) cw_X6_309 rfl rfl ⟨by decide, by decide⟩ ⟨by decide, by decide⟩ (Nat.le_of_ble_eq_true rfl) ?_
          refine q_iast 157 dX6_worked_156 rfl (by decide) (by decide) (ix_pre2 w1) (show hgt (M 31 0) (75 + 200 * t) k - 2 < 100 by omega) ?_
          refine q_iinc 160 dX6_worked_157 rfl rfl (by decide) rfl (nI_1 k) ?_
          refine q_goto 4 dX6_worked_160 rfl ?_
          refine q_eqM (M' := putA M 45 0 (pil nm (M 31 0) (75 + 200 * t) (M 45 0) (k + 1))) ?_ (q_fg (ih (k + 1) _ _ (by omega) (by omega) ?_ rfl) ⟨rfl, rfl, rfl, rfl, trivial⟩)
          · refine eM_pp (congrArg (putA M 45 0) ?_)
            rw [pil_s]
            first
            | rw [if_pos h_61, if_pos h_97]; simp only [putA_s]; first | (rw [if_pos (show pil nm (M 31 0) (75 + 200 * t) (M 45 0) k (hgt (M 31 0) (75 + 200 * t) k - 1) = 0 from h_115)]; done) | (rw [if_neg (show ¬ pil nm (M 31 0) (75 + 200 * t) (M 45 0) k (hgt (M 31 0) (75 + 200 * t) k - 1) = 0 from h_115)]; done)
            | rw [if_pos h_61, if_neg h_97]; rfl
            | rw [if_neg h_61, if_pos h_71]; rfl
            | rw [if_neg h_61, if_neg h_71, w4, hnm c w3]; rfl
          · rw [hgt_s]
            first | rw [if_pos h_61, if_pos h_97] | rw [if_pos h_61, if_neg h_97] | rw [if_neg h_61]
        · skip
          replace h_97 : M 31 0 (75 + 200 * t + 2 * k + 1) = 33 := h_97
          rw [if_pos h_97] at w1
          refine q_aload_n 101 dX6_worked_100 rfl rfl ?_
          refine q_getR 104 dX6_worked_101 rfl fl_X6_52 (by decide) rfl rfl ?_
          refine q_iload_n 105 dX6_worked_104 rfl rfl ?_
          refine q_iconst (v := 1) 106 dX6_worked_105 rfl rfl ?_
          refine q_isub 107 dX6_worked_106 rfl ?_
          refine q_aload_n 108 dX6_worked_107 rfl rfl ?_
          refine q_getR 111 dX6_worked_108 rfl fl_X6_52 (by decide) rfl rfl ?_
          refine q_iload_n 112 dX6_worked_111 rfl rfl ?_
          refine q_iconst (v := 1) 113 dX6_worked_112 rfl rfl ?_
          refine q_isub 114 dX6_worked_113 rfl ?_
          refine q_iald 115 dX6_worked_114 rfl (by decide) (by decide) (ix_pre (by omega)) (show hgt (M 31 0) (75 + 200 * t) k - 1 < 100 by omega) ?_
          refine q_if_ne 122 118 dX6_worked_115 rfl rfl (fun h_115 => ?_) (fun h_115 => ?_)
          · skip
            refine q_iconst (v := 0) 123 dX6_worked_122 rfl rfl ?_
            refine q_iast 124 dX6_worked_123 rfl (by decide) (by decide) (ix_pre (by omega)) (show hgt (M 31 0) (75 + 200 * t) k - 1 < 100 by omega) ?_
            refine q_goto 157 dX6_worked_124 rfl ?_
            refine q_iinc 160 dX6_worked_157 rfl rfl (by decide) rfl (nI_1 k) ?_
            refine q_goto 4 dX6_worked_160 rfl ?_
            refine q_eqM (M' := putA M 45 0 (pil nm (M 31 0) (75 + 200 * t) (M 45 0) (k + 1))) ?_ (q_fg (ih (k + 1) _ _ (by omega) (by omega) ?_ rfl) ⟨rfl, rfl, rfl, rfl, trivial⟩)
            · refine eM_pp (congrArg (putA M 45 0) ?_)
              rw [pil_s]
              first
              | rw [if_pos h_61, if_pos h_97]; simp only [putA_s]; first | (rw [if_pos (show pil nm (M 31 0) (75 + 200 * t) (M 45 0) k (hgt (M 31 0) (75 + 200 * t) k - 1) = 0 from h_115)]; done) | (rw [if_neg (show ¬ pil nm (M 31 0) (75 + 200 * t) (M 45 0) k (hgt (M 31 0) (75 + 200 * t) k - 1) = 0 from h_115)]; done)
              | rw [if_pos h_61, if_neg h_97]; rfl
              | rw [if_neg h_61, if_pos h_71]; rfl
              | rw [if_neg h_61, if_neg h_71, w4, hnm c w3]; rfl
            · rw [hgt_s]
              first | rw [if_pos h_61, if_pos h_97] | rw [if_pos h_61, if_neg h_97] | rw [if_neg h_61]
          · skip
            refine q_iconst (v := 1) 119 dX6_worked_118 rfl rfl ?_
            refine q_goto 123 dX6_worked_119 rfl ?_
            refine q_iast 124 dX6_worked_123 rfl (by decide) (by decide) (ix_pre (by omega)) (show hgt (M 31 0) (75 + 200 * t) k - 1 < 100 by omega) ?_
            refine q_goto 157 dX6_worked_124 rfl ?_
            refine q_iinc 160 dX6_worked_157 rfl rfl (by decide) rfl (nI_1 k) ?_
            refine q_goto 4 dX6_worked_160 rfl ?_
            refine q_eqM (M' := putA M 45 0 (pil nm (M 31 0) (75 + 200 * t) (M 45 0) (k + 1))) ?_ (q_fg (ih (k + 1) _ _ (by omega) (by omega) ?_ rfl) ⟨rfl, rfl, rfl, rfl, trivial⟩)
            · refine eM_pp (congrArg (putA M 45 0) ?_)
              rw [pil_s]
              first
              | rw [if_pos h_61, if_pos h_97]; simp only [putA_s]; first | (rw [if_pos (show pil nm (M 31 0) (75 + 200 * t) (M 45 0) k (hgt (M 31 0) (75 + 200 * t) k - 1) = 0 from h_115)]; done) | (rw [if_neg (show ¬ pil nm (M 31 0) (75 + 200 * t) (M 45 0) k (hgt (M 31 0) (75 + 200 * t) k - 1) = 0 from h_115)]; done)
              | rw [if_pos h_61, if_neg h_97]; rfl
              | rw [if_neg h_61, if_pos h_71]; rfl
              | rw [if_neg h_61, if_neg h_71, w4, hnm c w3]; rfl
            · rw [hgt_s]
              first | rw [if_pos h_61, if_pos h_97] | rw [if_pos h_61, if_neg h_97] | rw [if_neg h_61]
      · skip
        replace h_61 : ¬ M 31 0 (75 + 200 * t + 2 * k) = 2 := h_61
        have w2 := w2 h_61
        refine q_aload_n 65 dX6_worked_64 rfl rfl ?_
        refine q_getR 68 dX6_worked_65 rfl fl_X6_52 (by decide) rfl rfl ?_
        refine q_iload_n 69 dX6_worked_68 rfl rfl ?_
        refine q_iload 71 dX6_worked_69 rfl rfl ?_
        refine q_if_ne 79 74 dX6_worked_71 rfl rfl (fun h_71 => ?_) (fun h_71 => ?_)
        · skip
          replace h_71 : ¬ M 31 0 (75 + 200 * t + 2 * k) = 0 := h_71
          obtain ⟨c, w3, w4, w5⟩ := w2 h_71
          refine q_aload_n 80 dX6_worked_79 rfl rfl ?_
          refine q_getR 83 dX6_worked_80 rfl fl_X6_49 (by decide) rfl rfl ?_
          refine q_iload 85 dX6_worked_83 rfl rfl ?_
          refine q_iald 86 dX6_worked_85 rfl (by decide) (by decide) w4 w3 ?_
          refine q_iast 87 dX6_worked_86 rfl (by decide) (by decide) rfl (show hgt (M 31 0) (75 + 200 * t) k < 100 by omega) ?_
          refine q_iinc 90 dX6_worked_87 rfl rfl (by decide) rfl (nI_1 _) ?_
          refine q_goto 157 dX6_worked_90 rfl ?_
          refine q_iinc 160 dX6_worked_157 rfl rfl (by decide) rfl (nI_1 k) ?_
          refine q_goto 4 dX6_worked_160 rfl ?_
          refine q_eqM (M' := putA M 45 0 (pil nm (M 31 0) (75 + 200 * t) (M 45 0) (k + 1))) ?_ (q_fg (ih (k + 1) _ _ (by omega) (by omega) ?_ rfl) ⟨rfl, rfl, rfl, rfl, trivial⟩)
          · refine eM_pp (congrArg (putA M 45 0) ?_)
            rw [pil_s]
            first
            | rw [if_pos h_61, if_pos h_97]; simp only [putA_s]; first | (rw [if_pos (show pil nm (M 31 0) (75 + 200 * t) (M 45 0) k (hgt (M 31 0) (75 + 200 * t) k - 1) = 0 from h_115)]; done) | (rw [if_neg (show ¬ pil nm (M 31 0) (75 + 200 * t) (M 45 0) k (hgt (M 31 0) (75 + 200 * t) k - 1) = 0 from h_115)]; done)
            | rw [if_pos h_61, if_neg h_97]; rfl
            | rw [if_neg h_61, if_pos h_71]; rfl
            | rw [if_neg h_61, if_neg h_71, w4, hnm c w3]; rfl
          · rw [hgt_s]
            first | rw [if_pos h_61, if_pos h_97] | rw [if_pos h_61, if_neg h_97] | rw [if_neg h_61]
        · skip
          replace h_71 : M 31 0 (75 + 200 * t + 2 * k) = 0 := h_71
          refine q_iload 76 dX6_worked_74 rfl rfl ?_
          refine q_goto 86 dX6_worked_76 rfl ?_
          refine q_iast 87 dX6_worked_86 rfl (by decide) (by decide) rfl (show hgt (M 31 0) (75 + 200 * t) k < 100 by omega) ?_
          refine q_iinc 90 dX6_worked_87 rfl rfl (by decide) rfl (nI_1 _) ?_
          refine q_goto 157 dX6_worked_90 rfl ?_
          refine q_iinc 160 dX6_worked_157 rfl rfl (by decide) rfl (nI_1 k) ?_
          refine q_goto 4 dX6_worked_160 rfl ?_
          refine q_eqM (M' := putA M 45 0 (pil nm (M 31 0) (75 + 200 * t) (M 45 0) (k + 1))) ?_ (q_fg (ih (k + 1) _ _ (by omega) (by omega) ?_ rfl) ⟨rfl, rfl, rfl, rfl, trivial⟩)
          · refine eM_pp (congrArg (putA M 45 0) ?_)
            rw [pil_s]
            first
            | rw [if_pos h_61, if_pos h_97]; simp only [putA_s]; first | (rw [if_pos (show pil nm (M 31 0) (75 + 200 * t) (M 45 0) k (hgt (M 31 0) (75 + 200 * t) k - 1) = 0 from h_115)]; done) | (rw [if_neg (show ¬ pil nm (M 31 0) (75 + 200 * t) (M 45 0) k (hgt (M 31 0) (75 + 200 * t) k - 1) = 0 from h_115)]; done)
            | rw [if_pos h_61, if_neg h_97]; rfl
            | rw [if_neg h_61, if_pos h_71]; rfl
            | rw [if_neg h_61, if_neg h_71, w4, hnm c w3]; rfl
          · rw [hgt_s]
            first | rw [if_pos h_61, if_pos h_97] | rw [if_pos h_61, if_neg h_97] | rw [if_neg h_61]
set_option maxRecDepth 100000 in
set_option maxHeartbeats 4000000 in
theorem c6_worked {g : GT} (M : TM) (x : Int32) (t m : Nat) (hx : x = nI t) (ht : t < 14) (s : SS) (hs : M 31 0 = s) (nm : Int32 → Int32) (hnm : ∀ c, c < 128 → nm (nI c) = M 44 0 c) (key : Int32) (hm : m ≤ 96) (hg : hgt s (75 + 200 * t) m = 1) (hM : s (73 + 200 * t) = nI m) (hw : wfS s key (75 + 200 * t) m) : Cn g yX6_worked cX6_worked 6 (some .int) 1 [.ref (gad g 6 0), .int x] M (fun r M' => r = some (.int (vaT nm s t)) ∧ ∃ p, M' = putA M 45 0 p) := by
  refine Cn.ofTR (by decide +kernel) (Nat.le_of_ble_eq_true rfl) ?_
  refine q_iconst (v := 0) 1 dX6_worked_0 rfl rfl ?_
  refine q_istore_n 2 dX6_worked_1 rfl (by decide) rfl ?_
  refine q_iconst (v := 0) 3 dX6_worked_2 rfl rfl ?_
  refine q_istore_n 4 dX6_worked_3 rfl (by decide) rfl ?_
  have q := l6_worked (g := g) M x t m hx ht s hs nm hnm key hm hM hw (m + 1) 0 0 0 (by omega) (by omega) rfl rfl
  have e : vaT nm s t = pil nm s (75 + 200 * t) (M 45 0) m 0 := by
    unfold vaT
    rw [hM, nI_clamp (by omega)]
    exact pil_eq hw (fun _ _ => rfl) m (Nat.le_refl _) 0 (by omega)
  rw [e]
  refine q_eqM (putA_id M 45 0).symm (q_fg q ⟨rfl, rfl, rfl, rfl, trivial⟩)
