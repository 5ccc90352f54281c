/-- the reference's memory behind a thought -/
def th (M : TM) (C f f2 : Nat → Int32) (s : SS) : TM := putA (sc (putA M 42 0 C) f f2) 31 0 s
theorem th_th (M : TM) (C f f2 C' f' f2' : Nat → Int32) (s s' : SS) : th (th M C f f2 s) C' f' f2' s' = th M C' f' f2' s' := by
  funext a b
  unfold th sc putA
  by_cases h1 : a = 31 ∧ b = 0
  · simp only [h1]; rfl
  · by_cases h2 : a = 45 ∧ b = 0
    · simp only [h2]; rfl
    · by_cases h3 : a = 44 ∧ b = 0
      · simp only [h3]; rfl
      · by_cases h4 : a = 42 ∧ b = 0
        · simp only [h4]; rfl
        · simp only [h1, h2, h3, h4, if_false]
theorem th_id (M : TM) : th M (M 42 0) (M 44 0) (M 45 0) (M 31 0) = M := by unfold th; rw [putA_id, sc_id, putA_id]
def of1 (a b : Int32) : Int32 := if a < b then b - a else a - b
def ulF (row : Nat → Int32) (s : SS) (one : Nat) : Nat → Int64
  | 0 => 0
  | k + 1 => ulF row s one k + (if row k = NONEc then 0 else (of1 (row k) (mk (goN s k) one 2)).toInt64)
theorem ulF_congr {row row' : Nat → Int32} {s : SS} {one : Nat} : ∀ k, (∀ j, j < k → row j = row' j) → ulF row s one k = ulF row' s one k
  | 0, _ => rfl
  | k + 1, h => by unfold ulF; rw [ulF_congr k (fun j hj => h j (by omega)), h k (by omega)]
set_option maxRecDepth 100000 in
set_option maxHeartbeats 4000000 in
theorem l6_unlike {g : GT} (N : TM) (k x : Int32) (kk z one : Nat) (hk : k = nI kk) (h4 : kk < 4) (hz : z ≤ 24) (ez : N 35 0 kk = nI z) (hx : x = nI one) (h9 : one < 10) (s : SS) (hW : WF 9999 s) (h1 : ∀ i, i < 71 → N 42 0 i = s i) : ∀ (j : Nat) (i : Nat) (u : Int64) (y : Int32) (f f2 : Nat → Int32), z - i < j → i ≤ z → u = ulF (row6 N kk) s one i → y = nI i → TR g (rmD 8) RX6 cX6_unlike 7 (some .long) 0 0 (Zm g (fun r M' => r = some (.long (ulF (row6 N kk) s one z)) ∧ ∃ f f2, M' = putA (sc N f f2) 31 0 s)) 9 [some (.ref (gad g 6 0)), some (.int k), some (.int x), some (.long u), none, some (.int y), none] [] (putA (sc N f f2) 31 0 (goN s i)) := by
  intro j
  induction j with
  | zero => intro i u y f f2 hj hiz hu hy; exact absurd hj (by omega)
  | succ j ih =>
    intro i u y f f2 hj hiz hu hy
    subst hy
    refine q_iload 11 dX6_unlike_9 rfl rfl ?_
    refine q_aload_n 12 dX6_unlike_11 rfl rfl ?_
    refine q_getR 15 dX6_unlike_12 rfl fl_X6_22 (by decide) rfl rfl ?_
    refine q_iload_n 16 dX6_unlike_15 rfl rfl ?_
    refine q_iald 17 dX6_unlike_16 rfl (by decide) (by decide) hk h4 ?_
    refine q_icmp_ge 70 20 dX6_unlike_17 rfl rfl (fun h_17 => ?_) (fun h_17 => ?_)
    · skip
      replace h_17 : nI z ≤ nI i := by rw [← ez]; exact h_17
      rw [nI_leI (by omega) (by omega)] at h_17
      have e : i = z := by omega
      subst e
      refine q_aload_n 71 dX6_unlike_70 rfl rfl ?_
      refine q_callVv 74 dX6_unlike_71 rfl (c6_laysBack' N s (goN s i) f f2 h1 (fun j h => goN_hi hW h i)) cw_X6_197 (by decide) rfl rfl ⟨by decide, by decide⟩ ⟨by decide, by decide⟩ (Nat.le_of_ble_eq_true rfl) ?_
      refine q_lload_n 75 dX6_unlike_74 rfl rfl ?_
      refine q_lret dX6_unlike_75 ?_
      exact ⟨by rw [hu], f, f2, rfl⟩
    · skip
      replace h_17 : ¬ nI z ≤ nI i := by rw [← ez]; exact h_17
      rw [nI_leI (by omega) (by omega)] at h_17
      refine q_aload_n 21 dX6_unlike_20 rfl rfl ?_
      refine q_getR 24 dX6_unlike_21 rfl fl_X6_25 (by decide) rfl rfl ?_
      refine q_bipush (v := 24) 26 dX6_unlike_24 rfl rfl ?_
      refine q_iload_n 27 dX6_unlike_26 rfl rfl ?_
      refine q_imul 28 dX6_unlike_27 rfl ?_
      refine q_iload 30 dX6_unlike_28 rfl rfl ?_
      refine q_iadd 31 dX6_unlike_30 rfl ?_
      refine q_iald 32 dX6_unlike_31 rfl (by decide) (by decide) (ix_24 hk rfl) (show 24 * kk + i < 96 by omega) ?_
      refine q_istore 34 dX6_unlike_32 rfl (by decide) rfl ?_
      refine q_lload_n 35 dX6_unlike_34 rfl rfl ?_
      refine q_iload 37 dX6_unlike_35 rfl rfl ?_
      refine q_ldc 39 dX6_unlike_37 rfl cs_X6_64 ?_
      refine q_icmp_ne 46 42 dX6_unlike_39 rfl rfl (fun h_39 => ?_) (fun h_39 => ?_)
      · skip
        refine q_iload 48 dX6_unlike_46 rfl rfl ?_
        refine q_aload_n 49 dX6_unlike_48 rfl rfl ?_
        refine q_iload_n 50 dX6_unlike_49 rfl rfl ?_
        refine q_iconst (v := 2) 51 dX6_unlike_50 rfl rfl ?_
        refine q_callVt 54 dX6_unlike_51 rfl (c6_of _ _ _ one 2 hx rfl (by omega)) cw_X6_72 (by decide) rfl rfl ⟨by decide, by decide⟩ ⟨by decide, by decide⟩ (Nat.le_of_ble_eq_true rfl) ?_
        refine q_callSt 57 dX6_unlike_54 rfl (c6_off _ _ _) cw_X6_323 rfl rfl ⟨by decide, by decide⟩ ⟨by decide, by decide⟩ (Nat.le_of_ble_eq_true rfl) ?_
        refine q_i2l 58 dX6_unlike_57 rfl ?_
        refine q_ladd 59 dX6_unlike_58 rfl ?_
        refine q_lstore_n 60 dX6_unlike_59 rfl (by decide) rfl ?_
        refine q_aload_n 61 dX6_unlike_60 rfl rfl ?_
        refine q_callV 64 dX6_unlike_61 rfl (c6_goesOn _ (goN s i) (by rfl) (9999 + i) (goN_WF hW i) (by omega)) cw_X6_179 (by decide) rfl rfl ⟨by decide, by decide⟩ ⟨by decide, by decide⟩ (Nat.le_of_ble_eq_true rfl) ?_
        rintro _ _ ⟨rfl, f3, f4, rfl⟩
        refine q_eqM (M' := putA (sc N f3 f4) 31 0 (goN s (i + 1))) (by rw [sc_put, putA_pp, sc_sc]; rfl) ?_
        refine q_iinc 67 dX6_unlike_64 rfl rfl (by decide) rfl (nI_1 i) ?_
        refine q_goto 9 dX6_unlike_67 rfl ?_
        refine q_fg (ih (i + 1) _ _ f3 f4 (by omega) (by omega) ?_ rfl) ⟨rfl, rfl, rfl, rfl, rfl, trivial⟩
        show _ = ulF _ _ _ _ + _
        rw [← hu]
        first | (have hq : row6 N kk i = NONEc := h_39; rw [if_pos hq]) | (have hq : ¬ row6 N kk i = NONEc := h_39; rw [if_neg hq]; rfl)
      · skip
        refine q_lconst (v := 0) 43 dX6_unlike_42 rfl rfl ?_
        refine q_goto 58 dX6_unlike_43 rfl ?_
        refine q_ladd 59 dX6_unlike_58 rfl ?_
        refine q_lstore_n 60 dX6_unlike_59 rfl (by decide) rfl ?_
        refine q_aload_n 61 dX6_unlike_60 rfl rfl ?_
        refine q_callV 64 dX6_unlike_61 rfl (c6_goesOn _ (goN s i) (by rfl) (9999 + i) (goN_WF hW i) (by omega)) cw_X6_179 (by decide) rfl rfl ⟨by decide, by decide⟩ ⟨by decide, by decide⟩ (Nat.le_of_ble_eq_true rfl) ?_
        rintro _ _ ⟨rfl, f3, f4, rfl⟩
        refine q_eqM (M' := putA (sc N f3 f4) 31 0 (goN s (i + 1))) (by rw [sc_put, putA_pp, sc_sc]; rfl) ?_
        refine q_iinc 67 dX6_unlike_64 rfl rfl (by decide) rfl (nI_1 i) ?_
        refine q_goto 9 dX6_unlike_67 rfl ?_
        refine q_fg (ih (i + 1) _ _ f3 f4 (by omega) (by omega) ?_ rfl) ⟨rfl, rfl, rfl, rfl, rfl, trivial⟩
        show _ = ulF _ _ _ _ + _
        rw [← hu]
        first | (have hq : row6 N kk i = NONEc := h_39; rw [if_pos hq]) | (have hq : ¬ row6 N kk i = NONEc := h_39; rw [if_neg hq]; rfl)
set_option maxRecDepth 100000 in
set_option maxHeartbeats 4000000 in
theorem c6_unlike {g : GT} (M : TM) (k x : Int32) (kk z one : Nat) (hk : k = nI kk) (h4 : kk < 4) (hz : z ≤ 24) (ez : M 35 0 kk = nI z) (hx : x = nI one) (h9 : one < 10) (s : SS) (hs : M 31 0 = s) (hW : WF 9999 s) : Cn g yX6_unlike cX6_unlike 7 (some .long) 8 [.ref (gad g 6 0), .int k, .int x] M (fun r M' => r = some (.long (ulF (row6 M kk) s one z)) ∧ ∃ C f f2, M' = th M C f f2 s) := by
  refine Cn.ofTR (by decide +kernel) (Nat.le_of_ble_eq_true rfl) ?_
  subst hs
  have hlo := fun i (h : i < 71) => mix_lo (M 31 0) (M 42 0) h
  refine q_aload_n 1 dX6_unlike_0 rfl rfl ?_
  refine q_callVv 4 dX6_unlike_1 rfl (c6_laysBy _) cw_X6_194 (by decide) rfl rfl ⟨by decide, by decide⟩ ⟨by decide, by decide⟩ (Nat.le_of_ble_eq_true rfl) ?_
  refine q_lconst (v := 0) 5 dX6_unlike_4 rfl rfl ?_
  refine q_lstore_n 6 dX6_unlike_5 rfl (by decide) rfl ?_
  refine q_iconst (v := 0) 7 dX6_unlike_6 rfl rfl ?_
  refine q_istore 9 dX6_unlike_7 rfl (by decide) rfl ?_
  refine q_eqM (M' := putA (sc (putA M 42 0 (mixF (M 31 0) (M 42 0) 71)) (M 44 0) (M 45 0)) 31 0 (M 31 0)) (sc31_id (putA M 42 0 (mixF (M 31 0) (M 42 0) 71))).symm ?_
  refine TR_post (q_fg (l6_unlike (putA M 42 0 (mixF (M 31 0) (M 42 0) 71)) k x kk z one hk h4 hz ez hx h9 (M 31 0) hW hlo (z + 1) 0 0 0 _ _ (by omega) (by omega) rfl rfl) ⟨rfl, rfl, rfl, rfl, rfl, trivial⟩) ?_
  rintro _ _ ⟨rfl, f, f2, rfl⟩
  exact ⟨rfl, _, f, f2, rfl⟩
def liF (u : Nat → Int64) : Nat → Int32 × Int64
  | 0 => (-1, 0)
  | k + 1 => if (liF u k).1 < 0 ∨ u k < (liF u k).2 then (nI k, u k) else liF u k
theorem liF_congr {u u' : Nat → Int64} : ∀ k, (∀ j, j < k → u j = u' j) → liF u k = liF u' k
  | 0, _ => rfl
  | k + 1, h => by unfold liF; rw [liF_congr k (fun j hj => h j (by omega)), h k (by omega)]
def aLike (so : Int32) (z : Nat) (row : Nat → Int32) (s : SS) (w : Int32) : Int32 := if so < 0 then NOTHc else if (liF (fun m => ulF row s m z) (nN s)).1 < 0 then NONEc else if w = 0 then (liF (fun m => ulF row s m z) (nN s)).1 else (liF (fun m => ulF row s m z) (nN s)).2.toInt32
set_option maxRecDepth 100000 in
set_option maxHeartbeats 4000000 in
theorem l6_like {g : GT} (M : TM) (k w : Int32) (kk z : Nat) (hk : k = nI kk) (h4 : kk < 4) (hz : z ≤ 24) (ez : M 35 0 kk = nI z) (s : SS) (hW : WF 9999 s) : ∀ (j : Nat) (i : Nat) (b y : Int32) (l : Int64) (C f f2 : Nat → Int32), nN s - i < j → i ≤ nN s → b = (liF (fun m => ulF (row6 M kk) s m z) i).1 → l = (liF (fun m => ulF (row6 M kk) s m z) i).2 → y = nI i → TR g (rmD 9) RX6 cX6_like 10 (some .int) 0 0 (Zm g (fun r M' => r = some (.int (if (liF (fun m => ulF (row6 M kk) s m z) (nN s)).1 < 0 then NONEc else if w = 0 then (liF (fun m => ulF (row6 M kk) s m z) (nN s)).1 else (liF (fun m => ulF (row6 M kk) s m z) (nN s)).2.toInt32)) ∧ ∃ C f f2, M' = th M C f f2 s)) 41 [some (.ref (gad g 6 0)), some (.int k), some (.int w), some (.int b), some (.long l), none, some (.int y), none, none, none] [] (th M C f f2 s) := by
  intro j
  induction j with
  | zero => intro i b y l C f f2 hj hin hb hl hy; exact absurd hj (by omega)
  | succ j ih =>
    intro i b y l C f f2 hj hin hb hl hy
    subst hy
    have hn := hW.1.1
    have hn10 := hW.1.2
    refine q_iload 43 dX6_like_41 rfl rfl ?_
    refine q_aload_n 44 dX6_like_43 rfl rfl ?_
    refine q_getR 47 dX6_like_44 rfl fl_X6_7 (by decide) rfl rfl ?_
    refine q_iconst (v := 0) 48 dX6_like_47 rfl rfl ?_
    refine q_iald 49 dX6_like_48 rfl (by decide) (by decide) rfl (by decide) ?_
    refine q_icmp_ge 112 52 dX6_like_49 rfl rfl (fun h_49 => ?_) (fun h_49 => ?_)
    · skip
      replace h_49 : nI (nN s) ≤ nI i := by rw [← hn]; exact h_49
      rw [nI_leI (by omega) (by omega)] at h_49
      have e : i = nN s := by omega
      refine q_iload_n 113 dX6_like_112 rfl rfl ?_
      refine q_if_ge 121 116 dX6_like_113 rfl rfl (fun h_113 => ?_) (fun h_113 => ?_)
      · skip
        refine q_iload_n 122 dX6_like_121 rfl rfl ?_
        refine q_if_ne 129 125 dX6_like_122 rfl rfl (fun h_122 => ?_) (fun h_122 => ?_)
        · skip
          refine q_lload 131 dX6_like_129 rfl rfl ?_
          refine q_l2i 132 dX6_like_131 rfl ?_
          refine q_iret dX6_like_132 ?_
          refine ⟨congrArg (fun x => some (Value.int x)) ?_, C, f, f2, rfl⟩
          rw [← e, ← hb, ← hl]
          first | (have hq := Int32.not_le.mp h_113; rw [if_pos hq]; done) | (have hq := Int32.not_lt.mpr h_113; rw [if_neg hq]; first | (rw [if_pos h_122]; done) | (rw [if_neg h_122]; done))
        · skip
          refine q_iload_n 126 dX6_like_125 rfl rfl ?_
          refine q_goto 132 dX6_like_126 rfl ?_
          refine q_iret dX6_like_132 ?_
          refine ⟨congrArg (fun x => some (Value.int x)) ?_, C, f, f2, rfl⟩
          rw [← e, ← hb, ← hl]
          first | (have hq := Int32.not_le.mp h_113; rw [if_pos hq]; done) | (have hq := Int32.not_lt.mpr h_113; rw [if_neg hq]; first | (rw [if_pos h_122]; done) | (rw [if_neg h_122]; done))
      · skip
        refine q_ldc 118 dX6_like_116 rfl cs_X6_64 ?_
        refine q_goto 132 dX6_like_118 rfl ?_
        refine q_iret dX6_like_132 ?_
        refine ⟨congrArg (fun x => some (Value.int x)) ?_, C, f, f2, rfl⟩
        rw [← e, ← hb, ← hl]
        first | (have hq := Int32.not_le.mp h_113; rw [if_pos hq]; done) | (have hq := Int32.not_lt.mpr h_113; rw [if_neg hq]; first | (rw [if_pos h_122]; done) | (rw [if_neg h_122]; done))
    · skip
      replace h_49 : ¬ nI (nN s) ≤ nI i := by rw [← hn]; exact h_49
      rw [nI_leI (by omega) (by omega)] at h_49
      refine q_aload_n 53 dX6_like_52 rfl rfl ?_
      refine q_iload_n 54 dX6_like_53 rfl rfl ?_
      refine q_iload 56 dX6_like_54 rfl rfl ?_
      refine q_callV 59 dX6_like_56 rfl (c6_unlike (th M C f f2 s) _ _ kk z i hk h4 hz ez rfl (by omega) s (by rfl) hW) cw_X6_326 (by decide) rfl rfl ⟨by decide, by decide⟩ ⟨by decide, by decide⟩ (Nat.le_of_ble_eq_true rfl) ?_
      rintro _ _ ⟨rfl, C3, f3, f4, rfl⟩
      refine q_eqM (th_th M C f f2 C3 f3 f4 s s) ?_
      refine q_lstore 61 dX6_like_59 rfl (by decide) rfl ?_
      refine q_iload_n 62 dX6_like_61 rfl rfl ?_
      refine q_if_lt 73 65 dX6_like_62 rfl rfl (fun h_62 => ?_) (fun h_62 => ?_)
      · skip
        refine q_iconst (v := 1) 74 dX6_like_73 rfl rfl ?_
        refine q_goto 78 dX6_like_74 rfl ?_
        refine q_istore 80 dX6_like_78 rfl (by decide) rfl ?_
        refine q_iload 82 dX6_like_80 rfl rfl ?_
        refine q_if_eq 90 85 dX6_like_82 rfl rfl (fun h_82 => absurd h_82 (by decide)) (fun _ => ?_)
        refine q_iload 87 dX6_like_85 rfl rfl ?_
        refine q_goto 91 dX6_like_87 rfl ?_
        refine q_istore_n 92 dX6_like_91 rfl (by decide) rfl ?_
        refine q_iload 94 dX6_like_92 rfl rfl ?_
        refine q_if_eq 102 97 dX6_like_94 rfl rfl (fun h_94 => absurd h_94 (by decide)) (fun _ => ?_)
        refine q_lload 99 dX6_like_97 rfl rfl ?_
        refine q_goto 104 dX6_like_99 rfl ?_
        refine q_lstore 106 dX6_like_104 rfl (by decide) rfl ?_
        refine q_iinc 109 dX6_like_106 rfl rfl (by decide) rfl (nI_1 i) ?_
        refine q_goto 41 dX6_like_109 rfl ?_
        first
        | (have hq : (liF (fun m => ulF (row6 M kk) s m z) i).1 < 0 ∨ ulF (row6 M kk) s i z < (liF (fun m => ulF (row6 M kk) s m z) i).2 := Or.inl (hb ▸ h_62); exact q_fg (ih (i + 1) _ _ _ C3 f3 f4 (by omega) (by omega) (by unfold liF; rw [if_pos hq]) (by unfold liF; rw [if_pos hq]; rfl) rfl) ⟨rfl, rfl, rfl, rfl, rfl, rfl, trivial⟩)
        | (have hq : ¬ ((liF (fun m => ulF (row6 M kk) s m z) i).1 < 0 ∨ ulF (row6 M kk) s i z < (liF (fun m => ulF (row6 M kk) s m z) i).2) := fun q => q.elim (fun w => h_62 (hb ▸ w)) (fun w => absurd (show l ≤ ulF (row6 M kk) s i z from h_70) (Int64.not_le.mpr (hl ▸ w))); exact q_fg (ih (i + 1) _ _ _ C3 f3 f4 (by omega) (by omega) (by unfold liF; rw [if_neg hq]; exact hb) (by unfold liF; rw [if_neg hq]; exact hl) rfl) ⟨rfl, rfl, rfl, rfl, rfl, rfl, trivial⟩)
        | (have hq : (liF (fun m => ulF (row6 M kk) s m z) i).1 < 0 ∨ ulF (row6 M kk) s i z < (liF (fun m => ulF (row6 M kk) s m z) i).2 := Or.inr (hl ▸ (Int64.not_le.mp (show ¬ l ≤ ulF (row6 M kk) s i z from h_70))); exact q_fg (ih (i + 1) _ _ _ C3 f3 f4 (by omega) (by omega) (by unfold liF; rw [if_pos hq]) (by unfold liF; rw [if_pos hq]; rfl) rfl) ⟨rfl, rfl, rfl, rfl, rfl, rfl, trivial⟩)
      · skip
        refine q_lload 67 dX6_like_65 rfl rfl ?_
        refine q_lload 69 dX6_like_67 rfl rfl ?_
        refine q_lcmp 70 dX6_like_69 rfl ?_
        refine q_if_ge 77 73 dX6_like_70 rfl rfl (fun h_70 => ?_) (fun h_70 => ?_)
        · skip
          rw [lg_cmp_ge] at h_70
          refine q_iconst (v := 0) 78 dX6_like_77 rfl rfl ?_
          refine q_istore 80 dX6_like_78 rfl (by decide) rfl ?_
          refine q_iload 82 dX6_like_80 rfl rfl ?_
          refine q_if_eq 90 85 dX6_like_82 rfl rfl (fun _ => ?_) (fun h_82 => absurd (by decide) h_82)
          refine q_iload_n 91 dX6_like_90 rfl rfl ?_
          refine q_istore_n 92 dX6_like_91 rfl (by decide) rfl ?_
          refine q_iload 94 dX6_like_92 rfl rfl ?_
          refine q_if_eq 102 97 dX6_like_94 rfl rfl (fun _ => ?_) (fun h_94 => absurd (by decide) h_94)
          refine q_lload 104 dX6_like_102 rfl rfl ?_
          refine q_lstore 106 dX6_like_104 rfl (by decide) rfl ?_
          refine q_iinc 109 dX6_like_106 rfl rfl (by decide) rfl (nI_1 i) ?_
          refine q_goto 41 dX6_like_109 rfl ?_
          first
          | (have hq : (liF (fun m => ulF (row6 M kk) s m z) i).1 < 0 ∨ ulF (row6 M kk) s i z < (liF (fun m => ulF (row6 M kk) s m z) i).2 := Or.inl (hb ▸ h_62); exact q_fg (ih (i + 1) _ _ _ C3 f3 f4 (by omega) (by omega) (by unfold liF; rw [if_pos hq]) (by unfold liF; rw [if_pos hq]; rfl) rfl) ⟨rfl, rfl, rfl, rfl, rfl, rfl, trivial⟩)
          | (have hq : ¬ ((liF (fun m => ulF (row6 M kk) s m z) i).1 < 0 ∨ ulF (row6 M kk) s i z < (liF (fun m => ulF (row6 M kk) s m z) i).2) := fun q => q.elim (fun w => h_62 (hb ▸ w)) (fun w => absurd (show l ≤ ulF (row6 M kk) s i z from h_70) (Int64.not_le.mpr (hl ▸ w))); exact q_fg (ih (i + 1) _ _ _ C3 f3 f4 (by omega) (by omega) (by unfold liF; rw [if_neg hq]; exact hb) (by unfold liF; rw [if_neg hq]; exact hl) rfl) ⟨rfl, rfl, rfl, rfl, rfl, rfl, trivial⟩)
          | (have hq : (liF (fun m => ulF (row6 M kk) s m z) i).1 < 0 ∨ ulF (row6 M kk) s i z < (liF (fun m => ulF (row6 M kk) s m z) i).2 := Or.inr (hl ▸ (Int64.not_le.mp (show ¬ l ≤ ulF (row6 M kk) s i z from h_70))); exact q_fg (ih (i + 1) _ _ _ C3 f3 f4 (by omega) (by omega) (by unfold liF; rw [if_pos hq]) (by unfold liF; rw [if_pos hq]; rfl) rfl) ⟨rfl, rfl, rfl, rfl, rfl, rfl, trivial⟩)
        · skip
          rw [lg_cmp_ge] at h_70
          refine q_iconst (v := 1) 74 dX6_like_73 rfl rfl ?_
          refine q_goto 78 dX6_like_74 rfl ?_
          refine q_istore 80 dX6_like_78 rfl (by decide) rfl ?_
          refine q_iload 82 dX6_like_80 rfl rfl ?_
          refine q_if_eq 90 85 dX6_like_82 rfl rfl (fun h_82 => absurd h_82 (by decide)) (fun _ => ?_)
          refine q_iload 87 dX6_like_85 rfl rfl ?_
          refine q_goto 91 dX6_like_87 rfl ?_
          refine q_istore_n 92 dX6_like_91 rfl (by decide) rfl ?_
          refine q_iload 94 dX6_like_92 rfl rfl ?_
          refine q_if_eq 102 97 dX6_like_94 rfl rfl (fun h_94 => absurd h_94 (by decide)) (fun _ => ?_)
          refine q_lload 99 dX6_like_97 rfl rfl ?_
          refine q_goto 104 dX6_like_99 rfl ?_
          refine q_lstore 106 dX6_like_104 rfl (by decide) rfl ?_
          refine q_iinc 109 dX6_like_106 rfl rfl (by decide) rfl (nI_1 i) ?_
          refine q_goto 41 dX6_like_109 rfl ?_
          first
          | (have hq : (liF (fun m => ulF (row6 M kk) s m z) i).1 < 0 ∨ ulF (row6 M kk) s i z < (liF (fun m => ulF (row6 M kk) s m z) i).2 := Or.inl (hb ▸ h_62); exact q_fg (ih (i + 1) _ _ _ C3 f3 f4 (by omega) (by omega) (by unfold liF; rw [if_pos hq]) (by unfold liF; rw [if_pos hq]; rfl) rfl) ⟨rfl, rfl, rfl, rfl, rfl, rfl, trivial⟩)
          | (have hq : ¬ ((liF (fun m => ulF (row6 M kk) s m z) i).1 < 0 ∨ ulF (row6 M kk) s i z < (liF (fun m => ulF (row6 M kk) s m z) i).2) := fun q => q.elim (fun w => h_62 (hb ▸ w)) (fun w => absurd (show l ≤ ulF (row6 M kk) s i z from h_70) (Int64.not_le.mpr (hl ▸ w))); exact q_fg (ih (i + 1) _ _ _ C3 f3 f4 (by omega) (by omega) (by unfold liF; rw [if_neg hq]; exact hb) (by unfold liF; rw [if_neg hq]; exact hl) rfl) ⟨rfl, rfl, rfl, rfl, rfl, rfl, trivial⟩)
          | (have hq : (liF (fun m => ulF (row6 M kk) s m z) i).1 < 0 ∨ ulF (row6 M kk) s i z < (liF (fun m => ulF (row6 M kk) s m z) i).2 := Or.inr (hl ▸ (Int64.not_le.mp (show ¬ l ≤ ulF (row6 M kk) s i z from h_70))); exact q_fg (ih (i + 1) _ _ _ C3 f3 f4 (by omega) (by omega) (by unfold liF; rw [if_pos hq]) (by unfold liF; rw [if_pos hq]; rfl) rfl) ⟨rfl, rfl, rfl, rfl, rfl, rfl, trivial⟩)
set_option maxRecDepth 100000 in
set_option maxHeartbeats 4000000 in
theorem c6_like {g : GT} (M : TM) (k w : Int32) (hS : WS6 M) (s : SS) (hs : M 31 0 = s) (hW : WF 9999 s) : Cn g yX6_like cX6_like 10 (some .int) 9 [.ref (gad g 6 0), .int k, .int w] M (fun r M' => r = some (.int (if isS k ∧ (0 ≤ w ∧ w ≤ 1) then aLike (M 34 0 (tn k)) (tn (M 35 0 (tn k))) (row6 M (tn k)) s w else BADc)) ∧ ∃ C f f2, M' = th M C f f2 s) := by
  refine Cn.ofTR (by decide +kernel) (Nat.le_of_ble_eq_true rfl) ?_
  subst hs
  refine q_iload_n 1 dX6_like_0 rfl rfl ?_
  refine q_callSt 4 dX6_like_1 rfl (c6_isSheet _ _) cw_X6_313 rfl rfl ⟨by decide, by decide⟩ ⟨by decide, by decide⟩ (Nat.le_of_ble_eq_true rfl) ?_
  refine q_if_eq 17 7 dX6_like_4 rfl rfl (fun h_4 => ?_) (fun h_4 => ?_)
  · skip
    simp only [bI_0, Classical.not_not] at h_4
    refine q_ldc 19 dX6_like_17 rfl cs_X6_110 ?_
    refine q_iret dX6_like_19 ?_
    refine ⟨?_, _, _, _, (th_id M).symm⟩
    rw [if_neg (fun q => by first | exact h_4 q.1 | exact h_14 q.2)]
  · skip
    simp only [bI_0, Classical.not_not] at h_4
    refine q_iload_n 8 dX6_like_7 rfl rfl ?_
    refine q_i2l 9 dX6_like_8 rfl ?_
    refine q_lconst (v := 0) 10 dX6_like_9 rfl rfl ?_
    refine q_lconst (v := 1) 11 dX6_like_10 rfl rfl ?_
    refine q_callSt 14 dX6_like_11 rfl (c6_isIn' _ _ (0) (1) _ _) cw_X6_65 rfl rfl ⟨by decide, by decide⟩ ⟨by decide, by decide⟩ (Nat.le_of_ble_eq_true rfl) ?_
    refine q_if_ne 20 17 dX6_like_14 rfl rfl (fun h_14 => ?_) (fun h_14 => ?_)
    · skip
      simp only [bI_0, Classical.not_not] at h_14
      obtain ⟨ek, lk⟩ := rg_tn h_4 (n := 3) rfl
      obtain ⟨hso, z, hz, ez⟩ := hS (tn k) (by omega)
      refine q_aload_n 21 dX6_like_20 rfl rfl ?_
      refine q_getR 24 dX6_like_21 rfl fl_X6_19 (by decide) rfl rfl ?_
      refine q_iload_n 25 dX6_like_24 rfl rfl ?_
      refine q_iald 26 dX6_like_25 rfl (by decide) (by decide) ek (show tn k < 4 by omega) ?_
      refine q_if_ge 33 29 dX6_like_26 rfl rfl (fun h_26 => ?_) (fun h_26 => ?_)
      · skip
        refine q_iconst (v := (-1)) 34 dX6_like_33 rfl rfl ?_
        refine q_istore_n 35 dX6_like_34 rfl (by decide) rfl ?_
        refine q_lconst (v := 0) 36 dX6_like_35 rfl rfl ?_
        refine q_lstore 38 dX6_like_36 rfl (by decide) rfl ?_
        refine q_iconst (v := 0) 39 dX6_like_38 rfl rfl ?_
        refine q_istore 41 dX6_like_39 rfl (by decide) rfl ?_
        rw [if_pos ⟨h_4, h_14⟩]
        unfold aLike
        rw [if_neg (Int32.not_lt.mpr h_26), ez, show tn (nI z) = z from nI_clamp (by omega)]
        exact q_eqM (th_id M).symm (q_fg (l6_like M k w (tn k) z ek (by omega) hz ez (M 31 0) hW (nN (M 31 0) + 1) 0 (-1) 0 0 _ _ _ (by omega) (by omega) rfl rfl rfl) ⟨rfl, rfl, rfl, rfl, rfl, rfl, trivial⟩)
      · skip
        refine q_ldc_w 32 dX6_like_29 rfl cs_X6_319 ?_
        refine q_iret dX6_like_32 ?_
        refine ⟨?_, _, _, _, (th_id M).symm⟩
        rw [if_pos ⟨h_4, h_14⟩]
        unfold aLike
        rw [if_pos (Int32.not_le.mp h_26)]
    · skip
      simp only [bI_0, Classical.not_not] at h_14
      refine q_ldc 19 dX6_like_17 rfl cs_X6_110 ?_
      refine q_iret dX6_like_19 ?_
      refine ⟨?_, _, _, _, (th_id M).symm⟩
      rw [if_neg (fun q => by first | exact h_4 q.1 | exact h_14 q.2)]
