/-! THE CLASS: like itself -/
theorem Int64_back (x : Int32) : (x.toInt64).toInt32 = x := Int32.toInt32_toInt64 x
theorem like_v {row : Nat → Int32} {s : SS} (hW : WK s) (hr : rOK row) {z : Nat} (hz : z ≤ 24) (h0 : 1 ≤ nN s) : liF (fun m => ulF row s m z) (nN s) = (nI (lsN (fun m => uN row s m z) (nN s - 1)), (nI (uN row s (lsN (fun m => uN row s m z) (nN s - 1)) z)).toInt64) := by
  have h10 := hW.1.2
  have h := liF_N (u := fun m => ulF row s m z) (v := fun m => uN row s m z) h10 (fun k hk => ⟨ulF_N hW hr (by omega) z hz, by have := uN_le hW hr (one := k) (by omega) z hz; omega⟩) (nN s - 1) (by omega)
  rw [show nN s - 1 + 1 = nN s by omega] at h
  exact h
set_option maxRecDepth 100000 in
set_option maxHeartbeats 4000000 in
theorem l5_like {g : GT} (N : TM) (x w : Int32) (row : Nat → Int32) (s : SS) (z : Nat) (h10 : nN s ≤ 10) (h0 : 1 ≤ nN s) (e11 : N 4 0 11 = nI (nN s)) (hb : ∀ i, i < nN s → N 30 0 i = nI (uN row s i z)) (hl : ∀ i, i < nN s → uN row s i z < 2 ^ 31) : ∀ (j : Nat) (k : Nat) (b y : Int32), nN s - 1 - k < j → k ≤ nN s - 1 → b = nI (lsN (fun m => uN row s m z) k) → y = nI (k + 1) → TR g (rmD 7) RX5 cX5_like 5 (some .int) 0 0 (Zm g (fun r M' => r = some (.int (if w = 0 then nI (lsN (fun m => uN row s m z) (nN s - 1)) else nI (uN row s (lsN (fun m => uN row s m z) (nN s - 1)) z))) ∧ M' = N)) 58 [some (.ref (gad g 5 0)), some (.int x), some (.int w), some (.int b), some (.int y)] [] N := by
  intro j
  induction j with
  | zero => intro k b y hj hk hb1 hy; exact absurd hj (by omega)
  | succ j ih =>
    intro k b y hj hk hb1 hy
    subst hy
    have hlk := lsN_le (fun m => uN row s m z) k
    refine q_iload 60 dX5_like_58 rfl rfl ?_
    refine q_aload_n 61 dX5_like_60 rfl rfl ?_
    refine q_getR 64 dX5_like_61 rfl fl_X5_21 (by decide) rfl rfl ?_
    refine q_getI 67 dX5_like_64 rfl fl_X5_74 (by decide) rfl (by decide) ?_
    refine q_icmp_ge 95 70 dX5_like_67 rfl rfl (fun h_67 => ?_) (fun h_67 => ?_)
    · skip
      rw [e11, nI_leI (by omega) (by omega)] at h_67
      refine q_iload_n 96 dX5_like_95 rfl rfl ?_
      refine q_if_ne 103 99 dX5_like_96 rfl rfl (fun h_96 => ?_) (fun h_96 => ?_)
      · skip
        refine q_aload_n 104 dX5_like_103 rfl rfl ?_
        refine q_getR 107 dX5_like_104 rfl fl_X5_57 (by decide) rfl rfl ?_
        refine q_iload_n 108 dX5_like_107 rfl rfl ?_
        refine q_iald 109 dX5_like_108 rfl (by decide) (by decide) hb1 (show lsN (fun m => uN row s m z) k < 10 by omega) ?_
        refine q_iret dX5_like_109 ?_
        have e : nN s - 1 = k := by omega
        rw [e]
        refine ⟨congrArg (fun x => some (Value.int x)) ?_, rfl⟩
        first | (have hq : ¬ w = 0 := h_96; rw [if_neg hq]; exact hb _ (by omega)) | (rw [if_pos h_96]; exact hb1)
      · skip
        refine q_iload_n 100 dX5_like_99 rfl rfl ?_
        refine q_goto 109 dX5_like_100 rfl ?_
        refine q_iret dX5_like_109 ?_
        have e : nN s - 1 = k := by omega
        rw [e]
        refine ⟨congrArg (fun x => some (Value.int x)) ?_, rfl⟩
        first | (have hq : ¬ w = 0 := h_96; rw [if_neg hq]; exact hb _ (by omega)) | (rw [if_pos h_96]; exact hb1)
    · skip
      rw [e11, nI_leI (by omega) (by omega)] at h_67
      refine q_aload_n 71 dX5_like_70 rfl rfl ?_
      refine q_getR 74 dX5_like_71 rfl fl_X5_57 (by decide) rfl rfl ?_
      refine q_iload 76 dX5_like_74 rfl rfl ?_
      refine q_iald 77 dX5_like_76 rfl (by decide) (by decide) rfl (show k + 1 < 10 by omega) ?_
      refine q_aload_n 78 dX5_like_77 rfl rfl ?_
      refine q_getR 81 dX5_like_78 rfl fl_X5_57 (by decide) rfl rfl ?_
      refine q_iload_n 82 dX5_like_81 rfl rfl ?_
      refine q_iald 83 dX5_like_82 rfl (by decide) (by decide) hb1 (show lsN (fun m => uN row s m z) k < 10 by omega) ?_
      refine q_icmp_ge 89 86 dX5_like_83 rfl rfl (fun h_83 => ?_) (fun h_83 => ?_)
      · skip
        rw [hb _ (by omega), hb _ (by omega), nI_leI (hl _ (by omega)) (hl _ (by omega))] at h_83
        refine q_iinc 92 dX5_like_89 rfl rfl (by decide) rfl (nI_1 (k + 1)) ?_
        refine q_goto 58 dX5_like_92 rfl ?_
        first
        | (have hq : lsN (fun m => uN row s m z) (k + 1) = lsN (fun m => uN row s m z) k := if_neg (Nat.not_lt.mpr h_83); exact q_fg (ih (k + 1) _ _ (by omega) (by omega) (by rw [hq]; exact hb1) rfl) ⟨rfl, rfl, rfl, rfl, rfl, trivial⟩)
        | (have hq : lsN (fun m => uN row s m z) (k + 1) = k + 1 := if_pos (Nat.not_le.mp h_83); exact q_fg (ih (k + 1) _ _ (by omega) (by omega) (by rw [hq]) rfl) ⟨rfl, rfl, rfl, rfl, rfl, trivial⟩)
      · skip
        rw [hb _ (by omega), hb _ (by omega), nI_leI (hl _ (by omega)) (hl _ (by omega))] at h_83
        refine q_iload 88 dX5_like_86 rfl rfl ?_
        refine q_istore_n 89 dX5_like_88 rfl (by decide) rfl ?_
        refine q_iinc 92 dX5_like_89 rfl rfl (by decide) rfl (nI_1 (k + 1)) ?_
        refine q_goto 58 dX5_like_92 rfl ?_
        first
        | (have hq : lsN (fun m => uN row s m z) (k + 1) = lsN (fun m => uN row s m z) k := if_neg (Nat.not_lt.mpr h_83); exact q_fg (ih (k + 1) _ _ (by omega) (by omega) (by rw [hq]; exact hb1) rfl) ⟨rfl, rfl, rfl, rfl, rfl, trivial⟩)
        | (have hq : lsN (fun m => uN row s m z) (k + 1) = k + 1 := if_pos (Nat.not_le.mp h_83); exact q_fg (ih (k + 1) _ _ (by omega) (by omega) (by rw [hq]) rfl) ⟨rfl, rfl, rfl, rfl, rfl, trivial⟩)
set_option maxRecDepth 100000 in
set_option maxHeartbeats 4000000 in
theorem c5_like {g : GT} (M : TM) (k w : Int32) (hS : WS5 M) (hr : ∀ j, j < 4 → ¬ M 1 j 1 < 0 → rOK (M 12 j)) (s : SS) (hR : RW M 0 s) (hW : WF 9999 s) (hT : RT M s) : Cn g yX5_like cX5_like 5 (some .int) 7 [.ref (gad g 5 0), .int k, .int w] M (fun r M' => r = some (.int (if isS k ∧ (0 ≤ w ∧ w ≤ 1) then aLike (M 1 (tn k) 1) (tn (M 1 (tn k) 2)) (M 12 (tn k)) s w else BADc)) ∧ Kl M M') := by
  refine Cn.ofTR (by decide +kernel) (Nat.le_of_ble_eq_true rfl) ?_
  have h11 := hR.1.2.1.1
  have h10 := hW.1.2
  refine q_iload_n 1 dX5_like_0 rfl rfl ?_
  refine q_callSt 4 dX5_like_1 rfl (c5_isSheet _ _) cw_X5_212 rfl rfl ⟨by decide, by decide⟩ ⟨by decide, by decide⟩ (Nat.le_of_ble_eq_true rfl) ?_
  refine q_if_eq 16 7 dX5_like_4 rfl rfl (fun h_4 => ?_) (fun h_4 => ?_)
  · skip
    simp only [bI_0, Classical.not_not] at h_4
    refine q_ldc 18 dX5_like_16 rfl cs_X5_73 ?_
    refine q_iret dX5_like_18 ?_
    refine ⟨congrArg (fun x => some (Value.int x)) ?_, fun _ _ _ _ _ => rfl⟩
    rw [if_neg (fun q => by first | exact h_4 q.1 | exact h_13 q.2)]
  · skip
    simp only [bI_0, Classical.not_not] at h_4
    obtain ⟨ek, lk⟩ := rg_tn h_4 (n := 3) rfl
    have k4 : tn k < 4 := by omega
    obtain ⟨hso, z, z24, ez⟩ := hS (tn k) k4
    refine q_iload_n 8 dX5_like_7 rfl rfl ?_
    refine q_iconst (v := 0) 9 dX5_like_8 rfl rfl ?_
    refine q_iconst (v := 1) 10 dX5_like_9 rfl rfl ?_
    refine q_callSt 13 dX5_like_10 rfl (c5_within _ _ _ _) cw_X5_66 rfl rfl ⟨by decide, by decide⟩ ⟨by decide, by decide⟩ (Nat.le_of_ble_eq_true rfl) ?_
    refine q_if_ne 19 16 dX5_like_13 rfl rfl (fun h_13 => ?_) (fun h_13 => ?_)
    · skip
      simp only [bI_0, Classical.not_not] at h_13
      refine q_aload_n 20 dX5_like_19 rfl rfl ?_
      refine q_iload_n 21 dX5_like_20 rfl rfl ?_
      refine q_callVt 24 dX5_like_21 rfl (c5_isMissing _ _ (tn k) ek k4) cw_X5_215 (by decide) rfl rfl ⟨by decide, by decide⟩ ⟨by decide, by decide⟩ (Nat.le_of_ble_eq_true rfl) ?_
      refine q_if_eq 30 27 dX5_like_24 rfl rfl (fun h_24 => ?_) (fun h_24 => ?_)
      · skip
        simp only [bI_0, Classical.not_not] at h_24
        rw [ms_iff hso] at h_24
        refine q_aload_n 31 dX5_like_30 rfl rfl ?_
        refine q_getR 34 dX5_like_31 rfl fl_X5_21 (by decide) rfl rfl ?_
        refine q_getI 37 dX5_like_34 rfl fl_X5_74 (by decide) rfl (by decide) ?_
        refine q_if_ne 43 40 dX5_like_37 rfl rfl (fun h_37 => ?_) (fun h_37 => ?_)
        · skip
          rw [h11, show (0 : Int32) = nI 0 from rfl, nI_eq (by omega) (by omega)] at h_37
          refine q_aload_n 44 dX5_like_43 rfl rfl ?_
          refine q_aload_n 45 dX5_like_44 rfl rfl ?_
          refine q_getR 48 dX5_like_45 rfl fl_X5_44 (by decide) rfl rfl ?_
          refine q_iload_n 49 dX5_like_48 rfl rfl ?_
          refine q_aald7 50 dX5_like_49 rfl ek k4 ?_
          refine q_callV 53 dX5_like_50 rfl (c5_sumDifferences _ (tn k) z k4 z24 ez s hR hW.k hT (hr (tn k) k4 h_24)) cw_X5_219 (by decide) rfl rfl ⟨by decide, by decide⟩ ⟨by decide, by decide⟩ (Nat.le_of_ble_eq_true rfl) ?_
          rintro _ M2 ⟨rfl, hKl, hb⟩
          have e11 : M2 4 0 11 = nI (nN s) := (congrArg (fun f => f 11) (hKl 4 0 (by decide) (by decide) (by omega))).trans h11
          have hro := hr (tn k) k4 h_24
          refine q_iconst (v := 0) 54 dX5_like_53 rfl rfl ?_
          refine q_istore_n 55 dX5_like_54 rfl (by decide) rfl ?_
          refine q_iconst (v := 1) 56 dX5_like_55 rfl rfl ?_
          refine q_istore 58 dX5_like_56 rfl (by decide) rfl ?_
          refine TR_post (q_fg (l5_like M2 k w (M 12 (tn k)) s z h10 (by omega) e11 hb (fun i hi => by have := uN_le hW.k hro (one := i) (by omega) z z24; omega) (nN s + 1) 0 _ _ (by omega) (by omega) rfl rfl) ⟨rfl, rfl, rfl, rfl, rfl, trivial⟩) ?_
          rintro _ _ ⟨rfl, rfl⟩
          refine ⟨congrArg (fun x => some (Value.int x)) ?_, hKl⟩
          have hcc : isS k ∧ (0 ≤ w ∧ w ≤ 1) := ⟨h_4, h_13⟩
          rw [if_pos hcc]
          unfold aLike
          rw [if_neg h_24, ez, show tn (nI z) = z from nI_clamp (by omega), like_v hW.k hro z24 (by omega), if_neg (nI_pos (by have := lsN_le (fun m => uN (M 12 (tn k)) s m z) (nN s - 1); omega))]
          by_cases hw0 : w = 0
          · rw [if_pos hw0, if_pos hw0]
          · rw [if_neg hw0, if_neg hw0, Int64_back]
        · skip
          rw [h11, show (0 : Int32) = nI 0 from rfl, nI_eq (by omega) (by omega)] at h_37
          refine q_ldc 42 dX5_like_40 rfl cs_X5_161 ?_
          refine q_iret dX5_like_42 ?_
          refine ⟨congrArg (fun x => some (Value.int x)) ?_, fun _ _ _ _ _ => rfl⟩
          rw [if_pos ⟨h_4, h_13⟩]
          unfold aLike
          rw [if_neg h_24, h_37]
          rfl
      · skip
        simp only [bI_0, Classical.not_not] at h_24
        rw [ms_iff hso] at h_24
        refine q_ldc 29 dX5_like_27 rfl cs_X5_218 ?_
        refine q_iret dX5_like_29 ?_
        refine ⟨congrArg (fun x => some (Value.int x)) ?_, fun _ _ _ _ _ => rfl⟩
        rw [if_pos ⟨h_4, h_13⟩]
        unfold aLike
        rw [if_pos h_24]
    · skip
      simp only [bI_0, Classical.not_not] at h_13
      refine q_ldc 18 dX5_like_16 rfl cs_X5_73 ?_
      refine q_iret dX5_like_18 ?_
      refine ⟨congrArg (fun x => some (Value.int x)) ?_, fun _ _ _ _ _ => rfl⟩
      rw [if_neg (fun q => by first | exact h_4 q.1 | exact h_13 q.2)]
