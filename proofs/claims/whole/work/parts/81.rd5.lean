/-! THE CLASS: text -/
abbrev Mz (M : TM) : TM := putA M 5 0 (upd (M 5 0) 7 0)
def txN (N : TM) (t m k : Nat) : TM := putA (putA (tkM N t m) 27 0 (upd (N 27 0) k (nI t))) 4 0 (upd (N 4 0) 16 (nI (t + 1)))
def QTx5 (M : TM) (s : SS) (T : Nat → Int32) (n : Nat) : Option Value → TM → Prop := fun r N => r = some (.int (aTx s T n)) ∧ ∃ N1, P0c T n (Mz M) N1 ∧ (if prB T n = true ∧ nT s < 14 then N = txN N1 (nT s) (mm T n) (tn (kyT T n)) else N = N1)
theorem prF_le (T : Nat → Int32) (n : Nat) : prF T n ≤ n := by
  unfold prF
  split
  · have := tk_W T n (prR T n).2.1; exact Nat.le_trans this.1 this.2.1
  · have := tk_W T n 0; exact Nat.le_trans this.1 this.2.1
set_option maxRecDepth 100000 in
set_option maxHeartbeats 4000000 in
theorem c5_text {g : GT} (M : TM) (T : Nat → Int32) (n : Nat) (hT : M 28 0 = T) (h7 : M 5 0 7 = nI n) (h96 : n ≤ 96) (hb : ∀ i, i < n → ∃ a, a < 256 ∧ T i = nI a) (s : SS) (h16 : M 4 0 16 = nI (nT s)) (hn : nT s ≤ 14) : Cn g yX5_text cX5_text 4 (some .int) 137 [.ref (gad g 5 0)] M (QTx5 M s T n) := by
  refine Cn.ofTR (by decide +kernel) (Nat.le_of_ble_eq_true rfl) ?_
  have G : G0 T n (Mz M) := ⟨hT, h96, hb⟩
  refine q_aload_n 1 dX5_text_0 rfl rfl ?_
  refine q_getI 4 dX5_text_1 rfl fl_X5_233 (by decide) rfl (by decide) ?_
  rw [h7]
  refine q_istore_n 5 dX5_text_4 rfl (by decide) rfl ?_
  refine q_aload_n 6 dX5_text_5 rfl rfl ?_
  refine q_iconst (v := 0) 7 dX5_text_6 rfl rfl ?_
  refine q_putI 10 dX5_text_7 rfl fl_X5_233 fp_5_7 (by decide) rfl (by decide) rfl rfl ?_
  refine q_aload_n 11 dX5_text_10 rfl rfl ?_
  refine q_getR 14 dX5_text_11 rfl fl_X5_34 (by decide) rfl rfl ?_
  refine q_aload_n 15 dX5_text_14 rfl rfl ?_
  refine q_getR 18 dX5_text_15 rfl fl_X5_38 (by decide) rfl rfl ?_
  refine q_iload_n 19 dX5_text_18 rfl rfl ?_
  refine q_callV 22 dX5_text_19 rfl (c0_faultOf G) cw_X5_239 (by decide) rfl rfl ⟨by decide, by decide⟩ ⟨by decide, by decide⟩ (Nat.le_of_ble_eq_true rfl) ?_
  rintro _ N1 ⟨rfl, hP⟩
  have e16 : N1 4 0 16 = nI (nT s) := (congrArg (fun f => f 16) (hP.1.1 4 0 (by decide) (by decide))).trans h16
  refine q_istore_n 23 dX5_text_22 rfl (by decide) rfl ?_
  refine q_iload_n 24 dX5_text_23 rfl rfl ?_
  refine q_if_lt 32 27 dX5_text_24 rfl rfl (fun h_24 => ?_) (fun h_24 => ?_)
  · skip
    have hB : prB T n = true := Classical.byContradiction (fun z => by rw [if_neg z] at h_24; exact absurd h_24 (nI_pos (by have := prF_le T n; omega)))
    obtain ⟨z1, z2, z3, z4⟩ := hP.2 hB
    obtain ⟨-, hmn⟩ := prB_G hB
    obtain ⟨kk, hkk, ek⟩ := ky_k (prB_t.mp hB).1
    have ek : kyT T n = nI kk := ek
    have etn : tn (kyT T n) = kk := by rw [ek]; exact nI_clamp (by omega)
    refine q_aload_n 33 dX5_text_32 rfl rfl ?_
    refine q_getR 36 dX5_text_33 rfl fl_X5_21 (by decide) rfl rfl ?_
    refine q_getI 39 dX5_text_36 rfl fl_X5_243 (by decide) rfl (by decide) ?_
    refine q_bipush (v := 14) 41 dX5_text_39 rfl rfl ?_
    refine q_icmp_lt 47 44 dX5_text_41 rfl rfl (fun h_41 => ?_) (fun h_41 => ?_)
    · skip
      rw [e16, show (14 : Int32) = nI 14 from rfl, nI_ltI (by omega) (by decide)] at h_41
      have hlt : nT s < 14 := h_41
      refine q_aload_n 48 dX5_text_47 rfl rfl ?_
      refine q_getR 51 dX5_text_48 rfl fl_X5_21 (by decide) rfl rfl ?_
      refine q_getI 54 dX5_text_51 rfl fl_X5_243 (by decide) rfl (by decide) ?_
      rw [e16]
      refine q_istore_n 55 dX5_text_54 rfl (by decide) rfl ?_
      refine q_aload_n 56 dX5_text_55 rfl rfl ?_
      refine q_getR 59 dX5_text_56 rfl fl_X5_10 (by decide) rfl rfl ?_
      refine q_iload_n 60 dX5_text_59 rfl rfl ?_
      refine q_aload_n 61 dX5_text_60 rfl rfl ?_
      refine q_getR 64 dX5_text_61 rfl fl_X5_34 (by decide) rfl rfl ?_
      refine q_callVv 67 dX5_text_64 rfl (c3_take N1 (nT s) (mm T n) hlt (by omega) z1) cw_X5_246 (by decide) rfl rfl ⟨by decide, by decide⟩ ⟨by decide, by decide⟩ (Nat.le_of_ble_eq_true rfl) ?_
      refine q_aload_n 68 dX5_text_67 rfl rfl ?_
      refine q_getR 71 dX5_text_68 rfl fl_X5_21 (by decide) rfl rfl ?_
      refine q_getR 74 dX5_text_71 rfl fl_X5_223 (by decide) rfl rfl ?_
      refine q_aload_n 75 dX5_text_74 rfl rfl ?_
      refine q_getR 78 dX5_text_75 rfl fl_X5_34 (by decide) rfl rfl ?_
      refine q_getI 81 dX5_text_78 rfl fl_X5_250 (by decide) rfl (by decide) ?_
      refine q_iload_n 82 dX5_text_81 rfl rfl ?_
      refine q_iast 83 dX5_text_82 rfl (by decide) (by decide) (z2.trans ek) (show kk < 3 from hkk) ?_
      refine q_aload_n 84 dX5_text_83 rfl rfl ?_
      refine q_getR 87 dX5_text_84 rfl fl_X5_21 (by decide) rfl rfl ?_
      refine q_iload_n 88 dX5_text_87 rfl rfl ?_
      refine q_iconst (v := 1) 89 dX5_text_88 rfl rfl ?_
      refine q_iadd 90 dX5_text_89 rfl ?_
      rw [nI_1 (nT s)]
      refine q_putI 93 dX5_text_90 rfl fl_X5_243 fp_4_16 (by decide) rfl (by decide) rfl rfl ?_
      refine q_iload_n 94 dX5_text_93 rfl rfl ?_
      refine q_iret dX5_text_94 ?_
      refine ⟨congrArg (fun x => some (Value.int x)) ?_, N1, hP, ?_⟩
      · unfold aTx; rw [if_pos hB, if_pos hlt]
      · rw [if_pos ⟨hB, hlt⟩, etn]; rfl
    · skip
      rw [e16, show (14 : Int32) = nI 14 from rfl, nI_ltI (by omega) (by decide)] at h_41
      refine q_ldc 46 dX5_text_44 rfl cs_X5_78 ?_
      refine q_iret dX5_text_46 ?_
      refine ⟨congrArg (fun x => some (Value.int x)) ?_, N1, hP, ?_⟩
      · unfold aTx; rw [if_pos hB, if_neg h_41]
      · rw [if_neg (fun z => h_41 z.2)]
  · skip
    have hB : ¬ prB T n = true := fun z => by rw [if_pos z] at h_24; exact h_24 (by decide)
    refine q_bipush (v := (-100)) 29 dX5_text_27 rfl rfl ?_
    refine q_iload_n 30 dX5_text_29 rfl rfl ?_
    refine q_isub 31 dX5_text_30 rfl ?_
    refine q_iret dX5_text_31 ?_
    refine ⟨congrArg (fun x => some (Value.int x)) ?_, N1, hP, ?_⟩
    · unfold aTx; rw [if_neg hB, if_neg hB]
    · rw [if_neg (fun z => hB z.1)]
