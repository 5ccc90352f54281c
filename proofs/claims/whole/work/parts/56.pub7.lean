/-! THE CLASS: sheets -/
def WS5 (M : TM) : Prop := ∀ k, k < 4 → (M 1 k 1 = -1 ∨ M 1 k 1 = 0 ∨ M 1 k 1 = 1) ∧ ∃ z, z ≤ 24 ∧ M 1 k 2 = nI z
theorem ms_iff {x : Int32} (h : x = -1 ∨ x = 0 ∨ x = 1) : x = -1 ↔ x < 0 := by rcases h with h | h | h <;> rw [h] <;> decide
def clM (M : TM) (k : Nat) (so z : Int32) : TM := putA (putA M 12 k (mixF (fun _ => 0) (M 12 k) 24)) 1 k (upd (upd (M 1 k) 1 so) 2 z)
def sbM (M : TM) (k k2 : Nat) : TM := putA (putA M 12 k (va_cpy (M 12 k2) (M 12 k) 0 0 24)) 1 k (upd (upd (M 1 k) 1 (M 1 k2 1)) 2 (M 1 k2 2))
set_option maxRecDepth 100000 in
set_option maxHeartbeats 4000000 in
theorem c1_clear {g : GT} (M : TM) (k : Nat) (hk : k < 9) (so z : Int32) : Cn g yX1_clear cX1_clear 3 none 1 [.ref (gad g 1 k), .int so, .int z] M (Rv (clM M k so z)) := by
  refine Cn.ofTR (by decide +kernel) (Nat.le_of_ble_eq_true rfl) ?_
  refine q_aload_n 1 dX1_clear_0 rfl rfl ?_
  refine q_getR 4 dX1_clear_1 rfl fl_X1_9 hk rfl rfl ?_
  refine q_iconst (v := 0) 5 dX1_clear_4 rfl rfl ?_
  refine q_callSv 8 dX1_clear_5 rfl (cJ_fill _ 12 k 0 (by decide) hk) cw_X1_19 rfl rfl ⟨by decide, by decide⟩ ⟨by decide, by decide⟩ (Nat.le_of_ble_eq_true rfl) ?_
  refine q_aload_n 9 dX1_clear_8 rfl rfl ?_
  refine q_iload_n 10 dX1_clear_9 rfl rfl ?_
  refine q_putI 13 dX1_clear_10 rfl fl_X1_15 fp_1_1 hk rfl (by decide) rfl rfl ?_
  refine q_aload_n 14 dX1_clear_13 rfl rfl ?_
  refine q_iload_n 15 dX1_clear_14 rfl rfl ?_
  refine q_putI 18 dX1_clear_15 rfl fl_X1_25 fp_1_2 hk rfl (by decide) rfl rfl ?_
  refine q_vret dX1_clear_18 ?_
  refine ⟨rfl, ?_⟩
  unfold clM
  rw [putA_pp, putA_s]
  rfl
set_option maxRecDepth 100000 in
set_option maxHeartbeats 4000000 in
theorem c1_become {g : GT} (M : TM) (k k2 : Nat) (hk : k < 9) (hk2 : k2 < 9) (hne : k2 ≠ k) : Cn g yX1_become cX1_become 2 none 1 [.ref (gad g 1 k), .ref (gad g 1 k2)] M (Rv (sbM M k k2)) := by
  refine Cn.ofTR (by decide +kernel) (Nat.le_of_ble_eq_true rfl) ?_
  refine q_aload_n 1 dX1_become_0 rfl rfl ?_
  refine q_getR 4 dX1_become_1 rfl fl_X1_9 hk2 rfl rfl ?_
  refine q_iconst (v := 0) 5 dX1_become_4 rfl rfl ?_
  refine q_aload_n 6 dX1_become_5 rfl rfl ?_
  refine q_getR 9 dX1_become_6 rfl fl_X1_9 hk rfl rfl ?_
  refine q_iconst (v := 0) 10 dX1_become_9 rfl rfl ?_
  refine q_bipush (v := 24) 12 dX1_become_10 rfl rfl ?_
  refine q_acopy 15 dX1_become_12 rfl cw_X1_28 ac_w (by decide) (by decide) hk2 hk (i := 0) (j := 0) (c := 24) rfl rfl rfl (by decide) (by decide) ⟨by decide, by decide⟩ ?_
  refine q_aload_n 16 dX1_become_15 rfl rfl ?_
  refine q_aload_n 17 dX1_become_16 rfl rfl ?_
  refine q_getI 20 dX1_become_17 rfl fl_X1_15 hk2 rfl (by decide) ?_
  refine q_putI 23 dX1_become_20 rfl fl_X1_15 fp_1_1 hk rfl (by decide) rfl rfl ?_
  refine q_aload_n 24 dX1_become_23 rfl rfl ?_
  refine q_aload_n 25 dX1_become_24 rfl rfl ?_
  refine q_getI 28 dX1_become_25 rfl fl_X1_25 hk2 rfl (by decide) ?_
  refine q_putI 31 dX1_become_28 rfl fl_X1_25 fp_1_2 hk rfl (by decide) rfl rfl ?_
  refine q_vret dX1_become_31 ?_
  refine ⟨rfl, ?_⟩
  unfold sbM
  simp only [putA_pp, putA_s, putA_nk _ _ _ _ hne]
  rfl
theorem run_iff {a m : Int32} {z : Nat} (hz : z ≤ 24) : (0 ≤ a ∧ 0 ≤ m ∧ a ≤ nI z ∧ m ≤ nI z - a) ↔ cIdx a m z := by
  constructor
  · rintro ⟨h1, h2, h3, h4⟩
    obtain ⟨x, hx, rfl⟩ := nI_of (Int32.not_lt.mpr h1)
    obtain ⟨y, hy, rfl⟩ := nI_of (Int32.not_lt.mpr h2)
    rw [nI_leI hx (by omega)] at h3
    rw [pk_sub h3, nI_leI hy (by omega)] at h4
    refine ⟨h1, h2, ?_⟩
    unfold tn; rw [nI_clamp hx, nI_clamp hy]; omega
  · rintro ⟨h1, h2, h3⟩
    obtain ⟨x, hx, rfl⟩ := nI_of (Int32.not_lt.mpr h1)
    obtain ⟨y, hy, rfl⟩ := nI_of (Int32.not_lt.mpr h2)
    unfold tn at h3; rw [nI_clamp hx, nI_clamp hy] at h3
    refine ⟨h1, h2, (nI_leI hx (by omega)).mpr (by omega), ?_⟩
    rw [pk_sub (by omega), nI_leI hy (by omega)]; omega
set_option maxRecDepth 100000 in
set_option maxHeartbeats 4000000 in
theorem c1_hasRun {g : GT} (M : TM) (k : Nat) (hk : k < 9) (a m : Int32) (z : Nat) (hz : z ≤ 24) (ez : M 1 k 2 = nI z) : Cn g yX1_hasRun cX1_hasRun 3 (some .boolean) 0 [.ref (gad g 1 k), .int a, .int m] M (Rt (.int (bI (cIdx a m z))) M) := by
  refine Cn.ofTR (by decide +kernel) (Nat.le_of_ble_eq_true rfl) ?_
  rw [← bI_c (run_iff (a := a) (m := m) hz)]
  refine q_iload_n 1 dX1_hasRun_0 rfl rfl ?_
  refine q_if_lt 30 4 dX1_hasRun_1 rfl rfl (fun h_1 => ?_) (fun h_1 => ?_)
  · skip
    refine q_iconst (v := 0) 31 dX1_hasRun_30 rfl rfl ?_
    refine q_zret dX1_hasRun_31 rfl ?_
    refine ⟨congrArg (fun x => some (Value.int x)) ?_, rfl⟩
    first
    | exact (bI_f (fun q => absurd h_1 (Int32.not_lt.mpr q.1))).symm
    | exact (bI_f (fun q => absurd h_5 (Int32.not_lt.mpr q.2.1))).symm
    | exact (bI_f (fun q => absurd h_13 (Int32.not_lt.mpr q.2.2.1))).symm
    | exact (bI_f (fun q => absurd h_23 (Int32.not_lt.mpr q.2.2.2))).symm
    | exact (bI_t ⟨Int32.not_lt.mp h_1, Int32.not_lt.mp h_5, Int32.not_lt.mp h_13, Int32.not_lt.mp h_23⟩).symm
  · skip
    refine q_iload_n 5 dX1_hasRun_4 rfl rfl ?_
    refine q_if_lt 30 8 dX1_hasRun_5 rfl rfl (fun h_5 => ?_) (fun h_5 => ?_)
    · skip
      refine q_iconst (v := 0) 31 dX1_hasRun_30 rfl rfl ?_
      refine q_zret dX1_hasRun_31 rfl ?_
      refine ⟨congrArg (fun x => some (Value.int x)) ?_, rfl⟩
      first
      | exact (bI_f (fun q => absurd h_1 (Int32.not_lt.mpr q.1))).symm
      | exact (bI_f (fun q => absurd h_5 (Int32.not_lt.mpr q.2.1))).symm
      | exact (bI_f (fun q => absurd h_13 (Int32.not_lt.mpr q.2.2.1))).symm
      | exact (bI_f (fun q => absurd h_23 (Int32.not_lt.mpr q.2.2.2))).symm
      | exact (bI_t ⟨Int32.not_lt.mp h_1, Int32.not_lt.mp h_5, Int32.not_lt.mp h_13, Int32.not_lt.mp h_23⟩).symm
    · skip
      refine q_iload_n 9 dX1_hasRun_8 rfl rfl ?_
      refine q_aload_n 10 dX1_hasRun_9 rfl rfl ?_
      refine q_getI 13 dX1_hasRun_10 rfl fl_X1_25 hk rfl (by decide) ?_
      refine q_icmp_gt 30 16 dX1_hasRun_13 rfl rfl (fun h_13 => ?_) (fun h_13 => ?_)
      · skip
        rw [ez] at h_13
        refine q_iconst (v := 0) 31 dX1_hasRun_30 rfl rfl ?_
        refine q_zret dX1_hasRun_31 rfl ?_
        refine ⟨congrArg (fun x => some (Value.int x)) ?_, rfl⟩
        first
        | exact (bI_f (fun q => absurd h_1 (Int32.not_lt.mpr q.1))).symm
        | exact (bI_f (fun q => absurd h_5 (Int32.not_lt.mpr q.2.1))).symm
        | exact (bI_f (fun q => absurd h_13 (Int32.not_lt.mpr q.2.2.1))).symm
        | exact (bI_f (fun q => absurd h_23 (Int32.not_lt.mpr q.2.2.2))).symm
        | exact (bI_t ⟨Int32.not_lt.mp h_1, Int32.not_lt.mp h_5, Int32.not_lt.mp h_13, Int32.not_lt.mp h_23⟩).symm
      · skip
        rw [ez] at h_13
        refine q_iload_n 17 dX1_hasRun_16 rfl rfl ?_
        refine q_aload_n 18 dX1_hasRun_17 rfl rfl ?_
        refine q_getI 21 dX1_hasRun_18 rfl fl_X1_25 hk rfl (by decide) ?_
        refine q_iload_n 22 dX1_hasRun_21 rfl rfl ?_
        refine q_isub 23 dX1_hasRun_22 rfl ?_
        refine q_icmp_gt 30 26 dX1_hasRun_23 rfl rfl (fun h_23 => ?_) (fun h_23 => ?_)
        · skip
          rw [ez] at h_23
          refine q_iconst (v := 0) 31 dX1_hasRun_30 rfl rfl ?_
          refine q_zret dX1_hasRun_31 rfl ?_
          refine ⟨congrArg (fun x => some (Value.int x)) ?_, rfl⟩
          first
          | exact (bI_f (fun q => absurd h_1 (Int32.not_lt.mpr q.1))).symm
          | exact (bI_f (fun q => absurd h_5 (Int32.not_lt.mpr q.2.1))).symm
          | exact (bI_f (fun q => absurd h_13 (Int32.not_lt.mpr q.2.2.1))).symm
          | exact (bI_f (fun q => absurd h_23 (Int32.not_lt.mpr q.2.2.2))).symm
          | exact (bI_t ⟨Int32.not_lt.mp h_1, Int32.not_lt.mp h_5, Int32.not_lt.mp h_13, Int32.not_lt.mp h_23⟩).symm
        · skip
          rw [ez] at h_23
          refine q_iconst (v := 1) 27 dX1_hasRun_26 rfl rfl ?_
          refine q_goto 31 dX1_hasRun_27 rfl ?_
          refine q_zret dX1_hasRun_31 rfl ?_
          refine ⟨congrArg (fun x => some (Value.int x)) ?_, rfl⟩
          first
          | exact (bI_f (fun q => absurd h_1 (Int32.not_lt.mpr q.1))).symm
          | exact (bI_f (fun q => absurd h_5 (Int32.not_lt.mpr q.2.1))).symm
          | exact (bI_f (fun q => absurd h_13 (Int32.not_lt.mpr q.2.2.1))).symm
          | exact (bI_f (fun q => absurd h_23 (Int32.not_lt.mpr q.2.2.2))).symm
          | exact (bI_t ⟨Int32.not_lt.mp h_1, Int32.not_lt.mp h_5, Int32.not_lt.mp h_13, Int32.not_lt.mp h_23⟩).symm
set_option maxRecDepth 100000 in
set_option maxHeartbeats 4000000 in
theorem c2_takeMark {g : GT} (M : TM) (k : Nat) (hk : k < 5) (a b c : Int32) : Cn g yX2_takeMark cX2_takeMark 4 none 0 [.ref (gad g 2 k), .int a, .int b, .int c] M (Rv (putA M 2 k (upd (upd (upd (M 2 k) 3 a) 4 b) 5 c))) := by
  refine Cn.ofTR (by decide +kernel) (Nat.le_of_ble_eq_true rfl) ?_
  refine q_aload_n 1 dX2_takeMark_0 rfl rfl ?_
  refine q_iload_n 2 dX2_takeMark_1 rfl rfl ?_
  refine q_putI 5 dX2_takeMark_2 rfl fl_X2_22 fp_2_3 hk rfl (by decide) rfl rfl ?_
  refine q_aload_n 6 dX2_takeMark_5 rfl rfl ?_
  refine q_iload_n 7 dX2_takeMark_6 rfl rfl ?_
  refine q_putI 10 dX2_takeMark_7 rfl fl_X2_25 fp_2_4 hk rfl (by decide) rfl rfl ?_
  refine q_aload_n 11 dX2_takeMark_10 rfl rfl ?_
  refine q_iload_n 12 dX2_takeMark_11 rfl rfl ?_
  refine q_putI 15 dX2_takeMark_12 rfl fl_X2_28 fp_2_5 hk rfl (by decide) rfl rfl ?_
  refine q_vret dX2_takeMark_15 ?_
  refine ⟨rfl, ?_⟩
  rw [putA_pp, putA_s, putA_pp, putA_s]
theorem o3 {o : Int32} (h : -1 ≤ o ∧ o ≤ 1) (hn : ¬ o = -1) : 0 ≤ o := by
  obtain ⟨h1, -⟩ := h
  rw [Int32.le_iff_toInt_le] at h1 ⊢
  have hn' : o.toInt ≠ -1 := fun q => hn (Int32.toInt_inj.mp q)
  have e1 : (-1 : Int32).toInt = -1 := rfl
  have e0 : (0 : Int32).toInt = 0 := rfl
  omega
set_option maxRecDepth 100000 in
set_option maxHeartbeats 4000000 in
theorem c5_sheet {g : GT} (M : TM) (k o n : Int32) : Cn g yX5_sheet cX5_sheet 5 (some .int) 2 [.ref (gad g 5 0), .int k, .int o, .int n] M (fun r M' => r = some (.int (aSheet k o n)) ∧ M' = (if cSheet k o n ∧ ¬ (0 ≤ o ∧ n < 0) then clM M (tn k) o (if o < 0 then 0 else n) else M)) := by
  refine Cn.ofTR (by decide +kernel) (Nat.le_of_ble_eq_true rfl) ?_
  refine q_iload_n 1 dX5_sheet_0 rfl rfl ?_
  refine q_callSt 4 dX5_sheet_1 rfl (c5_isSheet _ _) cw_X5_212 rfl rfl ⟨by decide, by decide⟩ ⟨by decide, by decide⟩ (Nat.le_of_ble_eq_true rfl) ?_
  refine q_if_eq 16 7 dX5_sheet_4 rfl rfl (fun h_4 => ?_) (fun h_4 => ?_)
  · skip
    simp only [bI_0, Classical.not_not] at h_4
    refine q_ldc 18 dX5_sheet_16 rfl cs_X5_73 ?_
    refine q_iret dX5_sheet_18 ?_
    unfold aSheet
    rw [if_neg (fun q => by first | exact h_4 q.1 | exact h_13 q.2.1), if_neg (fun q => by first | exact h_4 q.1.1 | exact h_13 q.1.2.1)]
    exact ⟨rfl, rfl⟩
  · skip
    simp only [bI_0, Classical.not_not] at h_4
    obtain ⟨ek, lk⟩ := rg_tn h_4 (n := 3) rfl
    have k4 : tn k < 4 := by omega
    refine q_iload_n 8 dX5_sheet_7 rfl rfl ?_
    refine q_iconst (v := (-1)) 9 dX5_sheet_8 rfl rfl ?_
    refine q_iconst (v := 1) 10 dX5_sheet_9 rfl rfl ?_
    refine q_callSt 13 dX5_sheet_10 rfl (c5_within _ _ _ _) cw_X5_66 rfl rfl ⟨by decide, by decide⟩ ⟨by decide, by decide⟩ (Nat.le_of_ble_eq_true rfl) ?_
    refine q_if_ne 19 16 dX5_sheet_13 rfl rfl (fun h_13 => ?_) (fun h_13 => ?_)
    · skip
      simp only [bI_0, Classical.not_not] at h_13
      refine q_iload_n 20 dX5_sheet_19 rfl rfl ?_
      refine q_iconst (v := (-1)) 21 dX5_sheet_20 rfl rfl ?_
      refine q_icmp_ne 28 24 dX5_sheet_21 rfl rfl (fun h_21 => ?_) (fun h_21 => ?_)
      · skip
        have ho := o3 h_13 h_21
        have hno : ¬ o < 0 := Int32.not_lt.mpr ho
        refine q_iload_n 29 dX5_sheet_28 rfl rfl ?_
        refine q_istore 31 dX5_sheet_29 rfl (by decide) rfl ?_
        refine q_iload 33 dX5_sheet_31 rfl rfl ?_
        refine q_bipush (v := 24) 35 dX5_sheet_33 rfl rfl ?_
        refine q_icmp_le 41 38 dX5_sheet_35 rfl rfl (fun h_35 => ?_) (fun h_35 => ?_)
        · skip
          refine q_iload 43 dX5_sheet_41 rfl rfl ?_
          refine q_if_ge 50 46 dX5_sheet_43 rfl rfl (fun h_43 => ?_) (fun h_43 => ?_)
          · skip
            refine q_aload_n 51 dX5_sheet_50 rfl rfl ?_
            refine q_getR 54 dX5_sheet_51 rfl fl_X5_44 (by decide) rfl rfl ?_
            refine q_iload_n 55 dX5_sheet_54 rfl rfl ?_
            refine q_aald7 56 dX5_sheet_55 rfl ek k4 ?_
            refine q_iload_n 57 dX5_sheet_56 rfl rfl ?_
            refine q_iload 59 dX5_sheet_57 rfl rfl ?_
            refine q_callVv 62 dX5_sheet_59 rfl (c1_clear _ (tn k) (by omega) _ _) cw_X5_259 (show tn k < 9 by omega) rfl rfl ⟨by decide, by decide⟩ ⟨by decide, by decide⟩ (Nat.le_of_ble_eq_true rfl) ?_
            refine q_iload 64 dX5_sheet_62 rfl rfl ?_
            refine q_iret dX5_sheet_64 ?_
            unfold aSheet
            first
            | (have hq := hno; have h24 : ¬ 24 < n := Int32.not_lt.mpr h_35; have hn0 : ¬ n < 0 := Int32.not_lt.mpr h_43; have c1 : cSheet k o n := ⟨h_4, h_13, fun q => h24 q.2⟩; have c2 : ¬ (0 ≤ o ∧ n < 0) := fun q => hn0 q.2; rw [if_pos c1, if_neg c2, if_neg hq, if_pos ⟨c1, c2⟩]; exact ⟨rfl, rfl⟩)
            | (have c1 : cSheet k o n := ⟨h_4, h_13, fun q => hno q.1⟩; have c2 : ¬ (0 ≤ o ∧ n < 0) := fun q => hno q.1; rw [if_pos c1, if_neg c2, if_pos ho, if_pos ⟨c1, c2⟩]; exact ⟨rfl, rfl⟩)
          · skip
            refine q_ldc_w 49 dX5_sheet_46 rfl cs_X5_258 ?_
            refine q_iret dX5_sheet_49 ?_
            have h24 : ¬ 24 < n := Int32.not_lt.mpr h_35
            have hn0 := Int32.not_le.mp h_43
            unfold aSheet
            rw [if_pos ⟨h_4, h_13, fun q => h24 q.2⟩, if_pos ⟨ho, hn0⟩, if_neg (fun q => q.2 ⟨ho, hn0⟩)]
            exact ⟨rfl, rfl⟩
        · skip
          refine q_ldc 40 dX5_sheet_38 rfl cs_X5_73 ?_
          refine q_iret dX5_sheet_40 ?_
          first | exact absurd (show (0 : Int32) ≤ 24 by decide) h_35 | (have h24 := Int32.not_le.mp h_35; unfold aSheet; rw [if_neg (fun q => q.2.2 ⟨ho, h24⟩), if_neg (fun q => q.1.2.2 ⟨ho, h24⟩)]; exact ⟨rfl, rfl⟩)
      · skip
        have ho : o < 0 := by rw [h_21]; decide
        have hno : ¬ 0 ≤ o := Int32.not_le.mpr ho
        refine q_iconst (v := 0) 25 dX5_sheet_24 rfl rfl ?_
        refine q_goto 29 dX5_sheet_25 rfl ?_
        refine q_istore 31 dX5_sheet_29 rfl (by decide) rfl ?_
        refine q_iload 33 dX5_sheet_31 rfl rfl ?_
        refine q_bipush (v := 24) 35 dX5_sheet_33 rfl rfl ?_
        refine q_icmp_le 41 38 dX5_sheet_35 rfl rfl (fun h_35 => ?_) (fun h_35 => ?_)
        · skip
          refine q_iload 43 dX5_sheet_41 rfl rfl ?_
          refine q_if_ge 50 46 dX5_sheet_43 rfl rfl (fun _ => ?_) (fun h_43 => absurd (by decide) h_43)
          refine q_aload_n 51 dX5_sheet_50 rfl rfl ?_
          refine q_getR 54 dX5_sheet_51 rfl fl_X5_44 (by decide) rfl rfl ?_
          refine q_iload_n 55 dX5_sheet_54 rfl rfl ?_
          refine q_aald7 56 dX5_sheet_55 rfl ek k4 ?_
          refine q_iload_n 57 dX5_sheet_56 rfl rfl ?_
          refine q_iload 59 dX5_sheet_57 rfl rfl ?_
          refine q_callVv 62 dX5_sheet_59 rfl (c1_clear _ (tn k) (by omega) _ _) cw_X5_259 (show tn k < 9 by omega) rfl rfl ⟨by decide, by decide⟩ ⟨by decide, by decide⟩ (Nat.le_of_ble_eq_true rfl) ?_
          refine q_iload 64 dX5_sheet_62 rfl rfl ?_
          refine q_iret dX5_sheet_64 ?_
          unfold aSheet
          first
          | (have hq := hno; have h24 : ¬ 24 < n := Int32.not_lt.mpr h_35; have hn0 : ¬ n < 0 := Int32.not_lt.mpr h_43; have c1 : cSheet k o n := ⟨h_4, h_13, fun q => h24 q.2⟩; have c2 : ¬ (0 ≤ o ∧ n < 0) := fun q => hn0 q.2; rw [if_pos c1, if_neg c2, if_neg hq, if_pos ⟨c1, c2⟩]; exact ⟨rfl, rfl⟩)
          | (have c1 : cSheet k o n := ⟨h_4, h_13, fun q => hno q.1⟩; have c2 : ¬ (0 ≤ o ∧ n < 0) := fun q => hno q.1; rw [if_pos c1, if_neg c2, if_pos ho, if_pos ⟨c1, c2⟩]; exact ⟨rfl, rfl⟩)
        · skip
          refine q_ldc 40 dX5_sheet_38 rfl cs_X5_73 ?_
          refine q_iret dX5_sheet_40 ?_
          first | exact absurd (show (0 : Int32) ≤ 24 by decide) h_35 | (have h24 := Int32.not_le.mp h_35; unfold aSheet; rw [if_neg (fun q => q.2.2 ⟨ho, h24⟩), if_neg (fun q => q.1.2.2 ⟨ho, h24⟩)]; exact ⟨rfl, rfl⟩)
    · skip
      simp only [bI_0, Classical.not_not] at h_13
      refine q_ldc 18 dX5_sheet_16 rfl cs_X5_73 ?_
      refine q_iret dX5_sheet_18 ?_
      unfold aSheet
      rw [if_neg (fun q => by first | exact h_4 q.1 | exact h_13 q.2.1), if_neg (fun q => by first | exact h_4 q.1.1 | exact h_13 q.1.2.1)]
      exact ⟨rfl, rfl⟩
