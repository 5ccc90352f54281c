/-- the reference's own scratch rows: names and pile -/
def sc (M : TM) (f f2 : Nat → Int32) : TM := putA (putA M 44 0 f) 45 0 f2
theorem sc_sc (M : TM) (f f2 f3 f4 : Nat → Int32) : sc (sc M f f2) f3 f4 = sc M f3 f4 := by
  unfold sc
  rw [putA_cm (putA M 44 0 f) f2 f3 (by decide), putA_pp, putA_pp]
theorem sc_id (M : TM) : sc M (M 44 0) (M 45 0) = M := by unfold sc; rw [putA_id, putA_id]
theorem c6_many' {g : GT} (M : TM) (x : Int32) (q : Nat → Bool) (n : Nat) (hx : x = nI (setC q n)) (hn : n ≤ 10) : Cn g yX6_many cX6_many 3 (some .int) 0 [.int x] M (Rt (.int (nI (cntB q n))) M) := by
  have h := c6_many (g := g) M x _ hx (setC_le q hn)
  rw [popc_set q hn] at h
  exact h
theorem laF_spec (s : SS) (key : Int32) : ∀ n, n ≤ 14 → (laF s key n = -1) ∨ ∃ t, t < n ∧ laF s key n = nI t ∧ s (71 + 200 * t) = key
  | 0, _ => Or.inl rfl
  | n + 1, h => by
    unfold laF
    by_cases e : s (71 + 200 * n) = key
    · rw [if_pos e]; exact Or.inr ⟨n, by omega, rfl, e⟩
    · rw [if_neg e]
      rcases laF_spec s key n (by omega) with q | ⟨t, h1, h2, h3⟩
      · exact Or.inl q
      · exact Or.inr ⟨t, by omega, h2, h3⟩
theorem laF_pos {s : SS} {key : Int32} {n : Nat} (hn : n ≤ 14) (h : 0 ≤ laF s key n) : ∃ t, t < n ∧ laF s key n = nI t ∧ s (71 + 200 * t) = key := by
  rcases laF_spec s key n hn with q | q
  · rw [q] at h; exact absurd h (by decide)
  · exact q
def nmA (f : Nat → Int32) (i d c n : Int32) : Nat → Int32 := upd (upd (upd (upd f 105 i) 100 d) 99 c) 110 n
/-- what is asked of a state where marks are looked at -/
def Wm (s : SS) : Prop := (s 0 = nI (nN s) ∧ nN s ≤ 10) ∧ WFm s ∧ WFt s
theorem WF.m {b : Nat} {s : SS} (h : WF b s) : Wm s := ⟨h.1, h.2.2.2.2.1, h.2.2.2.2.2⟩
abbrev Rs (v : Value) (M : TM) : Option Value → TM → Prop := fun r M' => r = some v ∧ ∃ f f2, M' = sc M f f2
set_option maxRecDepth 100000 in
set_option maxHeartbeats 4000000 in
theorem c6_plain {g : GT} (M : TM) (x : Int32) (s : SS) (hs : M 31 0 = s) (hW : Wm s) (k : Nat) (hk : x = nI k) (h9 : k < 10) : Cn g yX6_plain cX6_plain 3 (some .int) 2 [.ref (gad g 6 0), .int x] M (Rs (.int (plF s k)) M) := by
  refine Cn.ofTR (by decide +kernel) (Nat.le_of_ble_eq_true rfl) ?_
  subst hs
  obtain ⟨⟨hn, hn10⟩, hm, ht1, ht2, ht3⟩ := hW
  obtain ⟨e1, e2⟩ := rg_nat (hm k h9).2.2.2.1 (n := 5) rfl
  refine q_aload_n 1 dX6_plain_0 rfl rfl ?_
  refine q_iconst (v := 0) 2 dX6_plain_1 rfl rfl ?_
  refine q_callVt 5 dX6_plain_2 rfl (c6_counts _ _ _ rfl (nT (M 31 0)) ht1 ht2) cw_X6_76 (by decide) rfl rfl ⟨by decide, by decide⟩ ⟨by decide, by decide⟩ (Nat.le_of_ble_eq_true rfl) ?_
  refine q_istore_n 6 dX6_plain_5 rfl (by decide) rfl ?_
  refine q_iload_n 7 dX6_plain_6 rfl rfl ?_
  refine q_if_ge 29 10 dX6_plain_7 rfl rfl (fun h_7 => ?_) (fun h_7 => ?_)
  · skip
    obtain ⟨t, e5, e3, e4⟩ := laF_pos ht2 h_7
    obtain ⟨-, m, hm1, hM, hg, hw⟩ := ht3 t e5
    refine q_aload_n 30 dX6_plain_29 rfl rfl ?_
    refine q_getR 33 dX6_plain_30 rfl fl_X6_49 (by decide) rfl rfl ?_
    refine q_bipush (v := 105) 35 dX6_plain_33 rfl rfl ?_
    refine q_aload_n 36 dX6_plain_35 rfl rfl ?_
    refine q_iload_n 37 dX6_plain_36 rfl rfl ?_
    refine q_iconst (v := 1) 38 dX6_plain_37 rfl rfl ?_
    refine q_callVt 41 dX6_plain_38 rfl (c6_of _ _ _ k 1 hk rfl (by omega)) cw_X6_72 (by decide) rfl rfl ⟨by decide, by decide⟩ ⟨by decide, by decide⟩ (Nat.le_of_ble_eq_true rfl) ?_
    refine q_iast 42 dX6_plain_41 rfl (by decide) (by decide) rfl (by decide) ?_
    refine q_aload_n 43 dX6_plain_42 rfl rfl ?_
    refine q_getR 46 dX6_plain_43 rfl fl_X6_49 (by decide) rfl rfl ?_
    refine q_bipush (v := 100) 48 dX6_plain_46 rfl rfl ?_
    refine q_aload_n 49 dX6_plain_48 rfl rfl ?_
    refine q_iload_n 50 dX6_plain_49 rfl rfl ?_
    refine q_iconst (v := 2) 51 dX6_plain_50 rfl rfl ?_
    refine q_callVt 54 dX6_plain_51 rfl (c6_of _ _ _ k 2 hk rfl (by omega)) cw_X6_72 (by decide) rfl rfl ⟨by decide, by decide⟩ ⟨by decide, by decide⟩ (Nat.le_of_ble_eq_true rfl) ?_
    refine q_iast 55 dX6_plain_54 rfl (by decide) (by decide) rfl (by decide) ?_
    refine q_aload_n 56 dX6_plain_55 rfl rfl ?_
    refine q_getR 59 dX6_plain_56 rfl fl_X6_49 (by decide) rfl rfl ?_
    refine q_bipush (v := 99) 61 dX6_plain_59 rfl rfl ?_
    refine q_aload_n 62 dX6_plain_61 rfl rfl ?_
    refine q_getR 65 dX6_plain_62 rfl fl_X6_7 (by decide) rfl rfl ?_
    refine q_bipush (v := 15) 67 dX6_plain_65 rfl rfl ?_
    refine q_aload_n 68 dX6_plain_67 rfl rfl ?_
    refine q_iload_n 69 dX6_plain_68 rfl rfl ?_
    refine q_iconst (v := 3) 70 dX6_plain_69 rfl rfl ?_
    refine q_callVt 73 dX6_plain_70 rfl (c6_of _ _ _ k 3 hk rfl (by omega)) cw_X6_72 (by decide) rfl rfl ⟨by decide, by decide⟩ ⟨by decide, by decide⟩ (Nat.le_of_ble_eq_true rfl) ?_
    refine q_iadd 74 dX6_plain_73 rfl ?_
    refine q_iald 75 dX6_plain_74 rfl (by decide) (by decide) (ix_ad e1) (show 15 + (mk (M 31 0) k 3).toNatClampNeg < 3071 by omega) ?_
    refine q_iast 76 dX6_plain_75 rfl (by decide) (by decide) rfl (by decide) ?_
    refine q_aload_n 77 dX6_plain_76 rfl rfl ?_
    refine q_getR 80 dX6_plain_77 rfl fl_X6_49 (by decide) rfl rfl ?_
    refine q_bipush (v := 110) 82 dX6_plain_80 rfl rfl ?_
    refine q_aload_n 83 dX6_plain_82 rfl rfl ?_
    refine q_aload_n 84 dX6_plain_83 rfl rfl ?_
    refine q_iload_n 85 dX6_plain_84 rfl rfl ?_
    refine q_iconst (v := 3) 86 dX6_plain_85 rfl rfl ?_
    refine q_callVt 89 dX6_plain_86 rfl (c6_of _ _ _ k 3 hk rfl (by omega)) cw_X6_72 (by decide) rfl rfl ⟨by decide, by decide⟩ ⟨by decide, by decide⟩ (Nat.le_of_ble_eq_true rfl) ?_
    refine q_callVt 92 dX6_plain_89 rfl (c6_marksIn _ _ (M 31 0) (by rfl) (nN (M 31 0)) hn hn10) cw_X6_83 (by decide) rfl rfl ⟨by decide, by decide⟩ ⟨by decide, by decide⟩ (Nat.le_of_ble_eq_true rfl) ?_
    refine q_callSt 95 dX6_plain_92 rfl (c6_many' _ _ _ _ rfl hn10) cw_X6_86 rfl rfl ⟨by decide, by decide⟩ ⟨by decide, by decide⟩ (Nat.le_of_ble_eq_true rfl) ?_
    refine q_iast 96 dX6_plain_95 rfl (by decide) (by decide) rfl (by decide) ?_
    refine q_eqM (M' := putA M 44 0 (nmA (M 44 0) (mk (M 31 0) k 1) (mk (M 31 0) k 2) (M 31 0 (15 + (mk (M 31 0) k 3).toNatClampNeg)) (nI (ctF (M 31 0) (mk (M 31 0) k 3))))) (by simp only [putA_s, putA_pp]; rfl) ?_
    refine q_aload_n 97 dX6_plain_96 rfl rfl ?_
    refine q_iload_n 98 dX6_plain_97 rfl rfl ?_
    refine q_callV 101 dX6_plain_98 rfl (c6_worked _ _ t m e3 (by omega) (M 31 0) (by rfl) (fun v => (nmA (M 44 0) (mk (M 31 0) k 1) (mk (M 31 0) k 2) (M 31 0 (15 + (mk (M 31 0) k 3).toNatClampNeg)) (nI (ctF (M 31 0) (mk (M 31 0) k 3)))) v.toNatClampNeg) (fun c hc => by rw [nI_clamp (by omega)]; rfl) 0 hm1 hg hM (by rw [e4] at hw; exact hw)) cw_X6_89 (by decide) rfl rfl ⟨by decide, by decide⟩ ⟨by decide, by decide⟩ (Nat.le_of_ble_eq_true rfl) ?_
    rintro _ _ ⟨rfl, p, rfl⟩
    refine q_bipush (v := 99) 103 dX6_plain_101 rfl rfl ?_
    refine q_callSt 106 dX6_plain_103 rfl (c6_within _ _ _) cw_X6_80 rfl rfl ⟨by decide, by decide⟩ ⟨by decide, by decide⟩ (Nat.le_of_ble_eq_true rfl) ?_
    refine q_iret dX6_plain_106 ?_
    refine ⟨congrArg (fun x => some (Value.int x)) ?_, _, p, rfl⟩
    unfold plF
    rw [if_neg (Int32.not_lt.mpr h_7), e3, nI_clamp (by omega)]
    unfold vaT
    rw [hM, nI_clamp (by omega)]
    congr 1
    rw [e4] at hw
    refine pil_eq hw (fun c hc => ?_) m (Nat.le_refl _) 0 (by omega)
    unfold okN at hc
    rw [if_pos rfl] at hc
    rcases hc with rfl | rfl | rfl | rfl <;> rfl
  · skip
    refine q_aload_n 11 dX6_plain_10 rfl rfl ?_
    refine q_iload_n 12 dX6_plain_11 rfl rfl ?_
    refine q_iconst (v := 1) 13 dX6_plain_12 rfl rfl ?_
    refine q_callVt 16 dX6_plain_13 rfl (c6_of _ _ _ k 1 hk rfl (by omega)) cw_X6_72 (by decide) rfl rfl ⟨by decide, by decide⟩ ⟨by decide, by decide⟩ (Nat.le_of_ble_eq_true rfl) ?_
    refine q_aload_n 17 dX6_plain_16 rfl rfl ?_
    refine q_iload_n 18 dX6_plain_17 rfl rfl ?_
    refine q_iconst (v := 2) 19 dX6_plain_18 rfl rfl ?_
    refine q_callVt 22 dX6_plain_19 rfl (c6_of _ _ _ k 2 hk rfl (by omega)) cw_X6_72 (by decide) rfl rfl ⟨by decide, by decide⟩ ⟨by decide, by decide⟩ (Nat.le_of_ble_eq_true rfl) ?_
    refine q_isub 23 dX6_plain_22 rfl ?_
    refine q_bipush (v := 99) 25 dX6_plain_23 rfl rfl ?_
    refine q_callSt 28 dX6_plain_25 rfl (c6_within _ _ _) cw_X6_80 rfl rfl ⟨by decide, by decide⟩ ⟨by decide, by decide⟩ (Nat.le_of_ble_eq_true rfl) ?_
    refine q_iret dX6_plain_28 ?_
    refine ⟨?_, _, _, (sc_id M).symm⟩
    unfold plF
    rw [if_pos (Int32.not_le.mp h_7)]
    rfl
set_option maxRecDepth 100000 in
set_option maxHeartbeats 4000000 in
theorem c6_shows {g : GT} (M : TM) (x : Int32) (s : SS) (hs : M 31 0 = s) (hW : Wm s) (k : Nat) (hk : x = nI k) (h9 : k < 10) : Cn g yX6_shows cX6_shows 4 (some .int) 3 [.ref (gad g 6 0), .int x] M (Rs (.int (shF s k)) M) := by
  refine Cn.ofTR (by decide +kernel) (Nat.le_of_ble_eq_true rfl) ?_
  have hW0 := hW
  subst hs
  obtain ⟨⟨hn, hn10⟩, hm, ht1, ht2, ht3⟩ := hW
  refine q_aload_n 1 dX6_shows_0 rfl rfl ?_
  refine q_iload_n 2 dX6_shows_1 rfl rfl ?_
  refine q_callV 5 dX6_shows_2 rfl (c6_plain _ _ (M 31 0) (by rfl) hW0 k hk h9) cw_X6_92 (by decide) rfl rfl ⟨by decide, by decide⟩ ⟨by decide, by decide⟩ (Nat.le_of_ble_eq_true rfl) ?_
  rintro _ _ ⟨rfl, f, f2, rfl⟩
  refine q_istore_n 6 dX6_shows_5 rfl (by decide) rfl ?_
  refine q_bipush (v := 99) 8 dX6_shows_6 rfl rfl ?_
  refine q_iload_n 9 dX6_shows_8 rfl rfl ?_
  refine q_iconst (v := 2) 10 dX6_shows_9 rfl rfl ?_
  refine q_aload_n 11 dX6_shows_10 rfl rfl ?_
  refine q_aload_n 12 dX6_shows_11 rfl rfl ?_
  refine q_iload_n 13 dX6_shows_12 rfl rfl ?_
  refine q_iconst (v := 3) 14 dX6_shows_13 rfl rfl ?_
  refine q_callVt 17 dX6_shows_14 rfl (c6_of _ _ _ k 3 hk rfl (by omega)) cw_X6_72 (by decide) rfl rfl ⟨by decide, by decide⟩ ⟨by decide, by decide⟩ (Nat.le_of_ble_eq_true rfl) ?_
  refine q_callVt 20 dX6_shows_17 rfl (c6_marksIn _ _ (M 31 0) (by rfl) (nN (M 31 0)) hn hn10) cw_X6_83 (by decide) rfl rfl ⟨by decide, by decide⟩ ⟨by decide, by decide⟩ (Nat.le_of_ble_eq_true rfl) ?_
  refine q_callSt 23 dX6_shows_20 rfl (c6_many' _ _ _ _ rfl hn10) cw_X6_86 rfl rfl ⟨by decide, by decide⟩ ⟨by decide, by decide⟩ (Nat.le_of_ble_eq_true rfl) ?_
  refine q_iconst (v := 1) 24 dX6_shows_23 rfl rfl ?_
  refine q_isub 25 dX6_shows_24 rfl ?_
  refine q_imul 26 dX6_shows_25 rfl ?_
  refine q_iadd 27 dX6_shows_26 rfl ?_
  refine q_callSt 30 dX6_shows_27 rfl (c6_least _ _ _) cw_X6_95 rfl rfl ⟨by decide, by decide⟩ ⟨by decide, by decide⟩ (Nat.le_of_ble_eq_true rfl) ?_
  refine q_istore_n 31 dX6_shows_30 rfl (by decide) rfl ?_
  refine q_aload_n 32 dX6_shows_31 rfl rfl ?_
  refine q_iload_n 33 dX6_shows_32 rfl rfl ?_
  refine q_iconst (v := 0) 34 dX6_shows_33 rfl rfl ?_
  refine q_callVt 37 dX6_shows_34 rfl (c6_of _ _ _ k 0 hk rfl (by omega)) cw_X6_72 (by decide) rfl rfl ⟨by decide, by decide⟩ ⟨by decide, by decide⟩ (Nat.le_of_ble_eq_true rfl) ?_
  by_cases hs_37_1 : M 31 0 (21 + 5 * k + 0) = (1 : Int32)
  · skip
    refine q_tab 72 dX6_shows_37 rfl (sw_eq hs_37_1 rfl) rfl ?_
    refine q_bipush (v := 99) 74 dX6_shows_72 rfl rfl ?_
    refine q_iload_n 75 dX6_shows_74 rfl rfl ?_
    refine q_iconst (v := 5) 76 dX6_shows_75 rfl rfl ?_
    refine q_iadd 77 dX6_shows_76 rfl ?_
    refine q_callSt 80 dX6_shows_77 rfl (c6_least _ _ _) cw_X6_95 rfl rfl ⟨by decide, by decide⟩ ⟨by decide, by decide⟩ (Nat.le_of_ble_eq_true rfl) ?_
    refine q_iret dX6_shows_80 ?_
    refine ⟨congrArg (fun x => some (Value.int x)) ?_, _, _, rfl⟩
    show _ = shK (M 31 0 (21 + 5 * k + 0)) (plF (M 31 0) k) (nI (ctF (M 31 0) (mk (M 31 0) k 3)))
    unfold shK
    first | (rw [if_pos hs_37_1] <;> rfl) | (rw [if_neg hs_37_1, if_pos hs_37_2] <;> rfl) | (rw [if_neg hs_37_1, if_neg hs_37_2, if_pos hs_37_3] <;> rfl) | (rw [if_neg hs_37_1, if_neg hs_37_2, if_neg hs_37_3, if_pos hs_37_4] <;> rfl) | (rw [if_neg hs_37_1, if_neg hs_37_2, if_neg hs_37_3, if_neg hs_37_4, if_pos hs_37_5] <;> rfl) | (rw [if_neg hs_37_1, if_neg hs_37_2, if_neg hs_37_3, if_neg hs_37_4, if_neg hs_37_5] <;> rfl)
  by_cases hs_37_2 : M 31 0 (21 + 5 * k + 0) = (2 : Int32)
  · skip
    refine q_tab 81 dX6_shows_37 rfl (sw_eq hs_37_2 rfl) rfl ?_
    refine q_iload_n 82 dX6_shows_81 rfl rfl ?_
    refine q_iret dX6_shows_82 ?_
    refine ⟨congrArg (fun x => some (Value.int x)) ?_, _, _, rfl⟩
    show _ = shK (M 31 0 (21 + 5 * k + 0)) (plF (M 31 0) k) (nI (ctF (M 31 0) (mk (M 31 0) k 3)))
    unfold shK
    first | (rw [if_pos hs_37_1] <;> rfl) | (rw [if_neg hs_37_1, if_pos hs_37_2] <;> rfl) | (rw [if_neg hs_37_1, if_neg hs_37_2, if_pos hs_37_3] <;> rfl) | (rw [if_neg hs_37_1, if_neg hs_37_2, if_neg hs_37_3, if_pos hs_37_4] <;> rfl) | (rw [if_neg hs_37_1, if_neg hs_37_2, if_neg hs_37_3, if_neg hs_37_4, if_pos hs_37_5] <;> rfl) | (rw [if_neg hs_37_1, if_neg hs_37_2, if_neg hs_37_3, if_neg hs_37_4, if_neg hs_37_5] <;> rfl)
  by_cases hs_37_3 : M 31 0 (21 + 5 * k + 0) = (3 : Int32)
  · skip
    refine q_tab 83 dX6_shows_37 rfl (sw_eq hs_37_3 rfl) rfl ?_
    refine q_bipush (v := 99) 85 dX6_shows_83 rfl rfl ?_
    refine q_iload_n 86 dX6_shows_85 rfl rfl ?_
    refine q_iconst (v := 5) 87 dX6_shows_86 rfl rfl ?_
    refine q_iadd 88 dX6_shows_87 rfl ?_
    refine q_callSt 91 dX6_shows_88 rfl (c6_least _ _ _) cw_X6_95 rfl rfl ⟨by decide, by decide⟩ ⟨by decide, by decide⟩ (Nat.le_of_ble_eq_true rfl) ?_
    refine q_iconst (v := 2) 92 dX6_shows_91 rfl rfl ?_
    refine q_idiv 93 dX6_shows_92 rfl (by decide) ?_
    refine q_iret dX6_shows_93 ?_
    refine ⟨congrArg (fun x => some (Value.int x)) ?_, _, _, rfl⟩
    show _ = shK (M 31 0 (21 + 5 * k + 0)) (plF (M 31 0) k) (nI (ctF (M 31 0) (mk (M 31 0) k 3)))
    unfold shK
    first | (rw [if_pos hs_37_1] <;> rfl) | (rw [if_neg hs_37_1, if_pos hs_37_2] <;> rfl) | (rw [if_neg hs_37_1, if_neg hs_37_2, if_pos hs_37_3] <;> rfl) | (rw [if_neg hs_37_1, if_neg hs_37_2, if_neg hs_37_3, if_pos hs_37_4] <;> rfl) | (rw [if_neg hs_37_1, if_neg hs_37_2, if_neg hs_37_3, if_neg hs_37_4, if_pos hs_37_5] <;> rfl) | (rw [if_neg hs_37_1, if_neg hs_37_2, if_neg hs_37_3, if_neg hs_37_4, if_neg hs_37_5] <;> rfl)
  by_cases hs_37_4 : M 31 0 (21 + 5 * k + 0) = (4 : Int32)
  · skip
    refine q_tab 94 dX6_shows_37 rfl (sw_eq hs_37_4 rfl) rfl ?_
    refine q_iload_n 95 dX6_shows_94 rfl rfl ?_
    refine q_bipush (v := 10) 97 dX6_shows_95 rfl rfl ?_
    refine q_isub 98 dX6_shows_97 rfl ?_
    refine q_bipush (v := 99) 100 dX6_shows_98 rfl rfl ?_
    refine q_callSt 103 dX6_shows_100 rfl (c6_within _ _ _) cw_X6_80 rfl rfl ⟨by decide, by decide⟩ ⟨by decide, by decide⟩ (Nat.le_of_ble_eq_true rfl) ?_
    refine q_iret dX6_shows_103 ?_
    refine ⟨congrArg (fun x => some (Value.int x)) ?_, _, _, rfl⟩
    show _ = shK (M 31 0 (21 + 5 * k + 0)) (plF (M 31 0) k) (nI (ctF (M 31 0) (mk (M 31 0) k 3)))
    unfold shK
    first | (rw [if_pos hs_37_1] <;> rfl) | (rw [if_neg hs_37_1, if_pos hs_37_2] <;> rfl) | (rw [if_neg hs_37_1, if_neg hs_37_2, if_pos hs_37_3] <;> rfl) | (rw [if_neg hs_37_1, if_neg hs_37_2, if_neg hs_37_3, if_pos hs_37_4] <;> rfl) | (rw [if_neg hs_37_1, if_neg hs_37_2, if_neg hs_37_3, if_neg hs_37_4, if_pos hs_37_5] <;> rfl) | (rw [if_neg hs_37_1, if_neg hs_37_2, if_neg hs_37_3, if_neg hs_37_4, if_neg hs_37_5] <;> rfl)
  by_cases hs_37_5 : M 31 0 (21 + 5 * k + 0) = (5 : Int32)
  · skip
    refine q_tab 104 dX6_shows_37 rfl (sw_eq hs_37_5 rfl) rfl ?_
    refine q_bipush (v := 20) 106 dX6_shows_104 rfl rfl ?_
    refine q_iret dX6_shows_106 ?_
    refine ⟨congrArg (fun x => some (Value.int x)) ?_, _, _, rfl⟩
    show _ = shK (M 31 0 (21 + 5 * k + 0)) (plF (M 31 0) k) (nI (ctF (M 31 0) (mk (M 31 0) k 3)))
    unfold shK
    first | (rw [if_pos hs_37_1] <;> rfl) | (rw [if_neg hs_37_1, if_pos hs_37_2] <;> rfl) | (rw [if_neg hs_37_1, if_neg hs_37_2, if_pos hs_37_3] <;> rfl) | (rw [if_neg hs_37_1, if_neg hs_37_2, if_neg hs_37_3, if_pos hs_37_4] <;> rfl) | (rw [if_neg hs_37_1, if_neg hs_37_2, if_neg hs_37_3, if_neg hs_37_4, if_pos hs_37_5] <;> rfl) | (rw [if_neg hs_37_1, if_neg hs_37_2, if_neg hs_37_3, if_neg hs_37_4, if_neg hs_37_5] <;> rfl)
  refine q_tab 107 dX6_shows_37 rfl (sw_def [1, 2, 3, 4, 5] (by decide) rfl (by simp only [List.mem_cons, List.not_mem_nil, or_false, not_or]; exact ⟨lv_neT hs_37_1 rfl, lv_neT hs_37_2 rfl, lv_neT hs_37_3 rfl, lv_neT hs_37_4 rfl, lv_neT hs_37_5 rfl⟩)) rfl ?_
  refine q_iload_n 108 dX6_shows_107 rfl rfl ?_
  refine q_iret dX6_shows_108 ?_
  refine ⟨congrArg (fun x => some (Value.int x)) ?_, _, _, rfl⟩
  show _ = shK (M 31 0 (21 + 5 * k + 0)) (plF (M 31 0) k) (nI (ctF (M 31 0) (mk (M 31 0) k 3)))
  unfold shK
  first | (rw [if_pos hs_37_1] <;> rfl) | (rw [if_neg hs_37_1, if_pos hs_37_2] <;> rfl) | (rw [if_neg hs_37_1, if_neg hs_37_2, if_pos hs_37_3] <;> rfl) | (rw [if_neg hs_37_1, if_neg hs_37_2, if_neg hs_37_3, if_pos hs_37_4] <;> rfl) | (rw [if_neg hs_37_1, if_neg hs_37_2, if_neg hs_37_3, if_neg hs_37_4, if_pos hs_37_5] <;> rfl) | (rw [if_neg hs_37_1, if_neg hs_37_2, if_neg hs_37_3, if_neg hs_37_4, if_neg hs_37_5] <;> rfl)
set_option maxRecDepth 100000 in
set_option maxHeartbeats 4000000 in
theorem c6_isLegible {g : GT} (M : TM) (x : Int32) (s : SS) (hs : M 31 0 = s) (hW : Wm s) (k : Nat) (hk : x = nI k) (h9 : k < 10) : Cn g yX6_isLegible cX6_isLegible 2 (some .boolean) 4 [.ref (gad g 6 0), .int x] M (Rs (.int (bI (s 4 ≤ shF s k))) M) := by
  refine Cn.ofTR (by decide +kernel) (Nat.le_of_ble_eq_true rfl) ?_
  have hW0 := hW
  subst hs
  refine q_aload_n 1 dX6_isLegible_0 rfl rfl ?_
  refine q_iload_n 2 dX6_isLegible_1 rfl rfl ?_
  refine q_callV 5 dX6_isLegible_2 rfl (c6_shows _ _ (M 31 0) (by rfl) hW0 k hk h9) cw_X6_121 (by decide) rfl rfl ⟨by decide, by decide⟩ ⟨by decide, by decide⟩ (Nat.le_of_ble_eq_true rfl) ?_
  rintro _ _ ⟨rfl, f, f2, rfl⟩
  refine q_aload_n 6 dX6_isLegible_5 rfl rfl ?_
  refine q_getR 9 dX6_isLegible_6 rfl fl_X6_7 (by decide) rfl rfl ?_
  refine q_iconst (v := 4) 10 dX6_isLegible_9 rfl rfl ?_
  refine q_iald 11 dX6_isLegible_10 rfl (by decide) (by decide) rfl (by decide) ?_
  refine q_icmp_lt 18 14 dX6_isLegible_11 rfl rfl (fun h_11 => ?_) (fun h_11 => ?_)
  · skip
    refine q_iconst (v := 0) 19 dX6_isLegible_18 rfl rfl ?_
    refine q_zret dX6_isLegible_19 rfl ?_
    refine ⟨congrArg (fun x => some (Value.int x)) ?_, _, _, rfl⟩
    first | exact (bI_t (Int32.not_lt.mp h_11)).symm | exact (bI_f (Int32.not_le.mpr h_11)).symm
  · skip
    refine q_iconst (v := 1) 15 dX6_isLegible_14 rfl rfl ?_
    refine q_goto 19 dX6_isLegible_15 rfl ?_
    refine q_zret dX6_isLegible_19 rfl ?_
    refine ⟨congrArg (fun x => some (Value.int x)) ?_, _, _, rfl⟩
    first | exact (bI_t (Int32.not_lt.mp h_11)).symm | exact (bI_f (Int32.not_le.mpr h_11)).symm
set_option maxRecDepth 100000 in
set_option maxHeartbeats 4000000 in
theorem l6_legible {g : GT} (M : TM) (s : SS) (hs : M 31 0 = s) (hW : Wm s) : ∀ (j : Nat) (k : Nat) (x y : Int32) (f f2 : Nat → Int32), nN s - k < j → k ≤ nN s → x = nI (setC (fun k => decide (s 4 ≤ shF s k)) k) → y = nI k → TR g (rmD 5) RX6 cX6_legible 3 (some .int) 0 0 (Zm g (Rs (.int (nI (setC (fun k => decide (s 4 ≤ shF s k)) (nN s)))) M)) 4 [some (.ref (gad g 6 0)), some (.int x), some (.int y)] [] (sc M f f2) := by
  intro j
  induction j with
  | zero => intro k x y f f2 hj hkn hx hk; exact absurd hj (by omega)
  | succ j ih =>
    intro k x y f f2 hj hkn hx hk
    have hW0 := hW
    subst hs; subst hk
    obtain ⟨⟨hn, hn10⟩, hm⟩ := hW
    refine q_iload_n 5 dX6_legible_4 rfl rfl ?_
    refine q_aload_n 6 dX6_legible_5 rfl rfl ?_
    refine q_getR 9 dX6_legible_6 rfl fl_X6_7 (by decide) rfl rfl ?_
    refine q_iconst (v := 0) 10 dX6_legible_9 rfl rfl ?_
    refine q_iald 11 dX6_legible_10 rfl (by decide) (by decide) rfl (by decide) ?_
    refine q_icmp_ge 38 14 dX6_legible_11 rfl rfl (fun h_11 => ?_) (fun h_11 => ?_)
    · skip
      replace h_11 : nI (nN (M 31 0)) ≤ nI k := by rw [← hn]; exact h_11
      rw [nI_leI (by omega) (by omega)] at h_11
      refine q_iload_n 39 dX6_legible_38 rfl rfl ?_
      refine q_iret dX6_legible_39 ?_
      exact ⟨by rw [hx, show k = nN (M 31 0) by omega], f, f2, rfl⟩
    · skip
      replace h_11 : ¬ nI (nN (M 31 0)) ≤ nI k := by rw [← hn]; exact h_11
      rw [nI_leI (by omega) (by omega)] at h_11
      refine q_iload_n 15 dX6_legible_14 rfl rfl ?_
      refine q_aload_n 16 dX6_legible_15 rfl rfl ?_
      refine q_iload_n 17 dX6_legible_16 rfl rfl ?_
      refine q_callV 20 dX6_legible_17 rfl (c6_isLegible _ _ (M 31 0) (by rfl) hW0 k rfl (by omega)) cw_X6_162 (by decide) rfl rfl ⟨by decide, by decide⟩ ⟨by decide, by decide⟩ (Nat.le_of_ble_eq_true rfl) ?_
      rintro _ _ ⟨rfl, f3, f4, rfl⟩
      refine q_eqM (sc_sc M f f2 f3 f4) ?_
      refine q_if_eq 29 23 dX6_legible_20 rfl rfl (fun h_20 => ?_) (fun h_20 => ?_)
      · skip
        simp only [bI_0, Classical.not_not] at h_20
        refine q_iconst (v := 0) 30 dX6_legible_29 rfl rfl ?_
        refine q_ior 31 dX6_legible_30 rfl ?_
        refine q_istore_n 32 dX6_legible_31 rfl (by decide) rfl ?_
        refine q_iinc 35 dX6_legible_32 rfl rfl (by decide) rfl (nI_1 k) ?_
        refine q_goto 4 dX6_legible_35 rfl ?_
        refine q_fg (ih (k + 1) _ _ f3 f4 (by omega) (by omega) ?_ rfl) ⟨rfl, rfl, rfl, trivial⟩
        unfold setC
        first | rw [if_pos (by simpa using h_20), hx, one_shl k (by omega), nI_or_pow (setC_lt _ k) (by omega)] | rw [if_neg (by simpa using h_20), hx, nI_or_0] <;> rfl
      · skip
        simp only [bI_0, Classical.not_not] at h_20
        refine q_iconst (v := 1) 24 dX6_legible_23 rfl rfl ?_
        refine q_iload_n 25 dX6_legible_24 rfl rfl ?_
        refine q_ishl 26 dX6_legible_25 rfl ?_
        refine q_goto 30 dX6_legible_26 rfl ?_
        refine q_ior 31 dX6_legible_30 rfl ?_
        refine q_istore_n 32 dX6_legible_31 rfl (by decide) rfl ?_
        refine q_iinc 35 dX6_legible_32 rfl rfl (by decide) rfl (nI_1 k) ?_
        refine q_goto 4 dX6_legible_35 rfl ?_
        refine q_fg (ih (k + 1) _ _ f3 f4 (by omega) (by omega) ?_ rfl) ⟨rfl, rfl, rfl, trivial⟩
        unfold setC
        first | rw [if_pos (by simpa using h_20), hx, one_shl k (by omega), nI_or_pow (setC_lt _ k) (by omega)] | rw [if_neg (by simpa using h_20), hx, nI_or_0] <;> rfl
set_option maxRecDepth 100000 in
set_option maxHeartbeats 4000000 in
theorem c6_legible {g : GT} (M : TM) (s : SS) (hs : M 31 0 = s) (hW : Wm s) : Cn g yX6_legible cX6_legible 3 (some .int) 5 [.ref (gad g 6 0)] M (Rs (.int (nI (setC (fun k => decide (s 4 ≤ shF s k)) (nN s)))) M) := by
  refine Cn.ofTR (by decide +kernel) (Nat.le_of_ble_eq_true rfl) ?_
  refine q_iconst (v := 0) 1 dX6_legible_0 rfl rfl ?_
  refine q_istore_n 2 dX6_legible_1 rfl (by decide) rfl ?_
  refine q_iconst (v := 0) 3 dX6_legible_2 rfl rfl ?_
  refine q_istore_n 4 dX6_legible_3 rfl (by decide) rfl ?_
  exact q_eqM (sc_id M).symm (q_fg (l6_legible M s hs hW (nN s + 1) 0 0 0 _ _ (by omega) (by omega) rfl rfl) ⟨rfl, rfl, rfl, trivial⟩)
/-- what the marks of a set show, together -/
def sumS (f : Nat → Int32) (q : Nat → Bool) : Nat → Int32
  | 0 => 0
  | k + 1 => sumS f q k + (if q k then f k else 0)
theorem sumS_congr {f f' : Nat → Int32} {q q' : Nat → Bool} : ∀ n, (∀ k, k < n → q k = q' k ∧ f k = f' k) → sumS f q n = sumS f' q' n
  | 0, _ => rfl
  | n + 1, h => by unfold sumS; rw [sumS_congr n (fun k hk => h k (by omega)), (h n (by omega)).1, (h n (by omega)).2]
set_option maxRecDepth 100000 in
set_option maxHeartbeats 4000000 in
theorem l6_shownBy {g : GT} (M : TM) (z : Int32) (a : Nat) (hz : z = nI a) (ha : a < 1024) (s : SS) (hs : M 31 0 = s) (hW : Wm s) : ∀ (j : Nat) (k : Nat) (x y : Int32) (f f2 : Nat → Int32), nN s - k < j → k ≤ nN s → x = sumS (shF s) a.testBit k → y = nI k → TR g (rmD 4) RX6 cX6_shownBy 4 (some .int) 0 0 (Zm g (Rs (.int (sumS (shF s) a.testBit (nN s))) M)) 4 [some (.ref (gad g 6 0)), some (.int z), some (.int x), some (.int y)] [] (sc M f f2) := by
  intro j
  induction j with
  | zero => intro k x y f f2 hj hkn hx hk; exact absurd hj (by omega)
  | succ j ih =>
    intro k x y f f2 hj hkn hx hk
    have hW0 := hW
    subst hs; subst hk; subst hz
    obtain ⟨⟨hn, hn10⟩, hm⟩ := hW
    refine q_iload_n 5 dX6_shownBy_4 rfl rfl ?_
    refine q_aload_n 6 dX6_shownBy_5 rfl rfl ?_
    refine q_getR 9 dX6_shownBy_6 rfl fl_X6_7 (by decide) rfl rfl ?_
    refine q_iconst (v := 0) 10 dX6_shownBy_9 rfl rfl ?_
    refine q_iald 11 dX6_shownBy_10 rfl (by decide) (by decide) rfl (by decide) ?_
    refine q_icmp_ge 41 14 dX6_shownBy_11 rfl rfl (fun h_11 => ?_) (fun h_11 => ?_)
    · skip
      replace h_11 : nI (nN (M 31 0)) ≤ nI k := by rw [← hn]; exact h_11
      rw [nI_leI (by omega) (by omega)] at h_11
      refine q_iload_n 42 dX6_shownBy_41 rfl rfl ?_
      refine q_iret dX6_shownBy_42 ?_
      exact ⟨by rw [hx, show k = nN (M 31 0) by omega], f, f2, rfl⟩
    · skip
      replace h_11 : ¬ nI (nN (M 31 0)) ≤ nI k := by rw [← hn]; exact h_11
      rw [nI_leI (by omega) (by omega)] at h_11
      refine q_iload_n 15 dX6_shownBy_14 rfl rfl ?_
      refine q_iload_n 16 dX6_shownBy_15 rfl rfl ?_
      refine q_iload_n 17 dX6_shownBy_16 rfl rfl ?_
      refine q_ishr 18 dX6_shownBy_17 rfl ?_
      refine q_iconst (v := 1) 19 dX6_shownBy_18 rfl rfl ?_
      refine q_iand 20 dX6_shownBy_19 rfl ?_
      refine q_iconst (v := 1) 21 dX6_shownBy_20 rfl rfl ?_
      refine q_icmp_ne 32 24 dX6_shownBy_21 rfl rfl (fun h_21 => ?_) (fun h_21 => ?_)
      · skip
        rw [bit_at (by omega) (by omega), bI_1] at h_21
        refine q_iconst (v := 0) 33 dX6_shownBy_32 rfl rfl ?_
        refine q_iadd 34 dX6_shownBy_33 rfl ?_
        refine q_istore_n 35 dX6_shownBy_34 rfl (by decide) rfl ?_
        refine q_iinc 38 dX6_shownBy_35 rfl rfl (by decide) rfl (nI_1 k) ?_
        refine q_goto 4 dX6_shownBy_38 rfl ?_
        refine q_fg (ih (k + 1) _ _ _ _ (by omega) (by omega) ?_ rfl) ⟨rfl, rfl, rfl, rfl, trivial⟩
        unfold sumS
        first | (rw [if_pos h_21, hx] <;> rfl) | (rw [if_neg h_21, hx] <;> rfl)
      · skip
        rw [bit_at (by omega) (by omega), bI_1] at h_21
        refine q_aload_n 25 dX6_shownBy_24 rfl rfl ?_
        refine q_iload_n 26 dX6_shownBy_25 rfl rfl ?_
        refine q_callV 29 dX6_shownBy_26 rfl (c6_shows _ _ (M 31 0) (by rfl) hW0 k rfl (by omega)) cw_X6_121 (by decide) rfl rfl ⟨by decide, by decide⟩ ⟨by decide, by decide⟩ (Nat.le_of_ble_eq_true rfl) ?_
        rintro _ _ ⟨rfl, f3, f4, rfl⟩
        refine q_eqM (sc_sc M f f2 f3 f4) ?_
        refine q_goto 33 dX6_shownBy_29 rfl ?_
        refine q_iadd 34 dX6_shownBy_33 rfl ?_
        refine q_istore_n 35 dX6_shownBy_34 rfl (by decide) rfl ?_
        refine q_iinc 38 dX6_shownBy_35 rfl rfl (by decide) rfl (nI_1 k) ?_
        refine q_goto 4 dX6_shownBy_38 rfl ?_
        refine q_fg (ih (k + 1) _ _ _ _ (by omega) (by omega) ?_ rfl) ⟨rfl, rfl, rfl, rfl, trivial⟩
        unfold sumS
        first | (rw [if_pos h_21, hx] <;> rfl) | (rw [if_neg h_21, hx] <;> rfl)
set_option maxRecDepth 100000 in
set_option maxHeartbeats 4000000 in
theorem c6_shownBy {g : GT} (M : TM) (z : Int32) (a : Nat) (hz : z = nI a) (ha : a < 1024) (s : SS) (hs : M 31 0 = s) (hW : Wm s) : Cn g yX6_shownBy cX6_shownBy 4 (some .int) 4 [.ref (gad g 6 0), .int z] M (Rs (.int (sumS (shF s) a.testBit (nN s))) M) := by
  refine Cn.ofTR (by decide +kernel) (Nat.le_of_ble_eq_true rfl) ?_
  refine q_iconst (v := 0) 1 dX6_shownBy_0 rfl rfl ?_
  refine q_istore_n 2 dX6_shownBy_1 rfl (by decide) rfl ?_
  refine q_iconst (v := 0) 3 dX6_shownBy_2 rfl rfl ?_
  refine q_istore_n 4 dX6_shownBy_3 rfl (by decide) rfl ?_
  exact q_eqM (sc_id M).symm (q_fg (l6_shownBy M z a hz ha s hs hW (nN s + 1) 0 0 0 _ _ (by omega) (by omega) rfl rfl) ⟨rfl, rfl, rfl, rfl, trivial⟩)
