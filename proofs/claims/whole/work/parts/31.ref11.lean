abbrev isS (k : Int32) : Prop := 0 ≤ k ∧ k ≤ 3
/-- the reference's sheets: sorts and sizes -/
def WS6 (M : TM) : Prop := ∀ k, k < 4 → (M 34 0 k = -1 ∨ M 34 0 k = 0 ∨ M 34 0 k = 1) ∧ ∃ z, z ≤ 24 ∧ M 35 0 k = nI z
def row6 (M : TM) (k i : Nat) : Int32 := M 36 0 (24 * k + i)
theorem ix_24 {a b : Nat} {x y : Int32} (hx : x = nI a) (hy : y = nI b) : 24 * x + y = nI (24 * a + b) := by
  subst hx; subst hy; rw [show (24 : Int32) = nI 24 from rfl, pk_mul, nI_add]
theorem isI_nat {x : Int32} {z : Nat} (hz : z ≤ 24) (h : 0 ≤ x ∧ x ≤ nI z - 1) : x = nI (tn x) ∧ tn x < z := by
  obtain ⟨h1, h2⟩ := h
  obtain ⟨j, hj, rfl⟩ := nI_of (Int32.not_lt.mpr h1)
  unfold tn
  rw [nI_clamp hj]
  refine ⟨rfl, ?_⟩
  by_cases h0 : z = 0
  · rw [h0] at h2
    have : (nI j) ≤ -1 := h2
    exact absurd (Int32.le_trans h1 this) (by decide)
  · rw [ix_pre (by omega), nI_leI hj (by omega)] at h2
    omega
/-- reads -/
def rdF (row : Nat → Int32) (s : SS) (n : Nat) : Nat → Nat → Int32
  | 0, _ => NONEc
  | f + 1, i => if row i ≠ NONEc ∧ (n ≤ i ∨ row i ≠ mk s i 3) then nI i else rdF row s n f (i + 1)
theorem rdF_congr {row row' : Nat → Int32} {s : SS} {n : Nat} : ∀ f i, (∀ j, j < i + f → row j = row' j) → rdF row s n f i = rdF row' s n f i
  | 0, _, _ => rfl
  | f + 1, i, h => by unfold rdF; rw [h i (by omega), rdF_congr f (i + 1) (fun j hj => h j (by omega))]
def aReads (so : Int32) (z : Nat) (row : Nat → Int32) (s : SS) : Int32 := if so < 0 then NOTHc else rdF row s (nN s) z 0
set_option maxRecDepth 100000 in
set_option maxHeartbeats 4000000 in
theorem l6_reads {g : GT} (M : TM) (k : Int32) (kk z : Nat) (hk : k = nI kk) (h4 : kk < 4) (hz : z ≤ 24) (ez : M 35 0 kk = nI z) (s : SS) (hs : M 31 0 = s) (hn : s 0 = nI (nN s)) (hn10 : nN s ≤ 10) : ∀ (j : Nat) (i : Nat) (y : Int32), z - i < j → i ≤ z → y = nI i → TR g (rmD 2) RX6 cX6_reads 4 (some .int) 0 0 (Zm g (Rt (.int (rdF (row6 M kk) s (nN s) (z - i) i)) M)) 25 [some (.ref (gad g 6 0)), some (.int k), some (.int y), none] [] M := by
  intro j
  induction j with
  | zero => intro i y hj hiz hy; exact absurd hj (by omega)
  | succ j ih =>
    intro i y hj hiz hy
    subst hy; subst hs
    refine q_iload_n 26 dX6_reads_25 rfl rfl ?_
    refine q_aload_n 27 dX6_reads_26 rfl rfl ?_
    refine q_getR 30 dX6_reads_27 rfl fl_X6_22 (by decide) rfl rfl ?_
    refine q_iload_n 31 dX6_reads_30 rfl rfl ?_
    refine q_iald 32 dX6_reads_31 rfl (by decide) (by decide) hk h4 ?_
    refine q_icmp_ge 81 35 dX6_reads_32 rfl rfl (fun h_32 => ?_) (fun h_32 => ?_)
    · skip
      rw [ez, nI_leI (by omega) (by omega)] at h_32
      refine q_ldc 83 dX6_reads_81 rfl cs_X6_64 ?_
      refine q_iret dX6_reads_83 ?_
      refine ⟨congrArg (fun x => some (Value.int x)) ?_, rfl⟩
      rw [show z - i = 0 by omega]
      rfl
    · skip
      rw [ez, nI_leI (by omega) (by omega)] at h_32
      refine q_aload_n 36 dX6_reads_35 rfl rfl ?_
      refine q_getR 39 dX6_reads_36 rfl fl_X6_25 (by decide) rfl rfl ?_
      refine q_bipush (v := 24) 41 dX6_reads_39 rfl rfl ?_
      refine q_iload_n 42 dX6_reads_41 rfl rfl ?_
      refine q_imul 43 dX6_reads_42 rfl ?_
      refine q_iload_n 44 dX6_reads_43 rfl rfl ?_
      refine q_iadd 45 dX6_reads_44 rfl ?_
      refine q_iald 46 dX6_reads_45 rfl (by decide) (by decide) (ix_24 hk rfl) (show 24 * kk + i < 96 by omega) ?_
      refine q_istore_n 47 dX6_reads_46 rfl (by decide) rfl ?_
      refine q_iload_n 48 dX6_reads_47 rfl rfl ?_
      refine q_ldc 50 dX6_reads_48 rfl cs_X6_64 ?_
      refine q_icmp_eq 75 53 dX6_reads_50 rfl rfl (fun h_50 => ?_) (fun h_50 => ?_)
      · skip
        refine q_iinc 78 dX6_reads_75 rfl rfl (by decide) rfl (nI_1 i) ?_
        refine q_goto 25 dX6_reads_78 rfl ?_
        rw [show z - i = (z - (i + 1)) + 1 by omega, rdF]
        first
        | (have hq : row6 M kk i = NONEc := h_50; rw [if_neg (fun q => q.1 hq)]; exact q_fg (ih (i + 1) _ (by omega) (by omega) rfl) ⟨rfl, rfl, rfl, trivial⟩)
        | (have hq : ¬ (nN (M 31 0) ≤ i ∨ row6 M kk i ≠ mk (M 31 0) i 3) := (fun q => q.elim (fun w => h_60 w) (fun w => w h_70)); rw [if_neg (fun q => hq q.2)]; exact q_fg (ih (i + 1) _ (by omega) (by omega) rfl) ⟨rfl, rfl, rfl, trivial⟩)
      · skip
        refine q_iload_n 54 dX6_reads_53 rfl rfl ?_
        refine q_aload_n 55 dX6_reads_54 rfl rfl ?_
        refine q_getR 58 dX6_reads_55 rfl fl_X6_7 (by decide) rfl rfl ?_
        refine q_iconst (v := 0) 59 dX6_reads_58 rfl rfl ?_
        refine q_iald 60 dX6_reads_59 rfl (by decide) (by decide) rfl (by decide) ?_
        refine q_icmp_ge 73 63 dX6_reads_60 rfl rfl (fun h_60 => ?_) (fun h_60 => ?_)
        · skip
          rw [hn, nI_leI (by omega) (by omega)] at h_60
          refine q_iload_n 74 dX6_reads_73 rfl rfl ?_
          refine q_iret dX6_reads_74 ?_
          refine ⟨congrArg (fun x => some (Value.int x)) ?_, rfl⟩
          rw [show z - i = (z - (i + 1)) + 1 by omega, rdF]
          first | (have hq : nN (M 31 0) ≤ i := h_60; rw [if_pos ⟨h_50, Or.inl hq⟩]) | (have hq : row6 M kk i ≠ mk (M 31 0) i 3 := h_70; rw [if_pos ⟨h_50, Or.inr hq⟩])
        · skip
          rw [hn, nI_leI (by omega) (by omega)] at h_60
          refine q_iload_n 64 dX6_reads_63 rfl rfl ?_
          refine q_aload_n 65 dX6_reads_64 rfl rfl ?_
          refine q_iload_n 66 dX6_reads_65 rfl rfl ?_
          refine q_iconst (v := 3) 67 dX6_reads_66 rfl rfl ?_
          refine q_callVt 70 dX6_reads_67 rfl (c6_of _ _ _ i 3 rfl rfl (by omega)) cw_X6_72 (by decide) rfl rfl ⟨by decide, by decide⟩ ⟨by decide, by decide⟩ (Nat.le_of_ble_eq_true rfl) ?_
          refine q_icmp_eq 75 73 dX6_reads_70 rfl rfl (fun h_70 => ?_) (fun h_70 => ?_)
          · skip
            refine q_iinc 78 dX6_reads_75 rfl rfl (by decide) rfl (nI_1 i) ?_
            refine q_goto 25 dX6_reads_78 rfl ?_
            rw [show z - i = (z - (i + 1)) + 1 by omega, rdF]
            first
            | (have hq : row6 M kk i = NONEc := h_50; rw [if_neg (fun q => q.1 hq)]; exact q_fg (ih (i + 1) _ (by omega) (by omega) rfl) ⟨rfl, rfl, rfl, trivial⟩)
            | (have hq : ¬ (nN (M 31 0) ≤ i ∨ row6 M kk i ≠ mk (M 31 0) i 3) := (fun q => q.elim (fun w => h_60 w) (fun w => w h_70)); rw [if_neg (fun q => hq q.2)]; exact q_fg (ih (i + 1) _ (by omega) (by omega) rfl) ⟨rfl, rfl, rfl, trivial⟩)
          · skip
            refine q_iload_n 74 dX6_reads_73 rfl rfl ?_
            refine q_iret dX6_reads_74 ?_
            refine ⟨congrArg (fun x => some (Value.int x)) ?_, rfl⟩
            rw [show z - i = (z - (i + 1)) + 1 by omega, rdF]
            first | (have hq : nN (M 31 0) ≤ i := h_60; rw [if_pos ⟨h_50, Or.inl hq⟩]) | (have hq : row6 M kk i ≠ mk (M 31 0) i 3 := h_70; rw [if_pos ⟨h_50, Or.inr hq⟩])
set_option maxRecDepth 100000 in
set_option maxHeartbeats 4000000 in
theorem c6_reads {g : GT} (M : TM) (k : Int32) (hS : WS6 M) (s : SS) (hs : M 31 0 = s) (hn : s 0 = nI (nN s)) (hn10 : nN s ≤ 10) : Cn g yX6_reads cX6_reads 4 (some .int) 2 [.ref (gad g 6 0), .int k] M (Rt (.int (if isS k then aReads (M 34 0 (tn k)) (tn (M 35 0 (tn k))) (row6 M (tn k)) s else BADc)) M) := by
  refine Cn.ofTR (by decide +kernel) (Nat.le_of_ble_eq_true rfl) ?_
  refine q_iload_n 1 dX6_reads_0 rfl rfl ?_
  refine q_callSt 4 dX6_reads_1 rfl (c6_isSheet _ _) cw_X6_313 rfl rfl ⟨by decide, by decide⟩ ⟨by decide, by decide⟩ (Nat.le_of_ble_eq_true rfl) ?_
  refine q_if_ne 10 7 dX6_reads_4 rfl rfl (fun h_4 => ?_) (fun h_4 => ?_)
  · skip
    simp only [bI_0, Classical.not_not] at h_4
    obtain ⟨ek, lk⟩ := rg_tn h_4 (n := 3) rfl
    obtain ⟨hso, z, hz, ez⟩ := hS (tn k) (by omega)
    refine q_aload_n 11 dX6_reads_10 rfl rfl ?_
    refine q_getR 14 dX6_reads_11 rfl fl_X6_19 (by decide) rfl rfl ?_
    refine q_iload_n 15 dX6_reads_14 rfl rfl ?_
    refine q_iald 16 dX6_reads_15 rfl (by decide) (by decide) ek (show tn k < 4 by omega) ?_
    refine q_if_ge 23 19 dX6_reads_16 rfl rfl (fun h_16 => ?_) (fun h_16 => ?_)
    · skip
      refine q_iconst (v := 0) 24 dX6_reads_23 rfl rfl ?_
      refine q_istore_n 25 dX6_reads_24 rfl (by decide) rfl ?_
      rw [if_pos h_4]
      unfold aReads
      rw [if_neg (Int32.not_lt.mpr h_16), ez, show tn (nI z) = z from nI_clamp (by omega)]
      exact q_fg (l6_reads M k (tn k) z ek (by omega) hz ez s hs hn hn10 (z + 1) 0 0 (by omega) (by omega) rfl) ⟨rfl, rfl, rfl, trivial⟩
    · skip
      refine q_ldc_w 22 dX6_reads_19 rfl cs_X6_319 ?_
      refine q_iret dX6_reads_22 ?_
      refine ⟨congrArg (fun x => some (Value.int x)) ?_, rfl⟩
      rw [if_pos h_4]
      unfold aReads
      rw [if_pos (Int32.not_le.mp h_16)]
  · skip
    simp only [bI_0, Classical.not_not] at h_4
    refine q_ldc 9 dX6_reads_7 rfl cs_X6_110 ?_
    refine q_iret dX6_reads_9 ?_
    refine ⟨congrArg (fun x => some (Value.int x)) ?_, rfl⟩
    rw [if_neg h_4]
def poV (row : Nat → Int32) (s : SS) (k : Nat) : Int32 := if row k = NONEc then mk s k 1 else wiF (row k) 99
def poS (row : Nat → Int32) (s : SS) : Nat → SS
  | 0 => s
  | k + 1 => upd (poS row s k) (21 + 5 * k + 1) (poV row s k)
def poC (row : Nat → Int32) (s : SS) : Nat → Int32
  | 0 => 0
  | k + 1 => poC row s k + (if poV row s k = mk s k 1 then 0 else 1)
theorem poS_n (row : Nat → Int32) (s : SS) : ∀ k i, (∀ j, j < k → i ≠ 21 + 5 * j + 1) → poS row s k i = s i
  | 0, _, _ => rfl
  | k + 1, i, h => by show upd _ _ _ i = _; rw [upd_n (h k (by omega))]; exact poS_n row s k i (fun j hj => h j (by omega))
theorem poV_c {row row' : Nat → Int32} {s : SS} {k : Nat} (h : row k = row' k) : poV row s k = poV row' s k := by unfold poV; rw [h]
theorem poS_congr {row row' : Nat → Int32} {s : SS} : ∀ k, (∀ j, j < k → row j = row' j) → poS row s k = poS row' s k
  | 0, _ => rfl
  | k + 1, h => by unfold poS; rw [poS_congr k (fun j hj => h j (by omega)), poV_c (h k (by omega))]
theorem poC_congr {row row' : Nat → Int32} {s : SS} : ∀ k, (∀ j, j < k → row j = row' j) → poC row s k = poC row' s k
  | 0, _ => rfl
  | k + 1, h => by unfold poC; rw [poC_congr k (fun j hj => h j (by omega)), poV_c (h k (by omega))]
def aPour (so : Int32) (z : Nat) (row : Nat → Int32) (s : SS) : Int32 := if so < 0 then NOTHc else poC row s (min z (nN s))
def sPour (so : Int32) (z : Nat) (row : Nat → Int32) (s : SS) : SS := if so < 0 then s else poS row s (min z (nN s))
set_option maxRecDepth 100000 in
set_option maxHeartbeats 4000000 in
theorem l6_pour {g : GT} (M : TM) (k : Int32) (kk z : Nat) (hk : k = nI kk) (h4 : kk < 4) (hz : z ≤ 24) (ez : M 35 0 kk = nI z) (s : SS) (hn : s 0 = nI (nN s)) (hn10 : nN s ≤ 10) : ∀ (j : Nat) (i : Nat) (x y : Int32), z - i < j → i ≤ z → i ≤ nN s → x = poC (row6 M kk) s i → y = nI i → TR g (rmD 2) RX6 cX6_pour 6 (some .int) 0 0 (Zm g (Pa (poC (row6 M kk) s (min z (nN s))) M (poS (row6 M kk) s (min z (nN s))))) 27 [some (.ref (gad g 6 0)), some (.int k), some (.int x), some (.int y), none, none] [] (putA M 31 0 (poS (row6 M kk) s i)) := by
  intro j
  induction j with
  | zero => intro i x y hj hiz hin hx hy; exact absurd hj (by omega)
  | succ j ih =>
    intro i x y hj hiz hin hx hy
    subst hy
    have eS := poS_n (row6 M kk) s i
    refine q_iload_n 28 dX6_pour_27 rfl rfl ?_
    refine q_aload_n 29 dX6_pour_28 rfl rfl ?_
    refine q_getR 32 dX6_pour_29 rfl fl_X6_22 (by decide) rfl rfl ?_
    refine q_iload_n 33 dX6_pour_32 rfl rfl ?_
    refine q_iald 34 dX6_pour_33 rfl (by decide) (by decide) hk h4 ?_
    refine q_icmp_ge 118 37 dX6_pour_34 rfl rfl (fun h_34 => ?_) (fun h_34 => ?_)
    · skip
      replace h_34 : nI z ≤ nI i := by rw [← ez]; exact h_34
      rw [nI_leI (by omega) (by omega)] at h_34
      have e : min z (nN s) = i := by omega
      refine q_iload_n 119 dX6_pour_118 rfl rfl ?_
      refine q_iret dX6_pour_119 ?_
      rw [e]
      exact ⟨by rw [hx], rfl⟩
    · skip
      replace h_34 : ¬ nI z ≤ nI i := by rw [← ez]; exact h_34
      rw [nI_leI (by omega) (by omega)] at h_34
      refine q_iload_n 38 dX6_pour_37 rfl rfl ?_
      refine q_aload_n 39 dX6_pour_38 rfl rfl ?_
      refine q_getR 42 dX6_pour_39 rfl fl_X6_7 (by decide) rfl rfl ?_
      refine q_iconst (v := 0) 43 dX6_pour_42 rfl rfl ?_
      refine q_iald 44 dX6_pour_43 rfl (by decide) (by decide) rfl (by decide) ?_
      refine q_icmp_ge 118 47 dX6_pour_44 rfl rfl (fun h_44 => ?_) (fun h_44 => ?_)
      · skip
        replace h_44 : nI (nN s) ≤ nI i := by rw [← hn]; exact (show s 0 ≤ _ from (eS 0 (by omega)) ▸ h_44)
        rw [nI_leI (by omega) (by omega)] at h_44
        have e : min z (nN s) = i := by omega
        refine q_iload_n 119 dX6_pour_118 rfl rfl ?_
        refine q_iret dX6_pour_119 ?_
        rw [e]
        exact ⟨by rw [hx], rfl⟩
      · skip
        replace h_44 : ¬ nI (nN s) ≤ nI i := by rw [← hn]; exact (show ¬ s 0 ≤ _ from (eS 0 (by omega)) ▸ h_44)
        rw [nI_leI (by omega) (by omega)] at h_44
        refine q_aload_n 48 dX6_pour_47 rfl rfl ?_
        refine q_getR 51 dX6_pour_48 rfl fl_X6_25 (by decide) rfl rfl ?_
        refine q_bipush (v := 24) 53 dX6_pour_51 rfl rfl ?_
        refine q_iload_n 54 dX6_pour_53 rfl rfl ?_
        refine q_imul 55 dX6_pour_54 rfl ?_
        refine q_iload_n 56 dX6_pour_55 rfl rfl ?_
        refine q_iadd 57 dX6_pour_56 rfl ?_
        refine q_iald 58 dX6_pour_57 rfl (by decide) (by decide) (ix_24 hk rfl) (show 24 * kk + i < 96 by omega) ?_
        refine q_istore 60 dX6_pour_58 rfl (by decide) rfl ?_
        refine q_iload 62 dX6_pour_60 rfl rfl ?_
        refine q_ldc 64 dX6_pour_62 rfl cs_X6_64 ?_
        refine q_icmp_ne 76 67 dX6_pour_64 rfl rfl (fun h_64 => ?_) (fun h_64 => ?_)
        · skip
          replace h_64 : ¬ row6 M kk i = NONEc := h_64
          have ev : poV (row6 M kk) s i = wiF (row6 M kk i) 99 := if_neg h_64
          refine q_iload 78 dX6_pour_76 rfl rfl ?_
          refine q_bipush (v := 99) 80 dX6_pour_78 rfl rfl ?_
          refine q_callSt 83 dX6_pour_80 rfl (c6_within _ _ _) cw_X6_80 rfl rfl ⟨by decide, by decide⟩ ⟨by decide, by decide⟩ (Nat.le_of_ble_eq_true rfl) ?_
          refine q_istore 85 dX6_pour_83 rfl (by decide) rfl ?_
          refine q_iload_n 86 dX6_pour_85 rfl rfl ?_
          refine q_iload 88 dX6_pour_86 rfl rfl ?_
          refine q_aload_n 89 dX6_pour_88 rfl rfl ?_
          refine q_bipush (v := 21) 91 dX6_pour_89 rfl rfl ?_
          refine q_iconst (v := 5) 92 dX6_pour_91 rfl rfl ?_
          refine q_iload_n 93 dX6_pour_92 rfl rfl ?_
          refine q_imul 94 dX6_pour_93 rfl ?_
          refine q_iadd 95 dX6_pour_94 rfl ?_
          refine q_iconst (v := 1) 96 dX6_pour_95 rfl rfl ?_
          refine q_iadd 97 dX6_pour_96 rfl ?_
          refine q_iload 99 dX6_pour_97 rfl rfl ?_
          refine q_callVt 102 dX6_pour_99 rfl (c6_changes _ _ _ (21 + 5 * i + 1) (ix_of rfl rfl) (by omega)) cw_X6_138 (by decide) rfl rfl ⟨by decide, by decide⟩ ⟨by decide, by decide⟩ (Nat.le_of_ble_eq_true rfl) ?_
          refine q_icmp_ne 109 105 dX6_pour_102 rfl rfl (fun h_102 => ?_) (fun h_102 => ?_)
          · skip
            refine q_iconst (v := 1) 110 dX6_pour_109 rfl rfl ?_
            refine q_iadd 111 dX6_pour_110 rfl ?_
            refine q_istore_n 112 dX6_pour_111 rfl (by decide) rfl ?_
            refine q_iinc 115 dX6_pour_112 rfl rfl (by decide) rfl (nI_1 i) ?_
            refine q_goto 27 dX6_pour_115 rfl ?_
            refine q_eqM ((eM_up _ _ _ _).trans (putA_cg ?_)) (q_fg (ih (i + 1) _ _ (by omega) (by omega) (by omega) ?_ rfl) ⟨rfl, rfl, rfl, rfl, trivial⟩)
            · show _ = upd _ _ _; rw [ev]; first | rfl | (rw [ev2])
            · show _ = poC _ _ _ + _; rw [ev, ← hx]; first | (have hq : ¬ wiF (row6 M kk i) 99 = mk s i 1 := fun w => h_102 (w.trans (eS _ (by omega)).symm); rw [if_neg hq]; done) | (have hq : wiF (row6 M kk i) 99 = mk s i 1 := h_102.trans (eS _ (by omega)); rw [if_pos hq]; done) | (rw [if_pos rfl]; done) | (exact absurd rfl h_102)
          · skip
            refine q_iconst (v := 0) 106 dX6_pour_105 rfl rfl ?_
            refine q_goto 110 dX6_pour_106 rfl ?_
            refine q_iadd 111 dX6_pour_110 rfl ?_
            refine q_istore_n 112 dX6_pour_111 rfl (by decide) rfl ?_
            refine q_iinc 115 dX6_pour_112 rfl rfl (by decide) rfl (nI_1 i) ?_
            refine q_goto 27 dX6_pour_115 rfl ?_
            refine q_eqM ((eM_up _ _ _ _).trans (putA_cg ?_)) (q_fg (ih (i + 1) _ _ (by omega) (by omega) (by omega) ?_ rfl) ⟨rfl, rfl, rfl, rfl, trivial⟩)
            · show _ = upd _ _ _; rw [ev]; first | rfl | (rw [ev2])
            · show _ = poC _ _ _ + _; rw [ev, ← hx]; first | (have hq : ¬ wiF (row6 M kk i) 99 = mk s i 1 := fun w => h_102 (w.trans (eS _ (by omega)).symm); rw [if_neg hq]; done) | (have hq : wiF (row6 M kk i) 99 = mk s i 1 := h_102.trans (eS _ (by omega)); rw [if_pos hq]; done) | (rw [if_pos rfl]; done) | (exact absurd rfl h_102)
        · skip
          replace h_64 : row6 M kk i = NONEc := h_64
          have ev : poV (row6 M kk) s i = mk s i 1 := if_pos h_64
          have ev2 : putA M 31 0 (poS (row6 M kk) s i) 31 0 (21 + 5 * i + 1) = mk s i 1 := eS _ (by omega)
          refine q_aload_n 68 dX6_pour_67 rfl rfl ?_
          refine q_iload_n 69 dX6_pour_68 rfl rfl ?_
          refine q_iconst (v := 1) 70 dX6_pour_69 rfl rfl ?_
          refine q_callVt 73 dX6_pour_70 rfl (c6_of _ _ _ i 1 rfl rfl (by omega)) cw_X6_72 (by decide) rfl rfl ⟨by decide, by decide⟩ ⟨by decide, by decide⟩ (Nat.le_of_ble_eq_true rfl) ?_
          refine q_goto 83 dX6_pour_73 rfl ?_
          refine q_istore 85 dX6_pour_83 rfl (by decide) rfl ?_
          refine q_iload_n 86 dX6_pour_85 rfl rfl ?_
          refine q_iload 88 dX6_pour_86 rfl rfl ?_
          refine q_aload_n 89 dX6_pour_88 rfl rfl ?_
          refine q_bipush (v := 21) 91 dX6_pour_89 rfl rfl ?_
          refine q_iconst (v := 5) 92 dX6_pour_91 rfl rfl ?_
          refine q_iload_n 93 dX6_pour_92 rfl rfl ?_
          refine q_imul 94 dX6_pour_93 rfl ?_
          refine q_iadd 95 dX6_pour_94 rfl ?_
          refine q_iconst (v := 1) 96 dX6_pour_95 rfl rfl ?_
          refine q_iadd 97 dX6_pour_96 rfl ?_
          refine q_iload 99 dX6_pour_97 rfl rfl ?_
          refine q_callVt 102 dX6_pour_99 rfl (c6_changes _ _ _ (21 + 5 * i + 1) (ix_of rfl rfl) (by omega)) cw_X6_138 (by decide) rfl rfl ⟨by decide, by decide⟩ ⟨by decide, by decide⟩ (Nat.le_of_ble_eq_true rfl) ?_
          refine q_icmp_ne 109 105 dX6_pour_102 rfl rfl (fun h_102 => ?_) (fun h_102 => ?_)
          · skip
            refine q_iconst (v := 1) 110 dX6_pour_109 rfl rfl ?_
            refine q_iadd 111 dX6_pour_110 rfl ?_
            refine q_istore_n 112 dX6_pour_111 rfl (by decide) rfl ?_
            refine q_iinc 115 dX6_pour_112 rfl rfl (by decide) rfl (nI_1 i) ?_
            refine q_goto 27 dX6_pour_115 rfl ?_
            refine q_eqM ((eM_up _ _ _ _).trans (putA_cg ?_)) (q_fg (ih (i + 1) _ _ (by omega) (by omega) (by omega) ?_ rfl) ⟨rfl, rfl, rfl, rfl, trivial⟩)
            · show _ = upd _ _ _; rw [ev]; first | rfl | (rw [ev2])
            · show _ = poC _ _ _ + _; rw [ev, ← hx]; first | (have hq : ¬ wiF (row6 M kk i) 99 = mk s i 1 := fun w => h_102 (w.trans (eS _ (by omega)).symm); rw [if_neg hq]; done) | (have hq : wiF (row6 M kk i) 99 = mk s i 1 := h_102.trans (eS _ (by omega)); rw [if_pos hq]; done) | (rw [if_pos rfl]; done) | (exact absurd rfl h_102)
          · skip
            refine q_iconst (v := 0) 106 dX6_pour_105 rfl rfl ?_
            refine q_goto 110 dX6_pour_106 rfl ?_
            refine q_iadd 111 dX6_pour_110 rfl ?_
            refine q_istore_n 112 dX6_pour_111 rfl (by decide) rfl ?_
            refine q_iinc 115 dX6_pour_112 rfl rfl (by decide) rfl (nI_1 i) ?_
            refine q_goto 27 dX6_pour_115 rfl ?_
            refine q_eqM ((eM_up _ _ _ _).trans (putA_cg ?_)) (q_fg (ih (i + 1) _ _ (by omega) (by omega) (by omega) ?_ rfl) ⟨rfl, rfl, rfl, rfl, trivial⟩)
            · show _ = upd _ _ _; rw [ev]; first | rfl | (rw [ev2])
            · show _ = poC _ _ _ + _; rw [ev, ← hx]; first | (have hq : ¬ wiF (row6 M kk i) 99 = mk s i 1 := fun w => h_102 (w.trans (eS _ (by omega)).symm); rw [if_neg hq]; done) | (have hq : wiF (row6 M kk i) 99 = mk s i 1 := h_102.trans (eS _ (by omega)); rw [if_pos hq]; done) | (rw [if_pos rfl]; done) | (exact absurd rfl h_102)
set_option maxRecDepth 100000 in
set_option maxHeartbeats 4000000 in
theorem c6_pour {g : GT} (M : TM) (k : Int32) (hS : WS6 M) (s : SS) (hs : M 31 0 = s) (hn : s 0 = nI (nN s)) (hn10 : nN s ≤ 10) : Cn g yX6_pour cX6_pour 6 (some .int) 2 [.ref (gad g 6 0), .int k] M (Pa (if isS k then aPour (M 34 0 (tn k)) (tn (M 35 0 (tn k))) (row6 M (tn k)) s else BADc) M (if isS k then sPour (M 34 0 (tn k)) (tn (M 35 0 (tn k))) (row6 M (tn k)) s else s)) := by
  refine Cn.ofTR (by decide +kernel) (Nat.le_of_ble_eq_true rfl) ?_
  subst hs
  refine q_iload_n 1 dX6_pour_0 rfl rfl ?_
  refine q_callSt 4 dX6_pour_1 rfl (c6_isSheet _ _) cw_X6_313 rfl rfl ⟨by decide, by decide⟩ ⟨by decide, by decide⟩ (Nat.le_of_ble_eq_true rfl) ?_
  refine q_if_ne 10 7 dX6_pour_4 rfl rfl (fun h_4 => ?_) (fun h_4 => ?_)
  · skip
    simp only [bI_0, Classical.not_not] at h_4
    obtain ⟨ek, lk⟩ := rg_tn h_4 (n := 3) rfl
    obtain ⟨hso, z, hz, ez⟩ := hS (tn k) (by omega)
    refine q_aload_n 11 dX6_pour_10 rfl rfl ?_
    refine q_getR 14 dX6_pour_11 rfl fl_X6_19 (by decide) rfl rfl ?_
    refine q_iload_n 15 dX6_pour_14 rfl rfl ?_
    refine q_iald 16 dX6_pour_15 rfl (by decide) (by decide) ek (show tn k < 4 by omega) ?_
    refine q_if_ge 23 19 dX6_pour_16 rfl rfl (fun h_16 => ?_) (fun h_16 => ?_)
    · skip
      refine q_iconst (v := 0) 24 dX6_pour_23 rfl rfl ?_
      refine q_istore_n 25 dX6_pour_24 rfl (by decide) rfl ?_
      refine q_iconst (v := 0) 26 dX6_pour_25 rfl rfl ?_
      refine q_istore_n 27 dX6_pour_26 rfl (by decide) rfl ?_
      rw [if_pos h_4, if_pos h_4]
      unfold aPour sPour
      rw [if_neg (Int32.not_lt.mpr h_16), if_neg (Int32.not_lt.mpr h_16), ez, show tn (nI z) = z from nI_clamp (by omega)]
      exact q_eqM (putA_id M 31 0).symm (q_fg (l6_pour M k (tn k) z ek (by omega) hz ez (M 31 0) hn hn10 (z + 1) 0 0 0 (by omega) (by omega) (by omega) rfl rfl) ⟨rfl, rfl, rfl, rfl, trivial⟩)
    · skip
      refine q_ldc_w 22 dX6_pour_19 rfl cs_X6_319 ?_
      refine q_iret dX6_pour_22 ?_
      unfold aPour sPour
      exact Pa_id (by rw [if_pos h_4, if_pos (Int32.not_le.mp h_16)]) (by rw [if_pos h_4, if_pos (Int32.not_le.mp h_16)])
  · skip
    simp only [bI_0, Classical.not_not] at h_4
    refine q_ldc 9 dX6_pour_7 rfl cs_X6_110 ?_
    refine q_iret dX6_pour_9 ?_
    exact Pa_id (by rw [if_neg h_4]) (by rw [if_neg h_4])
