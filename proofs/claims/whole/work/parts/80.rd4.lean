/-! THE CLASS'S READER: words, faultOf; text -/
theorem str_len : ∀ i, i < 12 → (strB.getD i []).length = strL.getD i 0 := by decide
set_option maxRecDepth 100000 in
set_option maxHeartbeats 4000000 in
theorem t0_iwF {g : GT} {T : Nat → Int32} {n : Nat} {key : Int32} {M N : TM} {l : Nat} {x : PS} (G : G0 T n M) (h : R0 T n key M l x N) (i : Nat) (hw : ¬ wd T (tk T n x.1) (strB.getD i [])) : TR g (rmD 4) RX0 cX0_isWord 4 (some .boolean) 0 0 (Zm g (Rt (.int (bI (wd T (tk T n x.1) (strB.getD i [])))) N)) 43 [some (.ref (gad g 0 0)), some (.ref (gad g 53 i)), some (.int 0), none] [] N := by
  refine q_iload_n 44 dX0_isWord_43 rfl rfl ?_
  refine q_if_eq 86 47 dX0_isWord_44 rfl rfl (fun _ => ?_) (fun h_44 => absurd (by decide) h_44)
  refine q_iload_n 87 dX0_isWord_86 rfl rfl ?_
  refine q_zret dX0_isWord_87 rfl ?_
  exact ⟨congrArg (fun x => some (Value.int x)) (bI_f hw).symm, rfl⟩
set_option maxRecDepth 100000 in
set_option maxHeartbeats 4000000 in
theorem l0_iw {g : GT} {T : Nat → Int32} {n : Nat} {key : Int32} {M N : TM} {l : Nat} {x : PS} (G : G0 T n M) (h : R0 T n key M l x N) (i : Nat) (hi : i < 12) (h1 : (tk T n x.1).2.2 = 1) (h2 : (tk T n x.1).2.1 - (tk T n x.1).1 = strL.getD i 0) : ∀ (j : Nat) (k : Nat) (y : Int32), k ≤ strL.getD i 0 → strL.getD i 0 - k < j → (∀ j, j < k → T ((tk T n x.1).1 + j) = (strB.getD i []).getD j 0) → y = nI k → TR g (rmD 4) RX0 cX0_isWord 4 (some .boolean) 0 0 (Zm g (Rt (.int (bI (wd T (tk T n x.1) (strB.getD i [])))) N)) 43 [some (.ref (gad g 0 0)), some (.ref (gad g 53 i)), some (.int 1), some (.int y)] [] N := by
  intro j
  induction j with
  | zero => intro k y hk hj hall hy; exact absurd hj (by omega)
  | succ j ih =>
    intro k y hk hj hall hy
    subst hy
    obtain ⟨hK, ⟨h7, h8, h6⟩, ⟨a1, a2, a3, a5, a9⟩, hS⟩ := id h
    obtain ⟨w1, w2, w3⟩ := tk_W T n x.1
    have hT := hK.2
    have kT : N 28 0 = T := (hK.1 28 0 (by decide) (by decide)).trans G.1
    have h96 := G.2.1
    have h7i := strL_lt i hi
    refine q_iload_n 44 dX0_isWord_43 rfl rfl ?_
    refine q_if_eq 86 47 dX0_isWord_44 rfl rfl (fun h_44 => absurd h_44 (by decide)) (fun _ => ?_)
    refine q_iload_n 48 dX0_isWord_47 rfl rfl ?_
    refine q_aload_n 49 dX0_isWord_48 rfl rfl ?_
    refine q_callOt 52 dX0_isWord_49 rfl (cJ_length _ i hi) cw_X0_67 mJ0_length_8abf5_n mJ0_length_8abf5_v rfl hi rfl rfl ⟨by decide, by decide⟩ ⟨by decide, by decide⟩ (Nat.le_of_ble_eq_true rfl) ?_
    refine q_icmp_ge 86 55 dX0_isWord_52 rfl rfl (fun h_52 => ?_) (fun h_52 => ?_)
    · skip
      rw [nI_leI (by omega) (by omega)] at h_52
      refine q_iload_n 87 dX0_isWord_86 rfl rfl ?_
      refine q_zret dX0_isWord_87 rfl ?_
      refine ⟨congrArg (fun x => some (Value.int x)) (bI_t ⟨h1, (by rw [str_len i hi]; exact h2), fun j hj => hall j ?_⟩).symm, rfl⟩
      rw [str_len i hi] at hj
      omega
    · skip
      rw [nI_leI (by omega) (by omega)] at h_52
      refine q_aload_n 56 dX0_isWord_55 rfl rfl ?_
      refine q_getT 59 dX0_isWord_56 rfl fl_X0_15 (by decide) hT ?_
      refine q_aload_n 60 dX0_isWord_59 rfl rfl ?_
      refine q_getI 63 dX0_isWord_60 rfl fl_X0_53 (by decide) rfl (by decide) ?_
      refine q_iload_n 64 dX0_isWord_63 rfl rfl ?_
      refine q_iadd 65 dX0_isWord_64 rfl ?_
      refine q_iald 66 dX0_isWord_65 rfl (by decide) (by decide) (by rw [h7, nI_add]) (show (tk T n x.1).1 + k < 96 by omega) ?_
      refine q_aload_n 67 dX0_isWord_66 rfl rfl ?_
      refine q_iload_n 68 dX0_isWord_67 rfl rfl ?_
      refine q_callOt 71 dX0_isWord_68 rfl (cJ_charAt _ i k hi (by omega)) cw_X0_71 mJ0_charAt_5068e_n mJ0_charAt_5068e_v rfl hi rfl rfl ⟨by decide, by decide⟩ ⟨by decide, by decide⟩ (Nat.le_of_ble_eq_true rfl) ?_
      refine q_icmp_ne 78 74 dX0_isWord_71 rfl rfl (fun h_71 => ?_) (fun h_71 => ?_)
      · skip
        rw [kT] at h_71
        refine q_iconst (v := 0) 79 dX0_isWord_78 rfl rfl ?_
        refine q_istore_n 80 dX0_isWord_79 rfl (by decide) rfl ?_
        refine q_iinc 83 dX0_isWord_80 rfl rfl (by decide) rfl (nI_1 k) ?_
        refine q_goto 43 dX0_isWord_83 rfl ?_
        first
          | exact q_fg (ih (k + 1) _ (by omega) (by omega) (fun j hj => by
              by_cases e : j = k
              · subst e; exact h_71
              · exact hall j (by omega)) rfl) ⟨rfl, rfl, rfl, rfl, trivial⟩
          | exact q_fg (t0_iwF G h i (fun z => h_71 (z.2.2 k (by rw [str_len i hi]; omega)))) ⟨rfl, rfl, rfl, trivial⟩
      · skip
        rw [kT] at h_71
        refine q_iconst (v := 1) 75 dX0_isWord_74 rfl rfl ?_
        refine q_goto 79 dX0_isWord_75 rfl ?_
        refine q_istore_n 80 dX0_isWord_79 rfl (by decide) rfl ?_
        refine q_iinc 83 dX0_isWord_80 rfl rfl (by decide) rfl (nI_1 k) ?_
        refine q_goto 43 dX0_isWord_83 rfl ?_
        first
          | exact q_fg (ih (k + 1) _ (by omega) (by omega) (fun j hj => by
              by_cases e : j = k
              · subst e; exact h_71
              · exact hall j (by omega)) rfl) ⟨rfl, rfl, rfl, rfl, trivial⟩
          | exact q_fg (t0_iwF G h i (fun z => h_71 (z.2.2 k (by rw [str_len i hi]; omega)))) ⟨rfl, rfl, rfl, trivial⟩
set_option maxRecDepth 100000 in
set_option maxHeartbeats 4000000 in
theorem c0_isWord {g : GT} {T : Nat → Int32} {n : Nat} {key : Int32} {M N : TM} {l : Nat} {x : PS} (G : G0 T n M) (h : R0 T n key M l x N) (i : Nat) (hi : i < 12) : Cn g yX0_isWord cX0_isWord 4 (some .boolean) 4 [.ref (gad g 0 0), .ref (gad g 53 i)] N (Rt (.int (bI (wd T (tk T n x.1) (strB.getD i [])))) N) := by
  refine Cn.ofTR (by decide +kernel) (Nat.le_of_ble_eq_true rfl) ?_
  obtain ⟨hK, ⟨h7, h8, h6⟩, ⟨a1, a2, a3, a5, a9⟩, hS⟩ := id h
  obtain ⟨w1, w2, w3⟩ := tk_W T n x.1
  have hT := hK.2
  have kT : N 28 0 = T := (hK.1 28 0 (by decide) (by decide)).trans G.1
  have h96 := G.2.1
  have h7i := strL_lt i hi
  refine q_aload_n 1 dX0_isWord_0 rfl rfl ?_
  refine q_getI 4 dX0_isWord_1 rfl fl_X0_34 (by decide) rfl (by decide) ?_
  refine q_iconst (v := 1) 5 dX0_isWord_4 rfl rfl ?_
  refine q_icmp_ne 39 8 dX0_isWord_5 rfl rfl (fun h_5 => ?_) (fun h_5 => ?_)
  · skip
    rw [h.so1] at h_5
    have hw : ¬ wd T (tk T n x.1) (strB.getD i []) := fun z => h_5 z.1
    refine q_iconst (v := 0) 40 dX0_isWord_39 rfl rfl ?_
    refine q_istore_n 41 dX0_isWord_40 rfl (by decide) rfl ?_
    refine q_iconst (v := 0) 42 dX0_isWord_41 rfl rfl ?_
    refine q_istore_n 43 dX0_isWord_42 rfl (by decide) rfl ?_
    first
      | exact q_fg (t0_iwF G h i hw) ⟨rfl, rfl, rfl, trivial⟩
      | exact q_fg (l0_iw G h i hi h_5 h_21 (strL.getD i 0 + 1) 0 0 (Nat.zero_le _) (by omega) (fun j hj => absurd hj (Nat.not_lt_zero _)) rfl) ⟨rfl, rfl, rfl, rfl, trivial⟩
  · skip
    rw [h.so1] at h_5
    rw [if_neg (by omega)] at h8
    refine q_aload_n 9 dX0_isWord_8 rfl rfl ?_
    refine q_getI 12 dX0_isWord_9 rfl fl_X0_37 (by decide) rfl (by decide) ?_
    refine q_aload_n 13 dX0_isWord_12 rfl rfl ?_
    refine q_getI 16 dX0_isWord_13 rfl fl_X0_53 (by decide) rfl (by decide) ?_
    refine q_isub 17 dX0_isWord_16 rfl ?_
    refine q_aload_n 18 dX0_isWord_17 rfl rfl ?_
    refine q_callOt 21 dX0_isWord_18 rfl (cJ_length _ i hi) cw_X0_67 mJ0_length_8abf5_n mJ0_length_8abf5_v rfl hi rfl rfl ⟨by decide, by decide⟩ ⟨by decide, by decide⟩ (Nat.le_of_ble_eq_true rfl) ?_
    refine q_icmp_ne 39 24 dX0_isWord_21 rfl rfl (fun h_21 => ?_) (fun h_21 => ?_)
    · skip
      rw [h8, h7, pk_sub w1, nI_eq (by omega) (by omega)] at h_21
      have hw : ¬ wd T (tk T n x.1) (strB.getD i []) := fun z => h_21 (z.2.1.trans (str_len i hi))
      refine q_iconst (v := 0) 40 dX0_isWord_39 rfl rfl ?_
      refine q_istore_n 41 dX0_isWord_40 rfl (by decide) rfl ?_
      refine q_iconst (v := 0) 42 dX0_isWord_41 rfl rfl ?_
      refine q_istore_n 43 dX0_isWord_42 rfl (by decide) rfl ?_
      first
        | exact q_fg (t0_iwF G h i hw) ⟨rfl, rfl, rfl, trivial⟩
        | exact q_fg (l0_iw G h i hi h_5 h_21 (strL.getD i 0 + 1) 0 0 (Nat.zero_le _) (by omega) (fun j hj => absurd hj (Nat.not_lt_zero _)) rfl) ⟨rfl, rfl, rfl, rfl, trivial⟩
    · skip
      rw [h8, h7, pk_sub w1, nI_eq (by omega) (by omega)] at h_21
      refine q_aload_n 25 dX0_isWord_24 rfl rfl ?_
      refine q_getI 28 dX0_isWord_25 rfl fl_X0_37 (by decide) rfl (by decide) ?_
      refine q_aload_n 29 dX0_isWord_28 rfl rfl ?_
      refine q_getI 32 dX0_isWord_29 rfl fl_X0_24 (by decide) rfl (by decide) ?_
      refine q_icmp_gt 39 35 dX0_isWord_32 rfl rfl (fun h_32 => absurd h_32 (by rw [h8, a5, nI_ltI (by omega) (by omega)]; omega)) (fun _ => ?_)
      refine q_iconst (v := 1) 36 dX0_isWord_35 rfl rfl ?_
      refine q_goto 40 dX0_isWord_36 rfl ?_
      refine q_istore_n 41 dX0_isWord_40 rfl (by decide) rfl ?_
      refine q_iconst (v := 0) 42 dX0_isWord_41 rfl rfl ?_
      refine q_istore_n 43 dX0_isWord_42 rfl (by decide) rfl ?_
      first
        | exact q_fg (t0_iwF G h i hw) ⟨rfl, rfl, rfl, trivial⟩
        | exact q_fg (l0_iw G h i hi h_5 h_21 (strL.getD i 0 + 1) 0 0 (Nat.zero_le _) (by omega) (fun j hj => absurd hj (Nat.not_lt_zero _)) rfl) ⟨rfl, rfl, rfl, rfl, trivial⟩
set_option maxRecDepth 100000 in
set_option maxHeartbeats 4000000 in
theorem c0_keyRead {g : GT} {T : Nat → Int32} {n : Nat} {key : Int32} {M N : TM} {l : Nat} {x : PS} (G : G0 T n M) (h : R0 T n key M l x N) : Cn g yX0_keyRead cX0_keyRead 1 (some .int) 5 [.ref (gad g 0 0)] N (Rt (.int (kyF T (tk T n x.1))) N) := by
  refine Cn.ofTR (by decide +kernel) (Nat.le_of_ble_eq_true rfl) ?_
  refine q_aload_n 1 dX0_keyRead_0 rfl rfl ?_
  refine q_ldcS (i := 0) 3 dX0_keyRead_1 rfl (by decide) rfl rfl ?_
  refine q_callVt 6 dX0_keyRead_3 rfl (c0_isWord G h 0 (by decide)) cw_X0_77 (by decide) rfl rfl ⟨by decide, by decide⟩ ⟨by decide, by decide⟩ (Nat.le_of_ble_eq_true rfl) ?_
  refine q_if_eq 11 9 dX0_keyRead_6 rfl rfl (fun h_6 => ?_) (fun h_6 => ?_)
  · skip
    simp only [bI_0, Classical.not_not] at h_6
    have h_6 : ¬ wd T (tk T n x.1) [98, 114, 101, 97, 116, 104] := h_6
    refine q_aload_n 12 dX0_keyRead_11 rfl rfl ?_
    refine q_ldcS (i := 1) 14 dX0_keyRead_12 rfl (by decide) rfl rfl ?_
    refine q_callVt 17 dX0_keyRead_14 rfl (c0_isWord G h 1 (by decide)) cw_X0_77 (by decide) rfl rfl ⟨by decide, by decide⟩ ⟨by decide, by decide⟩ (Nat.le_of_ble_eq_true rfl) ?_
    refine q_if_eq 22 20 dX0_keyRead_17 rfl rfl (fun h_17 => ?_) (fun h_17 => ?_)
    · skip
      simp only [bI_0, Classical.not_not] at h_17
      have h_17 : ¬ wd T (tk T n x.1) [102, 101, 101] := h_17
      refine q_aload_n 23 dX0_keyRead_22 rfl rfl ?_
      refine q_ldcS (i := 2) 25 dX0_keyRead_23 rfl (by decide) rfl rfl ?_
      refine q_callVt 28 dX0_keyRead_25 rfl (c0_isWord G h 2 (by decide)) cw_X0_77 (by decide) rfl rfl ⟨by decide, by decide⟩ ⟨by decide, by decide⟩ (Nat.le_of_ble_eq_true rfl) ?_
      refine q_if_eq 35 31 dX0_keyRead_28 rfl rfl (fun h_28 => ?_) (fun h_28 => ?_)
      · skip
        simp only [bI_0, Classical.not_not] at h_28
        have h_28 : ¬ wd T (tk T n x.1) [102, 105, 110, 101] := h_28
        refine q_iconst (v := (-1)) 36 dX0_keyRead_35 rfl rfl ?_
        refine q_iret dX0_keyRead_36 ?_
        refine ⟨congrArg (fun x => some (Value.int x)) ?_, rfl⟩
        unfold kyF
        first
          | (rw [if_pos h_6])
          | (rw [if_neg h_6, if_pos h_17])
          | (rw [if_neg h_6, if_neg h_17, if_pos h_28])
          | (rw [if_neg h_6, if_neg h_17, if_neg h_28])
      · skip
        simp only [bI_0, Classical.not_not] at h_28
        have h_28 : wd T (tk T n x.1) [102, 105, 110, 101] := h_28
        refine q_iconst (v := 2) 32 dX0_keyRead_31 rfl rfl ?_
        refine q_goto 36 dX0_keyRead_32 rfl ?_
        refine q_iret dX0_keyRead_36 ?_
        refine ⟨congrArg (fun x => some (Value.int x)) ?_, rfl⟩
        unfold kyF
        first
          | (rw [if_pos h_6])
          | (rw [if_neg h_6, if_pos h_17])
          | (rw [if_neg h_6, if_neg h_17, if_pos h_28])
          | (rw [if_neg h_6, if_neg h_17, if_neg h_28])
    · skip
      simp only [bI_0, Classical.not_not] at h_17
      have h_17 : wd T (tk T n x.1) [102, 101, 101] := h_17
      refine q_iconst (v := 1) 21 dX0_keyRead_20 rfl rfl ?_
      refine q_iret dX0_keyRead_21 ?_
      refine ⟨congrArg (fun x => some (Value.int x)) ?_, rfl⟩
      unfold kyF
      first
        | (rw [if_pos h_6])
        | (rw [if_neg h_6, if_pos h_17])
        | (rw [if_neg h_6, if_neg h_17, if_pos h_28])
        | (rw [if_neg h_6, if_neg h_17, if_neg h_28])
  · skip
    simp only [bI_0, Classical.not_not] at h_6
    have h_6 : wd T (tk T n x.1) [98, 114, 101, 97, 116, 104] := h_6
    refine q_iconst (v := 0) 10 dX0_keyRead_9 rfl rfl ?_
    refine q_iret dX0_keyRead_10 ?_
    refine ⟨congrArg (fun x => some (Value.int x)) ?_, rfl⟩
    unfold kyF
    first
      | (rw [if_pos h_6])
      | (rw [if_neg h_6, if_pos h_17])
      | (rw [if_neg h_6, if_neg h_17, if_pos h_28])
      | (rw [if_neg h_6, if_neg h_17, if_neg h_28])
theorem ky_k {T : Nat → Int32} {t : Tk} (h : 0 ≤ kyF T t) : ∃ k, k < 3 ∧ kyF T t = nI k := by
  unfold kyF at h ⊢
  by_cases h1 : wd T t [98, 114, 101, 97, 116, 104]
  · exact ⟨0, by decide, by rw [if_pos h1]; rfl⟩
  · rw [if_neg h1] at h ⊢
    by_cases h2 : wd T t [102, 101, 101]
    · exact ⟨1, by decide, by rw [if_pos h2]; rfl⟩
    · rw [if_neg h2] at h ⊢
      by_cases h3 : wd T t [102, 105, 110, 101]
      · exact ⟨2, by decide, by rw [if_pos h3]; rfl⟩
      · rw [if_neg h3] at h; exact absurd h (by decide)
theorem c0_next0 {g : GT} {T : Nat → Int32} {n : Nat} {M N : TM} (G : G0 T n M) (hK : K0 M N) (a1 : N 0 0 1 = 0) (a3 : N 0 0 3 = 0) (a5 : N 0 0 5 = nI n) (a6 : N 0 0 6 = 0) (a8 : N 0 0 8 = 0) (a9 : N 0 0 9 = -1) : Cn g yX0_goOn cX0_goOn 3 none 1 [.ref (gad g 0 0)] N (fun r N' => r = none ∧ R0 T n (N 0 0 2) M (lc xz.2.2 xz.2.1) xz N') := by
  refine Cn.mono (c0_goOn N T n ((hK.1 28 0 (by decide) (by decide)).trans G.1) hK.2 a5 G.2.1 0 (Nat.zero_le _) a8) ?_
  rintro r N' ⟨rfl, k, ht⟩
  have k' := fun j h6 h7 h8 => k.2 j h6 h7 h8
  refine ⟨rfl, ⟨fun t q q1 q2 => (k.1 t q q1).trans (hK.1 t q q1 q2), (k' 4 (by decide) (by decide) (by decide)).trans hK.2⟩, ?_, ⟨(k' 1 (by decide) (by decide) (by decide)).trans a1, k' 2 (by decide) (by decide) (by decide), (k' 3 (by decide) (by decide) (by decide)).trans a3, (k' 5 (by decide) (by decide) (by decide)).trans a5, (k' 9 (by decide) (by decide) (by decide)).trans a9⟩, fun j hj => absurd hj (Nat.not_lt_zero _)⟩
  show TK0 (nx T n 0 3) N'
  rw [a6] at ht
  unfold nx
  rw [show decide ((3 = 1 ∨ 3 = 2) ∧ 0 = nxP T n 0) = decide (((0 : Int32) = 1 ∨ (0 : Int32) = 2) ∧ 0 = nxP T n 0) from decide_eq_decide.mpr (and_congr_left (fun _ => by decide))]
  exact ht
theorem R0.key {T : Nat → Int32} {n : Nat} {key : Int32} {M N : TM} {l : Nat} {x : PS} (h : R0 T n key M l x N) (hx : x.2.1 = 0) (key' : Int32) : R0 T n key' M l x (putA N 0 0 (upd (N 0 0) 2 key')) := by
  obtain ⟨hK, ht, ⟨a1, a2, a3, a5, a9⟩, hS⟩ := h
  exact ⟨⟨fun t k q1 q2 => (putA_n _ _ _ _ q1).trans (hK.1 t k q1 q2), hK.2⟩, ht, ⟨a1, rfl, a3, a5, a9⟩, fun k hk => absurd hk (by omega)⟩
def P0c (T : Nat → Int32) (n : Nat) (M N : TM) : Prop := K0 M N ∧ (prB T n = true → N 0 0 1 = nI (mm T n) ∧ N 0 0 2 = kyT T n ∧ N 0 0 3 = nI (lc (mS T n) (mm T n)) ∧ ∀ k, k < mm T n → N 10 0 k = enF (kyT T n) (mS T n (2 * k)) (mS T n (2 * k + 1)))
set_option maxRecDepth 100000 in
set_option maxHeartbeats 4000000 in
theorem t0_fo75G {g : GT} {T : Nat → Int32} {n : Nat} {M : TM} (G : G0 T n M) (N : TM) (h_56 : 0 ≤ kyT T n) (hp : (prR T n).1 = true) (h : R0 T n (kyT T n) M (lc (mS T n) (mm T n)) (prR T n).2 N) (hm : mm T n ≤ 96) : TR g (rmD 136) RX0 cX0_faultOf 3 (some .int) 0 0 (Zm g (fun r N' => r = some (.int (if prB T n = true then -1 else nI (prF T n))) ∧ P0c T n M N')) 75 [some (.ref (gad g 0 0)), none, none] [] N := by
  refine q_aload_n 76 dX0_faultOf_75 rfl rfl ?_
  refine q_getI 79 dX0_faultOf_76 rfl fl_X0_34 (by decide) rfl (by decide) ?_
  refine q_iconst (v := 4) 80 dX0_faultOf_79 rfl rfl ?_
  refine q_icmp_eq 87 83 dX0_faultOf_80 rfl rfl (fun h_80 => ?_) (fun h_80 => ?_)
  · skip
    rw [h.so0] at h_80
    refine q_aload_n 88 dX0_faultOf_87 rfl rfl ?_
    refine q_getI 91 dX0_faultOf_88 rfl fl_X0_40 (by decide) rfl (by decide) ?_
    refine q_iret dX0_faultOf_91 ?_
    first
      | (have hB : prB T n = true := prB_t.mpr ⟨h_56, hp, h_80⟩; exact ⟨congrArg (fun x => some (Value.int x)) (h.2.2.1.2.2.2.2.trans (if_pos hB).symm), h.1, fun _ => ⟨h.2.2.1.1, h.2.2.1.2.1, h.2.2.1.2.2.1, h.2.2.2⟩⟩)
      | (have hB : ¬ prB T n = true := fun z => h_80 (prB_t.mp z).2.2; exact ⟨congrArg (fun x => some (Value.int x)) (hF.2.1.2.trans (by rw [if_neg hB]; unfold prF; rw [if_pos h_56])), hF.1, fun z => absurd z hB⟩)
  · skip
    rw [h.so0] at h_80
    refine q_aload_n 84 dX0_faultOf_83 rfl rfl ?_
    refine q_callV 87 dX0_faultOf_84 rfl (c0_stop G h hm) cw_X0_60 (by decide) rfl rfl ⟨by decide, by decide⟩ ⟨by decide, by decide⟩ (Nat.le_of_ble_eq_true rfl) ?_
    rintro _ N1 ⟨rfl, hF⟩
    refine q_aload_n 88 dX0_faultOf_87 rfl rfl ?_
    refine q_getI 91 dX0_faultOf_88 rfl fl_X0_40 (by decide) rfl (by decide) ?_
    refine q_iret dX0_faultOf_91 ?_
    first
      | (have hB : prB T n = true := prB_t.mpr ⟨h_56, hp, h_80⟩; exact ⟨congrArg (fun x => some (Value.int x)) (h.2.2.1.2.2.2.2.trans (if_pos hB).symm), h.1, fun _ => ⟨h.2.2.1.1, h.2.2.1.2.1, h.2.2.1.2.2.1, h.2.2.2⟩⟩)
      | (have hB : ¬ prB T n = true := fun z => h_80 (prB_t.mp z).2.2; exact ⟨congrArg (fun x => some (Value.int x)) (hF.2.1.2.trans (by rw [if_neg hB]; unfold prF; rw [if_pos h_56])), hF.1, fun z => absurd z hB⟩)
set_option maxRecDepth 100000 in
set_option maxHeartbeats 4000000 in
theorem t0_fo75F {g : GT} {T : Nat → Int32} {n : Nat} {M : TM} (G : G0 T n M) (N : TM) (h_56 : 0 ≤ kyT T n) (hp : ¬ (prR T n).1 = true) (h : F0s n M (tk T n (prR T n).2.1).1 N) : TR g (rmD 136) RX0 cX0_faultOf 3 (some .int) 0 0 (Zm g (fun r N' => r = some (.int (if prB T n = true then -1 else nI (prF T n))) ∧ P0c T n M N')) 75 [some (.ref (gad g 0 0)), none, none] [] N := by
  refine q_aload_n 76 dX0_faultOf_75 rfl rfl ?_
  refine q_getI 79 dX0_faultOf_76 rfl fl_X0_34 (by decide) rfl (by decide) ?_
  refine q_iconst (v := 4) 80 dX0_faultOf_79 rfl rfl ?_
  refine q_icmp_eq 87 83 dX0_faultOf_80 rfl rfl (fun h_80 => ?_) (fun h_80 => ?_)
  · skip
    refine q_aload_n 88 dX0_faultOf_87 rfl rfl ?_
    refine q_getI 91 dX0_faultOf_88 rfl fl_X0_40 (by decide) rfl (by decide) ?_
    refine q_iret dX0_faultOf_91 ?_
    have hB : ¬ prB T n = true := fun z => hp (prB_t.mp z).2.1
    exact ⟨congrArg (fun x => some (Value.int x)) (h.2.1.2.trans (by rw [if_neg hB]; unfold prF; rw [if_pos h_56])), h.1, fun z => absurd z hB⟩
  · skip
    refine q_aload_n 84 dX0_faultOf_83 rfl rfl ?_
    refine q_callV 87 dX0_faultOf_84 rfl (c0_stopF h) cw_X0_60 (by decide) rfl rfl ⟨by decide, by decide⟩ ⟨by decide, by decide⟩ (Nat.le_of_ble_eq_true rfl) ?_
    rintro _ N1 ⟨rfl, h⟩
    refine q_aload_n 88 dX0_faultOf_87 rfl rfl ?_
    refine q_getI 91 dX0_faultOf_88 rfl fl_X0_40 (by decide) rfl (by decide) ?_
    refine q_iret dX0_faultOf_91 ?_
    have hB : ¬ prB T n = true := fun z => hp (prB_t.mp z).2.1
    exact ⟨congrArg (fun x => some (Value.int x)) (h.2.1.2.trans (by rw [if_neg hB]; unfold prF; rw [if_pos h_56])), h.1, fun z => absurd z hB⟩
set_option maxRecDepth 100000 in
set_option maxHeartbeats 4000000 in
theorem t0_fo40 {g : GT} {T : Nat → Int32} {n : Nat} {M : TM} (G : G0 T n M) (N : TM) (hK : K0 M N) (a1 : N 0 0 1 = 0) (a3 : N 0 0 3 = 0) (a5 : N 0 0 5 = nI n) (a6 : N 0 0 6 = 0) (a8 : N 0 0 8 = 0) (a9 : N 0 0 9 = -1) : TR g (rmD 136) RX0 cX0_faultOf 3 (some .int) 0 0 (Zm g (fun r N' => r = some (.int (if prB T n = true then -1 else nI (prF T n))) ∧ P0c T n M N')) 40 [some (.ref (gad g 0 0)), none, none] [] N := by
  refine q_aload_n 41 dX0_faultOf_40 rfl rfl ?_
  refine q_callV 44 dX0_faultOf_41 rfl (c0_next0 G hK a1 a3 a5 a6 a8 a9) cw_X0_43 (by decide) rfl rfl ⟨by decide, by decide⟩ ⟨by decide, by decide⟩ (Nat.le_of_ble_eq_true rfl) ?_
  rintro _ N1 ⟨rfl, hR1⟩
  have hR2 := hR1.key rfl (kyT T n)
  refine q_aload_n 45 dX0_faultOf_44 rfl rfl ?_
  refine q_aload_n 46 dX0_faultOf_45 rfl rfl ?_
  refine q_callVt 49 dX0_faultOf_46 rfl (c0_keyRead G hR1) cw_X0_46 (by decide) rfl rfl ⟨by decide, by decide⟩ ⟨by decide, by decide⟩ (Nat.le_of_ble_eq_true rfl) ?_
  refine q_putI 52 dX0_faultOf_49 rfl fl_X0_50 fp_0_2 (by decide) rfl (by decide) rfl rfl ?_
  refine q_aload_n 53 dX0_faultOf_52 rfl rfl ?_
  refine q_getI 56 dX0_faultOf_53 rfl fl_X0_50 (by decide) rfl (by decide) ?_
  refine q_if_ge 64 59 dX0_faultOf_56 rfl rfl (fun h_56 => ?_) (fun h_56 => ?_)
  · skip
    have h_56 : 0 ≤ kyT T n := h_56
    have hso : (tk T n xz.1).2.2 = 1 := ky_1 h_56
    have hn1 : 1 ≤ n := tk_n (T := T) (i := 0) (by rw [show (tk T n 0).2.2 = 1 from hso]; decide)
    obtain ⟨kk, hkk, ek⟩ := ky_k h_56
    have hC : CL g T n (kyT T n) M 0 0 5 130 (pa T n (kyT T n) 17 0 0) := by rw [show kyT T n = nI kk from ek]; exact c0_readLevel G hkk
    refine q_aload_n 65 dX0_faultOf_64 rfl rfl ?_
    refine q_callV 68 dX0_faultOf_65 rfl (c0_next G hR2 (by rw [hso]; decide) (by rw [hso]; decide)) cw_X0_43 (by decide) rfl rfl ⟨by decide, by decide⟩ ⟨by decide, by decide⟩ (Nat.le_of_ble_eq_true rfl) ?_
    rintro _ N2 ⟨rfl, hR3⟩
    refine q_aload_n 69 dX0_faultOf_68 rfl rfl ?_
    refine q_iconst (v := 0) 70 dX0_faultOf_69 rfl rfl ?_
    refine q_iconst (v := 0) 71 dX0_faultOf_70 rfl rfl ?_
    refine q_iconst (v := 0) 72 dX0_faultOf_71 rfl rfl ?_
    refine q_callV 75 dX0_faultOf_72 rfl (hC x0 N2 hR3 (by decide) hn1) cw_X0_56 (by decide) rfl rfl ⟨by decide, by decide⟩ ⟨by decide, by decide⟩ (Nat.le_of_ble_eq_true rfl) ?_
    rintro _ N3 ⟨rfl, hL⟩
    have hG := prR_G T n hn1
    by_cases hp : (prR T n).1 = true
    · have g3 := (hG.1 hp).2.2.1
      have g3 : (prR T n).2.2.1 + 1 ≤ 0 + (prR T n).2.1 := g3
      have h96 := G.2.1
      have g4 := hG.2
      exact q_fg (t0_fo75G G N3 h_56 hp (hL.1 hp) (show (prR T n).2.2.1 ≤ 96 by omega)) ⟨rfl, trivial⟩
    · exact q_fg (t0_fo75F G N3 h_56 hp (hL.2 hp)) ⟨rfl, trivial⟩
  · skip
    have h_56 : ¬ 0 ≤ kyT T n := h_56
    refine q_aload_n 60 dX0_faultOf_59 rfl rfl ?_
    refine q_getI 63 dX0_faultOf_60 rfl fl_X0_53 (by decide) rfl (by decide) ?_
    refine q_iret dX0_faultOf_63 ?_
    have hB : ¬ prB T n = true := fun z => h_56 (prB_t.mp z).1
    exact ⟨congrArg (fun x => some (Value.int x)) ((show N1 0 0 7 = nI (tk T n 0).1 from hR1.2.1.1).trans (by rw [if_neg hB]; unfold prF; rw [if_neg h_56])), hR2.1, fun z => absurd z hB⟩
set_option maxRecDepth 100000 in
set_option maxHeartbeats 4000000 in
theorem c0_faultOf {g : GT} {T : Nat → Int32} {n : Nat} {M : TM} (G : G0 T n M) : Cn g yX0_faultOf cX0_faultOf 3 (some .int) 136 [.ref (gad g 0 0), .ref (gad g 28 0), .int (nI n)] M (fun r N' => r = some (.int (if prB T n = true then -1 else nI (prF T n))) ∧ P0c T n M N') := by
  refine Cn.ofTR (by decide +kernel) (Nat.le_of_ble_eq_true rfl) ?_
  have h96 := G.2.1
  have em : miF (nI n) (nI 96) = nI n := by
    unfold miF
    by_cases hlt : nI 96 < nI n
    · exact absurd ((nI_ltI (by decide) (by omega)).mp hlt) (by omega)
    · rw [if_neg hlt]
  refine q_aload_n 1 dX0_faultOf_0 rfl rfl ?_
  refine q_aload_n 2 dX0_faultOf_1 rfl rfl ?_
  refine q_putT 5 dX0_faultOf_2 rfl fl_X0_15 fp_0_4 (by decide) ?_
  refine q_aload_n 6 dX0_faultOf_5 rfl rfl ?_
  refine q_iload_n 7 dX0_faultOf_6 rfl rfl ?_
  refine q_aload_n 8 dX0_faultOf_7 rfl rfl ?_
  refine q_alen 9 dX0_faultOf_8 rfl (by decide) (by decide) rfl ?_
  refine q_mmin 12 dX0_faultOf_9 rfl cw_X0_18 ⟨by decide, by decide⟩ ⟨by decide, by decide⟩ (Nat.le_of_ble_eq_true rfl) ?_
  rw [show miF (nI n) (nI (len 28)) = nI n from em]
  refine q_putI 15 dX0_faultOf_12 rfl fl_X0_24 fp_0_5 (by decide) rfl (by decide) rfl rfl ?_
  refine q_aload_n 16 dX0_faultOf_15 rfl rfl ?_
  refine q_iconst (v := 0) 17 dX0_faultOf_16 rfl rfl ?_
  refine q_putI 20 dX0_faultOf_17 rfl fl_X0_28 fp_0_1 (by decide) rfl (by decide) rfl rfl ?_
  refine q_aload_n 21 dX0_faultOf_20 rfl rfl ?_
  refine q_iconst (v := 0) 22 dX0_faultOf_21 rfl rfl ?_
  refine q_putI 25 dX0_faultOf_22 rfl fl_X0_31 fp_0_3 (by decide) rfl (by decide) rfl rfl ?_
  refine q_aload_n 26 dX0_faultOf_25 rfl rfl ?_
  refine q_iconst (v := 0) 27 dX0_faultOf_26 rfl rfl ?_
  refine q_putI 30 dX0_faultOf_27 rfl fl_X0_34 fp_0_6 (by decide) rfl (by decide) rfl rfl ?_
  refine q_aload_n 31 dX0_faultOf_30 rfl rfl ?_
  refine q_iconst (v := 0) 32 dX0_faultOf_31 rfl rfl ?_
  refine q_putI 35 dX0_faultOf_32 rfl fl_X0_37 fp_0_8 (by decide) rfl (by decide) rfl rfl ?_
  refine q_aload_n 36 dX0_faultOf_35 rfl rfl ?_
  refine q_iconst (v := (-1)) 37 dX0_faultOf_36 rfl rfl ?_
  refine q_putI 40 dX0_faultOf_37 rfl fl_X0_40 fp_0_9 (by decide) rfl (by decide) rfl rfl ?_
  refine q_fg (t0_fo40 G _ ⟨fun t k q1 q2 => ?_, rfl⟩ rfl rfl rfl rfl rfl rfl) ⟨rfl, trivial⟩
  rw [putA_n _ _ _ _ q1, putA_n _ _ _ _ q1, putA_n _ _ _ _ q1, putA_n _ _ _ _ q1, putA_n _ _ _ _ q1, putA_n _ _ _ _ q1, putA_n _ _ _ _ q1]
def tkM (N : TM) (t m : Nat) : TM := putA (putA (putA (putA N 13 t (va_cpy (N 10 0) (N 13 t) 0 0 m)) 14 0 (upd (N 14 0) t (nI m))) 15 0 (upd (N 15 0) t (N 0 0 2))) 16 0 (upd (N 16 0) t (N 0 0 3))
set_option maxRecDepth 100000 in
set_option maxHeartbeats 4000000 in
theorem c3_take {g : GT} (N : TM) (t m : Nat) (ht : t < 14) (hm : m ≤ 96) (h1 : N 0 0 1 = nI m) : Cn g yX3_take cX3_take 3 none 1 [.ref (gad g 3 0), .int (nI t), .ref (gad g 0 0)] N (Rv (tkM N t m)) := by
  refine Cn.ofTR (by decide +kernel) (Nat.le_of_ble_eq_true rfl) ?_
  refine q_iload_n 1 dX3_take_0 rfl rfl ?_
  refine q_iconst (v := 0) 2 dX3_take_1 rfl rfl ?_
  refine q_bipush (v := 13) 4 dX3_take_2 rfl rfl ?_
  refine q_callNt 7 dX3_take_4 rfl (c5_within _ _ _ _) cn_within mX5_within_s (by decide) rfl rfl ⟨by decide, by decide⟩ ⟨by decide, by decide⟩ (Nat.le_of_ble_eq_true rfl) ?_
  refine q_if_ne 11 10 dX3_take_7 rfl rfl (fun _ => ?_) (fun h_7 => absurd h_7 (by rw [bI_0]; exact fun z => z ⟨nI_pos' (by omega), nI_le (b := 13) (by omega) (by decide)⟩))
  refine q_aload_n 12 dX3_take_11 rfl rfl ?_
  refine q_getR 15 dX3_take_12 rfl fl_X3_33 (by decide) rfl rfl ?_
  refine q_iconst (v := 0) 16 dX3_take_15 rfl rfl ?_
  refine q_aload_n 17 dX3_take_16 rfl rfl ?_
  refine q_getR 20 dX3_take_17 rfl fl_X3_11 (by decide) rfl rfl ?_
  refine q_iload_n 21 dX3_take_20 rfl rfl ?_
  refine q_aald9 22 dX3_take_21 rfl rfl ht ?_
  refine q_iconst (v := 0) 23 dX3_take_22 rfl rfl ?_
  refine q_aload_n 24 dX3_take_23 rfl rfl ?_
  refine q_getI 27 dX3_take_24 rfl fl_X3_37 (by decide) rfl (by decide) ?_
  refine q_acopy 30 dX3_take_27 rfl cw_X3_40 ac_w (by decide) (by decide) (by decide) (show t < 14 from ht) rfl rfl h1 (show 0 + m ≤ 96 by omega) (show 0 + m ≤ 96 by omega) ⟨by decide, by decide⟩ ?_
  refine q_aload_n 31 dX3_take_30 rfl rfl ?_
  refine q_getR 34 dX3_take_31 rfl fl_X3_16 (by decide) rfl rfl ?_
  refine q_iload_n 35 dX3_take_34 rfl rfl ?_
  refine q_aload_n 36 dX3_take_35 rfl rfl ?_
  refine q_getI 39 dX3_take_36 rfl fl_X3_37 (by decide) rfl (by decide) ?_
  refine q_iast 40 dX3_take_39 rfl (by decide) (by decide) rfl (show t < 14 from ht) ?_
  refine q_aload_n 41 dX3_take_40 rfl rfl ?_
  refine q_getR 44 dX3_take_41 rfl fl_X3_20 (by decide) rfl rfl ?_
  refine q_iload_n 45 dX3_take_44 rfl rfl ?_
  refine q_aload_n 46 dX3_take_45 rfl rfl ?_
  refine q_getI 49 dX3_take_46 rfl fl_X3_46 (by decide) rfl (by decide) ?_
  refine q_iast 50 dX3_take_49 rfl (by decide) (by decide) rfl (show t < 14 from ht) ?_
  refine q_aload_n 51 dX3_take_50 rfl rfl ?_
  refine q_getR 54 dX3_take_51 rfl fl_X3_23 (by decide) rfl rfl ?_
  refine q_iload_n 55 dX3_take_54 rfl rfl ?_
  refine q_aload_n 56 dX3_take_55 rfl rfl ?_
  refine q_getI 59 dX3_take_56 rfl fl_X3_48 (by decide) rfl (by decide) ?_
  refine q_iast 60 dX3_take_59 rfl (by decide) (by decide) rfl (show t < 14 from ht) ?_
  refine q_vret dX3_take_60 ?_
  refine ⟨rfl, ?_⟩
  show putA (putA (putA (putA N 13 t (va_cpy (N 10 0) (N 13 t) 0 0 m)) 14 0 (upd (N 14 0) t (N 0 0 1))) 15 0 (upd (N 15 0) t (N 0 0 2))) 16 0 (upd (N 16 0) t (N 0 0 3)) = _
  rw [h1]
  rfl
