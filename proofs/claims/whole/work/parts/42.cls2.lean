/-! THE CLASS: a wall that stands for s (or for some marks of it) -/
def coT (s : SS) (key : Int32) : Int32 := if laF s key (nT s) < 0 then NONEc else laF s key (nT s)
theorem coT_n {s : SS} {key : Int32} (hn : nT s ≤ 14) (h : ¬ coT s key = NONEc) : ∃ t, t < nT s ∧ laF s key (nT s) = nI t ∧ s (71 + 200 * t) = key ∧ coT s key = nI t ∧ ¬ laF s key (nT s) < 0 := by
  rcases laF_spec s key (nT s) hn with q | ⟨t, h1, h2, h3⟩
  · exact absurd (show coT s key = NONEc by unfold coT; rw [if_pos (by rw [q]; decide)]) h
  · have hp : ¬ laF s key (nT s) < 0 := by rw [h2]; exact nI_pos (by omega)
    exact ⟨t, h1, h2, h3, by unfold coT; rw [if_neg hp]; exact h2, hp⟩
theorem coT_e {s : SS} {key : Int32} (hn : nT s ≤ 14) (h : coT s key = NONEc) : laF s key (nT s) < 0 := by
  rcases laF_spec s key (nT s) hn with q | ⟨t, h1, h2, h3⟩
  · rw [q]; decide
  · unfold coT at h
    have hp : ¬ laF s key (nT s) < 0 := by rw [h2]; exact nI_pos (by omega)
    rw [if_neg hp] at h
    rw [h]; decide
def RC (M : TM) (w : Nat) (s : SS) : Prop := (∀ c, c < 6 → M 18 w c = s (9 + c) ∧ M 19 w c = s (15 + c) ∧ M 20 w c = nI (ctF s (nI c))) ∧ (M 26 w 0 = s 3 ∧ M 26 w 1 = s 4 ∧ M 26 w 2 = s 5) ∧ (M 27 w 0 = coT s 0 ∧ M 27 w 1 = coT s 1 ∧ M 27 w 2 = coT s 2) ∧ (M 4 w 13 = s 7 ∧ M 4 w 14 = s 2 ∧ M 4 w 15 = s 8)
def RM (M : TM) (w : Nat) (s : SS) (i j : Nat) : Prop := M 21 w i = mk s j 0 ∧ M 22 w i = mk s j 1 ∧ M 23 w i = mk s j 2 ∧ M 24 w i = mk s j 3 ∧ M 25 w i = mk s j 4
def RP (M : TM) (w : Nat) (s : SS) (m : Nat) (f : Nat → Nat) : Prop := RC M w s ∧ (M 4 w 11 = nI m ∧ m ≤ 10) ∧ ∀ i, i < m → f i < nN s ∧ RM M w s i (f i)
def RW (M : TM) (w : Nat) (s : SS) : Prop := RP M w s (nN s) (fun i => i) ∧ M 4 w 12 = s 6 ∧ M 4 w 16 = nI (nT s)
/-- what a wall's doings leave as it is -/
def Kp (w : Nat) (M M' : TM) : Prop := ∀ t k, t ≠ 17 → ¬ ((t = 4 ∨ (18 ≤ t ∧ t ≤ 27)) ∧ k = w) → M' t k = M t k
theorem Kp.rf {w : Nat} {M : TM} : Kp w M M := fun _ _ _ _ => rfl
theorem Kp.tr {w : Nat} {M M' M2 : TM} (h : Kp w M M') (h2 : Kp w M' M2) : Kp w M M2 := fun t k h3 h4 => (h2 t k h3 h4).trans (h t k h3 h4)
theorem Kp.p17 {w : Nat} {M : TM} {p : Nat → Int32} : Kp w M (putA M 17 0 p) := fun t k h1 _ => putA_nt _ _ _ _ h1
theorem Kp.put {w t : Nat} {M M' : TM} {f : Nat → Int32} (h : Kp w M M') (ht : t = 4 ∨ (18 ≤ t ∧ t ≤ 27)) : Kp w M (putA M' t w f) := fun t' k h1 h2 => (putA_n _ _ _ _ (fun q => h2 ⟨by rw [q.1]; exact ht, q.2⟩)).trans (h t' k h1 h2)
theorem Kp.put17 {w : Nat} {M M' : TM} {f : Nat → Int32} (h : Kp w M M') : Kp w M (putA M' 17 0 f) := fun t' k h1 h2 => (putA_nt _ _ _ _ h1).trans (h t' k h1 h2)
theorem RT.kp {w : Nat} {M M' : TM} {s : SS} (h : RT M s) (k : Kp w M M') : RT M' s := by
  have e : ∀ t k', 13 ≤ t → t ≤ 16 → M' t k' = M t k' := fun t k' h1 h2 => k t k' (by omega) (by omega)
  intro t ht
  rw [e 14 0 (by omega) (by omega), e 15 0 (by omega) (by omega), e 16 0 (by omega) (by omega), e 13 t (by omega) (by omega)]
  exact h t ht
theorem RC.p17 {M : TM} {w : Nat} {s : SS} {p : Nat → Int32} (h : RC M w s) : RC (putA M 17 0 p) w s := h
theorem RM.p17 {M : TM} {w : Nat} {s : SS} {i j : Nat} {p : Nat → Int32} (h : RM M w s i j) : RM (putA M 17 0 p) w s i j := h
theorem RP.p17 {M : TM} {w : Nat} {s : SS} {m : Nat} {f : Nat → Nat} {p : Nat → Int32} (h : RP M w s m f) : RP (putA M 17 0 p) w s m f := h
theorem RW.p17 {M : TM} {w : Nat} {s : SS} {p : Nat → Int32} (h : RW M w s) : RW (putA M 17 0 p) w s := h
theorem p17_p17 (M : TM) (p q : Nat → Int32) : putA (putA M 17 0 p) 17 0 q = putA M 17 0 q := putA_pp _ _ _ _ _
theorem miF_le (x y : Int32) : miF x y = leF x y := by
  unfold miF leF
  by_cases h : y < x
  · rw [if_pos h, if_neg (Int32.not_lt.mpr (Int32.le_of_lt h))]
  · rw [if_neg h]
    by_cases h2 : x < y
    · rw [if_pos h2]
    · rw [if_neg h2]; exact Int32.le_antisymm (Int32.not_lt.mp h) (Int32.not_lt.mp h2)
theorem held_wi (v m : Int32) (hm : 0 ≤ m) : maF 0 (miF m v) = wiF v m := by
  unfold maF miF wiF
  by_cases h : v < 0
  · rw [if_pos h, if_pos (Int32.lt_of_lt_of_le h hm), if_neg (Int32.not_lt.mpr (Int32.le_of_lt h))]
  · rw [if_neg h]
    by_cases h2 : v < m
    · rw [if_pos h2, if_neg (Int32.not_lt.mpr (Int32.le_of_lt h2))]
      by_cases h3 : 0 < v
      · rw [if_pos h3]
      · rw [if_neg h3]; exact Int32.le_antisymm (Int32.not_lt.mp h) (Int32.not_lt.mp h3)
    · rw [if_neg h2]
      by_cases h4 : m < v
      · rw [if_pos h4]
        by_cases h3 : 0 < m
        · rw [if_pos h3]
        · rw [if_neg h3]; exact Int32.le_antisymm hm (Int32.not_lt.mp h3)
      · rw [if_neg h4, show m = v from Int32.le_antisymm (Int32.not_lt.mp h2) (Int32.not_lt.mp h4)]
        by_cases h3 : 0 < v
        · rw [if_pos h3]
        · rw [if_neg h3]; exact Int32.le_antisymm (Int32.not_lt.mp h) (Int32.not_lt.mp h3)
theorem nmO_B {key a b c d : Int32} (h : key = 0) : nmO key (nmB a b c d) a b c d := by
  subst h
  intro v hv
  unfold okN at hv
  rw [if_pos rfl] at hv
  rcases hv with rfl | rfl | rfl | rfl <;> rfl
theorem nmO_F {key a b : Int32} (h : key = 1) : nmO key (nmF a b) a b 0 0 := by
  subst h
  intro v hv
  unfold okN at hv
  rw [if_neg (by decide), if_pos rfl] at hv
  rcases hv with rfl | rfl <;> rfl
theorem nmO_I {key a b : Int32} (h : key = 2) : nmO key (nmI a b) a b 0 0 := by
  subst h
  intro v hv
  unfold okN at hv
  rw [if_neg (by decide), if_neg (by decide)] at hv
  rcases hv with rfl | rfl <;> rfl
theorem wiF_99 (v : Int32) : ∃ a, a ≤ 99 ∧ wiF v 99 = nI a := by
  unfold wiF
  by_cases h : v < 0
  · rw [if_pos h]; exact ⟨0, by decide, rfl⟩
  · rw [if_neg h]
    by_cases h2 : 99 < v
    · rw [if_pos h2]; exact ⟨99, by decide, rfl⟩
    · rw [if_neg h2]
      obtain ⟨e, l⟩ := rg_nat (n := 99) ⟨Int32.not_lt.mp h, Int32.not_lt.mp h2⟩ rfl
      exact ⟨_, l, e⟩
theorem plF_99 (s : SS) (k : Nat) : ∃ a, a ≤ 99 ∧ plF s k = nI a := by
  unfold plF
  split
  · exact wiF_99 _
  · exact wiF_99 _
theorem verse_ok : ∀ a, a ≤ 99 → ∀ c, c ≤ 10 → maF 0 (leF 99 (nI a + 2 * (nI c - 1)) - 10) = wiF (leF 99 (nI a + 2 * (nI c - 1)) - 10) 99 := by
  have : ∀ a, a < 100 → ∀ c, c < 11 → maF 0 (leF 99 (nI a + 2 * (nI c - 1)) - 10) = wiF (leF 99 (nI a + 2 * (nI c - 1)) - 10) 99 := by decide +kernel
  exact fun a ha c hc => this a (by omega) c (by omega)
theorem ctF_10 {s : SS} (c : Int32) (h : nN s ≤ 10) : ctF s c ≤ 10 := Nat.le_trans (cntB_le _ _) h
abbrev Q17 (v : Value) (M : TM) : Option Value → TM → Prop := fun r M' => r = some v ∧ ∃ p, M' = putA M 17 0 p
set_option maxRecDepth 100000 in
set_option maxHeartbeats 4000000 in
theorem c4_plain {g : GT} (M : TM) (w : Nat) (hw : w < 3) (x : Int32) (i j : Nat) (hx : x = nI i) (hi : i < 10) (hj : j < 10) (s : SS) (hC : RC M w s) (hM : RM M w s i j) (hW : Wm s) (hT : RT M s) : Cn g yX4_plain cX4_plain 5 (some .int) 2 [.ref (gad g 4 w), .int x] M (Q17 (.int (plF s j)) M) := by
  refine Cn.ofTR (by decide +kernel) (Nat.le_of_ble_eq_true rfl) ?_
  obtain ⟨⟨hn, hn10⟩, hm, ht1, ht2, ht3⟩ := hW
  have hC0 := hC
  have hM0 := hM
  obtain ⟨rc, ⟨rr0, rr1, rr2⟩, ⟨rk0, rk1, rk2⟩, rx⟩ := hC
  obtain ⟨r0, r1, r2, r3, r4⟩ := hM
  obtain ⟨e1, e2⟩ := rg_nat (hm j hj).2.2.2.1 (n := 5) rfl
  obtain ⟨c1, c2, c3⟩ := rc (mk s j 3).toNatClampNeg (by omega)
  have hcl : M 24 w i = nI (mk s j 3).toNatClampNeg := r3.trans e1
  have hc6 : (mk s j 3).toNatClampNeg < 6 := by omega
  refine q_aload_n 1 dX4_plain_0 rfl rfl ?_
  refine q_getR 4 dX4_plain_1 rfl fl_X4_39 hw rfl rfl ?_
  refine q_iconst (v := 0) 5 dX4_plain_4 rfl rfl ?_
  refine q_iald 6 dX4_plain_5 rfl (by decide) hw rfl (by decide) ?_
  refine q_istore_n 7 dX4_plain_6 rfl (by decide) rfl ?_
  refine q_aload_n 8 dX4_plain_7 rfl rfl ?_
  refine q_getR 11 dX4_plain_8 rfl fl_X4_30 hw rfl rfl ?_
  refine q_iload_n 12 dX4_plain_11 rfl rfl ?_
  refine q_iald 13 dX4_plain_12 rfl (by decide) hw hx hi ?_
  refine q_istore_n 14 dX4_plain_13 rfl (by decide) rfl ?_
  refine q_iload_n 15 dX4_plain_14 rfl rfl ?_
  refine q_ldc 17 dX4_plain_15 rfl cs_X4_59 ?_
  refine q_icmp_ne 36 20 dX4_plain_17 rfl rfl (fun h_17 => ?_) (fun h_17 => ?_)
  · skip
    rw [rk0] at h_17
    obtain ⟨t, t1, t2, t3, t4, t5⟩ := coT_n ht2 h_17
    refine q_aload_n 37 dX4_plain_36 rfl rfl ?_
    refine q_getR 40 dX4_plain_37 rfl fl_X4_49 hw rfl rfl ?_
    refine q_iload_n 41 dX4_plain_40 rfl rfl ?_
    refine q_aload_n 42 dX4_plain_41 rfl rfl ?_
    refine q_getR 45 dX4_plain_42 rfl fl_X4_24 hw rfl rfl ?_
    refine q_iload_n 46 dX4_plain_45 rfl rfl ?_
    refine q_iald 47 dX4_plain_46 rfl (by decide) hw hx hi ?_
    refine q_aload_n 48 dX4_plain_47 rfl rfl ?_
    refine q_getR 51 dX4_plain_48 rfl fl_X4_27 hw rfl rfl ?_
    refine q_iload_n 52 dX4_plain_51 rfl rfl ?_
    refine q_iald 53 dX4_plain_52 rfl (by decide) hw hx hi ?_
    refine q_aload_n 54 dX4_plain_53 rfl rfl ?_
    refine q_getR 57 dX4_plain_54 rfl fl_X4_15 hw rfl rfl ?_
    refine q_iload_n 58 dX4_plain_57 rfl rfl ?_
    refine q_iald 59 dX4_plain_58 rfl (by decide) hw hcl hc6 ?_
    refine q_aload_n 60 dX4_plain_59 rfl rfl ?_
    refine q_getR 63 dX4_plain_60 rfl fl_X4_18 hw rfl rfl ?_
    refine q_iload_n 64 dX4_plain_63 rfl rfl ?_
    refine q_iald 65 dX4_plain_64 rfl (by decide) hw hcl hc6 ?_
    refine q_callV 68 dX4_plain_65 rfl (c3_gives _ _ _ _ _ _ t s (rk0.trans t4) t1 ⟨ht1, ht2, ht3⟩ hT (nmB _ _ _ _) (nmO_B t3)) cw_X4_83 (by decide) rfl rfl ⟨by decide, by decide⟩ ⟨by decide, by decide⟩ (Nat.le_of_ble_eq_true rfl) ?_
    rintro _ _ ⟨rfl, p, rfl⟩
    refine q_istore 70 dX4_plain_68 rfl (by decide) rfl ?_
    refine q_iload 72 dX4_plain_70 rfl rfl ?_
    refine q_bipush (v := 99) 74 dX4_plain_72 rfl rfl ?_
    refine q_callNt 77 dX4_plain_74 rfl (c5_held _ _ _) cn_held mX5_held_s (by decide) rfl rfl ⟨by decide, by decide⟩ ⟨by decide, by decide⟩ (Nat.le_of_ble_eq_true rfl) ?_
    refine q_iret dX4_plain_77 ?_
    first
    | (refine ⟨congrArg (fun x => some (Value.int x)) ?_, p, rfl⟩; rw [held_wi _ _ (by decide)]; unfold plF; rw [if_neg t5, r1, r2, c2, c3, ← e1, t2]; rw [nI_clamp (by have := ht2; omega)])
    | (refine ⟨congrArg (fun x => some (Value.int x)) ?_, M 17 0, (putA_id M 17 0).symm⟩; rw [held_wi _ _ (by decide)]; unfold plF; rw [if_pos hl, r1, r2])
  · skip
    rw [rk0] at h_17
    have hl := coT_e ht2 h_17
    refine q_aload_n 21 dX4_plain_20 rfl rfl ?_
    refine q_getR 24 dX4_plain_21 rfl fl_X4_24 hw rfl rfl ?_
    refine q_iload_n 25 dX4_plain_24 rfl rfl ?_
    refine q_iald 26 dX4_plain_25 rfl (by decide) hw hx hi ?_
    refine q_aload_n 27 dX4_plain_26 rfl rfl ?_
    refine q_getR 30 dX4_plain_27 rfl fl_X4_27 hw rfl rfl ?_
    refine q_iload_n 31 dX4_plain_30 rfl rfl ?_
    refine q_iald 32 dX4_plain_31 rfl (by decide) hw hx hi ?_
    refine q_isub 33 dX4_plain_32 rfl ?_
    refine q_goto 68 dX4_plain_33 rfl ?_
    refine q_istore 70 dX4_plain_68 rfl (by decide) rfl ?_
    refine q_iload 72 dX4_plain_70 rfl rfl ?_
    refine q_bipush (v := 99) 74 dX4_plain_72 rfl rfl ?_
    refine q_callNt 77 dX4_plain_74 rfl (c5_held _ _ _) cn_held mX5_held_s (by decide) rfl rfl ⟨by decide, by decide⟩ ⟨by decide, by decide⟩ (Nat.le_of_ble_eq_true rfl) ?_
    refine q_iret dX4_plain_77 ?_
    first
    | (refine ⟨congrArg (fun x => some (Value.int x)) ?_, p, rfl⟩; rw [held_wi _ _ (by decide)]; unfold plF; rw [if_neg t5, r1, r2, c2, c3, ← e1, t2]; rw [nI_clamp (by have := ht2; omega)])
    | (refine ⟨congrArg (fun x => some (Value.int x)) ?_, M 17 0, (putA_id M 17 0).symm⟩; rw [held_wi _ _ (by decide)]; unfold plF; rw [if_pos hl, r1, r2])
set_option maxRecDepth 100000 in
set_option maxHeartbeats 4000000 in
theorem c4_shows {g : GT} (M : TM) (w : Nat) (hw : w < 3) (x : Int32) (i j : Nat) (hx : x = nI i) (hi : i < 10) (hj : j < 10) (s : SS) (hC : RC M w s) (hM : RM M w s i j) (hW : Wm s) (hT : RT M s) : Cn g yX4_shows cX4_shows 3 (some .int) 3 [.ref (gad g 4 w), .int x] M (Q17 (.int (shF s j)) M) := by
  refine Cn.ofTR (by decide +kernel) (Nat.le_of_ble_eq_true rfl) ?_
  obtain ⟨⟨hn, hn10⟩, hm, ht1, ht2, ht3⟩ := hW
  have hC0 := hC
  have hM0 := hM
  obtain ⟨rc, ⟨rr0, rr1, rr2⟩, ⟨rk0, rk1, rk2⟩, rx⟩ := hC
  obtain ⟨r0, r1, r2, r3, r4⟩ := hM
  obtain ⟨e1, e2⟩ := rg_nat (hm j hj).2.2.2.1 (n := 5) rfl
  obtain ⟨c1, c2, c3⟩ := rc (mk s j 3).toNatClampNeg (by omega)
  have hcl : M 24 w i = nI (mk s j 3).toNatClampNeg := r3.trans e1
  have hc6 : (mk s j 3).toNatClampNeg < 6 := by omega
  refine q_aload_n 1 dX4_shows_0 rfl rfl ?_
  refine q_getR 4 dX4_shows_1 rfl fl_X4_18 hw rfl rfl ?_
  refine q_aload_n 5 dX4_shows_4 rfl rfl ?_
  refine q_getR 8 dX4_shows_5 rfl fl_X4_30 hw rfl rfl ?_
  refine q_iload_n 9 dX4_shows_8 rfl rfl ?_
  refine q_iald 10 dX4_shows_9 rfl (by decide) hw hx hi ?_
  refine q_iald 11 dX4_shows_10 rfl (by decide) hw hcl hc6 ?_
  refine q_iconst (v := 1) 12 dX4_shows_11 rfl rfl ?_
  refine q_isub 13 dX4_shows_12 rfl ?_
  refine q_istore_n 14 dX4_shows_13 rfl (by decide) rfl ?_
  refine q_aload_n 15 dX4_shows_14 rfl rfl ?_
  refine q_getR 18 dX4_shows_15 rfl fl_X4_21 hw rfl rfl ?_
  refine q_iload_n 19 dX4_shows_18 rfl rfl ?_
  refine q_iald 20 dX4_shows_19 rfl (by decide) hw hx hi ?_
  by_cases hs_20_1 : (M 21 w i) = (1 : Int32)
  · skip
    refine q_tab 56 dX4_shows_20 rfl (sw_eq hs_20_1 rfl) rfl ?_
    refine q_bipush (v := 99) 58 dX4_shows_56 rfl rfl ?_
    refine q_aload_n 59 dX4_shows_58 rfl rfl ?_
    refine q_iload_n 60 dX4_shows_59 rfl rfl ?_
    refine q_callV 63 dX4_shows_60 rfl (c4_plain _ w hw x i j hx hi hj s hC0 hM0 ⟨⟨hn, hn10⟩, hm, ht1, ht2, ht3⟩ hT) cw_X4_93 hw rfl rfl ⟨by decide, by decide⟩ ⟨by decide, by decide⟩ (Nat.le_of_ble_eq_true rfl) ?_
    rintro _ _ ⟨rfl, p, rfl⟩
    refine q_iconst (v := 5) 64 dX4_shows_63 rfl rfl ?_
    refine q_iadd 65 dX4_shows_64 rfl ?_
    refine q_mmin 68 dX4_shows_65 rfl cw_X4_97 ⟨by decide, by decide⟩ ⟨by decide, by decide⟩ (Nat.le_of_ble_eq_true rfl) ?_
    refine q_iret dX4_shows_68 ?_
    refine ⟨congrArg (fun x => some (Value.int x)) ?_, p, rfl⟩
    unfold shF shK
    rw [← r0]
    try rw [miF_le]
    try rw [c3, ← e1]
    first | (rw [if_pos hs_20_1] <;> rfl) | (rw [if_neg hs_20_1, if_pos hs_20_2] <;> rfl) | (rw [if_neg hs_20_1, if_neg hs_20_2, if_pos hs_20_3] <;> rfl) | (rw [if_neg hs_20_1, if_neg hs_20_2, if_neg hs_20_3, if_pos hs_20_4] <;> rfl) | (rw [if_neg hs_20_1, if_neg hs_20_2, if_neg hs_20_3, if_neg hs_20_4, if_pos hs_20_5] <;> rfl) | (rw [if_neg hs_20_1, if_neg hs_20_2, if_neg hs_20_3, if_neg hs_20_4, if_neg hs_20_5] <;> rfl)
  by_cases hs_20_2 : (M 21 w i) = (2 : Int32)
  · skip
    refine q_tab 84 dX4_shows_20 rfl (sw_eq hs_20_2 rfl) rfl ?_
    refine q_bipush (v := 99) 86 dX4_shows_84 rfl rfl ?_
    refine q_aload_n 87 dX4_shows_86 rfl rfl ?_
    refine q_iload_n 88 dX4_shows_87 rfl rfl ?_
    refine q_callV 91 dX4_shows_88 rfl (c4_plain _ w hw x i j hx hi hj s hC0 hM0 ⟨⟨hn, hn10⟩, hm, ht1, ht2, ht3⟩ hT) cw_X4_93 hw rfl rfl ⟨by decide, by decide⟩ ⟨by decide, by decide⟩ (Nat.le_of_ble_eq_true rfl) ?_
    rintro _ _ ⟨rfl, p, rfl⟩
    refine q_iconst (v := 2) 92 dX4_shows_91 rfl rfl ?_
    refine q_iload_n 93 dX4_shows_92 rfl rfl ?_
    refine q_imul 94 dX4_shows_93 rfl ?_
    refine q_iadd 95 dX4_shows_94 rfl ?_
    refine q_mmin 98 dX4_shows_95 rfl cw_X4_97 ⟨by decide, by decide⟩ ⟨by decide, by decide⟩ (Nat.le_of_ble_eq_true rfl) ?_
    refine q_iret dX4_shows_98 ?_
    refine ⟨congrArg (fun x => some (Value.int x)) ?_, p, rfl⟩
    unfold shF shK
    rw [← r0]
    try rw [miF_le]
    try rw [c3, ← e1]
    first | (rw [if_pos hs_20_1] <;> rfl) | (rw [if_neg hs_20_1, if_pos hs_20_2] <;> rfl) | (rw [if_neg hs_20_1, if_neg hs_20_2, if_pos hs_20_3] <;> rfl) | (rw [if_neg hs_20_1, if_neg hs_20_2, if_neg hs_20_3, if_pos hs_20_4] <;> rfl) | (rw [if_neg hs_20_1, if_neg hs_20_2, if_neg hs_20_3, if_neg hs_20_4, if_pos hs_20_5] <;> rfl) | (rw [if_neg hs_20_1, if_neg hs_20_2, if_neg hs_20_3, if_neg hs_20_4, if_neg hs_20_5] <;> rfl)
  by_cases hs_20_3 : (M 21 w i) = (3 : Int32)
  · skip
    refine q_tab 69 dX4_shows_20 rfl (sw_eq hs_20_3 rfl) rfl ?_
    refine q_bipush (v := 99) 71 dX4_shows_69 rfl rfl ?_
    refine q_aload_n 72 dX4_shows_71 rfl rfl ?_
    refine q_iload_n 73 dX4_shows_72 rfl rfl ?_
    refine q_callV 76 dX4_shows_73 rfl (c4_plain _ w hw x i j hx hi hj s hC0 hM0 ⟨⟨hn, hn10⟩, hm, ht1, ht2, ht3⟩ hT) cw_X4_93 hw rfl rfl ⟨by decide, by decide⟩ ⟨by decide, by decide⟩ (Nat.le_of_ble_eq_true rfl) ?_
    rintro _ _ ⟨rfl, p, rfl⟩
    refine q_iconst (v := 5) 77 dX4_shows_76 rfl rfl ?_
    refine q_iadd 78 dX4_shows_77 rfl ?_
    refine q_mmin 81 dX4_shows_78 rfl cw_X4_97 ⟨by decide, by decide⟩ ⟨by decide, by decide⟩ (Nat.le_of_ble_eq_true rfl) ?_
    refine q_iconst (v := 2) 82 dX4_shows_81 rfl rfl ?_
    refine q_idiv 83 dX4_shows_82 rfl (by decide) ?_
    refine q_iret dX4_shows_83 ?_
    refine ⟨congrArg (fun x => some (Value.int x)) ?_, p, rfl⟩
    unfold shF shK
    rw [← r0]
    try rw [miF_le]
    try rw [c3, ← e1]
    first | (rw [if_pos hs_20_1] <;> rfl) | (rw [if_neg hs_20_1, if_pos hs_20_2] <;> rfl) | (rw [if_neg hs_20_1, if_neg hs_20_2, if_pos hs_20_3] <;> rfl) | (rw [if_neg hs_20_1, if_neg hs_20_2, if_neg hs_20_3, if_pos hs_20_4] <;> rfl) | (rw [if_neg hs_20_1, if_neg hs_20_2, if_neg hs_20_3, if_neg hs_20_4, if_pos hs_20_5] <;> rfl) | (rw [if_neg hs_20_1, if_neg hs_20_2, if_neg hs_20_3, if_neg hs_20_4, if_neg hs_20_5] <;> rfl)
  by_cases hs_20_4 : (M 21 w i) = (4 : Int32)
  · skip
    refine q_tab 99 dX4_shows_20 rfl (sw_eq hs_20_4 rfl) rfl ?_
    refine q_iconst (v := 0) 100 dX4_shows_99 rfl rfl ?_
    refine q_bipush (v := 99) 102 dX4_shows_100 rfl rfl ?_
    refine q_aload_n 103 dX4_shows_102 rfl rfl ?_
    refine q_iload_n 104 dX4_shows_103 rfl rfl ?_
    refine q_callV 107 dX4_shows_104 rfl (c4_plain _ w hw x i j hx hi hj s hC0 hM0 ⟨⟨hn, hn10⟩, hm, ht1, ht2, ht3⟩ hT) cw_X4_93 hw rfl rfl ⟨by decide, by decide⟩ ⟨by decide, by decide⟩ (Nat.le_of_ble_eq_true rfl) ?_
    rintro _ _ ⟨rfl, p, rfl⟩
    refine q_iconst (v := 2) 108 dX4_shows_107 rfl rfl ?_
    refine q_iload_n 109 dX4_shows_108 rfl rfl ?_
    refine q_imul 110 dX4_shows_109 rfl ?_
    refine q_iadd 111 dX4_shows_110 rfl ?_
    refine q_mmin 114 dX4_shows_111 rfl cw_X4_97 ⟨by decide, by decide⟩ ⟨by decide, by decide⟩ (Nat.le_of_ble_eq_true rfl) ?_
    refine q_bipush (v := 10) 116 dX4_shows_114 rfl rfl ?_
    refine q_isub 117 dX4_shows_116 rfl ?_
    refine q_mmax 120 dX4_shows_117 rfl cw_X4_102 ⟨by decide, by decide⟩ ⟨by decide, by decide⟩ (Nat.le_of_ble_eq_true rfl) ?_
    refine q_iret dX4_shows_120 ?_
    refine ⟨congrArg (fun x => some (Value.int x)) ?_, p, rfl⟩
    unfold shF shK
    rw [← r0, c3, miF_le, if_neg hs_20_1, if_neg hs_20_2, if_neg hs_20_3, if_pos hs_20_4, ← e1]
    obtain ⟨a, ha, ea⟩ := plF_99 s j
    rw [ea]
    exact verse_ok a ha _ (ctF_10 _ hn10)
  by_cases hs_20_5 : (M 21 w i) = (5 : Int32)
  · skip
    refine q_tab 121 dX4_shows_20 rfl (sw_eq hs_20_5 rfl) rfl ?_
    refine q_bipush (v := 20) 123 dX4_shows_121 rfl rfl ?_
    refine q_iret dX4_shows_123 ?_
    refine ⟨congrArg (fun x => some (Value.int x)) ?_, M 17 0, (putA_id M 17 0).symm⟩
    unfold shF shK
    rw [← r0]
    first | (rw [if_pos hs_20_1] <;> rfl) | (rw [if_neg hs_20_1, if_pos hs_20_2] <;> rfl) | (rw [if_neg hs_20_1, if_neg hs_20_2, if_pos hs_20_3] <;> rfl) | (rw [if_neg hs_20_1, if_neg hs_20_2, if_neg hs_20_3, if_pos hs_20_4] <;> rfl) | (rw [if_neg hs_20_1, if_neg hs_20_2, if_neg hs_20_3, if_neg hs_20_4, if_pos hs_20_5] <;> rfl) | (rw [if_neg hs_20_1, if_neg hs_20_2, if_neg hs_20_3, if_neg hs_20_4, if_neg hs_20_5] <;> rfl)
  refine q_tab 124 dX4_shows_20 rfl (sw_def [1, 2, 3, 4, 5] (by decide) rfl (by simp only [List.mem_cons, List.not_mem_nil, or_false, not_or]; exact ⟨lv_neT hs_20_1 rfl, lv_neT hs_20_2 rfl, lv_neT hs_20_3 rfl, lv_neT hs_20_4 rfl, lv_neT hs_20_5 rfl⟩)) rfl ?_
  refine q_aload_n 125 dX4_shows_124 rfl rfl ?_
  refine q_iload_n 126 dX4_shows_125 rfl rfl ?_
  refine q_callV 129 dX4_shows_126 rfl (c4_plain _ w hw x i j hx hi hj s hC0 hM0 ⟨⟨hn, hn10⟩, hm, ht1, ht2, ht3⟩ hT) cw_X4_93 hw rfl rfl ⟨by decide, by decide⟩ ⟨by decide, by decide⟩ (Nat.le_of_ble_eq_true rfl) ?_
  rintro _ _ ⟨rfl, p, rfl⟩
  refine q_iret dX4_shows_129 ?_
  refine ⟨congrArg (fun x => some (Value.int x)) ?_, p, rfl⟩
  unfold shF shK
  rw [← r0]
  try rw [miF_le]
  try rw [c3, ← e1]
  first | (rw [if_pos hs_20_1] <;> rfl) | (rw [if_neg hs_20_1, if_pos hs_20_2] <;> rfl) | (rw [if_neg hs_20_1, if_neg hs_20_2, if_pos hs_20_3] <;> rfl) | (rw [if_neg hs_20_1, if_neg hs_20_2, if_neg hs_20_3, if_pos hs_20_4] <;> rfl) | (rw [if_neg hs_20_1, if_neg hs_20_2, if_neg hs_20_3, if_neg hs_20_4, if_pos hs_20_5] <;> rfl) | (rw [if_neg hs_20_1, if_neg hs_20_2, if_neg hs_20_3, if_neg hs_20_4, if_neg hs_20_5] <;> rfl)
set_option maxRecDepth 100000 in
set_option maxHeartbeats 4000000 in
theorem c4_sinks {g : GT} (M : TM) (w : Nat) (hw : w < 3) (x : Int32) (i j : Nat) (hx : x = nI i) (hi : i < 10) (hj : j < 10) (s : SS) (hC : RC M w s) (hM : RM M w s i j) (hm : WFm s) : Cn g yX4_sinks cX4_sinks 3 (some .int) 0 [.ref (gad g 4 w), .int x] M (Rt (.int (siF s j)) M) := by
  refine Cn.ofTR (by decide +kernel) (Nat.le_of_ble_eq_true rfl) ?_
  have hC0 := hC
  have hM0 := hM
  obtain ⟨rc, ⟨rr0, rr1, rr2⟩, ⟨rk0, rk1, rk2⟩, rx⟩ := hC
  obtain ⟨r0, r1, r2, r3, r4⟩ := hM
  obtain ⟨e1, e2⟩ := rg_nat (hm j hj).2.2.2.1 (n := 5) rfl
  obtain ⟨c1, c2, c3⟩ := rc (mk s j 3).toNatClampNeg (by omega)
  have hcl : M 24 w i = nI (mk s j 3).toNatClampNeg := r3.trans e1
  have hc6 : (mk s j 3).toNatClampNeg < 6 := by omega
  refine q_aload_n 1 dX4_sinks_0 rfl rfl ?_
  refine q_getR 4 dX4_sinks_1 rfl fl_X4_9 hw rfl rfl ?_
  refine q_aload_n 5 dX4_sinks_4 rfl rfl ?_
  refine q_getR 8 dX4_sinks_5 rfl fl_X4_30 hw rfl rfl ?_
  refine q_iload_n 9 dX4_sinks_8 rfl rfl ?_
  refine q_iald 10 dX4_sinks_9 rfl (by decide) hw hx hi ?_
  refine q_iald 11 dX4_sinks_10 rfl (by decide) hw hcl hc6 ?_
  refine q_bipush (v := 30) 13 dX4_sinks_11 rfl rfl ?_
  refine q_icmp_ge 20 16 dX4_sinks_13 rfl rfl (fun h_13 => ?_) (fun h_13 => ?_)
  · skip
    rw [c1] at h_13
    refine q_iconst (v := 0) 21 dX4_sinks_20 rfl rfl ?_
    refine q_istore_n 22 dX4_sinks_21 rfl (by decide) rfl ?_
    refine q_aload_n 23 dX4_sinks_22 rfl rfl ?_
    refine q_getR 26 dX4_sinks_23 rfl fl_X4_21 hw rfl rfl ?_
    refine q_iload_n 27 dX4_sinks_26 rfl rfl ?_
    refine q_iald 28 dX4_sinks_27 rfl (by decide) hw hx hi ?_
    by_cases hs_28_2 : (M 21 w i) = (2 : Int32)
    · skip
      refine q_tab 62 dX4_sinks_28 rfl (sw_eq hs_28_2 rfl) rfl ?_
      refine q_iconst (v := 1) 63 dX4_sinks_62 rfl rfl ?_
      refine q_iload_n 64 dX4_sinks_63 rfl rfl ?_
      refine q_iadd 65 dX4_sinks_64 rfl ?_
      refine q_iret dX4_sinks_65 ?_
      refine ⟨congrArg (fun x => some (Value.int x)) ?_, rfl⟩
      unfold siF siK
      rw [← r0]
      first | (have hq := Int32.not_lt.mpr h_13; rw [if_neg hq]) | (have hq := Int32.not_le.mp h_13; rw [if_pos hq])
      first | (rw [if_pos hs_28_2] <;> rfl) | (rw [if_neg hs_28_2, if_pos hs_28_3] <;> rfl) | (rw [if_neg hs_28_2, if_neg hs_28_3, if_pos hs_28_4] <;> rfl) | (rw [if_neg hs_28_2, if_neg hs_28_3, if_neg hs_28_4, if_pos hs_28_5] <;> rfl) | (rw [if_neg hs_28_2, if_neg hs_28_3, if_neg hs_28_4, if_neg hs_28_5] <;> rfl)
    by_cases hs_28_3 : (M 21 w i) = (3 : Int32)
    · skip
      refine q_tab 60 dX4_sinks_28 rfl (sw_eq hs_28_3 rfl) rfl ?_
      refine q_iconst (v := 2) 61 dX4_sinks_60 rfl rfl ?_
      refine q_iret dX4_sinks_61 ?_
      refine ⟨congrArg (fun x => some (Value.int x)) ?_, rfl⟩
      unfold siF siK
      rw [← r0]
      first | (have hq := Int32.not_lt.mpr h_13; rw [if_neg hq]) | (have hq := Int32.not_le.mp h_13; rw [if_pos hq])
      first | (rw [if_pos hs_28_2] <;> rfl) | (rw [if_neg hs_28_2, if_pos hs_28_3] <;> rfl) | (rw [if_neg hs_28_2, if_neg hs_28_3, if_pos hs_28_4] <;> rfl) | (rw [if_neg hs_28_2, if_neg hs_28_3, if_neg hs_28_4, if_pos hs_28_5] <;> rfl) | (rw [if_neg hs_28_2, if_neg hs_28_3, if_neg hs_28_4, if_neg hs_28_5] <;> rfl)
    by_cases hs_28_4 : (M 21 w i) = (4 : Int32)
    · skip
      refine q_tab 66 dX4_sinks_28 rfl (sw_eq hs_28_4 rfl) rfl ?_
      refine q_iconst (v := 1) 67 dX4_sinks_66 rfl rfl ?_
      refine q_iload_n 68 dX4_sinks_67 rfl rfl ?_
      refine q_iadd 69 dX4_sinks_68 rfl ?_
      refine q_iconst (v := 1) 70 dX4_sinks_69 rfl rfl ?_
      refine q_iadd 71 dX4_sinks_70 rfl ?_
      refine q_iret dX4_sinks_71 ?_
      refine ⟨congrArg (fun x => some (Value.int x)) ?_, rfl⟩
      unfold siF siK
      rw [← r0]
      first | (have hq := Int32.not_lt.mpr h_13; rw [if_neg hq]) | (have hq := Int32.not_le.mp h_13; rw [if_pos hq])
      first | (rw [if_pos hs_28_2] <;> rfl) | (rw [if_neg hs_28_2, if_pos hs_28_3] <;> rfl) | (rw [if_neg hs_28_2, if_neg hs_28_3, if_pos hs_28_4] <;> rfl) | (rw [if_neg hs_28_2, if_neg hs_28_3, if_neg hs_28_4, if_pos hs_28_5] <;> rfl) | (rw [if_neg hs_28_2, if_neg hs_28_3, if_neg hs_28_4, if_neg hs_28_5] <;> rfl)
    by_cases hs_28_5 : (M 21 w i) = (5 : Int32)
    · skip
      refine q_tab 72 dX4_sinks_28 rfl (sw_eq hs_28_5 rfl) rfl ?_
      refine q_iconst (v := 0) 73 dX4_sinks_72 rfl rfl ?_
      refine q_iret dX4_sinks_73 ?_
      refine ⟨congrArg (fun x => some (Value.int x)) ?_, rfl⟩
      unfold siF siK
      rw [← r0]
      first | (have hq := Int32.not_lt.mpr h_13; rw [if_neg hq]) | (have hq := Int32.not_le.mp h_13; rw [if_pos hq])
      first | (rw [if_pos hs_28_2] <;> rfl) | (rw [if_neg hs_28_2, if_pos hs_28_3] <;> rfl) | (rw [if_neg hs_28_2, if_neg hs_28_3, if_pos hs_28_4] <;> rfl) | (rw [if_neg hs_28_2, if_neg hs_28_3, if_neg hs_28_4, if_pos hs_28_5] <;> rfl) | (rw [if_neg hs_28_2, if_neg hs_28_3, if_neg hs_28_4, if_neg hs_28_5] <;> rfl)
    refine q_tab 74 dX4_sinks_28 rfl (sw_def [2, 3, 4, 5] (by decide) rfl (by simp only [List.mem_cons, List.not_mem_nil, or_false, not_or]; exact ⟨lv_neT hs_28_2 rfl, lv_neT hs_28_3 rfl, lv_neT hs_28_4 rfl, lv_neT hs_28_5 rfl⟩)) rfl ?_
    refine q_iconst (v := 1) 75 dX4_sinks_74 rfl rfl ?_
    refine q_iret dX4_sinks_75 ?_
    refine ⟨congrArg (fun x => some (Value.int x)) ?_, rfl⟩
    unfold siF siK
    rw [← r0]
    first | (have hq := Int32.not_lt.mpr h_13; rw [if_neg hq]) | (have hq := Int32.not_le.mp h_13; rw [if_pos hq])
    first | (rw [if_pos hs_28_2] <;> rfl) | (rw [if_neg hs_28_2, if_pos hs_28_3] <;> rfl) | (rw [if_neg hs_28_2, if_neg hs_28_3, if_pos hs_28_4] <;> rfl) | (rw [if_neg hs_28_2, if_neg hs_28_3, if_neg hs_28_4, if_pos hs_28_5] <;> rfl) | (rw [if_neg hs_28_2, if_neg hs_28_3, if_neg hs_28_4, if_neg hs_28_5] <;> rfl)
  · skip
    rw [c1] at h_13
    refine q_iconst (v := 1) 17 dX4_sinks_16 rfl rfl ?_
    refine q_goto 21 dX4_sinks_17 rfl ?_
    refine q_istore_n 22 dX4_sinks_21 rfl (by decide) rfl ?_
    refine q_aload_n 23 dX4_sinks_22 rfl rfl ?_
    refine q_getR 26 dX4_sinks_23 rfl fl_X4_21 hw rfl rfl ?_
    refine q_iload_n 27 dX4_sinks_26 rfl rfl ?_
    refine q_iald 28 dX4_sinks_27 rfl (by decide) hw hx hi ?_
    by_cases hs_28_2 : (M 21 w i) = (2 : Int32)
    · skip
      refine q_tab 62 dX4_sinks_28 rfl (sw_eq hs_28_2 rfl) rfl ?_
      refine q_iconst (v := 1) 63 dX4_sinks_62 rfl rfl ?_
      refine q_iload_n 64 dX4_sinks_63 rfl rfl ?_
      refine q_iadd 65 dX4_sinks_64 rfl ?_
      refine q_iret dX4_sinks_65 ?_
      refine ⟨congrArg (fun x => some (Value.int x)) ?_, rfl⟩
      unfold siF siK
      rw [← r0]
      first | (have hq := Int32.not_lt.mpr h_13; rw [if_neg hq]) | (have hq := Int32.not_le.mp h_13; rw [if_pos hq])
      first | (rw [if_pos hs_28_2] <;> rfl) | (rw [if_neg hs_28_2, if_pos hs_28_3] <;> rfl) | (rw [if_neg hs_28_2, if_neg hs_28_3, if_pos hs_28_4] <;> rfl) | (rw [if_neg hs_28_2, if_neg hs_28_3, if_neg hs_28_4, if_pos hs_28_5] <;> rfl) | (rw [if_neg hs_28_2, if_neg hs_28_3, if_neg hs_28_4, if_neg hs_28_5] <;> rfl)
    by_cases hs_28_3 : (M 21 w i) = (3 : Int32)
    · skip
      refine q_tab 60 dX4_sinks_28 rfl (sw_eq hs_28_3 rfl) rfl ?_
      refine q_iconst (v := 2) 61 dX4_sinks_60 rfl rfl ?_
      refine q_iret dX4_sinks_61 ?_
      refine ⟨congrArg (fun x => some (Value.int x)) ?_, rfl⟩
      unfold siF siK
      rw [← r0]
      first | (have hq := Int32.not_lt.mpr h_13; rw [if_neg hq]) | (have hq := Int32.not_le.mp h_13; rw [if_pos hq])
      first | (rw [if_pos hs_28_2] <;> rfl) | (rw [if_neg hs_28_2, if_pos hs_28_3] <;> rfl) | (rw [if_neg hs_28_2, if_neg hs_28_3, if_pos hs_28_4] <;> rfl) | (rw [if_neg hs_28_2, if_neg hs_28_3, if_neg hs_28_4, if_pos hs_28_5] <;> rfl) | (rw [if_neg hs_28_2, if_neg hs_28_3, if_neg hs_28_4, if_neg hs_28_5] <;> rfl)
    by_cases hs_28_4 : (M 21 w i) = (4 : Int32)
    · skip
      refine q_tab 66 dX4_sinks_28 rfl (sw_eq hs_28_4 rfl) rfl ?_
      refine q_iconst (v := 1) 67 dX4_sinks_66 rfl rfl ?_
      refine q_iload_n 68 dX4_sinks_67 rfl rfl ?_
      refine q_iadd 69 dX4_sinks_68 rfl ?_
      refine q_iconst (v := 1) 70 dX4_sinks_69 rfl rfl ?_
      refine q_iadd 71 dX4_sinks_70 rfl ?_
      refine q_iret dX4_sinks_71 ?_
      refine ⟨congrArg (fun x => some (Value.int x)) ?_, rfl⟩
      unfold siF siK
      rw [← r0]
      first | (have hq := Int32.not_lt.mpr h_13; rw [if_neg hq]) | (have hq := Int32.not_le.mp h_13; rw [if_pos hq])
      first | (rw [if_pos hs_28_2] <;> rfl) | (rw [if_neg hs_28_2, if_pos hs_28_3] <;> rfl) | (rw [if_neg hs_28_2, if_neg hs_28_3, if_pos hs_28_4] <;> rfl) | (rw [if_neg hs_28_2, if_neg hs_28_3, if_neg hs_28_4, if_pos hs_28_5] <;> rfl) | (rw [if_neg hs_28_2, if_neg hs_28_3, if_neg hs_28_4, if_neg hs_28_5] <;> rfl)
    by_cases hs_28_5 : (M 21 w i) = (5 : Int32)
    · skip
      refine q_tab 72 dX4_sinks_28 rfl (sw_eq hs_28_5 rfl) rfl ?_
      refine q_iconst (v := 0) 73 dX4_sinks_72 rfl rfl ?_
      refine q_iret dX4_sinks_73 ?_
      refine ⟨congrArg (fun x => some (Value.int x)) ?_, rfl⟩
      unfold siF siK
      rw [← r0]
      first | (have hq := Int32.not_lt.mpr h_13; rw [if_neg hq]) | (have hq := Int32.not_le.mp h_13; rw [if_pos hq])
      first | (rw [if_pos hs_28_2] <;> rfl) | (rw [if_neg hs_28_2, if_pos hs_28_3] <;> rfl) | (rw [if_neg hs_28_2, if_neg hs_28_3, if_pos hs_28_4] <;> rfl) | (rw [if_neg hs_28_2, if_neg hs_28_3, if_neg hs_28_4, if_pos hs_28_5] <;> rfl) | (rw [if_neg hs_28_2, if_neg hs_28_3, if_neg hs_28_4, if_neg hs_28_5] <;> rfl)
    refine q_tab 74 dX4_sinks_28 rfl (sw_def [2, 3, 4, 5] (by decide) rfl (by simp only [List.mem_cons, List.not_mem_nil, or_false, not_or]; exact ⟨lv_neT hs_28_2 rfl, lv_neT hs_28_3 rfl, lv_neT hs_28_4 rfl, lv_neT hs_28_5 rfl⟩)) rfl ?_
    refine q_iconst (v := 1) 75 dX4_sinks_74 rfl rfl ?_
    refine q_iret dX4_sinks_75 ?_
    refine ⟨congrArg (fun x => some (Value.int x)) ?_, rfl⟩
    unfold siF siK
    rw [← r0]
    first | (have hq := Int32.not_lt.mpr h_13; rw [if_neg hq]) | (have hq := Int32.not_le.mp h_13; rw [if_pos hq])
    first | (rw [if_pos hs_28_2] <;> rfl) | (rw [if_neg hs_28_2, if_pos hs_28_3] <;> rfl) | (rw [if_neg hs_28_2, if_neg hs_28_3, if_pos hs_28_4] <;> rfl) | (rw [if_neg hs_28_2, if_neg hs_28_3, if_neg hs_28_4, if_pos hs_28_5] <;> rfl) | (rw [if_neg hs_28_2, if_neg hs_28_3, if_neg hs_28_4, if_neg hs_28_5] <;> rfl)
set_option maxRecDepth 100000 in
set_option maxHeartbeats 4000000 in
theorem c4_fades {g : GT} (M : TM) (w : Nat) (hw : w < 3) (x : Int32) (i : Nat) (hx : x = nI i) (hi : i < 10) : Cn g yX4_fades cX4_fades 2 (some .int) 0 [.ref (gad g 4 w), .int x] M (Rt (.int (faF (M 21 w i))) M) := by
  refine Cn.ofTR (by decide +kernel) (Nat.le_of_ble_eq_true rfl) ?_
  refine q_aload_n 1 dX4_fades_0 rfl rfl ?_
  refine q_getR 4 dX4_fades_1 rfl fl_X4_21 hw rfl rfl ?_
  refine q_iload_n 5 dX4_fades_4 rfl rfl ?_
  refine q_iald 6 dX4_fades_5 rfl (by decide) hw hx hi ?_
  by_cases hs_6_2 : (M 21 w i) = (2 : Int32)
  · skip
    refine q_tab 38 dX4_fades_6 rfl (sw_eq hs_6_2 rfl) rfl ?_
    refine q_iconst (v := 0) 39 dX4_fades_38 rfl rfl ?_
    refine q_iret dX4_fades_39 ?_
    refine ⟨congrArg (fun x => some (Value.int x)) ?_, rfl⟩
    unfold faF
    first | (rw [if_pos hs_6_2] <;> rfl) | (rw [if_neg hs_6_2, if_pos hs_6_3] <;> rfl) | (rw [if_neg hs_6_2, if_neg hs_6_3, if_pos hs_6_4] <;> rfl) | (rw [if_neg hs_6_2, if_neg hs_6_3, if_neg hs_6_4, if_pos hs_6_5] <;> rfl) | (rw [if_neg hs_6_2, if_neg hs_6_3, if_neg hs_6_4, if_neg hs_6_5] <;> rfl)
  by_cases hs_6_3 : (M 21 w i) = (3 : Int32)
  · skip
    refine q_tab 36 dX4_fades_6 rfl (sw_eq hs_6_3 rfl) rfl ?_
    refine q_iconst (v := 3) 37 dX4_fades_36 rfl rfl ?_
    refine q_iret dX4_fades_37 ?_
    refine ⟨congrArg (fun x => some (Value.int x)) ?_, rfl⟩
    unfold faF
    first | (rw [if_pos hs_6_2] <;> rfl) | (rw [if_neg hs_6_2, if_pos hs_6_3] <;> rfl) | (rw [if_neg hs_6_2, if_neg hs_6_3, if_pos hs_6_4] <;> rfl) | (rw [if_neg hs_6_2, if_neg hs_6_3, if_neg hs_6_4, if_pos hs_6_5] <;> rfl) | (rw [if_neg hs_6_2, if_neg hs_6_3, if_neg hs_6_4, if_neg hs_6_5] <;> rfl)
  by_cases hs_6_4 : (M 21 w i) = (4 : Int32)
  · skip
    refine q_tab 40 dX4_fades_6 rfl (sw_eq hs_6_4 rfl) rfl ?_
    refine q_iconst (v := 3) 41 dX4_fades_40 rfl rfl ?_
    refine q_iret dX4_fades_41 ?_
    refine ⟨congrArg (fun x => some (Value.int x)) ?_, rfl⟩
    unfold faF
    first | (rw [if_pos hs_6_2] <;> rfl) | (rw [if_neg hs_6_2, if_pos hs_6_3] <;> rfl) | (rw [if_neg hs_6_2, if_neg hs_6_3, if_pos hs_6_4] <;> rfl) | (rw [if_neg hs_6_2, if_neg hs_6_3, if_neg hs_6_4, if_pos hs_6_5] <;> rfl) | (rw [if_neg hs_6_2, if_neg hs_6_3, if_neg hs_6_4, if_neg hs_6_5] <;> rfl)
  by_cases hs_6_5 : (M 21 w i) = (5 : Int32)
  · skip
    refine q_tab 42 dX4_fades_6 rfl (sw_eq hs_6_5 rfl) rfl ?_
    refine q_iconst (v := 5) 43 dX4_fades_42 rfl rfl ?_
    refine q_iret dX4_fades_43 ?_
    refine ⟨congrArg (fun x => some (Value.int x)) ?_, rfl⟩
    unfold faF
    first | (rw [if_pos hs_6_2] <;> rfl) | (rw [if_neg hs_6_2, if_pos hs_6_3] <;> rfl) | (rw [if_neg hs_6_2, if_neg hs_6_3, if_pos hs_6_4] <;> rfl) | (rw [if_neg hs_6_2, if_neg hs_6_3, if_neg hs_6_4, if_pos hs_6_5] <;> rfl) | (rw [if_neg hs_6_2, if_neg hs_6_3, if_neg hs_6_4, if_neg hs_6_5] <;> rfl)
  refine q_tab 44 dX4_fades_6 rfl (sw_def [2, 3, 4, 5] (by decide) rfl (by simp only [List.mem_cons, List.not_mem_nil, or_false, not_or]; exact ⟨lv_neT hs_6_2 rfl, lv_neT hs_6_3 rfl, lv_neT hs_6_4 rfl, lv_neT hs_6_5 rfl⟩)) rfl ?_
  refine q_iconst (v := 1) 45 dX4_fades_44 rfl rfl ?_
  refine q_iret dX4_fades_45 ?_
  refine ⟨congrArg (fun x => some (Value.int x)) ?_, rfl⟩
  unfold faF
  first | (rw [if_pos hs_6_2] <;> rfl) | (rw [if_neg hs_6_2, if_pos hs_6_3] <;> rfl) | (rw [if_neg hs_6_2, if_neg hs_6_3, if_pos hs_6_4] <;> rfl) | (rw [if_neg hs_6_2, if_neg hs_6_3, if_neg hs_6_4, if_pos hs_6_5] <;> rfl) | (rw [if_neg hs_6_2, if_neg hs_6_3, if_neg hs_6_4, if_neg hs_6_5] <;> rfl)
set_option maxRecDepth 100000 in
set_option maxHeartbeats 4000000 in
theorem c4_isLegible {g : GT} (M : TM) (w : Nat) (hw : w < 3) (x : Int32) (i j : Nat) (hx : x = nI i) (hi : i < 10) (hj : j < 10) (s : SS) (hC : RC M w s) (hM : RM M w s i j) (hW : Wm s) (hT : RT M s) : Cn g yX4_isLegible cX4_isLegible 2 (some .boolean) 4 [.ref (gad g 4 w), .int x] M (Q17 (.int (bI (lgB s j = true))) M) := by
  refine Cn.ofTR (by decide +kernel) (Nat.le_of_ble_eq_true rfl) ?_
  have rr1 : M 26 w 1 = s 4 := hC.2.1.2.1
  refine q_aload_n 1 dX4_isLegible_0 rfl rfl ?_
  refine q_iload_n 2 dX4_isLegible_1 rfl rfl ?_
  refine q_callV 5 dX4_isLegible_2 rfl (c4_shows _ w hw x i j hx hi hj s hC hM hW hT) cw_X4_105 hw rfl rfl ⟨by decide, by decide⟩ ⟨by decide, by decide⟩ (Nat.le_of_ble_eq_true rfl) ?_
  rintro _ _ ⟨rfl, p, rfl⟩
  refine q_aload_n 6 dX4_isLegible_5 rfl rfl ?_
  refine q_getR 9 dX4_isLegible_6 rfl fl_X4_36 hw rfl rfl ?_
  refine q_iconst (v := 1) 10 dX4_isLegible_9 rfl rfl ?_
  refine q_iald 11 dX4_isLegible_10 rfl (by decide) hw rfl (by decide) ?_
  refine q_icmp_lt 18 14 dX4_isLegible_11 rfl rfl (fun h_11 => ?_) (fun h_11 => ?_)
  · skip
    rw [show putA M 17 0 p 26 w 1 = s 4 from rr1] at h_11
    refine q_iconst (v := 0) 19 dX4_isLegible_18 rfl rfl ?_
    refine q_zret dX4_isLegible_19 rfl ?_
    refine ⟨congrArg (fun x => some (Value.int x)) ?_, p, rfl⟩
    first | exact (bI_t (lgB_t (Int32.not_lt.mp h_11))).symm | exact (bI_f (lgB_f (Int32.not_le.mpr h_11))).symm
  · skip
    rw [show putA M 17 0 p 26 w 1 = s 4 from rr1] at h_11
    refine q_iconst (v := 1) 15 dX4_isLegible_14 rfl rfl ?_
    refine q_goto 19 dX4_isLegible_15 rfl ?_
    refine q_zret dX4_isLegible_19 rfl ?_
    refine ⟨congrArg (fun x => some (Value.int x)) ?_, p, rfl⟩
    first | exact (bI_t (lgB_t (Int32.not_lt.mp h_11))).symm | exact (bI_f (lgB_f (Int32.not_le.mpr h_11))).symm
set_option maxRecDepth 100000 in
set_option maxHeartbeats 4000000 in
theorem c4_draw {g : GT} (M : TM) (w : Nat) (hw : w < 3) : Cn g yX4_draw cX4_draw 1 (some .int) 0 [.ref (gad g 4 w)] M (Rt (.int (usF (drF (M 4 w 15)))) (putA M 4 w (upd (M 4 w) 15 (drF (M 4 w 15))))) := by
  refine Cn.ofTR (by decide +kernel) (Nat.le_of_ble_eq_true rfl) ?_
  refine q_aload_n 1 dX4_draw_0 rfl rfl ?_
  refine q_aload_n 2 dX4_draw_1 rfl rfl ?_
  refine q_getI 5 dX4_draw_2 rfl fl_X4_42 hw rfl (by decide) ?_
  refine q_ldc 7 dX4_draw_5 rfl cs_X4_82 ?_
  refine q_imul 8 dX4_draw_7 rfl ?_
  refine q_sipush (v := 12345) 11 dX4_draw_8 rfl rfl ?_
  refine q_iadd 12 dX4_draw_11 rfl ?_
  refine q_putI 15 dX4_draw_12 rfl fl_X4_42 fp_4_15 hw rfl (by decide) rfl rfl ?_
  refine q_aload_n 16 dX4_draw_15 rfl rfl ?_
  refine q_getI 19 dX4_draw_16 rfl fl_X4_42 hw rfl (by decide) ?_
  refine q_bipush (v := 8) 21 dX4_draw_19 rfl rfl ?_
  refine q_iushr 22 dX4_draw_21 rfl ?_
  refine q_iret dX4_draw_22 ?_
  exact ⟨congrArg (fun x => some (Value.int x)) (congrArg usF (by rw [putA_upd]; rfl)), rfl⟩
