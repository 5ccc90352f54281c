/-! THE CLASS: eyes: with eyes above the best unseen all goes as it went -/
theorem upd_cm (f : Nat → Int32) {i j : Nat} (h : i ≠ j) (x y : Int32) : upd (upd f i x) j y = upd (upd f j y) i x := by
  funext k; unfold upd
  by_cases e1 : k = j
  · subst e1; rw [if_pos rfl, if_neg (fun q => h q.symm), if_pos rfl]
  · rw [if_neg e1]
    by_cases e2 : k = i
    · rw [if_pos e2, if_pos e2]
    · rw [if_neg e2, if_neg e2, if_neg e1]
abbrev u4 (s : SS) (a : Int32) : SS := upd s 4 a
theorem u4_u4 (s : SS) (x y : Int32) : u4 (upd s 4 x) y = upd s 4 y := by funext i; show (if i = 4 then y else (if i = 4 then x else s i)) = (if i = 4 then y else s i); by_cases e : i = 4; (rw [if_pos e, if_pos e]); (rw [if_neg e, if_neg e, if_neg e])
theorem u4_n {s : SS} {a : Int32} {i : Nat} (h : i ≠ 4) : u4 s a i = s i := upd_n h
theorem u4_mk {s : SS} {a : Int32} {k w : Nat} : mk (u4 s a) k w = mk s k w := upd_n (by omega)
theorem u4_nN {s : SS} {a : Int32} : nN (u4 s a) = nN s := nN_c (upd_n (by decide))
theorem u4_ct {s : SS} {a c : Int32} : ctF (u4 s a) c = ctF s c := by
  unfold ctF
  rw [u4_nN]
  exact cntB_congr _ (fun k _ => by unfold inC; rw [u4_mk])
theorem u4_sh {s : SS} {a : Int32} {k : Nat} : shF (u4 s a) k = shF s k := by
  have hp : plF (u4 s a) k = plF s k := by
    unfold plF
    rw [laF_c (fun i hi => u4_n (by omega)), nT_c (u4_n (by decide)), u4_mk, u4_mk, u4_mk, u4_ct, u4_n (by omega), vaT_c (fun i hi => u4_n (by omega))]
  unfold shF
  rw [hp, u4_mk, u4_mk, u4_ct]
theorem u4_si {s : SS} {a : Int32} {k : Nat} (h : rg (mk s k 3) 0 5) : siF (u4 s a) k = siF s k := by
  unfold siF; rw [u4_mk, u4_mk, u4_n (by omega)]
theorem u4_si' {s : SS} {a : Int32} {k : Nat} : siF (u4 s a) k = siF s k := by
  unfold siF; rw [u4_mk, u4_mk, u4_n (by omega)]
theorem u4_cd {s : SS} {a : Int32} {c : Nat} : ∀ k, cdp (u4 s a) c k = u4 (cdp s c k) a
  | 0 => rfl
  | k + 1 => by
    rw [cdp_s, cdp_s, u4_cd k, u4_si', u4_mk, u4_mk]
    exact upd_cm _ (by omega) _ _
theorem u4_co {s : SS} {a : Int32} {c : Nat} (h6 : c < 6) : coF (u4 s a) c = u4 (coF s c) a := by
  unfold coF
  rw [u4_n (i := 15 + c) (by omega), u4_n (i := 9 + c) (by omega), u4_n (i := 3) (by omega), u4_nN, show upd (u4 s a) (15 + c) (leF 9999 (s (15 + c) + 1)) = u4 (upd s (15 + c) (leF 9999 (s (15 + c) + 1))) a from upd_cm _ (by omega) _ _, u4_cd]
  exact upd_cm _ (by omega) _ _
theorem u4_cN {s : SS} {a : Int32} : ∀ n, n ≤ 6 → coN (u4 s a) n = u4 (coN s n) a
  | 0, _ => rfl
  | n + 1, h => by rw [coN_s, coN_s, u4_cN n (by omega), u4_co (by omega)]
theorem u4_bd {s : SS} {a : Int32} {q : Nat → Bool} : ∀ k, bdp (u4 s a) q k = u4 (bdp s q k) a
  | 0 => rfl
  | k + 1 => by
    rw [bdp_s, bdp_s, u4_bd k, u4_mk, u4_mk, u4_mk]
    split
    · rw [upd_cm (bdp s q k) (i := 4) (by omega), upd_cm _ (i := 4) (by omega)]
    · rfl
theorem bdp_q {s : SS} {q q' : Nat → Bool} : ∀ n, (∀ k, k < n → q k = q' k) → bdp s q n = bdp s q' n
  | 0, _ => rfl
  | n + 1, h => by rw [bdp_s, bdp_s, bdp_q n (fun k hk => h k (by omega)), h n (by omega)]
theorem u4_br {s : SS} {a c : Int32} (h : ∀ k, k < nN s → brQ (u4 s a) c k = brQ s c k) : brF (u4 s a) c = u4 (brF s c) a := by
  unfold brF brA
  rw [u4_nN, u4_n (i := 6) (by decide), u4_bd, cntB_congr _ h, bdp_q _ h]
  exact upd_cm _ (by decide) _ _
theorem u4_dd {s : SS} {a c n : Int32} : ∀ k, ddp (u4 s a) c n k = u4 (ddp s c n k) a
  | 0 => rfl
  | k + 1 => by
    rw [ddp_s, ddp_s, u4_dd k, u4_mk, u4_mk]
    exact upd_cm _ (by omega) _ _
theorem u4_du {s : SS} {a n : Int32} {c : Nat} (h6 : c < 6) : duF (u4 s a) c n = u4 (duF s c n) a := by
  have h1 : du1 (u4 s a) c n = u4 (du1 s c n) a := by
    unfold du1 duA
    rw [u4_n (i := 15 + c) (by omega), u4_n (i := 9 + c) (by omega), u4_n (i := 3) (by omega), u4_n (i := 7) (by omega), upd_cm s (i := 4) (by omega), upd_cm _ (i := 4) (by omega), upd_cm _ (i := 4) (by omega)]
  unfold duF
  rw [h1, u4_dd, u4_nN]
theorem u4_dr {s : SS} {a : Int32} : drS (u4 s a) = u4 (drS s) a := by
  unfold drS
  rw [u4_n (i := 8) (by decide)]
  exact upd_cm _ (by decide) _ _
theorem u4_dA {s : SS} {a : Int32} : drA (u4 s a) = drA s := by unfold drA; rw [u4_n (i := 8) (by decide)]
theorem u4_sp {s : SS} {a : Int32} : spF (u4 s a) = u4 (spF s) a := by
  obtain ⟨b, b6, eb⟩ := drA_6 (drS s)
  unfold spF
  rw [u4_dA, u4_dr, u4_dr, u4_dr, u4_dA, u4_dA, u4_n (i := 5) (by decide), eb, nI_clamp (by omega), u4_du b6]
  split <;> rfl
theorem u4_go {s : SS} {a : Int32} (h : ∀ k, k < nN (coN s 6) → brQ (u4 (coN s 6) a) (rmF (s 2) 6) k = brQ (coN s 6) (rmF (s 2) 6) k) : goF (u4 s a) = u4 (goF s) a := by
  unfold goF
  rw [u4_n (i := 2) (by decide), u4_cN 6 (Nat.le_refl 6), u4_br h, u4_sp]
  exact upd_cm _ (by decide) _ _
theorem maF_ge (x y : Int32) : x ≤ maF x y ∧ y ≤ maF x y := by
  unfold maF
  split
  · exact ⟨Int32.le_of_lt (by assumption), Int32.le_refl _⟩
  · exact ⟨Int32.le_refl _, Int32.not_lt.mp (by assumption)⟩
theorem maF_lt {x y z : Int32} (h1 : x < z) (h2 : y < z) : maF x y < z := by unfold maF; split <;> assumption
theorem maF_or (x y : Int32) : maF x y = x ∨ maF x y = y := by unfold maF; split; exact Or.inr rfl; exact Or.inl rfl
theorem buF_ge {s : SS} {c : Int32} {f : Nat → Nat} {b : Int32} : ∀ k, b ≤ buF s c f b k ∧ ∀ j, j < k → mk s (f j) 3 = c → ¬ s 4 ≤ shF s (f j) → shF s (f j) ≤ buF s c f b k
  | 0 => ⟨Int32.le_refl _, fun j hj => absurd hj (Nat.not_lt_zero _)⟩
  | k + 1 => by
    obtain ⟨h1, h2⟩ := buF_ge (s := s) (c := c) (f := f) (b := b) k
    have hm : buF s c f b k ≤ buF s c f b (k + 1) := by
      show _ ≤ if _ then (if _ then _ else _) else _
      split
      · split
        · exact Int32.le_refl _
        · exact (maF_ge _ _).1
      · exact Int32.le_refl _
    refine ⟨Int32.le_trans h1 hm, fun j hj hc hn => ?_⟩
    by_cases e : j = k
    · subst e
      show _ ≤ if _ then (if _ then _ else _) else _
      rw [if_pos hc, if_neg hn]; exact (maF_ge _ _).2
    · exact Int32.le_trans (h2 j (by omega) hc hn) hm
theorem buF_lt {s : SS} {c : Int32} {f : Nat → Nat} {b : Int32} (hb : b < s 4) : ∀ k, buF s c f b k < s 4
  | 0 => hb
  | k + 1 => by
    have h := buF_lt (c := c) (f := f) hb k
    show (if _ then (if _ then _ else _) else _) < _
    split
    · split
      · exact h
      · exact maF_lt h (Int32.not_le.mp (by assumption))
    · exact h
theorem brG_4 {s : SS} (h : WK s) (n : Nat) : brG s n 4 = s 4 := ((coN_o (goN_WK h n).1.2 6 (Nat.le_refl 6)).2 4 (Or.inl (by decide))).trans (goN_o h (by omega) n)
theorem brG_N {s : SS} (h : WK s) (n : Nat) : nN (brG s n) = nN s := (coN_o (goN_WK h n).1.2 6 (Nat.le_refl 6)).1.trans (nN_c (goN_o h (by omega) n))
theorem buV_rg {s : SS} (h : WK s) {f : Nat → Nat} {m : Nat} {b : Int32} (hb : b < s 4) : ∀ n, b ≤ buV s f m b n ∧ buV s f m b n < s 4
  | 0 => ⟨Int32.le_refl _, hb⟩
  | n + 1 => by
    obtain ⟨h1, h2⟩ := buV_rg h (f := f) (m := m) hb n
    refine ⟨Int32.le_trans h1 (buF_ge m).1, ?_⟩
    have q := buF_lt (s := brG s n) (c := rmF (goN s n 2) 6) (f := f) (b := buV s f m b n) (by rw [brG_4 h]; exact h2) m
    rw [brG_4 h] at q
    exact q
theorem eyes_same {s : SS} (h : WK s) {a b : Int32} (ha : a ≤ s 4) : ∀ n, buV s (fun i => i) (nN s) b n < a → goN (u4 s a) n = u4 (goN s n) a
  | 0, _ => rfl
  | n + 1, hn => by
    have h1 : buV s (fun i => i) (nN s) b n ≤ buV s (fun i => i) (nN s) b (n + 1) := (buF_ge (nN s)).1
    rw [goN_s, goN_s, eyes_same h ha n (Int32.lt_of_le_of_lt h1 hn)]
    refine u4_go (fun k hk => ?_)
    have hk' : k < nN s := by rw [← brG_N h n]; exact hk
    show (lgB (u4 (brG s n) a) k && inC (u4 (brG s n) a) _ k) = (lgB (brG s n) k && inC (brG s n) _ k)
    unfold lgB inC
    rw [u4_mk, u4_sh, show u4 (brG s n) a 4 = a from upd_s]
    by_cases hc : mk (brG s n) k 3 = rmF (goN s n 2) 6
    · by_cases hl : brG s n 4 ≤ shF (brG s n) k
      · rw [decide_eq_true hl, decide_eq_true (show a ≤ shF (brG s n) k from Int32.le_trans ha (by rw [← brG_4 h n]; exact hl))]
      · have hq := (buF_ge (s := brG s n) (c := rmF (goN s n 2) 6) (f := fun i => i) (b := buV s (fun i => i) (nN s) b n) (nN s)).2 k hk' hc hl
        rw [decide_eq_false hl, decide_eq_false (fun z => Int32.lt_irrefl (Int32.lt_of_lt_of_le (Int32.lt_of_le_of_lt hq hn) z))]
    · rw [decide_eq_false hc, Bool.and_false, Bool.and_false]
theorem m1_T {x : Int32} {t : Nat} (ht : t < 1000) (h1 : -1 ≤ x) (h2 : x < nI t) : ∃ T, T ≤ t ∧ x = nI T - 1 := by
  by_cases h : x = -1
  · exact ⟨0, Nat.zero_le _, h⟩
  · have h0 : ¬ x < 0 := fun q => h (by
      apply Int32.toInt_inj.mp
      rw [Int32.le_iff_toInt_le] at h1
      rw [Int32.lt_iff_toInt_lt] at q
      have e1 : (-1 : Int32).toInt = -1 := rfl
      have e0 : (0 : Int32).toInt = 0 := rfl
      omega)
    obtain ⟨j, hj, rfl⟩ := nI_of h0
    rw [nI_ltI hj (by omega)] at h2
    exact ⟨j + 1, by omega, by rw [ix_pre (by omega)]; rfl⟩
theorem fstD_skip {q : Nat → Bool} {T' : Nat} : ∀ T, T' ≤ T → (∀ e, T' ≤ e → e < T → ¬ q e = true) → fstD q T = fstD q T'
  | 0, h, _ => by rw [Nat.le_zero.mp h]
  | T + 1, h, hq => by
    by_cases e : T' = T + 1
    · rw [e]
    · rw [fstD, if_neg (hq T (by omega) (by omega))]
      exact fstD_skip T (by omega) (fun e h1 h2 => hq e h1 (by omega))
theorem RW_17 {M : TM} {w : Nat} {s : SS} (hR : RW M w s) (x : Int32) : RW (putA M 4 w (upd (M 4 w) 17 x)) w s := by
  obtain ⟨⟨hC, ⟨h11, hm⟩, hM⟩, hs, ht⟩ := hR
  have q : ∀ i, i ≠ 17 → putA M 4 w (upd (M 4 w) 17 x) 4 w i = M 4 w i := fun i hi => by rw [putA_s, upd_n hi]
  refine ⟨⟨⟨hC.1, hC.2.1, hC.2.2.1, ?_⟩, ⟨?_, hm⟩, hM⟩, ?_, ?_⟩
  · rw [q 13 (by decide), q 14 (by decide), q 15 (by decide)]; exact hC.2.2.2
  · rw [q 11 (by decide)]; exact h11
  · rw [q 12 (by decide)]; exact hs
  · rw [q 16 (by decide)]; exact ht
set_option maxRecDepth 100000 in
set_option maxHeartbeats 4000000 in
theorem l5_eyes {g : GT} (M : TM) (x v : Int32) (n : Nat) (hx : x = nI n) (h60 : n ≤ 60) (s : SS) (hW : WF 9999 s) (hR : RW M 0 s) (hT : RT M s) : ∀ (j : Nat) (k T : Nat) (N : TM) (y z : Int32), Kp 2 M N → 101 - k < j → k ≤ 100 → T + k ≤ 100 → y = nI T - 1 → z = nI k → TR g (rmD 6) RX5 cX5_eyes 5 (some .int) 0 0 (Zm g (PT (fstD (fun e => decide (v ≤ goN (upd s 4 (nI e)) n 6)) T) M)) 29 [some (.ref (gad g 5 0)), some (.int x), some (.int v), some (.int y), some (.int z)] [] N := by
  intro j
  induction j with
  | zero => intro k T N y z hK hj hk hTk hy hz; exact absurd hj (by omega)
  | succ j ih =>
    intro k T N y z hK hj hk hTk hy hz
    subst hz
    have h10 := hW.1.2
    have hRN : RW N 0 s := RW_kp hR hK (by decide)
    refine q_iload 31 dX5_eyes_29 rfl rfl ?_
    refine q_bipush (v := 99) 33 dX5_eyes_31 rfl rfl ?_
    refine q_icmp_gt 104 36 dX5_eyes_33 rfl rfl (fun h_33 => ?_) (fun h_33 => ?_)
    · skip
      rw [show (99 : Int32) = nI 99 from rfl, nI_ltI (by omega) (by omega)] at h_33
      refine q_ldc 106 dX5_eyes_104 rfl cs_X5_161 ?_
      refine q_iret dX5_eyes_106 ?_
      first | (have hq := hT0; subst hq; exact ⟨rfl, hK⟩) | (have e : T = 0 := (by omega); subst e; exact ⟨rfl, hK⟩)
    · skip
      rw [show (99 : Int32) = nI 99 from rfl, nI_ltI (by omega) (by omega)] at h_33
      refine q_iload_n 37 dX5_eyes_36 rfl rfl ?_
      refine q_if_lt 104 40 dX5_eyes_37 rfl rfl (fun h_37 => ?_) (fun h_37 => ?_)
      · skip
        have hT0 : T = 0 := by
          by_cases e : T = 0
          · exact e
          · exact absurd h_37 (by rw [hy, ix_pre (by omega)]; exact nI_pos (by omega))
        refine q_ldc 106 dX5_eyes_104 rfl cs_X5_161 ?_
        refine q_iret dX5_eyes_106 ?_
        first | (have hq := hT0; subst hq; exact ⟨rfl, hK⟩) | (have e : T = 0 := (by omega); subst e; exact ⟨rfl, hK⟩)
      · skip
        obtain ⟨t, rfl⟩ : ∃ t, T = t + 1 := ⟨T - 1, by have : T ≠ 0 := fun e => h_37 (by rw [hy, e]; decide); omega⟩
        have hyt : y = nI t := by rw [hy, ix_pre (by omega)]; rfl
        have hWt := (WF_eyes hW (v := t) (by omega)).k
        rw [hyt]
        refine q_aload_n 41 dX5_eyes_40 rfl rfl ?_
        refine q_getR 44 dX5_eyes_41 rfl fl_X5_28 (by decide) rfl rfl ?_
        refine q_aload_n 45 dX5_eyes_44 rfl rfl ?_
        refine q_getR 48 dX5_eyes_45 rfl fl_X5_21 (by decide) rfl rfl ?_
        refine q_callV 51 dX5_eyes_48 rfl (c4_become _ 2 0 (by decide) (by decide) (by decide)) cw_X5_195 (by decide) rfl rfl ⟨by decide, by decide⟩ ⟨by decide, by decide⟩ (Nat.le_of_ble_eq_true rfl) ?_
        rintro _ M2 ⟨rfl, hB⟩
        have hR2 := hB.rw' hRN
        have hR3 : RW (putA M2 26 2 (upd (M2 26 2) 1 (nI t))) 2 (upd s 4 (nI t)) := RW_rule hR2 h10 (c := 1) (by decide) (nI t)
        have hR4 := RW_17 hR3 (-1)
        have hK4 := (hK.tr hB.1).tr ((Kp.put (Kp.put Kp.rf (by omega)) (by omega)) : Kp 2 M2 (putA (putA M2 26 2 (upd (M2 26 2) 1 (nI t))) 4 2 (upd ((putA M2 26 2 (upd (M2 26 2) 1 (nI t))) 4 2) 17 (-1))))
        refine q_aload_n 52 dX5_eyes_51 rfl rfl ?_
        refine q_getR 55 dX5_eyes_52 rfl fl_X5_28 (by decide) rfl rfl ?_
        refine q_getR 58 dX5_eyes_55 rfl fl_X5_146 (by decide) rfl rfl ?_
        refine q_iconst (v := 1) 59 dX5_eyes_58 rfl rfl ?_
        refine q_iload_n 60 dX5_eyes_59 rfl rfl ?_
        refine q_iast 61 dX5_eyes_60 rfl (by decide) (by decide) rfl (by decide) ?_
        refine q_aload_n 62 dX5_eyes_61 rfl rfl ?_
        refine q_getR 65 dX5_eyes_62 rfl fl_X5_28 (by decide) rfl rfl ?_
        refine q_iconst (v := (-1)) 66 dX5_eyes_65 rfl rfl ?_
        refine q_putI 69 dX5_eyes_66 rfl fl_X5_209 fp_4_17 (by decide) rfl (by decide) rfl rfl ?_
        refine q_aload_n 70 dX5_eyes_69 rfl rfl ?_
        refine q_getR 73 dX5_eyes_70 rfl fl_X5_28 (by decide) rfl rfl ?_
        refine q_iload_n 74 dX5_eyes_73 rfl rfl ?_
        refine q_callV 77 dX5_eyes_74 rfl (c4_pass _ 2 (by decide) _ _ (fun i => i) hR4.1 hWt (RT_to (hT.kp hK4) (upd_n (by omega)) (fun i hi => upd_n (by omega))) x n hx (by omega)) cw_X5_182 (by decide) rfl rfl ⟨by decide, by decide⟩ ⟨by decide, by decide⟩ (Nat.le_of_ble_eq_true rfl) ?_
        rintro _ M5 ⟨rfl, q⟩
        have hR5 := RW_goN hR4 hWt q
        refine q_aload_n 78 dX5_eyes_77 rfl rfl ?_
        refine q_getR 81 dX5_eyes_78 rfl fl_X5_28 (by decide) rfl rfl ?_
        refine q_getI 84 dX5_eyes_81 rfl fl_X5_176 (by decide) rfl (by decide) ?_
        refine q_iload_n 85 dX5_eyes_84 rfl rfl ?_
        refine q_icmp_lt 90 88 dX5_eyes_85 rfl rfl (fun h_85 => ?_) (fun h_85 => ?_)
        · skip
          rw [hR5.2.1] at h_85
          refine q_aload_n 91 dX5_eyes_90 rfl rfl ?_
          refine q_getR 94 dX5_eyes_91 rfl fl_X5_28 (by decide) rfl rfl ?_
          refine q_getI 97 dX5_eyes_94 rfl fl_X5_209 (by decide) rfl (by decide) ?_
          refine q_istore_n 98 dX5_eyes_97 rfl (by decide) rfl ?_
          refine q_iinc 101 dX5_eyes_98 rfl rfl (by decide) rfl (nI_1 k) ?_
          refine q_goto 29 dX5_eyes_101 rfl ?_
          have e17 := q.2.2.2.2
          rw [show (putA (putA M2 26 2 (upd (M2 26 2) 1 (nI t))) 4 2 (upd ((putA M2 26 2 (upd (M2 26 2) 1 (nI t))) 4 2) 17 (-1))) 4 2 17 = -1 from by rw [putA_upd]] at e17
          obtain ⟨b1, b2⟩ := buV_rg hWt (f := fun i => i) (m := nN (upd s 4 (nI t))) (b := -1) (show (-1 : Int32) < upd s 4 (nI t) 4 by rw [upd_s]; exact Int32.lt_of_lt_of_le (by decide) (nI_pos' (by omega))) n
          rw [show upd s 4 (nI t) 4 = nI t from upd_s] at b2
          obtain ⟨T2, l2, e2⟩ := m1_T (by omega) b1 b2
          rw [show fstD (fun e => decide (v ≤ goN (upd s 4 (nI e)) n 6)) (t + 1) = fstD (fun e => decide (v ≤ goN (upd s 4 (nI e)) n 6)) T2 from fstD_skip (t + 1) (by omega) (fun e h1 h2 => ?_)]
          · exact q_fg (ih (k + 1) T2 _ _ _ (hK4.tr q.1) (by omega) (by omega) (by omega) (e17.trans e2) rfl) ⟨rfl, rfl, rfl, rfl, rfl, trivial⟩
          · intro hq
            have hq := of_decide_eq_true hq
            by_cases et : e = t
            · subst et; exact absurd h_85 (Int32.not_lt.mpr hq)
            · have hs := eyes_same hWt (a := nI e) (b := -1) (by rw [show upd s 4 (nI t) 4 = nI t from upd_s]; exact nI_le (by omega) (by omega)) n (by rw [e2]; exact (by by_cases z0 : T2 = 0; (rw [z0]; exact Int32.lt_of_lt_of_le (by decide) (nI_pos' (by omega))); (rw [ix_pre (by omega), nI_ltI (by omega) (by omega)]; omega)))
              rw [u4_u4] at hs
              rw [hs, show u4 (goN (upd s 4 (nI t)) n) (nI e) 6 = goN (upd s 4 (nI t)) n 6 from u4_n (by decide)] at hq
              exact absurd h_85 (Int32.not_lt.mpr hq)
        · skip
          rw [hR5.2.1] at h_85
          refine q_iload_n 89 dX5_eyes_88 rfl rfl ?_
          refine q_iret dX5_eyes_89 ?_
          refine ⟨congrArg (fun x => some (Value.int x)) ?_, hK4.tr q.1⟩
          rw [fstD, if_pos (decide_eq_true (Int32.not_lt.mp h_85))]
set_option maxRecDepth 100000 in
set_option maxHeartbeats 4000000 in
theorem c5_eyes {g : GT} (M : TM) (n v : Int32) (s : SS) (hR : RW M 0 s) (hW : WF 9999 s) (hT : RT M s) : Cn g yX5_eyes cX5_eyes 5 (some .int) 6 [.ref (gad g 5 0), .int n, .int v] M (PT (aEyes s n v) M) := by
  refine Cn.ofTR (by decide +kernel) (Nat.le_of_ble_eq_true rfl) ?_
  refine q_iload_n 1 dX5_eyes_0 rfl rfl ?_
  refine q_iconst (v := 0) 2 dX5_eyes_1 rfl rfl ?_
  refine q_bipush (v := 60) 4 dX5_eyes_2 rfl rfl ?_
  refine q_callSt 7 dX5_eyes_4 rfl (c5_within _ _ _ _) cw_X5_66 rfl rfl ⟨by decide, by decide⟩ ⟨by decide, by decide⟩ (Nat.le_of_ble_eq_true rfl) ?_
  refine q_if_eq 20 10 dX5_eyes_7 rfl rfl (fun h_7 => ?_) (fun h_7 => ?_)
  · skip
    simp only [bI_0, Classical.not_not] at h_7
    refine q_ldc 22 dX5_eyes_20 rfl cs_X5_73 ?_
    refine q_iret dX5_eyes_22 ?_
    exact ⟨congrArg (fun x => some (Value.int x)) (by unfold aEyes; rw [if_neg (fun q => by first | exact h_7 q.1 | exact h_17 q.2)]), Kp.rf⟩
  · skip
    simp only [bI_0, Classical.not_not] at h_7
    obtain ⟨en, ln⟩ := rg_tn h_7 (n := 60) rfl
    refine q_iload_n 11 dX5_eyes_10 rfl rfl ?_
    refine q_iconst (v := 0) 12 dX5_eyes_11 rfl rfl ?_
    refine q_ldc 14 dX5_eyes_12 rfl cs_X5_208 ?_
    refine q_callSt 17 dX5_eyes_14 rfl (c5_within _ _ _ _) cw_X5_66 rfl rfl ⟨by decide, by decide⟩ ⟨by decide, by decide⟩ (Nat.le_of_ble_eq_true rfl) ?_
    refine q_if_ne 23 20 dX5_eyes_17 rfl rfl (fun h_17 => ?_) (fun h_17 => ?_)
    · skip
      simp only [bI_0, Classical.not_not] at h_17
      refine q_bipush (v := 99) 25 dX5_eyes_23 rfl rfl ?_
      refine q_istore_n 26 dX5_eyes_25 rfl (by decide) rfl ?_
      refine q_iconst (v := 0) 27 dX5_eyes_26 rfl rfl ?_
      refine q_istore 29 dX5_eyes_27 rfl (by decide) rfl ?_
      have hcc : (0 ≤ n ∧ n ≤ 60) ∧ (0 ≤ v ∧ v ≤ 99999) := ⟨h_7, h_17⟩
      refine TR_post (q_fg (l5_eyes M n v (tn n) en ln s hW hR hT 102 0 100 M _ _ Kp.rf (by omega) (by omega) (by omega) rfl rfl) ⟨rfl, rfl, rfl, rfl, rfl, trivial⟩) ?_
      unfold aEyes
      rw [if_pos hcc]
      exact fun _ _ h => h
    · skip
      simp only [bI_0, Classical.not_not] at h_17
      refine q_ldc 22 dX5_eyes_20 rfl cs_X5_73 ?_
      refine q_iret dX5_eyes_22 ?_
      exact ⟨congrArg (fun x => some (Value.int x)) (by unfold aEyes; rw [if_neg (fun q => by first | exact h_7 q.1 | exact h_17 q.2)]), Kp.rf⟩
