/-! THE CLASS: a coat -/
def coC (s : SS) (c : Nat) : Int32 := leF 9999 (s (15 + c) + 1)
def coW (s : SS) (c : Nat) : Int32 := if rmF (coC s c) (s 3) = 0 then wiF (s (9 + c) - 1) 99 else s (9 + c)
def coD (s : SS) (k : Nat) : Int32 := leF 9999 (mk s k 2 + siF s k)
theorem coN_s (s : SS) (n : Nat) : coN s (n + 1) = coF (coN s n) n := rfl
theorem coN_o {s : SS} (h10 : nN s ≤ 10) : ∀ n, n ≤ 6 → (nN (coN s n) = nN s ∧ ∀ i, (i < 9 ∨ 71 ≤ i ∨ (21 ≤ i ∧ ∀ j, j < 10 → i ≠ 21 + 5 * j + 2)) → coN s n i = s i)
  | 0, _ => ⟨rfl, fun _ _ => rfl⟩
  | n + 1, hn => by
    obtain ⟨h1, h2⟩ := coN_o h10 n (by omega)
    have h3 : ∀ i, (i < 9 ∨ 71 ≤ i ∨ (21 ≤ i ∧ ∀ j, j < 10 → i ≠ 21 + 5 * j + 2)) → coN s (n + 1) i = s i := fun i hi => by
      rw [coN_s, coF_o (by omega) (by omega) (by omega) (fun j hj => by rw [h1] at hj; rcases hi with hi | hi | hi; omega; omega; exact hi.2 j (by omega)), h2 i hi]
    exact ⟨nN_c (h3 0 (Or.inl (by omega))), h3⟩
theorem coN_wc {s : SS} (h10 : nN s ≤ 10) : ∀ n, n ≤ 6 → ∀ c, c < 6 → coN s n (9 + c) = (if c < n then coW s c else s (9 + c)) ∧ coN s n (15 + c) = (if c < n then coC s c else s (15 + c))
  | 0, _, c, _ => ⟨by rw [if_neg (by omega)]; rfl, by rw [if_neg (by omega)]; rfl⟩
  | n + 1, hn, c, hc => by
    obtain ⟨g1, g2⟩ := coN_o h10 n (by omega)
    obtain ⟨h1, h2⟩ := coN_wc h10 n (by omega) c hc
    by_cases e : c = n
    · subst e
      rw [if_neg (by omega)] at h1 h2
      rw [if_pos (by omega), if_pos (by omega), coN_s, coF_w, coF_c hc, h1, h2, g2 3 (Or.inl (by omega))]
      exact ⟨rfl, rfl⟩
    · rw [coN_s, coF_o (by omega) (by omega) (by omega) (fun j _ => by omega), coF_o (by omega) (by omega) (by omega) (fun j _ => by omega), h1, h2]
      by_cases e2 : c < n
      · rw [if_pos e2, if_pos e2, if_pos (by omega), if_pos (by omega)]; exact ⟨rfl, rfl⟩
      · rw [if_neg e2, if_neg e2, if_neg (by omega), if_neg (by omega)]; exact ⟨rfl, rfl⟩
theorem coN_d {s : SS} (h10 : nN s ≤ 10) (hm : WFm s) {k : Nat} (hk : k < nN s) : ∀ n, n ≤ 6 → coN s n (21 + 5 * k + 2) = if tn (mk s k 3) < n then coD s k else mk s k 2
  | 0, _ => by rw [if_neg (by omega)]; rfl
  | n + 1, hn => by
    obtain ⟨g1, g2⟩ := coN_o h10 n (by omega)
    have ih := coN_d h10 hm hk n (by omega)
    obtain ⟨e1, e2⟩ := rg_nat (hm k (by omega)).2.2.2.1 (n := 5) rfl
    have e2' : tn (mk s k 3) ≤ 5 := e2
    have q3 : mk (coN s n) k 3 = mk s k 3 := g2 _ (Or.inr (Or.inr ⟨by omega, fun j _ => by omega⟩))
    have q0 : mk (coN s n) k 0 = mk s k 0 := g2 _ (Or.inr (Or.inr ⟨by omega, fun j _ => by omega⟩))
    rw [coN_s, coF_d (by omega) (by rw [g1]; exact hk) (by rw [q3]; exact (hm k (by omega)).2.2.2.1), q3]
    by_cases e : tn (mk s k 3) = n
    · rw [if_pos (by rw [e1]; exact congrArg nI e), if_pos (by omega)]
      rw [if_neg (by omega)] at ih
      have w1 : coN s n (9 + tn (mk s k 3)) = s (9 + tn (mk s k 3)) := by rw [(coN_wc h10 n (by omega) _ (by omega)).1, if_neg (by omega)]
      unfold coD siF
      rw [q3, q0, show (mk (coN s n) k 2) = mk s k 2 from ih]
      rw [show coN s n (9 + (mk s k 3).toNatClampNeg) = _ from w1]
    · rw [if_neg (fun q => e (nI_inj (by omega) (by omega) (e1.symm.trans q)))]
      rw [show mk (coN s n) k 2 = _ from ih]
      by_cases e3 : tn (mk s k 3) < n
      · rw [if_pos e3, if_pos (by omega)]
      · rw [if_neg e3, if_neg (by omega)]
theorem cntB_c {p q : Nat → Bool} {n : Nat} (h : ∀ k, k < n → p k = q k) : cntB p n = cntB q n := cntB_congr n h
theorem ctF_c {s s' : SS} (h0 : s' 0 = s 0) (h10 : nN s ≤ 10) (h3 : ∀ k, k < 10 → mk s' k 3 = mk s k 3) (c : Int32) : ctF s' c = ctF s c := by
  unfold ctF
  rw [nN_c h0]
  exact cntB_congr _ (fun k hk => by unfold inC; rw [h3 k (by omega)])
theorem coT_c {s s' : SS} (h1 : s' 1 = s 1) (h : ∀ i, 71 ≤ i → s' i = s i) (key : Int32) : coT s' key = coT s key := by unfold coT; rw [laF_c h, nT_c h1]
/-- the cells of a wall, when its row and the state go on -/
theorem RC_to {M M' : TM} {w : Nat} {s s' : SS} (h : RC M w s) (h10 : nN s ≤ 10) (h0 : s' 0 = s 0) (h1 : s' 1 = s 1) (h3 : ∀ k, k < 10 → mk s' k 3 = mk s k 3) (hh : ∀ i, 71 ≤ i → s' i = s i) (hc : ∀ c, c < 6 → M' 18 w c = s' (9 + c) ∧ M' 19 w c = s' (15 + c)) (h20 : M' 20 w = M 20 w) (h27 : M' 27 w = M 27 w) (h26 : M' 26 w 0 = s' 3 ∧ M' 26 w 1 = s' 4 ∧ M' 26 w 2 = s' 5) (h4 : M' 4 w 13 = s' 7 ∧ M' 4 w 14 = s' 2 ∧ M' 4 w 15 = s' 8) : RC M' w s' := by
  refine ⟨fun c hc6 => ⟨(hc c hc6).1, (hc c hc6).2, ?_⟩, h26, ?_, h4⟩
  · rw [h20, ctF_c h0 h10 h3]; exact (h.1 c hc6).2.2
  · rw [h27, coT_c h1 hh, coT_c h1 hh, coT_c h1 hh]; exact h.2.2.1
theorem RT_to {M : TM} {s s' : SS} (h : RT M s) (h1 : s' 1 = s 1) (hh : ∀ i, 71 ≤ i → s' i = s i) : RT M s' := by
  intro t ht
  rw [nT_c h1] at ht
  obtain ⟨a, b, c, d, e⟩ := h t ht
  rw [hh _ (by omega), hh _ (by omega), hh _ (by omega)]
  refine ⟨a, b, c, ?_, ?_⟩
  · intro k hk
    rw [hh _ (by omega)] at hk
    rw [hh _ (by omega), hh _ (by omega)]
    exact d k hk
  · intro k hk
    rw [hh _ (by omega), hh _ (by omega)]
    exact e k hk
theorem two_put (N : TM) (w : Nat) (a a' b : Nat → Int32) : putA (putA (putA N 19 w a) 18 w b) 19 w a' = putA (putA N 19 w a') 18 w b := by
  rw [putA_cm (putA N 19 w a) b a' (by omega), putA_pp]
theorem wi_m1 {a : Nat} (h : 1 ≤ a) (h9 : a ≤ 99) : wiF (nI a - 1) 99 = nI a - 1 := by
  rw [ix_pre h]
  exact (wiF_nI (c := 99) (by omega) (by omega)).trans (congrArg nI (by omega))
theorem coW_a {s : SS} {c t a : Nat} (ht : s 3 = nI t) (h : coC s c - coC s c / nI t * nI t = 0) (ea : s (9 + c) = nI a) (ha : a ≤ 99) (h1 : ¬ a ≤ 0) : coW s c = s (9 + c) - 1 := by
  unfold coW
  rw [ht, if_pos (show rmF (coC s c) (nI t) = 0 from h), ea, wi_m1 (by omega) ha]
theorem coW_b {s : SS} {c t a : Nat} (ht : s 3 = nI t) (h : coC s c - coC s c / nI t * nI t = 0) (ea : s (9 + c) = nI a) (h1 : a ≤ 0) : coW s c = s (9 + c) := by
  unfold coW
  rw [ht, if_pos (show rmF (coC s c) (nI t) = 0 from h), ea, show a = 0 by omega]; rfl
theorem coW_c {s : SS} {c t : Nat} (ht : s 3 = nI t) (h : ¬ coC s c - coC s c / nI t * nI t = 0) : coW s c = s (9 + c) := by
  unfold coW
  rw [ht, if_neg (show ¬ rmF (coC s c) (nI t) = 0 from h)]
theorem mix_same {f f2 : Nat → Int32} {k : Nat} (h : f k = f2 k) : mixF f f2 k = mixF f f2 (k + 1) := by
  rw [← mixF_s, h, show upd (mixF f f2 k) k (f2 k) = mixF f f2 k from by rw [show f2 k = mixF f f2 k k from (mix_hi _ _ (Nat.le_refl k)).symm, upd_id]]
theorem co_e1 {X N : TM} {w c : Nat} {s : SS} (g1 : N 18 w c = s (9 + c)) (h : coW s c = s (9 + c)) : putA X 18 w (mixF (coW s) (N 18 w) c) = putA X 18 w (mixF (coW s) (N 18 w) (c + 1)) := by
  rw [mix_same (h.trans g1.symm)]
theorem co_e2 {X N : TM} {w c : Nat} {s : SS} (g1 : N 18 w c = s (9 + c)) (h : coW s c = s (9 + c) - 1) : putA (putA X 18 w (mixF (coW s) (N 18 w) c)) 18 w (upd (putA X 18 w (mixF (coW s) (N 18 w) c) 18 w) c (putA X 18 w (mixF (coW s) (N 18 w) c) 18 w c - 1)) = putA X 18 w (mixF (coW s) (N 18 w) (c + 1)) := by
  rw [putA_pp, putA_s, mix_hi _ _ (Nat.le_refl c), g1, ← h, mixF_s]
set_option maxRecDepth 100000 in
set_option maxHeartbeats 4000000 in
theorem l4_coat2 {g : GT} (N : TM) (w : Nat) (hw : w < 3) (s : SS) (hc : ∀ c, c < 6 → N 18 w c = s (9 + c) ∧ N 19 w c = s (15 + c)) (hK : WFc s) (t : Nat) (h1 : 1 ≤ t) (h9 : t ≤ 9) (ht : s 3 = nI t) : ∀ (j : Nat) (c : Nat) (y : Int32), 6 - c < j → c ≤ 6 → y = nI c → TR g (rmD 1) RX4 cX4_coatAll 3 none 0 0 (Zm g (Rv (putA (putA N 19 w (mixF (coC s) (N 19 w) 6)) 18 w (mixF (coW s) (N 18 w) 6)))) 49 [some (.ref (gad g 4 w)), some (.int (nI t)), some (.int y)] [] (putA (putA N 19 w (mixF (coC s) (N 19 w) c)) 18 w (mixF (coW s) (N 18 w) c)) := by
  intro j
  induction j with
  | zero => intro c y hj hc6 hy; exact absurd hj (by omega)
  | succ j ih =>
    intro c y hj hc6 hy
    subst hy
    refine q_iload_n 50 dX4_coatAll_49 rfl rfl ?_
    refine q_bipush (v := 6) 52 dX4_coatAll_50 rfl rfl ?_
    refine q_icmp_ge 115 55 dX4_coatAll_52 rfl rfl (fun h_52 => ?_) (fun h_52 => ?_)
    · skip
      rw [show (6 : Int32) = nI 6 from rfl, nI_leI (by omega) (by omega)] at h_52
      refine q_vret dX4_coatAll_115 ?_
      exact ⟨rfl, by rw [show c = 6 by omega]⟩
    · skip
      rw [show (6 : Int32) = nI 6 from rfl, nI_leI (by omega) (by omega)] at h_52
      have hlc : c < 6 := by omega
      obtain ⟨g1, g2⟩ := hc c hlc
      obtain ⟨a, ha, ea⟩ := (rg_iff (b := 99) (by decide)).mp (hK c hlc).1
      have v19 : (putA (putA N 19 w (mixF (coC s) (N 19 w) c)) 18 w (mixF (coW s) (N 18 w) c)) 19 w c = s (15 + c) := by rw [putA_nt _ _ _ _ (by decide), putA_s, mix_hi _ _ (Nat.le_refl c)]; exact g2
      have v18 : (putA (putA N 19 w (mixF (coC s) (N 19 w) c)) 18 w (mixF (coW s) (N 18 w) c)) 18 w c = s (9 + c) := by rw [putA_s, mix_hi _ _ (Nat.le_refl c)]; exact g1
      refine q_aload_n 56 dX4_coatAll_55 rfl rfl ?_
      refine q_getR 59 dX4_coatAll_56 rfl fl_X4_15 hw rfl rfl ?_
      refine q_iload_n 60 dX4_coatAll_59 rfl rfl ?_
      refine q_sipush (v := 9999) 63 dX4_coatAll_60 rfl rfl ?_
      refine q_aload_n 64 dX4_coatAll_63 rfl rfl ?_
      refine q_getR 67 dX4_coatAll_64 rfl fl_X4_15 hw rfl rfl ?_
      refine q_iload_n 68 dX4_coatAll_67 rfl rfl ?_
      refine q_iald 69 dX4_coatAll_68 rfl (by decide) hw rfl hlc ?_
      refine q_iconst (v := 1) 70 dX4_coatAll_69 rfl rfl ?_
      refine q_iadd 71 dX4_coatAll_70 rfl ?_
      refine q_mmin 74 dX4_coatAll_71 rfl cw_X4_97 ⟨by decide, by decide⟩ ⟨by decide, by decide⟩ (Nat.le_of_ble_eq_true rfl) ?_
      refine q_iast 75 dX4_coatAll_74 rfl (by decide) hw rfl hlc ?_
      rw [v19, miF_le, putA_nt _ _ _ _ (show (19:Nat) ≠ 18 by decide), putA_s, two_put, show leF 9999 (s (15 + c) + 1) = coC s c from rfl, mixF_s]
      refine q_iload_n 76 dX4_coatAll_75 rfl rfl ?_
      refine q_if_le 109 79 dX4_coatAll_76 rfl rfl (fun h_76 => absurd h_76 (by rw [show (0 : Int32) = nI 0 from rfl, nI_leI (by omega) (by omega)]; omega)) (fun _ => ?_)
      refine q_aload_n 80 dX4_coatAll_79 rfl rfl ?_
      refine q_getR 83 dX4_coatAll_80 rfl fl_X4_15 hw rfl rfl ?_
      refine q_iload_n 84 dX4_coatAll_83 rfl rfl ?_
      refine q_iald 85 dX4_coatAll_84 rfl (by decide) hw rfl hlc ?_
      refine q_iload_n 86 dX4_coatAll_85 rfl rfl ?_
      refine q_irem 87 dX4_coatAll_86 rfl (nI_ne0 (by omega) (by omega)) ?_
      refine q_if_ne 109 90 dX4_coatAll_87 rfl rfl (fun h_87 => ?_) (fun h_87 => ?_)
      · skip
        rw [putA_nt _ _ _ _ (show (19:Nat) ≠ 18 by decide), putA_s, ← mixF_s, upd_s] at h_87
        refine q_iinc 112 dX4_coatAll_109 rfl rfl (by decide) rfl (nI_1 c) ?_
        refine q_goto 49 dX4_coatAll_112 rfl ?_
        refine q_eqM (M' := (putA (putA N 19 w (mixF (coC s) (N 19 w) (c + 1))) 18 w (mixF (coW s) (N 18 w) (c + 1)))) (by first | exact co_e1 g1 (coW_b ht h_87 ea h_96) | exact co_e2 g1 (coW_a ht h_87 ea ha h_96) | exact co_e1 g1 (coW_c ht h_87)) (q_fg (ih (c + 1) _ (by omega) (by omega) rfl) ⟨rfl, rfl, rfl, trivial⟩)
      · skip
        rw [putA_nt _ _ _ _ (show (19:Nat) ≠ 18 by decide), putA_s, ← mixF_s, upd_s] at h_87
        refine q_aload_n 91 dX4_coatAll_90 rfl rfl ?_
        refine q_getR 94 dX4_coatAll_91 rfl fl_X4_9 hw rfl rfl ?_
        refine q_iload_n 95 dX4_coatAll_94 rfl rfl ?_
        refine q_iald 96 dX4_coatAll_95 rfl (by decide) hw rfl hlc ?_
        refine q_if_le 109 99 dX4_coatAll_96 rfl rfl (fun h_96 => ?_) (fun h_96 => ?_)
        · skip
          rw [putA_s, mix_hi _ _ (Nat.le_refl c), g1, ea, show (0 : Int32) = nI 0 from rfl, nI_leI (by omega) (by omega)] at h_96
          refine q_iinc 112 dX4_coatAll_109 rfl rfl (by decide) rfl (nI_1 c) ?_
          refine q_goto 49 dX4_coatAll_112 rfl ?_
          refine q_eqM (M' := (putA (putA N 19 w (mixF (coC s) (N 19 w) (c + 1))) 18 w (mixF (coW s) (N 18 w) (c + 1)))) (by first | exact co_e1 g1 (coW_b ht h_87 ea h_96) | exact co_e2 g1 (coW_a ht h_87 ea ha h_96) | exact co_e1 g1 (coW_c ht h_87)) (q_fg (ih (c + 1) _ (by omega) (by omega) rfl) ⟨rfl, rfl, rfl, trivial⟩)
        · skip
          rw [putA_s, mix_hi _ _ (Nat.le_refl c), g1, ea, show (0 : Int32) = nI 0 from rfl, nI_leI (by omega) (by omega)] at h_96
          refine q_aload_n 100 dX4_coatAll_99 rfl rfl ?_
          refine q_getR 103 dX4_coatAll_100 rfl fl_X4_9 hw rfl rfl ?_
          refine q_iload_n 104 dX4_coatAll_103 rfl rfl ?_
          refine q_dup2 105 dX4_coatAll_104 rfl rfl rfl ?_
          refine q_iald 106 dX4_coatAll_105 rfl (by decide) hw rfl hlc ?_
          refine q_iconst (v := 1) 107 dX4_coatAll_106 rfl rfl ?_
          refine q_isub 108 dX4_coatAll_107 rfl ?_
          refine q_iast 109 dX4_coatAll_108 rfl (by decide) hw rfl hlc ?_
          refine q_iinc 112 dX4_coatAll_109 rfl rfl (by decide) rfl (nI_1 c) ?_
          refine q_goto 49 dX4_coatAll_112 rfl ?_
          refine q_eqM (M' := (putA (putA N 19 w (mixF (coC s) (N 19 w) (c + 1))) 18 w (mixF (coW s) (N 18 w) (c + 1)))) (by first | exact co_e1 g1 (coW_b ht h_87 ea h_96) | exact co_e2 g1 (coW_a ht h_87 ea ha h_96) | exact co_e1 g1 (coW_c ht h_87)) (q_fg (ih (c + 1) _ (by omega) (by omega) rfl) ⟨rfl, rfl, rfl, trivial⟩)
def cAll (M : TM) (w m : Nat) (f : Nat → Nat) (s : SS) : TM := putA (putA (putA M 23 w (mixF (fun i => coD s (f i)) (M 23 w) m)) 19 w (mixF (coC s) (M 19 w) 6)) 18 w (mixF (coW s) (M 18 w) 6)
theorem cAll_RP {M : TM} {w m : Nat} {f : Nat → Nat} {s : SS} (hP : RP M w s m f) (hW : WK s) : RP (cAll M w m f s) w (coN s 6) m f := by
  obtain ⟨hC, ⟨h11, hm10⟩, hM⟩ := hP
  obtain ⟨g1, g2⟩ := coN_o hW.1.2 6 (Nat.le_refl 6)
  have o2 : ∀ w', w' < 5 → w' ≠ 2 → ∀ k, mk (coN s 6) k w' = mk s k w' := fun w' _ _ k => g2 _ (Or.inr (Or.inr ⟨by omega, fun j _ => by omega⟩))
  have e18 : cAll M w m f s 18 w = mixF (coW s) (M 18 w) 6 := putA_s _ _ _ _
  have e19 : cAll M w m f s 19 w = mixF (coC s) (M 19 w) 6 := by unfold cAll; rw [putA_nt _ _ _ _ (by decide), putA_s]
  have e23 : cAll M w m f s 23 w = mixF (fun i => coD s (f i)) (M 23 w) m := by unfold cAll; rw [putA_nt _ _ _ _ (by decide), putA_nt _ _ _ _ (by decide), putA_s]
  refine ⟨RC_to hC hW.1.2 (g2 0 (Or.inl (by omega))) (g2 1 (Or.inl (by omega))) (fun k _ => o2 3 (by omega) (by omega) k) (fun i hi => g2 i (Or.inr (Or.inl hi))) (fun c hc => ?_) rfl rfl ?_ ?_, ⟨h11, hm10⟩, fun i hi => ?_⟩
  · rw [e18, e19, mix_lo _ _ hc, mix_lo _ _ hc, (coN_wc hW.1.2 6 (Nat.le_refl 6) c hc).1, (coN_wc hW.1.2 6 (Nat.le_refl 6) c hc).2, if_pos hc, if_pos hc]; exact ⟨rfl, rfl⟩
  · rw [g2 3 (Or.inl (by omega)), g2 4 (Or.inl (by omega)), g2 5 (Or.inl (by omega))]; exact hC.2.1
  · rw [g2 7 (Or.inl (by omega)), g2 2 (Or.inl (by omega)), g2 8 (Or.inl (by omega))]; exact hC.2.2.2
  · obtain ⟨q, r0, r1, r2, r3, r4⟩ := hM i hi
    have hk10 : f i < 10 := Nat.lt_of_lt_of_le q hW.1.2
    refine ⟨by rw [g1]; exact q, ?_⟩
    unfold RM
    rw [o2 0 (by omega) (by omega), o2 1 (by omega) (by omega), o2 3 (by omega) (by omega), o2 4 (by omega) (by omega), e23, mix_lo _ _ hi]
    refine ⟨r0, r1, ?_, r3, r4⟩
    rw [show mk (coN s 6) (f i) 2 = _ from coN_d hW.1.2 hW.2.2.2.1 q 6 (Nat.le_refl 6), if_pos (show tn (mk s (f i) 3) < 6 from Nat.lt_succ_of_le (rg_nat (hW.2.2.2.1 (f i) hk10).2.2.2.1 (n := 5) rfl).2)]
set_option maxRecDepth 100000 in
set_option maxHeartbeats 4000000 in
theorem l4_coat1 {g : GT} (M : TM) (w : Nat) (hw : w < 3) (s : SS) (m : Nat) (f : Nat → Nat) (hP : RP M w s m f) (hW : WK s) : ∀ (j : Nat) (k : Nat) (y : Int32), m - k < j → k ≤ m → y = nI k → TR g (rmD 1) RX4 cX4_coatAll 3 none 0 0 (Zm g (Rv (cAll M w m f s))) 2 [some (.ref (gad g 4 w)), some (.int y), none] [] (putA M 23 w (mixF (fun i => coD s (f i)) (M 23 w) k)) := by
  intro j
  induction j with
  | zero => intro k y hj hk hy; exact absurd hj (by omega)
  | succ j ih =>
    intro k y hj hk hy
    subst hy
    obtain ⟨hC, ⟨h11, hm10⟩, hM⟩ := hP
    have hv11 : putA M 23 w (mixF (fun i => coD s (f i)) (M 23 w) k) 4 w 11 = nI m := h11
    refine q_iload_n 3 dX4_coatAll_2 rfl rfl ?_
    refine q_aload_n 4 dX4_coatAll_3 rfl rfl ?_
    refine q_getI 7 dX4_coatAll_4 rfl fl_X4_66 hw rfl (by decide) ?_
    refine q_icmp_ge 40 10 dX4_coatAll_7 rfl rfl (fun h_7 => ?_) (fun h_7 => ?_)
    · skip
      rw [hv11, nI_leI (by omega) (by omega)] at h_7
      refine q_aload_n 41 dX4_coatAll_40 rfl rfl ?_
      refine q_getR 44 dX4_coatAll_41 rfl fl_X4_36 hw rfl rfl ?_
      refine q_iconst (v := 0) 45 dX4_coatAll_44 rfl rfl ?_
      refine q_iald 46 dX4_coatAll_45 rfl (by decide) hw rfl (by decide) ?_
      refine q_istore_n 47 dX4_coatAll_46 rfl (by decide) rfl ?_
      refine q_iconst (v := 0) 48 dX4_coatAll_47 rfl rfl ?_
      refine q_istore_n 49 dX4_coatAll_48 rfl (by decide) rfl ?_
      have hkm : k = m := by omega
      subst hkm
      obtain ⟨t, t1, t9, et⟩ := hW.t3
      rw [show (putA M 23 w (mixF (fun i => coD s (f i)) (M 23 w) k)) 26 w 0 = nI t from hC.2.1.1.trans et]
      refine q_eqM (M' := putA (putA (putA M 23 w (mixF (fun i => coD s (f i)) (M 23 w) k)) 19 w (mixF (coC s) (putA M 23 w (mixF (fun i => coD s (f i)) (M 23 w) k) 19 w) 0)) 18 w (mixF (coW s) (putA M 23 w (mixF (fun i => coD s (f i)) (M 23 w) k) 18 w) 0)) (by rw [mixF_0, mixF_0, putA_id, show putA M 23 w (mixF (fun i => coD s (f i)) (M 23 w) k) 18 w = putA M 23 w (mixF (fun i => coD s (f i)) (M 23 w) k) 18 w from rfl, putA_id]) ?_
      exact TR_post (q_fg (l4_coat2 (putA M 23 w (mixF (fun i => coD s (f i)) (M 23 w) k)) w hw s (fun c hc => ⟨(hC.1 c hc).1, (hC.1 c hc).2.1⟩) hW.2.2.1 t t1 t9 et 7 0 _ (by omega) (by omega) rfl) ⟨rfl, rfl, rfl, trivial⟩) (fun r M2 h => h)
    · skip
      rw [hv11, nI_leI (by omega) (by omega)] at h_7
      have hkm : k < m := by omega
      obtain ⟨q, r0, r1, r2, r3, r4⟩ := hM k hkm
      have hv : putA M 23 w (mixF (fun i => coD s (f i)) (M 23 w) k) 23 w k = mk s (f k) 2 := by rw [putA_s, mix_hi _ _ (Nat.le_refl k)]; exact r2
      have hq10 : f k < 10 := Nat.lt_of_lt_of_le q hW.1.2
      refine q_aload_n 11 dX4_coatAll_10 rfl rfl ?_
      refine q_getR 14 dX4_coatAll_11 rfl fl_X4_27 hw rfl rfl ?_
      refine q_iload_n 15 dX4_coatAll_14 rfl rfl ?_
      refine q_sipush (v := 9999) 18 dX4_coatAll_15 rfl rfl ?_
      refine q_aload_n 19 dX4_coatAll_18 rfl rfl ?_
      refine q_getR 22 dX4_coatAll_19 rfl fl_X4_27 hw rfl rfl ?_
      refine q_iload_n 23 dX4_coatAll_22 rfl rfl ?_
      refine q_iald 24 dX4_coatAll_23 rfl (by decide) hw rfl (show k < 10 by omega) ?_
      refine q_aload_n 25 dX4_coatAll_24 rfl rfl ?_
      refine q_iload_n 26 dX4_coatAll_25 rfl rfl ?_
      refine q_callVt 29 dX4_coatAll_26 rfl (c4_sinks _ w hw _ k (f k) rfl (by omega) hq10 s hC ⟨r0, r1, hv, r3, r4⟩ hW.2.2.2.1) cw_X4_117 hw rfl rfl ⟨by decide, by decide⟩ ⟨by decide, by decide⟩ (Nat.le_of_ble_eq_true rfl) ?_
      refine q_iadd 30 dX4_coatAll_29 rfl ?_
      refine q_mmin 33 dX4_coatAll_30 rfl cw_X4_97 ⟨by decide, by decide⟩ ⟨by decide, by decide⟩ (Nat.le_of_ble_eq_true rfl) ?_
      refine q_iast 34 dX4_coatAll_33 rfl (by decide) hw rfl (show k < 10 by omega) ?_
      refine q_iinc 37 dX4_coatAll_34 rfl rfl (by decide) rfl (nI_1 k) ?_
      refine q_goto 2 dX4_coatAll_37 rfl ?_
      refine q_eqM (M' := (putA M 23 w (mixF (fun i => coD s (f i)) (M 23 w) (k + 1)))) (by rw [hv, miF_le, putA_pp, putA_s]; exact congrArg (putA M 23 w) (mixF_s _ _ k)) (q_fg (ih (k + 1) _ (by omega) (by omega) rfl) ⟨rfl, rfl, trivial⟩)
set_option maxRecDepth 100000 in
set_option maxHeartbeats 4000000 in
theorem c4_coatAll {g : GT} (M : TM) (w : Nat) (hw : w < 3) (s : SS) (m : Nat) (f : Nat → Nat) (hP : RP M w s m f) (hW : WK s) : Cn g yX4_coatAll cX4_coatAll 3 none 1 [.ref (gad g 4 w)] M (Rv (cAll M w m f s)) := by
  refine Cn.ofTR (by decide +kernel) (Nat.le_of_ble_eq_true rfl) ?_
  refine q_iconst (v := 0) 1 dX4_coatAll_0 rfl rfl ?_
  refine q_istore_n 2 dX4_coatAll_1 rfl (by decide) rfl ?_
  exact q_eqM (M' := (putA M 23 w (mixF (fun i => coD s (f i)) (M 23 w) 0))) (by rw [mixF_0, putA_id]) (q_fg (l4_coat1 M w hw s m f hP hW (m + 1) 0 _ (by omega) (by omega) rfl) ⟨rfl, rfl, trivial⟩)
