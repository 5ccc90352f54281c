/-! THE CLASS: a breath -/
theorem maF_sub {a b : Nat} (ha : a < 2 ^ 30) (hb : b < 2 ^ 30) : maF 0 (nI a - nI b) = nI (a - b) := by
  unfold maF
  by_cases h : b < a
  · rw [pk_sub (by omega), if_pos (show (0 : Int32) < nI (a - b) from (nI_ltI (a := 0) (b := a - b) (by omega) (by omega)).mpr (by omega))]
  · rw [show a - b = 0 by omega]
    by_cases e : b = a
    · rw [e, pk_sub (Nat.le_refl a), Nat.sub_self]; rfl
    · rw [if_neg (fun q => absurd (pk_sneg (a := a) (b := b) hb (by omega)) (Int32.not_lt.mpr (Int32.le_of_lt q)))]; rfl
theorem max_wi {a b c : Nat} (ha : a ≤ c) (hb : b < 2 ^ 30) (hc : c < 2 ^ 30) : maF 0 (nI a - nI b) = wiF (nI a - nI b) (nI c) := by
  rw [maF_sub (by omega) hb, wiF_sub (by omega) hb (by omega), Nat.min_eq_left (by omega)]
def buF (s : SS) (c : Int32) (f : Nat → Nat) (b : Int32) : Nat → Int32
  | 0 => b
  | k + 1 => if mk s (f k) 3 = c then (if s 4 ≤ shF s (f k) then buF s c f b k else maF (buF s c f b k) (shF s (f k))) else buF s c f b k
def brI (s : SS) (c : Int32) (f : Nat → Nat) (i : Nat) : Int32 := if brQ s c (f i) then wiF (mk s (f i) 1 - faF (mk s (f i) 0)) 99 else mk s (f i) 1
def brS (s : SS) (c : Int32) (f : Nat → Nat) (i : Nat) : Int32 := if brQ s c (f i) then leF 9999 (mk s (f i) 4 + 1) else mk s (f i) 4
def brC (s : SS) (c : Int32) (f : Nat → Nat) (k : Nat) : Int32 := nI (cntB (fun i => brQ s c (f i)) k)
def BrI (M N : TM) (w k : Nat) (s : SS) (c : Int32) (f : Nat → Nat) : Prop := Kp w M N ∧ (∀ t, t ≠ 4 → t ≠ 22 → t ≠ 25 → t ≠ 17 → N t w = M t w) ∧ N 22 w = mixF (brI s c f) (M 22 w) k ∧ N 25 w = mixF (brS s c f) (M 25 w) k ∧ N 4 w = upd (M 4 w) 17 (buF s c f (M 4 w 17) k)
theorem brQ_t {s : SS} {c : Int32} {k : Nat} (h : mk s k 3 = c) (h2 : s 4 ≤ shF s k) : brQ s c k = true := by unfold brQ; rw [lgB_t h2]; exact decide_eq_true h
theorem brQ_f1 {s : SS} {c : Int32} {k : Nat} (h : ¬ mk s k 3 = c) : brQ s c k = false := by unfold brQ inC; rw [decide_eq_false h, Bool.and_false]
theorem brQ_f2 {s : SS} {c : Int32} {k : Nat} (h : ¬ s 4 ≤ shF s k) : brQ s c k = false := by unfold brQ lgB; rw [decide_eq_false h, Bool.false_and]
theorem brI_f {s : SS} {c : Int32} {f : Nat → Nat} {i : Nat} (h : brQ s c (f i) = false) : brI s c f i = mk s (f i) 1 ∧ brS s c f i = mk s (f i) 4 := by unfold brI brS; rw [h]; exact ⟨rfl, rfl⟩
theorem brI_t {s : SS} {c : Int32} {f : Nat → Nat} {i : Nat} (h : brQ s c (f i) = true) : brI s c f i = wiF (mk s (f i) 1 - faF (mk s (f i) 0)) 99 ∧ brS s c f i = leF 9999 (mk s (f i) 4 + 1) := by unfold brI brS; rw [h]; exact ⟨rfl, rfl⟩
theorem brC_t {s : SS} {c : Int32} {f : Nat → Nat} {k : Nat} (h : brQ s c (f k) = true) : brC s c f k + 1 = brC s c f (k + 1) := by unfold brC; rw [nI_1]; show _ = nI (cntB _ k + if brQ s c (f k) = true then 1 else 0); rw [if_pos h]
theorem brC_f {s : SS} {c : Int32} {f : Nat → Nat} {k : Nat} (h : brQ s c (f k) = false) : brC s c f k = brC s c f (k + 1) := by unfold brC; show _ = nI (cntB _ k + if brQ s c (f k) = true then 1 else 0); rw [h]; rfl
theorem BrI_0 {M : TM} {w : Nat} {s : SS} {c : Int32} {f : Nat → Nat} : BrI M M w 0 s c f := ⟨Kp.rf, fun _ _ _ _ _ => rfl, (mixF_0 _ _).symm, (mixF_0 _ _).symm, (upd_id _ _).symm⟩
theorem BrI_a {M N : TM} {w k : Nat} {s : SS} {c : Int32} {f : Nat → Nat} (h : BrI M N w k s c f) (r1 : M 22 w k = mk s (f k) 1) (r4 : M 25 w k = mk s (f k) 4) (hc : ¬ mk s (f k) 3 = c) : BrI M N w (k + 1) s c f := by
  obtain ⟨h1, h2, h3, h4, h5⟩ := h
  obtain ⟨q1, q2⟩ := brI_f (f := f) (i := k) (brQ_f1 hc)
  exact ⟨h1, h2, h3.trans (mix_same (q1.trans r1.symm)), h4.trans (mix_same (q2.trans r4.symm)), by rw [h5]; congr 1; show _ = if _ then _ else _; rw [if_neg hc]⟩
theorem BrI_b {M N : TM} {w k : Nat} {s : SS} {c : Int32} {f : Nat → Nat} {p : Nat → Int32} (h : BrI M N w k s c f) (hc : mk s (f k) 3 = c) (hl : s 4 ≤ shF s (f k)) {v v' : Int32} (hv : v = leF 9999 (mk s (f k) 4 + 1)) (hv' : v' = wiF (mk s (f k) 1 - faF (mk s (f k) 0)) 99) : BrI M (putA (putA (putA N 17 0 p) 25 w (upd (N 25 w) k v)) 22 w (upd (N 22 w) k v')) w (k + 1) s c f := by
  obtain ⟨h1, h2, h3, h4, h5⟩ := h
  obtain ⟨q1, q2⟩ := brI_t (f := f) (i := k) (brQ_t hc hl)
  refine ⟨Kp.put (Kp.put (Kp.put17 h1) (by omega)) (by omega), fun t a b c' d => ?_, ?_, ?_, ?_⟩
  · rw [putA_nt _ _ _ _ b, putA_nt _ _ _ _ c', putA_nt _ _ _ _ d]; exact h2 t a b c' d
  · rw [putA_s, h3, hv', ← q1, mixF_s]
  · rw [putA_nt _ _ _ _ (by decide), putA_s, h4, hv, ← q2, mixF_s]
  · rw [putA_nt _ _ _ _ (by decide), putA_nt _ _ _ _ (by decide), putA_nt _ _ _ _ (by decide), h5]; congr 1; show _ = if _ then _ else _; rw [if_pos hc, if_pos hl]
theorem BrI_c {M N : TM} {w k : Nat} {s : SS} {c : Int32} {f : Nat → Nat} {p : Nat → Int32} (h : BrI M N w k s c f) (r1 : M 22 w k = mk s (f k) 1) (r4 : M 25 w k = mk s (f k) 4) (hc : mk s (f k) 3 = c) (hl : ¬ s 4 ≤ shF s (f k)) {v : Int32} (hv : v = maF (N 4 w 17) (shF s (f k))) : BrI M (putA (putA N 17 0 p) 4 w (upd (N 4 w) 17 v)) w (k + 1) s c f := by
  obtain ⟨h1, h2, h3, h4, h5⟩ := h
  obtain ⟨q1, q2⟩ := brI_f (f := f) (i := k) (brQ_f2 (c := c) hl)
  refine ⟨Kp.put (Kp.put17 h1) (by omega), fun t a b c' d => ?_, ?_, ?_, ?_⟩
  · rw [putA_nt _ _ _ _ a, putA_nt _ _ _ _ d]; exact h2 t a b c' d
  · rw [putA_nt _ _ _ _ (by decide), putA_nt _ _ _ _ (by decide)]; exact h3.trans (mix_same (q1.trans r1.symm))
  · rw [putA_nt _ _ _ _ (by decide), putA_nt _ _ _ _ (by decide)]; exact h4.trans (mix_same (q2.trans r4.symm))
  · rw [putA_s, hv, h5, upd_s]
    show _ = upd (M 4 w) 17 (if _ then (if _ then _ else _) else _)
    rw [if_pos hc, if_neg hl]
    funext i; unfold upd; split <;> rfl
theorem BrI.rc {M N : TM} {w k : Nat} {s : SS} {c : Int32} {f : Nat → Nat} (h : BrI M N w k s c f) (hC : RC M w s) : RC N w s := by
  obtain ⟨h1, h2, h3, h4, h5⟩ := h
  unfold RC
  rw [h2 18 (by decide) (by decide) (by decide) (by decide), h2 19 (by decide) (by decide) (by decide) (by decide), h2 20 (by decide) (by decide) (by decide) (by decide), h2 26 (by decide) (by decide) (by decide) (by decide), h2 27 (by decide) (by decide) (by decide) (by decide), h5, upd_n (by decide), upd_n (by decide), upd_n (by decide)]
  exact hC
theorem BrI.rm {M N : TM} {w k : Nat} {s : SS} {c : Int32} {f : Nat → Nat} (h : BrI M N w k s c f) {i j : Nat} (hM : RM M w s i j) (hk : k ≤ i) : RM N w s i j := by
  obtain ⟨h1, h2, h3, h4, h5⟩ := h
  unfold RM
  rw [h2 21 (by decide) (by decide) (by decide) (by decide), h2 23 (by decide) (by decide) (by decide) (by decide), h2 24 (by decide) (by decide) (by decide) (by decide), h3, h4, mix_hi _ _ hk, mix_hi _ _ hk]
  exact hM
theorem brF_at1 {s : SS} {c : Int32} {k : Nat} (h : k < nN s) : mk (brF s c) k 1 = (if brQ s c k then wiF (mk s k 1 - faF (mk s k 0)) 99 else mk s k 1) := by
  show brF s c (21 + 5 * k + 1) = _
  unfold brF
  rw [upd_n (by omega), bdp_at1 s _ _ h]
theorem brF_at4 {s : SS} {c : Int32} {k : Nat} (h : k < nN s) : mk (brF s c) k 4 = (if brQ s c k then leF 9999 (mk s k 4 + 1) else mk s k 4) := by
  show brF s c (21 + 5 * k + 4) = _
  unfold brF
  rw [upd_n (by omega), bdp_at4 s _ _ h]
theorem BrI.rp {M N : TM} {w m : Nat} {s : SS} {c : Int32} {f : Nat → Nat} (h : BrI M N w m s c f) (hP : RP M w s m f) (h10 : nN s ≤ 10) {v : Int32} : RP (putA N 4 w (upd (N 4 w) 12 v)) w (brF s c) m f := by
  have hC := h.rc hP.1
  obtain ⟨h1, h2, h3, h4, h5⟩ := h
  obtain ⟨hC0, ⟨h11, hm⟩, hM⟩ := hP
  have o : ∀ i, i ≠ 6 → (∀ j, j < 10 → i ≠ 21 + 5 * j + 4 ∧ i ≠ 21 + 5 * j + 1) → brF s c i = s i := fun i a b => brF_o a (fun j hj => b j (by omega))
  have ol : ∀ i, i < 21 → i ≠ 6 → brF s c i = s i := fun i hi h6 => o i h6 (fun j _ => by omega)
  have q4 : ∀ i, i ≠ 12 → putA N 4 w (upd (N 4 w) 12 v) 4 w i = N 4 w i := fun i hi => by rw [putA_s, upd_n hi]
  refine ⟨RC_to hC h10 (ol 0 (by omega) (by omega)) (ol 1 (by omega) (by omega)) (fun k hk => o _ (by omega) (fun j _ => by omega)) (fun i hi => o i (by omega) (fun j hj => by omega)) (fun c' hc' => ?_) rfl rfl ?_ ?_, ⟨?_, hm⟩, fun i hi => ?_⟩
  · rw [ol _ (by omega) (by omega), ol _ (by omega) (by omega)]; exact ⟨(hC.1 c' hc').1, (hC.1 c' hc').2.1⟩
  · rw [ol _ (by omega) (by omega), ol _ (by omega) (by omega), ol _ (by omega) (by omega)]; exact hC.2.1
  · rw [ol _ (by omega) (by omega), ol _ (by omega) (by omega), ol _ (by omega) (by omega), q4 _ (by omega), q4 _ (by omega), q4 _ (by omega)]; exact hC.2.2.2
  · rw [q4 _ (by omega), h5, upd_n (by omega)]; exact h11
  · obtain ⟨q, r0, r1, r2, r3, r4⟩ := hM i hi
    have o2 : ∀ w', w' < 5 → w' ≠ 1 → w' ≠ 4 → mk (brF s c) (f i) w' = mk s (f i) w' := fun w' _ _ _ => o _ (by omega) (fun j _ => by omega)
    refine ⟨by rw [nN_c (ol 0 (by omega) (by omega))]; exact q, ?_⟩
    unfold RM
    rw [o2 0 (by omega) (by omega) (by omega), o2 2 (by omega) (by omega) (by omega), o2 3 (by omega) (by omega) (by omega), brF_at1 q, brF_at4 q]
    rw [putA_nt _ _ _ _ (by decide), putA_nt _ _ _ _ (by decide), putA_nt _ _ _ _ (by decide), putA_nt _ _ _ _ (by decide), putA_nt _ _ _ _ (by decide), h2 21 (by decide) (by decide) (by decide) (by decide), h2 23 (by decide) (by decide) (by decide) (by decide), h2 24 (by decide) (by decide) (by decide) (by decide), h3, h4, mix_lo _ _ hi, mix_lo _ _ hi]
    exact ⟨r0, rfl, r2, r3, rfl⟩
abbrev QB (M : TM) (w m : Nat) (s : SS) (c : Int32) (f : Nat → Nat) : Option Value → TM → Prop := fun r M' => r = some (.int (brC s c f m)) ∧ Kp w M M' ∧ RP M' w (brF s c) m f ∧ M' 4 w = upd (upd (M 4 w) 17 (buF s c f (M 4 w 17) m)) 12 (leF 99999 (M 4 w 12 + brC s c f m))
set_option maxRecDepth 100000 in
set_option maxHeartbeats 4000000 in
theorem l4_breathOn {g : GT} (M : TM) (w : Nat) (hw : w < 3) (s : SS) (m : Nat) (f : Nat → Nat) (hP : RP M w s m f) (hW : WK s) (hT : RT M s) (c : Int32) : ∀ (j : Nat) (k : Nat) (N : TM) (y z : Int32), BrI M N w k s c f → m - k < j → k ≤ m → y = nI k → z = brC s c f k → TR g (rmD 4) RX4 cX4_breathOn 5 (some .int) 0 0 (Zm g (QB M w m s c f)) 4 [some (.ref (gad g 4 w)), some (.int c), some (.int z), some (.int y), none] [] N := by
  intro j
  induction j with
  | zero => intro k N y z hB hj hk hy hz; exact absurd hj (by omega)
  | succ j ih =>
    intro k N y z hB hj hk hy hz
    subst hy
    have hP0 := hP
    obtain ⟨hC, ⟨h11, hm10⟩, hM⟩ := hP
    have hv11 : N 4 w 11 = nI m := by rw [hB.2.2.2.2, upd_n (by decide)]; exact h11
    have hCN := hB.rc hC
    refine q_iload_n 5 dX4_breathOn_4 rfl rfl ?_
    refine q_aload_n 6 dX4_breathOn_5 rfl rfl ?_
    refine q_getI 9 dX4_breathOn_6 rfl fl_X4_66 hw rfl (by decide) ?_
    refine q_icmp_ge 107 12 dX4_breathOn_9 rfl rfl (fun h_9 => ?_) (fun h_9 => ?_)
    · skip
      rw [hv11, nI_leI (by omega) (by omega)] at h_9
      refine q_aload_n 108 dX4_breathOn_107 rfl rfl ?_
      refine q_ldc 110 dX4_breathOn_108 rfl cs_X4_123 ?_
      refine q_aload_n 111 dX4_breathOn_110 rfl rfl ?_
      refine q_getI 114 dX4_breathOn_111 rfl fl_X4_69 hw rfl (by decide) ?_
      refine q_iload_n 115 dX4_breathOn_114 rfl rfl ?_
      refine q_iadd 116 dX4_breathOn_115 rfl ?_
      refine q_mmin 119 dX4_breathOn_116 rfl cw_X4_97 ⟨by decide, by decide⟩ ⟨by decide, by decide⟩ (Nat.le_of_ble_eq_true rfl) ?_
      refine q_putI 122 dX4_breathOn_119 rfl fl_X4_69 fp_4_12 hw rfl (by decide) rfl rfl ?_
      refine q_iload_n 123 dX4_breathOn_122 rfl rfl ?_
      refine q_iret dX4_breathOn_123 ?_
      have hkm : k = m := by omega
      subst hkm
      refine ⟨congrArg (fun x => some (Value.int x)) hz, Kp.put hB.1 (by omega), hB.rp hP0 hW.1.2, ?_⟩
      rw [putA_s, hz, miF_le, hB.2.2.2.2, upd_n (by decide)]
    · skip
      rw [hv11, nI_leI (by omega) (by omega)] at h_9
      have hkm : k < m := by omega
      obtain ⟨q, hMk⟩ := hM k hkm
      have hN := hB.rm hMk (Nat.le_refl k)
      obtain ⟨r0, r1, r2, r3, r4⟩ := hMk
      obtain ⟨s0, s1, s2, s3, s4⟩ := hN
      have hq10 : f k < 10 := Nat.lt_of_lt_of_le q hW.1.2
      obtain ⟨g0, g1, g2, g3, g4⟩ := hW.2.2.2.1 (f k) hq10
      refine q_aload_n 13 dX4_breathOn_12 rfl rfl ?_
      refine q_getR 16 dX4_breathOn_13 rfl fl_X4_30 hw rfl rfl ?_
      refine q_iload_n 17 dX4_breathOn_16 rfl rfl ?_
      refine q_iald 18 dX4_breathOn_17 rfl (by decide) hw rfl (show k < 10 by omega) ?_
      refine q_iload_n 19 dX4_breathOn_18 rfl rfl ?_
      refine q_icmp_ne 101 22 dX4_breathOn_19 rfl rfl (fun h_19 => ?_) (fun h_19 => ?_)
      · skip
        rw [s3] at h_19
        refine q_iinc 104 dX4_breathOn_101 rfl rfl (by decide) rfl (nI_1 k) ?_
        refine q_goto 4 dX4_breathOn_104 rfl ?_
        first
        | exact q_fg (ih (k + 1) _ _ _ (BrI_a hB r1 r4 h_19) (by omega) (by omega) rfl (hz.trans (brC_f (brQ_f1 h_19)))) ⟨rfl, rfl, rfl, rfl, trivial⟩
        | exact q_fg (ih (k + 1) _ _ _ (BrI_b hB h_19 hle (by rw [miF_le]; exact congrArg (fun x => leF 9999 (x + 1)) s4) (by rw [show (putA (putA N 17 0 p) 25 w (upd (putA N 17 0 p 25 w) k (miF 9999 (putA N 17 0 p 25 w k + 1)))) 22 w k = mk s (f k) 1 from s1, show (putA (putA N 17 0 p) 25 w (upd (putA N 17 0 p 25 w) k (miF 9999 (putA N 17 0 p 25 w k + 1)))) 21 w k = mk s (f k) 0 from s0, e1, e2]; exact max_wi (c := 99) l1 (by omega) (by decide))) (by omega) (by omega) rfl (by rw [hz]; exact brC_t (brQ_t h_19 hle))) ⟨rfl, rfl, rfl, rfl, trivial⟩
        | exact q_fg (ih (k + 1) _ _ _ (BrI_c hB r1 r4 h_19 (Int32.not_le.mpr h_37) rfl) (by omega) (by omega) rfl (hz.trans (brC_f (brQ_f2 (Int32.not_le.mpr h_37))))) ⟨rfl, rfl, rfl, rfl, trivial⟩
      · skip
        rw [s3] at h_19
        refine q_aload_n 23 dX4_breathOn_22 rfl rfl ?_
        refine q_iload_n 24 dX4_breathOn_23 rfl rfl ?_
        refine q_callV 27 dX4_breathOn_24 rfl (c4_shows _ w hw _ k (f k) rfl (by omega) hq10 s hCN ⟨s0, s1, s2, s3, s4⟩ ⟨hW.1, hW.2.2.2⟩ (hT.kp hB.1)) cw_X4_105 hw rfl rfl ⟨by decide, by decide⟩ ⟨by decide, by decide⟩ (Nat.le_of_ble_eq_true rfl) ?_
        rintro _ _ ⟨rfl, p, rfl⟩
        refine q_istore 29 dX4_breathOn_27 rfl (by decide) rfl ?_
        refine q_iload 31 dX4_breathOn_29 rfl rfl ?_
        refine q_aload_n 32 dX4_breathOn_31 rfl rfl ?_
        refine q_getR 35 dX4_breathOn_32 rfl fl_X4_36 hw rfl rfl ?_
        refine q_iconst (v := 1) 36 dX4_breathOn_35 rfl rfl ?_
        refine q_iald 37 dX4_breathOn_36 rfl (by decide) hw rfl (by decide) ?_
        refine q_icmp_lt 88 40 dX4_breathOn_37 rfl rfl (fun h_37 => ?_) (fun h_37 => ?_)
        · skip
          rw [show putA N 17 0 p 26 w 1 = s 4 from hCN.2.1.2.1] at h_37
          refine q_aload_n 89 dX4_breathOn_88 rfl rfl ?_
          refine q_aload_n 90 dX4_breathOn_89 rfl rfl ?_
          refine q_getI 93 dX4_breathOn_90 rfl fl_X4_46 hw rfl (by decide) ?_
          refine q_iload 95 dX4_breathOn_93 rfl rfl ?_
          refine q_mmax 98 dX4_breathOn_95 rfl cw_X4_102 ⟨by decide, by decide⟩ ⟨by decide, by decide⟩ (Nat.le_of_ble_eq_true rfl) ?_
          refine q_putI 101 dX4_breathOn_98 rfl fl_X4_46 fp_4_17 hw rfl (by decide) rfl rfl ?_
          refine q_iinc 104 dX4_breathOn_101 rfl rfl (by decide) rfl (nI_1 k) ?_
          refine q_goto 4 dX4_breathOn_104 rfl ?_
          first
          | exact q_fg (ih (k + 1) _ _ _ (BrI_a hB r1 r4 h_19) (by omega) (by omega) rfl (hz.trans (brC_f (brQ_f1 h_19)))) ⟨rfl, rfl, rfl, rfl, trivial⟩
          | exact q_fg (ih (k + 1) _ _ _ (BrI_b hB h_19 hle (by rw [miF_le]; exact congrArg (fun x => leF 9999 (x + 1)) s4) (by rw [show (putA (putA N 17 0 p) 25 w (upd (putA N 17 0 p 25 w) k (miF 9999 (putA N 17 0 p 25 w k + 1)))) 22 w k = mk s (f k) 1 from s1, show (putA (putA N 17 0 p) 25 w (upd (putA N 17 0 p 25 w) k (miF 9999 (putA N 17 0 p 25 w k + 1)))) 21 w k = mk s (f k) 0 from s0, e1, e2]; exact max_wi (c := 99) l1 (by omega) (by decide))) (by omega) (by omega) rfl (by rw [hz]; exact brC_t (brQ_t h_19 hle))) ⟨rfl, rfl, rfl, rfl, trivial⟩
          | exact q_fg (ih (k + 1) _ _ _ (BrI_c hB r1 r4 h_19 (Int32.not_le.mpr h_37) rfl) (by omega) (by omega) rfl (hz.trans (brC_f (brQ_f2 (Int32.not_le.mpr h_37))))) ⟨rfl, rfl, rfl, rfl, trivial⟩
        · skip
          rw [show putA N 17 0 p 26 w 1 = s 4 from hCN.2.1.2.1] at h_37
          have hle := Int32.not_lt.mp h_37
          obtain ⟨a1, l1, e1⟩ := (rg_iff (b := 99) (by decide)).mp g1
          obtain ⟨a2, l2, e2⟩ := faF_le (k := mk s (f k) 0)
          refine q_iinc 43 dX4_breathOn_40 rfl rfl (by decide) rfl rfl ?_
          refine q_aload_n 44 dX4_breathOn_43 rfl rfl ?_
          refine q_getR 47 dX4_breathOn_44 rfl fl_X4_33 hw rfl rfl ?_
          refine q_iload_n 48 dX4_breathOn_47 rfl rfl ?_
          refine q_sipush (v := 9999) 51 dX4_breathOn_48 rfl rfl ?_
          refine q_aload_n 52 dX4_breathOn_51 rfl rfl ?_
          refine q_getR 55 dX4_breathOn_52 rfl fl_X4_33 hw rfl rfl ?_
          refine q_iload_n 56 dX4_breathOn_55 rfl rfl ?_
          refine q_iald 57 dX4_breathOn_56 rfl (by decide) hw rfl (show k < 10 by omega) ?_
          refine q_iconst (v := 1) 58 dX4_breathOn_57 rfl rfl ?_
          refine q_iadd 59 dX4_breathOn_58 rfl ?_
          refine q_mmin 62 dX4_breathOn_59 rfl cw_X4_97 ⟨by decide, by decide⟩ ⟨by decide, by decide⟩ (Nat.le_of_ble_eq_true rfl) ?_
          refine q_iast 63 dX4_breathOn_62 rfl (by decide) hw rfl (show k < 10 by omega) ?_
          refine q_aload_n 64 dX4_breathOn_63 rfl rfl ?_
          refine q_getR 67 dX4_breathOn_64 rfl fl_X4_24 hw rfl rfl ?_
          refine q_iload_n 68 dX4_breathOn_67 rfl rfl ?_
          refine q_iconst (v := 0) 69 dX4_breathOn_68 rfl rfl ?_
          refine q_aload_n 70 dX4_breathOn_69 rfl rfl ?_
          refine q_getR 73 dX4_breathOn_70 rfl fl_X4_24 hw rfl rfl ?_
          refine q_iload_n 74 dX4_breathOn_73 rfl rfl ?_
          refine q_iald 75 dX4_breathOn_74 rfl (by decide) hw rfl (show k < 10 by omega) ?_
          refine q_aload_n 76 dX4_breathOn_75 rfl rfl ?_
          refine q_iload_n 77 dX4_breathOn_76 rfl rfl ?_
          refine q_callVt 80 dX4_breathOn_77 rfl (c4_fades _ w hw _ k rfl (by omega)) cw_X4_120 hw rfl rfl ⟨by decide, by decide⟩ ⟨by decide, by decide⟩ (Nat.le_of_ble_eq_true rfl) ?_
          refine q_isub 81 dX4_breathOn_80 rfl ?_
          refine q_mmax 84 dX4_breathOn_81 rfl cw_X4_102 ⟨by decide, by decide⟩ ⟨by decide, by decide⟩ (Nat.le_of_ble_eq_true rfl) ?_
          refine q_iast 85 dX4_breathOn_84 rfl (by decide) hw rfl (show k < 10 by omega) ?_
          refine q_goto 101 dX4_breathOn_85 rfl ?_
          refine q_iinc 104 dX4_breathOn_101 rfl rfl (by decide) rfl (nI_1 k) ?_
          refine q_goto 4 dX4_breathOn_104 rfl ?_
          first
          | exact q_fg (ih (k + 1) _ _ _ (BrI_a hB r1 r4 h_19) (by omega) (by omega) rfl (hz.trans (brC_f (brQ_f1 h_19)))) ⟨rfl, rfl, rfl, rfl, trivial⟩
          | exact q_fg (ih (k + 1) _ _ _ (BrI_b hB h_19 hle (by rw [miF_le]; exact congrArg (fun x => leF 9999 (x + 1)) s4) (by rw [show (putA (putA N 17 0 p) 25 w (upd (putA N 17 0 p 25 w) k (miF 9999 (putA N 17 0 p 25 w k + 1)))) 22 w k = mk s (f k) 1 from s1, show (putA (putA N 17 0 p) 25 w (upd (putA N 17 0 p 25 w) k (miF 9999 (putA N 17 0 p 25 w k + 1)))) 21 w k = mk s (f k) 0 from s0, e1, e2]; exact max_wi (c := 99) l1 (by omega) (by decide))) (by omega) (by omega) rfl (by rw [hz]; exact brC_t (brQ_t h_19 hle))) ⟨rfl, rfl, rfl, rfl, trivial⟩
          | exact q_fg (ih (k + 1) _ _ _ (BrI_c hB r1 r4 h_19 (Int32.not_le.mpr h_37) rfl) (by omega) (by omega) rfl (hz.trans (brC_f (brQ_f2 (Int32.not_le.mpr h_37))))) ⟨rfl, rfl, rfl, rfl, trivial⟩
set_option maxRecDepth 100000 in
set_option maxHeartbeats 4000000 in
theorem c4_breathOn {g : GT} (M : TM) (w : Nat) (hw : w < 3) (s : SS) (m : Nat) (f : Nat → Nat) (hP : RP M w s m f) (hW : WK s) (hT : RT M s) (c : Int32) : Cn g yX4_breathOn cX4_breathOn 5 (some .int) 4 [.ref (gad g 4 w), .int c] M (QB M w m s c f) := by
  refine Cn.ofTR (by decide +kernel) (Nat.le_of_ble_eq_true rfl) ?_
  refine q_iconst (v := 0) 1 dX4_breathOn_0 rfl rfl ?_
  refine q_istore_n 2 dX4_breathOn_1 rfl (by decide) rfl ?_
  refine q_iconst (v := 0) 3 dX4_breathOn_2 rfl rfl ?_
  refine q_istore_n 4 dX4_breathOn_3 rfl (by decide) rfl ?_
  exact q_fg (l4_breathOn M w hw s m f hP hW hT c (m + 1) 0 M _ _ BrI_0 (by omega) (by omega) rfl rfl) ⟨rfl, rfl, rfl, rfl, trivial⟩
