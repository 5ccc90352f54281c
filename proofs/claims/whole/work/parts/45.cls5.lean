/-! THE CLASS: digging, chance, springs -/
def dgM (M : TM) (w : Nat) (s : SS) (c : Nat) (n : Int32) : TM := putA (putA (putA M 19 w (upd (M 19 w) c (s (15 + c) - duA s c n))) 4 w (upd (M 4 w) 13 (leF 99999 (s 7 + duA s c n)))) 18 w (upd (M 18 w) c (leF 99 (s (9 + c) + n / s 3)))
def dgD (s : SS) (c n : Int32) (f : Nat → Nat) (i : Nat) : Int32 := if mk s (f i) 3 = c then wiF (mk s (f i) 2 - n) 9999 else mk s (f i) 2
def dgO (M : TM) (w m : Nat) (f : Nat → Nat) (s : SS) (c : Nat) (n : Int32) (k : Nat) : TM := putA (dgM M w s c n) 23 w (mixF (dgD s (nI c) n f) (M 23 w) k)
theorem du1_o {s : SS} {c : Nat} {n : Int32} {i : Nat} (h1 : i ≠ 9 + c) (h2 : i ≠ 15 + c) (h7 : i ≠ 7) : du1 s c n i = s i := by unfold du1; rw [upd_n h1, upd_n h7, upd_n h2]
theorem duF_d {s : SS} {c k : Nat} {n : Int32} (h6 : c < 6) (hk : k < nN s) : duF s c n (21 + 5 * k + 2) = if mk s k 3 = nI c then wiF (mk s k 2 - n) 9999 else mk s k 2 := by
  unfold duF
  rw [ddp_at _ _ _ _ hk]
  have e : ∀ w, mk (du1 s c n) k w = mk s k w := fun w => du1_o (by omega) (by omega) (by omega)
  rw [e, e]
theorem duF_w {s : SS} {c : Nat} {n : Int32} (h6 : c < 6) : duF s c n (9 + c) = leF 99 (s (9 + c) + n / s 3) ∧ duF s c n (15 + c) = s (15 + c) - duA s c n ∧ duF s c n 7 = leF 99999 (s 7 + duA s c n) := by
  unfold duF
  rw [ddp_n _ _ _ _ _ (fun j _ => by omega), ddp_n _ _ _ _ _ (fun j _ => by omega), ddp_n _ _ _ _ _ (fun j _ => by omega)]
  unfold du1
  rw [upd_s, upd_n (show 15 + c ≠ 9 + c by omega), upd_n (show 15 + c ≠ 7 by omega), upd_s, upd_n (show 7 ≠ 9 + c by omega), upd_s]
  exact ⟨rfl, rfl, rfl⟩
theorem dgO_RP {M : TM} {w m : Nat} {f : Nat → Nat} {s : SS} {c : Nat} {n : Int32} (hP : RP M w s m f) (h10 : nN s ≤ 10) (h6 : c < 6) : RP (dgO M w m f s c n m) w (duF s c n) m f := by
  obtain ⟨hC, ⟨h11, hm⟩, hM⟩ := hP
  obtain ⟨w1, w2, w3⟩ := duF_w (s := s) (n := n) h6
  have o : ∀ i, i ≠ 9 + c → i ≠ 15 + c → i ≠ 7 → (∀ j, j < 10 → i ≠ 21 + 5 * j + 2) → duF s c n i = s i := fun i a b d e => duF_o a b d (fun j hj => e j (by omega))
  have e18 : dgO M w m f s c n m 18 w = upd (M 18 w) c (leF 99 (s (9 + c) + n / s 3)) := by unfold dgO dgM; rw [putA_nt _ _ _ _ (by decide), putA_s]
  have e19 : dgO M w m f s c n m 19 w = upd (M 19 w) c (s (15 + c) - duA s c n) := by unfold dgO dgM; rw [putA_nt _ _ _ _ (by decide), putA_nt _ _ _ _ (by decide), putA_nt _ _ _ _ (by decide), putA_s]
  have e4 : dgO M w m f s c n m 4 w = upd (M 4 w) 13 (leF 99999 (s 7 + duA s c n)) := by unfold dgO dgM; rw [putA_nt _ _ _ _ (by decide), putA_nt _ _ _ _ (by decide), putA_s]
  have e23 : dgO M w m f s c n m 23 w = mixF (dgD s (nI c) n f) (M 23 w) m := putA_s _ _ _ _
  refine ⟨RC_to hC h10 (o 0 (by omega) (by omega) (by omega) (fun j _ => by omega)) (o 1 (by omega) (by omega) (by omega) (fun j _ => by omega)) (fun k hk => o _ (by omega) (by omega) (by omega) (fun j _ => by omega)) (fun i hi => o i (by omega) (by omega) (by omega) (fun j hj => by omega)) (fun c' hc' => ?_) rfl rfl ?_ ?_, ⟨?_, hm⟩, fun i hi => ?_⟩
  · obtain ⟨a1, a2, a3⟩ := hC.1 c' hc'
    rw [e18, e19]
    by_cases e : c' = c
    · subst e
      rw [upd_s, upd_s, w1, w2]; exact ⟨rfl, rfl⟩
    · rw [upd_n e, upd_n e, o _ (by omega) (by omega) (by omega) (fun j _ => by omega), o _ (by omega) (by omega) (by omega) (fun j _ => by omega)]; exact ⟨a1, a2⟩
  · rw [o 3 (by omega) (by omega) (by omega) (fun j _ => by omega), o 4 (by omega) (by omega) (by omega) (fun j _ => by omega), o 5 (by omega) (by omega) (by omega) (fun j _ => by omega)]; exact hC.2.1
  · rw [e4, upd_s, upd_n (by omega), upd_n (by omega), w3, o 2 (by omega) (by omega) (by omega) (fun j _ => by omega), o 8 (by omega) (by omega) (by omega) (fun j _ => by omega)]; exact ⟨rfl, hC.2.2.2.2⟩
  · rw [e4, upd_n (by omega)]; exact h11
  · obtain ⟨q, r0, r1, r2, r3, r4⟩ := hM i hi
    have o2 : ∀ w', w' < 5 → w' ≠ 2 → mk (duF s c n) (f i) w' = mk s (f i) w' := fun w' _ _ => o _ (by omega) (by omega) (by omega) (fun j _ => by omega)
    refine ⟨by rw [nN_c (o 0 (by omega) (by omega) (by omega) (fun j _ => by omega))]; exact q, ?_⟩
    unfold RM
    rw [o2 0 (by omega) (by omega), o2 1 (by omega) (by omega), o2 3 (by omega) (by omega), o2 4 (by omega) (by omega), e23, mix_lo _ _ hi]
    exact ⟨r0, r1, (duF_d h6 q).symm, r3, r4⟩
theorem dgO_kp {M : TM} {w m : Nat} {f : Nat → Nat} {s : SS} {c : Nat} {n : Int32} {k : Nat} : Kp w M (dgO M w m f s c n k) := Kp.put (Kp.put (Kp.put (Kp.put Kp.rf (by omega)) (by omega)) (by omega)) (by omega)
theorem dgO_4 {M : TM} {w m : Nat} {f : Nat → Nat} {s : SS} {c : Nat} {n : Int32} {k : Nat} : dgO M w m f s c n k 4 w = upd (M 4 w) 13 (leF 99999 (s 7 + duA s c n)) := by unfold dgO dgM; rw [putA_nt _ _ _ _ (by decide), putA_nt _ _ _ _ (by decide), putA_s]
set_option maxRecDepth 100000 in
set_option maxHeartbeats 4000000 in
theorem l4_digOut {g : GT} (M : TM) (w : Nat) (hw : w < 3) (s : SS) (m : Nat) (f : Nat → Nat) (hP : RP M w s m f) (hW : WK s) (x y t : Int32) (c n : Nat) (hx : x = nI c) (h6 : c < 6) (hy : y = nI n) (h99 : n ≤ 99) : ∀ (j : Nat) (k : Nat) (z l : Int32), m - k < j → k ≤ m → z = nI k → l = duA s c (nI n) → TR g (rmD 1) RX4 cX4_digOut 6 (some .int) 0 0 (Zm g (Rt (.int (duA s c (nI n))) (dgO M w m f s c (nI n) m))) 78 [some (.ref (gad g 4 w)), some (.int x), some (.int y), some (.int l), some (.int t), some (.int z)] [] (dgO M w m f s c (nI n) k) := by
  intro j
  induction j with
  | zero => intro k z l hj hk hz hl; exact absurd hj (by omega)
  | succ j ih =>
    intro k z l hj hk hz hl
    subst hz
    obtain ⟨hC, ⟨h11, hm10⟩, hM⟩ := hP
    have hv11 : (dgO M w m f s c (nI n) k) 4 w 11 = nI m := by rw [dgO_4, upd_n (by decide)]; exact h11
    refine q_iload 80 dX4_digOut_78 rfl rfl ?_
    refine q_aload_n 81 dX4_digOut_80 rfl rfl ?_
    refine q_getI 84 dX4_digOut_81 rfl fl_X4_66 hw rfl (by decide) ?_
    refine q_icmp_ge 124 87 dX4_digOut_84 rfl rfl (fun h_84 => ?_) (fun h_84 => ?_)
    · skip
      rw [hv11, nI_leI (by omega) (by omega)] at h_84
      refine q_iload_n 125 dX4_digOut_124 rfl rfl ?_
      refine q_iret dX4_digOut_125 ?_
      have hkm : k = m := by omega
      subst hkm
      exact ⟨congrArg (fun x => some (Value.int x)) hl, rfl⟩
    · skip
      rw [hv11, nI_leI (by omega) (by omega)] at h_84
      have hkm : k < m := by omega
      obtain ⟨q, r0, r1, r2, r3, r4⟩ := hM k hkm
      have hv : (dgO M w m f s c (nI n) k) 23 w k = mk s (f k) 2 := by unfold dgO; rw [putA_s, mix_hi _ _ (Nat.le_refl k)]; exact r2
      have hq10 : f k < 10 := Nat.lt_of_lt_of_le q hW.1.2
      obtain ⟨a2, l2, e2⟩ := (rg_iff (b := 9999) (by decide)).mp (hW.2.2.2.1 (f k) hq10).2.2.1
      refine q_aload_n 88 dX4_digOut_87 rfl rfl ?_
      refine q_getR 91 dX4_digOut_88 rfl fl_X4_30 hw rfl rfl ?_
      refine q_iload 93 dX4_digOut_91 rfl rfl ?_
      refine q_iald 94 dX4_digOut_93 rfl (by decide) hw rfl (show k < 10 by omega) ?_
      refine q_iload_n 95 dX4_digOut_94 rfl rfl ?_
      refine q_icmp_ne 118 98 dX4_digOut_95 rfl rfl (fun h_95 => ?_) (fun h_95 => ?_)
      · skip
        rw [show (dgO M w m f s c (nI n) k) 24 w k = mk s (f k) 3 from r3, hx] at h_95
        refine q_iinc 121 dX4_digOut_118 rfl rfl (by decide) rfl (nI_1 k) ?_
        refine q_goto 78 dX4_digOut_121 rfl ?_
        first
        | exact q_eqM (M' := (dgO M w m f s c (nI n) (k + 1))) (by unfold dgO; rw [mix_same (show dgD s (nI c) (nI n) f k = M 23 w k by unfold dgD; rw [if_neg h_95]; exact r2.symm)]) (q_fg (ih (k + 1) _ _ (by omega) (by omega) rfl hl) ⟨rfl, rfl, rfl, rfl, rfl, rfl, trivial⟩)
        | exact q_eqM (M' := (dgO M w m f s c (nI n) (k + 1))) (by rw [hv, hy, e2, max_wi (c := 9999) l2 (by omega) (by decide)]; unfold dgO; rw [putA_pp, putA_s, ← mixF_s, show dgD s (nI c) (nI n) f k = wiF (nI a2 - nI n) (nI 9999) by unfold dgD; rw [if_pos h_95, e2]; rfl]) (q_fg (ih (k + 1) _ _ (by omega) (by omega) rfl hl) ⟨rfl, rfl, rfl, rfl, rfl, rfl, trivial⟩)
      · skip
        rw [show (dgO M w m f s c (nI n) k) 24 w k = mk s (f k) 3 from r3, hx] at h_95
        refine q_aload_n 99 dX4_digOut_98 rfl rfl ?_
        refine q_getR 102 dX4_digOut_99 rfl fl_X4_27 hw rfl rfl ?_
        refine q_iload 104 dX4_digOut_102 rfl rfl ?_
        refine q_iconst (v := 0) 105 dX4_digOut_104 rfl rfl ?_
        refine q_aload_n 106 dX4_digOut_105 rfl rfl ?_
        refine q_getR 109 dX4_digOut_106 rfl fl_X4_27 hw rfl rfl ?_
        refine q_iload 111 dX4_digOut_109 rfl rfl ?_
        refine q_iald 112 dX4_digOut_111 rfl (by decide) hw rfl (show k < 10 by omega) ?_
        refine q_iload_n 113 dX4_digOut_112 rfl rfl ?_
        refine q_isub 114 dX4_digOut_113 rfl ?_
        refine q_mmax 117 dX4_digOut_114 rfl cw_X4_102 ⟨by decide, by decide⟩ ⟨by decide, by decide⟩ (Nat.le_of_ble_eq_true rfl) ?_
        refine q_iast 118 dX4_digOut_117 rfl (by decide) hw rfl (show k < 10 by omega) ?_
        refine q_iinc 121 dX4_digOut_118 rfl rfl (by decide) rfl (nI_1 k) ?_
        refine q_goto 78 dX4_digOut_121 rfl ?_
        first
        | exact q_eqM (M' := (dgO M w m f s c (nI n) (k + 1))) (by unfold dgO; rw [mix_same (show dgD s (nI c) (nI n) f k = M 23 w k by unfold dgD; rw [if_neg h_95]; exact r2.symm)]) (q_fg (ih (k + 1) _ _ (by omega) (by omega) rfl hl) ⟨rfl, rfl, rfl, rfl, rfl, rfl, trivial⟩)
        | exact q_eqM (M' := (dgO M w m f s c (nI n) (k + 1))) (by rw [hv, hy, e2, max_wi (c := 9999) l2 (by omega) (by decide)]; unfold dgO; rw [putA_pp, putA_s, ← mixF_s, show dgD s (nI c) (nI n) f k = wiF (nI a2 - nI n) (nI 9999) by unfold dgD; rw [if_pos h_95, e2]; rfl]) (q_fg (ih (k + 1) _ _ (by omega) (by omega) rfl hl) ⟨rfl, rfl, rfl, rfl, rfl, rfl, trivial⟩)
set_option maxRecDepth 100000 in
set_option maxHeartbeats 4000000 in
theorem c4_digOut {g : GT} (M : TM) (w : Nat) (hw : w < 3) (s : SS) (m : Nat) (f : Nat → Nat) (hP : RP M w s m f) (hW : WK s) (x y : Int32) (c n : Nat) (hx : x = nI c) (h6 : c < 6) (hy : y = nI n) (h99 : n ≤ 99) : Cn g yX4_digOut cX4_digOut 6 (some .int) 1 [.ref (gad g 4 w), .int x, .int y] M (Rt (.int (duA s c (nI n))) (dgO M w m f s c (nI n) m)) := by
  refine Cn.ofTR (by decide +kernel) (Nat.le_of_ble_eq_true rfl) ?_
  have hC := hP.1
  obtain ⟨c1, c2, c3⟩ := hC.1 c h6
  obtain ⟨t, t1, t9, et⟩ := hW.t3
  have e26 : M 26 w 0 = nI t := hC.2.1.1.trans et
  have hth : ¬ M 26 w 0 ≤ 0 := by rw [e26, show (0 : Int32) = nI 0 from rfl, nI_leI (by omega) (by omega)]; omega
  have hz0 : ¬ M 26 w 0 = 0 := by rw [e26]; exact nI_ne0 (by omega) (by omega)
  refine q_iload_n 1 dX4_digOut_0 rfl rfl ?_
  refine q_aload_n 2 dX4_digOut_1 rfl rfl ?_
  refine q_getR 5 dX4_digOut_2 rfl fl_X4_15 hw rfl rfl ?_
  refine q_iload_n 6 dX4_digOut_5 rfl rfl ?_
  refine q_iald 7 dX4_digOut_6 rfl (by decide) hw hx h6 ?_
  refine q_mmin 10 dX4_digOut_7 rfl cw_X4_97 ⟨by decide, by decide⟩ ⟨by decide, by decide⟩ (Nat.le_of_ble_eq_true rfl) ?_
  refine q_istore_n 11 dX4_digOut_10 rfl (by decide) rfl ?_
  refine q_aload_n 12 dX4_digOut_11 rfl rfl ?_
  refine q_getR 15 dX4_digOut_12 rfl fl_X4_15 hw rfl rfl ?_
  refine q_iload_n 16 dX4_digOut_15 rfl rfl ?_
  refine q_dup2 17 dX4_digOut_16 rfl rfl rfl ?_
  refine q_iald 18 dX4_digOut_17 rfl (by decide) hw hx h6 ?_
  refine q_iload_n 19 dX4_digOut_18 rfl rfl ?_
  refine q_isub 20 dX4_digOut_19 rfl ?_
  refine q_iast 21 dX4_digOut_20 rfl (by decide) hw hx h6 ?_
  refine q_aload_n 22 dX4_digOut_21 rfl rfl ?_
  refine q_ldc 24 dX4_digOut_22 rfl cs_X4_123 ?_
  refine q_aload_n 25 dX4_digOut_24 rfl rfl ?_
  refine q_getI 28 dX4_digOut_25 rfl fl_X4_72 hw rfl (by decide) ?_
  refine q_iload_n 29 dX4_digOut_28 rfl rfl ?_
  refine q_iadd 30 dX4_digOut_29 rfl ?_
  refine q_mmin 33 dX4_digOut_30 rfl cw_X4_97 ⟨by decide, by decide⟩ ⟨by decide, by decide⟩ (Nat.le_of_ble_eq_true rfl) ?_
  refine q_putI 36 dX4_digOut_33 rfl fl_X4_72 fp_4_13 hw rfl (by decide) rfl rfl ?_
  refine q_aload_n 37 dX4_digOut_36 rfl rfl ?_
  refine q_getR 40 dX4_digOut_37 rfl fl_X4_36 hw rfl rfl ?_
  refine q_iconst (v := 0) 41 dX4_digOut_40 rfl rfl ?_
  refine q_iald 42 dX4_digOut_41 rfl (by decide) hw rfl (by decide) ?_
  refine q_istore 44 dX4_digOut_42 rfl (by decide) rfl ?_
  refine q_aload_n 45 dX4_digOut_44 rfl rfl ?_
  refine q_getR 48 dX4_digOut_45 rfl fl_X4_9 hw rfl rfl ?_
  refine q_iload_n 49 dX4_digOut_48 rfl rfl ?_
  refine q_bipush (v := 99) 51 dX4_digOut_49 rfl rfl ?_
  refine q_aload_n 52 dX4_digOut_51 rfl rfl ?_
  refine q_getR 55 dX4_digOut_52 rfl fl_X4_9 hw rfl rfl ?_
  refine q_iload_n 56 dX4_digOut_55 rfl rfl ?_
  refine q_iald 57 dX4_digOut_56 rfl (by decide) hw hx h6 ?_
  refine q_iload 59 dX4_digOut_57 rfl rfl ?_
  refine q_if_le 69 62 dX4_digOut_59 rfl rfl (fun h_59 => absurd h_59 hth) (fun _ => ?_)
  refine q_iload_n 63 dX4_digOut_62 rfl rfl ?_
  refine q_iload 65 dX4_digOut_63 rfl rfl ?_
  refine q_idiv 66 dX4_digOut_65 rfl hz0 ?_
  refine q_goto 70 dX4_digOut_66 rfl ?_
  refine q_iadd 71 dX4_digOut_70 rfl ?_
  refine q_mmin 74 dX4_digOut_71 rfl cw_X4_97 ⟨by decide, by decide⟩ ⟨by decide, by decide⟩ (Nat.le_of_ble_eq_true rfl) ?_
  refine q_iast 75 dX4_digOut_74 rfl (by decide) hw hx h6 ?_
  refine q_iconst (v := 0) 76 dX4_digOut_75 rfl rfl ?_
  refine q_istore 78 dX4_digOut_76 rfl (by decide) rfl ?_
  have hdu : miF y (M 19 w c) = duA s c (nI n) := by rw [miF_le, c2, hy]; rfl
  refine q_eqM (M' := (dgO M w m f s c (nI n) 0)) ?_ (q_fg (l4_digOut M w hw s m f hP hW x y _ c n hx h6 hy h99 (m + 1) 0 _ _ (by omega) (by omega) rfl hdu) ⟨rfl, rfl, rfl, rfl, rfl, rfl, trivial⟩)
  unfold dgO
  rw [mixF_0, show M 23 w = dgM M w s c (nI n) 23 w from rfl, putA_id]
  unfold dgM
  rw [hdu]
  rw [show putA (putA M 19 w (upd (M 19 w) c (M 19 w c - duA s c (nI n)))) 4 w (upd (putA M 19 w (upd (M 19 w) c (M 19 w c - duA s c (nI n))) 4 w) 13 (miF 99999 (putA M 19 w (upd (M 19 w) c (M 19 w c - duA s c (nI n))) 4 w 13 + duA s c (nI n)))) 18 w c = s (9 + c) from c1, show putA M 19 w (upd (M 19 w) c (M 19 w c - duA s c (nI n))) 4 w 13 = s 7 from hC.2.2.2.1, c2, miF_le, miF_le, hy]
  simp only [show ∀ X Y : Nat → Int32, putA (putA M 19 w X) 4 w Y 26 w 0 = s 3 from fun _ _ => hC.2.1.1]
  rfl
