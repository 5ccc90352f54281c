/-! THE CLASS: chance, springs -/
def drM (M : TM) (w : Nat) : TM := putA M 4 w (upd (M 4 w) 15 (drF (M 4 w 15)))
theorem drM_RP {M : TM} {w m : Nat} {f : Nat → Nat} {s : SS} (hP : RP M w s m f) (h10 : nN s ≤ 10) : RP (drM M w) w (drS s) m f := by
  obtain ⟨hC, ⟨h11, hm⟩, hM⟩ := hP
  have o : ∀ i, i ≠ 8 → drS s i = s i := fun i hi => upd_n hi
  have q : ∀ i, i ≠ 15 → drM M w 4 w i = M 4 w i := fun i hi => by unfold drM; rw [putA_s, upd_n hi]
  refine ⟨RC_to hC h10 (o 0 (by omega)) (o 1 (by omega)) (fun k hk => o _ (by omega)) (fun i hi => o i (by omega)) (fun c hc => ?_) rfl rfl ?_ ?_, ⟨?_, hm⟩, fun i hi => ?_⟩
  · rw [o _ (by omega), o _ (by omega)]; exact ⟨(hC.1 c hc).1, (hC.1 c hc).2.1⟩
  · rw [o _ (by omega), o _ (by omega), o _ (by omega)]; exact hC.2.1
  · rw [o 7 (by omega), o 2 (by omega), q 13 (by omega), q 14 (by omega), show drS s 8 = drF (s 8) from upd_s]
    refine ⟨hC.2.2.2.1, hC.2.2.2.2.1, ?_⟩
    unfold drM; rw [putA_upd, hC.2.2.2.2.2]
  · rw [q 11 (by omega)]; exact h11
  · exact ⟨(hM i hi).1, by unfold RM mk; rw [o _ (by omega), o _ (by omega), o _ (by omega), o _ (by omega), o _ (by omega)]; exact (hM i hi).2⟩
theorem drM_kp {M : TM} {w : Nat} : Kp w M (drM M w) := Kp.put Kp.rf (by omega)
theorem drM_4 {M : TM} {w i : Nat} (h : i ≠ 15) : drM M w 4 w i = M 4 w i := by unfold drM; rw [putA_s, upd_n h]
theorem RP.z {M : TM} {w m : Nat} {f : Nat → Nat} {s : SS} (hP : RP M w s m f) : usF (drF (M 4 w 15)) = drA s := by unfold drA; rw [hP.1.2.2.2.2.2]
theorem drS_WK {s : SS} (h : WK s) : WK (drS s) := upd_WK h _ (Or.inr rfl)
theorem spF_t {s : SS} (h : rmF (drA s) 100 < s 5) : spF s = duF (drS (drS (drS s))) (rmF (drA (drS s)) 6).toNatClampNeg (rmF (drA (drS (drS s))) 10) := if_pos h
theorem spF_f {s : SS} (h : ¬ rmF (drA s) 100 < s 5) : spF s = drS s := if_neg h
abbrev QS (M : TM) (w m : Nat) (s : SS) (f : Nat → Nat) : Option Value → TM → Prop := fun r M' => r = none ∧ Kp w M M' ∧ RP M' w (spF s) m f ∧ ∀ i, i ≠ 13 → i ≠ 15 → M' 4 w i = M 4 w i
set_option maxRecDepth 100000 in
set_option maxHeartbeats 4000000 in
theorem c4_spoonByChance {g : GT} (M : TM) (w : Nat) (hw : w < 3) (s : SS) (m : Nat) (f : Nat → Nat) (hP : RP M w s m f) (hW : WK s) : Cn g yX4_spoonByChance cX4_spoonByChance 2 none 2 [.ref (gad g 4 w)] M (QS M w m s f) := by
  refine Cn.ofTR (by decide +kernel) (Nat.le_of_ble_eq_true rfl) ?_
  have hP1 := drM_RP hP hW.1.2
  have hP2 := drM_RP hP1 (drS_WK hW).1.2
  have hP3 := drM_RP hP2 (drS_WK (drS_WK hW)).1.2
  obtain ⟨a, a6, ea⟩ := drA_6 (drS s)
  obtain ⟨b, b10, eb⟩ := drA_10 (drS (drS s))
  refine q_aload_n 1 dX4_spoonByChance_0 rfl rfl ?_
  refine q_callVt 4 dX4_spoonByChance_1 rfl (c4_draw _ w hw) cw_X4_124 hw rfl rfl ⟨by decide, by decide⟩ ⟨by decide, by decide⟩ (Nat.le_of_ble_eq_true rfl) ?_
  refine q_bipush (v := 100) 6 dX4_spoonByChance_4 rfl rfl ?_
  refine q_irem 7 dX4_spoonByChance_6 rfl (by decide) ?_
  refine q_aload_n 8 dX4_spoonByChance_7 rfl rfl ?_
  refine q_getR 11 dX4_spoonByChance_8 rfl fl_X4_36 hw rfl rfl ?_
  refine q_iconst (v := 2) 12 dX4_spoonByChance_11 rfl rfl ?_
  refine q_iald 13 dX4_spoonByChance_12 rfl (by decide) hw rfl (by decide) ?_
  refine q_icmp_ge 37 16 dX4_spoonByChance_13 rfl rfl (fun h_13 => ?_) (fun h_13 => ?_)
  · skip
    have h13 := h_13
    rw [show putA M 4 w (upd (M 4 w) 15 (drF (M 4 w 15))) 26 w 2 = s 5 from hP.1.2.1.2.2, show usF (drF (M 4 w 15)) - usF (drF (M 4 w 15)) / 100 * 100 = rmF (drA s) 100 by rw [hP.z]; rfl] at h13
    refine q_vret dX4_spoonByChance_37 ?_
    first
    | (have hq := Int32.not_lt.mpr h13; refine ⟨rfl, drM_kp, ?_, fun i _ h => drM_4 h⟩; rw [spF_f hq]; exact hP1)
    | (have hq := Int32.not_le.mp h13; refine ⟨rfl, (drM_kp.tr drM_kp).tr (drM_kp.tr dgO_kp), ?_, fun i h1 h2 => ?_⟩; (rw [spF_t hq, ea, eb, nI_clamp (by omega)]; exact dgO_RP hP3 (drS_WK (drS_WK (drS_WK hW))).1.2 a6); (rw [dgO_4, upd_n h1, drM_4 h2, drM_4 h2, drM_4 h2]))
  · skip
    have h13 := h_13
    rw [show putA M 4 w (upd (M 4 w) 15 (drF (M 4 w 15))) 26 w 2 = s 5 from hP.1.2.1.2.2, show usF (drF (M 4 w 15)) - usF (drF (M 4 w 15)) / 100 * 100 = rmF (drA s) 100 by rw [hP.z]; rfl] at h13
    refine q_aload_n 17 dX4_spoonByChance_16 rfl rfl ?_
    refine q_callVt 20 dX4_spoonByChance_17 rfl (c4_draw _ w hw) cw_X4_124 hw rfl rfl ⟨by decide, by decide⟩ ⟨by decide, by decide⟩ (Nat.le_of_ble_eq_true rfl) ?_
    refine q_bipush (v := 6) 22 dX4_spoonByChance_20 rfl rfl ?_
    refine q_irem 23 dX4_spoonByChance_22 rfl (by decide) ?_
    refine q_istore_n 24 dX4_spoonByChance_23 rfl (by decide) rfl ?_
    refine q_aload_n 25 dX4_spoonByChance_24 rfl rfl ?_
    refine q_iload_n 26 dX4_spoonByChance_25 rfl rfl ?_
    refine q_aload_n 27 dX4_spoonByChance_26 rfl rfl ?_
    refine q_callVt 30 dX4_spoonByChance_27 rfl (c4_draw _ w hw) cw_X4_124 hw rfl rfl ⟨by decide, by decide⟩ ⟨by decide, by decide⟩ (Nat.le_of_ble_eq_true rfl) ?_
    refine q_bipush (v := 10) 32 dX4_spoonByChance_30 rfl rfl ?_
    refine q_irem 33 dX4_spoonByChance_32 rfl (by decide) ?_
    refine q_callVt 36 dX4_spoonByChance_33 rfl (c4_digOut (drM (drM (drM M w) w) w) w hw _ m f hP3 (drS_WK (drS_WK (drS_WK hW))) _ _ a b ((congrArg (fun x => rmF x 6) hP1.z).trans ea) a6 ((congrArg (fun x => rmF x 10) hP2.z).trans eb) (by omega)) cw_X4_128 hw rfl rfl ⟨by decide, by decide⟩ ⟨by decide, by decide⟩ (Nat.le_of_ble_eq_true rfl) ?_
    refine q_pop 37 dX4_spoonByChance_36 rfl rfl ?_
    refine q_vret dX4_spoonByChance_37 ?_
    first
    | (have hq := Int32.not_lt.mpr h13; refine ⟨rfl, drM_kp, ?_, fun i _ h => drM_4 h⟩; rw [spF_f hq]; exact hP1)
    | (have hq := Int32.not_le.mp h13; refine ⟨rfl, (drM_kp.tr drM_kp).tr (drM_kp.tr dgO_kp), ?_, fun i h1 h2 => ?_⟩; (rw [spF_t hq, ea, eb, nI_clamp (by omega)]; exact dgO_RP hP3 (drS_WK (drS_WK (drS_WK hW))).1.2 a6); (rw [dgO_4, upd_n h1, drM_4 h2, drM_4 h2, drM_4 h2]))
theorem goN_s (s : SS) (n : Nat) : goN s (n + 1) = goF (goN s n) := rfl
theorem goN_WK {s : SS} (h : WK s) : ∀ n, WK (goN s n)
  | 0 => h
  | n + 1 => goF_WK (goN_WK h n)
/-- shown, and the best unseen, behind n springs -/
def brG (s : SS) (k : Nat) : SS := coN (goN s k) 6
def shV (s : SS) (f : Nat → Nat) (m : Nat) (v : Int32) : Nat → Int32
  | 0 => v
  | k + 1 => leF 99999 (shV s f m v k + brC (brG s k) (rmF (goN s k 2) 6) f m)
def buV (s : SS) (f : Nat → Nat) (m : Nat) (v : Int32) : Nat → Int32
  | 0 => v
  | k + 1 => buF (brG s k) (rmF (goN s k 2) 6) f (buV s f m v k) m
theorem spF_o {s : SS} (h : WK s) {i : Nat} (hi : i < 7 ∨ 71 ≤ i) : spF s i = s i := by
  obtain ⟨a, a6, ea⟩ := drA_6 (drS s)
  have hd : ∀ x : SS, drS x i = x i := fun x => upd_n (by omega)
  by_cases q : rmF (drA s) 100 < s 5
  · rw [spF_t q, ea, nI_clamp (by omega), duF_o (by omega) (by omega) (by omega) (fun j hj => by have := (drS_WK (drS_WK (drS_WK h))).1.2; omega), hd, hd, hd]
  · rw [spF_f q, hd]
theorem go_o {s : SS} (h : WK s) {i : Nat} (hi : i < 2 ∨ 3 ≤ i ∧ i < 6 ∨ 71 ≤ i) : goF s i = s i := by
  unfold goF
  have hw := coN_WK h 6 (Nat.le_refl 6)
  rw [upd_n (by omega), spF_o (brF_WK hw _) (by omega), brF_o (by omega) (fun j hj => by have := hw.1.2; omega), (coN_o h.1.2 6 (Nat.le_refl 6)).2 i (by omega)]
theorem goN_o {s : SS} (h : WK s) {i : Nat} (hi : i < 2 ∨ 3 ≤ i ∧ i < 6 ∨ 71 ≤ i) : ∀ n, goN s n i = s i
  | 0 => rfl
  | n + 1 => by rw [goN_s, go_o (goN_WK h n) hi, goN_o h hi n]
theorem shV_full {s : SS} (h : WK s) : ∀ n, shV s (fun i => i) (nN s) (s 6) n = goN s n 6
  | 0 => rfl
  | n + 1 => by
    have hw := coN_WK (goN_WK h n) 6 (Nat.le_refl 6)
    have hn : nN (brG s n) = nN s := (coN_o (goN_WK h n).1.2 6 (Nat.le_refl 6)).1.trans (nN_c (goN_o h (by omega) n))
    show leF 99999 (shV s (fun i => i) (nN s) (s 6) n + brC (brG s n) (rmF (goN s n 2) 6) (fun i => i) (nN s)) = _
    rw [shV_full h n, goN_s]
    unfold goF
    rw [upd_n (by omega), spF_o (brF_WK hw _) (by omega)]
    unfold brF
    rw [upd_s]
    show _ = leF 99999 (coN (goN s n) 6 6 + nI (cntB (brQ (brG s n) (rmF (goN s n 2) 6)) (nN (brG s n))))
    rw [hn, (coN_o (goN_WK h n).1.2 6 (Nat.le_refl 6)).2 6 (Or.inl (by omega))]
    rfl
abbrev QP (M : TM) (w m : Nat) (s : SS) (f : Nat → Nat) (n : Nat) : TM → Prop := fun M' => Kp w M M' ∧ RP M' w (goN s n) m f ∧ M' 4 w 16 = M 4 w 16 ∧ M' 4 w 12 = shV s f m (M 4 w 12) n ∧ M' 4 w 17 = buV s f m (M 4 w 17) n
theorem cAll_kp {M : TM} {w m : Nat} {f : Nat → Nat} {s : SS} : Kp w M (cAll M w m f s) := Kp.put (Kp.put (Kp.put Kp.rf (by omega)) (by omega)) (by omega)
theorem sp_RP {M : TM} {w m : Nat} {f : Nat → Nat} {s : SS} (hP : RP M w s m f) (h10 : nN s ≤ 10) (v : Int32) : RP (putA M 4 w (upd (M 4 w) 14 v)) w (upd s 2 v) m f := by
  obtain ⟨hC, ⟨h11, hm⟩, hM⟩ := hP
  have o : ∀ i, i ≠ 2 → upd s 2 v i = s i := fun i hi => upd_n hi
  have q : ∀ i, i ≠ 14 → putA M 4 w (upd (M 4 w) 14 v) 4 w i = M 4 w i := fun i hi => by rw [putA_s, upd_n hi]
  refine ⟨RC_to hC h10 (o 0 (by omega)) (o 1 (by omega)) (fun k hk => o _ (by omega)) (fun i hi => o i (by omega)) (fun c hc => ?_) rfl rfl ?_ ?_, ⟨?_, hm⟩, fun i hi => ?_⟩
  · rw [o _ (by omega), o _ (by omega)]; exact ⟨(hC.1 c hc).1, (hC.1 c hc).2.1⟩
  · rw [o _ (by omega), o _ (by omega), o _ (by omega)]; exact hC.2.1
  · rw [o 7 (by omega), o 8 (by omega), q 13 (by omega), q 15 (by omega), upd_s, putA_upd]; exact ⟨hC.2.2.2.1, rfl, hC.2.2.2.2.2⟩
  · rw [q 11 (by omega)]; exact h11
  · exact ⟨(hM i hi).1, by unfold RM mk; rw [o _ (by omega), o _ (by omega), o _ (by omega), o _ (by omega), o _ (by omega)]; exact (hM i hi).2⟩
set_option maxRecDepth 100000 in
set_option maxHeartbeats 4000000 in
theorem l4_pass {g : GT} (M : TM) (w : Nat) (hw : w < 3) (s : SS) (m : Nat) (f : Nat → Nat) (hP : RP M w s m f) (hW : WK s) (hT : RT M s) (x : Int32) (n : Nat) (hx : x = nI n) (hn : n < 20000) : ∀ (j : Nat) (k : Nat) (N : TM) (y : Int32), QP M w m s f k N → n - k < j → k ≤ n → y = nI k → TR g (rmD 5) RX4 cX4_pass 3 none 0 0 (Zm g (fun r M' => r = none ∧ QP M w m s f n M')) 2 [some (.ref (gad g 4 w)), some (.int x), some (.int y)] [] N := by
  intro j
  induction j with
  | zero => intro k N y hQ hj hk hy; exact absurd hj (by omega)
  | succ j ih =>
    intro k N y hQ hj hk hy
    subst hy
    obtain ⟨q1, q2, q3, q4, q5⟩ := hQ
    have hWk := goN_WK hW k
    have hWc := coN_WK hWk 6 (Nat.le_refl 6)
    have hPc := cAll_RP q2 hWk
    have hTk := RT_to (hT.kp (q1.tr (cAll_kp (m := m) (f := f) (s := goN s k)))) (s' := brG s k) (((coN_o hWk.1.2 6 (Nat.le_refl 6)).2 1 (Or.inl (by omega))).trans (goN_o hW (by omega) k)) (fun i hi => ((coN_o hWk.1.2 6 (Nat.le_refl 6)).2 i (Or.inr (Or.inl hi))).trans (goN_o hW (by omega) k))
    refine q_iload_n 3 dX4_pass_2 rfl rfl ?_
    refine q_iload_n 4 dX4_pass_3 rfl rfl ?_
    refine q_icmp_ge 43 7 dX4_pass_4 rfl rfl (fun h_4 => ?_) (fun h_4 => ?_)
    · skip
      rw [hx, nI_leI (by omega) (by omega)] at h_4
      refine q_vret dX4_pass_43 ?_
      have hkm : k = n := by omega
      subst hkm
      exact ⟨rfl, q1, q2, q3, q4, q5⟩
    · skip
      rw [hx, nI_leI (by omega) (by omega)] at h_4
      refine q_aload_n 8 dX4_pass_7 rfl rfl ?_
      refine q_callVv 11 dX4_pass_8 rfl (c4_coatAll _ w hw _ m f q2 hWk) cw_X4_131 hw rfl rfl ⟨by decide, by decide⟩ ⟨by decide, by decide⟩ (Nat.le_of_ble_eq_true rfl) ?_
      refine q_aload_n 12 dX4_pass_11 rfl rfl ?_
      refine q_aload_n 13 dX4_pass_12 rfl rfl ?_
      refine q_getI 16 dX4_pass_13 rfl fl_X4_75 hw rfl (by decide) ?_
      refine q_bipush (v := 6) 18 dX4_pass_16 rfl rfl ?_
      refine q_irem 19 dX4_pass_18 rfl (by decide) ?_
      refine q_callV 22 dX4_pass_19 rfl (c4_breathOn _ w hw (brG s k) m f hPc hWc hTk _) cw_X4_134 hw rfl rfl ⟨by decide, by decide⟩ ⟨by decide, by decide⟩ (Nat.le_of_ble_eq_true rfl) ?_
      rintro _ N2 ⟨rfl, b2, b3, b4⟩
      refine q_pop 23 dX4_pass_22 rfl rfl ?_
      refine q_aload_n 24 dX4_pass_23 rfl rfl ?_
      refine q_callV 27 dX4_pass_24 rfl (c4_spoonByChance _ w hw _ m f b3 (brF_WK hWc _)) cw_X4_137 hw rfl rfl ⟨by decide, by decide⟩ ⟨by decide, by decide⟩ (Nat.le_of_ble_eq_true rfl) ?_
      rintro _ N3 ⟨rfl, d2, d3, d4⟩
      refine q_aload_n 28 dX4_pass_27 rfl rfl ?_
      refine q_dup 29 dX4_pass_28 rfl rfl ?_
      refine q_getI 32 dX4_pass_29 rfl fl_X4_75 hw rfl (by decide) ?_
      refine q_iconst (v := 1) 33 dX4_pass_32 rfl rfl ?_
      refine q_iadd 34 dX4_pass_33 rfl ?_
      refine q_putI 37 dX4_pass_34 rfl fl_X4_75 fp_4_14 hw rfl (by decide) rfl rfl ?_
      refine q_iinc 40 dX4_pass_37 rfl rfl (by decide) rfl (nI_1 k) ?_
      refine q_goto 2 dX4_pass_40 rfl ?_
      have e14 : cAll N w m f (goN s k) 4 w 14 = goN s k 2 := q2.1.2.2.2.2.1
      have ex : cAll N w m f (goN s k) 4 w 14 - cAll N w m f (goN s k) 4 w 14 / 6 * 6 = rmF (goN s k 2) 6 := by rw [e14]; rfl
      rw [ex] at b3 b4 d3
      have e3 : N3 4 w 14 = goN s k 2 := by rw [d4 14 (by decide) (by decide), b4, upd_n (by decide), upd_n (by decide)]; exact e14
      refine q_fg (ih (k + 1) _ _ ⟨((q1.tr cAll_kp).tr b2).tr (d2.tr (Kp.put Kp.rf (by omega))), ?_, ?_, ?_, ?_⟩ (by omega) (by omega) rfl) ⟨rfl, rfl, rfl, trivial⟩
      · rw [e3]; exact sp_RP d3 (spF_WK (brF_WK hWc _)).1.2 _
      · rw [putA_s, upd_n (by decide), d4 16 (by decide) (by decide), b4, upd_n (by decide), upd_n (by decide)]; exact q3
      · rw [putA_s, upd_n (by decide), d4 12 (by decide) (by decide), b4, upd_s, show cAll N w m f (goN s k) 4 w 12 = N 4 w 12 from rfl, q4]; rfl
      · rw [putA_s, upd_n (by decide), d4 17 (by decide) (by decide), b4, upd_n (by decide), upd_s, show cAll N w m f (goN s k) 4 w 17 = N 4 w 17 from rfl, q5]; rfl
set_option maxRecDepth 100000 in
set_option maxHeartbeats 4000000 in
theorem c4_pass {g : GT} (M : TM) (w : Nat) (hw : w < 3) (s : SS) (m : Nat) (f : Nat → Nat) (hP : RP M w s m f) (hW : WK s) (hT : RT M s) (x : Int32) (n : Nat) (hx : x = nI n) (hn : n < 20000) : Cn g yX4_pass cX4_pass 3 none 5 [.ref (gad g 4 w), .int x] M (fun r M' => r = none ∧ QP M w m s f n M') := by
  refine Cn.ofTR (by decide +kernel) (Nat.le_of_ble_eq_true rfl) ?_
  refine q_iconst (v := 0) 1 dX4_pass_0 rfl rfl ?_
  refine q_istore_n 2 dX4_pass_1 rfl (by decide) rfl ?_
  exact q_fg (l4_pass M w hw s m f hP hW hT x n hx hn (n + 1) 0 M _ ⟨Kp.rf, hP, rfl, rfl, rfl⟩ (by omega) (by omega) rfl) ⟨rfl, rfl, rfl, trivial⟩
