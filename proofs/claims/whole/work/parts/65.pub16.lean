/-! THE CLASS: like -/
def Kl (M N : TM) : Prop := ∀ t k, t ≠ 17 → t ≠ 30 → ¬ ((t = 4 ∨ (18 ≤ t ∧ t ≤ 27)) ∧ k = 2) → N t k = M t k
theorem Kl.kp {M N N' : TM} (h : Kl M N) (h2 : Kp 2 N N') : Kl M N' := fun t k a b c => (h2 t k a c).trans (h t k a b c)
theorem Kl.put {M N : TM} {F : Nat → Int32} (h : Kl M N) : Kl M (putA N 30 0 F) := fun t k a b c => (putA_nt _ _ _ _ b).trans (h t k a b c)
theorem Kl.rt {M N : TM} {s : SS} (k : Kl M N) (h : RT M s) : RT N s := by
  have e : ∀ t k', 13 ≤ t → t ≤ 16 → N t k' = M t k' := fun t k' h1 h2 => k t k' (by omega) (by omega) (by omega)
  intro t ht
  rw [e 14 0 (by omega) (by omega), e 15 0 (by omega) (by omega), e 16 0 (by omega) (by omega), e 13 t (by omega) (by omega)]
  exact h t ht
theorem uN_n {row : Nat → Int32} {s : SS} {one k : Nat} (h : row k = NONEc) : uN row s one (k + 1) = uN row s one k := by
  show uN row s one k + _ = _
  rw [if_pos h]; rfl
theorem uN_s {row : Nat → Int32} {s : SS} {one k : Nat} (h : ¬ row k = NONEc) : uN row s one (k + 1) = uN row s one k + dN (mk (goN s k) one 2) (row k) := by
  show uN row s one k + _ = _
  rw [if_neg h]
set_option maxRecDepth 100000 in
set_option maxHeartbeats 4000000 in
theorem l5_sd1 {g : GT} (N : TM) (kk k : Nat) (k4 : kk < 4) (k24 : k < 24) (s : SS) (hW : WK s) (hr : rOK (N 12 kk)) (hR : RW N 2 (goN s k)) (hb : ∀ i, i < nN s → N 30 0 i = nI (uN (N 12 kk) s i k)) (P : Option Value → TM → Prop) (hne : ¬ N 12 kk k = NONEc) (hc : TR g (rmD 6) RX5 cX5_sumDifferences 4 none 0 0 (Zm g P) 87 [some (.ref (gad g 5 0)), some (.ref (gad g 1 kk)), some (.int (nI k)), none] [] (putA N 30 0 (mixF (fun i => nI (uN (N 12 kk) s i (k + 1))) (N 30 0) (nN s)))) : ∀ (j : Nat) (m : Nat) (y : Int32), nN s - m < j → m ≤ nN s → y = nI m → TR g (rmD 6) RX5 cX5_sumDifferences 4 none 0 0 (Zm g P) 31 [some (.ref (gad g 5 0)), some (.ref (gad g 1 kk)), some (.int (nI k)), some (.int y)] [] (putA N 30 0 (mixF (fun i => nI (uN (N 12 kk) s i (k + 1))) (N 30 0) m)) := by
  intro j
  induction j with
  | zero => intro m y hj hm hy; exact absurd hj (by omega)
  | succ j ih =>
    intro m y hj hm hy
    subst hy
    have h10 := hW.1.2
    have hnk : nN (goN s k) = nN s := nN_c (goN_o hW (by omega) k)
    have e11 : (putA N 30 0 (mixF (fun i => nI (uN (N 12 kk) s i (k + 1))) (N 30 0) m)) 4 2 11 = nI (nN s) := hR.1.2.1.1.trans (congrArg nI hnk)
    refine q_iload_n 32 dX5_sumDifferences_31 rfl rfl ?_
    refine q_aload_n 33 dX5_sumDifferences_32 rfl rfl ?_
    refine q_getR 36 dX5_sumDifferences_33 rfl fl_X5_28 (by decide) rfl rfl ?_
    refine q_getI 39 dX5_sumDifferences_36 rfl fl_X5_74 (by decide) rfl (by decide) ?_
    refine q_icmp_ge 87 42 dX5_sumDifferences_39 rfl rfl (fun h_39 => ?_) (fun h_39 => ?_)
    · skip
      rw [e11, nI_leI (by omega) (by omega)] at h_39
      have e : m = nN s := by omega
      subst e
      exact q_fg hc ⟨rfl, rfl, rfl, trivial⟩
    · skip
      rw [e11, nI_leI (by omega) (by omega)] at h_39
      have hm2 : m < nN s := by omega
      have v30 : (putA N 30 0 (mixF (fun i => nI (uN (N 12 kk) s i (k + 1))) (N 30 0) m)) 30 0 m = nI (uN (N 12 kk) s m k) := by rw [putA_s, mix_hi _ _ (Nat.le_refl m)]; exact hb m hm2
      have v23 : (putA N 30 0 (mixF (fun i => nI (uN (N 12 kk) s i (k + 1))) (N 30 0) m)) 23 2 m = mk (goN s k) m 2 := (hR.1.2.2 m (by rw [hnk]; exact hm2)).2.2.2.1
      obtain ⟨d1, d2, d3⟩ := dN_ab ((goN_WK hW k).2.2.2.1 m (by omega)).2.2.1 ((hr k k24).resolve_left hne)
      refine q_aload_n 43 dX5_sumDifferences_42 rfl rfl ?_
      refine q_getR 46 dX5_sumDifferences_43 rfl fl_X5_271 (show kk < 9 by omega) rfl rfl ?_
      refine q_iload_n 47 dX5_sumDifferences_46 rfl rfl ?_
      refine q_iald 48 dX5_sumDifferences_47 rfl (by decide) (show kk < 9 by omega) rfl k24 ?_
      refine q_ldc 50 dX5_sumDifferences_48 rfl cs_X5_161 ?_
      refine q_icmp_eq 87 53 dX5_sumDifferences_50 rfl rfl (fun h_50 => absurd h_50 hne) (fun _ => ?_)
      refine q_aload_n 54 dX5_sumDifferences_53 rfl rfl ?_
      refine q_getR 57 dX5_sumDifferences_54 rfl fl_X5_57 (by decide) rfl rfl ?_
      refine q_iload_n 58 dX5_sumDifferences_57 rfl rfl ?_
      refine q_dup2 59 dX5_sumDifferences_58 rfl rfl rfl ?_
      refine q_iald 60 dX5_sumDifferences_59 rfl (by decide) (by decide) rfl (show m < 10 by omega) ?_
      refine q_aload_n 61 dX5_sumDifferences_60 rfl rfl ?_
      refine q_getR 64 dX5_sumDifferences_61 rfl fl_X5_28 (by decide) rfl rfl ?_
      refine q_getR 67 dX5_sumDifferences_64 rfl fl_X5_92 (by decide) rfl rfl ?_
      refine q_iload_n 68 dX5_sumDifferences_67 rfl rfl ?_
      refine q_iald 69 dX5_sumDifferences_68 rfl (by decide) (by decide) rfl (show m < 10 by omega) ?_
      refine q_aload_n 70 dX5_sumDifferences_69 rfl rfl ?_
      refine q_getR 73 dX5_sumDifferences_70 rfl fl_X5_271 (show kk < 9 by omega) rfl rfl ?_
      refine q_iload_n 74 dX5_sumDifferences_73 rfl rfl ?_
      refine q_iald 75 dX5_sumDifferences_74 rfl (by decide) (show kk < 9 by omega) rfl k24 ?_
      refine q_isub 76 dX5_sumDifferences_75 rfl ?_
      refine q_mabs 79 dX5_sumDifferences_76 rfl cw_X5_331 ⟨by decide, by decide⟩ ⟨by decide, by decide⟩ (Nat.le_of_ble_eq_true rfl) ?_
      refine q_iadd 80 dX5_sumDifferences_79 rfl ?_
      refine q_iast 81 dX5_sumDifferences_80 rfl (by decide) (by decide) rfl (show m < 10 by omega) ?_
      refine q_iinc 84 dX5_sumDifferences_81 rfl rfl (by decide) rfl (nI_1 m) ?_
      refine q_goto 31 dX5_sumDifferences_84 rfl ?_
      refine q_eqM (M' := (putA N 30 0 (mixF (fun i => nI (uN (N 12 kk) s i (k + 1))) (N 30 0) (m + 1)))) ?_ (q_fg (ih (m + 1) _ (by omega) (by omega) rfl) ⟨rfl, rfl, rfl, rfl, trivial⟩)
      rw [v30, v23, show (putA N 30 0 (mixF (fun i => nI (uN (N 12 kk) s i (k + 1))) (N 30 0) m)) 12 kk k = N 12 kk k from rfl, d1, nI_add, putA_pp, putA_s, ← uN_s hne]
      exact congrArg (putA N 30 0) (mixF_s _ _ m)
set_option maxRecDepth 100000 in
set_option maxHeartbeats 4000000 in
theorem t5_sd87 {g : GT} (M N : TM) (kk z k : Nat) (k4 : kk < 4) (s : SS) (hW : WK s) (hT : RT M s) (hK : Kl M N) (hR : RW N 2 (goN s k)) (hb : (∀ i, i < nN s → N 30 0 i = nI (uN (M 12 kk) s i (k + 1)))) (hih : ∀ N', Kl M N' → RW N' 2 (goN s (k + 1)) → (∀ i, i < nN s → N' 30 0 i = nI (uN (M 12 kk) s i (k + 1))) → TR g (rmD 6) RX5 cX5_sumDifferences 4 none 0 0 (Zm g (fun r M' => r = none ∧ Kl M M' ∧ ∀ i, i < nN s → M' 30 0 i = nI (uN (M 12 kk) s i z))) 21 [some (.ref (gad g 5 0)), some (.ref (gad g 1 kk)), some (.int (nI (k + 1))), none] [] N') : TR g (rmD 6) RX5 cX5_sumDifferences 4 none 0 0 (Zm g (fun r M' => r = none ∧ Kl M M' ∧ ∀ i, i < nN s → M' 30 0 i = nI (uN (M 12 kk) s i z))) 87 [some (.ref (gad g 5 0)), some (.ref (gad g 1 kk)), some (.int (nI k)), none] [] N := by
  refine q_aload_n 88 dX5_sumDifferences_87 rfl rfl ?_
  refine q_getR 91 dX5_sumDifferences_88 rfl fl_X5_28 (by decide) rfl rfl ?_
  refine q_iconst (v := 1) 92 dX5_sumDifferences_91 rfl rfl ?_
  refine q_callV 95 dX5_sumDifferences_92 rfl (c4_pass _ 2 (by decide) _ _ (fun i => i) hR.1 (goN_WK hW k) (RT_go (hK.rt hT) hW k) _ 1 rfl (by decide)) cw_X5_182 (by decide) rfl rfl ⟨by decide, by decide⟩ ⟨by decide, by decide⟩ (Nat.le_of_ble_eq_true rfl) ?_
  rintro _ N2 ⟨rfl, q⟩
  have hR2 := RW_goN hR (goN_WK hW k) q
  refine q_iinc 98 dX5_sumDifferences_95 rfl rfl (by decide) rfl (nI_1 k) ?_
  refine q_goto 21 dX5_sumDifferences_98 rfl ?_
  exact q_fg (hih N2 (hK.kp q.1) hR2 (fun i hi => (congrArg (fun f => f i) (q.1 30 0 (by decide) (by omega))).trans (hb i hi))) ⟨rfl, rfl, rfl, trivial⟩
set_option maxRecDepth 100000 in
set_option maxHeartbeats 4000000 in
theorem l5_sd2 {g : GT} (M : TM) (kk z : Nat) (k4 : kk < 4) (z24 : z ≤ 24) (ez : M 1 kk 2 = nI z) (s : SS) (hW : WK s) (hT : RT M s) (hr : rOK (M 12 kk)) : ∀ (j : Nat) (k : Nat) (N : TM) (y : Int32), Kl M N → RW N 2 (goN s k) → (∀ i, i < nN s → N 30 0 i = nI (uN (M 12 kk) s i k)) → z - k < j → k ≤ z → y = nI k → TR g (rmD 6) RX5 cX5_sumDifferences 4 none 0 0 (Zm g (fun r M' => r = none ∧ Kl M M' ∧ ∀ i, i < nN s → M' 30 0 i = nI (uN (M 12 kk) s i z))) 21 [some (.ref (gad g 5 0)), some (.ref (gad g 1 kk)), some (.int y), none] [] N := by
  intro j
  induction j with
  | zero => intro k N y hK hR hb hj hk hy; exact absurd hj (by omega)
  | succ j ih =>
    intro k N y hK hR hb hj hk hy
    subst hy
    have e12 : N 12 kk = M 12 kk := hK 12 kk (by decide) (by decide) (by omega)
    have e2 : N 1 kk 2 = nI z := (congrArg (fun f => f 2) (hK 1 kk (by decide) (by decide) (by omega))).trans ez
    refine q_iload_n 22 dX5_sumDifferences_21 rfl rfl ?_
    refine q_aload_n 23 dX5_sumDifferences_22 rfl rfl ?_
    refine q_getI 26 dX5_sumDifferences_23 rfl fl_X5_263 (show kk < 9 by omega) rfl (by decide) ?_
    refine q_icmp_ge 101 29 dX5_sumDifferences_26 rfl rfl (fun h_26 => ?_) (fun h_26 => ?_)
    · skip
      rw [e2, nI_leI (by omega) (by omega)] at h_26
      refine q_vret dX5_sumDifferences_101 ?_
      have e : k = z := by omega
      subst e
      exact ⟨rfl, hK, hb⟩
    · skip
      rw [e2, nI_leI (by omega) (by omega)] at h_26
      have hih : ∀ N', Kl M N' → RW N' 2 (goN s (k + 1)) → (∀ i, i < nN s → N' 30 0 i = nI (uN (M 12 kk) s i (k + 1))) → TR g (rmD 6) RX5 cX5_sumDifferences 4 none 0 0 (Zm g (fun r M' => r = none ∧ Kl M M' ∧ ∀ i, i < nN s → M' 30 0 i = nI (uN (M 12 kk) s i z))) 21 [some (.ref (gad g 5 0)), some (.ref (gad g 1 kk)), some (.int (nI (k + 1))), none] [] N' := fun N' a b c => ih (k + 1) N' _ a b c (by omega) (by omega) rfl
      refine q_iconst (v := 0) 30 dX5_sumDifferences_29 rfl rfl ?_
      refine q_istore_n 31 dX5_sumDifferences_30 rfl (by decide) rfl ?_
      by_cases hne : M 12 kk k = NONEc
      · have hneN : N 12 kk k = NONEc := by rw [e12]; exact hne
        refine q_iload_n 32 dX5_sumDifferences_31 rfl rfl ?_
        refine q_aload_n 33 dX5_sumDifferences_32 rfl rfl ?_
        refine q_getR 36 dX5_sumDifferences_33 rfl fl_X5_28 (by decide) rfl rfl ?_
        refine q_getI 39 dX5_sumDifferences_36 rfl fl_X5_74 (by decide) rfl (by decide) ?_
        refine q_icmp_ge 87 42 dX5_sumDifferences_39 rfl rfl (fun h_39 => ?_) (fun h_39 => ?_)
        · skip
          exact q_fg (t5_sd87 M N kk z k k4 s hW hT hK hR (fun i hi => (hb i hi).trans (congrArg nI (uN_n hne).symm)) hih) ⟨rfl, rfl, rfl, trivial⟩
        · skip
          refine q_aload_n 43 dX5_sumDifferences_42 rfl rfl ?_
          refine q_getR 46 dX5_sumDifferences_43 rfl fl_X5_271 (show kk < 9 by omega) rfl rfl ?_
          refine q_iload_n 47 dX5_sumDifferences_46 rfl rfl ?_
          refine q_iald 48 dX5_sumDifferences_47 rfl (by decide) (show kk < 9 by omega) rfl (show k < 24 by omega) ?_
          refine q_ldc 50 dX5_sumDifferences_48 rfl cs_X5_161 ?_
          refine q_icmp_eq 87 53 dX5_sumDifferences_50 rfl rfl (fun _ => ?_) (fun h_50 => absurd hneN h_50)
          exact q_fg (t5_sd87 M N kk z k k4 s hW hT hK hR (fun i hi => (hb i hi).trans (congrArg nI (uN_n hne).symm)) hih) ⟨rfl, rfl, rfl, trivial⟩
      · have hneN : ¬ N 12 kk k = NONEc := by rw [e12]; exact hne
        refine q_eqM (M' := putA N 30 0 (mixF (fun i => nI (uN (N 12 kk) s i (k + 1))) (N 30 0) 0)) (by rw [mixF_0, putA_id]) (q_fg (l5_sd1 N kk k k4 (by omega) s hW (by rw [e12]; exact hr) hR (by rw [e12]; exact hb) _ hneN ?_ (nN s + 1) 0 _ (by omega) (by omega) rfl) ⟨rfl, rfl, rfl, rfl, trivial⟩)
        refine q_fg (t5_sd87 M _ kk z k k4 s hW hT hK.put hR (fun i hi => ?_) hih) ⟨rfl, rfl, rfl, trivial⟩
        rw [putA_s, mix_lo _ _ hi, e12]
set_option maxRecDepth 100000 in
set_option maxHeartbeats 4000000 in
theorem c5_sumDifferences {g : GT} (M : TM) (kk z : Nat) (k4 : kk < 4) (z24 : z ≤ 24) (ez : M 1 kk 2 = nI z) (s : SS) (hR : RW M 0 s) (hW : WK s) (hT : RT M s) (hr : rOK (M 12 kk)) : Cn g yX5_sumDifferences cX5_sumDifferences 4 none 6 [.ref (gad g 5 0), .ref (gad g 1 kk)] M (fun r M' => r = none ∧ Kl M M' ∧ ∀ i, i < nN s → M' 30 0 i = nI (uN (M 12 kk) s i z)) := by
  refine Cn.ofTR (by decide +kernel) (Nat.le_of_ble_eq_true rfl) ?_
  refine q_aload_n 1 dX5_sumDifferences_0 rfl rfl ?_
  refine q_getR 4 dX5_sumDifferences_1 rfl fl_X5_57 (by decide) rfl rfl ?_
  refine q_iconst (v := 0) 5 dX5_sumDifferences_4 rfl rfl ?_
  refine q_callSv 8 dX5_sumDifferences_5 rfl (cJ_fill _ 30 0 0 (by decide) (by decide)) cw_X5_325 rfl rfl ⟨by decide, by decide⟩ ⟨by decide, by decide⟩ (Nat.le_of_ble_eq_true rfl) ?_
  refine q_aload_n 9 dX5_sumDifferences_8 rfl rfl ?_
  refine q_getR 12 dX5_sumDifferences_9 rfl fl_X5_28 (by decide) rfl rfl ?_
  refine q_aload_n 13 dX5_sumDifferences_12 rfl rfl ?_
  refine q_getR 16 dX5_sumDifferences_13 rfl fl_X5_21 (by decide) rfl rfl ?_
  refine q_callV 19 dX5_sumDifferences_16 rfl (c4_become _ 2 0 (by decide) (by decide) (by decide)) cw_X5_195 (by decide) rfl rfl ⟨by decide, by decide⟩ ⟨by decide, by decide⟩ (Nat.le_of_ble_eq_true rfl) ?_
  rintro _ M2 ⟨rfl, hB⟩
  have hR2 := hB.rw' (show RW (putA M 30 0 (mixF (fun _ => (0 : Int32)) (M 30 0) (len 30))) 0 s from hR)
  refine q_iconst (v := 0) 20 dX5_sumDifferences_19 rfl rfl ?_
  refine q_istore_n 21 dX5_sumDifferences_20 rfl (by decide) rfl ?_
  have hKl : Kl M M2 := (Kl.put (F := mixF (fun _ => (0 : Int32)) (M 30 0) (len 30)) (fun _ _ _ _ _ => rfl : Kl M M)).kp hB.1
  refine q_fg (l5_sd2 M kk z k4 z24 ez s hW hT hr (z + 1) 0 M2 _ hKl hR2 (fun i hi => ?_) (by omega) (by omega) rfl) ⟨rfl, rfl, rfl, trivial⟩
  rw [hB.1 30 0 (by decide) (by omega), putA_s, mix_lo _ _ (show i < len 30 from Nat.lt_of_lt_of_le hi hW.1.2)]
  rfl
