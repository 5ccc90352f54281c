/-! THE CLASS: like -/
def Kl (M N : TM) : Prop := ∀ t k, t ≠ 17 → t ≠ 30 → ¬ ((t = 4 ∨ (18 ≤ t ∧ t ≤ 27)) ∧ k = 2) → N t k = M t k
theorem Kl.kp {M N N' : TM} (h : Kl M N) (h2 : Kp 2 N N') : Kl M N' := fun t k a b c => (h2 t k a c).trans (h t k a b c)
theorem Kl.put {M N : TM} {F : Nat → Int32} (h : Kl M N) : Kl M (putA N 30 0 F) := fun t k a b c => (putA_nt _ _ _ _ b).trans (h t k a b c)
theorem Kl.rt {M N : TM} {s : SS} (k : Kl M N) (h : RT M s) : RT N s := by
  have e : ∀ t k', 13 ≤ t → t ≤ 16 → N t k' = M t k' := fun t k' h1 h2 => k t k' (by omega) (by omega) (by omega)
  intro t ht
  rw [e 14 0 (by omega) (by omega), e 15 0 (by omega) (by omega), e 16 0 (by omega) (by omega), e 13 t (by omega) (by omega)]
  exact h t ht
theorem uN_n {row : Nat → Int32} {s : SS} {one k : Nat} (h : row k = NONEc) : uN row s one (k + 1) = uN row s one k := by
  show uN row s one k + _ = _
  rw [if_pos h]; rfl
theorem uN_s {row : Nat → Int32} {s : SS} {one k : Nat} (h : ¬ row k = NONEc) : uN row s one (k + 1) = uN row s one k + dN (mk (goN s k) one 2) (row k) := by
  show uN row s one k + _ = _
  rw [if_neg h]
set_option maxRecDepth 100000 in
set_option maxHeartbeats 4000000 in
theorem l5_sd1 {g : GT} (N : TM) (kk k : Nat) (k4 : kk < 4) (k24 : k < 24) (s : SS) (hW : WK s) (hr : rOK (N 12 kk)) (hR : RW N 2 (goN s k)) (hb : ∀ i, i < nN s → N 30 0 i = nI (uN (N 12 kk) s i k)) (P : Option Value → TM → Prop) (hne : ¬ N 12 kk k = NONEc) (hc : TR g (rmD 6) RX5 cX5_sumDifferences 4 none 0 0 (Zm g P) 87 [some (.ref (gad g 5 0)), some (.ref (gad g 1 kk)), some (.int (nI k)), none] [] (putA N 30 0 (mixF (fun i => nI (uN (N 12 kk) s i (k + 1))) (N 30 0) (nN s)))) : ∀ (j : Nat) (m : Nat) (y : Int32), nN s - m < j → m ≤ nN s → y = nI m → TR g (rmD 6) RX5 cX5_sumDifferences 4 none 0 0 (Zm g P) 31 [some (.ref (gad g 5 0)), some (.ref (gad g 1 kk)), some (.int (nI k)), some (.int y)] [] (putA N 30 0 (mixF (fun i => nI (uN (N 12 kk) s i (k + 1))) (N 30 0) m)) := by
  intro j
  induction j with
  | zero => intro m y hj hm hy; exact absurd hj (by omega)
  | succ j ih =>
    intro m y hj hm hy
    subst hy
    have h10 := hW.1.2
    have hnk : nN (goN s k) = nN s := nN_c (goN_o hW (by omega) k)
    have e11 : (putA N 30 0 (mixF (fun i => nI (uN (N 12 kk) s i (k + 1))) (N 30 0) m)) 4 2 11 = nI (nN s) := hR.1.2.1.1.trans (congrArg nI hnk)
    refine q_iload_n 32 dX5_sumDifferences_31 rfl rfl ?_
    refine q_aload_n 33 dX5_sumDifferences_32 rfl rfl ?_
    refine q_getR 36 dX5_sumDifferences_33 rfl fl_X5_28 (by decide) rfl rfl ?_
    refine q_getI 39 dX5_sumDifferences_36 rfl fl_X5_74 (by decide) rfl (by decide) ?_
    refine q_icmp_ge 87 42 dX5_sumDifferences_39 rfl rfl (fun h_39 => ?_) (fun h_39 => ?_)
    · skip
      rw [e11, nI_leI (by omega) (by omega)] at h_39
      have e : m = nN s := by omega
      subst e
      exact q_fg hc ⟨rfl, rfl, rfl, trivial⟩
    · skip
      rw [e11, nI_leI (by omega) (by omega)] at h_39
      have hm2 : m < nN s := by omega
      have v30 : (putA N 30 0 (mixF (fun i => nI (uN (N 12 kk) s i (k + 1))) (N 30 0) m)) 30 0 m = nI (uN (N 12 kk) s m k) := by rw [putA_s, mix_hi _ _ (Nat.le_refl m)]; exact hb m hm2
      have v23 : (putA N 30 0 (mixF (fun i => nI (uN (N 12 kk) s i (k + 1))) (N 30 0) m)) 23 2 m = mk (goN s k) m 2 := (hR.1.2.2 m (by rw [hnk]; exact hm2)).2.2.2.1
      obtain ⟨d1, d2, d3⟩ := dN_ab ((goN_WK hW k).2.2.2.1 m (by omega)).2.2.1 ((hr k k24).resolve_left hne)
      refine q_aload_n 43 dX5_sumDifferences_42 rfl rfl ?_
      refine q_getR 46 dX5_sumDifferences_43 rfl fl_X5_271 (show kk < 9 by omega) rfl rfl ?_
      refine q_iload_n 47 dX5_sumDifferences_46 rfl rfl ?_
      refine q_iald 48 dX5_sumDifferences_47 rfl (by decide) (show kk < 9 by omega) rfl k24 ?_
      refine q_ldc 50 dX5_sumDifferences_48 rfl cs_X5_161 ?_
      refine q_icmp_eq 87 53 dX5_sumDifferences_50 rfl rfl (fun h_50 => absurd h_50 hne) (fun _ => ?_)
      refine q_aload_n 54 dX5_sumDifferences_53 rfl rfl ?_
      refine q_getR 57 dX5_sumDifferences_54 rfl fl_X5_57 (by decide) rfl rfl ?_
      refine q_iload_n 58 dX5_sumDifferences_57 rfl rfl ?_
      refine q_dup2 59 dX5_sumDifferences_58 rfl rfl rfl ?_
      refine q_iald 60 dX5_sumDifferences_59 rfl (by decide) (by decide) rfl (show m < 10 by omega) ?_
      refine q_aload_n 61 dX5_sumDifferences_60 rfl rfl ?_
      refine q_getR 64 dX5_sumDifferences_61 rfl fl_X5_28 (by decide) rfl rfl ?_
      refine q_getR 67 dX5_sumDifferences_64 rfl fl_X5_92 (by decide) rfl rfl ?_
      refine q_iload_n 68 dX5_sumDifferences_67 rfl rfl ?_
      refine q_iald 69 dX5_sumDifferences_68 rfl (by decide) (by decide) rfl (show m < 10 by omega) ?_
      refine q_aload_n 70 dX5_sumDifferences_69 rfl rfl ?_
      refine q_getR 73 dX5_sumDifferences_70 rfl fl_X5_271 (show kk < 9 by omega) rfl rfl ?_
      refine q_iload_n 74 dX5_sumDifferences_73 rfl rfl ?_
      refine q_iald 75 dX5_sumDifferences_74 rfl (by decide) (show kk < 9 by omega) rfl k24 ?_
      refine q_isub 76 dX5_sumDifferences_75 rfl ?_
      refine q_mabs 79 dX5_sumDifferences_76 rfl cw_X5_331 ⟨by decide, by decide⟩ ⟨by decide, by decide⟩ (Nat.le_of_ble_eq_true rfl) ?_
      refine q_iadd 80 dX5_sumDifferences_79 rfl ?_
      refine q_iast 81 dX5_sumDifferences_80 rfl (by decide) (by decide) rfl (show m < 10 by omega) ?_
      refine q_iinc 84 dX5_sumDifferences_81 rfl rfl (by decide) rfl (nI_1 m) ?_
      refine q_goto 31 dX5_sumDifferences_84 rfl ?_
      refine q_eqM (M' := (putA N 30 0 (mixF (fun i => nI (uN (N 12 kk) s i (k + 1))) (N 30 0) (m + 1)))) ?_ (q_fg (ih (m + 1) _ (by omega) (by omega) rfl) ⟨rfl, rfl, rfl, rfl, trivial⟩)
      rw [v30, v23, show (putA N 30 0 (mixF (fun i => nI (uN (N 12 kk) s i (k + 1))) (N 30 0) m)) 12 kk k = N 12 kk k from rfl, d1, nI_add, putA_pp, putA_s, ← uN_s hne]
      exact congrArg (putA N 30 0) (mixF_s _ _ m)
