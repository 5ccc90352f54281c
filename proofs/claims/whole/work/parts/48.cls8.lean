/-! THE CLASS: marks come, go, stay alone -/
theorem cntB_u {p q : Nat → Bool} {m : Nat} : ∀ n, m < n → (∀ k, k < n → k ≠ m → q k = p k) → cntB q n + (if p m then 1 else 0) = cntB p n + (if q m then 1 else 0)
  | 0, h, _ => absurd h (Nat.not_lt_zero _)
  | n + 1, h, hk => by
    show cntB q n + (if q n then 1 else 0) + _ = cntB p n + (if p n then 1 else 0) + _
    by_cases e : m = n
    · subst e
      rw [cntB_congr (p := q) (q := p) m (fun k hk' => hk k (by omega) (by omega))]
      omega
    · have ih := cntB_u (p := p) (q := q) n (by omega) (fun k a b => hk k (by omega) b)
      rw [hk n (by omega) (by omega)]
      omega
theorem ctF_cm {s : SS} {kind ink depth cell : Int32} (h : s 0 = nI (nN s)) (h10 : nN s < 10) (c : Int32) : ctF (cmF s kind ink depth cell) c = ctF s c + (if cell = c then 1 else 0) := by
  have e0 : cmF s kind ink depth cell 0 = nI (nN s + 1) := by unfold cmF; rw [upd_n (by omega), upd_n (by omega), upd_n (by omega), upd_n (by omega), upd_n (by omega), upd_s, h, nI_1]
  have en : nN (cmF s kind ink depth cell) = nN s + 1 := by show (cmF s kind ink depth cell 0).toNatClampNeg = _; rw [e0, nI_clamp (by omega)]
  unfold ctF
  rw [en]
  show cntB (inC (cmF s kind ink depth cell) c) (nN s) + (if inC (cmF s kind ink depth cell) c (nN s) = true then 1 else 0) = _
  have e3 : mk (cmF s kind ink depth cell) (nN s) 3 = cell := by unfold mk cmF; rw [upd_n (by omega), upd_s]
  rw [cntB_congr (q := inC s c) (nN s) (fun k hk => by unfold inC mk cmF; rw [upd_n (by omega), upd_n (by omega), upd_n (by omega), upd_n (by omega), upd_n (by omega), upd_n (by omega)])]
  unfold inC
  rw [e3]
  by_cases q : cell = c
  · simp [q]
  · simp [q]
theorem cm_o {s : SS} {kind ink depth cell : Int32} {i : Nat} (h0 : i ≠ 0) (h : ∀ w, w < 5 → i ≠ 21 + 5 * nN s + w) : cmF s kind ink depth cell i = s i := by
  unfold cmF
  rw [upd_n (h 4 (by omega)), upd_n (h 3 (by omega)), upd_n (h 2 (by omega)), upd_n (h 1 (by omega)), upd_n (h 0 (by omega)), upd_n h0]
theorem cm_n {s : SS} {kind ink depth cell : Int32} (h : s 0 = nI (nN s)) (h10 : nN s < 10) : cmF s kind ink depth cell 0 = nI (nN s + 1) ∧ nN (cmF s kind ink depth cell) = nN s + 1 := by
  have e0 : cmF s kind ink depth cell 0 = nI (nN s + 1) := by unfold cmF; rw [upd_n (by omega), upd_n (by omega), upd_n (by omega), upd_n (by omega), upd_n (by omega), upd_s, h, nI_1]
  exact ⟨e0, by show (cmF s kind ink depth cell 0).toNatClampNeg = _; rw [e0, nI_clamp (by omega)]⟩
theorem cm_m {s : SS} {kind ink depth cell : Int32} : mk (cmF s kind ink depth cell) (nN s) 0 = kind ∧ mk (cmF s kind ink depth cell) (nN s) 1 = ink ∧ mk (cmF s kind ink depth cell) (nN s) 2 = depth ∧ mk (cmF s kind ink depth cell) (nN s) 3 = cell ∧ mk (cmF s kind ink depth cell) (nN s) 4 = 0 := by
  unfold mk cmF
  refine ⟨?_, ?_, ?_, ?_, ?_⟩
  · rw [upd_n (by omega), upd_n (by omega), upd_n (by omega), upd_n (by omega), upd_s]
  · rw [upd_n (by omega), upd_n (by omega), upd_n (by omega), upd_s]
  · rw [upd_n (by omega), upd_n (by omega), upd_s]
  · rw [upd_n (by omega), upd_s]
  · rw [upd_s]
def adM (M : TM) (w m : Nat) (k i d : Int32) (c : Nat) : TM := putA (putA (putA (putA (putA (putA (putA M 21 w (upd (M 21 w) m k)) 22 w (upd (M 22 w) m i)) 23 w (upd (M 23 w) m d)) 24 w (upd (M 24 w) m (nI c))) 25 w (upd (M 25 w) m 0)) 20 w (upd (M 20 w) c (M 20 w c + 1))) 4 w (upd (M 4 w) 11 (M 4 w 11 + 1))
theorem adM_RW {M : TM} {w : Nat} {s : SS} {k i d : Int32} {c : Nat} (hR : RW M w s) (hn : s 0 = nI (nN s)) (h10 : nN s < 10) (h6 : c < 6) : RW (adM M w (nN s) k i d c) w (cmF s k i d (nI c)) := by
  obtain ⟨⟨hC, ⟨h11, hm⟩, hM⟩, hs, ht⟩ := hR
  obtain ⟨e0, en⟩ := cm_n (kind := k) (ink := i) (depth := d) (cell := nI c) hn h10
  have oh : ∀ a, 71 ≤ a → cmF s k i d (nI c) a = s a := fun a ha => cm_o (by omega) (fun w' _ => by omega)
  have ol : ∀ a, 0 < a → a < 21 → cmF s k i d (nI c) a = s a := fun a ha hb => cm_o (by omega) (fun w' _ => by omega)
  have q4 : ∀ a, a ≠ 11 → adM M w (nN s) k i d c 4 w a = M 4 w a := fun a ha => by unfold adM; rw [putA_s, upd_n ha]
  have q20 : adM M w (nN s) k i d c 20 w = upd (M 20 w) c (M 20 w c + 1) := by unfold adM; rw [putA_nt _ _ _ _ (by decide), putA_s]
  have q21 : adM M w (nN s) k i d c 21 w = upd (M 21 w) (nN s) k := by unfold adM; rw [putA_nt _ _ _ _ (by decide), putA_nt _ _ _ _ (by decide), putA_nt _ _ _ _ (by decide), putA_nt _ _ _ _ (by decide), putA_nt _ _ _ _ (by decide), putA_nt _ _ _ _ (by decide), putA_s]
  have q22 : adM M w (nN s) k i d c 22 w = upd (M 22 w) (nN s) i := by unfold adM; rw [putA_nt _ _ _ _ (by decide), putA_nt _ _ _ _ (by decide), putA_nt _ _ _ _ (by decide), putA_nt _ _ _ _ (by decide), putA_nt _ _ _ _ (by decide), putA_s]
  have q23 : adM M w (nN s) k i d c 23 w = upd (M 23 w) (nN s) d := by unfold adM; rw [putA_nt _ _ _ _ (by decide), putA_nt _ _ _ _ (by decide), putA_nt _ _ _ _ (by decide), putA_nt _ _ _ _ (by decide), putA_s]
  have q24 : adM M w (nN s) k i d c 24 w = upd (M 24 w) (nN s) (nI c) := by unfold adM; rw [putA_nt _ _ _ _ (by decide), putA_nt _ _ _ _ (by decide), putA_nt _ _ _ _ (by decide), putA_s]
  have q25 : adM M w (nN s) k i d c 25 w = upd (M 25 w) (nN s) 0 := by unfold adM; rw [putA_nt _ _ _ _ (by decide), putA_nt _ _ _ _ (by decide), putA_s]
  refine ⟨⟨⟨fun c' hc' => ⟨?_, ?_, ?_⟩, ?_, ?_, ?_⟩, ⟨?_, by omega⟩, fun a ha => ?_⟩, ?_, ?_⟩
  · rw [ol _ (by omega) (by omega)]; exact (hC.1 c' hc').1
  · rw [ol _ (by omega) (by omega)]; exact (hC.1 c' hc').2.1
  · rw [q20, ctF_cm hn h10]
    by_cases e : c' = c
    · subst e; rw [upd_s, if_pos rfl, (hC.1 c' hc').2.2, nI_1]
    · rw [upd_n e, if_neg (fun q => e (nI_inj (by omega) (by omega) q.symm)), (hC.1 c' hc').2.2]; rfl
  · rw [ol _ (by omega) (by omega), ol _ (by omega) (by omega), ol _ (by omega) (by omega)]; exact hC.2.1
  · rw [coT_c (ol 1 (by omega) (by omega)) oh, coT_c (ol 1 (by omega) (by omega)) oh, coT_c (ol 1 (by omega) (by omega)) oh]; exact hC.2.2.1
  · rw [ol _ (by omega) (by omega), ol _ (by omega) (by omega), ol _ (by omega) (by omega), q4 _ (by omega), q4 _ (by omega), q4 _ (by omega)]; exact hC.2.2.2
  · rw [en]; unfold adM; rw [putA_s, upd_s, h11, nI_1]
  · rw [en] at ha ⊢
    refine ⟨ha, ?_⟩
    unfold RM
    rw [q21, q22, q23, q24, q25]
    by_cases e : a = nN s
    · subst e
      obtain ⟨m0, m1, m2, m3, m4⟩ := cm_m (s := s) (kind := k) (ink := i) (depth := d) (cell := nI c)
      rw [upd_s, upd_s, upd_s, upd_s, upd_s, m0, m1, m2, m3, m4]; exact ⟨rfl, rfl, rfl, rfl, rfl⟩
    · have om : ∀ w', w' < 5 → mk (cmF s k i d (nI c)) a w' = mk s a w' := fun w' _ => cm_o (by omega) (fun w'' _ => by omega)
      rw [upd_n e, upd_n e, upd_n e, upd_n e, upd_n e, om 0 (by omega), om 1 (by omega), om 2 (by omega), om 3 (by omega), om 4 (by omega)]
      exact (hM a (by omega)).2
  · rw [ol 6 (by omega) (by omega), q4 _ (by omega)]; exact hs
  · rw [nT_c (ol 1 (by omega) (by omega)), q4 _ (by omega)]; exact ht
theorem adM_kp {M : TM} {w m : Nat} {k i d : Int32} {c : Nat} : Kp w M (adM M w m k i d c) := Kp.put (Kp.put (Kp.put (Kp.put (Kp.put (Kp.put (Kp.put Kp.rf (by omega)) (by omega)) (by omega)) (by omega)) (by omega)) (by omega)) (by omega)
set_option maxRecDepth 100000 in
set_option maxHeartbeats 4000000 in
theorem c4_add {g : GT} (M : TM) (w : Nat) (hw : w < 3) (m : Nat) (h11 : M 4 w 11 = nI m) (h10 : m < 10) (k i d x : Int32) (c : Nat) (hx : x = nI c) (h6 : c < 6) : Cn g yX4_add cX4_add 6 (some .int) 1 [.ref (gad g 4 w), .int k, .int i, .int d, .int x] M (Rt (.int (nI m)) (adM M w m k i d c)) := by
  refine Cn.ofTR (by decide +kernel) (Nat.le_of_ble_eq_true rfl) ?_
  subst hx
  refine q_aload_n 1 dX4_add_0 rfl rfl ?_
  refine q_getI 4 dX4_add_1 rfl fl_X4_66 hw rfl (by decide) ?_
  refine q_bipush (v := 10) 6 dX4_add_4 rfl rfl ?_
  refine q_icmp_lt 12 9 dX4_add_6 rfl rfl (fun _ => ?_) (fun h_6 => absurd (by rw [h11, show (10 : Int32) = nI 10 from rfl, nI_ltI (by omega) (by omega)]; exact h10) h_6)
  refine q_aload_n 13 dX4_add_12 rfl rfl ?_
  refine q_getI 16 dX4_add_13 rfl fl_X4_66 hw rfl (by decide) ?_
  refine q_istore 18 dX4_add_16 rfl (by decide) rfl ?_
  refine q_aload_n 19 dX4_add_18 rfl rfl ?_
  refine q_getR 22 dX4_add_19 rfl fl_X4_21 hw rfl rfl ?_
  refine q_iload 24 dX4_add_22 rfl rfl ?_
  refine q_iload_n 25 dX4_add_24 rfl rfl ?_
  refine q_iast 26 dX4_add_25 rfl (by decide) hw h11 h10 ?_
  refine q_aload_n 27 dX4_add_26 rfl rfl ?_
  refine q_getR 30 dX4_add_27 rfl fl_X4_24 hw rfl rfl ?_
  refine q_iload 32 dX4_add_30 rfl rfl ?_
  refine q_iload_n 33 dX4_add_32 rfl rfl ?_
  refine q_iast 34 dX4_add_33 rfl (by decide) hw h11 h10 ?_
  refine q_aload_n 35 dX4_add_34 rfl rfl ?_
  refine q_getR 38 dX4_add_35 rfl fl_X4_27 hw rfl rfl ?_
  refine q_iload 40 dX4_add_38 rfl rfl ?_
  refine q_iload_n 41 dX4_add_40 rfl rfl ?_
  refine q_iast 42 dX4_add_41 rfl (by decide) hw h11 h10 ?_
  refine q_aload_n 43 dX4_add_42 rfl rfl ?_
  refine q_getR 46 dX4_add_43 rfl fl_X4_30 hw rfl rfl ?_
  refine q_iload 48 dX4_add_46 rfl rfl ?_
  refine q_iload 50 dX4_add_48 rfl rfl ?_
  refine q_iast 51 dX4_add_50 rfl (by decide) hw h11 h10 ?_
  refine q_aload_n 52 dX4_add_51 rfl rfl ?_
  refine q_getR 55 dX4_add_52 rfl fl_X4_33 hw rfl rfl ?_
  refine q_iload 57 dX4_add_55 rfl rfl ?_
  refine q_iconst (v := 0) 58 dX4_add_57 rfl rfl ?_
  refine q_iast 59 dX4_add_58 rfl (by decide) hw h11 h10 ?_
  refine q_aload_n 60 dX4_add_59 rfl rfl ?_
  refine q_getR 63 dX4_add_60 rfl fl_X4_18 hw rfl rfl ?_
  refine q_iload 65 dX4_add_63 rfl rfl ?_
  refine q_dup2 66 dX4_add_65 rfl rfl rfl ?_
  refine q_iald 67 dX4_add_66 rfl (by decide) hw rfl h6 ?_
  refine q_iconst (v := 1) 68 dX4_add_67 rfl rfl ?_
  refine q_iadd 69 dX4_add_68 rfl ?_
  refine q_iast 70 dX4_add_69 rfl (by decide) hw rfl h6 ?_
  refine q_aload_n 71 dX4_add_70 rfl rfl ?_
  refine q_dup 72 dX4_add_71 rfl rfl ?_
  refine q_getI 75 dX4_add_72 rfl fl_X4_66 hw rfl (by decide) ?_
  refine q_iconst (v := 1) 76 dX4_add_75 rfl rfl ?_
  refine q_iadd 77 dX4_add_76 rfl ?_
  refine q_putI 80 dX4_add_77 rfl fl_X4_66 fp_4_11 hw rfl (by decide) rfl rfl ?_
  refine q_iload 82 dX4_add_80 rfl rfl ?_
  refine q_iret dX4_add_82 ?_
  exact ⟨congrArg (fun x => some (Value.int x)) h11, rfl⟩
theorem ctF_mv {s : SS} {m : Nat} {v : Int32} (hm : m < nN s) (c : Int32) : ctF (upd s (21 + 5 * m + 3) v) c + (if mk s m 3 = c then 1 else 0) = ctF s c + (if v = c then 1 else 0) := by
  unfold ctF
  rw [nN_c (upd_n (by omega))]
  have h := cntB_u (p := inC s c) (q := inC (upd s (21 + 5 * m + 3) v) c) (m := m) (nN s) hm (fun k _ hne => by unfold inC mk; rw [upd_n (by omega)])
  have e : inC (upd s (21 + 5 * m + 3) v) c m = decide (v = c) := by unfold inC mk; rw [upd_s]
  rw [e] at h
  unfold inC at h ⊢
  simpa using h
def mvM (M : TM) (w m a c : Nat) : TM := putA (putA (putA M 20 w (upd (M 20 w) a (M 20 w a - 1))) 20 w (upd (upd (M 20 w) a (M 20 w a - 1)) c (upd (M 20 w) a (M 20 w a - 1) c + 1))) 24 w (upd (M 24 w) m (nI c))
theorem mvM_kp {M : TM} {w m a c : Nat} : Kp w M (mvM M w m a c) := Kp.put (Kp.put (Kp.put Kp.rf (by omega)) (by omega)) (by omega)
theorem mvM_RW {M : TM} {w : Nat} {s : SS} {m a c : Nat} (hR : RW M w s) (h10 : nN s ≤ 10) (hm : m < nN s) (ea : mk s m 3 = nI a) (a6 : a < 6) (c6 : c < 6) : RW (mvM M w m a c) w (upd s (21 + 5 * m + 3) (nI c)) := by
  obtain ⟨⟨hC, ⟨h11, hm10⟩, hM⟩, hs, ht⟩ := hR
  have ol : ∀ i, i < 21 ∨ 71 ≤ i → upd s (21 + 5 * m + 3) (nI c) i = s i := fun i hi => upd_n (by omega)
  have q20 : mvM M w m a c 20 w = upd (upd (M 20 w) a (M 20 w a - 1)) c (upd (M 20 w) a (M 20 w a - 1) c + 1) := by unfold mvM; rw [putA_nt _ _ _ _ (by decide), putA_s]
  have q24 : mvM M w m a c 24 w = upd (M 24 w) m (nI c) := putA_s _ _ _ _
  have hn := nN_c (ol 0 (by omega))
  refine ⟨⟨⟨fun c' hc' => ⟨?_, ?_, ?_⟩, ?_, ?_, ?_⟩, ⟨?_, by omega⟩, fun i hi => ?_⟩, ?_, ?_⟩
  · rw [ol _ (by omega)]; exact (hC.1 c' hc').1
  · rw [ol _ (by omega)]; exact (hC.1 c' hc').2.1
  · have hx := ctF_mv (v := nI c) hm (nI c')
    have h1 := (hC.1 c' hc').2.2
    have ha := (hC.1 a a6).2.2
    have i1 : ∀ x y : Nat, x < 6 → y < 6 → (nI x = nI y ↔ x = y) := fun x y hx hy => nI_eq (by omega) (by omega)
    rw [ea, show (if nI a = nI c' then 1 else 0 : Nat) = if a = c' then 1 else 0 by simp only [i1 a c' a6 hc'], show (if nI c = nI c' then 1 else 0 : Nat) = if c = c' then 1 else 0 by simp only [i1 c c' c6 hc']] at hx
    rw [q20]
    have hpos : 1 ≤ ctF s (nI a) := by
      have := ctF_mv (v := nI (a + 1)) hm (nI a)
      rw [ea, if_pos rfl, if_neg (fun q => by have := nI_inj (by omega) (by omega) q; omega)] at this
      omega
    by_cases e1 : c = c'
    · rw [if_pos e1] at hx
      subst e1
      rw [upd_s]
      by_cases e2 : a = c
      · rw [if_pos e2] at hx
        subst e2
        rw [upd_s, h1, nI_m11]
        exact congrArg nI (by omega)
      · rw [if_neg e2] at hx
        rw [upd_n (fun q => e2 q.symm), h1, nI_1]
        exact congrArg nI (by omega)
    · rw [if_neg e1] at hx
      rw [upd_n (fun q => e1 q.symm)]
      by_cases e2 : a = c'
      · rw [if_pos e2] at hx
        subst e2
        rw [upd_s, h1, ix_pre hpos]
        exact congrArg nI (by omega)
      · rw [if_neg e2] at hx
        rw [upd_n (fun q => e2 q.symm), h1]
        exact congrArg nI (by omega)
  · rw [ol _ (by omega), ol _ (by omega), ol _ (by omega)]; exact hC.2.1
  · rw [coT_c (ol 1 (by omega)) (fun i hi => ol i (by omega)), coT_c (ol 1 (by omega)) (fun i hi => ol i (by omega)), coT_c (ol 1 (by omega)) (fun i hi => ol i (by omega))]; exact hC.2.2.1
  · rw [ol _ (by omega), ol _ (by omega), ol _ (by omega)]; exact hC.2.2.2
  · rw [hn]; exact h11
  · rw [hn] at hi ⊢
    obtain ⟨q, r0, r1, r2, r3, r4⟩ := hM i hi
    refine ⟨hi, ?_⟩
    have om : ∀ w', w' < 5 → w' ≠ 3 → mk (upd s (21 + 5 * m + 3) (nI c)) i w' = mk s i w' := fun w' _ _ => upd_n (by omega)
    unfold RM
    rw [om 0 (by omega) (by omega), om 1 (by omega) (by omega), om 2 (by omega) (by omega), om 4 (by omega) (by omega), q24]
    refine ⟨r0, r1, r2, ?_, r4⟩
    by_cases e : i = m
    · subst e; rw [upd_s]; exact upd_s.symm
    · rw [upd_n e, r3]; exact (upd_n (show 21 + 5 * i + 3 ≠ 21 + 5 * m + 3 by omega)).symm
  · rw [ol 6 (by omega)]; exact hs
  · rw [nT_c (ol 1 (by omega))]; exact ht
set_option maxRecDepth 100000 in
set_option maxHeartbeats 4000000 in
theorem c4_moveTo {g : GT} (M : TM) (w : Nat) (hw : w < 3) (x y : Int32) (m a c : Nat) (hx : x = nI m) (h10 : m < 10) (hy : y = nI c) (h6 : c < 6) (ea : M 24 w m = nI a) (a6 : a < 6) : Cn g yX4_moveTo cX4_moveTo 4 (some .int) 1 [.ref (gad g 4 w), .int x, .int y] M (Rt (.int (M 24 w m)) (mvM M w m a c)) := by
  refine Cn.ofTR (by decide +kernel) (Nat.le_of_ble_eq_true rfl) ?_
  subst hy
  refine q_aload_n 1 dX4_moveTo_0 rfl rfl ?_
  refine q_getR 4 dX4_moveTo_1 rfl fl_X4_30 hw rfl rfl ?_
  refine q_iload_n 5 dX4_moveTo_4 rfl rfl ?_
  refine q_iald 6 dX4_moveTo_5 rfl (by decide) hw hx h10 ?_
  refine q_istore_n 7 dX4_moveTo_6 rfl (by decide) rfl ?_
  refine q_aload_n 8 dX4_moveTo_7 rfl rfl ?_
  refine q_getR 11 dX4_moveTo_8 rfl fl_X4_18 hw rfl rfl ?_
  refine q_iload_n 12 dX4_moveTo_11 rfl rfl ?_
  refine q_dup2 13 dX4_moveTo_12 rfl rfl rfl ?_
  refine q_iald 14 dX4_moveTo_13 rfl (by decide) hw ea a6 ?_
  refine q_iconst (v := 1) 15 dX4_moveTo_14 rfl rfl ?_
  refine q_isub 16 dX4_moveTo_15 rfl ?_
  refine q_iast 17 dX4_moveTo_16 rfl (by decide) hw ea a6 ?_
  refine q_aload_n 18 dX4_moveTo_17 rfl rfl ?_
  refine q_getR 21 dX4_moveTo_18 rfl fl_X4_18 hw rfl rfl ?_
  refine q_iload_n 22 dX4_moveTo_21 rfl rfl ?_
  refine q_dup2 23 dX4_moveTo_22 rfl rfl rfl ?_
  refine q_iald 24 dX4_moveTo_23 rfl (by decide) hw rfl h6 ?_
  refine q_iconst (v := 1) 25 dX4_moveTo_24 rfl rfl ?_
  refine q_iadd 26 dX4_moveTo_25 rfl ?_
  refine q_iast 27 dX4_moveTo_26 rfl (by decide) hw rfl h6 ?_
  refine q_aload_n 28 dX4_moveTo_27 rfl rfl ?_
  refine q_getR 31 dX4_moveTo_28 rfl fl_X4_30 hw rfl rfl ?_
  refine q_iload_n 32 dX4_moveTo_31 rfl rfl ?_
  refine q_iload_n 33 dX4_moveTo_32 rfl rfl ?_
  refine q_iast 34 dX4_moveTo_33 rfl (by decide) hw hx h10 ?_
  refine q_iload_n 35 dX4_moveTo_34 rfl rfl ?_
  refine q_iret dX4_moveTo_35 ?_
  refine ⟨rfl, ?_⟩
  unfold mvM
  rw [putA_s]
  rfl
def loM (M : TM) (w m : Nat) : TM := putA (putA (putA (putA (putA (putA M 21 w (upd (M 21 w) 0 (M 21 w m))) 22 w (upd (M 22 w) 0 (M 22 w m))) 23 w (upd (M 23 w) 0 (M 23 w m))) 24 w (upd (M 24 w) 0 (M 24 w m))) 25 w (upd (M 25 w) 0 (M 25 w m))) 4 w (upd (M 4 w) 11 1)
theorem loM_kp {M : TM} {w m : Nat} : Kp w M (loM M w m) := Kp.put (Kp.put (Kp.put (Kp.put (Kp.put (Kp.put Kp.rf (by omega)) (by omega)) (by omega)) (by omega)) (by omega)) (by omega)
theorem loM_4 {M : TM} {w m i : Nat} (h : i ≠ 11) : loM M w m 4 w i = M 4 w i := by unfold loM; rw [putA_s, upd_n h]
theorem loM_RP {M : TM} {w : Nat} {s : SS} {m : Nat} (hR : RP M w s (nN s) (fun i => i)) (hm : m < nN s) : RP (loM M w m) w s 1 (fun _ => m) := by
  obtain ⟨hC, ⟨h11, hm10⟩, hM⟩ := hR
  refine ⟨⟨hC.1, hC.2.1, hC.2.2.1, ?_⟩, ⟨?_, by omega⟩, fun i hi => ⟨hm, ?_⟩⟩
  · rw [loM_4 (by omega), loM_4 (by omega), loM_4 (by omega)]; exact hC.2.2.2
  · unfold loM; rw [putA_s, upd_s]; rfl
  · obtain ⟨q, r0, r1, r2, r3, r4⟩ := hM m hm
    have e : i = 0 := by omega
    subst e
    unfold RM loM
    refine ⟨?_, ?_, ?_, ?_, ?_⟩
    · rw [putA_nt _ _ _ _ (by decide), putA_nt _ _ _ _ (by decide), putA_nt _ _ _ _ (by decide), putA_nt _ _ _ _ (by decide), putA_nt _ _ _ _ (by decide), putA_s, upd_s]; exact r0
    · rw [putA_nt _ _ _ _ (by decide), putA_nt _ _ _ _ (by decide), putA_nt _ _ _ _ (by decide), putA_nt _ _ _ _ (by decide), putA_s, upd_s]; exact r1
    · rw [putA_nt _ _ _ _ (by decide), putA_nt _ _ _ _ (by decide), putA_nt _ _ _ _ (by decide), putA_s, upd_s]; exact r2
    · rw [putA_nt _ _ _ _ (by decide), putA_nt _ _ _ _ (by decide), putA_s, upd_s]; exact r3
    · rw [putA_nt _ _ _ _ (by decide), putA_s, upd_s]; exact r4
theorem lnM_RP {M : TM} {w : Nat} {s : SS} {m : Nat} {f : Nat → Nat} (hR : RP M w s m f) : RP (putA M 4 w (upd (M 4 w) 11 0)) w s 0 f := by
  obtain ⟨hC, ⟨h11, hm10⟩, hM⟩ := hR
  refine ⟨⟨hC.1, hC.2.1, hC.2.2.1, ?_⟩, ⟨?_, by omega⟩, fun i hi => absurd hi (Nat.not_lt_zero _)⟩
  · rw [putA_s, upd_n (by omega), upd_n (by omega), upd_n (by omega)]; exact hC.2.2.2
  · rw [putA_s, upd_s]; rfl
set_option maxRecDepth 100000 in
set_option maxHeartbeats 4000000 in
theorem c4_leaveOnly {g : GT} (M : TM) (w : Nat) (hw : w < 3) (x : Int32) (m : Nat) (hx : x = nI m) (h10 : m < 10) : Cn g yX4_leaveOnly cX4_leaveOnly 2 none 0 [.ref (gad g 4 w), .int x] M (Rv (loM M w m)) := by
  refine Cn.ofTR (by decide +kernel) (Nat.le_of_ble_eq_true rfl) ?_
  refine q_aload_n 1 dX4_leaveOnly_0 rfl rfl ?_
  refine q_getR 4 dX4_leaveOnly_1 rfl fl_X4_21 hw rfl rfl ?_
  refine q_iconst (v := 0) 5 dX4_leaveOnly_4 rfl rfl ?_
  refine q_aload_n 6 dX4_leaveOnly_5 rfl rfl ?_
  refine q_getR 9 dX4_leaveOnly_6 rfl fl_X4_21 hw rfl rfl ?_
  refine q_iload_n 10 dX4_leaveOnly_9 rfl rfl ?_
  refine q_iald 11 dX4_leaveOnly_10 rfl (by decide) hw hx h10 ?_
  refine q_iast 12 dX4_leaveOnly_11 rfl (by decide) hw rfl (by decide) ?_
  refine q_aload_n 13 dX4_leaveOnly_12 rfl rfl ?_
  refine q_getR 16 dX4_leaveOnly_13 rfl fl_X4_24 hw rfl rfl ?_
  refine q_iconst (v := 0) 17 dX4_leaveOnly_16 rfl rfl ?_
  refine q_aload_n 18 dX4_leaveOnly_17 rfl rfl ?_
  refine q_getR 21 dX4_leaveOnly_18 rfl fl_X4_24 hw rfl rfl ?_
  refine q_iload_n 22 dX4_leaveOnly_21 rfl rfl ?_
  refine q_iald 23 dX4_leaveOnly_22 rfl (by decide) hw hx h10 ?_
  refine q_iast 24 dX4_leaveOnly_23 rfl (by decide) hw rfl (by decide) ?_
  refine q_aload_n 25 dX4_leaveOnly_24 rfl rfl ?_
  refine q_getR 28 dX4_leaveOnly_25 rfl fl_X4_27 hw rfl rfl ?_
  refine q_iconst (v := 0) 29 dX4_leaveOnly_28 rfl rfl ?_
  refine q_aload_n 30 dX4_leaveOnly_29 rfl rfl ?_
  refine q_getR 33 dX4_leaveOnly_30 rfl fl_X4_27 hw rfl rfl ?_
  refine q_iload_n 34 dX4_leaveOnly_33 rfl rfl ?_
  refine q_iald 35 dX4_leaveOnly_34 rfl (by decide) hw hx h10 ?_
  refine q_iast 36 dX4_leaveOnly_35 rfl (by decide) hw rfl (by decide) ?_
  refine q_aload_n 37 dX4_leaveOnly_36 rfl rfl ?_
  refine q_getR 40 dX4_leaveOnly_37 rfl fl_X4_30 hw rfl rfl ?_
  refine q_iconst (v := 0) 41 dX4_leaveOnly_40 rfl rfl ?_
  refine q_aload_n 42 dX4_leaveOnly_41 rfl rfl ?_
  refine q_getR 45 dX4_leaveOnly_42 rfl fl_X4_30 hw rfl rfl ?_
  refine q_iload_n 46 dX4_leaveOnly_45 rfl rfl ?_
  refine q_iald 47 dX4_leaveOnly_46 rfl (by decide) hw hx h10 ?_
  refine q_iast 48 dX4_leaveOnly_47 rfl (by decide) hw rfl (by decide) ?_
  refine q_aload_n 49 dX4_leaveOnly_48 rfl rfl ?_
  refine q_getR 52 dX4_leaveOnly_49 rfl fl_X4_33 hw rfl rfl ?_
  refine q_iconst (v := 0) 53 dX4_leaveOnly_52 rfl rfl ?_
  refine q_aload_n 54 dX4_leaveOnly_53 rfl rfl ?_
  refine q_getR 57 dX4_leaveOnly_54 rfl fl_X4_33 hw rfl rfl ?_
  refine q_iload_n 58 dX4_leaveOnly_57 rfl rfl ?_
  refine q_iald 59 dX4_leaveOnly_58 rfl (by decide) hw hx h10 ?_
  refine q_iast 60 dX4_leaveOnly_59 rfl (by decide) hw rfl (by decide) ?_
  refine q_aload_n 61 dX4_leaveOnly_60 rfl rfl ?_
  refine q_iconst (v := 1) 62 dX4_leaveOnly_61 rfl rfl ?_
  refine q_putI 65 dX4_leaveOnly_62 rfl fl_X4_66 fp_4_11 hw rfl (by decide) rfl rfl ?_
  refine q_vret dX4_leaveOnly_65 ?_
  exact ⟨rfl, rfl⟩
set_option maxRecDepth 100000 in
set_option maxHeartbeats 4000000 in
theorem c4_leaveNone {g : GT} (M : TM) (w : Nat) (hw : w < 3) : Cn g yX4_leaveNone cX4_leaveNone 1 none 0 [.ref (gad g 4 w)] M (Rv (putA M 4 w (upd (M 4 w) 11 0))) := by
  refine Cn.ofTR (by decide +kernel) (Nat.le_of_ble_eq_true rfl) ?_
  refine q_aload_n 1 dX4_leaveNone_0 rfl rfl ?_
  refine q_iconst (v := 0) 2 dX4_leaveNone_1 rfl rfl ?_
  refine q_putI 5 dX4_leaveNone_2 rfl fl_X4_66 fp_4_11 hw rfl (by decide) rfl rfl ?_
  refine q_vret dX4_leaveNone_5 ?_
  exact ⟨rfl, rfl⟩
