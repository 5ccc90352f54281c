/-! THE CLASS: the tape is fed -/
def pbB (v : Int32) (k : Nat) : Int32 := us v (24 - 8 * nI k) &&& 255
def pbT (T : Nat → Int32) (tp : Nat) (v : Int32) : Nat → Nat → Int32
  | 0 => T
  | k + 1 => upd (pbT T tp v k) (tp + k) (pbB v k)
def pbM (M : TM) (tp : Nat) (v : Int32) (k : Nat) : TM := putA (putA M 28 0 (pbT (M 28 0) tp v k)) 5 0 (upd (M 5 0) 7 (nI (tp + k)))
theorem pb_y : ∀ i, i < 5 → (24 : Int32) - 8 * nI i + -8 = 24 - 8 * nI (i + 1) := by decide +kernel
theorem pb_n : ∀ i, i < 4 → ¬ ((24 : Int32) - 8 * nI i < 0) := by decide +kernel
theorem pb_4 : (24 : Int32) - 8 * nI 4 < 0 := by decide
theorem pb_s (M : TM) (tp : Nat) (v x : Int32) (k : Nat) (hx : x = pbB v k) : putA (putA (pbM M tp v k) 28 0 (upd (pbM M tp v k 28 0) (tp + k) x)) 5 0 (upd (putA (pbM M tp v k) 28 0 (upd (pbM M tp v k 28 0) (tp + k) x) 5 0) 7 (nI (tp + k + 1))) = pbM M tp v (k + 1) := by
  have e28 : pbM M tp v k 28 0 = pbT (M 28 0) tp v k := by unfold pbM; rw [putA_nt _ _ _ _ (by decide), putA_s]
  have e5 : putA (pbM M tp v k) 28 0 (upd (pbM M tp v k 28 0) (tp + k) x) 5 0 = upd (M 5 0) 7 (nI (tp + k)) := by rw [putA_nt _ _ _ _ (by decide)]; unfold pbM; rw [putA_s]
  rw [e5, e28, hx]
  unfold pbM
  rw [putA_cm (putA M 28 0 (pbT (M 28 0) tp v k)) (upd (M 5 0) 7 (nI (tp + k))) _ (by decide), putA_pp, putA_pp]
  congr 1
  funext i; unfold upd
  split <;> rfl
set_option maxRecDepth 100000 in
set_option maxHeartbeats 4000000 in
theorem l5_putBytes {g : GT} (M : TM) (v : Int32) (tp : Nat) (h92 : tp ≤ 92) : ∀ (j : Nat) (i : Nat) (y : Int32), 4 - i < j → i ≤ 4 → y = 24 - 8 * nI i → TR g (rmD 0) RX5 cX5_putBytes 3 none 0 0 (Zm g (Rv (pbM M tp v 4))) 3 [some (.ref (gad g 5 0)), some (.int v), some (.int y)] [] (pbM M tp v i) := by
  intro j
  induction j with
  | zero => intro i y hj hi hy; exact absurd hj (by omega)
  | succ j ih =>
    intro i y hj hi hy
    subst hy
    have e7 : (pbM M tp v i) 5 0 7 = nI (tp + i) := by unfold pbM; rw [putA_s, upd_s]
    refine q_iload_n 4 dX5_putBytes_3 rfl rfl ?_
    refine q_if_lt 48 7 dX5_putBytes_4 rfl rfl (fun h_4 => ?_) (fun h_4 => ?_)
    · skip
      have i4 : i = 4 := by
        by_cases e : i = 4
        · exact e
        · exact absurd h_4 (pb_n i (by omega))
      refine q_vret dX5_putBytes_48 ?_
      subst i4
      exact ⟨rfl, rfl⟩
    · skip
      have i4 : i < 4 := by
        by_cases e : i = 4
        · subst e; exact absurd pb_4 h_4
        · omega
      refine q_aload_n 8 dX5_putBytes_7 rfl rfl ?_
      refine q_getI 11 dX5_putBytes_8 rfl fl_X5_233 (by decide) rfl (by decide) ?_
      refine q_bipush (v := 96) 13 dX5_putBytes_11 rfl rfl ?_
      refine q_icmp_ge 48 16 dX5_putBytes_13 rfl rfl (fun h_13 => absurd h_13 (by rw [e7, show (96 : Int32) = nI 96 from rfl, nI_leI (by omega) (by omega)]; omega)) (fun _ => ?_)
      refine q_aload_n 17 dX5_putBytes_16 rfl rfl ?_
      refine q_getR 20 dX5_putBytes_17 rfl fl_X5_38 (by decide) rfl rfl ?_
      refine q_aload_n 21 dX5_putBytes_20 rfl rfl ?_
      refine q_getI 24 dX5_putBytes_21 rfl fl_X5_233 (by decide) rfl (by decide) ?_
      refine q_iload_n 25 dX5_putBytes_24 rfl rfl ?_
      refine q_iload_n 26 dX5_putBytes_25 rfl rfl ?_
      refine q_iushr 27 dX5_putBytes_26 rfl ?_
      refine q_sipush (v := 255) 30 dX5_putBytes_27 rfl rfl ?_
      refine q_iand 31 dX5_putBytes_30 rfl ?_
      refine q_iast 32 dX5_putBytes_31 rfl (by decide) (by decide) e7 (show tp + i < 96 by omega) ?_
      refine q_aload_n 33 dX5_putBytes_32 rfl rfl ?_
      refine q_dup 34 dX5_putBytes_33 rfl rfl ?_
      refine q_getI 37 dX5_putBytes_34 rfl fl_X5_233 (by decide) rfl (by decide) ?_
      refine q_iconst (v := 1) 38 dX5_putBytes_37 rfl rfl ?_
      refine q_iadd 39 dX5_putBytes_38 rfl ?_
      refine q_putI 42 dX5_putBytes_39 rfl fl_X5_233 fp_5_7 (by decide) rfl (by decide) rfl rfl ?_
      refine q_iinc 45 dX5_putBytes_42 rfl rfl (by decide) rfl (pb_y i (by omega)) ?_
      refine q_goto 3 dX5_putBytes_45 rfl ?_
      have e7b : ∀ F, putA (pbM M tp v i) 28 0 F 5 0 7 + 1 = nI (tp + i + 1) := fun F => (congrArg (fun x => x + 1) e7).trans (nI_1 (tp + i))
      rw [e7b]
      exact q_eqM (pb_s M tp v _ i rfl) (q_fg (ih (i + 1) _ (by omega) (by omega) rfl) ⟨rfl, rfl, rfl, trivial⟩)
set_option maxRecDepth 100000 in
set_option maxHeartbeats 4000000 in
theorem c5_putBytes {g : GT} (M : TM) (v : Int32) (tp : Nat) (e7 : M 5 0 7 = nI tp) (h92 : tp ≤ 92) : Cn g yX5_putBytes cX5_putBytes 3 none 0 [.ref (gad g 5 0), .int v] M (Rv (pbM M tp v 4)) := by
  refine Cn.ofTR (by decide +kernel) (Nat.le_of_ble_eq_true rfl) ?_
  refine q_bipush (v := 24) 2 dX5_putBytes_0 rfl rfl ?_
  refine q_istore_n 3 dX5_putBytes_2 rfl (by decide) rfl ?_
  have e0 : M = pbM M tp v 0 := by
    unfold pbM
    rw [show pbT (M 28 0) tp v 0 = M 28 0 from rfl, putA_id, ← show M 5 0 7 = nI (tp + 0) from e7, upd_id, putA_id]
  exact q_eqM e0 (q_fg (l5_putBytes M v tp h92 5 0 _ (by omega) (by omega) rfl) ⟨rfl, rfl, rfl, trivial⟩)
theorem us_low (v : Int32) (n : Nat) (hn : n ≤ 24) : us v (nI n) &&& 255 = (v >>> (nI n &&& 31)) &&& 255 := by
  have ha : ∀ n, n ≤ 24 → ((nI n).toUInt32 &&& Int32.toUInt32 31).toBitVec.toNat % 32 = n := by
    have : ∀ n, n < 25 → ((nI n).toUInt32 &&& Int32.toUInt32 31).toBitVec.toNat % 32 = n := by decide +kernel
    exact fun n h => this n (by omega)
  have hb : ((nI n &&& 31).toBitVec.smod 32).toNat = n := sh_amt n (by omega)
  apply Int32.toBitVec_inj.mp
  rw [Int32.toBitVec_and, Int32.toBitVec_and, Int32.toBitVec_shiftRight]
  apply BitVec.eq_of_getLsbD_eq
  intro i hi
  rw [BitVec.getLsbD_and, BitVec.getLsbD_and]
  have h255 : (255 : Int32).toBitVec.getLsbD i = decide (i < 8) := by
    have : ∀ i, i < 32 → (255 : Int32).toBitVec.getLsbD i = decide (i < 8) := by decide +kernel
    exact this i hi
  rw [h255]
  by_cases h8 : i < 8
  · rw [decide_eq_true h8, Bool.and_true, Bool.and_true]
    have hu := pk_ushr v (nI n) n (ha n hn)
    show (us v (nI n)).toBitVec.toNat.testBit i = (v.toBitVec.sshiftRight ((nI n &&& 31).toBitVec.smod 32).toNat).getLsbD i
    rw [show (us v (nI n)).toBitVec.toNat = v.toBitVec.toNat / 2 ^ n from hu, hb, BitVec.getLsbD_sshiftRight, if_pos (show n + i < 32 by omega), decide_eq_false (show ¬ 32 ≤ i by omega), Nat.testBit_div_two_pow]
    rw [Nat.add_comm]; rfl
  · rw [decide_eq_false h8, Bool.and_false, Bool.and_false]
theorem pb_eq {v : Int32} {k : Nat} (h : k < 4) : pbB v k = (v >>> ((24 - 8 * nI k) &&& 31)) &&& 255 := by
  have e : ∀ k, k < 4 → (24 : Int32) - 8 * nI k = nI (24 - 8 * k) := by decide +kernel
  unfold pbB
  rw [e k h]
  exact us_low v _ (by omega)
theorem fd_pb (T : Nat → Int32) (tp : Nat) (a b c : Int32) : pbT (pbT (pbT T tp a 4) (tp + 4) b 4) (tp + 8) c 4 = fdT T tp a b c 12 := by
  have p0 : ∀ v k, k < 4 → pbB v k = (v >>> ((24 - 8 * nI k) &&& 31)) &&& 255 := fun v k h => pb_eq h
  have q : ∀ k, k < 12 → fdB a b c k = pbB (if k < 4 then a else if k < 8 then b else c) (k % 4) := fun k _ => (p0 _ _ (Nat.mod_lt _ (by decide))).symm
  simp only [fdT, pbT]
  rw [q 0 (by decide), q 1 (by decide), q 2 (by decide), q 3 (by decide), q 4 (by decide), q 5 (by decide), q 6 (by decide), q 7 (by decide), q 8 (by decide), q 9 (by decide), q 10 (by decide), q 11 (by decide)]
  rfl
def feM (M : TM) (tp : Nat) (a b c : Int32) : TM := putA (putA M 28 0 (fdT (M 28 0) tp a b c 12)) 5 0 (upd (M 5 0) 7 (nI (tp + 12)))
theorem pb_3 (M : TM) (tp : Nat) (a b c : Int32) : pbM (pbM (pbM M tp a 4) (tp + 4) b 4) (tp + 8) c 4 = feM M tp a b c := by
  have e28 : ∀ (M : TM) tp v, pbM M tp v 4 28 0 = pbT (M 28 0) tp v 4 := fun M tp v => by unfold pbM; rw [putA_nt _ _ _ _ (by decide), putA_s]
  have e5 : ∀ (M : TM) tp v, pbM M tp v 4 5 0 = upd (M 5 0) 7 (nI (tp + 4)) := fun M tp v => by unfold pbM; rw [putA_s]
  have key : ∀ (M : TM) (F G F' G' : Nat → Int32), putA (putA (putA (putA M 28 0 F) 5 0 G) 28 0 F') 5 0 G' = putA (putA M 28 0 F') 5 0 G' := fun M F G F' G' => by rw [putA_cm (putA M 28 0 F) G F' (by decide), putA_pp, putA_pp]
  have u7 : ∀ (f : Nat → Int32) x y, upd (upd f 7 x) 7 y = upd f 7 y := fun f x y => by funext i; unfold upd; split <;> rfl
  rw [show pbM (pbM (pbM M tp a 4) (tp + 4) b 4) (tp + 8) c 4 = putA (putA (pbM (pbM M tp a 4) (tp + 4) b 4) 28 0 (pbT (pbM (pbM M tp a 4) (tp + 4) b 4 28 0) (tp + 8) c 4)) 5 0 (upd (pbM (pbM M tp a 4) (tp + 4) b 4 5 0) 7 (nI (tp + 8 + 4))) from rfl]
  rw [e28, e28, e5, e5, u7, u7, fd_pb]
  unfold pbM
  rw [key, key]
  rfl
set_option maxRecDepth 100000 in
set_option maxHeartbeats 4000000 in
theorem c5_feed {g : GT} (M : TM) (a b c : Int32) (tp : Nat) (e7 : M 5 0 7 = nI tp) (h96 : tp ≤ 96) : Cn g yX5_feed cX5_feed 4 (some .int) 1 [.ref (gad g 5 0), .int a, .int b, .int c] M (Pi (84 < tp) FULLc (nI (tp + 12)) M (feM M tp a b c)) := by
  refine Cn.ofTR (by decide +kernel) (Nat.le_of_ble_eq_true rfl) ?_
  refine q_aload_n 1 dX5_feed_0 rfl rfl ?_
  refine q_getI 4 dX5_feed_1 rfl fl_X5_233 (by decide) rfl (by decide) ?_
  refine q_bipush (v := 84) 6 dX5_feed_4 rfl rfl ?_
  refine q_icmp_le 12 9 dX5_feed_6 rfl rfl (fun h_6 => ?_) (fun h_6 => ?_)
  · skip
    rw [e7, show (84 : Int32) = nI 84 from rfl, nI_leI (by omega) (by omega)] at h_6
    have f7 : ∀ (N : TM) t v, pbM N t v 4 5 0 7 = nI (t + 4) := fun N t v => by unfold pbM; rw [putA_s, upd_s]
    refine q_aload_n 13 dX5_feed_12 rfl rfl ?_
    refine q_iload_n 14 dX5_feed_13 rfl rfl ?_
    refine q_callVv 17 dX5_feed_14 rfl (c5_putBytes _ _ tp e7 (by omega)) cw_X5_236 (by decide) rfl rfl ⟨by decide, by decide⟩ ⟨by decide, by decide⟩ (Nat.le_of_ble_eq_true rfl) ?_
    refine q_aload_n 18 dX5_feed_17 rfl rfl ?_
    refine q_iload_n 19 dX5_feed_18 rfl rfl ?_
    refine q_callVv 22 dX5_feed_19 rfl (c5_putBytes _ _ (tp + 4) (f7 _ _ _) (by omega)) cw_X5_236 (by decide) rfl rfl ⟨by decide, by decide⟩ ⟨by decide, by decide⟩ (Nat.le_of_ble_eq_true rfl) ?_
    refine q_aload_n 23 dX5_feed_22 rfl rfl ?_
    refine q_iload_n 24 dX5_feed_23 rfl rfl ?_
    refine q_callVv 27 dX5_feed_24 rfl (c5_putBytes _ _ (tp + 8) (f7 _ _ _) (by omega)) cw_X5_236 (by decide) rfl rfl ⟨by decide, by decide⟩ ⟨by decide, by decide⟩ (Nat.le_of_ble_eq_true rfl) ?_
    refine q_aload_n 28 dX5_feed_27 rfl rfl ?_
    refine q_getI 31 dX5_feed_28 rfl fl_X5_233 (by decide) rfl (by decide) ?_
    refine q_iret dX5_feed_31 ?_
    have e := f7 (pbM (pbM M tp a 4) (tp + 4) b 4) (tp + 8) c
    rw [pb_3] at e ⊢
    rw [e]
    exact Pi_f (by omega)
  · skip
    rw [e7, show (84 : Int32) = nI 84 from rfl, nI_leI (by omega) (by omega)] at h_6
    refine q_ldc 11 dX5_feed_9 rfl cs_X5_78 ?_
    refine q_iret dX5_feed_11 ?_
    exact Pi_t (by omega)
