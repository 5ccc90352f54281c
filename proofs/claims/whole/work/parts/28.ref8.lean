theorem duF_WF {b : Nat} {s : SS} (h : WF b s) {c : Nat} (h6 : c < 6) {n : Nat} (hn : n ≤ 99) : WF b (duF s c (nI n)) := by
  obtain ⟨sp, h1, h2⟩ := h.2.1
  exact (duF_WK h.k h6 hn).f h1 (by rw [duF_o (by omega) (by omega) (by omega) (fun j _ => by omega)]; exact h2)
theorem duF_hi {s : SS} (h : WK s) {c : Nat} (h6 : c < 6) (n : Int32) {i : Nat} (hi : 71 ≤ i) : duF s c n i = s i := duF_o (by omega) (by omega) (by omega) (fun j hj => by have := h.1.2; omega)
theorem lgB_t {s : SS} {k : Nat} (h : s 4 ≤ shF s k) : lgB s k = true := decide_eq_true h
theorem lgB_f {s : SS} {k : Nat} (h : ¬ s 4 ≤ shF s k) : ¬ lgB s k = true := fun z => h (of_decide_eq_true z)
set_option maxRecDepth 100000 in
set_option maxHeartbeats 4000000 in
theorem t6_spoonE {g : GT} (N : TM) (x z y : Int32) (b : Nat) (hb : b < 1000) (s : SS) (f f2 : Nat → Int32) : TR g (rmD 9) RX6 cX6_spoon 6 (some .int) 0 0 (Zm g (fun r M' => r = some (.int (nI b)) ∧ ∃ f f2, M' = putA (sc N f f2) 31 0 s)) 33 [some (.ref (gad g 6 0)), some (.int x), some (.int z), some (.int (nI b)), some (.int y), none] [] (putA (sc N f f2) 31 0 s) := by
  refine q_iload 35 dX6_spoon_33 rfl rfl ?_
  refine q_bipush (v := 99) 37 dX6_spoon_35 rfl rfl ?_
  refine q_icmp_gt 89 40 dX6_spoon_37 rfl rfl (fun h_37 => ?_) (fun h_37 => ?_)
  · skip
    refine q_iload_n 90 dX6_spoon_89 rfl rfl ?_
    refine q_iret dX6_spoon_90 ?_
    exact ⟨rfl, f, f2, rfl⟩
  · skip
    refine q_iload_n 41 dX6_spoon_40 rfl rfl ?_
    refine q_if_ge 89 44 dX6_spoon_41 rfl rfl (fun h_41 => ?_) (fun h_41 => ?_)
    · skip
      refine q_iload_n 90 dX6_spoon_89 rfl rfl ?_
      refine q_iret dX6_spoon_90 ?_
      exact ⟨rfl, f, f2, rfl⟩
    · skip
      exact absurd (nI_pos' (by omega)) h_41
set_option maxRecDepth 100000 in
set_option maxHeartbeats 4000000 in
theorem l6_spoon {g : GT} (N : TM) (x z : Int32) (k n c : Nat) (hk : x = nI k) (h9 : k < 10) (hz : z = nI n) (hn60 : n ≤ 60) (s : SS) (hW : WF 9999 s) (hcl : mk s k 3 = nI c) (h6 : c < 6) (h1 : ∀ i, i < 71 → N 42 0 i = s i) : ∀ (j : Nat) (v : Nat) (y : Int32) (f f2 : Nat → Int32), v ≤ 100 → v + j = 101 → y = nI v → TR g (rmD 9) RX6 cX6_spoon 6 (some .int) 0 0 (Zm g (fun r M' => r = some (.int (fst1 (fun v => lgB (goN (duF s c (nI v)) n) k) (100 - v) v)) ∧ ∃ f f2, M' = putA (sc N f f2) 31 0 s)) 33 [some (.ref (gad g 6 0)), some (.int x), some (.int z), some (.int NONEc), some (.int y), none] [] (putA (sc N f f2) 31 0 s) := by
  intro j
  induction j with
  | zero => intro v y f f2 hv hj hy; exfalso; omega
  | succ j ih =>
    intro v y f f2 hv hj hy
    subst hy
    refine q_iload 35 dX6_spoon_33 rfl rfl ?_
    refine q_bipush (v := 99) 37 dX6_spoon_35 rfl rfl ?_
    refine q_icmp_gt 89 40 dX6_spoon_37 rfl rfl (fun h_37 => ?_) (fun h_37 => ?_)
    · skip
      rw [show (99 : Int32) = nI 99 from rfl, nI_ltI (by omega) (by omega)] at h_37
      refine q_iload_n 90 dX6_spoon_89 rfl rfl ?_
      refine q_iret dX6_spoon_90 ?_
      exact ⟨by rw [show 100 - v = 0 by omega]; rfl, f, f2, rfl⟩
    · skip
      rw [show (99 : Int32) = nI 99 from rfl, nI_ltI (by omega) (by omega)] at h_37
      refine q_iload_n 41 dX6_spoon_40 rfl rfl ?_
      refine q_if_ge 89 44 dX6_spoon_41 rfl rfl (fun h_41 => absurd h_41 (by decide)) (fun _ => ?_)
      refine q_aload_n 45 dX6_spoon_44 rfl rfl ?_
      refine q_aload_n 46 dX6_spoon_45 rfl rfl ?_
      refine q_iload_n 47 dX6_spoon_46 rfl rfl ?_
      refine q_iconst (v := 3) 48 dX6_spoon_47 rfl rfl ?_
      refine q_callVt 51 dX6_spoon_48 rfl (c6_of _ _ _ k 3 hk rfl (by omega)) cw_X6_72 (by decide) rfl rfl ⟨by decide, by decide⟩ ⟨by decide, by decide⟩ (Nat.le_of_ble_eq_true rfl) ?_
      refine q_iload 53 dX6_spoon_51 rfl rfl ?_
      refine q_callVt 56 dX6_spoon_53 rfl (c6_isDug _ _ _ c hcl h6 s (by rfl) hW.1.1 hW.1.2 hW.k.n3) cw_X6_172 (by decide) rfl rfl ⟨by decide, by decide⟩ ⟨by decide, by decide⟩ (Nat.le_of_ble_eq_true rfl) ?_
      refine q_eqM (M' := putA (sc N f f2) 31 0 (duF s c (nI v))) (by rw [putA_pp]) ?_
      refine q_istore 58 dX6_spoon_56 rfl (by decide) rfl ?_
      refine q_aload_n 59 dX6_spoon_58 rfl rfl ?_
      refine q_iload_n 60 dX6_spoon_59 rfl rfl ?_
      refine q_callV 63 dX6_spoon_60 rfl (c6_goesOnMany _ _ n hz (by omega) (duF s c (nI v)) (by rfl) 9999 (duF_WF hW h6 (by omega)) (by omega)) cw_X6_182 (by decide) rfl rfl ⟨by decide, by decide⟩ ⟨by decide, by decide⟩ (Nat.le_of_ble_eq_true rfl) ?_
      rintro _ _ ⟨rfl, f3, f4, rfl⟩
      refine q_eqM (M' := putA (sc N f3 f4) 31 0 (goN (duF s c (nI v)) n)) (by rw [sc_put, putA_pp, sc_sc]) ?_
      refine q_aload_n 64 dX6_spoon_63 rfl rfl ?_
      refine q_iload_n 65 dX6_spoon_64 rfl rfl ?_
      refine q_callV 68 dX6_spoon_65 rfl (c6_isLegible _ _ (goN (duF s c (nI v)) n) (by rfl) (Wgo (duF_WF hW h6 (by omega)) n) k hk h9) cw_X6_162 (by decide) rfl rfl ⟨by decide, by decide⟩ ⟨by decide, by decide⟩ (Nat.le_of_ble_eq_true rfl) ?_
      rintro _ _ ⟨rfl, f5, f6, rfl⟩
      refine q_eqM (M' := putA (sc N f5 f6) 31 0 (goN (duF s c (nI v)) n)) (by rw [sc_put, sc_sc]) ?_
      refine q_if_eq 76 71 dX6_spoon_68 rfl rfl (fun h_68 => ?_) (fun h_68 => ?_)
      · skip
        simp only [bI_0, Classical.not_not] at h_68
        refine q_ldc 78 dX6_spoon_76 rfl cs_X6_64 ?_
        refine q_istore_n 79 dX6_spoon_78 rfl (by decide) rfl ?_
        refine q_aload_n 80 dX6_spoon_79 rfl rfl ?_
        refine q_callVv 83 dX6_spoon_80 rfl (c6_laysBack' N s (goN (duF s c (nI v)) n) f5 f6 h1 (fun i h => (goN_hi (duF_WF hW h6 (by omega)) h n).trans (duF_hi hW.k h6 _ h))) cw_X6_197 (by decide) rfl rfl ⟨by decide, by decide⟩ ⟨by decide, by decide⟩ (Nat.le_of_ble_eq_true rfl) ?_
        refine q_iinc 86 dX6_spoon_83 rfl rfl (by decide) rfl (nI_1 v) ?_
        refine q_goto 33 dX6_spoon_86 rfl ?_
        first
        | (rw [show 100 - v = (100 - (v + 1)) + 1 by omega, fst1, if_neg (show ¬ (fun v => lgB (goN (duF s c (nI v)) n) k) v = true from lgB_f h_68)]; exact q_fg (ih (v + 1) _ f5 f6 (by omega) (by omega) rfl) ⟨rfl, rfl, rfl, rfl, rfl, trivial⟩)
        | (rw [show 100 - v = (99 - v) + 1 by omega, fst1, if_pos (show (fun v => lgB (goN (duF s c (nI v)) n) k) v = true from lgB_t h_68)]; exact q_fg (t6_spoonE N x z _ v (by omega) s f5 f6) ⟨rfl, rfl, rfl, rfl, rfl, trivial⟩)
      · skip
        simp only [bI_0, Classical.not_not] at h_68
        refine q_iload 73 dX6_spoon_71 rfl rfl ?_
        refine q_goto 78 dX6_spoon_73 rfl ?_
        refine q_istore_n 79 dX6_spoon_78 rfl (by decide) rfl ?_
        refine q_aload_n 80 dX6_spoon_79 rfl rfl ?_
        refine q_callVv 83 dX6_spoon_80 rfl (c6_laysBack' N s (goN (duF s c (nI v)) n) f5 f6 h1 (fun i h => (goN_hi (duF_WF hW h6 (by omega)) h n).trans (duF_hi hW.k h6 _ h))) cw_X6_197 (by decide) rfl rfl ⟨by decide, by decide⟩ ⟨by decide, by decide⟩ (Nat.le_of_ble_eq_true rfl) ?_
        refine q_iinc 86 dX6_spoon_83 rfl rfl (by decide) rfl (nI_1 v) ?_
        refine q_goto 33 dX6_spoon_86 rfl ?_
        first
        | (rw [show 100 - v = (100 - (v + 1)) + 1 by omega, fst1, if_neg (show ¬ (fun v => lgB (goN (duF s c (nI v)) n) k) v = true from lgB_f h_68)]; exact q_fg (ih (v + 1) _ f5 f6 (by omega) (by omega) rfl) ⟨rfl, rfl, rfl, rfl, rfl, trivial⟩)
        | (rw [show 100 - v = (99 - v) + 1 by omega, fst1, if_pos (show (fun v => lgB (goN (duF s c (nI v)) n) k) v = true from lgB_t h_68)]; exact q_fg (t6_spoonE N x z _ v (by omega) s f5 f6) ⟨rfl, rfl, rfl, rfl, rfl, trivial⟩)
def aSpoon (s : SS) (m n : Int32) : Int32 := if isM s m ∧ (0 ≤ n ∧ n ≤ 60) then fst1 (fun v => lgB (goN (duF s (tn (mk s (tn m) 3)) (nI v)) (tn n)) (tn m)) 100 0 else BADc
set_option maxRecDepth 100000 in
set_option maxHeartbeats 4000000 in
theorem c6_spoon {g : GT} (M : TM) (m n : Int32) (s : SS) (hs : M 31 0 = s) (hW : WF 9999 s) : Cn g yX6_spoon cX6_spoon 6 (some .int) 9 [.ref (gad g 6 0), .int m, .int n] M (Pt (aSpoon s m n) M s) := by
  refine Cn.ofTR (by decide +kernel) (Nat.le_of_ble_eq_true rfl) ?_
  subst hs
  have hW0 := hW
  obtain ⟨⟨hn, hn10⟩, hsp, hr, hc, hm, ht⟩ := hW
  have hlo := fun i (h : i < 71) => mix_lo (M 31 0) (M 42 0) h
  refine q_aload_n 1 dX6_spoon_0 rfl rfl ?_
  refine q_iload_n 2 dX6_spoon_1 rfl rfl ?_
  refine q_callVt 5 dX6_spoon_2 rfl (c6_isMark _ _) cw_X6_116 (by decide) rfl rfl ⟨by decide, by decide⟩ ⟨by decide, by decide⟩ (Nat.le_of_ble_eq_true rfl) ?_
  refine q_if_eq 20 8 dX6_spoon_5 rfl rfl (fun h_5 => ?_) (fun h_5 => ?_)
  · skip
    simp only [bI_0, Classical.not_not] at h_5
    refine q_ldc 22 dX6_spoon_20 rfl cs_X6_110 ?_
    refine q_iret dX6_spoon_22 ?_
    refine Pt_id ?_ rfl
    unfold aSpoon
    rw [if_neg (fun q => by first | exact h_5 q.1 | exact h_17 q.2)]
  · skip
    simp only [bI_0, Classical.not_not] at h_5
    refine q_iload_n 9 dX6_spoon_8 rfl rfl ?_
    refine q_i2l 10 dX6_spoon_9 rfl ?_
    refine q_lconst (v := 0) 11 dX6_spoon_10 rfl rfl ?_
    refine q_ldc2 14 dX6_spoon_11 rfl cl_X6_200 ?_
    refine q_callSt 17 dX6_spoon_14 rfl (c6_isIn' _ _ (0) (60) _ _) cw_X6_65 rfl rfl ⟨by decide, by decide⟩ ⟨by decide, by decide⟩ (Nat.le_of_ble_eq_true rfl) ?_
    refine q_if_ne 23 20 dX6_spoon_17 rfl rfl (fun h_17 => ?_) (fun h_17 => ?_)
    · skip
      simp only [bI_0, Classical.not_not] at h_17
      obtain ⟨em, lm⟩ := isM_nat hn hn10 h_5
      obtain ⟨en, ln⟩ := rg_tn h_17 (n := 60) rfl
      obtain ⟨ec, lc⟩ := rg_nat (hm (tn m) (by omega)).2.2.2.1 (n := 5) rfl
      refine q_aload_n 24 dX6_spoon_23 rfl rfl ?_
      refine q_callVv 27 dX6_spoon_24 rfl (c6_laysBy _) cw_X6_194 (by decide) rfl rfl ⟨by decide, by decide⟩ ⟨by decide, by decide⟩ (Nat.le_of_ble_eq_true rfl) ?_
      refine q_ldc 29 dX6_spoon_27 rfl cs_X6_64 ?_
      refine q_istore_n 30 dX6_spoon_29 rfl (by decide) rfl ?_
      refine q_iconst (v := 0) 31 dX6_spoon_30 rfl rfl ?_
      refine q_istore 33 dX6_spoon_31 rfl (by decide) rfl ?_
      refine q_eqM (M' := putA (sc (putA M 42 0 (mixF (M 31 0) (M 42 0) 71)) (M 44 0) (M 45 0)) 31 0 (M 31 0)) (sc31_id (putA M 42 0 (mixF (M 31 0) (M 42 0) 71))).symm ?_
      refine TR_post (q_fg (l6_spoon (putA M 42 0 (mixF (M 31 0) (M 42 0) 71)) m n (tn m) (tn n) _ em (by omega) en ln (M 31 0) hW0 ec (by omega) hlo 101 0 0 _ _ (by omega) (by omega) rfl) ⟨rfl, rfl, rfl, rfl, rfl, trivial⟩) ?_
      rintro _ _ ⟨rfl, f, f2, rfl⟩
      unfold aSpoon
      rw [if_pos ⟨h_5, h_17⟩]
      exact ⟨rfl, _, f, f2, rfl⟩
    · skip
      simp only [bI_0, Classical.not_not] at h_17
      refine q_ldc 22 dX6_spoon_20 rfl cs_X6_110 ?_
      refine q_iret dX6_spoon_22 ?_
      refine Pt_id ?_ rfl
      unfold aSpoon
      rw [if_neg (fun q => by first | exact h_5 q.1 | exact h_17 q.2)]
set_option maxRecDepth 100000 in
set_option maxHeartbeats 4000000 in
theorem l6_mostBy {g : GT} (N : TM) (x z w : Int32) (a n : Nat) (hx : x = nI a) (ha : a < 71) (hz : z = nI n) (hn60 : n ≤ 60) (s : SS) (hU : ∀ v, v ≤ 5 → WF 9999 (upd s a (nI v))) (h1 : ∀ i, i < 71 → N 42 0 i = s i) : ∀ (j : Nat) (v : Nat) (b mo y : Int32) (r : Option Value) (f f2 : Nat → Int32), v ≤ 6 → v + j = 7 → b = (moF (fun v => goN (upd s a (nI v)) n 6) v).1 → mo = (moF (fun v => goN (upd s a (nI v)) n 6) v).2 → y = nI v → TR g (rmD 9) RX6 cX6_mostBy 9 (some .int) 0 0 (Zm g (fun r M' => r = some (.int (if w = 0 then (moF (fun v => goN (upd s a (nI v)) n 6) 6).1 else (moF (fun v => goN (upd s a (nI v)) n 6) 6).2)) ∧ ∃ f f2, M' = putA (sc N f f2) 31 0 s)) 13 [some (.ref (gad g 6 0)), some (.int x), some (.int 5), some (.int z), some (.int w), some (.int b), some (.int mo), some (.int y), none] [] (putA (sc N f f2) 31 0 s) := by
  intro j
  induction j with
  | zero => intro v b mo y r f f2 hv hj hb hmo hy; exfalso; omega
  | succ j ih =>
    intro v b mo y r f f2 hv hj hb hmo hy
    subst hy
    refine q_iload 15 dX6_mostBy_13 rfl rfl ?_
    refine q_iload_n 16 dX6_mostBy_15 rfl rfl ?_
    refine q_icmp_gt 83 19 dX6_mostBy_16 rfl rfl (fun h_16 => ?_) (fun h_16 => ?_)
    · skip
      rw [show (5 : Int32) = nI 5 from rfl, nI_ltI (by omega) (by omega)] at h_16
      refine q_iload 85 dX6_mostBy_83 rfl rfl ?_
      refine q_if_ne 93 88 dX6_mostBy_85 rfl rfl (fun h_85 => ?_) (fun h_85 => ?_)
      · skip
        refine q_iload 95 dX6_mostBy_93 rfl rfl ?_
        refine q_iret dX6_mostBy_95 ?_
        refine ⟨congrArg (fun x => some (Value.int x)) ?_, f, f2, rfl⟩
        have e : v = 6 := by omega
        subst e
        first | (rw [if_pos h_85]; exact hb) | (rw [if_neg h_85]; exact hmo)
      · skip
        refine q_iload 90 dX6_mostBy_88 rfl rfl ?_
        refine q_goto 95 dX6_mostBy_90 rfl ?_
        refine q_iret dX6_mostBy_95 ?_
        refine ⟨congrArg (fun x => some (Value.int x)) ?_, f, f2, rfl⟩
        have e : v = 6 := by omega
        subst e
        first | (rw [if_pos h_85]; exact hb) | (rw [if_neg h_85]; exact hmo)
    · skip
      rw [show (5 : Int32) = nI 5 from rfl, nI_ltI (by omega) (by omega)] at h_16
      refine q_aload_n 20 dX6_mostBy_19 rfl rfl ?_
      refine q_getR 23 dX6_mostBy_20 rfl fl_X6_7 (by decide) rfl rfl ?_
      refine q_iload_n 24 dX6_mostBy_23 rfl rfl ?_
      refine q_iload 26 dX6_mostBy_24 rfl rfl ?_
      refine q_iast 27 dX6_mostBy_26 rfl (by decide) (by decide) hx (show a < 3071 by omega) ?_
      refine q_aload_n 28 dX6_mostBy_27 rfl rfl ?_
      refine q_iload_n 29 dX6_mostBy_28 rfl rfl ?_
      refine q_callV 32 dX6_mostBy_29 rfl (c6_goesOnMany _ _ n hz (by omega) (upd s a (nI v)) (by rfl) 9999 (hU v (by omega)) (by omega)) cw_X6_182 (by decide) rfl rfl ⟨by decide, by decide⟩ ⟨by decide, by decide⟩ (Nat.le_of_ble_eq_true rfl) ?_
      rintro _ _ ⟨rfl, f3, f4, rfl⟩
      refine q_eqM (M' := putA (sc N f3 f4) 31 0 (goN (upd s a (nI v)) n)) (by rw [sc_put, putA_pp, sc_put, putA_pp, sc_sc]) ?_
      refine q_aload_n 33 dX6_mostBy_32 rfl rfl ?_
      refine q_getR 36 dX6_mostBy_33 rfl fl_X6_7 (by decide) rfl rfl ?_
      refine q_bipush (v := 6) 38 dX6_mostBy_36 rfl rfl ?_
      refine q_iald 39 dX6_mostBy_38 rfl (by decide) (by decide) rfl (by decide) ?_
      refine q_istore 41 dX6_mostBy_39 rfl (by decide) rfl ?_
      refine q_aload_n 42 dX6_mostBy_41 rfl rfl ?_
      refine q_callVv 45 dX6_mostBy_42 rfl (c6_laysBack' N s (goN (upd s a (nI v)) n) f3 f4 h1 (fun i h => (goN_hi (hU v (by omega)) h n).trans (upd_n (by omega)))) cw_X6_197 (by decide) rfl rfl ⟨by decide, by decide⟩ ⟨by decide, by decide⟩ (Nat.le_of_ble_eq_true rfl) ?_
      refine q_iload 47 dX6_mostBy_45 rfl rfl ?_
      refine q_iload 49 dX6_mostBy_47 rfl rfl ?_
      refine q_icmp_le 57 52 dX6_mostBy_49 rfl rfl (fun h_49 => ?_) (fun h_49 => ?_)
      · skip
        refine q_iload 59 dX6_mostBy_57 rfl rfl ?_
        refine q_istore 61 dX6_mostBy_59 rfl (by decide) rfl ?_
        refine q_iload 63 dX6_mostBy_61 rfl rfl ?_
        refine q_iload 65 dX6_mostBy_63 rfl rfl ?_
        refine q_icmp_le 73 68 dX6_mostBy_65 rfl rfl (fun h_65 => ?_) (fun h_65 => ?_)
        · skip
          refine q_iload 75 dX6_mostBy_73 rfl rfl ?_
          refine q_istore 77 dX6_mostBy_75 rfl (by decide) rfl ?_
          refine q_iinc 80 dX6_mostBy_77 rfl rfl (by decide) rfl (nI_1 v) ?_
          refine q_goto 13 dX6_mostBy_80 rfl ?_
          first
          | exact absurd h_49 h_65
          | exact absurd h_65 h_49
          | exact q_fg (ih (v + 1) _ _ _ none f3 f4 (by omega) (by omega) (by unfold moF; rw [← hmo]; first | (rw [if_pos (show mo < goN (upd s a (nI v)) n 6 from Int32.not_le.mp h_49)]) | (rw [if_neg (show ¬ mo < goN (upd s a (nI v)) n 6 from Int32.not_lt.mpr h_49)]; exact hb)) (by unfold moF; rw [← hmo]; first | (rw [if_pos (show mo < goN (upd s a (nI v)) n 6 from Int32.not_le.mp h_49)]; rfl) | (rw [if_neg (show ¬ mo < goN (upd s a (nI v)) n 6 from Int32.not_lt.mpr h_49)]; exact hmo)) rfl) ⟨rfl, rfl, rfl, rfl, rfl, rfl, rfl, rfl, trivial⟩
        · skip
          refine q_iload 70 dX6_mostBy_68 rfl rfl ?_
          refine q_goto 75 dX6_mostBy_70 rfl ?_
          refine q_istore 77 dX6_mostBy_75 rfl (by decide) rfl ?_
          refine q_iinc 80 dX6_mostBy_77 rfl rfl (by decide) rfl (nI_1 v) ?_
          refine q_goto 13 dX6_mostBy_80 rfl ?_
          first
          | exact absurd h_49 h_65
          | exact absurd h_65 h_49
          | exact q_fg (ih (v + 1) _ _ _ none f3 f4 (by omega) (by omega) (by unfold moF; rw [← hmo]; first | (rw [if_pos (show mo < goN (upd s a (nI v)) n 6 from Int32.not_le.mp h_49)]) | (rw [if_neg (show ¬ mo < goN (upd s a (nI v)) n 6 from Int32.not_lt.mpr h_49)]; exact hb)) (by unfold moF; rw [← hmo]; first | (rw [if_pos (show mo < goN (upd s a (nI v)) n 6 from Int32.not_le.mp h_49)]; rfl) | (rw [if_neg (show ¬ mo < goN (upd s a (nI v)) n 6 from Int32.not_lt.mpr h_49)]; exact hmo)) rfl) ⟨rfl, rfl, rfl, rfl, rfl, rfl, rfl, rfl, trivial⟩
      · skip
        refine q_iload 54 dX6_mostBy_52 rfl rfl ?_
        refine q_goto 59 dX6_mostBy_54 rfl ?_
        refine q_istore 61 dX6_mostBy_59 rfl (by decide) rfl ?_
        refine q_iload 63 dX6_mostBy_61 rfl rfl ?_
        refine q_iload 65 dX6_mostBy_63 rfl rfl ?_
        refine q_icmp_le 73 68 dX6_mostBy_65 rfl rfl (fun h_65 => ?_) (fun h_65 => ?_)
        · skip
          refine q_iload 75 dX6_mostBy_73 rfl rfl ?_
          refine q_istore 77 dX6_mostBy_75 rfl (by decide) rfl ?_
          refine q_iinc 80 dX6_mostBy_77 rfl rfl (by decide) rfl (nI_1 v) ?_
          refine q_goto 13 dX6_mostBy_80 rfl ?_
          first
          | exact absurd h_49 h_65
          | exact absurd h_65 h_49
          | exact q_fg (ih (v + 1) _ _ _ none f3 f4 (by omega) (by omega) (by unfold moF; rw [← hmo]; first | (rw [if_pos (show mo < goN (upd s a (nI v)) n 6 from Int32.not_le.mp h_49)]) | (rw [if_neg (show ¬ mo < goN (upd s a (nI v)) n 6 from Int32.not_lt.mpr h_49)]; exact hb)) (by unfold moF; rw [← hmo]; first | (rw [if_pos (show mo < goN (upd s a (nI v)) n 6 from Int32.not_le.mp h_49)]; rfl) | (rw [if_neg (show ¬ mo < goN (upd s a (nI v)) n 6 from Int32.not_lt.mpr h_49)]; exact hmo)) rfl) ⟨rfl, rfl, rfl, rfl, rfl, rfl, rfl, rfl, trivial⟩
        · skip
          refine q_iload 70 dX6_mostBy_68 rfl rfl ?_
          refine q_goto 75 dX6_mostBy_70 rfl ?_
          refine q_istore 77 dX6_mostBy_75 rfl (by decide) rfl ?_
          refine q_iinc 80 dX6_mostBy_77 rfl rfl (by decide) rfl (nI_1 v) ?_
          refine q_goto 13 dX6_mostBy_80 rfl ?_
          first
          | exact absurd h_49 h_65
          | exact absurd h_65 h_49
          | exact q_fg (ih (v + 1) _ _ _ none f3 f4 (by omega) (by omega) (by unfold moF; rw [← hmo]; first | (rw [if_pos (show mo < goN (upd s a (nI v)) n 6 from Int32.not_le.mp h_49)]) | (rw [if_neg (show ¬ mo < goN (upd s a (nI v)) n 6 from Int32.not_lt.mpr h_49)]; exact hb)) (by unfold moF; rw [← hmo]; first | (rw [if_pos (show mo < goN (upd s a (nI v)) n 6 from Int32.not_le.mp h_49)]; rfl) | (rw [if_neg (show ¬ mo < goN (upd s a (nI v)) n 6 from Int32.not_lt.mpr h_49)]; exact hmo)) rfl) ⟨rfl, rfl, rfl, rfl, rfl, rfl, rfl, rfl, trivial⟩
set_option maxRecDepth 100000 in
set_option maxHeartbeats 4000000 in
theorem c6_mostBy {g : GT} (M : TM) (x z w : Int32) (a n : Nat) (hx : x = nI a) (ha : a < 71) (hz : z = nI n) (hn60 : n ≤ 60) (s : SS) (hs : M 31 0 = s) (hU : ∀ v, v ≤ 5 → WF 9999 (upd s a (nI v))) : Cn g yX6_mostBy cX6_mostBy 9 (some .int) 9 [.ref (gad g 6 0), .int x, .int 5, .int z, .int w] M (Pt (if w = 0 then (moF (fun v => goN (upd s a (nI v)) n 6) 6).1 else (moF (fun v => goN (upd s a (nI v)) n 6) 6).2) M s) := by
  refine Cn.ofTR (by decide +kernel) (Nat.le_of_ble_eq_true rfl) ?_
  subst hs
  have hlo := fun i (h : i < 71) => mix_lo (M 31 0) (M 42 0) h
  refine q_aload_n 1 dX6_mostBy_0 rfl rfl ?_
  refine q_callVv 4 dX6_mostBy_1 rfl (c6_laysBy _) cw_X6_194 (by decide) rfl rfl ⟨by decide, by decide⟩ ⟨by decide, by decide⟩ (Nat.le_of_ble_eq_true rfl) ?_
  refine q_iconst (v := (-1)) 5 dX6_mostBy_4 rfl rfl ?_
  refine q_istore 7 dX6_mostBy_5 rfl (by decide) rfl ?_
  refine q_iconst (v := (-1)) 8 dX6_mostBy_7 rfl rfl ?_
  refine q_istore 10 dX6_mostBy_8 rfl (by decide) rfl ?_
  refine q_iconst (v := 0) 11 dX6_mostBy_10 rfl rfl ?_
  refine q_istore 13 dX6_mostBy_11 rfl (by decide) rfl ?_
  refine q_eqM (M' := putA (sc (putA M 42 0 (mixF (M 31 0) (M 42 0) 71)) (M 44 0) (M 45 0)) 31 0 (M 31 0)) (sc31_id (putA M 42 0 (mixF (M 31 0) (M 42 0) 71))).symm ?_
  refine TR_post (q_fg (l6_mostBy (putA M 42 0 (mixF (M 31 0) (M 42 0) 71)) x z w a n hx ha hz hn60 (M 31 0) hU hlo 7 0 _ _ _ none _ _ (by omega) (by omega) rfl rfl rfl) ⟨rfl, rfl, rfl, rfl, rfl, rfl, rfl, rfl, trivial⟩) ?_
  rintro _ _ ⟨rfl, f, f2, rfl⟩
  exact ⟨rfl, _, f, f2, rfl⟩
theorem WF_mk {b : Nat} {s : SS} (h : WF b s) {k w : Nat} (h9 : k < 10) (hw : w = 0 ∨ w = 3) {v : Nat} (hv : v ≤ 5) : WF b (upd s (21 + 5 * k + w) (nI v)) := by
  obtain ⟨⟨h0, h10⟩, ⟨sp, hs1, hs2⟩, hr, hc, hm, ht⟩ := h
  have e : ∀ i, i < 21 ∨ 71 ≤ i → upd s (21 + 5 * k + w) (nI v) i = s i := fun i hi => upd_n (by omega)
  refine ⟨by rw [nN_c (e 0 (by omega)), e 0 (by omega)]; exact ⟨h0, h10⟩, ⟨sp, hs1, by rw [e 2 (by omega)]; exact hs2⟩, ?_, ?_, ?_, WFt_c (e 1 (by omega)) (fun i hi => e i (by omega)) ht⟩
  · unfold WFr; rw [e 3 (by omega), e 4 (by omega), e 5 (by omega), e 6 (by omega), e 7 (by omega)]; exact hr
  · intro c hc6; rw [e _ (by omega), e _ (by omega)]; exact hc c hc6
  · intro j hj
    obtain ⟨g0, g1, g2, g3, g4⟩ := hm j hj
    have hv5 : rg (nI v) 0 5 := rg_of (b := 5) rfl hv
    have e2 : ∀ w', w' < 5 → (w' ≠ w) ∨ j ≠ k → mk (upd s (21 + 5 * k + w) (nI v)) j w' = mk s j w' := fun w' hw' hn => upd_n (by rcases hn with hn | hn <;> omega)
    rw [e2 1 (by decide) (Or.inl (by omega)), e2 2 (by decide) (Or.inl (by omega)), e2 4 (by decide) (Or.inl (by omega))]
    by_cases hjk : j = k
    · subst hjk
      rcases hw with rfl | rfl
      · rw [e2 3 (by decide) (Or.inl (by omega)), show mk (upd s (21 + 5 * j + 0) (nI v)) j 0 = nI v from upd_s]; exact ⟨hv5, g1, g2, g3, g4⟩
      · rw [e2 0 (by decide) (Or.inl (by omega)), show mk (upd s (21 + 5 * j + 3) (nI v)) j 3 = nI v from upd_s]; exact ⟨g0, g1, g2, hv5, g4⟩
    · rw [e2 0 (by decide) (Or.inr hjk), e2 3 (by decide) (Or.inr hjk)]; exact ⟨g0, g1, g2, g3, g4⟩
def aMost (s : SS) (w0 : Nat) (m n w : Int32) : Int32 := if isM s m ∧ ((1 ≤ n ∧ n ≤ 60) ∧ (0 ≤ w ∧ w ≤ 1)) then (if w = 0 then (moF (fun v => goN (upd s (21 + 5 * tn m + w0) (nI v)) (tn n) 6) 6).1 else (moF (fun v => goN (upd s (21 + 5 * tn m + w0) (nI v)) (tn n) 6) 6).2) else BADc
theorem ix_o3 {a : Nat} {x : Int32} (hx : x = nI a) : 21 + 5 * x + 3 = nI (21 + 5 * a + 3) := ix_of hx rfl
set_option maxRecDepth 100000 in
set_option maxHeartbeats 4000000 in
theorem c6_place {g : GT} (M : TM) (m n w : Int32) (s : SS) (hs : M 31 0 = s) (hW : WF 9999 s) : Cn g yX6_place cX6_place 4 (some .int) 10 [.ref (gad g 6 0), .int m, .int n, .int w] M (Pt (aMost s 3 m n w) M s) := by
  refine Cn.ofTR (by decide +kernel) (Nat.le_of_ble_eq_true rfl) ?_
  subst hs
  have hW0 := hW
  obtain ⟨⟨hn, hn10⟩, hsp, hr, hc, hm, ht⟩ := hW
  refine q_aload_n 1 dX6_place_0 rfl rfl ?_
  refine q_iload_n 2 dX6_place_1 rfl rfl ?_
  refine q_callVt 5 dX6_place_2 rfl (c6_isMark _ _) cw_X6_116 (by decide) rfl rfl ⟨by decide, by decide⟩ ⟨by decide, by decide⟩ (Nat.le_of_ble_eq_true rfl) ?_
  refine q_if_eq 34 8 dX6_place_5 rfl rfl (fun h_5 => ?_) (fun h_5 => ?_)
  · skip
    simp only [bI_0, Classical.not_not] at h_5
    refine q_ldc 36 dX6_place_34 rfl cs_X6_110 ?_
    refine q_iret dX6_place_36 ?_
    unfold aMost
    first | (rw [if_pos ⟨h_5, h_13⟩]; exact ⟨rfl, C, f, f2, rfl⟩) | exact Pt_id (by rw [if_neg (fun q => by first | exact h_5 q.1 | exact h_13 q.2)]) rfl
  · skip
    simp only [bI_0, Classical.not_not] at h_5
    refine q_iload_n 9 dX6_place_8 rfl rfl ?_
    refine q_iload_n 10 dX6_place_9 rfl rfl ?_
    refine q_callSt 13 dX6_place_10 rfl (c6_isAsked _ _ _) cw_X6_202 rfl rfl ⟨by decide, by decide⟩ ⟨by decide, by decide⟩ (Nat.le_of_ble_eq_true rfl) ?_
    refine q_if_eq 34 16 dX6_place_13 rfl rfl (fun h_13 => ?_) (fun h_13 => ?_)
    · skip
      simp only [bI_0, Classical.not_not] at h_13
      refine q_ldc 36 dX6_place_34 rfl cs_X6_110 ?_
      refine q_iret dX6_place_36 ?_
      unfold aMost
      first | (rw [if_pos ⟨h_5, h_13⟩]; exact ⟨rfl, C, f, f2, rfl⟩) | exact Pt_id (by rw [if_neg (fun q => by first | exact h_5 q.1 | exact h_13 q.2)]) rfl
    · skip
      simp only [bI_0, Classical.not_not] at h_13
      obtain ⟨em, lm⟩ := isM_nat hn hn10 h_5
      obtain ⟨en, ln⟩ := rg_tn (x := n) (hi := 60) (n := 60) ⟨Int32.le_trans (by decide) h_13.1.1, h_13.1.2⟩ rfl
      refine q_aload_n 17 dX6_place_16 rfl rfl ?_
      refine q_bipush (v := 21) 19 dX6_place_17 rfl rfl ?_
      refine q_iconst (v := 5) 20 dX6_place_19 rfl rfl ?_
      refine q_iload_n 21 dX6_place_20 rfl rfl ?_
      refine q_imul 22 dX6_place_21 rfl ?_
      refine q_iadd 23 dX6_place_22 rfl ?_
      refine q_iconst (v := 3) 24 dX6_place_23 rfl rfl ?_
      refine q_iadd 25 dX6_place_24 rfl ?_
      refine q_iconst (v := 5) 26 dX6_place_25 rfl rfl ?_
      refine q_iload_n 27 dX6_place_26 rfl rfl ?_
      refine q_iload_n 28 dX6_place_27 rfl rfl ?_
      refine q_callV 31 dX6_place_28 rfl (c6_mostBy _ _ _ _ (21 + 5 * tn m + 3) (tn n) (ix_o3 em) (by omega) en ln (M 31 0) (by rfl) (fun v hv => WF_mk hW0 (by omega) (by omega) hv)) cw_X6_205 (by decide) rfl rfl ⟨by decide, by decide⟩ ⟨by decide, by decide⟩ (Nat.le_of_ble_eq_true rfl) ?_
      rintro _ _ ⟨rfl, C, f, f2, rfl⟩
      refine q_goto 36 dX6_place_31 rfl ?_
      refine q_iret dX6_place_36 ?_
      unfold aMost
      first | (rw [if_pos ⟨h_5, h_13⟩]; exact ⟨rfl, C, f, f2, rfl⟩) | exact Pt_id (by rw [if_neg (fun q => by first | exact h_5 q.1 | exact h_13 q.2)]) rfl
set_option maxRecDepth 100000 in
set_option maxHeartbeats 4000000 in
theorem c6_becomes {g : GT} (M : TM) (m n w : Int32) (s : SS) (hs : M 31 0 = s) (hW : WF 9999 s) : Cn g yX6_becomes cX6_becomes 4 (some .int) 10 [.ref (gad g 6 0), .int m, .int n, .int w] M (Pt (aMost s 0 m n w) M s) := by
  refine Cn.ofTR (by decide +kernel) (Nat.le_of_ble_eq_true rfl) ?_
  subst hs
  have hW0 := hW
  obtain ⟨⟨hn, hn10⟩, hsp, hr, hc, hm, ht⟩ := hW
  refine q_aload_n 1 dX6_becomes_0 rfl rfl ?_
  refine q_iload_n 2 dX6_becomes_1 rfl rfl ?_
  refine q_callVt 5 dX6_becomes_2 rfl (c6_isMark _ _) cw_X6_116 (by decide) rfl rfl ⟨by decide, by decide⟩ ⟨by decide, by decide⟩ (Nat.le_of_ble_eq_true rfl) ?_
  refine q_if_eq 32 8 dX6_becomes_5 rfl rfl (fun h_5 => ?_) (fun h_5 => ?_)
  · skip
    simp only [bI_0, Classical.not_not] at h_5
    refine q_ldc 34 dX6_becomes_32 rfl cs_X6_110 ?_
    refine q_iret dX6_becomes_34 ?_
    unfold aMost
    first | (rw [if_pos ⟨h_5, h_13⟩]; exact ⟨rfl, C, f, f2, rfl⟩) | exact Pt_id (by rw [if_neg (fun q => by first | exact h_5 q.1 | exact h_13 q.2)]) rfl
  · skip
    simp only [bI_0, Classical.not_not] at h_5
    refine q_iload_n 9 dX6_becomes_8 rfl rfl ?_
    refine q_iload_n 10 dX6_becomes_9 rfl rfl ?_
    refine q_callSt 13 dX6_becomes_10 rfl (c6_isAsked _ _ _) cw_X6_202 rfl rfl ⟨by decide, by decide⟩ ⟨by decide, by decide⟩ (Nat.le_of_ble_eq_true rfl) ?_
    refine q_if_eq 32 16 dX6_becomes_13 rfl rfl (fun h_13 => ?_) (fun h_13 => ?_)
    · skip
      simp only [bI_0, Classical.not_not] at h_13
      refine q_ldc 34 dX6_becomes_32 rfl cs_X6_110 ?_
      refine q_iret dX6_becomes_34 ?_
      unfold aMost
      first | (rw [if_pos ⟨h_5, h_13⟩]; exact ⟨rfl, C, f, f2, rfl⟩) | exact Pt_id (by rw [if_neg (fun q => by first | exact h_5 q.1 | exact h_13 q.2)]) rfl
    · skip
      simp only [bI_0, Classical.not_not] at h_13
      obtain ⟨em, lm⟩ := isM_nat hn hn10 h_5
      obtain ⟨en, ln⟩ := rg_tn (x := n) (hi := 60) (n := 60) ⟨Int32.le_trans (by decide) h_13.1.1, h_13.1.2⟩ rfl
      refine q_aload_n 17 dX6_becomes_16 rfl rfl ?_
      refine q_bipush (v := 21) 19 dX6_becomes_17 rfl rfl ?_
      refine q_iconst (v := 5) 20 dX6_becomes_19 rfl rfl ?_
      refine q_iload_n 21 dX6_becomes_20 rfl rfl ?_
      refine q_imul 22 dX6_becomes_21 rfl ?_
      refine q_iadd 23 dX6_becomes_22 rfl ?_
      refine q_iconst (v := 5) 24 dX6_becomes_23 rfl rfl ?_
      refine q_iload_n 25 dX6_becomes_24 rfl rfl ?_
      refine q_iload_n 26 dX6_becomes_25 rfl rfl ?_
      refine q_callV 29 dX6_becomes_26 rfl (c6_mostBy _ _ _ _ (21 + 5 * tn m + 0) (tn n) (ix_o1 em) (by omega) en ln (M 31 0) (by rfl) (fun v hv => WF_mk hW0 (by omega) (by omega) hv)) cw_X6_205 (by decide) rfl rfl ⟨by decide, by decide⟩ ⟨by decide, by decide⟩ (Nat.le_of_ble_eq_true rfl) ?_
      rintro _ _ ⟨rfl, C, f, f2, rfl⟩
      refine q_goto 34 dX6_becomes_29 rfl ?_
      refine q_iret dX6_becomes_34 ?_
      unfold aMost
      first | (rw [if_pos ⟨h_5, h_13⟩]; exact ⟨rfl, C, f, f2, rfl⟩) | exact Pt_id (by rw [if_neg (fun q => by first | exact h_5 q.1 | exact h_13 q.2)]) rfl
