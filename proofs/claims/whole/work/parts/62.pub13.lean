/-! THE CLASS: rows are checked -/
theorem waF_0 (s : SS) : waF s 0 = s 6 := rfl
theorem waF_2 (s : SS) : waF s 2 = suF s 2 (nN s) := rfl
theorem dv_e {I : SS} {k : Nat} (h : k % 2 = 0) : waF (goN I (k / 2 + 1)) 0 = dvF I k := by rw [waF_0]; unfold dvF; rw [if_pos h]
theorem dv_o {I : SS} (hW : WK I) {k : Nat} (h : ¬ k % 2 = 0) : waF (goN I (k / 2 + 1)) 2 = dvF I k := by
  rw [waF_2, nN_c (goN_o hW (by omega) (k / 2 + 1))]
  unfold dvF
  rw [if_neg h]
def ckR (q : Nat → Bool) (w K k : Nat) : Int32 := if srch q (100 - k) k = w ∧ srch q (100 - k) k = 2 * K then 0 else 1 + nI (srch q (100 - k) k)
theorem ck_t {q : Nat → Bool} {w K k : Nat} (hk : k < 100) (h : q k = true) : ckR q w K k = ckR q w K (k + 1) := by
  have e : srch q (100 - k) k = srch q (100 - (k + 1)) (k + 1) := by rw [show 100 - k = (100 - (k + 1)) + 1 by omega, srch, if_pos h]
  unfold ckR; rw [e]
theorem ck_f {q : Nat → Bool} {w K k : Nat} (hk : k < 100) (h : ¬ q k = true) : ckR q w K k = if k = w ∧ k = 2 * K then 0 else 1 + nI k := by
  have e : srch q (100 - k) k = k := by rw [show 100 - k = (100 - (k + 1)) + 1 by omega, srch, if_neg h]
  unfold ckR; rw [e]
def ckQ (w K : Nat) (wt : Nat → Int32) (I : SS) (k : Nat) : Bool := decide (k < w ∧ k < 2 * K ∧ wt k = dvF I k)
theorem cq_t {w K : Nat} {wt : Nat → Int32} {I : SS} {k : Nat} (h1 : k < w) (h2 : k < 2 * K) (h3 : wt k = dvF I k) : ckQ w K wt I k = true := decide_eq_true ⟨h1, h2, h3⟩
theorem cq_f {w K : Nat} {wt : Nat → Int32} {I : SS} {k : Nat} (h : ¬ (k < w ∧ wt k = dvF I k)) : ¬ ckQ w K wt I k = true := fun z => h ⟨(of_decide_eq_true z).1, (of_decide_eq_true z).2.2⟩
theorem cq_g {w K : Nat} {wt : Nat → Int32} {I : SS} {k : Nat} (h : ¬ k < 2 * K) : ¬ ckQ w K wt I k = true := fun z => h (of_decide_eq_true z).2.1
theorem par0 {k : Nat} (hk : k < 1000) : (nI k - nI k / 2 * 2 = 0) ↔ k % 2 = 0 := by
  rw [show nI k - nI k / 2 * 2 = nI (k % 2) from rmF_nI (a := k) (d := 2) (by omega) (by decide) (by decide), show (0 : Int32) = nI 0 from rfl, nI_eq (by omega) (by omega)]
set_option maxRecDepth 100000 in
set_option maxHeartbeats 4000000 in
theorem t5_check {g : GT} (N : TM) (x d : Int32) (w k : Nat) (h60 : w ≤ 60) (k60 : k < 60) (I : SS) (hW : WK I) (hR : RW N 2 (goN I (k / 2 + 1))) (P : Option Value → TM → Prop) (hr : ¬ (k < w ∧ N 29 0 k = dvF I k) → P (some (.int (1 + nI k))) N) (hc : k < w → N 29 0 k = dvF I k → TR g (rmD 6) RX5 cX5_check 5 (some .int) 0 0 (Zm g P) 66 [some (.ref (gad g 5 0)), some (.int x), some (.int (nI w)), some (.int d), some (.int (nI (k + 1)))] [] N) : TR g (rmD 6) RX5 cX5_check 5 (some .int) 0 0 (Zm g P) 87 [some (.ref (gad g 5 0)), some (.int x), some (.int (nI w)), some (.int d), some (.int (nI k))] [] N := by
  refine q_iload 89 dX5_check_87 rfl rfl ?_
  refine q_iload_n 90 dX5_check_89 rfl rfl ?_
  refine q_icmp_ge 122 93 dX5_check_90 rfl rfl (fun h_90 => ?_) (fun h_90 => ?_)
  · skip
    rw [nI_leI (by omega) (by omega)] at h_90
    refine q_iconst (v := 1) 123 dX5_check_122 rfl rfl ?_
    refine q_iload 125 dX5_check_123 rfl rfl ?_
    refine q_iadd 126 dX5_check_125 rfl ?_
    refine q_iret dX5_check_126 ?_
    refine hr (fun q => ?_)
    first | (have hq := h_119; rw [dv_o hW h_108] at hq; exact hq q.2) | (have hq := h_119; rw [dv_e h_108] at hq; exact hq q.2) | omega
  · skip
    rw [nI_leI (by omega) (by omega)] at h_90
    refine q_aload_n 94 dX5_check_93 rfl rfl ?_
    refine q_getR 97 dX5_check_94 rfl fl_X5_54 (by decide) rfl rfl ?_
    refine q_iload 99 dX5_check_97 rfl rfl ?_
    refine q_iald 100 dX5_check_99 rfl (by decide) (by decide) rfl (show k < 60 by omega) ?_
    refine q_aload_n 101 dX5_check_100 rfl rfl ?_
    refine q_getR 104 dX5_check_101 rfl fl_X5_28 (by decide) rfl rfl ?_
    refine q_iload 106 dX5_check_104 rfl rfl ?_
    refine q_iconst (v := 2) 107 dX5_check_106 rfl rfl ?_
    refine q_irem 108 dX5_check_107 rfl (by decide) ?_
    refine q_if_ne 115 111 dX5_check_108 rfl rfl (fun h_108 => ?_) (fun h_108 => ?_)
    · skip
      rw [par0 (by omega)] at h_108
      refine q_iconst (v := 2) 116 dX5_check_115 rfl rfl ?_
      refine q_callVt 119 dX5_check_116 rfl (c4_total _ 2 (by decide) _ hR.1 hR.2.1 _ (by decide)) cw_X5_186 (by decide) rfl rfl ⟨by decide, by decide⟩ ⟨by decide, by decide⟩ (Nat.le_of_ble_eq_true rfl) ?_
      refine q_icmp_eq 127 122 dX5_check_119 rfl rfl (fun h_119 => ?_) (fun h_119 => ?_)
      · skip
        refine q_iinc 130 dX5_check_127 rfl rfl (by decide) rfl (nI_1 k) ?_
        refine q_goto 66 dX5_check_130 rfl ?_
        first
        | (have hq := h_119; rw [dv_o hW h_108] at hq; exact q_fg (hc (by omega) hq) ⟨rfl, rfl, rfl, rfl, rfl, trivial⟩)
        | (have hq := h_119; rw [dv_e h_108] at hq; exact q_fg (hc (by omega) hq) ⟨rfl, rfl, rfl, rfl, rfl, trivial⟩)
      · skip
        refine q_iconst (v := 1) 123 dX5_check_122 rfl rfl ?_
        refine q_iload 125 dX5_check_123 rfl rfl ?_
        refine q_iadd 126 dX5_check_125 rfl ?_
        refine q_iret dX5_check_126 ?_
        refine hr (fun q => ?_)
        first | (have hq := h_119; rw [dv_o hW h_108] at hq; exact hq q.2) | (have hq := h_119; rw [dv_e h_108] at hq; exact hq q.2) | omega
    · skip
      rw [par0 (by omega)] at h_108
      refine q_iconst (v := 0) 112 dX5_check_111 rfl rfl ?_
      refine q_goto 116 dX5_check_112 rfl ?_
      refine q_callVt 119 dX5_check_116 rfl (c4_total _ 2 (by decide) _ hR.1 hR.2.1 _ (by decide)) cw_X5_186 (by decide) rfl rfl ⟨by decide, by decide⟩ ⟨by decide, by decide⟩ (Nat.le_of_ble_eq_true rfl) ?_
      refine q_icmp_eq 127 122 dX5_check_119 rfl rfl (fun h_119 => ?_) (fun h_119 => ?_)
      · skip
        refine q_iinc 130 dX5_check_127 rfl rfl (by decide) rfl (nI_1 k) ?_
        refine q_goto 66 dX5_check_130 rfl ?_
        first
        | (have hq := h_119; rw [dv_o hW h_108] at hq; exact q_fg (hc (by omega) hq) ⟨rfl, rfl, rfl, rfl, rfl, trivial⟩)
        | (have hq := h_119; rw [dv_e h_108] at hq; exact q_fg (hc (by omega) hq) ⟨rfl, rfl, rfl, rfl, rfl, trivial⟩)
      · skip
        refine q_iconst (v := 1) 123 dX5_check_122 rfl rfl ?_
        refine q_iload 125 dX5_check_123 rfl rfl ?_
        refine q_iadd 126 dX5_check_125 rfl ?_
        refine q_iret dX5_check_126 ?_
        refine hr (fun q => ?_)
        first | (have hq := h_119; rw [dv_o hW h_108] at hq; exact hq q.2) | (have hq := h_119; rw [dv_e h_108] at hq; exact hq q.2) | omega
set_option maxRecDepth 100000 in
set_option maxHeartbeats 4000000 in
theorem l5_check {g : GT} (M : TM) (x : Int32) (w K : Nat) (h60 : w ≤ 60) (hK30 : K ≤ 30) (I : SS) (hW : WK I) (hT : RT M I) : ∀ (j : Nat) (k : Nat) (N : TM) (y : Int32), Kp 2 M N → RW N 2 (goN I ((k + 1) / 2)) → 2 * K - k < j → k ≤ 2 * K → y = nI k → TR g (rmD 6) RX5 cX5_check 5 (some .int) 0 0 (Zm g (PT (ckR (ckQ w K (M 29 0) I) w K k) M)) 66 [some (.ref (gad g 5 0)), some (.int x), some (.int (nI w)), some (.int (nI (2 * K))), some (.int y)] [] N := by
  intro j
  induction j with
  | zero => intro k N y hKp hR hj hk hy; exact absurd hj (by omega)
  | succ j ih =>
    intro k N y hKp hR hj hk hy
    subst hy
    have e29 : N 29 0 = M 29 0 := hKp 29 0 (by decide) (by omega)
    refine q_iload 68 dX5_check_66 rfl rfl ?_
    refine q_iload_n 69 dX5_check_68 rfl rfl ?_
    refine q_icmp_ge 133 72 dX5_check_69 rfl rfl (fun h_69 => ?_) (fun h_69 => ?_)
    · skip
      rw [nI_leI (by omega) (by omega)] at h_69
      refine q_iload_n 134 dX5_check_133 rfl rfl ?_
      refine q_iload_n 135 dX5_check_134 rfl rfl ?_
      refine q_icmp_ne 142 138 dX5_check_135 rfl rfl (fun h_135 => ?_) (fun h_135 => ?_)
      · skip
        refine q_iconst (v := 1) 143 dX5_check_142 rfl rfl ?_
        refine q_iload_n 144 dX5_check_143 rfl rfl ?_
        refine q_iadd 145 dX5_check_144 rfl ?_
        refine q_iret dX5_check_145 ?_
        have e : k = 2 * K := by omega
        refine ⟨congrArg (fun x => some (Value.int x)) ?_, hKp⟩
        rw [ck_f (by omega) (cq_g (by omega))]
        rw [nI_eq (by omega) (by omega)] at h_135
        first | (have hq : ¬ (k = w ∧ k = 2 * K) := (fun z => h_135 (z.1.symm.trans z.2)); rw [if_neg hq, e]; done) | (have hq : k = w ∧ k = 2 * K := ⟨e.trans h_135.symm, e⟩; rw [if_pos hq]; done)
      · skip
        refine q_iconst (v := 0) 139 dX5_check_138 rfl rfl ?_
        refine q_goto 145 dX5_check_139 rfl ?_
        refine q_iret dX5_check_145 ?_
        have e : k = 2 * K := by omega
        refine ⟨congrArg (fun x => some (Value.int x)) ?_, hKp⟩
        rw [ck_f (by omega) (cq_g (by omega))]
        rw [nI_eq (by omega) (by omega)] at h_135
        first | (have hq : ¬ (k = w ∧ k = 2 * K) := (fun z => h_135 (z.1.symm.trans z.2)); rw [if_neg hq, e]; done) | (have hq : k = w ∧ k = 2 * K := ⟨e.trans h_135.symm, e⟩; rw [if_pos hq]; done)
    · skip
      rw [nI_leI (by omega) (by omega)] at h_69
      refine q_iload 74 dX5_check_72 rfl rfl ?_
      refine q_iconst (v := 2) 75 dX5_check_74 rfl rfl ?_
      refine q_irem 76 dX5_check_75 rfl (by decide) ?_
      refine q_if_ne 87 79 dX5_check_76 rfl rfl (fun h_76 => ?_) (fun h_76 => ?_)
      · skip
        rw [par0 (by omega)] at h_76
        first
        | (have hq := hR2; refine t5_check N2 x _ w k h60 (by omega) I hW hq _ (fun hn => ⟨?_, hKp.tr qq.1⟩) (fun h1 h2 => ?_); (rw [(hKp.tr qq.1) 29 0 (by decide) (by omega)] at hn; rw [ck_f (by omega) (cq_f hn), if_neg (fun z => by omega)]); (rw [(hKp.tr qq.1) 29 0 (by decide) (by omega)] at h2; rw [ck_t (by omega) (cq_t h1 (by omega) h2)]; exact ih (k + 1) N2 _ (hKp.tr qq.1) (by rw [show (k + 1 + 1) / 2 = k / 2 + 1 by omega]; exact hq) (by omega) (by omega) rfl))
        | (have hq : RW N 2 (goN I (k / 2 + 1)) := (by rw [show k / 2 + 1 = (k + 1) / 2 by omega]; exact hR); refine t5_check N x _ w k h60 (by omega) I hW hq _ (fun hn => ⟨?_, hKp⟩) (fun h1 h2 => ?_); (rw [e29] at hn; rw [ck_f (by omega) (cq_f hn), if_neg (fun z => by omega)]); (rw [e29] at h2; rw [ck_t (by omega) (cq_t h1 (by omega) h2)]; exact ih (k + 1) N _ hKp (by rw [show (k + 1 + 1) / 2 = k / 2 + 1 by omega]; exact hq) (by omega) (by omega) rfl))
      · skip
        rw [par0 (by omega)] at h_76
        refine q_aload_n 80 dX5_check_79 rfl rfl ?_
        refine q_getR 83 dX5_check_80 rfl fl_X5_28 (by decide) rfl rfl ?_
        refine q_iconst (v := 1) 84 dX5_check_83 rfl rfl ?_
        refine q_callV 87 dX5_check_84 rfl (c4_pass _ 2 (by decide) _ _ (fun i => i) hR.1 (goN_WK hW _) (RT_go (hT.kp hKp) hW _) _ 1 rfl (by decide)) cw_X5_182 (by decide) rfl rfl ⟨by decide, by decide⟩ ⟨by decide, by decide⟩ (Nat.le_of_ble_eq_true rfl) ?_
        rintro _ N2 ⟨rfl, qq⟩
        have hR2 : RW N2 2 (goN I (k / 2 + 1)) := by have z := RW_goN hR (goN_WK hW _) qq; rw [show (k + 1) / 2 = k / 2 by omega] at z; exact z
        first
        | (have hq := hR2; refine t5_check N2 x _ w k h60 (by omega) I hW hq _ (fun hn => ⟨?_, hKp.tr qq.1⟩) (fun h1 h2 => ?_); (rw [(hKp.tr qq.1) 29 0 (by decide) (by omega)] at hn; rw [ck_f (by omega) (cq_f hn), if_neg (fun z => by omega)]); (rw [(hKp.tr qq.1) 29 0 (by decide) (by omega)] at h2; rw [ck_t (by omega) (cq_t h1 (by omega) h2)]; exact ih (k + 1) N2 _ (hKp.tr qq.1) (by rw [show (k + 1 + 1) / 2 = k / 2 + 1 by omega]; exact hq) (by omega) (by omega) rfl))
        | (have hq : RW N 2 (goN I (k / 2 + 1)) := (by rw [show k / 2 + 1 = (k + 1) / 2 by omega]; exact hR); refine t5_check N x _ w k h60 (by omega) I hW hq _ (fun hn => ⟨?_, hKp⟩) (fun h1 h2 => ?_); (rw [e29] at hn; rw [ck_f (by omega) (cq_f hn), if_neg (fun z => by omega)]); (rw [e29] at h2; rw [ck_t (by omega) (cq_t h1 (by omega) h2)]; exact ih (k + 1) N _ hKp (by rw [show (k + 1 + 1) / 2 = k / 2 + 1 by omega]; exact hq) (by omega) (by omega) rfl))
