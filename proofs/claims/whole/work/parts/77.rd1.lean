/-! THE CLASS'S READER: tokens -/
def soF (c : Int32) : Int32 := if isLt c then 1 else if isDg c then 2 else 0
def KG (M N : TM) : Prop := (∀ t k, ¬ (t = 0 ∧ k = 0) → N t k = M t k) ∧ ∀ j, j ≠ 6 → j ≠ 7 → j ≠ 8 → N 0 0 j = M 0 0 j
theorem KG.rf (M : TM) : KG M M := ⟨fun _ _ _ => rfl, fun _ _ _ _ => rfl⟩
theorem KG.fm {M N : TM} (h : KG M N) {j : Nat} (v : Int32) (hj : j = 6 ∨ j = 7 ∨ j = 8) : KG M (putA N 0 0 (upd (N 0 0) j v)) :=
  ⟨fun t k q => (putA_n _ _ _ _ q).trans (h.1 t k q), fun i h6 h7 h8 => by rw [putA_s, upd_n (by omega)]; exact h.2 i h6 h7 h8⟩
def CSo (t : Tk) (v : Int32) : Prop := (t.2.2 = 0 ∧ v = 4) ∨ (t.2.2 = 1 ∧ v = 1) ∨ (t.2.2 = 2 ∧ v = 2) ∨ (t.2.2 = 3 ∧ v = 0) ∨ (t.2.2 = 4 ∧ (v = 3 ∨ v = 2 ∧ 4 < t.2.1 - t.1))
def TK0 (t : Tk) (N : TM) : Prop := N 0 0 7 = nI t.1 ∧ N 0 0 8 = nI (if t.2.2 = 0 then t.1 + 1 else t.2.1) ∧ CSo t (N 0 0 6)
abbrev QG (t : Tk) (M : TM) : Option Value → TM → Prop := fun r N => r = none ∧ KG M N ∧ TK0 t N
theorem so_1 {c : Int32} : soF c = 1 ↔ isLt c := by
  unfold soF
  constructor
  · intro h
    by_cases h1 : isLt c
    · exact h1
    · rw [if_neg h1] at h
      split at h <;> exact absurd h (by decide)
  · intro h; rw [if_pos h]
theorem so_2 {c : Int32} : soF c = 2 ↔ ¬ isLt c ∧ isDg c := by
  unfold soF
  constructor
  · intro h
    by_cases h1 : isLt c
    · rw [if_pos h1] at h; exact absurd h (by decide)
    · rw [if_neg h1] at h
      by_cases h2 : isDg c
      · exact ⟨h1, h2⟩
      · rw [if_neg h2] at h; exact absurd h (by decide)
  · rintro ⟨h1, h2⟩; rw [if_neg h1, if_pos h2]
theorem dg_lt {c : Int32} (h : isDg c) : ¬ isLt c := fun z => absurd (Int32.le_trans z.1 h.2) (by decide)
set_option maxRecDepth 100000 in
set_option maxHeartbeats 4000000 in
theorem c0_sortOf {g : GT} (M : TM) (c : Int32) : Cn g yX0_sortOf cX0_sortOf 1 (some .int) 0 [.int c] M (Rt (.int (soF c)) M) := by
  refine Cn.ofTR (by decide +kernel) (Nat.le_of_ble_eq_true rfl) ?_
  refine q_iload_n 1 dX0_sortOf_0 rfl rfl ?_
  refine q_bipush (v := 97) 3 dX0_sortOf_1 rfl rfl ?_
  refine q_icmp_lt 14 6 dX0_sortOf_3 rfl rfl (fun h_3 => ?_) (fun h_3 => ?_)
  · skip
    have hL : ¬ isLt c := fun z => Int32.lt_irrefl (Int32.lt_of_le_of_lt z.1 h_3)
    refine q_iload_n 15 dX0_sortOf_14 rfl rfl ?_
    refine q_bipush (v := 48) 17 dX0_sortOf_15 rfl rfl ?_
    refine q_icmp_lt 30 20 dX0_sortOf_17 rfl rfl (fun h_17 => ?_) (fun h_17 => ?_)
    · skip
      have hD : ¬ isDg c := fun z => Int32.lt_irrefl (Int32.lt_of_le_of_lt z.1 h_17)
      refine q_iconst (v := 0) 31 dX0_sortOf_30 rfl rfl ?_
      refine q_iret dX0_sortOf_31 ?_
      refine ⟨congrArg (fun x => some (Value.int x)) ?_, rfl⟩
      unfold soF
      rw [if_neg hL]
      first | exact (if_pos hD).symm | exact (if_neg hD).symm
    · skip
      refine q_iload_n 21 dX0_sortOf_20 rfl rfl ?_
      refine q_bipush (v := 57) 23 dX0_sortOf_21 rfl rfl ?_
      refine q_icmp_gt 30 26 dX0_sortOf_23 rfl rfl (fun h_23 => ?_) (fun h_23 => ?_)
      · skip
        have hD : ¬ isDg c := fun z => Int32.lt_irrefl (Int32.lt_of_lt_of_le h_23 z.2)
        refine q_iconst (v := 0) 31 dX0_sortOf_30 rfl rfl ?_
        refine q_iret dX0_sortOf_31 ?_
        refine ⟨congrArg (fun x => some (Value.int x)) ?_, rfl⟩
        unfold soF
        rw [if_neg hL]
        first | exact (if_pos hD).symm | exact (if_neg hD).symm
      · skip
        have hD : isDg c := ⟨Int32.not_lt.mp h_17, Int32.not_lt.mp h_23⟩
        refine q_iconst (v := 2) 27 dX0_sortOf_26 rfl rfl ?_
        refine q_goto 31 dX0_sortOf_27 rfl ?_
        refine q_iret dX0_sortOf_31 ?_
        refine ⟨congrArg (fun x => some (Value.int x)) ?_, rfl⟩
        unfold soF
        rw [if_neg hL]
        first | exact (if_pos hD).symm | exact (if_neg hD).symm
  · skip
    refine q_iload_n 7 dX0_sortOf_6 rfl rfl ?_
    refine q_bipush (v := 122) 9 dX0_sortOf_7 rfl rfl ?_
    refine q_icmp_gt 14 12 dX0_sortOf_9 rfl rfl (fun h_9 => ?_) (fun h_9 => ?_)
    · skip
      have hL : ¬ isLt c := fun z => Int32.lt_irrefl (Int32.lt_of_lt_of_le h_9 z.2)
      refine q_iload_n 15 dX0_sortOf_14 rfl rfl ?_
      refine q_bipush (v := 48) 17 dX0_sortOf_15 rfl rfl ?_
      refine q_icmp_lt 30 20 dX0_sortOf_17 rfl rfl (fun h_17 => ?_) (fun h_17 => ?_)
      · skip
        have hD : ¬ isDg c := fun z => Int32.lt_irrefl (Int32.lt_of_le_of_lt z.1 h_17)
        refine q_iconst (v := 0) 31 dX0_sortOf_30 rfl rfl ?_
        refine q_iret dX0_sortOf_31 ?_
        refine ⟨congrArg (fun x => some (Value.int x)) ?_, rfl⟩
        unfold soF
        rw [if_neg hL]
        first | exact (if_pos hD).symm | exact (if_neg hD).symm
      · skip
        refine q_iload_n 21 dX0_sortOf_20 rfl rfl ?_
        refine q_bipush (v := 57) 23 dX0_sortOf_21 rfl rfl ?_
        refine q_icmp_gt 30 26 dX0_sortOf_23 rfl rfl (fun h_23 => ?_) (fun h_23 => ?_)
        · skip
          have hD : ¬ isDg c := fun z => Int32.lt_irrefl (Int32.lt_of_lt_of_le h_23 z.2)
          refine q_iconst (v := 0) 31 dX0_sortOf_30 rfl rfl ?_
          refine q_iret dX0_sortOf_31 ?_
          refine ⟨congrArg (fun x => some (Value.int x)) ?_, rfl⟩
          unfold soF
          rw [if_neg hL]
          first | exact (if_pos hD).symm | exact (if_neg hD).symm
        · skip
          have hD : isDg c := ⟨Int32.not_lt.mp h_17, Int32.not_lt.mp h_23⟩
          refine q_iconst (v := 2) 27 dX0_sortOf_26 rfl rfl ?_
          refine q_goto 31 dX0_sortOf_27 rfl ?_
          refine q_iret dX0_sortOf_31 ?_
          refine ⟨congrArg (fun x => some (Value.int x)) ?_, rfl⟩
          unfold soF
          rw [if_neg hL]
          first | exact (if_pos hD).symm | exact (if_neg hD).symm
    · skip
      have hL : isLt c := ⟨Int32.not_lt.mp h_3, Int32.not_lt.mp h_9⟩
      refine q_iconst (v := 1) 13 dX0_sortOf_12 rfl rfl ?_
      refine q_iret dX0_sortOf_13 ?_
      refine ⟨congrArg (fun x => some (Value.int x)) ?_, rfl⟩
      exact (if_pos hL).symm
set_option maxRecDepth 100000 in
set_option maxHeartbeats 4000000 in
theorem l0_go2 {g : GT} (M : TM) (T : Nat → Int32) (n : Nat) (mT : M 28 0 = T) (m4 : M 0 0 4 = 1) (m5 : M 0 0 5 = nI n) (h96 : n ≤ 96) (bh pp : Nat) (hbn : bh ≤ n) (hpn : pp ≤ n) (wa : Bool) (c : Int32) (B : Nat → Bool) (hB : ∀ q, B q = true ↔ q < n ∧ soF (T q) = c) : ∀ (j : Nat) (q : Nat) (N : TM), KG M N → N 0 0 7 = nI pp → N 0 0 8 = nI q → N 0 0 6 = c → q ≤ n → n - q < j → TR g (rmD 1) RX0 cX0_goOn 3 none 0 0 (Zm g (fun r N' => r = none ∧ KG M N' ∧ N' 0 0 7 = nI pp ∧ N' 0 0 8 = nI (en B n q) ∧ N' 0 0 6 = if wa = true ∧ bh = pp then 3 else c)) 127 [some (.ref (gad g 0 0)), some (.int (bI (wa = true))), some (.int (nI bh))] [] N := by
  intro j
  induction j with
  | zero => intro q N hK h7 h8 h6 hqn hj; exact absurd hj (by omega)
  | succ j ih =>
    intro q N hK h7 h8 h6 hqn hj
    have kT : N 28 0 = T := (hK.1 28 0 (by decide)).trans mT
    have hT : N 0 0 4 = 1 := (hK.2 4 (by decide) (by decide) (by decide)).trans m4
    have h5 : N 0 0 5 = nI n := (hK.2 5 (by decide) (by decide) (by decide)).trans m5
    refine q_aload_n 128 dX0_goOn_127 rfl rfl ?_
    refine q_getI 131 dX0_goOn_128 rfl fl_X0_37 (by decide) rfl (by decide) ?_
    refine q_aload_n 132 dX0_goOn_131 rfl rfl ?_
    refine q_getI 135 dX0_goOn_132 rfl fl_X0_24 (by decide) rfl (by decide) ?_
    refine q_icmp_ge 170 138 dX0_goOn_135 rfl rfl (fun h_135 => ?_) (fun h_135 => ?_)
    · skip
      rw [h8, h5, nI_leI (by omega) (by omega)] at h_135
      have eB : en B n q = q := en_f (fun z => absurd ((hB q).mp z).1 (by omega))
      refine q_iload_n 171 dX0_goOn_170 rfl rfl ?_
      refine q_if_eq 187 174 dX0_goOn_171 rfl rfl (fun h_171 => ?_) (fun h_171 => ?_)
      · skip
        simp only [bI_0, Classical.not_not] at h_171
        refine q_vret dX0_goOn_187 ?_
        first
          | exact ⟨rfl, hK.fm _ (by decide), h7, (by rw [eB]; exact h8), (if_pos ⟨h_171, h_179.symm⟩).symm⟩
          | exact ⟨rfl, hK, h7, (by rw [eB]; exact h8), h6.trans (if_neg (fun z => h_171 z.1)).symm⟩
          | exact ⟨rfl, hK, h7, (by rw [eB]; exact h8), h6.trans (if_neg (fun z => h_179 z.2.symm)).symm⟩
      · skip
        simp only [bI_0, Classical.not_not] at h_171
        refine q_aload_n 175 dX0_goOn_174 rfl rfl ?_
        refine q_getI 178 dX0_goOn_175 rfl fl_X0_53 (by decide) rfl (by decide) ?_
        refine q_iload_n 179 dX0_goOn_178 rfl rfl ?_
        refine q_icmp_ne 187 182 dX0_goOn_179 rfl rfl (fun h_179 => ?_) (fun h_179 => ?_)
        · skip
          rw [h7, nI_eq (by omega) (by omega)] at h_179
          refine q_vret dX0_goOn_187 ?_
          first
            | exact ⟨rfl, hK.fm _ (by decide), h7, (by rw [eB]; exact h8), (if_pos ⟨h_171, h_179.symm⟩).symm⟩
            | exact ⟨rfl, hK, h7, (by rw [eB]; exact h8), h6.trans (if_neg (fun z => h_171 z.1)).symm⟩
            | exact ⟨rfl, hK, h7, (by rw [eB]; exact h8), h6.trans (if_neg (fun z => h_179 z.2.symm)).symm⟩
        · skip
          rw [h7, nI_eq (by omega) (by omega)] at h_179
          refine q_aload_n 183 dX0_goOn_182 rfl rfl ?_
          refine q_iconst (v := 3) 184 dX0_goOn_183 rfl rfl ?_
          refine q_putI 187 dX0_goOn_184 rfl fl_X0_34 fp_0_6 (by decide) rfl (by decide) rfl rfl ?_
          refine q_vret dX0_goOn_187 ?_
          first
            | exact ⟨rfl, hK.fm _ (by decide), h7, (by rw [eB]; exact h8), (if_pos ⟨h_171, h_179.symm⟩).symm⟩
            | exact ⟨rfl, hK, h7, (by rw [eB]; exact h8), h6.trans (if_neg (fun z => h_171 z.1)).symm⟩
            | exact ⟨rfl, hK, h7, (by rw [eB]; exact h8), h6.trans (if_neg (fun z => h_179 z.2.symm)).symm⟩
    · skip
      rw [h8, h5, nI_leI (by omega) (by omega)] at h_135
      refine q_aload_n 139 dX0_goOn_138 rfl rfl ?_
      refine q_getT 142 dX0_goOn_139 rfl fl_X0_15 (by decide) hT ?_
      refine q_aload_n 143 dX0_goOn_142 rfl rfl ?_
      refine q_getI 146 dX0_goOn_143 rfl fl_X0_37 (by decide) rfl (by decide) ?_
      refine q_iald 147 dX0_goOn_146 rfl (by decide) (by decide) h8 (show q < 96 by omega) ?_
      refine q_callSt 150 dX0_goOn_147 rfl (c0_sortOf _ _) cw_X0_63 rfl rfl ⟨by decide, by decide⟩ ⟨by decide, by decide⟩ (Nat.le_of_ble_eq_true rfl) ?_
      refine q_aload_n 151 dX0_goOn_150 rfl rfl ?_
      refine q_getI 154 dX0_goOn_151 rfl fl_X0_34 (by decide) rfl (by decide) ?_
      refine q_icmp_ne 170 157 dX0_goOn_154 rfl rfl (fun h_154 => ?_) (fun h_154 => ?_)
      · skip
        rw [kT, h6] at h_154
        have eB : en B n q = q := en_f (fun z => h_154 ((hB q).mp z).2)
        refine q_iload_n 171 dX0_goOn_170 rfl rfl ?_
        refine q_if_eq 187 174 dX0_goOn_171 rfl rfl (fun h_171 => ?_) (fun h_171 => ?_)
        · skip
          simp only [bI_0, Classical.not_not] at h_171
          refine q_vret dX0_goOn_187 ?_
          first
            | exact ⟨rfl, hK.fm _ (by decide), h7, (by rw [eB]; exact h8), (if_pos ⟨h_171, h_179.symm⟩).symm⟩
            | exact ⟨rfl, hK, h7, (by rw [eB]; exact h8), h6.trans (if_neg (fun z => h_171 z.1)).symm⟩
            | exact ⟨rfl, hK, h7, (by rw [eB]; exact h8), h6.trans (if_neg (fun z => h_179 z.2.symm)).symm⟩
        · skip
          simp only [bI_0, Classical.not_not] at h_171
          refine q_aload_n 175 dX0_goOn_174 rfl rfl ?_
          refine q_getI 178 dX0_goOn_175 rfl fl_X0_53 (by decide) rfl (by decide) ?_
          refine q_iload_n 179 dX0_goOn_178 rfl rfl ?_
          refine q_icmp_ne 187 182 dX0_goOn_179 rfl rfl (fun h_179 => ?_) (fun h_179 => ?_)
          · skip
            rw [h7, nI_eq (by omega) (by omega)] at h_179
            refine q_vret dX0_goOn_187 ?_
            first
              | exact ⟨rfl, hK.fm _ (by decide), h7, (by rw [eB]; exact h8), (if_pos ⟨h_171, h_179.symm⟩).symm⟩
              | exact ⟨rfl, hK, h7, (by rw [eB]; exact h8), h6.trans (if_neg (fun z => h_171 z.1)).symm⟩
              | exact ⟨rfl, hK, h7, (by rw [eB]; exact h8), h6.trans (if_neg (fun z => h_179 z.2.symm)).symm⟩
          · skip
            rw [h7, nI_eq (by omega) (by omega)] at h_179
            refine q_aload_n 183 dX0_goOn_182 rfl rfl ?_
            refine q_iconst (v := 3) 184 dX0_goOn_183 rfl rfl ?_
            refine q_putI 187 dX0_goOn_184 rfl fl_X0_34 fp_0_6 (by decide) rfl (by decide) rfl rfl ?_
            refine q_vret dX0_goOn_187 ?_
            first
              | exact ⟨rfl, hK.fm _ (by decide), h7, (by rw [eB]; exact h8), (if_pos ⟨h_171, h_179.symm⟩).symm⟩
              | exact ⟨rfl, hK, h7, (by rw [eB]; exact h8), h6.trans (if_neg (fun z => h_171 z.1)).symm⟩
              | exact ⟨rfl, hK, h7, (by rw [eB]; exact h8), h6.trans (if_neg (fun z => h_179 z.2.symm)).symm⟩
      · skip
        rw [kT, h6] at h_154
        have eB : en B n q = en B n (q + 1) := en_t (by omega) ((hB q).mpr ⟨by omega, h_154⟩)
        refine q_aload_n 158 dX0_goOn_157 rfl rfl ?_
        refine q_dup 159 dX0_goOn_158 rfl rfl ?_
        refine q_getI 162 dX0_goOn_159 rfl fl_X0_37 (by decide) rfl (by decide) ?_
        refine q_iconst (v := 1) 163 dX0_goOn_162 rfl rfl ?_
        refine q_iadd 164 dX0_goOn_163 rfl ?_
        refine q_putI 167 dX0_goOn_164 rfl fl_X0_37 fp_0_8 (by decide) rfl (by decide) rfl rfl ?_
        refine q_goto 127 dX0_goOn_167 rfl ?_
        rw [eB]
        exact ih (q + 1) _ (hK.fm _ (by decide)) h7 (by show N 0 0 8 + 1 = _; rw [h8]; exact nI_1 q) h6 (by omega) (by omega)
set_option maxRecDepth 100000 in
set_option maxHeartbeats 4000000 in
theorem t0_go98e {g : GT} (M : TM) (T : Nat → Int32) (n : Nat) (mT : M 28 0 = T) (m4 : M 0 0 4 = 1) (m5 : M 0 0 5 = nI n) (h96 : n ≤ 96) (bh pp : Nat) (hbn : bh ≤ n) (hpn : pp ≤ n) (wa : Bool) (N : TM) (hK : KG M N) (h7 : N 0 0 7 = nI pp) (hp : ¬ pp < n) : TR g (rmD 1) RX0 cX0_goOn 3 none 0 0 (Zm g (QG (nxA T n pp (decide (wa = true ∧ bh = pp))) M)) 98 [some (.ref (gad g 0 0)), some (.int (bI (wa = true))), some (.int (nI bh))] [.int 4, .ref (gad g 0 0)] N := by
  refine q_putI 101 dX0_goOn_98 rfl fl_X0_34 fp_0_6 (by decide) rfl (by decide) rfl rfl ?_
  refine q_aload_n 102 dX0_goOn_101 rfl rfl ?_
  refine q_aload_n 103 dX0_goOn_102 rfl rfl ?_
  refine q_getI 106 dX0_goOn_103 rfl fl_X0_53 (by decide) rfl (by decide) ?_
  refine q_iconst (v := 1) 107 dX0_goOn_106 rfl rfl ?_
  refine q_iadd 108 dX0_goOn_107 rfl ?_
  refine q_putI 111 dX0_goOn_108 rfl fl_X0_37 fp_0_8 (by decide) rfl (by decide) rfl rfl ?_
  refine q_aload_n 112 dX0_goOn_111 rfl rfl ?_
  refine q_getI 115 dX0_goOn_112 rfl fl_X0_34 (by decide) rfl (by decide) ?_
  refine q_iconst (v := 1) 116 dX0_goOn_115 rfl rfl ?_
  refine q_icmp_eq 127 119 dX0_goOn_116 rfl rfl (fun h_116 => absurd (show (4 : Int32) = 1 from h_116) (by decide)) (fun _ => ?_)
  refine q_aload_n 120 dX0_goOn_119 rfl rfl ?_
  refine q_getI 123 dX0_goOn_120 rfl fl_X0_34 (by decide) rfl (by decide) ?_
  refine q_iconst (v := 2) 124 dX0_goOn_123 rfl rfl ?_
  refine q_icmp_ne 187 127 dX0_goOn_124 rfl rfl (fun _ => ?_) (fun h_124 => absurd (show (4 : Int32) = 2 from h_124) (by decide))
  refine q_vret dX0_goOn_187 ?_
  refine ⟨rfl, (hK.fm _ (by decide)).fm _ (by decide), ?_⟩
  unfold nxA
  rw [if_neg hp]
  exact ⟨h7, (by show N 0 0 7 + 1 = _; rw [h7]; exact nI_1 pp), Or.inl ⟨rfl, rfl⟩⟩
set_option maxRecDepth 100000 in
set_option maxHeartbeats 4000000 in
theorem t0_go98 {g : GT} (M : TM) (T : Nat → Int32) (n : Nat) (mT : M 28 0 = T) (m4 : M 0 0 4 = 1) (m5 : M 0 0 5 = nI n) (h96 : n ≤ 96) (bh pp : Nat) (hbn : bh ≤ n) (hpn : pp ≤ n) (wa : Bool) (N : TM) (hK : KG M N) (h7 : N 0 0 7 = nI pp) (hp : pp < n) : TR g (rmD 1) RX0 cX0_goOn 3 none 0 0 (Zm g (QG (nxA T n pp (decide (wa = true ∧ bh = pp))) M)) 98 [some (.ref (gad g 0 0)), some (.int (bI (wa = true))), some (.int (nI bh))] [.int (soF (T pp)), .ref (gad g 0 0)] N := by
  refine q_putI 101 dX0_goOn_98 rfl fl_X0_34 fp_0_6 (by decide) rfl (by decide) rfl rfl ?_
  refine q_aload_n 102 dX0_goOn_101 rfl rfl ?_
  refine q_aload_n 103 dX0_goOn_102 rfl rfl ?_
  refine q_getI 106 dX0_goOn_103 rfl fl_X0_53 (by decide) rfl (by decide) ?_
  refine q_iconst (v := 1) 107 dX0_goOn_106 rfl rfl ?_
  refine q_iadd 108 dX0_goOn_107 rfl ?_
  refine q_putI 111 dX0_goOn_108 rfl fl_X0_37 fp_0_8 (by decide) rfl (by decide) rfl rfl ?_
  refine q_aload_n 112 dX0_goOn_111 rfl rfl ?_
  refine q_getI 115 dX0_goOn_112 rfl fl_X0_34 (by decide) rfl (by decide) ?_
  refine q_iconst (v := 1) 116 dX0_goOn_115 rfl rfl ?_
  refine q_icmp_eq 127 119 dX0_goOn_116 rfl rfl (fun h_116 => ?_) (fun h_116 => ?_)
  · skip
    have h_116 : soF (T pp) = 1 := h_116
    have hL := so_1.mp h_116
    by_cases hL : isLt (T pp)
    · refine TR_post (q_fg (l0_go2 M T n mT m4 m5 h96 bh pp hbn hpn wa 1 (ltB T n) (fun q => by unfold ltB; rw [decide_eq_true_eq, so_1]) (n - (pp + 1) + 1) (pp + 1) _ ((hK.fm _ (by decide)).fm _ (by decide)) h7 (by show N 0 0 7 + 1 = _; rw [h7]; exact nI_1 pp) (so_1.mpr hL) (by omega) (by omega)) ⟨rfl, rfl, rfl, trivial⟩) ?_
      rintro r N' ⟨rfl, k, e7, e8, e6⟩
      refine ⟨rfl, k, ?_⟩
      unfold nxA
      rw [if_pos hp, if_pos hL, en_t hp (decide_eq_true ⟨hp, hL⟩)]
      by_cases hw : wa = true ∧ bh = pp
      · rw [if_pos hw] at e6; rw [decide_eq_true hw, if_pos rfl]; exact ⟨e7, e8, Or.inr (Or.inr (Or.inr (Or.inr ⟨rfl, Or.inl e6⟩)))⟩
      · rw [if_neg hw] at e6; rw [decide_eq_false hw, if_neg (by decide)]; exact ⟨e7, e8, Or.inr (Or.inl ⟨rfl, e6⟩)⟩
    · have h2 : soF (T pp) = 2 := by first | exact h_124 | exact absurd h_116 (fun z => hL (so_1.mp z))
      have hD := (so_2.mp h2).2
      refine TR_post (q_fg (l0_go2 M T n mT m4 m5 h96 bh pp hbn hpn wa 2 (dgB T n) (fun q => by unfold dgB; rw [decide_eq_true_eq, so_2]; exact ⟨fun z => ⟨z.1, dg_lt z.2, z.2⟩, fun z => ⟨z.1, z.2.2⟩⟩) (n - (pp + 1) + 1) (pp + 1) _ ((hK.fm _ (by decide)).fm _ (by decide)) h7 (by show N 0 0 7 + 1 = _; rw [h7]; exact nI_1 pp) h2 (by omega) (by omega)) ⟨rfl, rfl, rfl, trivial⟩) ?_
      rintro r N' ⟨rfl, k, e7, e8, e6⟩
      refine ⟨rfl, k, ?_⟩
      unfold nxA
      rw [if_pos hp, if_neg hL, if_pos hD, en_t hp (decide_eq_true ⟨hp, hD⟩)]
      by_cases hw : wa = true ∧ bh = pp
      · rw [if_pos hw] at e6; rw [if_pos (Or.inl (decide_eq_true hw))]; exact ⟨e7, e8, Or.inr (Or.inr (Or.inr (Or.inr ⟨rfl, Or.inl e6⟩)))⟩
      · rw [if_neg hw] at e6
        by_cases h4 : 4 < en (dgB T n) n (pp + 1) - pp
        · rw [if_pos (Or.inr h4)]; exact ⟨e7, e8, Or.inr (Or.inr (Or.inr (Or.inr ⟨rfl, Or.inr ⟨e6, h4⟩⟩)))⟩
        · rw [if_neg (fun z => z.elim (fun z => hw (of_decide_eq_true z)) h4)]; exact ⟨e7, e8, Or.inr (Or.inr (Or.inl ⟨rfl, e6⟩))⟩
  · skip
    have h_116 : ¬ soF (T pp) = 1 := h_116
    have hL : ¬ isLt (T pp) := fun z => h_116 (so_1.mpr z)
    refine q_aload_n 120 dX0_goOn_119 rfl rfl ?_
    refine q_getI 123 dX0_goOn_120 rfl fl_X0_34 (by decide) rfl (by decide) ?_
    refine q_iconst (v := 2) 124 dX0_goOn_123 rfl rfl ?_
    refine q_icmp_ne 187 127 dX0_goOn_124 rfl rfl (fun h_124 => ?_) (fun h_124 => ?_)
    · skip
      have h_124 : ¬ soF (T pp) = 2 := h_124
      have hD : ¬ isDg (T pp) := fun z => h_124 (so_2.mpr ⟨hL, z⟩)
      refine q_vret dX0_goOn_187 ?_
      refine ⟨rfl, (hK.fm _ (by decide)).fm _ (by decide), ?_⟩
      unfold nxA
      rw [if_pos hp, if_neg hL, if_neg hD]
      exact ⟨h7, (by show N 0 0 7 + 1 = _; rw [h7]; exact nI_1 pp), Or.inr (Or.inr (Or.inr (Or.inl ⟨rfl, (by show soF (T pp) = 0; unfold soF; rw [if_neg hL, if_neg hD])⟩)))⟩
    · skip
      have h_124 : soF (T pp) = 2 := h_124
      have hD := (so_2.mp h_124).2
      by_cases hL : isLt (T pp)
      · refine TR_post (q_fg (l0_go2 M T n mT m4 m5 h96 bh pp hbn hpn wa 1 (ltB T n) (fun q => by unfold ltB; rw [decide_eq_true_eq, so_1]) (n - (pp + 1) + 1) (pp + 1) _ ((hK.fm _ (by decide)).fm _ (by decide)) h7 (by show N 0 0 7 + 1 = _; rw [h7]; exact nI_1 pp) (so_1.mpr hL) (by omega) (by omega)) ⟨rfl, rfl, rfl, trivial⟩) ?_
        rintro r N' ⟨rfl, k, e7, e8, e6⟩
        refine ⟨rfl, k, ?_⟩
        unfold nxA
        rw [if_pos hp, if_pos hL, en_t hp (decide_eq_true ⟨hp, hL⟩)]
        by_cases hw : wa = true ∧ bh = pp
        · rw [if_pos hw] at e6; rw [decide_eq_true hw, if_pos rfl]; exact ⟨e7, e8, Or.inr (Or.inr (Or.inr (Or.inr ⟨rfl, Or.inl e6⟩)))⟩
        · rw [if_neg hw] at e6; rw [decide_eq_false hw, if_neg (by decide)]; exact ⟨e7, e8, Or.inr (Or.inl ⟨rfl, e6⟩)⟩
      · have h2 : soF (T pp) = 2 := by first | exact h_124 | exact absurd h_116 (fun z => hL (so_1.mp z))
        have hD := (so_2.mp h2).2
        refine TR_post (q_fg (l0_go2 M T n mT m4 m5 h96 bh pp hbn hpn wa 2 (dgB T n) (fun q => by unfold dgB; rw [decide_eq_true_eq, so_2]; exact ⟨fun z => ⟨z.1, dg_lt z.2, z.2⟩, fun z => ⟨z.1, z.2.2⟩⟩) (n - (pp + 1) + 1) (pp + 1) _ ((hK.fm _ (by decide)).fm _ (by decide)) h7 (by show N 0 0 7 + 1 = _; rw [h7]; exact nI_1 pp) h2 (by omega) (by omega)) ⟨rfl, rfl, rfl, trivial⟩) ?_
        rintro r N' ⟨rfl, k, e7, e8, e6⟩
        refine ⟨rfl, k, ?_⟩
        unfold nxA
        rw [if_pos hp, if_neg hL, if_pos hD, en_t hp (decide_eq_true ⟨hp, hD⟩)]
        by_cases hw : wa = true ∧ bh = pp
        · rw [if_pos hw] at e6; rw [if_pos (Or.inl (decide_eq_true hw))]; exact ⟨e7, e8, Or.inr (Or.inr (Or.inr (Or.inr ⟨rfl, Or.inl e6⟩)))⟩
        · rw [if_neg hw] at e6
          by_cases h4 : 4 < en (dgB T n) n (pp + 1) - pp
          · rw [if_pos (Or.inr h4)]; exact ⟨e7, e8, Or.inr (Or.inr (Or.inr (Or.inr ⟨rfl, Or.inr ⟨e6, h4⟩⟩)))⟩
          · rw [if_neg (fun z => z.elim (fun z => hw (of_decide_eq_true z)) h4)]; exact ⟨e7, e8, Or.inr (Or.inr (Or.inl ⟨rfl, e6⟩))⟩
set_option maxRecDepth 100000 in
set_option maxHeartbeats 4000000 in
theorem t0_go70 {g : GT} (M : TM) (T : Nat → Int32) (n : Nat) (mT : M 28 0 = T) (m4 : M 0 0 4 = 1) (m5 : M 0 0 5 = nI n) (h96 : n ≤ 96) (bh pp : Nat) (hbn : bh ≤ n) (hpn : pp ≤ n) (wa : Bool) (N : TM) (hK : KG M N) (h7 : N 0 0 7 = nI pp) : TR g (rmD 1) RX0 cX0_goOn 3 none 0 0 (Zm g (QG (nxA T n pp (decide (wa = true ∧ bh = pp))) M)) 70 [some (.ref (gad g 0 0)), some (.int (bI (wa = true))), some (.int (nI bh))] [] N := by
  have kT : N 28 0 = T := (hK.1 28 0 (by decide)).trans mT
  have hT : N 0 0 4 = 1 := (hK.2 4 (by decide) (by decide) (by decide)).trans m4
  have h5 : N 0 0 5 = nI n := (hK.2 5 (by decide) (by decide) (by decide)).trans m5
  refine q_aload_n 71 dX0_goOn_70 rfl rfl ?_
  refine q_aload_n 72 dX0_goOn_71 rfl rfl ?_
  refine q_getI 75 dX0_goOn_72 rfl fl_X0_53 (by decide) rfl (by decide) ?_
  refine q_aload_n 76 dX0_goOn_75 rfl rfl ?_
  refine q_getI 79 dX0_goOn_76 rfl fl_X0_24 (by decide) rfl (by decide) ?_
  refine q_icmp_ge 97 82 dX0_goOn_79 rfl rfl (fun h_79 => ?_) (fun h_79 => ?_)
  · skip
    rw [h7, h5, nI_leI (by omega) (by omega)] at h_79
    refine q_iconst (v := 4) 98 dX0_goOn_97 rfl rfl ?_
    first
      | exact q_fg (t0_go98e M T n mT m4 m5 h96 bh pp hbn hpn wa N hK h7 (by omega)) ⟨rfl, rfl, rfl, trivial⟩
      | exact q_eqS (congrArg (fun f => [Value.int (soF (f pp)), .ref (gad g 0 0)]) kT) (q_fg (t0_go98 M T n mT m4 m5 h96 bh pp hbn hpn wa N hK h7 (by omega)) ⟨rfl, rfl, rfl, trivial⟩)
  · skip
    rw [h7, h5, nI_leI (by omega) (by omega)] at h_79
    refine q_aload_n 83 dX0_goOn_82 rfl rfl ?_
    refine q_getT 86 dX0_goOn_83 rfl fl_X0_15 (by decide) hT ?_
    refine q_aload_n 87 dX0_goOn_86 rfl rfl ?_
    refine q_getI 90 dX0_goOn_87 rfl fl_X0_53 (by decide) rfl (by decide) ?_
    refine q_iald 91 dX0_goOn_90 rfl (by decide) (by decide) h7 (show pp < 96 by omega) ?_
    refine q_callSt 94 dX0_goOn_91 rfl (c0_sortOf _ _) cw_X0_63 rfl rfl ⟨by decide, by decide⟩ ⟨by decide, by decide⟩ (Nat.le_of_ble_eq_true rfl) ?_
    refine q_goto 98 dX0_goOn_94 rfl ?_
    first
      | exact q_fg (t0_go98e M T n mT m4 m5 h96 bh pp hbn hpn wa N hK h7 (by omega)) ⟨rfl, rfl, rfl, trivial⟩
      | exact q_eqS (congrArg (fun f => [Value.int (soF (f pp)), .ref (gad g 0 0)]) kT) (q_fg (t0_go98 M T n mT m4 m5 h96 bh pp hbn hpn wa N hK h7 (by omega)) ⟨rfl, rfl, rfl, trivial⟩)
set_option maxRecDepth 100000 in
set_option maxHeartbeats 4000000 in
theorem l0_go1 {g : GT} (M : TM) (T : Nat → Int32) (n : Nat) (mT : M 28 0 = T) (m4 : M 0 0 4 = 1) (m5 : M 0 0 5 = nI n) (h96 : n ≤ 96) (bh : Nat) (hbn : bh ≤ n) (wa : Bool) : ∀ (j : Nat) (q : Nat) (N : TM), KG M N → N 0 0 7 = nI q → q ≤ n → n - q < j → TR g (rmD 1) RX0 cX0_goOn 3 none 0 0 (Zm g (QG (nxA T n (en (blB T n) n q) (decide (wa = true ∧ bh = en (blB T n) n q))) M)) 32 [some (.ref (gad g 0 0)), some (.int (bI (wa = true))), some (.int (nI bh))] [] N := by
  intro j
  induction j with
  | zero => intro q N hK h7 hqn hj; exact absurd hj (by omega)
  | succ j ih =>
    intro q N hK h7 hqn hj
    have kT : N 28 0 = T := (hK.1 28 0 (by decide)).trans mT
    have hT : N 0 0 4 = 1 := (hK.2 4 (by decide) (by decide) (by decide)).trans m4
    have h5 : N 0 0 5 = nI n := (hK.2 5 (by decide) (by decide) (by decide)).trans m5
    refine q_aload_n 33 dX0_goOn_32 rfl rfl ?_
    refine q_getI 36 dX0_goOn_33 rfl fl_X0_53 (by decide) rfl (by decide) ?_
    refine q_aload_n 37 dX0_goOn_36 rfl rfl ?_
    refine q_getI 40 dX0_goOn_37 rfl fl_X0_24 (by decide) rfl (by decide) ?_
    refine q_icmp_ge 70 43 dX0_goOn_40 rfl rfl (fun h_40 => ?_) (fun h_40 => ?_)
    · skip
      rw [h7, h5, nI_leI (by omega) (by omega)] at h_40
      rw [en_f (q := blB T n) (p := q) (fun z => absurd (of_decide_eq_true z).1 (by omega))]
      exact q_fg (t0_go70 M T n mT m4 m5 h96 bh q hbn hqn wa N hK h7) ⟨rfl, rfl, rfl, trivial⟩
    · skip
      rw [h7, h5, nI_leI (by omega) (by omega)] at h_40
      refine q_aload_n 44 dX0_goOn_43 rfl rfl ?_
      refine q_getT 47 dX0_goOn_44 rfl fl_X0_15 (by decide) hT ?_
      refine q_aload_n 48 dX0_goOn_47 rfl rfl ?_
      refine q_getI 51 dX0_goOn_48 rfl fl_X0_53 (by decide) rfl (by decide) ?_
      refine q_iald 52 dX0_goOn_51 rfl (by decide) (by decide) h7 (show q < 96 by omega) ?_
      refine q_bipush (v := 32) 54 dX0_goOn_52 rfl rfl ?_
      refine q_icmp_ne 70 57 dX0_goOn_54 rfl rfl (fun h_54 => ?_) (fun h_54 => ?_)
      · skip
        rw [kT] at h_54
        rw [en_f (q := blB T n) (p := q) (fun z => h_54 (of_decide_eq_true z).2)]
        exact q_fg (t0_go70 M T n mT m4 m5 h96 bh q hbn hqn wa N hK h7) ⟨rfl, rfl, rfl, trivial⟩
      · skip
        rw [kT] at h_54
        rw [en_t (q := blB T n) (p := q) (by omega) (decide_eq_true ⟨by omega, h_54⟩)]
        refine q_aload_n 58 dX0_goOn_57 rfl rfl ?_
        refine q_dup 59 dX0_goOn_58 rfl rfl ?_
        refine q_getI 62 dX0_goOn_59 rfl fl_X0_53 (by decide) rfl (by decide) ?_
        refine q_iconst (v := 1) 63 dX0_goOn_62 rfl rfl ?_
        refine q_iadd 64 dX0_goOn_63 rfl ?_
        refine q_putI 67 dX0_goOn_64 rfl fl_X0_53 fp_0_7 (by decide) rfl (by decide) rfl rfl ?_
        refine q_goto 32 dX0_goOn_67 rfl ?_
        exact ih (q + 1) _ (hK.fm _ (by decide)) (by show N 0 0 7 + 1 = _; rw [h7]; exact nI_1 q) (by omega) (by omega)
set_option maxRecDepth 100000 in
set_option maxHeartbeats 4000000 in
theorem t0_go21 {g : GT} (M : TM) (T : Nat → Int32) (n : Nat) (mT : M 28 0 = T) (m4 : M 0 0 4 = 1) (m5 : M 0 0 5 = nI n) (h96 : n ≤ 96) (bh : Nat) (hbn : bh ≤ n) (h8 : M 0 0 8 = nI bh) : TR g (rmD 1) RX0 cX0_goOn 3 none 0 0 (Zm g (QG (nxA T n (nxP T n bh) (decide ((M 0 0 6 = 1 ∨ M 0 0 6 = 2) ∧ bh = nxP T n bh))) M)) 21 [some (.ref (gad g 0 0)), none, none] [.int (bI (M 0 0 6 = 1 ∨ M 0 0 6 = 2))] M := by
  refine q_istore_n 22 dX0_goOn_21 rfl (by decide) rfl ?_
  refine q_aload_n 23 dX0_goOn_22 rfl rfl ?_
  refine q_getI 26 dX0_goOn_23 rfl fl_X0_37 (by decide) rfl (by decide) ?_
  refine q_istore_n 27 dX0_goOn_26 rfl (by decide) rfl ?_
  refine q_aload_n 28 dX0_goOn_27 rfl rfl ?_
  refine q_iload_n 29 dX0_goOn_28 rfl rfl ?_
  refine q_putI 32 dX0_goOn_29 rfl fl_X0_53 fp_0_7 (by decide) rfl (by decide) rfl rfl ?_
  refine q_fg (tl' := [some (.ref (gad g 0 0)), some (.int (bI (decide (M 0 0 6 = 1 ∨ M 0 0 6 = 2) = true))), some (.int (nI bh))]) ?_ ⟨rfl, congrArg (fun x => some (Value.int x)) (bI_c decide_eq_true_iff.symm), congrArg (fun x => some (Value.int x)) h8, trivial⟩
  have q := l0_go1 (g := g) M T n mT m4 m5 h96 bh hbn (decide (M 0 0 6 = 1 ∨ M 0 0 6 = 2)) (n - bh + 1) bh _ ((KG.rf M).fm (j := 7) (M 0 0 8) (by decide)) h8 hbn (by omega)
  unfold nxP
  rw [show decide ((M 0 0 6 = 1 ∨ M 0 0 6 = 2) ∧ bh = en (blB T n) n bh) = decide (decide (M 0 0 6 = 1 ∨ M 0 0 6 = 2) = true ∧ bh = en (blB T n) n bh) from decide_eq_decide.mpr (by rw [decide_eq_true_iff])]
  exact q
set_option maxRecDepth 100000 in
set_option maxHeartbeats 4000000 in
theorem c0_goOn {g : GT} (M : TM) (T : Nat → Int32) (n : Nat) (mT : M 28 0 = T) (m4 : M 0 0 4 = 1) (m5 : M 0 0 5 = nI n) (h96 : n ≤ 96) (bh : Nat) (hbn : bh ≤ n) (h8 : M 0 0 8 = nI bh) : Cn g yX0_goOn cX0_goOn 3 none 1 [.ref (gad g 0 0)] M (QG (nxA T n (nxP T n bh) (decide ((M 0 0 6 = 1 ∨ M 0 0 6 = 2) ∧ bh = nxP T n bh))) M) := by
  refine Cn.ofTR (by decide +kernel) (Nat.le_of_ble_eq_true rfl) ?_
  refine q_aload_n 1 dX0_goOn_0 rfl rfl ?_
  refine q_getI 4 dX0_goOn_1 rfl fl_X0_34 (by decide) rfl (by decide) ?_
  refine q_iconst (v := 1) 5 dX0_goOn_4 rfl rfl ?_
  refine q_icmp_eq 16 8 dX0_goOn_5 rfl rfl (fun h_5 => ?_) (fun h_5 => ?_)
  · skip
    have hv := bI_t (p := (M 0 0 6 = 1 ∨ M 0 0 6 = 2)) (Or.inl h_5)
    refine q_iconst (v := 1) 17 dX0_goOn_16 rfl rfl ?_
    refine q_goto 21 dX0_goOn_17 rfl ?_
    exact q_eqS (congrArg (fun x => [Value.int x]) hv.symm) (q_fg (t0_go21 M T n mT m4 m5 h96 bh hbn h8) ⟨rfl, trivial⟩)
  · skip
    refine q_aload_n 9 dX0_goOn_8 rfl rfl ?_
    refine q_getI 12 dX0_goOn_9 rfl fl_X0_34 (by decide) rfl (by decide) ?_
    refine q_iconst (v := 2) 13 dX0_goOn_12 rfl rfl ?_
    refine q_icmp_ne 20 16 dX0_goOn_13 rfl rfl (fun h_13 => ?_) (fun h_13 => ?_)
    · skip
      have hv := bI_f (p := (M 0 0 6 = 1 ∨ M 0 0 6 = 2)) (fun z => z.elim h_5 h_13)
      refine q_iconst (v := 0) 21 dX0_goOn_20 rfl rfl ?_
      exact q_eqS (congrArg (fun x => [Value.int x]) hv.symm) (q_fg (t0_go21 M T n mT m4 m5 h96 bh hbn h8) ⟨rfl, trivial⟩)
    · skip
      have hv := bI_t (p := (M 0 0 6 = 1 ∨ M 0 0 6 = 2)) (Or.inr h_13)
      refine q_iconst (v := 1) 17 dX0_goOn_16 rfl rfl ?_
      refine q_goto 21 dX0_goOn_17 rfl ?_
      exact q_eqS (congrArg (fun x => [Value.int x]) hv.symm) (q_fg (t0_go21 M T n mT m4 m5 h96 bh hbn h8) ⟨rfl, trivial⟩)
