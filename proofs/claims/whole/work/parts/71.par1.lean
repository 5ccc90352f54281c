/-! THE REFERENCE'S PARSER: tokens -/
theorem nI_eq1 {a b : Nat} {c : Int32} (hc : c = nI b) (ha : a < 2 ^ 31) (hb : b < 2 ^ 31) : nI a = c ↔ a = b := by rw [hc]; exact nI_eq ha hb
theorem nI_e0 {a : Nat} (ha : a < 2 ^ 31) : nI a = 0 ↔ a = 0 := nI_eq (b := 0) ha (by decide)
theorem nI_e1 {a : Nat} (ha : a < 2 ^ 31) : nI a = 1 ↔ a = 1 := nI_eq (b := 1) ha (by decide)
theorem nI_e2 {a : Nat} (ha : a < 2 ^ 31) : nI a = 2 ↔ a = 2 := nI_eq (b := 2) ha (by decide)
theorem nI_e3 {a : Nat} (ha : a < 2 ^ 31) : nI a = 3 ↔ a = 3 := nI_eq (b := 3) ha (by decide)
theorem nI_e4 {a : Nat} (ha : a < 2 ^ 31) : nI a = 4 ↔ a = 4 := nI_eq (b := 4) ha (by decide)
def KF (M N : TM) : Prop := (∀ t k, ¬ (t = 6 ∧ k = 0) → N t k = M t k) ∧ ∀ j, (j < 15 ∨ 19 < j) → N 6 0 j = M 6 0 j
theorem KF.rf (M : TM) : KF M M := ⟨fun _ _ _ => rfl, fun _ _ => rfl⟩
theorem KF.fm {M N : TM} (h : KF M N) {j : Nat} (v : Int32) (h1 : 15 ≤ j) (h2 : j ≤ 19) : KF M (putA N 6 0 (upd (N 6 0) j v)) :=
  ⟨fun t k q => (putA_n _ _ _ _ q).trans (h.1 t k q), fun i hi => by rw [putA_s, upd_n (by omega)]; exact h.2 i hi⟩
def TK6 (T : Nat → Int32) (t : Tk) (N : TM) : Prop := N 6 0 15 = nI t.1 ∧ N 6 0 16 = nI t.2.1 ∧ N 6 0 17 = nI t.2.2 ∧ (t.2.2 = 1 → N 6 0 19 = if t.2.1 - t.1 = 1 then T t.1 else 0) ∧ (t.2.2 = 3 → N 6 0 19 = T t.1) ∧ (t.2.2 = 2 → N 6 0 18 = nuF T t.1 (t.2.1 - t.1))
theorem TK6_1 {T : Nat → Int32} {N : TM} {p q so : Nat} (h15 : N 6 0 15 = nI p) (h16 : N 6 0 16 = nI q) (h17 : N 6 0 17 = nI so) (hs : so = 1 ∨ so = 4) (h19 : N 6 0 19 = if q - p = 1 then T p else 0) : TK6 T (p, q, so) N :=
  ⟨h15, h16, h17, fun _ => h19, fun (z : so = 3) => by omega, fun (z : so = 2) => by omega⟩
theorem TK6_2 {T : Nat → Int32} {N : TM} {p q so : Nat} (h15 : N 6 0 15 = nI p) (h16 : N 6 0 16 = nI q) (h17 : N 6 0 17 = nI so) (hs : so = 4 ∨ so = 2 ∧ N 6 0 18 = nuF T p (q - p)) : TK6 T (p, q, so) N :=
  ⟨h15, h16, h17, fun (z : so = 1) => by omega, fun (z : so = 3) => by omega, fun (z : so = 2) => (hs.resolve_left (by omega)).2⟩
theorem TK6_0 {T : Nat → Int32} {N : TM} {p q : Nat} (h15 : N 6 0 15 = nI p) (h16 : N 6 0 16 = nI q) (h17 : N 6 0 17 = 0) : TK6 T (p, q, 0) N :=
  ⟨h15, h16, h17, fun (z : 0 = 1) => by omega, fun (z : 0 = 3) => by omega, fun (z : 0 = 2) => by omega⟩
theorem TK6_3 {T : Nat → Int32} {N : TM} {p q : Nat} (h15 : N 6 0 15 = nI p) (h16 : N 6 0 16 = nI q) (h17 : N 6 0 17 = 3) (h19 : N 6 0 19 = T p) : TK6 T (p, q, 3) N :=
  ⟨h15, h16, h17, fun (z : 3 = 1) => by omega, fun _ => h19, fun (z : 3 = 2) => by omega⟩
abbrev QT (T : Nat → Int32) (t : Tk) (M : TM) : Option Value → TM → Prop := fun r N => r = none ∧ KF M N ∧ TK6 T t N
set_option maxRecDepth 100000 in
set_option maxHeartbeats 4000000 in
theorem c6_isLetter {g : GT} (M : TM) (T : Nat → Int32) (n q : Nat) (x : Int32) (hT : M 43 0 = T) (h14 : M 6 0 14 = nI n) (h96 : n ≤ 96) (hx : x = nI q) (hq : q ≤ 96) : Cn g yX6_isLetter cX6_isLetter 2 (some .boolean) 1 [.ref (gad g 6 0), .int x] M (Rt (.int (bI (ltB T n q = true))) M) := by
  refine Cn.ofTR (by decide +kernel) (Nat.le_of_ble_eq_true rfl) ?_
  subst hx
  subst hT
  refine q_iload_n 1 dX6_isLetter_0 rfl rfl ?_
  refine q_aload_n 2 dX6_isLetter_1 rfl rfl ?_
  refine q_getI 5 dX6_isLetter_2 rfl fl_X6_211 (by decide) rfl (by decide) ?_
  refine q_icmp_ge 31 8 dX6_isLetter_5 rfl rfl (fun h_5 => ?_) (fun h_5 => ?_)
  · skip
    rw [h14, nI_leI (by omega) (by omega)] at h_5
    refine q_iconst (v := 0) 32 dX6_isLetter_31 rfl rfl ?_
    refine q_zret dX6_isLetter_32 rfl ?_
    refine ⟨congrArg (fun x => some (Value.int x)) ?_, rfl⟩
    first
      | exact (bI_t (decide_eq_true ⟨by omega, h_24⟩)).symm
      | exact (bI_f (fun z => h_24 (of_decide_eq_true z).2)).symm
      | exact (bI_f (fun z => absurd (of_decide_eq_true z).1 (by omega))).symm
  · skip
    rw [h14, nI_leI (by omega) (by omega)] at h_5
    refine q_aload_n 9 dX6_isLetter_8 rfl rfl ?_
    refine q_getR 12 dX6_isLetter_9 rfl fl_X6_46 (by decide) rfl rfl ?_
    refine q_iload_n 13 dX6_isLetter_12 rfl rfl ?_
    refine q_iald 14 dX6_isLetter_13 rfl (by decide) (by decide) rfl (show q < 96 by omega) ?_
    refine q_i2l 15 dX6_isLetter_14 rfl ?_
    refine q_ldc2 18 dX6_isLetter_15 rfl cl_X6_215 ?_
    refine q_ldc2 21 dX6_isLetter_18 rfl cl_X6_217 ?_
    refine q_callSt 24 dX6_isLetter_21 rfl (c6_isIn' _ _ (97) (122) _ _) cw_X6_65 rfl rfl ⟨by decide, by decide⟩ ⟨by decide, by decide⟩ (Nat.le_of_ble_eq_true rfl) ?_
    refine q_if_eq 31 27 dX6_isLetter_24 rfl rfl (fun h_24 => ?_) (fun h_24 => ?_)
    · skip
      simp only [bI_0, Classical.not_not] at h_24
      refine q_iconst (v := 0) 32 dX6_isLetter_31 rfl rfl ?_
      refine q_zret dX6_isLetter_32 rfl ?_
      refine ⟨congrArg (fun x => some (Value.int x)) ?_, rfl⟩
      first
        | exact (bI_t (decide_eq_true ⟨by omega, h_24⟩)).symm
        | exact (bI_f (fun z => h_24 (of_decide_eq_true z).2)).symm
        | exact (bI_f (fun z => absurd (of_decide_eq_true z).1 (by omega))).symm
    · skip
      simp only [bI_0, Classical.not_not] at h_24
      refine q_iconst (v := 1) 28 dX6_isLetter_27 rfl rfl ?_
      refine q_goto 32 dX6_isLetter_28 rfl ?_
      refine q_zret dX6_isLetter_32 rfl ?_
      refine ⟨congrArg (fun x => some (Value.int x)) ?_, rfl⟩
      first
        | exact (bI_t (decide_eq_true ⟨by omega, h_24⟩)).symm
        | exact (bI_f (fun z => h_24 (of_decide_eq_true z).2)).symm
        | exact (bI_f (fun z => absurd (of_decide_eq_true z).1 (by omega))).symm
set_option maxRecDepth 100000 in
set_option maxHeartbeats 4000000 in
theorem c6_isDigit {g : GT} (M : TM) (T : Nat → Int32) (n q : Nat) (x : Int32) (hT : M 43 0 = T) (h14 : M 6 0 14 = nI n) (h96 : n ≤ 96) (hx : x = nI q) (hq : q ≤ 96) : Cn g yX6_isDigit cX6_isDigit 2 (some .boolean) 1 [.ref (gad g 6 0), .int x] M (Rt (.int (bI (dgB T n q = true))) M) := by
  refine Cn.ofTR (by decide +kernel) (Nat.le_of_ble_eq_true rfl) ?_
  subst hx
  subst hT
  refine q_iload_n 1 dX6_isDigit_0 rfl rfl ?_
  refine q_aload_n 2 dX6_isDigit_1 rfl rfl ?_
  refine q_getI 5 dX6_isDigit_2 rfl fl_X6_211 (by decide) rfl (by decide) ?_
  refine q_icmp_ge 31 8 dX6_isDigit_5 rfl rfl (fun h_5 => ?_) (fun h_5 => ?_)
  · skip
    rw [h14, nI_leI (by omega) (by omega)] at h_5
    refine q_iconst (v := 0) 32 dX6_isDigit_31 rfl rfl ?_
    refine q_zret dX6_isDigit_32 rfl ?_
    refine ⟨congrArg (fun x => some (Value.int x)) ?_, rfl⟩
    first
      | exact (bI_t (decide_eq_true ⟨by omega, h_24⟩)).symm
      | exact (bI_f (fun z => h_24 (of_decide_eq_true z).2)).symm
      | exact (bI_f (fun z => absurd (of_decide_eq_true z).1 (by omega))).symm
  · skip
    rw [h14, nI_leI (by omega) (by omega)] at h_5
    refine q_aload_n 9 dX6_isDigit_8 rfl rfl ?_
    refine q_getR 12 dX6_isDigit_9 rfl fl_X6_46 (by decide) rfl rfl ?_
    refine q_iload_n 13 dX6_isDigit_12 rfl rfl ?_
    refine q_iald 14 dX6_isDigit_13 rfl (by decide) (by decide) rfl (show q < 96 by omega) ?_
    refine q_i2l 15 dX6_isDigit_14 rfl ?_
    refine q_ldc2 18 dX6_isDigit_15 rfl cl_X6_219 ?_
    refine q_ldc2 21 dX6_isDigit_18 rfl cl_X6_221 ?_
    refine q_callSt 24 dX6_isDigit_21 rfl (c6_isIn' _ _ (48) (57) _ _) cw_X6_65 rfl rfl ⟨by decide, by decide⟩ ⟨by decide, by decide⟩ (Nat.le_of_ble_eq_true rfl) ?_
    refine q_if_eq 31 27 dX6_isDigit_24 rfl rfl (fun h_24 => ?_) (fun h_24 => ?_)
    · skip
      simp only [bI_0, Classical.not_not] at h_24
      refine q_iconst (v := 0) 32 dX6_isDigit_31 rfl rfl ?_
      refine q_zret dX6_isDigit_32 rfl ?_
      refine ⟨congrArg (fun x => some (Value.int x)) ?_, rfl⟩
      first
        | exact (bI_t (decide_eq_true ⟨by omega, h_24⟩)).symm
        | exact (bI_f (fun z => h_24 (of_decide_eq_true z).2)).symm
        | exact (bI_f (fun z => absurd (of_decide_eq_true z).1 (by omega))).symm
    · skip
      simp only [bI_0, Classical.not_not] at h_24
      refine q_iconst (v := 1) 28 dX6_isDigit_27 rfl rfl ?_
      refine q_goto 32 dX6_isDigit_28 rfl ?_
      refine q_zret dX6_isDigit_32 rfl ?_
      refine ⟨congrArg (fun x => some (Value.int x)) ?_, rfl⟩
      first
        | exact (bI_t (decide_eq_true ⟨by omega, h_24⟩)).symm
        | exact (bI_f (fun z => h_24 (of_decide_eq_true z).2)).symm
        | exact (bI_f (fun z => absurd (of_decide_eq_true z).1 (by omega))).symm
set_option maxRecDepth 100000 in
set_option maxHeartbeats 4000000 in
theorem l6_nt1 {g : GT} (M : TM) (T : Nat → Int32) (n : Nat) (hT : M 43 0 = T) (h14 : M 6 0 14 = nI n) (h96 : n ≤ 96) (pp : Nat) (ti : Bool) : ∀ (j : Nat) (q : Nat) (N : TM), KF M N → N 6 0 15 = nI pp → N 6 0 16 = nI q → pp ≤ q → q ≤ n → n - q < j → TR g (rmD 2) RX6 cX6_nextToken 3 none 0 0 (Zm g (QT T (pp, en (ltB T n) n q, (if ti = true then 4 else 1)) M)) 128 [some (.ref (gad g 6 0)), some (.int (bI (ti = true))), none] [] N := by
  intro j
  induction j with
  | zero => intro q N hK h15 h16 hpq hqn hj; exact absurd hj (by omega)
  | succ j ih =>
    intro q N hK h15 h16 hpq hqn hj
    have k43 : N 43 0 = T := (hK.1 43 0 (by decide)).trans hT
    have k14 : N 6 0 14 = nI n := (hK.2 14 (by decide)).trans h14
    refine q_aload_n 129 dX6_nextToken_128 rfl rfl ?_
    refine q_aload_n 130 dX6_nextToken_129 rfl rfl ?_
    refine q_getI 133 dX6_nextToken_130 rfl fl_X6_223 (by decide) rfl (by decide) ?_
    refine q_callVt 136 dX6_nextToken_133 rfl (c6_isLetter _ T n q _ k43 k14 h96 h16 (by omega)) cw_X6_232 (by decide) rfl rfl ⟨by decide, by decide⟩ ⟨by decide, by decide⟩ (Nat.le_of_ble_eq_true rfl) ?_
    refine q_if_eq 152 139 dX6_nextToken_136 rfl rfl (fun h_136 => ?_) (fun h_136 => ?_)
    · skip
      simp only [bI_0, Classical.not_not] at h_136
      rw [en_f h_136]
      refine q_aload_n 153 dX6_nextToken_152 rfl rfl ?_
      refine q_iload_n 154 dX6_nextToken_153 rfl rfl ?_
      refine q_if_eq 161 157 dX6_nextToken_154 rfl rfl (fun h_154 => ?_) (fun h_154 => ?_)
      · skip
        simp only [bI_0, Classical.not_not] at h_154
        refine q_iconst (v := 1) 162 dX6_nextToken_161 rfl rfl ?_
        refine q_putI 165 dX6_nextToken_162 rfl fl_X6_226 fp_6_17 (by decide) rfl (by decide) rfl rfl ?_
        refine q_aload_n 166 dX6_nextToken_165 rfl rfl ?_
        refine q_aload_n 167 dX6_nextToken_166 rfl rfl ?_
        refine q_getI 170 dX6_nextToken_167 rfl fl_X6_223 (by decide) rfl (by decide) ?_
        refine q_aload_n 171 dX6_nextToken_170 rfl rfl ?_
        refine q_getI 174 dX6_nextToken_171 rfl fl_X6_229 (by decide) rfl (by decide) ?_
        refine q_isub 175 dX6_nextToken_174 rfl ?_
        refine q_iconst (v := 1) 176 dX6_nextToken_175 rfl rfl ?_
        refine q_icmp_ne 191 179 dX6_nextToken_176 rfl rfl (fun h_176 => ?_) (fun h_176 => ?_)
        · skip
          rw [show (putA N 6 0 (upd (N 6 0) 17 _)) 6 0 16 = nI q from h16, show (putA N 6 0 (upd (N 6 0) 17 _)) 6 0 15 = nI pp from h15, pk_sub hpq, nI_e1 (by omega)] at h_176
          refine q_iconst (v := 0) 192 dX6_nextToken_191 rfl rfl ?_
          refine q_putI 195 dX6_nextToken_192 rfl fl_X6_235 fp_6_19 (by decide) rfl (by decide) rfl rfl ?_
          refine q_goto 339 dX6_nextToken_195 rfl ?_
          refine q_vret dX6_nextToken_339 ?_
          first
            | exact ⟨rfl, (hK.fm _ (by decide) (by decide)).fm _ (by decide) (by decide), TK6_1 h15 h16 (by rw [if_pos h_154]; rfl) (by rw [if_pos h_154]; exact Or.inr rfl) (by rw [if_pos h_176]; exact e19)⟩
            | exact ⟨rfl, (hK.fm _ (by decide) (by decide)).fm _ (by decide) (by decide), TK6_1 h15 h16 (by rw [if_neg h_154]; rfl) (by rw [if_neg h_154]; exact Or.inl rfl) (by rw [if_pos h_176]; exact e19)⟩
            | exact ⟨rfl, (hK.fm _ (by decide) (by decide)).fm _ (by decide) (by decide), TK6_1 h15 h16 (by rw [if_pos h_154]; rfl) (by rw [if_pos h_154]; exact Or.inr rfl) (by rw [if_neg h_176]; rfl)⟩
            | exact ⟨rfl, (hK.fm _ (by decide) (by decide)).fm _ (by decide) (by decide), TK6_1 h15 h16 (by rw [if_neg h_154]; rfl) (by rw [if_neg h_154]; exact Or.inl rfl) (by rw [if_neg h_176]; rfl)⟩
        · skip
          rw [show (putA N 6 0 (upd (N 6 0) 17 _)) 6 0 16 = nI q from h16, show (putA N 6 0 (upd (N 6 0) 17 _)) 6 0 15 = nI pp from h15, pk_sub hpq, nI_e1 (by omega)] at h_176
          have e19 : N 43 0 pp = T pp := by rw [k43]
          refine q_aload_n 180 dX6_nextToken_179 rfl rfl ?_
          refine q_getR 183 dX6_nextToken_180 rfl fl_X6_46 (by decide) rfl rfl ?_
          refine q_aload_n 184 dX6_nextToken_183 rfl rfl ?_
          refine q_getI 187 dX6_nextToken_184 rfl fl_X6_229 (by decide) rfl (by decide) ?_
          refine q_iald 188 dX6_nextToken_187 rfl (by decide) (by decide) h15 (show pp < 96 by omega) ?_
          refine q_goto 192 dX6_nextToken_188 rfl ?_
          refine q_putI 195 dX6_nextToken_192 rfl fl_X6_235 fp_6_19 (by decide) rfl (by decide) rfl rfl ?_
          refine q_goto 339 dX6_nextToken_195 rfl ?_
          refine q_vret dX6_nextToken_339 ?_
          first
            | exact ⟨rfl, (hK.fm _ (by decide) (by decide)).fm _ (by decide) (by decide), TK6_1 h15 h16 (by rw [if_pos h_154]; rfl) (by rw [if_pos h_154]; exact Or.inr rfl) (by rw [if_pos h_176]; exact e19)⟩
            | exact ⟨rfl, (hK.fm _ (by decide) (by decide)).fm _ (by decide) (by decide), TK6_1 h15 h16 (by rw [if_neg h_154]; rfl) (by rw [if_neg h_154]; exact Or.inl rfl) (by rw [if_pos h_176]; exact e19)⟩
            | exact ⟨rfl, (hK.fm _ (by decide) (by decide)).fm _ (by decide) (by decide), TK6_1 h15 h16 (by rw [if_pos h_154]; rfl) (by rw [if_pos h_154]; exact Or.inr rfl) (by rw [if_neg h_176]; rfl)⟩
            | exact ⟨rfl, (hK.fm _ (by decide) (by decide)).fm _ (by decide) (by decide), TK6_1 h15 h16 (by rw [if_neg h_154]; rfl) (by rw [if_neg h_154]; exact Or.inl rfl) (by rw [if_neg h_176]; rfl)⟩
      · skip
        simp only [bI_0, Classical.not_not] at h_154
        refine q_iconst (v := 4) 158 dX6_nextToken_157 rfl rfl ?_
        refine q_goto 162 dX6_nextToken_158 rfl ?_
        refine q_putI 165 dX6_nextToken_162 rfl fl_X6_226 fp_6_17 (by decide) rfl (by decide) rfl rfl ?_
        refine q_aload_n 166 dX6_nextToken_165 rfl rfl ?_
        refine q_aload_n 167 dX6_nextToken_166 rfl rfl ?_
        refine q_getI 170 dX6_nextToken_167 rfl fl_X6_223 (by decide) rfl (by decide) ?_
        refine q_aload_n 171 dX6_nextToken_170 rfl rfl ?_
        refine q_getI 174 dX6_nextToken_171 rfl fl_X6_229 (by decide) rfl (by decide) ?_
        refine q_isub 175 dX6_nextToken_174 rfl ?_
        refine q_iconst (v := 1) 176 dX6_nextToken_175 rfl rfl ?_
        refine q_icmp_ne 191 179 dX6_nextToken_176 rfl rfl (fun h_176 => ?_) (fun h_176 => ?_)
        · skip
          rw [show (putA N 6 0 (upd (N 6 0) 17 _)) 6 0 16 = nI q from h16, show (putA N 6 0 (upd (N 6 0) 17 _)) 6 0 15 = nI pp from h15, pk_sub hpq, nI_e1 (by omega)] at h_176
          refine q_iconst (v := 0) 192 dX6_nextToken_191 rfl rfl ?_
          refine q_putI 195 dX6_nextToken_192 rfl fl_X6_235 fp_6_19 (by decide) rfl (by decide) rfl rfl ?_
          refine q_goto 339 dX6_nextToken_195 rfl ?_
          refine q_vret dX6_nextToken_339 ?_
          first
            | exact ⟨rfl, (hK.fm _ (by decide) (by decide)).fm _ (by decide) (by decide), TK6_1 h15 h16 (by rw [if_pos h_154]; rfl) (by rw [if_pos h_154]; exact Or.inr rfl) (by rw [if_pos h_176]; exact e19)⟩
            | exact ⟨rfl, (hK.fm _ (by decide) (by decide)).fm _ (by decide) (by decide), TK6_1 h15 h16 (by rw [if_neg h_154]; rfl) (by rw [if_neg h_154]; exact Or.inl rfl) (by rw [if_pos h_176]; exact e19)⟩
            | exact ⟨rfl, (hK.fm _ (by decide) (by decide)).fm _ (by decide) (by decide), TK6_1 h15 h16 (by rw [if_pos h_154]; rfl) (by rw [if_pos h_154]; exact Or.inr rfl) (by rw [if_neg h_176]; rfl)⟩
            | exact ⟨rfl, (hK.fm _ (by decide) (by decide)).fm _ (by decide) (by decide), TK6_1 h15 h16 (by rw [if_neg h_154]; rfl) (by rw [if_neg h_154]; exact Or.inl rfl) (by rw [if_neg h_176]; rfl)⟩
        · skip
          rw [show (putA N 6 0 (upd (N 6 0) 17 _)) 6 0 16 = nI q from h16, show (putA N 6 0 (upd (N 6 0) 17 _)) 6 0 15 = nI pp from h15, pk_sub hpq, nI_e1 (by omega)] at h_176
          have e19 : N 43 0 pp = T pp := by rw [k43]
          refine q_aload_n 180 dX6_nextToken_179 rfl rfl ?_
          refine q_getR 183 dX6_nextToken_180 rfl fl_X6_46 (by decide) rfl rfl ?_
          refine q_aload_n 184 dX6_nextToken_183 rfl rfl ?_
          refine q_getI 187 dX6_nextToken_184 rfl fl_X6_229 (by decide) rfl (by decide) ?_
          refine q_iald 188 dX6_nextToken_187 rfl (by decide) (by decide) h15 (show pp < 96 by omega) ?_
          refine q_goto 192 dX6_nextToken_188 rfl ?_
          refine q_putI 195 dX6_nextToken_192 rfl fl_X6_235 fp_6_19 (by decide) rfl (by decide) rfl rfl ?_
          refine q_goto 339 dX6_nextToken_195 rfl ?_
          refine q_vret dX6_nextToken_339 ?_
          first
            | exact ⟨rfl, (hK.fm _ (by decide) (by decide)).fm _ (by decide) (by decide), TK6_1 h15 h16 (by rw [if_pos h_154]; rfl) (by rw [if_pos h_154]; exact Or.inr rfl) (by rw [if_pos h_176]; exact e19)⟩
            | exact ⟨rfl, (hK.fm _ (by decide) (by decide)).fm _ (by decide) (by decide), TK6_1 h15 h16 (by rw [if_neg h_154]; rfl) (by rw [if_neg h_154]; exact Or.inl rfl) (by rw [if_pos h_176]; exact e19)⟩
            | exact ⟨rfl, (hK.fm _ (by decide) (by decide)).fm _ (by decide) (by decide), TK6_1 h15 h16 (by rw [if_pos h_154]; rfl) (by rw [if_pos h_154]; exact Or.inr rfl) (by rw [if_neg h_176]; rfl)⟩
            | exact ⟨rfl, (hK.fm _ (by decide) (by decide)).fm _ (by decide) (by decide), TK6_1 h15 h16 (by rw [if_neg h_154]; rfl) (by rw [if_neg h_154]; exact Or.inl rfl) (by rw [if_neg h_176]; rfl)⟩
    · skip
      simp only [bI_0, Classical.not_not] at h_136
      have hqn2 : q < n := (of_decide_eq_true h_136).1
      refine q_aload_n 140 dX6_nextToken_139 rfl rfl ?_
      refine q_dup 141 dX6_nextToken_140 rfl rfl ?_
      refine q_getI 144 dX6_nextToken_141 rfl fl_X6_223 (by decide) rfl (by decide) ?_
      refine q_iconst (v := 1) 145 dX6_nextToken_144 rfl rfl ?_
      refine q_iadd 146 dX6_nextToken_145 rfl ?_
      refine q_putI 149 dX6_nextToken_146 rfl fl_X6_223 fp_6_16 (by decide) rfl (by decide) rfl rfl ?_
      refine q_goto 128 dX6_nextToken_149 rfl ?_
      rw [en_t hqn2 h_136]
      exact ih (q + 1) _ (hK.fm _ (by decide) (by decide)) h15 (by show N 6 0 16 + 1 = _; rw [h16]; exact nI_1 q) (by omega) (by omega) (by omega)
set_option maxRecDepth 100000 in
set_option maxHeartbeats 4000000 in
theorem l6_nt2 {g : GT} (M : TM) (T : Nat → Int32) (n : Nat) (hT : M 43 0 = T) (h14 : M 6 0 14 = nI n) (h96 : n ≤ 96) (pp : Nat) (ti : Bool) : ∀ (j : Nat) (q : Nat) (N : TM), KF M N → N 6 0 15 = nI pp → N 6 0 16 = nI q → N 6 0 18 = nuF T pp (min (q - pp) 4) → pp ≤ q → q ≤ n → n - q < j → TR g (rmD 2) RX6 cX6_nextToken 3 none 0 0 (Zm g (QT T (pp, en (dgB T n) n q, (if ti = true ∨ 4 < en (dgB T n) n q - pp then 4 else 2)) M)) 214 [some (.ref (gad g 6 0)), some (.int (bI (ti = true))), none] [] N := by
  intro j
  induction j with
  | zero => intro q N hK h15 h16 h18 hpq hqn hj; exact absurd hj (by omega)
  | succ j ih =>
    intro q N hK h15 h16 h18 hpq hqn hj
    have k43 : N 43 0 = T := (hK.1 43 0 (by decide)).trans hT
    have k14 : N 6 0 14 = nI n := (hK.2 14 (by decide)).trans h14
    refine q_aload_n 215 dX6_nextToken_214 rfl rfl ?_
    refine q_aload_n 216 dX6_nextToken_215 rfl rfl ?_
    refine q_getI 219 dX6_nextToken_216 rfl fl_X6_223 (by decide) rfl (by decide) ?_
    refine q_callVt 222 dX6_nextToken_219 rfl (c6_isDigit _ T n q _ k43 k14 h96 h16 (by omega)) cw_X6_238 (by decide) rfl rfl ⟨by decide, by decide⟩ ⟨by decide, by decide⟩ (Nat.le_of_ble_eq_true rfl) ?_
    refine q_if_eq 282 225 dX6_nextToken_222 rfl rfl (fun h_222 => ?_) (fun h_222 => ?_)
    · skip
      simp only [bI_0, Classical.not_not] at h_222
      rw [en_f h_222]
      refine q_aload_n 283 dX6_nextToken_282 rfl rfl ?_
      refine q_iload_n 284 dX6_nextToken_283 rfl rfl ?_
      refine q_if_ne 300 287 dX6_nextToken_284 rfl rfl (fun h_284 => ?_) (fun h_284 => ?_)
      · skip
        simp only [bI_0, Classical.not_not] at h_284
        refine q_iconst (v := 4) 301 dX6_nextToken_300 rfl rfl ?_
        refine q_goto 305 dX6_nextToken_301 rfl ?_
        refine q_putI 308 dX6_nextToken_305 rfl fl_X6_226 fp_6_17 (by decide) rfl (by decide) rfl rfl ?_
        refine q_goto 339 dX6_nextToken_308 rfl ?_
        refine q_vret dX6_nextToken_339 ?_
        first
          | exact ⟨rfl, (hK.fm _ (by decide) (by decide)), TK6_2 h15 h16 (by rw [if_pos (Or.inl h_284)]; rfl) (Or.inl (if_pos (Or.inl h_284)))⟩
          | exact ⟨rfl, (hK.fm _ (by decide) (by decide)), TK6_2 h15 h16 (by rw [if_pos (Or.inr h_297)]; rfl) (Or.inl (if_pos (Or.inr h_297)))⟩
          | exact ⟨rfl, (hK.fm _ (by decide) (by decide)), TK6_2 h15 h16 (by rw [if_neg (fun z => z.elim h_284 h_297)]; rfl) (Or.inr ⟨if_neg (fun z => z.elim h_284 h_297), h18.trans (by rw [Nat.min_eq_left (by omega)])⟩)⟩
      · skip
        simp only [bI_0, Classical.not_not] at h_284
        refine q_aload_n 288 dX6_nextToken_287 rfl rfl ?_
        refine q_getI 291 dX6_nextToken_288 rfl fl_X6_223 (by decide) rfl (by decide) ?_
        refine q_aload_n 292 dX6_nextToken_291 rfl rfl ?_
        refine q_getI 295 dX6_nextToken_292 rfl fl_X6_229 (by decide) rfl (by decide) ?_
        refine q_isub 296 dX6_nextToken_295 rfl ?_
        refine q_iconst (v := 4) 297 dX6_nextToken_296 rfl rfl ?_
        refine q_icmp_le 304 300 dX6_nextToken_297 rfl rfl (fun h_297 => ?_) (fun h_297 => ?_)
        · skip
          rw [h16, h15, pk_sub hpq, show (4 : Int32) = nI 4 from rfl, nI_leI (by omega) (by decide)] at h_297
          have h_297 : ¬ 4 < q - pp := by omega
          refine q_iconst (v := 2) 305 dX6_nextToken_304 rfl rfl ?_
          refine q_putI 308 dX6_nextToken_305 rfl fl_X6_226 fp_6_17 (by decide) rfl (by decide) rfl rfl ?_
          refine q_goto 339 dX6_nextToken_308 rfl ?_
          refine q_vret dX6_nextToken_339 ?_
          first
            | exact ⟨rfl, (hK.fm _ (by decide) (by decide)), TK6_2 h15 h16 (by rw [if_pos (Or.inl h_284)]; rfl) (Or.inl (if_pos (Or.inl h_284)))⟩
            | exact ⟨rfl, (hK.fm _ (by decide) (by decide)), TK6_2 h15 h16 (by rw [if_pos (Or.inr h_297)]; rfl) (Or.inl (if_pos (Or.inr h_297)))⟩
            | exact ⟨rfl, (hK.fm _ (by decide) (by decide)), TK6_2 h15 h16 (by rw [if_neg (fun z => z.elim h_284 h_297)]; rfl) (Or.inr ⟨if_neg (fun z => z.elim h_284 h_297), h18.trans (by rw [Nat.min_eq_left (by omega)])⟩)⟩
        · skip
          rw [h16, h15, pk_sub hpq, show (4 : Int32) = nI 4 from rfl, nI_leI (by omega) (by decide)] at h_297
          have h_297 : 4 < q - pp := by omega
          refine q_iconst (v := 4) 301 dX6_nextToken_300 rfl rfl ?_
          refine q_goto 305 dX6_nextToken_301 rfl ?_
          refine q_putI 308 dX6_nextToken_305 rfl fl_X6_226 fp_6_17 (by decide) rfl (by decide) rfl rfl ?_
          refine q_goto 339 dX6_nextToken_308 rfl ?_
          refine q_vret dX6_nextToken_339 ?_
          first
            | exact ⟨rfl, (hK.fm _ (by decide) (by decide)), TK6_2 h15 h16 (by rw [if_pos (Or.inl h_284)]; rfl) (Or.inl (if_pos (Or.inl h_284)))⟩
            | exact ⟨rfl, (hK.fm _ (by decide) (by decide)), TK6_2 h15 h16 (by rw [if_pos (Or.inr h_297)]; rfl) (Or.inl (if_pos (Or.inr h_297)))⟩
            | exact ⟨rfl, (hK.fm _ (by decide) (by decide)), TK6_2 h15 h16 (by rw [if_neg (fun z => z.elim h_284 h_297)]; rfl) (Or.inr ⟨if_neg (fun z => z.elim h_284 h_297), h18.trans (by rw [Nat.min_eq_left (by omega)])⟩)⟩
    · skip
      simp only [bI_0, Classical.not_not] at h_222
      have hqn2 : q < n := (of_decide_eq_true h_222).1
      refine q_aload_n 226 dX6_nextToken_225 rfl rfl ?_
      refine q_aload_n 227 dX6_nextToken_226 rfl rfl ?_
      refine q_getI 230 dX6_nextToken_227 rfl fl_X6_223 (by decide) rfl (by decide) ?_
      refine q_aload_n 231 dX6_nextToken_230 rfl rfl ?_
      refine q_getI 234 dX6_nextToken_231 rfl fl_X6_229 (by decide) rfl (by decide) ?_
      refine q_isub 235 dX6_nextToken_234 rfl ?_
      refine q_iconst (v := 4) 236 dX6_nextToken_235 rfl rfl ?_
      refine q_icmp_ge 262 239 dX6_nextToken_236 rfl rfl (fun h_236 => ?_) (fun h_236 => ?_)
      · skip
        rw [h16, h15, pk_sub hpq, show (4 : Int32) = nI 4 from rfl, nI_leI (by decide) (by omega)] at h_236
        refine q_aload_n 263 dX6_nextToken_262 rfl rfl ?_
        refine q_getI 266 dX6_nextToken_263 rfl fl_X6_241 (by decide) rfl (by decide) ?_
        refine q_putI 269 dX6_nextToken_266 rfl fl_X6_241 fp_6_18 (by decide) rfl (by decide) rfl rfl ?_
        refine q_aload_n 270 dX6_nextToken_269 rfl rfl ?_
        refine q_dup 271 dX6_nextToken_270 rfl rfl ?_
        refine q_getI 274 dX6_nextToken_271 rfl fl_X6_223 (by decide) rfl (by decide) ?_
        refine q_iconst (v := 1) 275 dX6_nextToken_274 rfl rfl ?_
        refine q_iadd 276 dX6_nextToken_275 rfl ?_
        refine q_putI 279 dX6_nextToken_276 rfl fl_X6_223 fp_6_16 (by decide) rfl (by decide) rfl rfl ?_
        refine q_goto 214 dX6_nextToken_279 rfl ?_
        rw [en_t hqn2 h_222]
        first
          | exact ih (q + 1) _ ((hK.fm _ (by decide) (by decide)).fm _ (by decide) (by decide)) h15 (by show N 6 0 16 + 1 = _; rw [h16]; exact nI_1 q) (by show 10 * N 6 0 18 + N 43 0 q - 48 = _; rw [h18, k43, Nat.min_eq_left (by omega), Nat.min_eq_left (by omega), show q + 1 - pp = (q - pp) + 1 by omega, Int32.mul_comm]; show _ = nuF T pp (q - pp) * 10 + T (pp + (q - pp)) - 48; rw [show pp + (q - pp) = q by omega]) (by omega) (by omega) (by omega)
          | exact ih (q + 1) _ ((hK.fm _ (by decide) (by decide)).fm _ (by decide) (by decide)) h15 (by show N 6 0 16 + 1 = _; rw [h16]; exact nI_1 q) (by show N 6 0 18 = _; rw [h18, Nat.min_eq_right (by omega), Nat.min_eq_right (by omega)]) (by omega) (by omega) (by omega)
      · skip
        rw [h16, h15, pk_sub hpq, show (4 : Int32) = nI 4 from rfl, nI_leI (by decide) (by omega)] at h_236
        refine q_bipush (v := 10) 241 dX6_nextToken_239 rfl rfl ?_
        refine q_aload_n 242 dX6_nextToken_241 rfl rfl ?_
        refine q_getI 245 dX6_nextToken_242 rfl fl_X6_241 (by decide) rfl (by decide) ?_
        refine q_imul 246 dX6_nextToken_245 rfl ?_
        refine q_aload_n 247 dX6_nextToken_246 rfl rfl ?_
        refine q_getR 250 dX6_nextToken_247 rfl fl_X6_46 (by decide) rfl rfl ?_
        refine q_aload_n 251 dX6_nextToken_250 rfl rfl ?_
        refine q_getI 254 dX6_nextToken_251 rfl fl_X6_223 (by decide) rfl (by decide) ?_
        refine q_iald 255 dX6_nextToken_254 rfl (by decide) (by decide) h16 (show q < 96 by omega) ?_
        refine q_iadd 256 dX6_nextToken_255 rfl ?_
        refine q_bipush (v := 48) 258 dX6_nextToken_256 rfl rfl ?_
        refine q_isub 259 dX6_nextToken_258 rfl ?_
        refine q_goto 266 dX6_nextToken_259 rfl ?_
        refine q_putI 269 dX6_nextToken_266 rfl fl_X6_241 fp_6_18 (by decide) rfl (by decide) rfl rfl ?_
        refine q_aload_n 270 dX6_nextToken_269 rfl rfl ?_
        refine q_dup 271 dX6_nextToken_270 rfl rfl ?_
        refine q_getI 274 dX6_nextToken_271 rfl fl_X6_223 (by decide) rfl (by decide) ?_
        refine q_iconst (v := 1) 275 dX6_nextToken_274 rfl rfl ?_
        refine q_iadd 276 dX6_nextToken_275 rfl ?_
        refine q_putI 279 dX6_nextToken_276 rfl fl_X6_223 fp_6_16 (by decide) rfl (by decide) rfl rfl ?_
        refine q_goto 214 dX6_nextToken_279 rfl ?_
        rw [en_t hqn2 h_222]
        first
          | exact ih (q + 1) _ ((hK.fm _ (by decide) (by decide)).fm _ (by decide) (by decide)) h15 (by show N 6 0 16 + 1 = _; rw [h16]; exact nI_1 q) (by show 10 * N 6 0 18 + N 43 0 q - 48 = _; rw [h18, k43, Nat.min_eq_left (by omega), Nat.min_eq_left (by omega), show q + 1 - pp = (q - pp) + 1 by omega, Int32.mul_comm]; show _ = nuF T pp (q - pp) * 10 + T (pp + (q - pp)) - 48; rw [show pp + (q - pp) = q by omega]) (by omega) (by omega) (by omega)
          | exact ih (q + 1) _ ((hK.fm _ (by decide) (by decide)).fm _ (by decide) (by decide)) h15 (by show N 6 0 16 + 1 = _; rw [h16]; exact nI_1 q) (by show N 6 0 18 = _; rw [h18, Nat.min_eq_right (by omega), Nat.min_eq_right (by omega)]) (by omega) (by omega) (by omega)
set_option maxRecDepth 100000 in
set_option maxHeartbeats 4000000 in
theorem t6_nt89 {g : GT} (M : TM) (T : Nat → Int32) (n : Nat) (hT : M 43 0 = T) (h14 : M 6 0 14 = nI n) (h96 : n ≤ 96) (pp : Nat) (ti : Bool) (N : TM) (hK : KF M N) (h16 : N 6 0 16 = nI pp) (hpn : pp ≤ n) : TR g (rmD 2) RX6 cX6_nextToken 3 none 0 0 (Zm g (QT T (nxA T n pp ti) M)) 89 [some (.ref (gad g 6 0)), none, none] [.int (bI (ti = true))] N := by
  have k43 : N 43 0 = T := (hK.1 43 0 (by decide)).trans hT
  have k14 : N 6 0 14 = nI n := (hK.2 14 (by decide)).trans h14
  refine q_istore_n 90 dX6_nextToken_89 rfl (by decide) rfl ?_
  refine q_aload_n 91 dX6_nextToken_90 rfl rfl ?_
  refine q_aload_n 92 dX6_nextToken_91 rfl rfl ?_
  refine q_getI 95 dX6_nextToken_92 rfl fl_X6_223 (by decide) rfl (by decide) ?_
  refine q_putI 98 dX6_nextToken_95 rfl fl_X6_229 fp_6_15 (by decide) rfl (by decide) rfl rfl ?_
  refine q_aload_n 99 dX6_nextToken_98 rfl rfl ?_
  refine q_getI 102 dX6_nextToken_99 rfl fl_X6_229 (by decide) rfl (by decide) ?_
  refine q_aload_n 103 dX6_nextToken_102 rfl rfl ?_
  refine q_getI 106 dX6_nextToken_103 rfl fl_X6_211 (by decide) rfl (by decide) ?_
  refine q_icmp_ne 117 109 dX6_nextToken_106 rfl rfl (fun h_106 => ?_) (fun h_106 => ?_)
  · skip
    rw [show (putA N 6 0 (upd (N 6 0) 15 (N 6 0 16))) 6 0 15 = nI pp from h16, show (putA N 6 0 (upd (N 6 0) 15 (N 6 0 16))) 6 0 14 = nI n from k14] at h_106
    have hpn2 : pp < n := Nat.lt_of_le_of_ne hpn (fun z => h_106 (by rw [z]))
    refine q_aload_n 118 dX6_nextToken_117 rfl rfl ?_
    refine q_aload_n 119 dX6_nextToken_118 rfl rfl ?_
    refine q_getI 122 dX6_nextToken_119 rfl fl_X6_229 (by decide) rfl (by decide) ?_
    refine q_callVt 125 dX6_nextToken_122 rfl (c6_isLetter _ T n pp _ k43 k14 h96 h16 (by omega)) cw_X6_232 (by decide) rfl rfl ⟨by decide, by decide⟩ ⟨by decide, by decide⟩ (Nat.le_of_ble_eq_true rfl) ?_
    refine q_if_eq 198 128 dX6_nextToken_125 rfl rfl (fun h_125 => ?_) (fun h_125 => ?_)
    · skip
      simp only [bI_0, Classical.not_not] at h_125
      have hL : ¬ isLt (T pp) := fun z => h_125 (decide_eq_true ⟨hpn2, z⟩)
      refine q_aload_n 199 dX6_nextToken_198 rfl rfl ?_
      refine q_aload_n 200 dX6_nextToken_199 rfl rfl ?_
      refine q_getI 203 dX6_nextToken_200 rfl fl_X6_229 (by decide) rfl (by decide) ?_
      refine q_callVt 206 dX6_nextToken_203 rfl (c6_isDigit _ T n pp _ k43 k14 h96 h16 (by omega)) cw_X6_238 (by decide) rfl rfl ⟨by decide, by decide⟩ ⟨by decide, by decide⟩ (Nat.le_of_ble_eq_true rfl) ?_
      refine q_if_eq 311 209 dX6_nextToken_206 rfl rfl (fun h_206 => ?_) (fun h_206 => ?_)
      · skip
        simp only [bI_0, Classical.not_not] at h_206
        have hD : ¬ isDg (T pp) := fun z => h_206 (decide_eq_true ⟨hpn2, z⟩)
        unfold nxA
        rw [if_pos hpn2, if_neg hL, if_neg hD]
        refine q_aload_n 312 dX6_nextToken_311 rfl rfl ?_
        refine q_iconst (v := 3) 313 dX6_nextToken_312 rfl rfl ?_
        refine q_putI 316 dX6_nextToken_313 rfl fl_X6_226 fp_6_17 (by decide) rfl (by decide) rfl rfl ?_
        refine q_aload_n 317 dX6_nextToken_316 rfl rfl ?_
        refine q_aload_n 318 dX6_nextToken_317 rfl rfl ?_
        refine q_getR 321 dX6_nextToken_318 rfl fl_X6_46 (by decide) rfl rfl ?_
        refine q_aload_n 322 dX6_nextToken_321 rfl rfl ?_
        refine q_getI 325 dX6_nextToken_322 rfl fl_X6_229 (by decide) rfl (by decide) ?_
        refine q_iald 326 dX6_nextToken_325 rfl (by decide) (by decide) h16 (show pp < 96 by omega) ?_
        refine q_putI 329 dX6_nextToken_326 rfl fl_X6_235 fp_6_19 (by decide) rfl (by decide) rfl rfl ?_
        refine q_aload_n 330 dX6_nextToken_329 rfl rfl ?_
        refine q_dup 331 dX6_nextToken_330 rfl rfl ?_
        refine q_getI 334 dX6_nextToken_331 rfl fl_X6_223 (by decide) rfl (by decide) ?_
        refine q_iconst (v := 1) 335 dX6_nextToken_334 rfl rfl ?_
        refine q_iadd 336 dX6_nextToken_335 rfl ?_
        refine q_putI 339 dX6_nextToken_336 rfl fl_X6_223 fp_6_16 (by decide) rfl (by decide) rfl rfl ?_
        refine q_vret dX6_nextToken_339 ?_
        first
          | exact ⟨rfl, (hK.fm _ (by decide) (by decide)).fm _ (by decide) (by decide), TK6_0 h16 h16 rfl⟩
          | exact ⟨rfl, (((hK.fm _ (by decide) (by decide)).fm _ (by decide) (by decide)).fm _ (by decide) (by decide)).fm _ (by decide) (by decide), TK6_3 h16 (by show N 6 0 16 + 1 = _; rw [h16]; exact nI_1 pp) rfl (by show N 43 0 pp = _; rw [k43])⟩
      · skip
        simp only [bI_0, Classical.not_not] at h_206
        have hD := (of_decide_eq_true h_206).2
        unfold nxA
        rw [if_pos hpn2, if_neg hL, if_pos hD]
        refine q_aload_n 210 dX6_nextToken_209 rfl rfl ?_
        refine q_iconst (v := 0) 211 dX6_nextToken_210 rfl rfl ?_
        refine q_putI 214 dX6_nextToken_211 rfl fl_X6_241 fp_6_18 (by decide) rfl (by decide) rfl rfl ?_
        exact q_fg (l6_nt2 M T n hT h14 h96 pp ti (n - pp + 1) pp _ ((hK.fm _ (by decide) (by decide)).fm _ (by decide) (by decide)) h16 h16 (by rw [Nat.sub_self]; rfl) (Nat.le_refl _) hpn (by omega)) ⟨rfl, rfl, trivial⟩
    · skip
      simp only [bI_0, Classical.not_not] at h_125
      have hL := (of_decide_eq_true h_125).2
      unfold nxA
      rw [if_pos hpn2, if_pos hL]
      exact q_fg (l6_nt1 M T n hT h14 h96 pp ti (n - pp + 1) pp _ (hK.fm _ (by decide) (by decide)) h16 h16 (Nat.le_refl _) hpn (by omega)) ⟨rfl, rfl, trivial⟩
  · skip
    rw [show (putA N 6 0 (upd (N 6 0) 15 (N 6 0 16))) 6 0 15 = nI pp from h16, show (putA N 6 0 (upd (N 6 0) 15 (N 6 0 16))) 6 0 14 = nI n from k14, nI_eq (by omega) (by omega)] at h_106
    have hN : ¬ pp < n := by omega
    unfold nxA
    rw [if_neg hN]
    refine q_aload_n 110 dX6_nextToken_109 rfl rfl ?_
    refine q_iconst (v := 0) 111 dX6_nextToken_110 rfl rfl ?_
    refine q_putI 114 dX6_nextToken_111 rfl fl_X6_226 fp_6_17 (by decide) rfl (by decide) rfl rfl ?_
    refine q_goto 339 dX6_nextToken_114 rfl ?_
    refine q_vret dX6_nextToken_339 ?_
    first
      | exact ⟨rfl, (hK.fm _ (by decide) (by decide)).fm _ (by decide) (by decide), TK6_0 h16 h16 rfl⟩
      | exact ⟨rfl, (((hK.fm _ (by decide) (by decide)).fm _ (by decide) (by decide)).fm _ (by decide) (by decide)).fm _ (by decide) (by decide), TK6_3 h16 (by show N 6 0 16 + 1 = _; rw [h16]; exact nI_1 pp) rfl (by show N 43 0 pp = _; rw [k43])⟩
set_option maxRecDepth 100000 in
set_option maxHeartbeats 4000000 in
theorem l6_nt0 {g : GT} (M : TM) (T : Nat → Int32) (n : Nat) (hT : M 43 0 = T) (h14 : M 6 0 14 = nI n) (h96 : n ≤ 96) (bh : Nat) (tp : Bool) : ∀ (j : Nat) (q : Nat) (N : TM), KF M N → N 6 0 16 = nI q → bh ≤ q → q ≤ n → n - q < j → TR g (rmD 2) RX6 cX6_nextToken 3 none 0 0 (Zm g (QT T (nxA T n (en (blB T n) n q) (decide (tp = true ∧ bh = en (blB T n) n q))) M)) 34 [some (.ref (gad g 6 0)), some (.int (bI (tp = true))), some (.int (nI bh))] [] N := by
  intro j
  induction j with
  | zero => intro q N hK h16 hbq hqn hj; exact absurd hj (by omega)
  | succ j ih =>
    intro q N hK h16 hbq hqn hj
    have k43 : N 43 0 = T := (hK.1 43 0 (by decide)).trans hT
    have k14 : N 6 0 14 = nI n := (hK.2 14 (by decide)).trans h14
    refine q_aload_n 35 dX6_nextToken_34 rfl rfl ?_
    refine q_getI 38 dX6_nextToken_35 rfl fl_X6_223 (by decide) rfl (by decide) ?_
    refine q_aload_n 39 dX6_nextToken_38 rfl rfl ?_
    refine q_getI 42 dX6_nextToken_39 rfl fl_X6_211 (by decide) rfl (by decide) ?_
    refine q_icmp_ge 72 45 dX6_nextToken_42 rfl rfl (fun h_42 => ?_) (fun h_42 => ?_)
    · skip
      rw [h16, k14, nI_leI (by omega) (by omega)] at h_42
      rw [en_f (q := blB T n) (p := q) (fun z => absurd (of_decide_eq_true z).1 (by omega))]
      refine q_iload_n 73 dX6_nextToken_72 rfl rfl ?_
      refine q_if_eq 88 76 dX6_nextToken_73 rfl rfl (fun h_73 => ?_) (fun h_73 => ?_)
      · skip
        simp only [bI_0, Classical.not_not] at h_73
        refine q_iconst (v := 0) 89 dX6_nextToken_88 rfl rfl ?_
        first
          | exact q_eqS (congrArg (fun x => [Value.int x]) (bI_t (decide_eq_true ⟨h_73, h_81⟩)).symm) (q_fg (t6_nt89 M T n hT h14 h96 q (decide (tp = true ∧ bh = q)) N hK h16 hqn) ⟨rfl, trivial⟩)
          | exact q_eqS (congrArg (fun x => [Value.int x]) (bI_f (fun z => h_81 (of_decide_eq_true z).2)).symm) (q_fg (t6_nt89 M T n hT h14 h96 q (decide (tp = true ∧ bh = q)) N hK h16 hqn) ⟨rfl, trivial⟩)
          | exact q_eqS (congrArg (fun x => [Value.int x]) (bI_f (fun z => h_73 (of_decide_eq_true z).1)).symm) (q_fg (t6_nt89 M T n hT h14 h96 q (decide (tp = true ∧ bh = q)) N hK h16 hqn) ⟨rfl, trivial⟩)
      · skip
        simp only [bI_0, Classical.not_not] at h_73
        refine q_iload_n 77 dX6_nextToken_76 rfl rfl ?_
        refine q_aload_n 78 dX6_nextToken_77 rfl rfl ?_
        refine q_getI 81 dX6_nextToken_78 rfl fl_X6_223 (by decide) rfl (by decide) ?_
        refine q_icmp_ne 88 84 dX6_nextToken_81 rfl rfl (fun h_81 => ?_) (fun h_81 => ?_)
        · skip
          rw [h16, nI_eq (by omega) (by omega)] at h_81
          refine q_iconst (v := 0) 89 dX6_nextToken_88 rfl rfl ?_
          first
            | exact q_eqS (congrArg (fun x => [Value.int x]) (bI_t (decide_eq_true ⟨h_73, h_81⟩)).symm) (q_fg (t6_nt89 M T n hT h14 h96 q (decide (tp = true ∧ bh = q)) N hK h16 hqn) ⟨rfl, trivial⟩)
            | exact q_eqS (congrArg (fun x => [Value.int x]) (bI_f (fun z => h_81 (of_decide_eq_true z).2)).symm) (q_fg (t6_nt89 M T n hT h14 h96 q (decide (tp = true ∧ bh = q)) N hK h16 hqn) ⟨rfl, trivial⟩)
            | exact q_eqS (congrArg (fun x => [Value.int x]) (bI_f (fun z => h_73 (of_decide_eq_true z).1)).symm) (q_fg (t6_nt89 M T n hT h14 h96 q (decide (tp = true ∧ bh = q)) N hK h16 hqn) ⟨rfl, trivial⟩)
        · skip
          rw [h16, nI_eq (by omega) (by omega)] at h_81
          refine q_iconst (v := 1) 85 dX6_nextToken_84 rfl rfl ?_
          refine q_goto 89 dX6_nextToken_85 rfl ?_
          first
            | exact q_eqS (congrArg (fun x => [Value.int x]) (bI_t (decide_eq_true ⟨h_73, h_81⟩)).symm) (q_fg (t6_nt89 M T n hT h14 h96 q (decide (tp = true ∧ bh = q)) N hK h16 hqn) ⟨rfl, trivial⟩)
            | exact q_eqS (congrArg (fun x => [Value.int x]) (bI_f (fun z => h_81 (of_decide_eq_true z).2)).symm) (q_fg (t6_nt89 M T n hT h14 h96 q (decide (tp = true ∧ bh = q)) N hK h16 hqn) ⟨rfl, trivial⟩)
            | exact q_eqS (congrArg (fun x => [Value.int x]) (bI_f (fun z => h_73 (of_decide_eq_true z).1)).symm) (q_fg (t6_nt89 M T n hT h14 h96 q (decide (tp = true ∧ bh = q)) N hK h16 hqn) ⟨rfl, trivial⟩)
    · skip
      rw [h16, k14, nI_leI (by omega) (by omega)] at h_42
      refine q_aload_n 46 dX6_nextToken_45 rfl rfl ?_
      refine q_getR 49 dX6_nextToken_46 rfl fl_X6_46 (by decide) rfl rfl ?_
      refine q_aload_n 50 dX6_nextToken_49 rfl rfl ?_
      refine q_getI 53 dX6_nextToken_50 rfl fl_X6_223 (by decide) rfl (by decide) ?_
      refine q_iald 54 dX6_nextToken_53 rfl (by decide) (by decide) h16 (show q < 96 by omega) ?_
      refine q_bipush (v := 32) 56 dX6_nextToken_54 rfl rfl ?_
      refine q_icmp_ne 72 59 dX6_nextToken_56 rfl rfl (fun h_56 => ?_) (fun h_56 => ?_)
      · skip
        rw [k43] at h_56
        rw [en_f (q := blB T n) (p := q) (fun z => h_56 (of_decide_eq_true z).2)]
        refine q_iload_n 73 dX6_nextToken_72 rfl rfl ?_
        refine q_if_eq 88 76 dX6_nextToken_73 rfl rfl (fun h_73 => ?_) (fun h_73 => ?_)
        · skip
          simp only [bI_0, Classical.not_not] at h_73
          refine q_iconst (v := 0) 89 dX6_nextToken_88 rfl rfl ?_
          first
            | exact q_eqS (congrArg (fun x => [Value.int x]) (bI_t (decide_eq_true ⟨h_73, h_81⟩)).symm) (q_fg (t6_nt89 M T n hT h14 h96 q (decide (tp = true ∧ bh = q)) N hK h16 hqn) ⟨rfl, trivial⟩)
            | exact q_eqS (congrArg (fun x => [Value.int x]) (bI_f (fun z => h_81 (of_decide_eq_true z).2)).symm) (q_fg (t6_nt89 M T n hT h14 h96 q (decide (tp = true ∧ bh = q)) N hK h16 hqn) ⟨rfl, trivial⟩)
            | exact q_eqS (congrArg (fun x => [Value.int x]) (bI_f (fun z => h_73 (of_decide_eq_true z).1)).symm) (q_fg (t6_nt89 M T n hT h14 h96 q (decide (tp = true ∧ bh = q)) N hK h16 hqn) ⟨rfl, trivial⟩)
        · skip
          simp only [bI_0, Classical.not_not] at h_73
          refine q_iload_n 77 dX6_nextToken_76 rfl rfl ?_
          refine q_aload_n 78 dX6_nextToken_77 rfl rfl ?_
          refine q_getI 81 dX6_nextToken_78 rfl fl_X6_223 (by decide) rfl (by decide) ?_
          refine q_icmp_ne 88 84 dX6_nextToken_81 rfl rfl (fun h_81 => ?_) (fun h_81 => ?_)
          · skip
            rw [h16, nI_eq (by omega) (by omega)] at h_81
            refine q_iconst (v := 0) 89 dX6_nextToken_88 rfl rfl ?_
            first
              | exact q_eqS (congrArg (fun x => [Value.int x]) (bI_t (decide_eq_true ⟨h_73, h_81⟩)).symm) (q_fg (t6_nt89 M T n hT h14 h96 q (decide (tp = true ∧ bh = q)) N hK h16 hqn) ⟨rfl, trivial⟩)
              | exact q_eqS (congrArg (fun x => [Value.int x]) (bI_f (fun z => h_81 (of_decide_eq_true z).2)).symm) (q_fg (t6_nt89 M T n hT h14 h96 q (decide (tp = true ∧ bh = q)) N hK h16 hqn) ⟨rfl, trivial⟩)
              | exact q_eqS (congrArg (fun x => [Value.int x]) (bI_f (fun z => h_73 (of_decide_eq_true z).1)).symm) (q_fg (t6_nt89 M T n hT h14 h96 q (decide (tp = true ∧ bh = q)) N hK h16 hqn) ⟨rfl, trivial⟩)
          · skip
            rw [h16, nI_eq (by omega) (by omega)] at h_81
            refine q_iconst (v := 1) 85 dX6_nextToken_84 rfl rfl ?_
            refine q_goto 89 dX6_nextToken_85 rfl ?_
            first
              | exact q_eqS (congrArg (fun x => [Value.int x]) (bI_t (decide_eq_true ⟨h_73, h_81⟩)).symm) (q_fg (t6_nt89 M T n hT h14 h96 q (decide (tp = true ∧ bh = q)) N hK h16 hqn) ⟨rfl, trivial⟩)
              | exact q_eqS (congrArg (fun x => [Value.int x]) (bI_f (fun z => h_81 (of_decide_eq_true z).2)).symm) (q_fg (t6_nt89 M T n hT h14 h96 q (decide (tp = true ∧ bh = q)) N hK h16 hqn) ⟨rfl, trivial⟩)
              | exact q_eqS (congrArg (fun x => [Value.int x]) (bI_f (fun z => h_73 (of_decide_eq_true z).1)).symm) (q_fg (t6_nt89 M T n hT h14 h96 q (decide (tp = true ∧ bh = q)) N hK h16 hqn) ⟨rfl, trivial⟩)
      · skip
        rw [k43] at h_56
        rw [en_t (q := blB T n) (p := q) (by omega) (decide_eq_true ⟨by omega, h_56⟩)]
        refine q_aload_n 60 dX6_nextToken_59 rfl rfl ?_
        refine q_dup 61 dX6_nextToken_60 rfl rfl ?_
        refine q_getI 64 dX6_nextToken_61 rfl fl_X6_223 (by decide) rfl (by decide) ?_
        refine q_iconst (v := 1) 65 dX6_nextToken_64 rfl rfl ?_
        refine q_iadd 66 dX6_nextToken_65 rfl ?_
        refine q_putI 69 dX6_nextToken_66 rfl fl_X6_223 fp_6_16 (by decide) rfl (by decide) rfl rfl ?_
        refine q_goto 34 dX6_nextToken_69 rfl ?_
        exact ih (q + 1) _ (hK.fm _ (by decide) (by decide)) (by show N 6 0 16 + 1 = _; rw [h16]; exact nI_1 q) (by omega) (by omega) (by omega)
set_option maxRecDepth 100000 in
set_option maxHeartbeats 4000000 in
theorem t6_nt28 {g : GT} (M : TM) (T : Nat → Int32) (n : Nat) (hT : M 43 0 = T) (h14 : M 6 0 14 = nI n) (h96 : n ≤ 96) (bh so : Nat) (hb : bh ≤ n) (h16 : M 6 0 16 = nI bh) : TR g (rmD 2) RX6 cX6_nextToken 3 none 0 0 (Zm g (QT T (nx T n bh so) M)) 28 [some (.ref (gad g 6 0)), none, none] [.int (bI (so = 1 ∨ so = 2))] M := by
  refine q_istore_n 29 dX6_nextToken_28 rfl (by decide) rfl ?_
  refine q_aload_n 30 dX6_nextToken_29 rfl rfl ?_
  refine q_getI 33 dX6_nextToken_30 rfl fl_X6_223 (by decide) rfl (by decide) ?_
  refine q_istore_n 34 dX6_nextToken_33 rfl (by decide) rfl ?_
  refine q_fg (tl' := [some (.ref (gad g 6 0)), some (.int (bI (decide (so = 1 ∨ so = 2) = true))), some (.int (nI bh))]) ?_ ⟨rfl, congrArg (fun x => some (Value.int x)) (bI_c decide_eq_true_iff.symm), congrArg (fun x => some (Value.int x)) h16, trivial⟩
  have q := l6_nt0 (g := g) M T n hT h14 h96 bh (decide (so = 1 ∨ so = 2)) (n - bh + 1) bh M (KF.rf M) h16 (Nat.le_refl _) hb (by omega)
  unfold nx nxP
  rw [show decide ((so = 1 ∨ so = 2) ∧ bh = en (blB T n) n bh) = decide (decide (so = 1 ∨ so = 2) = true ∧ bh = en (blB T n) n bh) from decide_eq_decide.mpr (by rw [decide_eq_true_iff])]
  exact q
set_option maxRecDepth 100000 in
set_option maxHeartbeats 4000000 in
theorem c6_nextToken {g : GT} (M : TM) (T : Nat → Int32) (n : Nat) (hT : M 43 0 = T) (h14 : M 6 0 14 = nI n) (h96 : n ≤ 96) (bh so : Nat) (hb : bh ≤ n) (hso : so ≤ 4) (h16 : M 6 0 16 = nI bh) (h17 : M 6 0 17 = nI so) (h0 : so = 1 ∨ so = 2 → 0 < bh) : Cn g yX6_nextToken cX6_nextToken 3 none 2 [.ref (gad g 6 0)] M (QT T (nx T n bh so) M) := by
  refine Cn.ofTR (by decide +kernel) (Nat.le_of_ble_eq_true rfl) ?_
  refine q_aload_n 1 dX6_nextToken_0 rfl rfl ?_
  refine q_getI 4 dX6_nextToken_1 rfl fl_X6_223 (by decide) rfl (by decide) ?_
  refine q_if_le 27 7 dX6_nextToken_4 rfl rfl (fun h_4 => ?_) (fun h_4 => ?_)
  · skip
    rw [h16] at h_4
    have hb0 : ¬ 0 < bh := fun z => nI_nle z (by omega) h_4
    have hv := bI_f (p := so = 1 ∨ so = 2) (fun z => hb0 (h0 z))
    refine q_iconst (v := 0) 28 dX6_nextToken_27 rfl rfl ?_
    exact q_eqS (congrArg (fun x => [Value.int x]) hv.symm) (q_fg (t6_nt28 M T n hT h14 h96 bh so hb h16) ⟨rfl, trivial⟩)
  · skip
    refine q_aload_n 8 dX6_nextToken_7 rfl rfl ?_
    refine q_getI 11 dX6_nextToken_8 rfl fl_X6_226 (by decide) rfl (by decide) ?_
    refine q_iconst (v := 1) 12 dX6_nextToken_11 rfl rfl ?_
    refine q_icmp_eq 23 15 dX6_nextToken_12 rfl rfl (fun h_12 => ?_) (fun h_12 => ?_)
    · skip
      rw [h17, nI_e1 (by omega)] at h_12
      have hv := bI_t (p := so = 1 ∨ so = 2) (Or.inl h_12)
      refine q_iconst (v := 1) 24 dX6_nextToken_23 rfl rfl ?_
      refine q_goto 28 dX6_nextToken_24 rfl ?_
      exact q_eqS (congrArg (fun x => [Value.int x]) hv.symm) (q_fg (t6_nt28 M T n hT h14 h96 bh so hb h16) ⟨rfl, trivial⟩)
    · skip
      rw [h17, nI_e1 (by omega)] at h_12
      refine q_aload_n 16 dX6_nextToken_15 rfl rfl ?_
      refine q_getI 19 dX6_nextToken_16 rfl fl_X6_226 (by decide) rfl (by decide) ?_
      refine q_iconst (v := 2) 20 dX6_nextToken_19 rfl rfl ?_
      refine q_icmp_ne 27 23 dX6_nextToken_20 rfl rfl (fun h_20 => ?_) (fun h_20 => ?_)
      · skip
        rw [h17, nI_e2 (by omega)] at h_20
        have hv := bI_f (p := so = 1 ∨ so = 2) (fun z => z.elim h_12 h_20)
        refine q_iconst (v := 0) 28 dX6_nextToken_27 rfl rfl ?_
        exact q_eqS (congrArg (fun x => [Value.int x]) hv.symm) (q_fg (t6_nt28 M T n hT h14 h96 bh so hb h16) ⟨rfl, trivial⟩)
      · skip
        rw [h17, nI_e2 (by omega)] at h_20
        have hv := bI_t (p := so = 1 ∨ so = 2) (Or.inr h_20)
        refine q_iconst (v := 1) 24 dX6_nextToken_23 rfl rfl ?_
        refine q_goto 28 dX6_nextToken_24 rfl ?_
        exact q_eqS (congrArg (fun x => [Value.int x]) hv.symm) (q_fg (t6_nt28 M T n hT h14 h96 bh so hb h16) ⟨rfl, trivial⟩)
