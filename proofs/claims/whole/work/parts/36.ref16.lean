theorem wfX_c2 {s s' : SS} (h : ∀ i, i < 2871 → s' i = s i) {t : Nat} (ht : t < 14) (hx : wfX s t) : wfX s' t := by
  obtain ⟨h1, m, h2, h3, h4, h5⟩ := hx
  have hg : ∀ k, k ≤ m → hgt s' (75 + 200 * t) k = hgt s (75 + 200 * t) k := by
    intro k
    induction k with
    | zero => intro _; rfl
    | succ k ih => intro hk; rw [hgt_s, hgt_s, ih (by omega), h _ (by omega), h _ (by omega)]
  refine ⟨by rw [h _ (by omega)]; exact h1, m, h2, by rw [h _ (by omega)]; exact h3, by rw [hg m (Nat.le_refl _)]; exact h4, ?_⟩
  intro k hk
  rw [hg k (by omega), h (75 + 200 * t + 2 * k) (by omega), h (75 + 200 * t + 2 * k + 1) (by omega), h (71 + 200 * t) (by omega)]
  exact h5 k hk
theorem WF_c2 {b : Nat} {s s' : SS} (h : ∀ i, i < 2871 → s' i = s i) (hW : WF b s) : WF b s' := by
  obtain ⟨⟨h0, h10⟩, ⟨sp, hs1, hs2⟩, hr, hc, hm, ht⟩ := hW
  refine ⟨by rw [nN_c (h 0 (by omega)), h 0 (by omega)]; exact ⟨h0, h10⟩, ⟨sp, hs1, by rw [h 2 (by omega)]; exact hs2⟩, ?_, ?_, ?_, ?_⟩
  · unfold WFr; rw [h 3 (by omega), h 4 (by omega), h 5 (by omega), h 6 (by omega), h 7 (by omega)]; exact hr
  · intro c hc6; rw [h _ (by omega), h _ (by omega)]; exact hc c hc6
  · intro j hj; unfold mk; rw [h _ (by omega), h _ (by omega), h _ (by omega), h _ (by omega), h _ (by omega)]; exact hm j hj
  · unfold WFt
    rw [nT_c (h 1 (by omega)), h 1 (by omega)]
    exact ⟨ht.1, ht.2.1, fun t h2 => wfX_c2 h (by have := ht.2.1; omega) (ht.2.2 t h2)⟩
def ckD (I : SS) (D : Nat → Int32) : Nat → Nat → Int32
  | 0 => D
  | i + 1 => upd (upd (ckD I D i) (2 * i) (goN I (i + 1) 6)) (2 * i + 1) (suF (goN I (i + 1)) 2 (nN I))
def dvF (I : SS) (i : Nat) : Int32 := if i % 2 = 0 then goN I (i / 2 + 1) 6 else suF (goN I (i / 2 + 1)) 2 (nN I)
theorem ckD_at (I : SS) (D : Nat → Int32) {j : Nat} : ∀ k, j < 2 * k → ckD I D k j = dvF I j
  | 0, h => absurd h (Nat.not_lt_zero _)
  | k + 1, h => by
    unfold ckD
    by_cases h1 : j = 2 * k + 1
    · subst h1; rw [upd_s]; unfold dvF; rw [if_neg (by omega), show (2 * k + 1) / 2 = k by omega]
    · rw [upd_n h1]
      by_cases h2 : j = 2 * k
      · subst h2; rw [upd_s]; unfold dvF; rw [if_pos (by omega), show 2 * k / 2 = k by omega]
      · rw [upd_n h2]; exact ckD_at I D k (by omega)
theorem goN_2 {s : SS} {sp : Nat} (h2 : s 2 = nI sp) : ∀ n, goN s n 2 = nI (sp + n)
  | 0 => h2
  | n + 1 => by show goF (goN s n) 2 = _; unfold goF; rw [upd_s, goN_2 h2 n, nI_1]; rfl
def ckK (I : SS) (n : Int32) : Nat := min (tn n) (9999 - tn (I 2))
def ckS (wt : Nat → Int32) (I : SS) (w K : Nat) : Nat := srch (fun k => decide (k < w ∧ k < 2 * K ∧ wt k = dvF I k)) 100 0
def aCheck (wt : Nat → Int32) (I : SS) (w : Nat) (hi n : Int32) : Int32 := if 1 ≤ n ∧ n ≤ 30 then (if hi = 0 then NOc else if ckS wt I w (ckK I n) = w ∧ ckS wt I w (ckK I n) = 2 * ckK I n then 0 else 1 + nI (ckS wt I w (ckK I n))) else BADc
def mem6 (N : TM) (f f2 D : Nat → Int32) (S : SS) : TM := putA (putA (sc N f f2) 48 0 D) 31 0 S
theorem mem6_go (N : TM) (f f2 D f3 f4 : Nat → Int32) (S S' : SS) : putA (sc (mem6 N f f2 D S) f3 f4) 31 0 S' = mem6 N f3 f4 D S' := by
  funext a b
  unfold mem6 sc putA
  by_cases h1 : a = 31 ∧ b = 0
  · simp only [h1]; rfl
  · by_cases h2 : a = 45 ∧ b = 0
    · simp only [h2]; rfl
    · by_cases h3 : a = 44 ∧ b = 0
      · simp only [h3]; rfl
      · by_cases h4 : a = 48 ∧ b = 0
        · simp only [h4]; rfl
        · simp only [h1, h2, h3, h4, if_false]
theorem mem6_48 (N : TM) (f f2 D D' : Nat → Int32) (S : SS) : putA (mem6 N f f2 D S) 48 0 D' = mem6 N f f2 D' S := by
  unfold mem6; rw [putA_cm _ _ _ (by decide), putA_pp]
theorem mem6_31 (N : TM) (f f2 D : Nat → Int32) (S S' : SS) : putA (mem6 N f f2 D S) 31 0 S' = mem6 N f f2 D S' := by
  unfold mem6; rw [putA_pp]
theorem mix_hi (f f2 : Nat → Int32) {k i : Nat} (h : k ≤ i) : mixF f f2 k i = f2 i := if_neg (by omega)
theorem mix_back2 {A S s : SS} (h1 : ∀ i, i < 2871 → A i = s i) (h2 : ∀ i, 2871 ≤ i → S i = s i) : mixF A S 2871 = s := by
  funext i; unfold mixF
  by_cases h : i < 2871
  · rw [if_pos h]; exact h1 i h
  · rw [if_neg h]; exact h2 i (by omega)
theorem putA_cg2 {M M' : TM} {t k : Nat} {f : Nat → Int32} (h : M = M') : putA M t k f = putA M' t k f := by rw [h]
theorem mem6_id (N : TM) : putA (sc N (N 44 0) (N 45 0)) 48 0 (N 48 0) = N := by rw [sc_id, putA_id]
theorem chk_id (M : TM) : mem6 (putA (fm M 29 0) 33 0 (M 33 0)) (M 44 0) (M 45 0) (M 48 0) (M 31 0) = fm M 29 0 := by
  have h1 : putA (fm M 29 0) 33 0 (M 33 0) = fm M 29 0 := putA_id (fm M 29 0) 33 0
  rw [h1]
  have h2 := mem6_id (fm M 29 0)
  have h3 : mem6 (fm M 29 0) (M 44 0) (M 45 0) (M 48 0) (M 31 0) = putA (fm M 29 0) 31 0 (M 31 0) := by unfold mem6; exact putA_cg2 h2
  rw [h3]; exact putA_id (fm M 29 0) 31 0
set_option maxRecDepth 100000 in
set_option maxHeartbeats 4000000 in
theorem l6_check2 {g : GT} (N : TM) (n : Int32) (w K : Nat) (h60 : w ≤ 60) (hK : K ≤ 30) (I : SS) (hD : ∀ j, j < 2 * K → N 48 0 j = dvF I j) : ∀ (j : Nat) (k : Nat) (y : Int32), 100 - k ≤ j → k ≤ 60 → y = nI k → TR g (rmD 9) RX6 cX6_check 5 (some .int) 0 0 (Zm g (Rt (.int (if srch (fun k => decide (k < w ∧ k < 2 * K ∧ N 47 0 k = dvF I k)) (100 - k) k = w ∧ srch (fun k => decide (k < w ∧ k < 2 * K ∧ N 47 0 k = dvF I k)) (100 - k) k = 2 * K then 0 else 1 + nI (srch (fun k => decide (k < w ∧ k < 2 * K ∧ N 47 0 k = dvF I k)) (100 - k) k))) N)) 137 [some (.ref (gad g 6 0)), some (.int n), some (.int (nI w)), some (.int (nI (2 * K))), some (.int y)] [] N := by
  intro j
  induction j with
  | zero => intro k y hj hk hy; exfalso; omega
  | succ j ih =>
    intro k y hj hk hy
    subst hy
    generalize hp : (fun k => decide (k < w ∧ k < 2 * K ∧ N 47 0 k = dvF I k)) = pp at ih ⊢
    refine q_iload 139 dX6_check_137 rfl rfl ?_
    refine q_iload_n 140 dX6_check_139 rfl rfl ?_
    refine q_icmp_ge 172 143 dX6_check_140 rfl rfl (fun h_140 => ?_) (fun h_140 => ?_)
    · skip
      rw [nI_leI (by omega) (by omega)] at h_140
      refine q_iload 174 dX6_check_172 rfl rfl ?_
      refine q_iload_n 175 dX6_check_174 rfl rfl ?_
      refine q_icmp_ne 188 178 dX6_check_175 rfl rfl (fun h_175 => ?_) (fun h_175 => ?_)
      · skip
        rw [nI_eq (by omega) (by omega)] at h_175
        refine q_iconst (v := 1) 189 dX6_check_188 rfl rfl ?_
        refine q_iload 191 dX6_check_189 rfl rfl ?_
        refine q_iadd 192 dX6_check_191 rfl ?_
        refine q_iret dX6_check_192 ?_
        have hq : ¬ pp k = true := by
          rw [← hp]; intro z; have z := of_decide_eq_true z
          first | omega | exact h_163 (z.2.2.trans (hD k z.2.1).symm)
        refine ⟨congrArg (fun x => some (Value.int x)) ?_, rfl⟩
        rw [show 100 - k = (99 - k) + 1 by omega, srch, if_neg hq]
        first | (have e := h_181; have e2 := h_175; rw [if_pos ⟨e2, e⟩]; done) | (have e := h_181; rw [if_neg (fun z => e z.2)]; done) | (have e := h_175; rw [if_neg (fun z => e z.1)]; done)
      · skip
        rw [nI_eq (by omega) (by omega)] at h_175
        refine q_iload 180 dX6_check_178 rfl rfl ?_
        refine q_iload_n 181 dX6_check_180 rfl rfl ?_
        refine q_icmp_ne 188 184 dX6_check_181 rfl rfl (fun h_181 => ?_) (fun h_181 => ?_)
        · skip
          rw [nI_eq (by omega) (by omega)] at h_181
          refine q_iconst (v := 1) 189 dX6_check_188 rfl rfl ?_
          refine q_iload 191 dX6_check_189 rfl rfl ?_
          refine q_iadd 192 dX6_check_191 rfl ?_
          refine q_iret dX6_check_192 ?_
          have hq : ¬ pp k = true := by
            rw [← hp]; intro z; have z := of_decide_eq_true z
            first | omega | exact h_163 (z.2.2.trans (hD k z.2.1).symm)
          refine ⟨congrArg (fun x => some (Value.int x)) ?_, rfl⟩
          rw [show 100 - k = (99 - k) + 1 by omega, srch, if_neg hq]
          first | (have e := h_181; have e2 := h_175; rw [if_pos ⟨e2, e⟩]; done) | (have e := h_181; rw [if_neg (fun z => e z.2)]; done) | (have e := h_175; rw [if_neg (fun z => e z.1)]; done)
        · skip
          rw [nI_eq (by omega) (by omega)] at h_181
          refine q_iconst (v := 0) 185 dX6_check_184 rfl rfl ?_
          refine q_goto 192 dX6_check_185 rfl ?_
          refine q_iret dX6_check_192 ?_
          have hq : ¬ pp k = true := by
            rw [← hp]; intro z; have z := of_decide_eq_true z
            first | omega | exact h_163 (z.2.2.trans (hD k z.2.1).symm)
          refine ⟨congrArg (fun x => some (Value.int x)) ?_, rfl⟩
          rw [show 100 - k = (99 - k) + 1 by omega, srch, if_neg hq]
          first | (have e := h_181; have e2 := h_175; rw [if_pos ⟨e2, e⟩]; done) | (have e := h_181; rw [if_neg (fun z => e z.2)]; done) | (have e := h_175; rw [if_neg (fun z => e z.1)]; done)
    · skip
      rw [nI_leI (by omega) (by omega)] at h_140
      refine q_iload 145 dX6_check_143 rfl rfl ?_
      refine q_iload_n 146 dX6_check_145 rfl rfl ?_
      refine q_icmp_ge 172 149 dX6_check_146 rfl rfl (fun h_146 => ?_) (fun h_146 => ?_)
      · skip
        rw [nI_leI (by omega) (by omega)] at h_146
        refine q_iload 174 dX6_check_172 rfl rfl ?_
        refine q_iload_n 175 dX6_check_174 rfl rfl ?_
        refine q_icmp_ne 188 178 dX6_check_175 rfl rfl (fun h_175 => ?_) (fun h_175 => ?_)
        · skip
          rw [nI_eq (by omega) (by omega)] at h_175
          refine q_iconst (v := 1) 189 dX6_check_188 rfl rfl ?_
          refine q_iload 191 dX6_check_189 rfl rfl ?_
          refine q_iadd 192 dX6_check_191 rfl ?_
          refine q_iret dX6_check_192 ?_
          have hq : ¬ pp k = true := by
            rw [← hp]; intro z; have z := of_decide_eq_true z
            first | omega | exact h_163 (z.2.2.trans (hD k z.2.1).symm)
          refine ⟨congrArg (fun x => some (Value.int x)) ?_, rfl⟩
          rw [show 100 - k = (99 - k) + 1 by omega, srch, if_neg hq]
          first | (have e := h_181; have e2 := h_175; rw [if_pos ⟨e2, e⟩]; done) | (have e := h_181; rw [if_neg (fun z => e z.2)]; done) | (have e := h_175; rw [if_neg (fun z => e z.1)]; done)
        · skip
          rw [nI_eq (by omega) (by omega)] at h_175
          refine q_iload 180 dX6_check_178 rfl rfl ?_
          refine q_iload_n 181 dX6_check_180 rfl rfl ?_
          refine q_icmp_ne 188 184 dX6_check_181 rfl rfl (fun h_181 => ?_) (fun h_181 => ?_)
          · skip
            rw [nI_eq (by omega) (by omega)] at h_181
            refine q_iconst (v := 1) 189 dX6_check_188 rfl rfl ?_
            refine q_iload 191 dX6_check_189 rfl rfl ?_
            refine q_iadd 192 dX6_check_191 rfl ?_
            refine q_iret dX6_check_192 ?_
            have hq : ¬ pp k = true := by
              rw [← hp]; intro z; have z := of_decide_eq_true z
              first | omega | exact h_163 (z.2.2.trans (hD k z.2.1).symm)
            refine ⟨congrArg (fun x => some (Value.int x)) ?_, rfl⟩
            rw [show 100 - k = (99 - k) + 1 by omega, srch, if_neg hq]
            first | (have e := h_181; have e2 := h_175; rw [if_pos ⟨e2, e⟩]; done) | (have e := h_181; rw [if_neg (fun z => e z.2)]; done) | (have e := h_175; rw [if_neg (fun z => e z.1)]; done)
          · skip
            rw [nI_eq (by omega) (by omega)] at h_181
            refine q_iconst (v := 0) 185 dX6_check_184 rfl rfl ?_
            refine q_goto 192 dX6_check_185 rfl ?_
            refine q_iret dX6_check_192 ?_
            have hq : ¬ pp k = true := by
              rw [← hp]; intro z; have z := of_decide_eq_true z
              first | omega | exact h_163 (z.2.2.trans (hD k z.2.1).symm)
            refine ⟨congrArg (fun x => some (Value.int x)) ?_, rfl⟩
            rw [show 100 - k = (99 - k) + 1 by omega, srch, if_neg hq]
            first | (have e := h_181; have e2 := h_175; rw [if_pos ⟨e2, e⟩]; done) | (have e := h_181; rw [if_neg (fun z => e z.2)]; done) | (have e := h_175; rw [if_neg (fun z => e z.1)]; done)
      · skip
        rw [nI_leI (by omega) (by omega)] at h_146
        refine q_aload_n 150 dX6_check_149 rfl rfl ?_
        refine q_getR 153 dX6_check_150 rfl fl_X6_58 (by decide) rfl rfl ?_
        refine q_iload 155 dX6_check_153 rfl rfl ?_
        refine q_iald 156 dX6_check_155 rfl (by decide) (by decide) rfl (show k < 60 by omega) ?_
        refine q_aload_n 157 dX6_check_156 rfl rfl ?_
        refine q_getR 160 dX6_check_157 rfl fl_X6_61 (by decide) rfl rfl ?_
        refine q_iload 162 dX6_check_160 rfl rfl ?_
        refine q_iald 163 dX6_check_162 rfl (by decide) (by decide) rfl (show k < 60 by omega) ?_
        refine q_icmp_ne 172 166 dX6_check_163 rfl rfl (fun h_163 => ?_) (fun h_163 => ?_)
        · skip
          refine q_iload 174 dX6_check_172 rfl rfl ?_
          refine q_iload_n 175 dX6_check_174 rfl rfl ?_
          refine q_icmp_ne 188 178 dX6_check_175 rfl rfl (fun h_175 => ?_) (fun h_175 => ?_)
          · skip
            rw [nI_eq (by omega) (by omega)] at h_175
            refine q_iconst (v := 1) 189 dX6_check_188 rfl rfl ?_
            refine q_iload 191 dX6_check_189 rfl rfl ?_
            refine q_iadd 192 dX6_check_191 rfl ?_
            refine q_iret dX6_check_192 ?_
            have hq : ¬ pp k = true := by
              rw [← hp]; intro z; have z := of_decide_eq_true z
              first | omega | exact h_163 (z.2.2.trans (hD k z.2.1).symm)
            refine ⟨congrArg (fun x => some (Value.int x)) ?_, rfl⟩
            rw [show 100 - k = (99 - k) + 1 by omega, srch, if_neg hq]
            first | (have e := h_181; have e2 := h_175; rw [if_pos ⟨e2, e⟩]; done) | (have e := h_181; rw [if_neg (fun z => e z.2)]; done) | (have e := h_175; rw [if_neg (fun z => e z.1)]; done)
          · skip
            rw [nI_eq (by omega) (by omega)] at h_175
            refine q_iload 180 dX6_check_178 rfl rfl ?_
            refine q_iload_n 181 dX6_check_180 rfl rfl ?_
            refine q_icmp_ne 188 184 dX6_check_181 rfl rfl (fun h_181 => ?_) (fun h_181 => ?_)
            · skip
              rw [nI_eq (by omega) (by omega)] at h_181
              refine q_iconst (v := 1) 189 dX6_check_188 rfl rfl ?_
              refine q_iload 191 dX6_check_189 rfl rfl ?_
              refine q_iadd 192 dX6_check_191 rfl ?_
              refine q_iret dX6_check_192 ?_
              have hq : ¬ pp k = true := by
                rw [← hp]; intro z; have z := of_decide_eq_true z
                first | omega | exact h_163 (z.2.2.trans (hD k z.2.1).symm)
              refine ⟨congrArg (fun x => some (Value.int x)) ?_, rfl⟩
              rw [show 100 - k = (99 - k) + 1 by omega, srch, if_neg hq]
              first | (have e := h_181; have e2 := h_175; rw [if_pos ⟨e2, e⟩]; done) | (have e := h_181; rw [if_neg (fun z => e z.2)]; done) | (have e := h_175; rw [if_neg (fun z => e z.1)]; done)
            · skip
              rw [nI_eq (by omega) (by omega)] at h_181
              refine q_iconst (v := 0) 185 dX6_check_184 rfl rfl ?_
              refine q_goto 192 dX6_check_185 rfl ?_
              refine q_iret dX6_check_192 ?_
              have hq : ¬ pp k = true := by
                rw [← hp]; intro z; have z := of_decide_eq_true z
                first | omega | exact h_163 (z.2.2.trans (hD k z.2.1).symm)
              refine ⟨congrArg (fun x => some (Value.int x)) ?_, rfl⟩
              rw [show 100 - k = (99 - k) + 1 by omega, srch, if_neg hq]
              first | (have e := h_181; have e2 := h_175; rw [if_pos ⟨e2, e⟩]; done) | (have e := h_181; rw [if_neg (fun z => e z.2)]; done) | (have e := h_175; rw [if_neg (fun z => e z.1)]; done)
        · skip
          refine q_iinc 169 dX6_check_166 rfl rfl (by decide) rfl (nI_1 k) ?_
          refine q_goto 137 dX6_check_169 rfl ?_
          have hq : pp k = true := by rw [← hp]; exact decide_eq_true ⟨by omega, by omega, h_163.trans (hD k (by omega))⟩
          have q := ih (k + 1) _ (by omega) (by omega) rfl
          rw [show 100 - k = (100 - (k + 1)) + 1 by omega, srch, if_pos hq]
          exact q_fg q ⟨rfl, rfl, rfl, rfl, rfl, trivial⟩
set_option maxRecDepth 100000 in
set_option maxHeartbeats 4000000 in
theorem l6_check1 {g : GT} (N : TM) (n : Int32) (nn w : Nat) (hn : n = nI nn) (h30 : nn ≤ 30) (h60 : w ≤ 60) (s I : SS) (sp : Nat) (hW : WF 9999 I) (h2 : I 2 = nI sp) (hsp : sp ≤ 9999) (hA : ∀ i, i < 2871 → N 33 0 i = s i) (hI : ∀ i, 2871 ≤ i → I i = s i) (D : Nat → Int32) : ∀ (j : Nat) (i : Nat) (y z : Int32) (f f2 : Nat → Int32), nn - i < j → i ≤ nn → sp + i ≤ 9999 → y = nI (2 * i) → z = nI i → TR g (rmD 9) RX6 cX6_check 5 (some .int) 0 0 (Zm g (fun r M' => r = some (.int (if ckS (N 47 0) I w (min nn (9999 - sp)) = w ∧ ckS (N 47 0) I w (min nn (9999 - sp)) = 2 * min nn (9999 - sp) then 0 else 1 + nI (ckS (N 47 0) I w (min nn (9999 - sp))))) ∧ ∃ f f2 D, M' = mem6 N f f2 D s)) 65 [some (.ref (gad g 6 0)), some (.int n), some (.int (nI w)), some (.int y), some (.int z)] [] (mem6 N f f2 (ckD I D i) (goN I i)) := by
  intro j
  induction j with
  | zero => intro i y z f f2 hj hi hs9 hy hz; exact absurd hj (by omega)
  | succ j ih =>
    intro i y z f f2 hj hi hs9 hy hz
    subst hy; subst hz
    have e2 := goN_2 h2 i
    have hWi := goN_WF hW i
    have hWj := goN_WF hW (i + 1)
    have e0 := goN_0 hW (i + 1)
    refine q_iload 67 dX6_check_65 rfl rfl ?_
    refine q_iload_n 68 dX6_check_67 rfl rfl ?_
    refine q_icmp_ge 122 71 dX6_check_68 rfl rfl (fun h_68 => ?_) (fun h_68 => ?_)
    · skip
      rw [hn, nI_leI (by omega) (by omega)] at h_68
      have eK : min nn (9999 - sp) = i := by omega
      refine q_aload_n 123 dX6_check_122 rfl rfl ?_
      refine q_aload_n 124 dX6_check_123 rfl rfl ?_
      refine q_getR 127 dX6_check_124 rfl fl_X6_16 (by decide) rfl rfl ?_
      refine q_aload_n 128 dX6_check_127 rfl rfl ?_
      refine q_getR 131 dX6_check_128 rfl fl_X6_7 (by decide) rfl rfl ?_
      refine q_callVv 134 dX6_check_131 rfl (c6_setAside _ 33 31 (by decide) (by decide) rfl rfl rfl rfl (by decide)) cw_X6_343 (by decide) rfl rfl ⟨by decide, by decide⟩ ⟨by decide, by decide⟩ (Nat.le_of_ble_eq_true rfl) ?_
      refine q_eqM (M' := mem6 N f f2 (ckD I D i) s) ?_ ?_
      · rw [mem6_31]; exact congrArg (mem6 N f f2 (ckD I D i)) (mix_back2 (A := N 33 0) (S := goN I i) hA (fun q hq => (goN_hi hW (by omega) i).trans (hI q hq)))
      refine q_iconst (v := 0) 135 dX6_check_134 rfl rfl ?_
      refine q_istore 137 dX6_check_135 rfl (by decide) rfl ?_
      rw [eK]
      refine TR_post (q_fg (l6_check2 (mem6 N f f2 (ckD I D i) s) n w i h60 (by omega) I (fun q hq => ckD_at I D i hq) 101 0 0 (by omega) (by omega) rfl) ⟨rfl, rfl, rfl, rfl, rfl, trivial⟩) ?_
      rintro _ _ ⟨rfl, rfl⟩
      exact ⟨rfl, f, f2, _, rfl⟩
    · skip
      rw [hn, nI_leI (by omega) (by omega)] at h_68
      refine q_aload_n 72 dX6_check_71 rfl rfl ?_
      refine q_getR 75 dX6_check_72 rfl fl_X6_7 (by decide) rfl rfl ?_
      refine q_iconst (v := 2) 76 dX6_check_75 rfl rfl ?_
      refine q_iald 77 dX6_check_76 rfl (by decide) (by decide) rfl (by decide) ?_
      refine q_sipush (v := 9999) 80 dX6_check_77 rfl rfl ?_
      refine q_icmp_ge 122 83 dX6_check_80 rfl rfl (fun h_80 => ?_) (fun h_80 => ?_)
      · skip
        replace h_80 : nI 9999 ≤ nI (sp + i) := by rw [← e2]; exact h_80
        rw [nI_leI (by omega) (by omega)] at h_80
        have eK : min nn (9999 - sp) = i := by omega
        refine q_aload_n 123 dX6_check_122 rfl rfl ?_
        refine q_aload_n 124 dX6_check_123 rfl rfl ?_
        refine q_getR 127 dX6_check_124 rfl fl_X6_16 (by decide) rfl rfl ?_
        refine q_aload_n 128 dX6_check_127 rfl rfl ?_
        refine q_getR 131 dX6_check_128 rfl fl_X6_7 (by decide) rfl rfl ?_
        refine q_callVv 134 dX6_check_131 rfl (c6_setAside _ 33 31 (by decide) (by decide) rfl rfl rfl rfl (by decide)) cw_X6_343 (by decide) rfl rfl ⟨by decide, by decide⟩ ⟨by decide, by decide⟩ (Nat.le_of_ble_eq_true rfl) ?_
        refine q_eqM (M' := mem6 N f f2 (ckD I D i) s) ?_ ?_
        · rw [mem6_31]; exact congrArg (mem6 N f f2 (ckD I D i)) (mix_back2 (A := N 33 0) (S := goN I i) hA (fun q hq => (goN_hi hW (by omega) i).trans (hI q hq)))
        refine q_iconst (v := 0) 135 dX6_check_134 rfl rfl ?_
        refine q_istore 137 dX6_check_135 rfl (by decide) rfl ?_
        rw [eK]
        refine TR_post (q_fg (l6_check2 (mem6 N f f2 (ckD I D i) s) n w i h60 (by omega) I (fun q hq => ckD_at I D i hq) 101 0 0 (by omega) (by omega) rfl) ⟨rfl, rfl, rfl, rfl, rfl, trivial⟩) ?_
        rintro _ _ ⟨rfl, rfl⟩
        exact ⟨rfl, f, f2, _, rfl⟩
      · skip
        replace h_80 : ¬ nI 9999 ≤ nI (sp + i) := by rw [← e2]; exact h_80
        rw [nI_leI (by omega) (by omega)] at h_80
        refine q_aload_n 84 dX6_check_83 rfl rfl ?_
        refine q_callV 87 dX6_check_84 rfl (c6_goesOn _ (goN I i) (by rfl) (9999 + i) hWi (by omega)) cw_X6_179 (by decide) rfl rfl ⟨by decide, by decide⟩ ⟨by decide, by decide⟩ (Nat.le_of_ble_eq_true rfl) ?_
        rintro _ _ ⟨rfl, f3, f4, rfl⟩
        refine q_eqM (M' := mem6 N f3 f4 (ckD I D i) (goN I (i + 1))) (mem6_go N f f2 (ckD I D i) f3 f4 (goN I i) (goN I (i + 1))) ?_
        generalize hG : goN I (i + 1) = G at hWj e0
        refine q_aload_n 88 dX6_check_87 rfl rfl ?_
        refine q_getR 91 dX6_check_88 rfl fl_X6_61 (by decide) rfl rfl ?_
        refine q_iload_n 92 dX6_check_91 rfl rfl ?_
        refine q_aload_n 93 dX6_check_92 rfl rfl ?_
        refine q_getR 96 dX6_check_93 rfl fl_X6_7 (by decide) rfl rfl ?_
        refine q_bipush (v := 6) 98 dX6_check_96 rfl rfl ?_
        refine q_iald 99 dX6_check_98 rfl (by decide) (by decide) rfl (by decide) ?_
        refine q_iast 100 dX6_check_99 rfl (by decide) (by decide) rfl (show 2 * i < 60 by omega) ?_
        refine q_aload_n 101 dX6_check_100 rfl rfl ?_
        refine q_getR 104 dX6_check_101 rfl fl_X6_61 (by decide) rfl rfl ?_
        refine q_iload_n 105 dX6_check_104 rfl rfl ?_
        refine q_iconst (v := 1) 106 dX6_check_105 rfl rfl ?_
        refine q_iadd 107 dX6_check_106 rfl ?_
        refine q_aload_n 108 dX6_check_107 rfl rfl ?_
        refine q_iconst (v := 2) 109 dX6_check_108 rfl rfl ?_
        refine q_callVt 112 dX6_check_109 rfl (c6_sumOf _ _ 2 rfl (by decide) G (by rfl) (nN I) (by rw [e0]; exact hW.1.1) hW.1.2) cw_X6_185 (by decide) rfl rfl ⟨by decide, by decide⟩ ⟨by decide, by decide⟩ (Nat.le_of_ble_eq_true rfl) ?_
        refine q_iast 113 dX6_check_112 rfl (by decide) (by decide) (nI_1 (2 * i)) (show 2 * i + 1 < 60 by omega) ?_
        refine q_iinc 116 dX6_check_113 rfl rfl (by decide) rfl (show nI (2 * i) + nI 2 = nI (2 * (i + 1)) from nI_add _ _) ?_
        refine q_iinc 119 dX6_check_116 rfl rfl (by decide) rfl (nI_1 i) ?_
        refine q_goto 65 dX6_check_119 rfl ?_
        refine q_eqM (M' := mem6 N f3 f4 (ckD I D (i + 1)) G) ?_ ?_
        · rw [mem6_48, mem6_48]; refine congrArg (fun D => mem6 N f3 f4 D G) ?_; show _ = upd (upd _ _ _) _ _; rw [hG]; rfl
        · rw [← hG]
          exact q_fg (ih (i + 1) _ _ f3 f4 (by omega) (by omega) (by omega) rfl rfl) ⟨rfl, rfl, rfl, rfl, rfl, trivial⟩
set_option maxRecDepth 100000 in
set_option maxHeartbeats 4000000 in
theorem c6_check {g : GT} (M : TM) (n : Int32) (w : Nat) (hw : M 6 0 29 = nI w) (h60 : w ≤ 60) (s : SS) (hs : M 31 0 = s) (hI : ¬ M 6 0 3 = 0 → WF 9999 (M 32 0)) : Cn g yX6_check cX6_check 5 (some .int) 9 [.ref (gad g 6 0), .int n] M (fun r M' => r = some (.int (aCheck (M 47 0) (mixF (M 32 0) s 2871) w (M 6 0 3) n)) ∧ ∃ A f f2 D, M' = mem6 (putA (fm M 29 0) 33 0 A) f f2 D s) := by
  refine Cn.ofTR (by decide +kernel) (Nat.le_of_ble_eq_true rfl) ?_
  subst hs
  refine q_aload_n 1 dX6_check_0 rfl rfl ?_
  refine q_getI 4 dX6_check_1 rfl fl_X6_334 (by decide) rfl (by decide) ?_
  refine q_istore_n 5 dX6_check_4 rfl (by decide) rfl ?_
  refine q_aload_n 6 dX6_check_5 rfl rfl ?_
  refine q_iconst (v := 0) 7 dX6_check_6 rfl rfl ?_
  refine q_putI 10 dX6_check_7 rfl fl_X6_334 fp_6_29 (by decide) rfl (by decide) rfl rfl ?_
  refine q_iload_n 11 dX6_check_10 rfl rfl ?_
  refine q_i2l 12 dX6_check_11 rfl ?_
  refine q_lconst (v := 1) 13 dX6_check_12 rfl rfl ?_
  refine q_ldc2 16 dX6_check_13 rfl cl_X6_337 ?_
  refine q_callSt 19 dX6_check_16 rfl (c6_isIn' _ _ (1) (30) _ _) cw_X6_65 rfl rfl ⟨by decide, by decide⟩ ⟨by decide, by decide⟩ (Nat.le_of_ble_eq_true rfl) ?_
  refine q_if_ne 25 22 dX6_check_19 rfl rfl (fun h_19 => ?_) (fun h_19 => ?_)
  · skip
    simp only [bI_0, Classical.not_not] at h_19
    refine q_aload_n 26 dX6_check_25 rfl rfl ?_
    refine q_getI 29 dX6_check_26 rfl fl_X6_339 (by decide) rfl (by decide) ?_
    refine q_if_ne 36 32 dX6_check_29 rfl rfl (fun h_29 => ?_) (fun h_29 => ?_)
    · skip
      replace h_29 : ¬ M 6 0 3 = 0 := h_29
      have hWi := WF_c2 (s' := mixF (M 32 0) (M 31 0) 2871) (fun i hi => mix_lo _ _ hi) (hI h_29)
      obtain ⟨sp, q1, q2⟩ := hWi.2.1
      obtain ⟨en, ln⟩ := rg_tn (x := n) (hi := 30) (n := 30) ⟨Int32.le_trans (by decide) h_19.1, h_19.2⟩ rfl
      refine q_aload_n 37 dX6_check_36 rfl rfl ?_
      refine q_aload_n 38 dX6_check_37 rfl rfl ?_
      refine q_getR 41 dX6_check_38 rfl fl_X6_7 (by decide) rfl rfl ?_
      refine q_aload_n 42 dX6_check_41 rfl rfl ?_
      refine q_getR 45 dX6_check_42 rfl fl_X6_16 (by decide) rfl rfl ?_
      refine q_callVv 48 dX6_check_45 rfl (c6_setAside _ 31 33 (by decide) (by decide) rfl rfl rfl rfl (by decide)) cw_X6_343 (by decide) rfl rfl ⟨by decide, by decide⟩ ⟨by decide, by decide⟩ (Nat.le_of_ble_eq_true rfl) ?_
      refine q_aload_n 49 dX6_check_48 rfl rfl ?_
      refine q_aload_n 50 dX6_check_49 rfl rfl ?_
      refine q_getR 53 dX6_check_50 rfl fl_X6_13 (by decide) rfl rfl ?_
      refine q_aload_n 54 dX6_check_53 rfl rfl ?_
      refine q_getR 57 dX6_check_54 rfl fl_X6_7 (by decide) rfl rfl ?_
      refine q_callVv 60 dX6_check_57 rfl (c6_setAside _ 32 31 (by decide) (by decide) rfl rfl rfl rfl (by decide)) cw_X6_343 (by decide) rfl rfl ⟨by decide, by decide⟩ ⟨by decide, by decide⟩ (Nat.le_of_ble_eq_true rfl) ?_
      refine q_iconst (v := 0) 61 dX6_check_60 rfl rfl ?_
      refine q_istore_n 62 dX6_check_61 rfl (by decide) rfl ?_
      refine q_iconst (v := 0) 63 dX6_check_62 rfl rfl ?_
      refine q_istore 65 dX6_check_63 rfl (by decide) rfl ?_
      have ek : ckK (mixF (M 32 0) (M 31 0) 2871) n = min (tn n) (9999 - sp) := by unfold ckK; rw [q2, show tn (nI sp) = sp from nI_clamp (by omega)]
      unfold aCheck
      rw [if_pos h_19, if_neg h_29, ek]
      refine q_eqM (M' := mem6 (putA (fm M 29 0) 33 0 (mixF (M 31 0) (M 33 0) 2871)) (M 44 0) (M 45 0) (M 48 0) (mixF (M 32 0) (M 31 0) 2871)) ?_ ?_
      · unfold mem6; refine putA_cg2 ?_; exact (mem6_id (putA (fm M 29 0) 33 0 (mixF (M 31 0) (M 33 0) 2871))).symm
      · refine TR_post (q_fg (tl' := [some (Value.ref (gad g 6 0)), some (Value.int n), some (Value.int (nI w)), some (Value.int 0), some (Value.int 0)]) (l6_check1 (putA (fm M 29 0) 33 0 (mixF (M 31 0) (M 33 0) 2871)) n (tn n) w en ln h60 (M 31 0) (mixF (M 32 0) (M 31 0) 2871) sp hWi q2 q1 (fun i hi => mix_lo _ _ hi) (fun i hi => mix_hi _ _ hi) (M 48 0) (tn n + 1) 0 0 0 _ _ (by omega) (by omega) (by omega) rfl rfl) ⟨rfl, rfl, by rw [← hw], rfl, rfl, trivial⟩) ?_
        rintro _ _ ⟨rfl, f, f2, D, rfl⟩
        exact ⟨rfl, _, f, f2, D, rfl⟩
    · skip
      replace h_29 : M 6 0 3 = 0 := h_29
      refine q_ldc_w 35 dX6_check_32 rfl cs_X6_333 ?_
      refine q_iret dX6_check_35 ?_
      unfold aCheck
      rw [if_pos h_19, if_pos h_29]
      exact ⟨rfl, M 33 0, M 44 0, M 45 0, M 48 0, (chk_id M).symm⟩
  · skip
    simp only [bI_0, Classical.not_not] at h_19
    refine q_ldc 24 dX6_check_22 rfl cs_X6_110 ?_
    refine q_iret dX6_check_24 ?_
    unfold aCheck
    rw [if_neg h_19]
    exact ⟨rfl, M 33 0, M 44 0, M 45 0, M 48 0, (chk_id M).symm⟩
