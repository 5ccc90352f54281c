/-! THE CLASS: texts -/
def okS (c : Int32) : Prop := c = 38 ∨ c = 42 ∨ c = 43 ∨ c = 45 ∨ c = 47 ∨ c = 60 ∨ c = 61 ∨ c = 62 ∨ c = 124
theorem lk_def {dflt : Int} {x : Int32} : ∀ (ps : List (Int × Int)) (vs : List Int32), vs.map Int32.toInt = ps.map Prod.fst → (∀ v ∈ vs, ¬ x = v) → Op.lookupswitch.offset ps dflt x.toInt = dflt
  | [], _, _, _ => rfl
  | (a, o) :: r, [], h, _ => by simp at h
  | (a, o) :: r, v :: vs, h, hn => by
    simp only [List.map_cons, List.cons.injEq] at h
    exact (lv_osw (hn v List.mem_cons_self) h.1).trans (lk_def r vs h.2 (fun u hu => hn u (List.mem_cons_of_mem _ hu)))
theorem div_m1 (x : Int32) : x / (-1) = -x := by
  apply Int32.toInt_inj.mp
  rw [Int32.toInt_div, show (-1 : Int32).toInt = -1 from rfl, Int.tdiv_neg, Int.tdiv_one, Int32.toInt_neg]
theorem div_c {x y : Int32} (h : ¬ y = 0) : x / y = (if y = 0 then 0 else if y = -1 then -x else x / y) := by
  rw [if_neg h]
  by_cases hy : y = -1
  · rw [if_pos hy, hy, div_m1]
  · rw [if_neg hy]
theorem nI_m11 (h : Nat) : nI h - 1 + 1 = nI h := Int32.sub_add_cancel _ _
theorem nI_m12 {h : Nat} (h2 : 2 ≤ h) : nI h - 1 + (-1) = nI (h - 2) := by
  rw [ix_pre (by omega), ix_m1 (by omega)]; rfl
set_option maxRecDepth 100000 in
set_option maxHeartbeats 4000000 in
theorem c3_joined {g : GT} (M : TM) (c x y : Int32) (hc : okS c) : Cn g yX3_joined cX3_joined 3 (some .int) 0 [.int c, .int x, .int y] M (Rt (.int (joF c x y)) M) := by
  refine Cn.ofTR (by decide +kernel) (Nat.le_of_ble_eq_true rfl) ?_
  refine q_iload_n 1 dX3_joined_0 rfl rfl ?_
  by_cases hs_1_38 : c = (38 : Int32)
  · skip
    refine q_lookup 141 dX3_joined_1 (by decide) (lk_eq hs_1_38 rfl) rfl ?_
    refine q_iload_n 142 dX3_joined_141 rfl rfl ?_
    refine q_if_eq 153 145 dX3_joined_142 rfl rfl (fun h_142 => ?_) (fun h_142 => ?_)
    · skip
      refine q_iconst (v := 0) 154 dX3_joined_153 rfl rfl ?_
      refine q_iret dX3_joined_154 ?_
      refine ⟨congrArg (fun x => some (Value.int x)) ?_, rfl⟩
      try simp only [← Int32.not_lt, ← Int64.not_lt] at *
      unfold joF
      simp_all [bI, -Int32.not_lt, -Int64.not_lt, -Int32.not_le, -Int64.not_le]
    · skip
      refine q_iload_n 146 dX3_joined_145 rfl rfl ?_
      refine q_if_eq 153 149 dX3_joined_146 rfl rfl (fun h_146 => ?_) (fun h_146 => ?_)
      · skip
        refine q_iconst (v := 0) 154 dX3_joined_153 rfl rfl ?_
        refine q_iret dX3_joined_154 ?_
        refine ⟨congrArg (fun x => some (Value.int x)) ?_, rfl⟩
        try simp only [← Int32.not_lt, ← Int64.not_lt] at *
        unfold joF
        simp_all [bI, -Int32.not_lt, -Int64.not_lt, -Int32.not_le, -Int64.not_le]
      · skip
        refine q_iconst (v := 1) 150 dX3_joined_149 rfl rfl ?_
        refine q_goto 154 dX3_joined_150 rfl ?_
        refine q_iret dX3_joined_154 ?_
        refine ⟨congrArg (fun x => some (Value.int x)) ?_, rfl⟩
        try simp only [← Int32.not_lt, ← Int64.not_lt] at *
        unfold joF
        simp_all [bI, -Int32.not_lt, -Int64.not_lt, -Int32.not_le, -Int64.not_le]
  by_cases hs_1_42 : c = (42 : Int32)
  · skip
    refine q_lookup 92 dX3_joined_1 (by decide) (lk_eq hs_1_42 rfl) rfl ?_
    refine q_iload_n 93 dX3_joined_92 rfl rfl ?_
    refine q_iload_n 94 dX3_joined_93 rfl rfl ?_
    refine q_imul 95 dX3_joined_94 rfl ?_
    refine q_iret dX3_joined_95 ?_
    refine ⟨congrArg (fun x => some (Value.int x)) ?_, rfl⟩
    try simp only [← Int32.not_lt, ← Int64.not_lt] at *
    unfold joF
    simp_all [bI, -Int32.not_lt, -Int64.not_lt, -Int32.not_le, -Int64.not_le]
  by_cases hs_1_43 : c = (43 : Int32)
  · skip
    refine q_lookup 84 dX3_joined_1 (by decide) (lk_eq hs_1_43 rfl) rfl ?_
    refine q_iload_n 85 dX3_joined_84 rfl rfl ?_
    refine q_iload_n 86 dX3_joined_85 rfl rfl ?_
    refine q_iadd 87 dX3_joined_86 rfl ?_
    refine q_iret dX3_joined_87 ?_
    refine ⟨congrArg (fun x => some (Value.int x)) ?_, rfl⟩
    try simp only [← Int32.not_lt, ← Int64.not_lt] at *
    unfold joF
    simp_all [bI, -Int32.not_lt, -Int64.not_lt, -Int32.not_le, -Int64.not_le]
  by_cases hs_1_45 : c = (45 : Int32)
  · skip
    refine q_lookup 88 dX3_joined_1 (by decide) (lk_eq hs_1_45 rfl) rfl ?_
    refine q_iload_n 89 dX3_joined_88 rfl rfl ?_
    refine q_iload_n 90 dX3_joined_89 rfl rfl ?_
    refine q_isub 91 dX3_joined_90 rfl ?_
    refine q_iret dX3_joined_91 ?_
    refine ⟨congrArg (fun x => some (Value.int x)) ?_, rfl⟩
    try simp only [← Int32.not_lt, ← Int64.not_lt] at *
    unfold joF
    simp_all [bI, -Int32.not_lt, -Int64.not_lt, -Int32.not_le, -Int64.not_le]
  by_cases hs_1_47 : c = (47 : Int32)
  · skip
    refine q_lookup 96 dX3_joined_1 (by decide) (lk_eq hs_1_47 rfl) rfl ?_
    refine q_iload_n 97 dX3_joined_96 rfl rfl ?_
    refine q_if_ne 104 100 dX3_joined_97 rfl rfl (fun h_97 => ?_) (fun h_97 => ?_)
    · skip
      refine q_iload_n 105 dX3_joined_104 rfl rfl ?_
      refine q_iload_n 106 dX3_joined_105 rfl rfl ?_
      refine q_idiv 107 dX3_joined_106 rfl h_97 ?_
      refine q_iret dX3_joined_107 ?_
      refine ⟨congrArg (fun x => some (Value.int x)) ?_, rfl⟩
      subst hs_1_47
      show _ = (if y = 0 then 0 else if y = -1 then -x else x / y)
      first | (have hq := h_97; rw [if_pos hq]; done) | exact div_c h_97
    · skip
      refine q_iconst (v := 0) 101 dX3_joined_100 rfl rfl ?_
      refine q_goto 107 dX3_joined_101 rfl ?_
      refine q_iret dX3_joined_107 ?_
      refine ⟨congrArg (fun x => some (Value.int x)) ?_, rfl⟩
      subst hs_1_47
      show _ = (if y = 0 then 0 else if y = -1 then -x else x / y)
      first | (have hq := h_97; rw [if_pos hq]; done) | exact div_c h_97
  by_cases hs_1_60 : c = (60 : Int32)
  · skip
    refine q_lookup 108 dX3_joined_1 (by decide) (lk_eq hs_1_60 rfl) rfl ?_
    refine q_iload_n 109 dX3_joined_108 rfl rfl ?_
    refine q_iload_n 110 dX3_joined_109 rfl rfl ?_
    refine q_icmp_ge 117 113 dX3_joined_110 rfl rfl (fun h_110 => ?_) (fun h_110 => ?_)
    · skip
      refine q_iconst (v := 0) 118 dX3_joined_117 rfl rfl ?_
      refine q_iret dX3_joined_118 ?_
      refine ⟨congrArg (fun x => some (Value.int x)) ?_, rfl⟩
      try simp only [← Int32.not_lt, ← Int64.not_lt] at *
      unfold joF
      simp_all [bI, -Int32.not_lt, -Int64.not_lt, -Int32.not_le, -Int64.not_le]
    · skip
      refine q_iconst (v := 1) 114 dX3_joined_113 rfl rfl ?_
      refine q_goto 118 dX3_joined_114 rfl ?_
      refine q_iret dX3_joined_118 ?_
      refine ⟨congrArg (fun x => some (Value.int x)) ?_, rfl⟩
      try simp only [← Int32.not_lt, ← Int64.not_lt] at *
      unfold joF
      simp_all [bI, -Int32.not_lt, -Int64.not_lt, -Int32.not_le, -Int64.not_le]
  by_cases hs_1_61 : c = (61 : Int32)
  · skip
    refine q_lookup 119 dX3_joined_1 (by decide) (lk_eq hs_1_61 rfl) rfl ?_
    refine q_iload_n 120 dX3_joined_119 rfl rfl ?_
    refine q_iload_n 121 dX3_joined_120 rfl rfl ?_
    refine q_icmp_ne 128 124 dX3_joined_121 rfl rfl (fun h_121 => ?_) (fun h_121 => ?_)
    · skip
      refine q_iconst (v := 0) 129 dX3_joined_128 rfl rfl ?_
      refine q_iret dX3_joined_129 ?_
      refine ⟨congrArg (fun x => some (Value.int x)) ?_, rfl⟩
      try simp only [← Int32.not_lt, ← Int64.not_lt] at *
      unfold joF
      simp_all [bI, -Int32.not_lt, -Int64.not_lt, -Int32.not_le, -Int64.not_le]
    · skip
      refine q_iconst (v := 1) 125 dX3_joined_124 rfl rfl ?_
      refine q_goto 129 dX3_joined_125 rfl ?_
      refine q_iret dX3_joined_129 ?_
      refine ⟨congrArg (fun x => some (Value.int x)) ?_, rfl⟩
      try simp only [← Int32.not_lt, ← Int64.not_lt] at *
      unfold joF
      simp_all [bI, -Int32.not_lt, -Int64.not_lt, -Int32.not_le, -Int64.not_le]
  by_cases hs_1_62 : c = (62 : Int32)
  · skip
    refine q_lookup 130 dX3_joined_1 (by decide) (lk_eq hs_1_62 rfl) rfl ?_
    refine q_iload_n 131 dX3_joined_130 rfl rfl ?_
    refine q_iload_n 132 dX3_joined_131 rfl rfl ?_
    refine q_icmp_le 139 135 dX3_joined_132 rfl rfl (fun h_132 => ?_) (fun h_132 => ?_)
    · skip
      refine q_iconst (v := 0) 140 dX3_joined_139 rfl rfl ?_
      refine q_iret dX3_joined_140 ?_
      refine ⟨congrArg (fun x => some (Value.int x)) ?_, rfl⟩
      try simp only [← Int32.not_lt, ← Int64.not_lt] at *
      unfold joF
      simp_all [bI, -Int32.not_lt, -Int64.not_lt, -Int32.not_le, -Int64.not_le]
    · skip
      refine q_iconst (v := 1) 136 dX3_joined_135 rfl rfl ?_
      refine q_goto 140 dX3_joined_136 rfl ?_
      refine q_iret dX3_joined_140 ?_
      refine ⟨congrArg (fun x => some (Value.int x)) ?_, rfl⟩
      try simp only [← Int32.not_lt, ← Int64.not_lt] at *
      unfold joF
      simp_all [bI, -Int32.not_lt, -Int64.not_lt, -Int32.not_le, -Int64.not_le]
  by_cases hs_1_124 : c = (124 : Int32)
  · skip
    refine q_lookup 155 dX3_joined_1 (by decide) (lk_eq hs_1_124 rfl) rfl ?_
    refine q_iload_n 156 dX3_joined_155 rfl rfl ?_
    refine q_if_ne 163 159 dX3_joined_156 rfl rfl (fun h_156 => ?_) (fun h_156 => ?_)
    · skip
      refine q_iconst (v := 1) 164 dX3_joined_163 rfl rfl ?_
      refine q_goto 168 dX3_joined_164 rfl ?_
      refine q_iret dX3_joined_168 ?_
      refine ⟨congrArg (fun x => some (Value.int x)) ?_, rfl⟩
      try simp only [← Int32.not_lt, ← Int64.not_lt] at *
      unfold joF
      simp_all [bI, -Int32.not_lt, -Int64.not_lt, -Int32.not_le, -Int64.not_le]
    · skip
      refine q_iload_n 160 dX3_joined_159 rfl rfl ?_
      refine q_if_eq 167 163 dX3_joined_160 rfl rfl (fun h_160 => ?_) (fun h_160 => ?_)
      · skip
        refine q_iconst (v := 0) 168 dX3_joined_167 rfl rfl ?_
        refine q_iret dX3_joined_168 ?_
        refine ⟨congrArg (fun x => some (Value.int x)) ?_, rfl⟩
        try simp only [← Int32.not_lt, ← Int64.not_lt] at *
        unfold joF
        simp_all [bI, -Int32.not_lt, -Int64.not_lt, -Int32.not_le, -Int64.not_le]
      · skip
        refine q_iconst (v := 1) 164 dX3_joined_163 rfl rfl ?_
        refine q_goto 168 dX3_joined_164 rfl ?_
        refine q_iret dX3_joined_168 ?_
        refine ⟨congrArg (fun x => some (Value.int x)) ?_, rfl⟩
        try simp only [← Int32.not_lt, ← Int64.not_lt] at *
        unfold joF
        simp_all [bI, -Int32.not_lt, -Int64.not_lt, -Int32.not_le, -Int64.not_le]
  refine q_lookup 169 dX3_joined_1 (by decide) (lk_def _ [38, 42, 43, 45, 47, 60, 61, 62, 124] rfl (by simp only [List.forall_mem_cons]; exact ⟨hs_1_38, hs_1_42, hs_1_43, hs_1_45, hs_1_47, hs_1_60, hs_1_61, hs_1_62, hs_1_124, fun _ h => absurd h List.not_mem_nil⟩)) rfl ?_
  refine q_iconst (v := 0) 170 dX3_joined_169 rfl rfl ?_
  refine q_iret dX3_joined_170 ?_
  exfalso
  unfold okS at hc
  simp_all
def nmE (key v : Int32) : Int32 := if key = 0 then (if v = 105 then -1 else if v = 100 then -2 else if v = 99 then -3 else -4) else if key = 1 then (if v = 115 then -1 else -2) else (if v = 105 then -1 else -2)
def enF (key what v : Int32) : Int32 := if what = 2 then -v else if what = 0 then v else nmE key v
def wfN (s : SS) (t : Nat) : Prop := ∀ k, k < tn (s (73 + 200 * t)) → (s (75 + 200 * t + 2 * k) = 2 → s (75 + 200 * t + 2 * k + 1) ≠ 33 → okS (s (75 + 200 * t + 2 * k + 1))) ∧ (s (75 + 200 * t + 2 * k) = 0 → 0 ≤ s (75 + 200 * t + 2 * k + 1))
/-- the class's texts are those of s -/
def RT (M : TM) (s : SS) : Prop := ∀ t, t < nT s → M 14 0 t = s (73 + 200 * t) ∧ M 15 0 t = s (71 + 200 * t) ∧ M 16 0 t = s (72 + 200 * t) ∧ wfN s t ∧ ∀ k, k < tn (s (73 + 200 * t)) → M 13 t k = enF (s (71 + 200 * t)) (s (75 + 200 * t + 2 * k)) (s (75 + 200 * t + 2 * k + 1))
def pkF (x a b c d : Int32) : Int32 := if x = -4 then d else if x = -3 then c else if x = -2 then b else if x = -1 then a else x
def nmO (key : Int32) (nm : Int32 → Int32) (a b c d : Int32) : Prop := ∀ v, okN key v → nm (nI v) = pkF (nmE key (nI v)) a b c d
theorem nmE_4 (key v : Int32) : nmE key v = -1 ∨ nmE key v = -2 ∨ nmE key v = -3 ∨ nmE key v = -4 := by
  unfold nmE
  repeat' split
  all_goals simp
theorem push_ok {key what v a b c d : Int32} {nm : Int32 → Int32} (h2 : what ≠ 2) (h0 : what = 0 → 0 ≤ v) (hn : what ≠ 0 → ∃ c, c < 128 ∧ v = nI c ∧ okN key c) (hm : nmO key nm a b c d) : (if what = 0 then v else nm v) = pkF (enF key what v) a b c d := by
  unfold enF
  rw [if_neg h2]
  by_cases e : what = 0
  · rw [if_pos e, if_pos e]
    have hv := h0 e
    have : ∀ z : Int32, z < 0 → v ≠ z := fun z hz q => absurd hz (by subst q; exact Int32.not_lt.mpr hv)
    unfold pkF
    rw [if_neg (this _ (by decide)), if_neg (this _ (by decide)), if_neg (this _ (by decide)), if_neg (this _ (by decide))]
  · rw [if_neg e, if_neg e]
    obtain ⟨w, -, rfl, hw⟩ := hn e
    exact hm w hw
theorem push_ge {key what v : Int32} (h2 : what ≠ 2) (h0 : what = 0 → 0 ≤ v) : ¬ enF key what v < -4 := by
  unfold enF
  rw [if_neg h2]
  by_cases e : what = 0
  · rw [if_pos e]; exact Int32.not_lt.mpr (Int32.le_trans (by decide) (h0 e))
  · rw [if_neg e]
    rcases nmE_4 key v with h | h | h | h <;> rw [h] <;> decide
theorem okS_lt {c : Int32} (h : okS c) : -c < -4 ∧ ¬ -c = -33 := by
  unfold okS at h
  rcases h with h | h | h | h | h | h | h | h | h <;> rw [h] <;> decide
theorem pil_push {nm : Int32 → Int32} {s : SS} {b k : Nat} {p : Nat → Int32} (h : ¬ s (b + 2 * k) = 2) : pil nm s b p (k + 1) = upd (pil nm s b p k) (hgt s b k) (if s (b + 2 * k) = 0 then s (b + 2 * k + 1) else nm (s (b + 2 * k + 1))) := by
  show (if _ then _ else _) = _
  rw [if_neg h]
theorem pil_not {nm : Int32 → Int32} {s : SS} {b k : Nat} {p : Nat → Int32} (h : s (b + 2 * k) = 2) (h3 : s (b + 2 * k + 1) = 33) : pil nm s b p (k + 1) = upd (pil nm s b p k) (hgt s b k - 1) (if pil nm s b p k (hgt s b k - 1) = 0 then 1 else 0) := by
  show (if _ then _ else _) = _
  rw [if_pos h, if_pos h3]
theorem pil_join {nm : Int32 → Int32} {s : SS} {b k : Nat} {p : Nat → Int32} (h : s (b + 2 * k) = 2) (h3 : ¬ s (b + 2 * k + 1) = 33) : pil nm s b p (k + 1) = upd (pil nm s b p k) (hgt s b k - 2) (joF (s (b + 2 * k + 1)) (pil nm s b p k (hgt s b k - 2)) (pil nm s b p k (hgt s b k - 1))) := by
  show (if _ then _ else _) = _
  rw [if_pos h, if_neg h3]
theorem hgt_push {s : SS} {b k : Nat} (h : ¬ s (b + 2 * k) = 2) : hgt s b (k + 1) = hgt s b k + 1 := by
  show (if _ then _ else _) = _
  rw [if_neg h]
theorem hgt_not {s : SS} {b k : Nat} (h : s (b + 2 * k) = 2) (h3 : s (b + 2 * k + 1) = 33) : hgt s b (k + 1) = hgt s b k := by
  show (if _ then _ else _) = _
  rw [if_pos h, if_pos h3]
theorem hgt_join {s : SS} {b k : Nat} (h : s (b + 2 * k) = 2) (h3 : ¬ s (b + 2 * k + 1) = 33) : hgt s b (k + 1) = hgt s b k - 1 := by
  show (if _ then _ else _) = _
  rw [if_pos h, if_neg h3]
set_option maxRecDepth 100000 in
set_option maxHeartbeats 4000000 in
theorem l3_gives {g : GT} (M : TM) (x a b c d : Int32) (t m : Nat) (s : SS) (hx : x = nI t) (h14 : t < 14) (hm : s (73 + 200 * t) = nI m) (hm96 : m ≤ 96) (h1 : hgt s (75 + 200 * t) m = 1) (hwS : wfS s (s (71 + 200 * t)) (75 + 200 * t) m) (hwN : wfN s t) (hsz : M 14 0 t = nI m) (hst : ∀ k, k < m → M 13 t k = enF (s (71 + 200 * t)) (s (75 + 200 * t + 2 * k)) (s (75 + 200 * t + 2 * k + 1))) (nm : Int32 → Int32) (hnm : nmO (s (71 + 200 * t)) nm a b c d) : ∀ (j : Nat) (k : Nat) (y : Int32), m - k < j → k ≤ m → y = nI (hgt s (75 + 200 * t) k) - 1 → TR g (rmD 1) RX3 cX3_gives 9 (some .int) 0 0 (Zm g (fun r M' => r = some (.int (vaT nm s t)) ∧ ∃ p, M' = putA M 17 0 p)) 18 [some (.ref (gad g 3 0)), some (.int x), some (.int a), some (.int b), some (.int c), some (.int d), some (.int y), some (.int (nI k)), none] [] (putA M 17 0 (pil nm s (75 + 200 * t) (M 17 0) k)) := by
  intro j
  induction j with
  | zero => intro k y hj hk hy; exact absurd hj (by omega)
  | succ j ih =>
    intro k y hj hk hy
    subst hy
    refine q_iload 20 dX3_gives_18 rfl rfl ?_
    refine q_aload_n 21 dX3_gives_20 rfl rfl ?_
    refine q_getR 24 dX3_gives_21 rfl fl_X3_16 (by decide) rfl rfl ?_
    refine q_iload_n 25 dX3_gives_24 rfl rfl ?_
    refine q_iald 26 dX3_gives_25 rfl (by decide) (by decide) hx h14 ?_
    refine q_icmp_ge 235 29 dX3_gives_26 rfl rfl (fun h_26 => ?_) (fun h_26 => ?_)
    · skip
      have hkm : k = m := by
        rw [show (putA M 17 0 (pil nm s (75 + 200 * t) (M 17 0) k)) 14 0 t = nI m from hsz, nI_leI (by omega) (by omega)] at h_26
        omega
      subst hkm
      refine q_iload 237 dX3_gives_235 rfl rfl ?_
      refine q_if_ge 244 240 dX3_gives_237 rfl rfl (fun _ => ?_) (fun h_237 => absurd (by rw [h1]; decide) h_237)
      refine q_aload_n 245 dX3_gives_244 rfl rfl ?_
      refine q_getR 248 dX3_gives_245 rfl fl_X3_26 (by decide) rfl rfl ?_
      refine q_iload 250 dX3_gives_248 rfl rfl ?_
      refine q_iald 251 dX3_gives_250 rfl (by decide) (by decide) (show _ = nI 0 by rw [h1]; rfl) (by decide) ?_
      refine q_iret dX3_gives_251 ?_
      refine ⟨congrArg (fun x => some (Value.int x)) ?_, _, rfl⟩
      rw [putA_s]
      unfold vaT
      rw [hm, nI_clamp (by omega)]
      exact pil_eq hwS (fun _ _ => rfl) k (by omega) 0 (by omega)
    · skip
      have hlm : k < m := by
        have := Int32.not_le.mp h_26
        rw [show (putA M 17 0 (pil nm s (75 + 200 * t) (M 17 0) k)) 14 0 t = nI m from hsz, nI_ltI (by omega) (by omega)] at this
        exact this
      refine q_iload 31 dX3_gives_29 rfl rfl ?_
      refine q_bipush (v := 96) 33 dX3_gives_31 rfl rfl ?_
      refine q_icmp_ge 235 36 dX3_gives_33 rfl rfl (fun h_33 => absurd h_33 (by rw [show (96 : Int32) = nI 96 from rfl, nI_leI (by omega) (by omega)]; omega)) (fun _ => ?_)
      refine q_aload_n 37 dX3_gives_36 rfl rfl ?_
      refine q_getR 40 dX3_gives_37 rfl fl_X3_11 (by decide) rfl rfl ?_
      refine q_iload_n 41 dX3_gives_40 rfl rfl ?_
      refine q_aald9 42 dX3_gives_41 rfl hx h14 ?_
      refine q_iload 44 dX3_gives_42 rfl rfl ?_
      refine q_iald 45 dX3_gives_44 rfl (by decide) (show t < 14 from h14) rfl (show k < 96 by omega) ?_
      refine q_istore 47 dX3_gives_45 rfl (by decide) rfl ?_
      rw [show (putA M 17 0 (pil nm s (75 + 200 * t) (M 17 0) k)) 13 t k = enF (s (71 + 200 * t)) (s (75 + 200 * t + 2 * k)) (s (75 + 200 * t + 2 * k + 1)) from hst k hlm]
      have hle := hgt_le s (75 + 200 * t) k
      have hh96 : hgt s (75 + 200 * t) k < 96 := by omega
      obtain ⟨g1, g2⟩ := hwS k (by omega)
      obtain ⟨n1, n2⟩ := hwN k (by show k < (s (73 + 200 * t)).toNatClampNeg; rw [hm, nI_clamp (by omega)]; omega)
      by_cases e2 : s ((75 + 200 * t) + 2 * k) = 2
      · by_cases e3 : s ((75 + 200 * t) + 2 * k + 1) = 33
        · have hh := g1 e2
          rw [if_pos e3] at hh
          rw [show enF (s (71 + 200 * t)) (s (75 + 200 * t + 2 * k)) (s (75 + 200 * t + 2 * k + 1)) = -33 by rw [enF, if_pos e2, e3]]
          refine q_iload 49 dX3_gives_47 rfl rfl ?_
          refine q_bipush (v := (-4)) 51 dX3_gives_49 rfl rfl ?_
          refine q_icmp_lt 154 54 dX3_gives_51 rfl rfl (fun _ => ?_) (fun h_51 => absurd (by decide) h_51)
          refine q_iload 156 dX3_gives_154 rfl rfl ?_
          refine q_bipush (v := (-33)) 158 dX3_gives_156 rfl rfl ?_
          refine q_icmp_ne 191 161 dX3_gives_158 rfl rfl (fun h_158 => absurd rfl h_158) (fun _ => ?_)
          refine q_iload 163 dX3_gives_161 rfl rfl ?_
          refine q_if_lt 191 166 dX3_gives_163 rfl rfl (fun h_163 => absurd h_163 (by rw [ix_pre hh]; exact nI_pos (by omega))) (fun _ => ?_)
          refine q_aload_n 167 dX3_gives_166 rfl rfl ?_
          refine q_getR 170 dX3_gives_167 rfl fl_X3_26 (by decide) rfl rfl ?_
          refine q_iload 172 dX3_gives_170 rfl rfl ?_
          refine q_aload_n 173 dX3_gives_172 rfl rfl ?_
          refine q_getR 176 dX3_gives_173 rfl fl_X3_26 (by decide) rfl rfl ?_
          refine q_iload 178 dX3_gives_176 rfl rfl ?_
          refine q_iald 179 dX3_gives_178 rfl (by decide) (by decide) (ix_pre hh) (show hgt s (75 + 200 * t) k - 1 < 96 by omega) ?_
          refine q_if_ne 186 182 dX3_gives_179 rfl rfl (fun h_179 => ?_) (fun h_179 => ?_)
          · skip
            refine q_iconst (v := 0) 187 dX3_gives_186 rfl rfl ?_
            refine q_iast 188 dX3_gives_187 rfl (by decide) (by decide) (ix_pre hh) (show hgt s (75 + 200 * t) k - 1 < 96 by omega) ?_
            refine q_goto 229 dX3_gives_188 rfl ?_
            refine q_iinc 232 dX3_gives_229 rfl rfl (by decide) rfl (nI_1 k) ?_
            refine q_goto 18 dX3_gives_232 rfl ?_
            refine q_eqM (M' := putA M 17 0 (pil nm s (75 + 200 * t) (M 17 0) (k + 1))) (by rw [putA_pp, putA_s, pil_not e2 e3]; rw [putA_s] at h_179; first | (have hq := h_179; rw [if_pos hq]; done) | (have hq := h_179; rw [if_neg hq]; done)) (q_fg (ih (k + 1) _ (by omega) (by omega) ?_) ⟨rfl, rfl, rfl, rfl, rfl, rfl, rfl, rfl, trivial⟩)
            rw [hgt_not e2 e3]
          · skip
            refine q_iconst (v := 1) 183 dX3_gives_182 rfl rfl ?_
            refine q_goto 187 dX3_gives_183 rfl ?_
            refine q_iast 188 dX3_gives_187 rfl (by decide) (by decide) (ix_pre hh) (show hgt s (75 + 200 * t) k - 1 < 96 by omega) ?_
            refine q_goto 229 dX3_gives_188 rfl ?_
            refine q_iinc 232 dX3_gives_229 rfl rfl (by decide) rfl (nI_1 k) ?_
            refine q_goto 18 dX3_gives_232 rfl ?_
            refine q_eqM (M' := putA M 17 0 (pil nm s (75 + 200 * t) (M 17 0) (k + 1))) (by rw [putA_pp, putA_s, pil_not e2 e3]; rw [putA_s] at h_179; first | (have hq := h_179; rw [if_pos hq]; done) | (have hq := h_179; rw [if_neg hq]; done)) (q_fg (ih (k + 1) _ (by omega) (by omega) ?_) ⟨rfl, rfl, rfl, rfl, rfl, rfl, rfl, rfl, trivial⟩)
            rw [hgt_not e2 e3]
        · have hh := g1 e2
          rw [if_neg e3] at hh
          have hok := n1 e2 e3
          rw [show enF (s (71 + 200 * t)) (s (75 + 200 * t + 2 * k)) (s (75 + 200 * t + 2 * k + 1)) = -(s (75 + 200 * t + 2 * k + 1)) by rw [enF, if_pos e2]]
          refine q_iload 49 dX3_gives_47 rfl rfl ?_
          refine q_bipush (v := (-4)) 51 dX3_gives_49 rfl rfl ?_
          refine q_icmp_lt 154 54 dX3_gives_51 rfl rfl (fun _ => ?_) (fun h_51 => absurd (okS_lt hok).1 h_51)
          refine q_iload 156 dX3_gives_154 rfl rfl ?_
          refine q_bipush (v := (-33)) 158 dX3_gives_156 rfl rfl ?_
          refine q_icmp_ne 191 161 dX3_gives_158 rfl rfl (fun _ => ?_) (fun h_158 => absurd h_158 (okS_lt hok).2)
          refine q_iload 193 dX3_gives_191 rfl rfl ?_
          refine q_iconst (v := 1) 194 dX3_gives_193 rfl rfl ?_
          refine q_icmp_lt 229 197 dX3_gives_194 rfl rfl (fun h_194 => absurd h_194 (by rw [ix_pre (by omega), show (1 : Int32) = nI 1 from rfl, nI_ltI (by omega) (by omega)]; omega)) (fun _ => ?_)
          refine q_iinc 200 dX3_gives_197 rfl rfl (by decide) rfl (nI_m12 hh) ?_
          refine q_aload_n 201 dX3_gives_200 rfl rfl ?_
          refine q_getR 204 dX3_gives_201 rfl fl_X3_26 (by decide) rfl rfl ?_
          refine q_iload 206 dX3_gives_204 rfl rfl ?_
          refine q_iload 208 dX3_gives_206 rfl rfl ?_
          refine q_ineg 209 dX3_gives_208 rfl ?_
          rw [Int32.neg_neg]
          refine q_aload_n 210 dX3_gives_209 rfl rfl ?_
          refine q_getR 213 dX3_gives_210 rfl fl_X3_26 (by decide) rfl rfl ?_
          refine q_iload 215 dX3_gives_213 rfl rfl ?_
          refine q_iald 216 dX3_gives_215 rfl (by decide) (by decide) rfl (show hgt s (75 + 200 * t) k - 2 < 96 by omega) ?_
          refine q_aload_n 217 dX3_gives_216 rfl rfl ?_
          refine q_getR 220 dX3_gives_217 rfl fl_X3_26 (by decide) rfl rfl ?_
          refine q_iload 222 dX3_gives_220 rfl rfl ?_
          refine q_iconst (v := 1) 223 dX3_gives_222 rfl rfl ?_
          refine q_iadd 224 dX3_gives_223 rfl ?_
          refine q_iald 225 dX3_gives_224 rfl (by decide) (by decide) (show nI (hgt s (75 + 200 * t) k - 2) + 1 = nI (hgt s (75 + 200 * t) k - 1) by rw [nI_1]; congr 1; omega) (show hgt s (75 + 200 * t) k - 1 < 96 by omega) ?_
          refine q_callSt 228 dX3_gives_225 rfl (c3_joined _ _ _ _ hok) cw_X3_50 rfl rfl ⟨by decide, by decide⟩ ⟨by decide, by decide⟩ (Nat.le_of_ble_eq_true rfl) ?_
          refine q_iast 229 dX3_gives_228 rfl (by decide) (by decide) rfl (show hgt s (75 + 200 * t) k - 2 < 96 by omega) ?_
          refine q_iinc 232 dX3_gives_229 rfl rfl (by decide) rfl (nI_1 k) ?_
          refine q_goto 18 dX3_gives_232 rfl ?_
          refine q_eqM (M' := putA M 17 0 (pil nm s (75 + 200 * t) (M 17 0) (k + 1))) (by rw [putA_pp, putA_s, pil_join e2 e3]) (q_fg (ih (k + 1) _ (by omega) (by omega) ?_) ⟨rfl, rfl, rfl, rfl, rfl, rfl, rfl, rfl, trivial⟩)
          rw [hgt_join e2 e3, ix_pre (by omega)]; rfl
      · have hn0 : s (75 + 200 * t + 2 * k) = 0 → 0 ≤ s (75 + 200 * t + 2 * k + 1) := n2
        have hpv := push_ok (a := a) (b := b) (c := c) (d := d) e2 n2 (fun q => g2 e2 q) hnm
        have hlt : ¬ nI 95 ≤ nI (hgt s (75 + 200 * t) k) - 1 := by
          by_cases h0 : hgt s (75 + 200 * t) k = 0
          · rw [h0]; decide
          · rw [ix_pre (by omega), nI_leI (by omega) (by omega)]; omega
        refine q_iload 49 dX3_gives_47 rfl rfl ?_
        refine q_bipush (v := (-4)) 51 dX3_gives_49 rfl rfl ?_
        refine q_icmp_lt 154 54 dX3_gives_51 rfl rfl (fun h_51 => absurd h_51 (push_ge e2 hn0)) (fun _ => ?_)
        refine q_iload 56 dX3_gives_54 rfl rfl ?_
        refine q_bipush (v := 95) 58 dX3_gives_56 rfl rfl ?_
        refine q_icmp_ge 154 61 dX3_gives_58 rfl rfl (fun h_58 => absurd h_58 (by rw [show (95 : Int32) = nI 96 - 1 from rfl, ix_pre (h := 96) (by decide)]; exact hlt)) (fun _ => ?_)
        refine q_iinc 64 dX3_gives_61 rfl rfl (by decide) rfl (nI_m11 _) ?_
        refine q_iload 66 dX3_gives_64 rfl rfl ?_
        by_cases hs_66_m4 : (enF (s (71 + 200 * t)) (s ((75 + 200 * t) + 2 * k)) (s ((75 + 200 * t) + 2 * k + 1))) = (-4 : Int32)
        · skip
          refine q_tab 130 dX3_gives_66 rfl (sw_eq hs_66_m4 rfl) rfl ?_
          refine q_aload_n 131 dX3_gives_130 rfl rfl ?_
          refine q_getR 134 dX3_gives_131 rfl fl_X3_26 (by decide) rfl rfl ?_
          refine q_iload 136 dX3_gives_134 rfl rfl ?_
          refine q_iload 138 dX3_gives_136 rfl rfl ?_
          refine q_iast 139 dX3_gives_138 rfl (by decide) (by decide) rfl hh96 ?_
          refine q_goto 229 dX3_gives_139 rfl ?_
          refine q_iinc 232 dX3_gives_229 rfl rfl (by decide) rfl (nI_1 k) ?_
          refine q_goto 18 dX3_gives_232 rfl ?_
          refine q_eqM (M' := putA M 17 0 (pil nm s (75 + 200 * t) (M 17 0) (k + 1))) (by rw [putA_pp, putA_s, pil_push e2, hpv]; unfold pkF; first | (have hq := hs_66_m1; first | (rw [if_neg hs_66_m4, if_neg hs_66_m3, if_neg hs_66_m2, if_neg hs_66_m1]; done) | (rw [if_neg hs_66_m4, if_neg hs_66_m3, if_neg hs_66_m2, if_pos hs_66_m1]; done)) | (have hq := hs_66_m2; rw [if_neg hs_66_m4, if_neg hs_66_m3, if_pos hq]; done) | (have hq := hs_66_m3; rw [if_neg hs_66_m4, if_pos hq]; done) | (have hq := hs_66_m4; rw [if_pos hq]; done)) (q_fg (ih (k + 1) _ (by omega) (by omega) ?_) ⟨rfl, rfl, rfl, rfl, rfl, rfl, rfl, rfl, trivial⟩)
          rw [hgt_push e2]; exact (ix_pre (h := hgt s (75 + 200 * t) k + 1) (Nat.le_add_left 1 _)).symm
        by_cases hs_66_m3 : (enF (s (71 + 200 * t)) (s ((75 + 200 * t) + 2 * k)) (s ((75 + 200 * t) + 2 * k + 1))) = (-3 : Int32)
        · skip
          refine q_tab 118 dX3_gives_66 rfl (sw_eq hs_66_m3 rfl) rfl ?_
          refine q_aload_n 119 dX3_gives_118 rfl rfl ?_
          refine q_getR 122 dX3_gives_119 rfl fl_X3_26 (by decide) rfl rfl ?_
          refine q_iload 124 dX3_gives_122 rfl rfl ?_
          refine q_iload 126 dX3_gives_124 rfl rfl ?_
          refine q_iast 127 dX3_gives_126 rfl (by decide) (by decide) rfl hh96 ?_
          refine q_goto 229 dX3_gives_127 rfl ?_
          refine q_iinc 232 dX3_gives_229 rfl rfl (by decide) rfl (nI_1 k) ?_
          refine q_goto 18 dX3_gives_232 rfl ?_
          refine q_eqM (M' := putA M 17 0 (pil nm s (75 + 200 * t) (M 17 0) (k + 1))) (by rw [putA_pp, putA_s, pil_push e2, hpv]; unfold pkF; first | (have hq := hs_66_m1; first | (rw [if_neg hs_66_m4, if_neg hs_66_m3, if_neg hs_66_m2, if_neg hs_66_m1]; done) | (rw [if_neg hs_66_m4, if_neg hs_66_m3, if_neg hs_66_m2, if_pos hs_66_m1]; done)) | (have hq := hs_66_m2; rw [if_neg hs_66_m4, if_neg hs_66_m3, if_pos hq]; done) | (have hq := hs_66_m3; rw [if_neg hs_66_m4, if_pos hq]; done) | (have hq := hs_66_m4; rw [if_pos hq]; done)) (q_fg (ih (k + 1) _ (by omega) (by omega) ?_) ⟨rfl, rfl, rfl, rfl, rfl, rfl, rfl, rfl, trivial⟩)
          rw [hgt_push e2]; exact (ix_pre (h := hgt s (75 + 200 * t) k + 1) (Nat.le_add_left 1 _)).symm
        by_cases hs_66_m2 : (enF (s (71 + 200 * t)) (s ((75 + 200 * t) + 2 * k)) (s ((75 + 200 * t) + 2 * k + 1))) = (-2 : Int32)
        · skip
          refine q_tab 107 dX3_gives_66 rfl (sw_eq hs_66_m2 rfl) rfl ?_
          refine q_aload_n 108 dX3_gives_107 rfl rfl ?_
          refine q_getR 111 dX3_gives_108 rfl fl_X3_26 (by decide) rfl rfl ?_
          refine q_iload 113 dX3_gives_111 rfl rfl ?_
          refine q_iload_n 114 dX3_gives_113 rfl rfl ?_
          refine q_iast 115 dX3_gives_114 rfl (by decide) (by decide) rfl hh96 ?_
          refine q_goto 229 dX3_gives_115 rfl ?_
          refine q_iinc 232 dX3_gives_229 rfl rfl (by decide) rfl (nI_1 k) ?_
          refine q_goto 18 dX3_gives_232 rfl ?_
          refine q_eqM (M' := putA M 17 0 (pil nm s (75 + 200 * t) (M 17 0) (k + 1))) (by rw [putA_pp, putA_s, pil_push e2, hpv]; unfold pkF; first | (have hq := hs_66_m1; first | (rw [if_neg hs_66_m4, if_neg hs_66_m3, if_neg hs_66_m2, if_neg hs_66_m1]; done) | (rw [if_neg hs_66_m4, if_neg hs_66_m3, if_neg hs_66_m2, if_pos hs_66_m1]; done)) | (have hq := hs_66_m2; rw [if_neg hs_66_m4, if_neg hs_66_m3, if_pos hq]; done) | (have hq := hs_66_m3; rw [if_neg hs_66_m4, if_pos hq]; done) | (have hq := hs_66_m4; rw [if_pos hq]; done)) (q_fg (ih (k + 1) _ (by omega) (by omega) ?_) ⟨rfl, rfl, rfl, rfl, rfl, rfl, rfl, rfl, trivial⟩)
          rw [hgt_push e2]; exact (ix_pre (h := hgt s (75 + 200 * t) k + 1) (Nat.le_add_left 1 _)).symm
        by_cases hs_66_m1 : (enF (s (71 + 200 * t)) (s ((75 + 200 * t) + 2 * k)) (s ((75 + 200 * t) + 2 * k + 1))) = (-1 : Int32)
        · skip
          refine q_tab 96 dX3_gives_66 rfl (sw_eq hs_66_m1 rfl) rfl ?_
          refine q_aload_n 97 dX3_gives_96 rfl rfl ?_
          refine q_getR 100 dX3_gives_97 rfl fl_X3_26 (by decide) rfl rfl ?_
          refine q_iload 102 dX3_gives_100 rfl rfl ?_
          refine q_iload_n 103 dX3_gives_102 rfl rfl ?_
          refine q_iast 104 dX3_gives_103 rfl (by decide) (by decide) rfl hh96 ?_
          refine q_goto 229 dX3_gives_104 rfl ?_
          refine q_iinc 232 dX3_gives_229 rfl rfl (by decide) rfl (nI_1 k) ?_
          refine q_goto 18 dX3_gives_232 rfl ?_
          refine q_eqM (M' := putA M 17 0 (pil nm s (75 + 200 * t) (M 17 0) (k + 1))) (by rw [putA_pp, putA_s, pil_push e2, hpv]; unfold pkF; first | (have hq := hs_66_m1; first | (rw [if_neg hs_66_m4, if_neg hs_66_m3, if_neg hs_66_m2, if_neg hs_66_m1]; done) | (rw [if_neg hs_66_m4, if_neg hs_66_m3, if_neg hs_66_m2, if_pos hs_66_m1]; done)) | (have hq := hs_66_m2; rw [if_neg hs_66_m4, if_neg hs_66_m3, if_pos hq]; done) | (have hq := hs_66_m3; rw [if_neg hs_66_m4, if_pos hq]; done) | (have hq := hs_66_m4; rw [if_pos hq]; done)) (q_fg (ih (k + 1) _ (by omega) (by omega) ?_) ⟨rfl, rfl, rfl, rfl, rfl, rfl, rfl, rfl, trivial⟩)
          rw [hgt_push e2]; exact (ix_pre (h := hgt s (75 + 200 * t) k + 1) (Nat.le_add_left 1 _)).symm
        refine q_tab 142 dX3_gives_66 rfl (sw_def [-4, -3, -2, -1] (by decide) rfl (by simp only [List.mem_cons, List.not_mem_nil, or_false, not_or]; exact ⟨lv_neT hs_66_m4 rfl, lv_neT hs_66_m3 rfl, lv_neT hs_66_m2 rfl, lv_neT hs_66_m1 rfl⟩)) rfl ?_
        refine q_aload_n 143 dX3_gives_142 rfl rfl ?_
        refine q_getR 146 dX3_gives_143 rfl fl_X3_26 (by decide) rfl rfl ?_
        refine q_iload 148 dX3_gives_146 rfl rfl ?_
        refine q_iload 150 dX3_gives_148 rfl rfl ?_
        refine q_iast 151 dX3_gives_150 rfl (by decide) (by decide) rfl hh96 ?_
        refine q_goto 229 dX3_gives_151 rfl ?_
        refine q_iinc 232 dX3_gives_229 rfl rfl (by decide) rfl (nI_1 k) ?_
        refine q_goto 18 dX3_gives_232 rfl ?_
        refine q_eqM (M' := putA M 17 0 (pil nm s (75 + 200 * t) (M 17 0) (k + 1))) (by rw [putA_pp, putA_s, pil_push e2, hpv]; unfold pkF; first | (have hq := hs_66_m1; first | (rw [if_neg hs_66_m4, if_neg hs_66_m3, if_neg hs_66_m2, if_neg hs_66_m1]; done) | (rw [if_neg hs_66_m4, if_neg hs_66_m3, if_neg hs_66_m2, if_pos hs_66_m1]; done)) | (have hq := hs_66_m2; rw [if_neg hs_66_m4, if_neg hs_66_m3, if_pos hq]; done) | (have hq := hs_66_m3; rw [if_neg hs_66_m4, if_pos hq]; done) | (have hq := hs_66_m4; rw [if_pos hq]; done)) (q_fg (ih (k + 1) _ (by omega) (by omega) ?_) ⟨rfl, rfl, rfl, rfl, rfl, rfl, rfl, rfl, trivial⟩)
        rw [hgt_push e2]; exact (ix_pre (h := hgt s (75 + 200 * t) k + 1) (Nat.le_add_left 1 _)).symm
set_option maxRecDepth 100000 in
set_option maxHeartbeats 4000000 in
theorem c3_gives {g : GT} (M : TM) (x a b c d : Int32) (t : Nat) (s : SS) (hx : x = nI t) (ht : t < nT s) (hW : WFt s) (hR : RT M s) (nm : Int32 → Int32) (hnm : nmO (s (71 + 200 * t)) nm a b c d) : Cn g yX3_gives cX3_gives 9 (some .int) 1 [.ref (gad g 3 0), .int x, .int a, .int b, .int c, .int d] M (fun r M' => r = some (.int (vaT nm s t)) ∧ ∃ p, M' = putA M 17 0 p) := by
  refine Cn.ofTR (by decide +kernel) (Nat.le_of_ble_eq_true rfl) ?_
  have h14 : t < 14 := by have := hW.2.1; omega
  obtain ⟨-, m, hm96, hm, h1, hwS⟩ := hW.2.2 t ht
  obtain ⟨r1, r2, r3, r4, r5⟩ := hR t ht
  have hin : 0 ≤ x ∧ x ≤ 13 := by rw [hx]; exact ⟨nI_pos' (by omega), (nI_leI (b := 13) (by omega) (by omega)).mpr (by omega)⟩
  refine q_iload_n 1 dX3_gives_0 rfl rfl ?_
  refine q_iconst (v := 0) 2 dX3_gives_1 rfl rfl ?_
  refine q_bipush (v := 13) 4 dX3_gives_2 rfl rfl ?_
  refine q_callNt 7 dX3_gives_4 rfl (c5_within _ _ _ _) cn_within mX5_within_s (by decide) rfl rfl ⟨by decide, by decide⟩ ⟨by decide, by decide⟩ (Nat.le_of_ble_eq_true rfl) ?_
  refine q_if_ne 12 10 dX3_gives_7 rfl rfl (fun _ => ?_) (fun h_7 => absurd hin (bI_0.mp h_7))
  refine q_iconst (v := (-1)) 13 dX3_gives_12 rfl rfl ?_
  refine q_istore 15 dX3_gives_13 rfl (by decide) rfl ?_
  refine q_iconst (v := 0) 16 dX3_gives_15 rfl rfl ?_
  refine q_istore 18 dX3_gives_16 rfl (by decide) rfl ?_
  refine q_eqM (M' := putA M 17 0 (pil nm s (75 + 200 * t) (M 17 0) 0)) (putA_id M 17 0).symm (q_fg (l3_gives M x a b c d t m s hx h14 hm hm96 h1 hwS r4 (r1.trans hm) (fun k hk => r5 k (by show k < (s (73 + 200 * t)).toNatClampNeg; rw [hm, nI_clamp (by omega)]; exact hk)) nm hnm (m + 1) 0 _ (by omega) (by omega) rfl) ⟨rfl, rfl, rfl, rfl, rfl, rfl, rfl, rfl, trivial⟩)
