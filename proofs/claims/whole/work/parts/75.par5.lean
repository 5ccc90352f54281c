/-! THE REFERENCE'S PARSER: parse, text -/
def x0 : PS := (1, 0, fun _ => 0)
def xz : PS := (0, 0, fun _ => 0)
def kyT (T : Nat → Int32) (n : Nat) : Int32 := kyF T (tk T n 0)
def prR (T : Nat → Int32) (n : Nat) : Bool × PS := lv T n (pa T n (kyT T n) 17 0 0) 5 x0
def prB (T : Nat → Int32) (n : Nat) : Bool := decide (0 ≤ kyT T n) && (prR T n).1 && decide ((tk T n (prR T n).2.1).2.2 = 0)
def prF (T : Nat → Int32) (n : Nat) : Nat := if 0 ≤ kyT T n then (tk T n (prR T n).2.1).1 else (tk T n 0).1
theorem prB_t {T : Nat → Int32} {n : Nat} : prB T n = true ↔ 0 ≤ kyT T n ∧ (prR T n).1 = true ∧ (tk T n (prR T n).2.1).2.2 = 0 := by
  unfold prB; rw [Bool.and_eq_true, Bool.and_eq_true, decide_eq_true_eq, decide_eq_true_eq, and_assoc]
abbrev mm (T : Nat → Int32) (n : Nat) : Nat := (prR T n).2.2.1
abbrev mS (T : Nat → Int32) (n : Nat) : Nat → Int32 := (prR T n).2.2.2
abbrev M14 (M : TM) : TM := putA M 6 0 (upd (M 6 0) 14 0)
def P0 (T : Nat → Int32) (n b : Nat) (M N : TM) : Prop := K6 b M N ∧ (prB T n = true → N 6 0 22 = nI (mm T n) ∧ N 6 0 24 = nI (lc (mS T n) (mm T n)) ∧ ∀ j, j < 2 * mm T n → N 31 0 (b + j) = mS T n j) ∧ (¬ prB T n = true → N 6 0 15 = nI (prF T n))
theorem K6.z {b : Nat} {M N : TM} (h : K6 b M N) : K6 b (M14 M) (M14 N) :=
  ⟨fun t k q1 q2 => by show putA N 6 0 _ t k = putA M 6 0 _ t k; rw [putA_n _ _ _ _ q1, putA_n _ _ _ _ q1]; exact h.1 t k q1 q2, fun j hj => by
    show upd (N 6 0) 14 0 j = upd (M 6 0) 14 0 j
    by_cases e : j = 14
    · subst e; rw [upd_s, upd_s]
    · rw [upd_n e, upd_n e]; exact h.2.1 j hj, h.2.2⟩
theorem P0.z {T : Nat → Int32} {n b : Nat} {M N : TM} (h : P0 T n b M N) : P0 T n b (M14 M) (M14 N) := ⟨h.1.z, h.2.1, h.2.2⟩
theorem c6_next0 {g : GT} {T : Nat → Int32} {n b : Nat} {M N : TM} (G : G6 T n b M) (hK : K6 b M N) (h16 : N 6 0 16 = 0) (h17 : N 6 0 17 = 3) (h20 : N 6 0 20 = 0) (h21 : N 6 0 21 = 0) (h22 : N 6 0 22 = 0) (h23 : N 6 0 23 = nI b) (h24 : N 6 0 24 = 0) : Cn g yX6_nextToken cX6_nextToken 3 none 2 [.ref (gad g 6 0)] N (fun r N' => r = none ∧ R6 T n b M 0 0 (lc xz.2.2 xz.2.1) xz N') := by
  refine Cn.mono (c6_nextToken N T n ((hK.1 43 0 (by decide) (by decide)).trans G.1) ((hK.2.1 14 (by decide)).trans G.2.1) G.2.2.1 0 3 (Nat.zero_le _) (by decide) h16 h17 (by decide)) ?_
  rintro r N' ⟨rfl, k, ht⟩
  exact ⟨rfl, hK.kf k, ht, ⟨(k.2 20 (by decide)).trans h20, (k.2 21 (by decide)).trans h21, (k.2 22 (by decide)).trans h22, (k.2 23 (by decide)).trans h23, (k.2 24 (by decide)).trans h24⟩, fun j hj => absurd hj (Nat.not_lt_zero _)⟩
theorem ky_1 {T : Nat → Int32} {t : Tk} (h : 0 ≤ kyF T t) : t.2.2 = 1 := by
  unfold kyF at h
  by_cases h1 : wd T t [98, 114, 101, 97, 116, 104]
  · exact h1.1
  · rw [if_neg h1] at h
    by_cases h2 : wd T t [102, 101, 101]
    · exact h2.1
    · rw [if_neg h2] at h
      by_cases h3 : wd T t [102, 105, 110, 101]
      · exact h3.1
      · rw [if_neg h3] at h; exact absurd h (by decide)
set_option maxRecDepth 100000 in
set_option maxHeartbeats 4000000 in
theorem t6_parse60 {g : GT} {T : Nat → Int32} {n b : Nat} {M : TM} (G : G6 T n b M) (N : TM) (hK : K6 b M N) (h16 : N 6 0 16 = 0) (h17 : N 6 0 17 = 3) (h20 : N 6 0 20 = 0) (h21 : N 6 0 21 = 0) (h22 : N 6 0 22 = 0) (h24 : N 6 0 24 = 0) : TR g (rmD 111) RX6 cX6_parse 3 (some .int) 0 0 (Zm g (fun r N' => r = some (.int (if prB T n = true then kyT T n else -1)) ∧ P0 T n b (M14 M) N')) 60 [some (.ref (gad g 6 0)), none, none] [.int (nI b), .ref (gad g 6 0)] N := by
  refine q_putI 63 dX6_parse_60 rfl fl_X6_248 fp_6_23 (by decide) rfl (by decide) rfl rfl ?_
  refine q_aload_n 64 dX6_parse_63 rfl rfl ?_
  refine q_callV 67 dX6_parse_64 rfl (c6_next0 G (hK.fm _ (by decide) (by decide)) h16 h17 h20 h21 h22 rfl h24) cw_X6_260 (by decide) rfl rfl ⟨by decide, by decide⟩ ⟨by decide, by decide⟩ (Nat.le_of_ble_eq_true rfl) ?_
  rintro _ N1 ⟨rfl, hR1⟩
  obtain ⟨w1, w2, w3⟩ := tk_W T n 0
  refine q_aload_n 68 dX6_parse_67 rfl rfl ?_
  refine q_callVt 71 dX6_parse_68 rfl (c6_key N1 T (tk T n 0) ((hR1.1.1 43 0 (by decide) (by decide)).trans G.1) hR1.2.1.1 hR1.2.1.2.1 hR1.2.1.2.2.1 w1 (Nat.le_trans w2 G.2.2.1) (by omega)) cw_X6_297 (by decide) rfl rfl ⟨by decide, by decide⟩ ⟨by decide, by decide⟩ (Nat.le_of_ble_eq_true rfl) ?_
  refine q_istore_n 72 dX6_parse_71 rfl (by decide) rfl ?_
  refine q_iload_n 73 dX6_parse_72 rfl rfl ?_
  refine q_if_lt 80 76 dX6_parse_73 rfl rfl (fun h_73 => ?_) (fun h_73 => ?_)
  · skip
    have h_73 : kyT T n < 0 := h_73
    have hB : ¬ prB T n = true := fun z => Int32.lt_irrefl (Int32.lt_of_le_of_lt (prB_t.mp z).1 h_73)
    have hv : (if prB T n = true then kyT T n else -1) = -1 := if_neg hB
    have hz : P0 T n b M N1 := ⟨hR1.1, fun z => absurd z hB, fun _ => by unfold prF; rw [if_neg (Int32.not_le.mpr h_73)]; exact hR1.2.1.1⟩
    refine q_iconst (v := 0) 81 dX6_parse_80 rfl rfl ?_
    refine q_istore_n 82 dX6_parse_81 rfl (by decide) rfl ?_
    refine q_iload_n 83 dX6_parse_82 rfl rfl ?_
    refine q_if_eq 111 86 dX6_parse_83 rfl rfl (fun _ => ?_) (fun h_83 => absurd (by decide) h_83)
    refine q_aload_n 112 dX6_parse_111 rfl rfl ?_
    refine q_iconst (v := 0) 113 dX6_parse_112 rfl rfl ?_
    refine q_putI 116 dX6_parse_113 rfl fl_X6_211 fp_6_14 (by decide) rfl (by decide) rfl rfl ?_
    refine q_iload_n 117 dX6_parse_116 rfl rfl ?_
    refine q_if_eq 124 120 dX6_parse_117 rfl rfl (fun _ => ?_) (fun h_117 => absurd (by decide) h_117)
    refine q_iconst (v := (-1)) 125 dX6_parse_124 rfl rfl ?_
    refine q_iret dX6_parse_125 ?_
    exact ⟨congrArg (fun x => some (Value.int x)) hv.symm, hz.z⟩
  · skip
    have h_73 : 0 ≤ kyT T n := Int32.not_lt.mp h_73
    have hky : (tk T n 0).2.2 = 1 := ky_1 h_73
    refine q_iconst (v := 1) 77 dX6_parse_76 rfl rfl ?_
    refine q_goto 81 dX6_parse_77 rfl ?_
    refine q_istore_n 82 dX6_parse_81 rfl (by decide) rfl ?_
    refine q_iload_n 83 dX6_parse_82 rfl rfl ?_
    refine q_if_eq 111 86 dX6_parse_83 rfl rfl (fun h_83 => absurd h_83 (by decide)) (fun _ => ?_)
    refine q_aload_n 87 dX6_parse_86 rfl rfl ?_
    refine q_callV 90 dX6_parse_87 rfl (c6_next G hR1) cw_X6_260 (by decide) rfl rfl ⟨by decide, by decide⟩ ⟨by decide, by decide⟩ (Nat.le_of_ble_eq_true rfl) ?_
    rintro _ N2 ⟨rfl, hR2⟩
    have hn1 : 1 ≤ n := tk_n (T := T) (i := 0) (by rw [hky]; decide)
    refine q_aload_n 91 dX6_parse_90 rfl rfl ?_
    refine q_iload_n 92 dX6_parse_91 rfl rfl ?_
    refine q_callV 95 dX6_parse_92 rfl (c6_either G x0 N2 hR2 (by decide) hn1) cw_X6_291 (by decide) rfl rfl ⟨by decide, by decide⟩ ⟨by decide, by decide⟩ (Nat.le_of_ble_eq_true rfl) ?_
    rintro _ N3 ⟨rfl, q1, q2, q3⟩
    refine q_if_eq 109 98 dX6_parse_95 rfl rfl (fun h_95 => ?_) (fun h_95 => ?_)
    · skip
      simp only [bI_0, Classical.not_not] at h_95
      have hB : ¬ prB T n = true := fun z => h_95 (prB_t.mp z).2.1
      have hv : (if prB T n = true then kyT T n else -1) = -1 := if_neg hB
      have hz : P0 T n b M N3 := ⟨q1, fun z => absurd z hB, fun _ => by unfold prF; rw [if_pos h_73]; exact q3 h_95⟩
      refine q_iconst (v := 0) 110 dX6_parse_109 rfl rfl ?_
      refine q_istore_n 111 dX6_parse_110 rfl (by decide) rfl ?_
      refine q_aload_n 112 dX6_parse_111 rfl rfl ?_
      refine q_iconst (v := 0) 113 dX6_parse_112 rfl rfl ?_
      refine q_putI 116 dX6_parse_113 rfl fl_X6_211 fp_6_14 (by decide) rfl (by decide) rfl rfl ?_
      refine q_iload_n 117 dX6_parse_116 rfl rfl ?_
      refine q_if_eq 124 120 dX6_parse_117 rfl rfl (fun _ => ?_) (fun h_117 => absurd (by decide) h_117)
      refine q_iconst (v := (-1)) 125 dX6_parse_124 rfl rfl ?_
      refine q_iret dX6_parse_125 ?_
      exact ⟨congrArg (fun x => some (Value.int x)) hv.symm, hz.z⟩
    · skip
      simp only [bI_0, Classical.not_not] at h_95
      have q2 := q2 h_95
      obtain ⟨v1, v2, v3⟩ := tk_W T n (prR T n).2.1
      have h17 : N3 6 0 17 = nI (tk T n (prR T n).2.1).2.2 := q2.2.1.2.2.1
      refine q_aload_n 99 dX6_parse_98 rfl rfl ?_
      refine q_getI 102 dX6_parse_99 rfl fl_X6_226 (by decide) rfl (by decide) ?_
      refine q_if_ne 109 105 dX6_parse_102 rfl rfl (fun h_102 => ?_) (fun h_102 => ?_)
      · skip
        rw [h17, nI_e0 (by omega)] at h_102
        have hB : ¬ prB T n = true := fun z => h_102 (prB_t.mp z).2.2
        have hv : (if prB T n = true then kyT T n else -1) = -1 := if_neg hB
        have hz : P0 T n b M N3 := ⟨q1, fun z => absurd z hB, fun _ => by unfold prF; rw [if_pos h_73]; exact q2.2.1.1⟩
        refine q_iconst (v := 0) 110 dX6_parse_109 rfl rfl ?_
        refine q_istore_n 111 dX6_parse_110 rfl (by decide) rfl ?_
        refine q_aload_n 112 dX6_parse_111 rfl rfl ?_
        refine q_iconst (v := 0) 113 dX6_parse_112 rfl rfl ?_
        refine q_putI 116 dX6_parse_113 rfl fl_X6_211 fp_6_14 (by decide) rfl (by decide) rfl rfl ?_
        refine q_iload_n 117 dX6_parse_116 rfl rfl ?_
        refine q_if_eq 124 120 dX6_parse_117 rfl rfl (fun _ => ?_) (fun h_117 => absurd (by decide) h_117)
        refine q_iconst (v := (-1)) 125 dX6_parse_124 rfl rfl ?_
        refine q_iret dX6_parse_125 ?_
        exact ⟨congrArg (fun x => some (Value.int x)) hv.symm, hz.z⟩
      · skip
        rw [h17, nI_e0 (by omega)] at h_102
        have hB : prB T n = true := prB_t.mpr ⟨h_73, h_95, h_102⟩
        have hv : (if prB T n = true then kyT T n else -1) = kyT T n := if_pos hB
        have hz : P0 T n b M N3 := ⟨q1, fun _ => ⟨q2.2.2.1.2.2.1, q2.2.2.1.2.2.2.2, q2.2.2.2⟩, fun z => absurd hB z⟩
        refine q_iconst (v := 1) 106 dX6_parse_105 rfl rfl ?_
        refine q_goto 110 dX6_parse_106 rfl ?_
        refine q_istore_n 111 dX6_parse_110 rfl (by decide) rfl ?_
        refine q_aload_n 112 dX6_parse_111 rfl rfl ?_
        refine q_iconst (v := 0) 113 dX6_parse_112 rfl rfl ?_
        refine q_putI 116 dX6_parse_113 rfl fl_X6_211 fp_6_14 (by decide) rfl (by decide) rfl rfl ?_
        refine q_iload_n 117 dX6_parse_116 rfl rfl ?_
        refine q_if_eq 124 120 dX6_parse_117 rfl rfl (fun h_117 => absurd h_117 (by decide)) (fun _ => ?_)
        refine q_iload_n 121 dX6_parse_120 rfl rfl ?_
        refine q_goto 125 dX6_parse_121 rfl ?_
        refine q_iret dX6_parse_125 ?_
        exact ⟨congrArg (fun x => some (Value.int x)) hv.symm, hz.z⟩
def b6 (s : SS) : Nat := if nT s < 14 then 75 + 200 * nT s else 2871
set_option maxRecDepth 100000 in
set_option maxHeartbeats 4000000 in
theorem c6_parse {g : GT} (M : TM) (T : Nat → Int32) (n : Nat) (hT : M 43 0 = T) (h14 : M 6 0 14 = nI n) (h96 : n ≤ 96) (s : SS) (hs : M 31 0 = s) (h1 : s 1 = nI (nT s)) (hn : nT s ≤ 14) : Cn g yX6_parse cX6_parse 3 (some .int) 111 [.ref (gad g 6 0)] M (fun r N' => r = some (.int (if prB T n = true then kyT T n else -1)) ∧ P0 T n (b6 s) (M14 M) N') := by
  refine Cn.ofTR (by decide +kernel) (Nat.le_of_ble_eq_true rfl) ?_
  have hG : G6 T n (b6 s) M := ⟨hT, h14, h96, by unfold b6; split <;> omega⟩
  have hK : K6 (b6 s) M M := ⟨fun _ _ _ _ => rfl, fun _ _ => rfl, fun _ _ => rfl⟩
  refine q_aload_n 1 dX6_parse_0 rfl rfl ?_
  refine q_iconst (v := 0) 2 dX6_parse_1 rfl rfl ?_
  refine q_putI 5 dX6_parse_2 rfl fl_X6_223 fp_6_16 (by decide) rfl (by decide) rfl rfl ?_
  refine q_aload_n 6 dX6_parse_5 rfl rfl ?_
  refine q_iconst (v := 3) 7 dX6_parse_6 rfl rfl ?_
  refine q_putI 10 dX6_parse_7 rfl fl_X6_226 fp_6_17 (by decide) rfl (by decide) rfl rfl ?_
  refine q_aload_n 11 dX6_parse_10 rfl rfl ?_
  refine q_iconst (v := 0) 12 dX6_parse_11 rfl rfl ?_
  refine q_putI 15 dX6_parse_12 rfl fl_X6_288 fp_6_20 (by decide) rfl (by decide) rfl rfl ?_
  refine q_aload_n 16 dX6_parse_15 rfl rfl ?_
  refine q_iconst (v := 0) 17 dX6_parse_16 rfl rfl ?_
  refine q_putI 20 dX6_parse_17 rfl fl_X6_285 fp_6_21 (by decide) rfl (by decide) rfl rfl ?_
  refine q_aload_n 21 dX6_parse_20 rfl rfl ?_
  refine q_iconst (v := 0) 22 dX6_parse_21 rfl rfl ?_
  refine q_putI 25 dX6_parse_22 rfl fl_X6_251 fp_6_22 (by decide) rfl (by decide) rfl rfl ?_
  refine q_aload_n 26 dX6_parse_25 rfl rfl ?_
  refine q_iconst (v := 0) 27 dX6_parse_26 rfl rfl ?_
  refine q_putI 30 dX6_parse_27 rfl fl_X6_279 fp_6_24 (by decide) rfl (by decide) rfl rfl ?_
  refine q_aload_n 31 dX6_parse_30 rfl rfl ?_
  refine q_aload_n 32 dX6_parse_31 rfl rfl ?_
  refine q_getR 35 dX6_parse_32 rfl fl_X6_7 (by decide) rfl rfl ?_
  refine q_iconst (v := 1) 36 dX6_parse_35 rfl rfl ?_
  refine q_iald 37 dX6_parse_36 rfl (by decide) (by decide) rfl (by decide) ?_
  refine q_bipush (v := 14) 39 dX6_parse_37 rfl rfl ?_
  refine q_icmp_ge 57 42 dX6_parse_39 rfl rfl (fun h_39 => ?_) (fun h_39 => ?_)
  · skip
    have h_39 : 14 ≤ M 31 0 1 := h_39
    rw [show M 31 0 1 = nI (nT s) by rw [hs]; exact h1, show (14 : Int32) = nI 14 from rfl, nI_leI (by decide) (by omega)] at h_39
    have eb : (2871 : Int32) = nI (b6 s) := by unfold b6; rw [if_neg (by omega)]; rfl
    refine q_sipush (v := 2871) 60 dX6_parse_57 rfl rfl ?_
    refine q_eqS (congrArg (fun x => [Value.int x, .ref (gad g 6 0)]) eb) (q_fg (t6_parse60 hG _ ((((((hK.fm _ (by decide) (by decide)).fm _ (by decide) (by decide)).fm _ (by decide) (by decide)).fm _ (by decide) (by decide)).fm _ (by decide) (by decide)).fm _ (by decide) (by decide)) rfl rfl rfl rfl rfl rfl) ⟨rfl, trivial⟩)
  · skip
    have h_39 : ¬ 14 ≤ M 31 0 1 := h_39
    rw [show M 31 0 1 = nI (nT s) by rw [hs]; exact h1, show (14 : Int32) = nI 14 from rfl, nI_leI (by decide) (by omega)] at h_39
    have eb : 71 + 200 * M 31 0 1 + 4 = nI (b6 s) := by unfold b6; rw [if_pos (by omega), hs, h1, show (200 : Int32) = nI 200 from rfl, pk_mul, show (71 : Int32) = nI 71 from rfl, nI_add, show (4 : Int32) = nI 4 from rfl, nI_add]; congr 1; omega
    refine q_aload_n 43 dX6_parse_42 rfl rfl ?_
    refine q_aload_n 44 dX6_parse_43 rfl rfl ?_
    refine q_getR 47 dX6_parse_44 rfl fl_X6_7 (by decide) rfl rfl ?_
    refine q_iconst (v := 1) 48 dX6_parse_47 rfl rfl ?_
    refine q_iald 49 dX6_parse_48 rfl (by decide) (by decide) rfl (by decide) ?_
    refine q_callVt 52 dX6_parse_49 rfl (c6_textAt _ _) cw_X6_294 (by decide) rfl rfl ⟨by decide, by decide⟩ ⟨by decide, by decide⟩ (Nat.le_of_ble_eq_true rfl) ?_
    refine q_iconst (v := 4) 53 dX6_parse_52 rfl rfl ?_
    refine q_iadd 54 dX6_parse_53 rfl ?_
    refine q_goto 60 dX6_parse_54 rfl ?_
    refine q_eqS (congrArg (fun x => [Value.int x, .ref (gad g 6 0)]) eb) (q_fg (t6_parse60 hG _ ((((((hK.fm _ (by decide) (by decide)).fm _ (by decide) (by decide)).fm _ (by decide) (by decide)).fm _ (by decide) (by decide)).fm _ (by decide) (by decide)).fm _ (by decide) (by decide)) rfl rfl rfl rfl rfl rfl) ⟨rfl, trivial⟩)
def aTx (s : SS) (T : Nat → Int32) (n : Nat) : Int32 := if prB T n = true then (if nT s < 14 then nI (nT s) else FULLc) else -100 - nI (prF T n)
def TxO (s s' : SS) (T : Nat → Int32) (n : Nat) : Prop := s' 1 = nI (nT s + 1) ∧ s' (71 + 200 * nT s) = kyT T n ∧ s' (72 + 200 * nT s) = nI (lc (mS T n) (mm T n)) ∧ s' (73 + 200 * nT s) = nI (mm T n) ∧ (∀ j, j < 2 * mm T n → s' (75 + 200 * nT s + j) = mS T n j) ∧ ∀ i, i ≠ 1 → (i < 71 + 200 * nT s ∨ 271 + 200 * nT s ≤ i) → s' i = s i
def QTx (M : TM) (s : SS) (T : Nat → Int32) (n : Nat) : Option Value → TM → Prop := fun r N => r = some (.int (aTx s T n)) ∧ (∀ t k, ¬ (t = 6 ∧ k = 0) → ¬ (t = 31 ∧ k = 0) → N t k = M t k) ∧ (∀ j, (j < 14 ∨ 24 < j) → N 6 0 j = M 6 0 j) ∧ N 6 0 14 = 0 ∧ (if prB T n = true ∧ nT s < 14 then TxO s (N 31 0) T n else ∀ i, (i < b6 s ∨ b6 s + 192 ≤ i) → N 31 0 i = s i)
theorem prR_G (T : Nat → Int32) (n : Nat) (hn : 1 ≤ n) : ((prR T n).1 = true → Gd (kyT T n) x0 (prR T n).2) ∧ (prR T n).2.1 ≤ n :=
  ⟨(lv_G (pa_G (T := T) (n := n) (key := kyT T n) 17 0 0) 5 x0).1, (lv_G (pa_G (T := T) (n := n) (key := kyT T n) 17 0 0) 5 x0).2 hn⟩
theorem prB_G {T : Nat → Int32} {n : Nat} (h : prB T n = true) : Gd (kyT T n) x0 (prR T n).2 ∧ mm T n < n := by
  obtain ⟨h1, h2, h3⟩ := prB_t.mp h
  have hn1 : 1 ≤ n := tk_n (T := T) (i := 0) (by rw [ky_1 h1]; decide)
  obtain ⟨g1, g2⟩ := prR_G T n hn1
  have g1 := g1 h2
  refine ⟨g1, ?_⟩
  have g3 := g1.2.2.1
  have g3 : (prR T n).2.2.1 + 1 ≤ 0 + (prR T n).2.1 := g3
  show (prR T n).2.2.1 < n
  omega
set_option maxRecDepth 100000 in
set_option maxHeartbeats 4000000 in
theorem c6_text {g : GT} (M : TM) (T : Nat → Int32) (n : Nat) (hT : M 43 0 = T) (h14 : M 6 0 14 = nI n) (h96 : n ≤ 96) (s : SS) (hs : M 31 0 = s) (h1 : s 1 = nI (nT s)) (hn : nT s ≤ 14) : Cn g yX6_text cX6_text 3 (some .int) 112 [.ref (gad g 6 0)] M (QTx M s T n) := by
  refine Cn.ofTR (by decide +kernel) (Nat.le_of_ble_eq_true rfl) ?_
  refine q_aload_n 1 dX6_text_0 rfl rfl ?_
  refine q_callV 4 dX6_text_1 rfl (c6_parse M T n hT h14 h96 s hs h1 hn) cw_X6_300 (by decide) rfl rfl ⟨by decide, by decide⟩ ⟨by decide, by decide⟩ (Nat.le_of_ble_eq_true rfl) ?_
  rintro _ N ⟨rfl, hz⟩
  have h31 : ∀ i, (i < b6 s ∨ b6 s + 192 ≤ i) → N 31 0 i = s i := fun i hi => (hz.1.2.2 i hi).trans (by show M 31 0 i = _; rw [hs])
  have e1 : N 31 0 1 = nI (nT s) := (h31 1 (Or.inl (by unfold b6; split <;> omega))).trans h1
  refine q_istore_n 5 dX6_text_4 rfl (by decide) rfl ?_
  refine q_iload_n 6 dX6_text_5 rfl rfl ?_
  refine q_if_ge 17 9 dX6_text_6 rfl rfl (fun h_6 => ?_) (fun h_6 => ?_)
  · skip
    have hB : prB T n = true := Classical.byContradiction (fun z => by rw [if_neg z] at h_6; exact absurd h_6 (by decide))
    rw [if_pos hB]
    obtain ⟨z22, z24, zS⟩ := hz.2.1 hB
    refine q_aload_n 18 dX6_text_17 rfl rfl ?_
    refine q_getR 21 dX6_text_18 rfl fl_X6_7 (by decide) rfl rfl ?_
    refine q_iconst (v := 1) 22 dX6_text_21 rfl rfl ?_
    refine q_iald 23 dX6_text_22 rfl (by decide) (by decide) rfl (by decide) ?_
    refine q_bipush (v := 14) 25 dX6_text_23 rfl rfl ?_
    refine q_icmp_ne 31 28 dX6_text_25 rfl rfl (fun h_25 => ?_) (fun h_25 => ?_)
    · skip
      rw [e1, show (14 : Int32) = nI 14 from rfl, nI_eq (by omega) (by decide)] at h_25
      have hlt : nT s < 14 := by omega
      have eb : b6 s = 75 + 200 * nT s := if_pos hlt
      obtain ⟨-, hmn⟩ := prB_G hB
      refine q_aload_n 32 dX6_text_31 rfl rfl ?_
      refine q_aload_n 33 dX6_text_32 rfl rfl ?_
      refine q_getR 36 dX6_text_33 rfl fl_X6_7 (by decide) rfl rfl ?_
      refine q_iconst (v := 1) 37 dX6_text_36 rfl rfl ?_
      refine q_iald 38 dX6_text_37 rfl (by decide) (by decide) rfl (by decide) ?_
      refine q_callVt 41 dX6_text_38 rfl (c6_textAt _ _) cw_X6_294 (by decide) rfl rfl ⟨by decide, by decide⟩ ⟨by decide, by decide⟩ (Nat.le_of_ble_eq_true rfl) ?_
      refine q_istore_n 42 dX6_text_41 rfl (by decide) rfl ?_
      refine q_aload_n 43 dX6_text_42 rfl rfl ?_
      refine q_getR 46 dX6_text_43 rfl fl_X6_7 (by decide) rfl rfl ?_
      refine q_iload_n 47 dX6_text_46 rfl rfl ?_
      refine q_iconst (v := 0) 48 dX6_text_47 rfl rfl ?_
      refine q_iadd 49 dX6_text_48 rfl ?_
      refine q_iload_n 50 dX6_text_49 rfl rfl ?_
      refine q_iast 51 dX6_text_50 rfl (by decide) (by decide) (by show 71 + 200 * N 31 0 1 + 0 = _; rw [e1, show (200 : Int32) = nI 200 from rfl, pk_mul, show (71 : Int32) = nI 71 from rfl, nI_add, show (0 : Int32) = nI 0 from rfl, nI_add]) (show 71 + 200 * nT s + 0 < 3071 by omega) ?_
      refine q_aload_n 52 dX6_text_51 rfl rfl ?_
      refine q_getR 55 dX6_text_52 rfl fl_X6_7 (by decide) rfl rfl ?_
      refine q_iload_n 56 dX6_text_55 rfl rfl ?_
      refine q_iconst (v := 1) 57 dX6_text_56 rfl rfl ?_
      refine q_iadd 58 dX6_text_57 rfl ?_
      refine q_aload_n 59 dX6_text_58 rfl rfl ?_
      refine q_getI 62 dX6_text_59 rfl fl_X6_279 (by decide) rfl (by decide) ?_
      refine q_iast 63 dX6_text_62 rfl (by decide) (by decide) (by show 71 + 200 * N 31 0 1 + 1 = _; rw [e1, show (200 : Int32) = nI 200 from rfl, pk_mul, show (71 : Int32) = nI 71 from rfl, nI_add, show (1 : Int32) = nI 1 from rfl, nI_add]) (show 71 + 200 * nT s + 1 < 3071 by omega) ?_
      refine q_aload_n 64 dX6_text_63 rfl rfl ?_
      refine q_getR 67 dX6_text_64 rfl fl_X6_7 (by decide) rfl rfl ?_
      refine q_iload_n 68 dX6_text_67 rfl rfl ?_
      refine q_iconst (v := 2) 69 dX6_text_68 rfl rfl ?_
      refine q_iadd 70 dX6_text_69 rfl ?_
      refine q_aload_n 71 dX6_text_70 rfl rfl ?_
      refine q_getI 74 dX6_text_71 rfl fl_X6_251 (by decide) rfl (by decide) ?_
      refine q_iast 75 dX6_text_74 rfl (by decide) (by decide) (by show 71 + 200 * N 31 0 1 + 2 = _; rw [e1, show (200 : Int32) = nI 200 from rfl, pk_mul, show (71 : Int32) = nI 71 from rfl, nI_add, show (2 : Int32) = nI 2 from rfl, nI_add]) (show 71 + 200 * nT s + 2 < 3071 by omega) ?_
      refine q_aload_n 76 dX6_text_75 rfl rfl ?_
      refine q_getR 79 dX6_text_76 rfl fl_X6_7 (by decide) rfl rfl ?_
      refine q_iconst (v := 1) 80 dX6_text_79 rfl rfl ?_
      refine q_dup2 81 dX6_text_80 rfl rfl rfl ?_
      refine q_iald 82 dX6_text_81 rfl (by decide) (by decide) rfl (by decide) ?_
      refine q_iconst (v := 1) 83 dX6_text_82 rfl rfl ?_
      refine q_iadd 84 dX6_text_83 rfl ?_
      refine q_iast 85 dX6_text_84 rfl (by decide) (by decide) rfl (by decide) ?_
      refine q_aload_n 86 dX6_text_85 rfl rfl ?_
      refine q_getR 89 dX6_text_86 rfl fl_X6_7 (by decide) rfl rfl ?_
      refine q_iconst (v := 1) 90 dX6_text_89 rfl rfl ?_
      refine q_iald 91 dX6_text_90 rfl (by decide) (by decide) rfl (by decide) ?_
      refine q_iconst (v := 1) 92 dX6_text_91 rfl rfl ?_
      refine q_isub 93 dX6_text_92 rfl ?_
      refine q_iret dX6_text_93 ?_
      refine ⟨congrArg (fun x => some (Value.int x)) ?_, fun t k q1 q2 => ?_, fun j hj => ?_, hz.1.2.1 14 (by decide), ?_⟩
      · unfold aTx; rw [if_pos hB, if_pos hlt]
        show (upd (upd (upd (upd (N 31 0) (71 + 200 * nT s + 0) (kyT T n)) (71 + 200 * nT s + 1) (N 6 0 24)) (71 + 200 * nT s + 2) (N 6 0 22)) 1 ((upd (upd (upd (N 31 0) (71 + 200 * nT s + 0) (kyT T n)) (71 + 200 * nT s + 1) (N 6 0 24)) (71 + 200 * nT s + 2) (N 6 0 22)) 1 + 1)) 1 - 1 = _
        rw [upd_s, upd_n (by omega), upd_n (by omega), upd_n (by omega), e1, nI_1, nI_pred]
      · rw [putA_n _ _ _ _ q2, putA_n _ _ _ _ q2, putA_n _ _ _ _ q2, putA_n _ _ _ _ q2]; exact (hz.1.1 t k q1 q2).trans (putA_n _ _ _ _ q1)
      · exact (hz.1.2.1 j (by omega)).trans (by show upd (M 6 0) 14 0 j = _; rw [upd_n (by omega)])
      · rw [if_pos ⟨hB, hlt⟩]
        show TxO s (upd (upd (upd (upd (N 31 0) (71 + 200 * nT s + 0) (kyT T n)) (71 + 200 * nT s + 1) (N 6 0 24)) (71 + 200 * nT s + 2) (N 6 0 22)) 1 ((upd (upd (upd (N 31 0) (71 + 200 * nT s + 0) (kyT T n)) (71 + 200 * nT s + 1) (N 6 0 24)) (71 + 200 * nT s + 2) (N 6 0 22)) 1 + 1)) T n
        refine ⟨?_, ?_, ?_, ?_, fun j hj => ?_, fun i hi1 hi2 => ?_⟩
        · rw [upd_s, upd_n (by omega), upd_n (by omega), upd_n (by omega), e1, nI_1]
        · rw [upd_n (by omega), upd_n (by omega), upd_n (by omega), show 71 + 200 * nT s = 71 + 200 * nT s + 0 from rfl, upd_s]
        · rw [upd_n (by omega), upd_n (by omega), show 72 + 200 * nT s = 71 + 200 * nT s + 1 by omega, upd_s, z24]
        · rw [upd_n (by omega), show 73 + 200 * nT s = 71 + 200 * nT s + 2 by omega, upd_s, z22]
        · rw [upd_n (by omega), upd_n (by omega), upd_n (by omega), upd_n (by omega), ← eb]; exact zS j hj
        · rw [upd_n hi1, upd_n (by omega), upd_n (by omega), upd_n (by omega)]; exact h31 i (by omega)
    · skip
      rw [e1, show (14 : Int32) = nI 14 from rfl, nI_eq (by omega) (by decide)] at h_25
      refine q_ldc 30 dX6_text_28 rfl cs_X6_111 ?_
      refine q_iret dX6_text_30 ?_
      refine ⟨congrArg (fun x => some (Value.int x)) ?_, (fun t k q1 q2 => (hz.1.1 t k q1 q2).trans (putA_n _ _ _ _ q1)), (fun j hj => (hz.1.2.1 j (by omega)).trans (by show upd (M 6 0) 14 0 j = _; rw [upd_n (by omega)])), (hz.1.2.1 14 (by decide)), ?_⟩
      · unfold aTx; rw [if_pos hB, if_neg (by omega)]
      · rw [if_neg (fun z => by have := z.2; omega)]; exact h31
  · skip
    have hB : ¬ prB T n = true := fun z => by rw [if_pos z] at h_6; exact h_6 (prB_t.mp z).1
    refine q_bipush (v := (-100)) 11 dX6_text_9 rfl rfl ?_
    refine q_aload_n 12 dX6_text_11 rfl rfl ?_
    refine q_getI 15 dX6_text_12 rfl fl_X6_229 (by decide) rfl (by decide) ?_
    refine q_isub 16 dX6_text_15 rfl ?_
    refine q_iret dX6_text_16 ?_
    refine ⟨congrArg (fun x => some (Value.int x)) ?_, (fun t k q1 q2 => (hz.1.1 t k q1 q2).trans (putA_n _ _ _ _ q1)), (fun j hj => (hz.1.2.1 j (by omega)).trans (by show upd (M 6 0) 14 0 j = _; rw [upd_n (by omega)])), (hz.1.2.1 14 (by decide)), ?_⟩
    · unfold aTx; rw [if_neg hB, hz.2.2 hB]
    · rw [if_neg (fun z => hB z.1)]; exact h31
