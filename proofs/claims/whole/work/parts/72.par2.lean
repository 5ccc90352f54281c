/-! THE REFERENCE'S PARSER: key, names, steps -/
abbrev wd (T : Nat → Int32) (t : Tk) (l : List Int32) : Prop := t.2.2 = 1 ∧ t.2.1 - t.1 = l.length ∧ ∀ k, k < l.length → T (t.1 + k) = l.getD k 0
def kyF (T : Nat → Int32) (t : Tk) : Int32 := if wd T t [98, 114, 101, 97, 116, 104] then 0 else if wd T t [102, 101, 101] then 1 else if wd T t [102, 105, 110, 101] then 2 else -1
theorem wd3 {T : Nat → Int32} {t : Tk} {a b c : Int32} : wd T t [a, b, c] ↔ t.2.2 = 1 ∧ t.2.1 - t.1 = 3 ∧ T t.1 = a ∧ T (t.1 + 1) = b ∧ T (t.1 + 2) = c := by
  constructor
  · rintro ⟨h1, h2, h3⟩
    exact ⟨h1, h2, h3 0 (Nat.le_of_ble_eq_true rfl), h3 1 (Nat.le_of_ble_eq_true rfl), h3 2 (Nat.le_of_ble_eq_true rfl)⟩
  · rintro ⟨h1, h2, h3, h4, h5⟩
    refine ⟨h1, h2, fun k hk => ?_⟩
    match k, hk with
    | 0, _ => exact h3
    | 1, _ => exact h4
    | 2, _ => exact h5
theorem wd4 {T : Nat → Int32} {t : Tk} {a b c d : Int32} : wd T t [a, b, c, d] ↔ t.2.2 = 1 ∧ t.2.1 - t.1 = 4 ∧ T t.1 = a ∧ T (t.1 + 1) = b ∧ T (t.1 + 2) = c ∧ T (t.1 + 3) = d := by
  constructor
  · rintro ⟨h1, h2, h3⟩
    exact ⟨h1, h2, h3 0 (Nat.le_of_ble_eq_true rfl), h3 1 (Nat.le_of_ble_eq_true rfl), h3 2 (Nat.le_of_ble_eq_true rfl), h3 3 (Nat.le_of_ble_eq_true rfl)⟩
  · rintro ⟨h1, h2, h3, h4, h5, h6⟩
    refine ⟨h1, h2, fun k hk => ?_⟩
    match k, hk with
    | 0, _ => exact h3
    | 1, _ => exact h4
    | 2, _ => exact h5
    | 3, _ => exact h6
theorem wd6 {T : Nat → Int32} {t : Tk} {a b c d e f : Int32} : wd T t [a, b, c, d, e, f] ↔ t.2.2 = 1 ∧ t.2.1 - t.1 = 6 ∧ T t.1 = a ∧ T (t.1 + 1) = b ∧ T (t.1 + 2) = c ∧ T (t.1 + 3) = d ∧ T (t.1 + 4) = e ∧ T (t.1 + 5) = f := by
  constructor
  · rintro ⟨h1, h2, h3⟩
    exact ⟨h1, h2, h3 0 (Nat.le_of_ble_eq_true rfl), h3 1 (Nat.le_of_ble_eq_true rfl), h3 2 (Nat.le_of_ble_eq_true rfl), h3 3 (Nat.le_of_ble_eq_true rfl), h3 4 (Nat.le_of_ble_eq_true rfl), h3 5 (Nat.le_of_ble_eq_true rfl)⟩
  · rintro ⟨h1, h2, h3, h4, h5, h6, h7, h8⟩
    refine ⟨h1, h2, fun k hk => ?_⟩
    match k, hk with
    | 0, _ => exact h3
    | 1, _ => exact h4
    | 2, _ => exact h5
    | 3, _ => exact h6
    | 4, _ => exact h7
    | 5, _ => exact h8
set_option maxRecDepth 100000 in
set_option maxHeartbeats 4000000 in
theorem c6_isSign {g : GT} (M : TM) (c : Int32) : Cn g yX6_isSign cX6_isSign 2 (some .boolean) 0 [.ref (gad g 6 0), .int c] M (Rt (.int (bI (M 6 0 17 = 3 ∧ M 6 0 19 = c))) M) := by
  refine Cn.ofTR (by decide +kernel) (Nat.le_of_ble_eq_true rfl) ?_
  refine q_aload_n 1 dX6_isSign_0 rfl rfl ?_
  refine q_getI 4 dX6_isSign_1 rfl fl_X6_226 (by decide) rfl (by decide) ?_
  refine q_iconst (v := 3) 5 dX6_isSign_4 rfl rfl ?_
  refine q_icmp_ne 20 8 dX6_isSign_5 rfl rfl (fun h_5 => ?_) (fun h_5 => ?_)
  · skip
    refine q_iconst (v := 0) 21 dX6_isSign_20 rfl rfl ?_
    refine q_zret dX6_isSign_21 rfl ?_
    refine ⟨congrArg (fun x => some (Value.int x)) ?_, rfl⟩
    first
      | exact (bI_t ⟨h_5, h_13⟩).symm
      | exact (bI_f (fun z => h_13 z.2)).symm
      | exact (bI_f (fun z => h_5 z.1)).symm
  · skip
    refine q_aload_n 9 dX6_isSign_8 rfl rfl ?_
    refine q_getI 12 dX6_isSign_9 rfl fl_X6_235 (by decide) rfl (by decide) ?_
    refine q_iload_n 13 dX6_isSign_12 rfl rfl ?_
    refine q_icmp_ne 20 16 dX6_isSign_13 rfl rfl (fun h_13 => ?_) (fun h_13 => ?_)
    · skip
      refine q_iconst (v := 0) 21 dX6_isSign_20 rfl rfl ?_
      refine q_zret dX6_isSign_21 rfl ?_
      refine ⟨congrArg (fun x => some (Value.int x)) ?_, rfl⟩
      first
        | exact (bI_t ⟨h_5, h_13⟩).symm
        | exact (bI_f (fun z => h_13 z.2)).symm
        | exact (bI_f (fun z => h_5 z.1)).symm
    · skip
      refine q_iconst (v := 1) 17 dX6_isSign_16 rfl rfl ?_
      refine q_goto 21 dX6_isSign_17 rfl ?_
      refine q_zret dX6_isSign_21 rfl ?_
      refine ⟨congrArg (fun x => some (Value.int x)) ?_, rfl⟩
      first
        | exact (bI_t ⟨h_5, h_13⟩).symm
        | exact (bI_f (fun z => h_13 z.2)).symm
        | exact (bI_f (fun z => h_5 z.1)).symm
set_option maxRecDepth 100000 in
set_option maxHeartbeats 4000000 in
theorem c6_isName {g : GT} (M : TM) (key c : Int32) : Cn g yX6_isName cX6_isName 2 (some .boolean) 0 [.int key, .int c] M (Rt (.int (bI (nmQ key c = true))) M) := by
  refine Cn.ofTR (by decide +kernel) (Nat.le_of_ble_eq_true rfl) ?_
  refine q_iload_n 1 dX6_isName_0 rfl rfl ?_
  by_cases hs_1_0 : key = (0 : Int32)
  · skip
    refine q_lookup 28 dX6_isName_1 (by decide) (lk_eq hs_1_0 rfl) rfl ?_
    refine q_iload_n 29 dX6_isName_28 rfl rfl ?_
    refine q_bipush (v := 105) 31 dX6_isName_29 rfl rfl ?_
    refine q_icmp_eq 52 34 dX6_isName_31 rfl rfl (fun h_31 => ?_) (fun h_31 => ?_)
    · skip
      refine q_iconst (v := 1) 53 dX6_isName_52 rfl rfl ?_
      refine q_goto 57 dX6_isName_53 rfl ?_
      refine q_zret dX6_isName_57 rfl ?_
      refine ⟨congrArg (fun x => some (Value.int x)) ?_, rfl⟩
      try simp only [← Int32.not_lt, ← Int64.not_lt] at *
      simp_all [nmQ, bI, -Int32.not_lt, -Int64.not_lt, -Int32.not_le, -Int64.not_le]
    · skip
      refine q_iload_n 35 dX6_isName_34 rfl rfl ?_
      refine q_bipush (v := 100) 37 dX6_isName_35 rfl rfl ?_
      refine q_icmp_eq 52 40 dX6_isName_37 rfl rfl (fun h_37 => ?_) (fun h_37 => ?_)
      · skip
        refine q_iconst (v := 1) 53 dX6_isName_52 rfl rfl ?_
        refine q_goto 57 dX6_isName_53 rfl ?_
        refine q_zret dX6_isName_57 rfl ?_
        refine ⟨congrArg (fun x => some (Value.int x)) ?_, rfl⟩
        try simp only [← Int32.not_lt, ← Int64.not_lt] at *
        simp_all [nmQ, bI, -Int32.not_lt, -Int64.not_lt, -Int32.not_le, -Int64.not_le]
      · skip
        refine q_iload_n 41 dX6_isName_40 rfl rfl ?_
        refine q_bipush (v := 99) 43 dX6_isName_41 rfl rfl ?_
        refine q_icmp_eq 52 46 dX6_isName_43 rfl rfl (fun h_43 => ?_) (fun h_43 => ?_)
        · skip
          refine q_iconst (v := 1) 53 dX6_isName_52 rfl rfl ?_
          refine q_goto 57 dX6_isName_53 rfl ?_
          refine q_zret dX6_isName_57 rfl ?_
          refine ⟨congrArg (fun x => some (Value.int x)) ?_, rfl⟩
          try simp only [← Int32.not_lt, ← Int64.not_lt] at *
          simp_all [nmQ, bI, -Int32.not_lt, -Int64.not_lt, -Int32.not_le, -Int64.not_le]
        · skip
          refine q_iload_n 47 dX6_isName_46 rfl rfl ?_
          refine q_bipush (v := 110) 49 dX6_isName_47 rfl rfl ?_
          refine q_icmp_ne 56 52 dX6_isName_49 rfl rfl (fun h_49 => ?_) (fun h_49 => ?_)
          · skip
            refine q_iconst (v := 0) 57 dX6_isName_56 rfl rfl ?_
            refine q_zret dX6_isName_57 rfl ?_
            refine ⟨congrArg (fun x => some (Value.int x)) ?_, rfl⟩
            try simp only [← Int32.not_lt, ← Int64.not_lt] at *
            simp_all [nmQ, bI, -Int32.not_lt, -Int64.not_lt, -Int32.not_le, -Int64.not_le]
          · skip
            refine q_iconst (v := 1) 53 dX6_isName_52 rfl rfl ?_
            refine q_goto 57 dX6_isName_53 rfl ?_
            refine q_zret dX6_isName_57 rfl ?_
            refine ⟨congrArg (fun x => some (Value.int x)) ?_, rfl⟩
            try simp only [← Int32.not_lt, ← Int64.not_lt] at *
            simp_all [nmQ, bI, -Int32.not_lt, -Int64.not_lt, -Int32.not_le, -Int64.not_le]
  by_cases hs_1_1 : key = (1 : Int32)
  · skip
    refine q_lookup 58 dX6_isName_1 (by decide) (lk_eq hs_1_1 rfl) rfl ?_
    refine q_iload_n 59 dX6_isName_58 rfl rfl ?_
    refine q_bipush (v := 115) 61 dX6_isName_59 rfl rfl ?_
    refine q_icmp_eq 70 64 dX6_isName_61 rfl rfl (fun h_61 => ?_) (fun h_61 => ?_)
    · skip
      refine q_iconst (v := 1) 71 dX6_isName_70 rfl rfl ?_
      refine q_goto 75 dX6_isName_71 rfl ?_
      refine q_zret dX6_isName_75 rfl ?_
      refine ⟨congrArg (fun x => some (Value.int x)) ?_, rfl⟩
      try simp only [← Int32.not_lt, ← Int64.not_lt] at *
      simp_all [nmQ, bI, -Int32.not_lt, -Int64.not_lt, -Int32.not_le, -Int64.not_le]
    · skip
      refine q_iload_n 65 dX6_isName_64 rfl rfl ?_
      refine q_bipush (v := 103) 67 dX6_isName_65 rfl rfl ?_
      refine q_icmp_ne 74 70 dX6_isName_67 rfl rfl (fun h_67 => ?_) (fun h_67 => ?_)
      · skip
        refine q_iconst (v := 0) 75 dX6_isName_74 rfl rfl ?_
        refine q_zret dX6_isName_75 rfl ?_
        refine ⟨congrArg (fun x => some (Value.int x)) ?_, rfl⟩
        try simp only [← Int32.not_lt, ← Int64.not_lt] at *
        simp_all [nmQ, bI, -Int32.not_lt, -Int64.not_lt, -Int32.not_le, -Int64.not_le]
      · skip
        refine q_iconst (v := 1) 71 dX6_isName_70 rfl rfl ?_
        refine q_goto 75 dX6_isName_71 rfl ?_
        refine q_zret dX6_isName_75 rfl ?_
        refine ⟨congrArg (fun x => some (Value.int x)) ?_, rfl⟩
        try simp only [← Int32.not_lt, ← Int64.not_lt] at *
        simp_all [nmQ, bI, -Int32.not_lt, -Int64.not_lt, -Int32.not_le, -Int64.not_le]
  refine q_lookup 76 dX6_isName_1 (by decide) (lk_def _ [0, 1] rfl (by simp only [List.forall_mem_cons]; exact ⟨hs_1_0, hs_1_1, fun _ h => absurd h List.not_mem_nil⟩)) rfl ?_
  refine q_iload_n 77 dX6_isName_76 rfl rfl ?_
  refine q_bipush (v := 105) 79 dX6_isName_77 rfl rfl ?_
  refine q_icmp_eq 88 82 dX6_isName_79 rfl rfl (fun h_79 => ?_) (fun h_79 => ?_)
  · skip
    refine q_iconst (v := 1) 89 dX6_isName_88 rfl rfl ?_
    refine q_goto 93 dX6_isName_89 rfl ?_
    refine q_zret dX6_isName_93 rfl ?_
    refine ⟨congrArg (fun x => some (Value.int x)) ?_, rfl⟩
    try simp only [← Int32.not_lt, ← Int64.not_lt] at *
    simp_all [nmQ, bI, -Int32.not_lt, -Int64.not_lt, -Int32.not_le, -Int64.not_le]
  · skip
    refine q_iload_n 83 dX6_isName_82 rfl rfl ?_
    refine q_bipush (v := 100) 85 dX6_isName_83 rfl rfl ?_
    refine q_icmp_ne 92 88 dX6_isName_85 rfl rfl (fun h_85 => ?_) (fun h_85 => ?_)
    · skip
      refine q_iconst (v := 0) 93 dX6_isName_92 rfl rfl ?_
      refine q_zret dX6_isName_93 rfl ?_
      refine ⟨congrArg (fun x => some (Value.int x)) ?_, rfl⟩
      try simp only [← Int32.not_lt, ← Int64.not_lt] at *
      simp_all [nmQ, bI, -Int32.not_lt, -Int64.not_lt, -Int32.not_le, -Int64.not_le]
    · skip
      refine q_iconst (v := 1) 89 dX6_isName_88 rfl rfl ?_
      refine q_goto 93 dX6_isName_89 rfl ?_
      refine q_zret dX6_isName_93 rfl ?_
      refine ⟨congrArg (fun x => some (Value.int x)) ?_, rfl⟩
      try simp only [← Int32.not_lt, ← Int64.not_lt] at *
      simp_all [nmQ, bI, -Int32.not_lt, -Int64.not_lt, -Int32.not_le, -Int64.not_le]
set_option maxRecDepth 100000 in
set_option maxHeartbeats 4000000 in
theorem c6_isWorda {g : GT} (M : TM) (T : Nat → Int32) (t : Tk) (hT : M 43 0 = T) (h15 : M 6 0 15 = nI t.1) (h16 : M 6 0 16 = nI t.2.1) (h17 : M 6 0 17 = nI t.2.2) (h1 : t.1 ≤ t.2.1) (h2 : t.2.1 ≤ 96) (h4 : t.2.2 ≤ 4) : Cn g yX6_isWordAt cX6_isWordAt 6 (some .boolean) 0 [.ref (gad g 6 0), .int 102, .int 101, .int 101, .int 0] M (Rt (.int (bI (wd T t [102, 101, 101]))) M) := by
  refine Cn.ofTR (by decide +kernel) (Nat.le_of_ble_eq_true rfl) ?_
  subst hT
  refine q_iload 2 dX6_isWordAt_0 rfl rfl ?_
  refine q_if_ne 9 5 dX6_isWordAt_2 rfl rfl (fun h_2 => absurd rfl h_2) (fun _ => ?_)
  refine q_iconst (v := 3) 6 dX6_isWordAt_5 rfl rfl ?_
  refine q_goto 10 dX6_isWordAt_6 rfl ?_
  refine q_istore 12 dX6_isWordAt_10 rfl (by decide) rfl ?_
  refine q_aload_n 13 dX6_isWordAt_12 rfl rfl ?_
  refine q_getI 16 dX6_isWordAt_13 rfl fl_X6_226 (by decide) rfl (by decide) ?_
  refine q_iconst (v := 1) 17 dX6_isWordAt_16 rfl rfl ?_
  refine q_icmp_ne 102 20 dX6_isWordAt_17 rfl rfl (fun h_17 => ?_) (fun h_17 => ?_)
  · skip
    rw [h17, nI_e1 (by omega)] at h_17
    refine q_iconst (v := 0) 103 dX6_isWordAt_102 rfl rfl ?_
    refine q_zret dX6_isWordAt_103 rfl ?_
    refine ⟨congrArg (fun x => some (Value.int x)) ?_, rfl⟩
    have hw : ∀ z : wd (M 43 0) t [102, 101, 101], False := fun z => by
      obtain ⟨z1, z2, z3, z4, z5⟩ := wd3.mp z
      first | exact h_17 z1 | exact h_31 z2 | exact h_44 z3 | exact h_59 z4 | exact h_74 z5
    exact (bI_f hw).symm
  · skip
    rw [h17, nI_e1 (by omega)] at h_17
    refine q_aload_n 21 dX6_isWordAt_20 rfl rfl ?_
    refine q_getI 24 dX6_isWordAt_21 rfl fl_X6_223 (by decide) rfl (by decide) ?_
    refine q_aload_n 25 dX6_isWordAt_24 rfl rfl ?_
    refine q_getI 28 dX6_isWordAt_25 rfl fl_X6_229 (by decide) rfl (by decide) ?_
    refine q_isub 29 dX6_isWordAt_28 rfl ?_
    refine q_iload 31 dX6_isWordAt_29 rfl rfl ?_
    refine q_icmp_ne 102 34 dX6_isWordAt_31 rfl rfl (fun h_31 => ?_) (fun h_31 => ?_)
    · skip
      rw [h16, h15, pk_sub h1, show (3 : Int32) = nI 3 from rfl, nI_eq (by omega) (by decide)] at h_31
      refine q_iconst (v := 0) 103 dX6_isWordAt_102 rfl rfl ?_
      refine q_zret dX6_isWordAt_103 rfl ?_
      refine ⟨congrArg (fun x => some (Value.int x)) ?_, rfl⟩
      have hw : ∀ z : wd (M 43 0) t [102, 101, 101], False := fun z => by
        obtain ⟨z1, z2, z3, z4, z5⟩ := wd3.mp z
        first | exact h_17 z1 | exact h_31 z2 | exact h_44 z3 | exact h_59 z4 | exact h_74 z5
      exact (bI_f hw).symm
    · skip
      rw [h16, h15, pk_sub h1, show (3 : Int32) = nI 3 from rfl, nI_eq (by omega) (by decide)] at h_31
      refine q_aload_n 35 dX6_isWordAt_34 rfl rfl ?_
      refine q_getR 38 dX6_isWordAt_35 rfl fl_X6_46 (by decide) rfl rfl ?_
      refine q_aload_n 39 dX6_isWordAt_38 rfl rfl ?_
      refine q_getI 42 dX6_isWordAt_39 rfl fl_X6_229 (by decide) rfl (by decide) ?_
      refine q_iald 43 dX6_isWordAt_42 rfl (by decide) (by decide) h15 (show t.1 < 96 by omega) ?_
      refine q_iload_n 44 dX6_isWordAt_43 rfl rfl ?_
      refine q_icmp_ne 102 47 dX6_isWordAt_44 rfl rfl (fun h_44 => ?_) (fun h_44 => ?_)
      · skip
        refine q_iconst (v := 0) 103 dX6_isWordAt_102 rfl rfl ?_
        refine q_zret dX6_isWordAt_103 rfl ?_
        refine ⟨congrArg (fun x => some (Value.int x)) ?_, rfl⟩
        have hw : ∀ z : wd (M 43 0) t [102, 101, 101], False := fun z => by
          obtain ⟨z1, z2, z3, z4, z5⟩ := wd3.mp z
          first | exact h_17 z1 | exact h_31 z2 | exact h_44 z3 | exact h_59 z4 | exact h_74 z5
        exact (bI_f hw).symm
      · skip
        refine q_aload_n 48 dX6_isWordAt_47 rfl rfl ?_
        refine q_getR 51 dX6_isWordAt_48 rfl fl_X6_46 (by decide) rfl rfl ?_
        refine q_aload_n 52 dX6_isWordAt_51 rfl rfl ?_
        refine q_getI 55 dX6_isWordAt_52 rfl fl_X6_229 (by decide) rfl (by decide) ?_
        refine q_iconst (v := 1) 56 dX6_isWordAt_55 rfl rfl ?_
        refine q_iadd 57 dX6_isWordAt_56 rfl ?_
        refine q_iald 58 dX6_isWordAt_57 rfl (by decide) (by decide) (by rw [h15]; exact nI_add t.1 1) (show t.1 + 1 < 96 by omega) ?_
        refine q_iload_n 59 dX6_isWordAt_58 rfl rfl ?_
        refine q_icmp_ne 102 62 dX6_isWordAt_59 rfl rfl (fun h_59 => ?_) (fun h_59 => ?_)
        · skip
          refine q_iconst (v := 0) 103 dX6_isWordAt_102 rfl rfl ?_
          refine q_zret dX6_isWordAt_103 rfl ?_
          refine ⟨congrArg (fun x => some (Value.int x)) ?_, rfl⟩
          have hw : ∀ z : wd (M 43 0) t [102, 101, 101], False := fun z => by
            obtain ⟨z1, z2, z3, z4, z5⟩ := wd3.mp z
            first | exact h_17 z1 | exact h_31 z2 | exact h_44 z3 | exact h_59 z4 | exact h_74 z5
          exact (bI_f hw).symm
        · skip
          refine q_aload_n 63 dX6_isWordAt_62 rfl rfl ?_
          refine q_getR 66 dX6_isWordAt_63 rfl fl_X6_46 (by decide) rfl rfl ?_
          refine q_aload_n 67 dX6_isWordAt_66 rfl rfl ?_
          refine q_getI 70 dX6_isWordAt_67 rfl fl_X6_229 (by decide) rfl (by decide) ?_
          refine q_iconst (v := 2) 71 dX6_isWordAt_70 rfl rfl ?_
          refine q_iadd 72 dX6_isWordAt_71 rfl ?_
          refine q_iald 73 dX6_isWordAt_72 rfl (by decide) (by decide) (by rw [h15]; exact nI_add t.1 2) (show t.1 + 2 < 96 by omega) ?_
          refine q_iload_n 74 dX6_isWordAt_73 rfl rfl ?_
          refine q_icmp_ne 102 77 dX6_isWordAt_74 rfl rfl (fun h_74 => ?_) (fun h_74 => ?_)
          · skip
            refine q_iconst (v := 0) 103 dX6_isWordAt_102 rfl rfl ?_
            refine q_zret dX6_isWordAt_103 rfl ?_
            refine ⟨congrArg (fun x => some (Value.int x)) ?_, rfl⟩
            have hw : ∀ z : wd (M 43 0) t [102, 101, 101], False := fun z => by
              obtain ⟨z1, z2, z3, z4, z5⟩ := wd3.mp z
              first | exact h_17 z1 | exact h_31 z2 | exact h_44 z3 | exact h_59 z4 | exact h_74 z5
            exact (bI_f hw).symm
          · skip
            refine q_iload 79 dX6_isWordAt_77 rfl rfl ?_
            refine q_if_eq 98 82 dX6_isWordAt_79 rfl rfl (fun _ => ?_) (fun h_79 => absurd rfl h_79)
            refine q_iconst (v := 1) 99 dX6_isWordAt_98 rfl rfl ?_
            refine q_goto 103 dX6_isWordAt_99 rfl ?_
            refine q_zret dX6_isWordAt_103 rfl ?_
            refine ⟨congrArg (fun x => some (Value.int x)) ?_, rfl⟩
            exact (bI_t (wd3.mpr ⟨h_17, h_31, h_44, h_59, h_74⟩)).symm
set_option maxRecDepth 100000 in
set_option maxHeartbeats 4000000 in
theorem c6_isWordb {g : GT} (M : TM) (T : Nat → Int32) (t : Tk) (hT : M 43 0 = T) (h15 : M 6 0 15 = nI t.1) (h16 : M 6 0 16 = nI t.2.1) (h17 : M 6 0 17 = nI t.2.2) (h1 : t.1 ≤ t.2.1) (h2 : t.2.1 ≤ 96) (h4 : t.2.2 ≤ 4) : Cn g yX6_isWordAt cX6_isWordAt 6 (some .boolean) 0 [.ref (gad g 6 0), .int 102, .int 105, .int 110, .int 101] M (Rt (.int (bI (wd T t [102, 105, 110, 101]))) M) := by
  refine Cn.ofTR (by decide +kernel) (Nat.le_of_ble_eq_true rfl) ?_
  subst hT
  refine q_iload 2 dX6_isWordAt_0 rfl rfl ?_
  refine q_if_ne 9 5 dX6_isWordAt_2 rfl rfl (fun _ => ?_) (fun h_2 => absurd h_2 (by decide))
  refine q_iconst (v := 4) 10 dX6_isWordAt_9 rfl rfl ?_
  refine q_istore 12 dX6_isWordAt_10 rfl (by decide) rfl ?_
  refine q_aload_n 13 dX6_isWordAt_12 rfl rfl ?_
  refine q_getI 16 dX6_isWordAt_13 rfl fl_X6_226 (by decide) rfl (by decide) ?_
  refine q_iconst (v := 1) 17 dX6_isWordAt_16 rfl rfl ?_
  refine q_icmp_ne 102 20 dX6_isWordAt_17 rfl rfl (fun h_17 => ?_) (fun h_17 => ?_)
  · skip
    rw [h17, nI_e1 (by omega)] at h_17
    refine q_iconst (v := 0) 103 dX6_isWordAt_102 rfl rfl ?_
    refine q_zret dX6_isWordAt_103 rfl ?_
    refine ⟨congrArg (fun x => some (Value.int x)) ?_, rfl⟩
    have hw : ∀ z : wd (M 43 0) t [102, 105, 110, 101], False := fun z => by
      obtain ⟨z1, z2, z3, z4, z5, z6⟩ := wd4.mp z
      first | exact h_17 z1 | exact h_31 z2 | exact h_44 z3 | exact h_59 z4 | exact h_74 z5 | exact h_95 z6
    exact (bI_f hw).symm
  · skip
    rw [h17, nI_e1 (by omega)] at h_17
    refine q_aload_n 21 dX6_isWordAt_20 rfl rfl ?_
    refine q_getI 24 dX6_isWordAt_21 rfl fl_X6_223 (by decide) rfl (by decide) ?_
    refine q_aload_n 25 dX6_isWordAt_24 rfl rfl ?_
    refine q_getI 28 dX6_isWordAt_25 rfl fl_X6_229 (by decide) rfl (by decide) ?_
    refine q_isub 29 dX6_isWordAt_28 rfl ?_
    refine q_iload 31 dX6_isWordAt_29 rfl rfl ?_
    refine q_icmp_ne 102 34 dX6_isWordAt_31 rfl rfl (fun h_31 => ?_) (fun h_31 => ?_)
    · skip
      rw [h16, h15, pk_sub h1, show (4 : Int32) = nI 4 from rfl, nI_eq (by omega) (by decide)] at h_31
      refine q_iconst (v := 0) 103 dX6_isWordAt_102 rfl rfl ?_
      refine q_zret dX6_isWordAt_103 rfl ?_
      refine ⟨congrArg (fun x => some (Value.int x)) ?_, rfl⟩
      have hw : ∀ z : wd (M 43 0) t [102, 105, 110, 101], False := fun z => by
        obtain ⟨z1, z2, z3, z4, z5, z6⟩ := wd4.mp z
        first | exact h_17 z1 | exact h_31 z2 | exact h_44 z3 | exact h_59 z4 | exact h_74 z5 | exact h_95 z6
      exact (bI_f hw).symm
    · skip
      rw [h16, h15, pk_sub h1, show (4 : Int32) = nI 4 from rfl, nI_eq (by omega) (by decide)] at h_31
      refine q_aload_n 35 dX6_isWordAt_34 rfl rfl ?_
      refine q_getR 38 dX6_isWordAt_35 rfl fl_X6_46 (by decide) rfl rfl ?_
      refine q_aload_n 39 dX6_isWordAt_38 rfl rfl ?_
      refine q_getI 42 dX6_isWordAt_39 rfl fl_X6_229 (by decide) rfl (by decide) ?_
      refine q_iald 43 dX6_isWordAt_42 rfl (by decide) (by decide) h15 (show t.1 < 96 by omega) ?_
      refine q_iload_n 44 dX6_isWordAt_43 rfl rfl ?_
      refine q_icmp_ne 102 47 dX6_isWordAt_44 rfl rfl (fun h_44 => ?_) (fun h_44 => ?_)
      · skip
        refine q_iconst (v := 0) 103 dX6_isWordAt_102 rfl rfl ?_
        refine q_zret dX6_isWordAt_103 rfl ?_
        refine ⟨congrArg (fun x => some (Value.int x)) ?_, rfl⟩
        have hw : ∀ z : wd (M 43 0) t [102, 105, 110, 101], False := fun z => by
          obtain ⟨z1, z2, z3, z4, z5, z6⟩ := wd4.mp z
          first | exact h_17 z1 | exact h_31 z2 | exact h_44 z3 | exact h_59 z4 | exact h_74 z5 | exact h_95 z6
        exact (bI_f hw).symm
      · skip
        refine q_aload_n 48 dX6_isWordAt_47 rfl rfl ?_
        refine q_getR 51 dX6_isWordAt_48 rfl fl_X6_46 (by decide) rfl rfl ?_
        refine q_aload_n 52 dX6_isWordAt_51 rfl rfl ?_
        refine q_getI 55 dX6_isWordAt_52 rfl fl_X6_229 (by decide) rfl (by decide) ?_
        refine q_iconst (v := 1) 56 dX6_isWordAt_55 rfl rfl ?_
        refine q_iadd 57 dX6_isWordAt_56 rfl ?_
        refine q_iald 58 dX6_isWordAt_57 rfl (by decide) (by decide) (by rw [h15]; exact nI_add t.1 1) (show t.1 + 1 < 96 by omega) ?_
        refine q_iload_n 59 dX6_isWordAt_58 rfl rfl ?_
        refine q_icmp_ne 102 62 dX6_isWordAt_59 rfl rfl (fun h_59 => ?_) (fun h_59 => ?_)
        · skip
          refine q_iconst (v := 0) 103 dX6_isWordAt_102 rfl rfl ?_
          refine q_zret dX6_isWordAt_103 rfl ?_
          refine ⟨congrArg (fun x => some (Value.int x)) ?_, rfl⟩
          have hw : ∀ z : wd (M 43 0) t [102, 105, 110, 101], False := fun z => by
            obtain ⟨z1, z2, z3, z4, z5, z6⟩ := wd4.mp z
            first | exact h_17 z1 | exact h_31 z2 | exact h_44 z3 | exact h_59 z4 | exact h_74 z5 | exact h_95 z6
          exact (bI_f hw).symm
        · skip
          refine q_aload_n 63 dX6_isWordAt_62 rfl rfl ?_
          refine q_getR 66 dX6_isWordAt_63 rfl fl_X6_46 (by decide) rfl rfl ?_
          refine q_aload_n 67 dX6_isWordAt_66 rfl rfl ?_
          refine q_getI 70 dX6_isWordAt_67 rfl fl_X6_229 (by decide) rfl (by decide) ?_
          refine q_iconst (v := 2) 71 dX6_isWordAt_70 rfl rfl ?_
          refine q_iadd 72 dX6_isWordAt_71 rfl ?_
          refine q_iald 73 dX6_isWordAt_72 rfl (by decide) (by decide) (by rw [h15]; exact nI_add t.1 2) (show t.1 + 2 < 96 by omega) ?_
          refine q_iload_n 74 dX6_isWordAt_73 rfl rfl ?_
          refine q_icmp_ne 102 77 dX6_isWordAt_74 rfl rfl (fun h_74 => ?_) (fun h_74 => ?_)
          · skip
            refine q_iconst (v := 0) 103 dX6_isWordAt_102 rfl rfl ?_
            refine q_zret dX6_isWordAt_103 rfl ?_
            refine ⟨congrArg (fun x => some (Value.int x)) ?_, rfl⟩
            have hw : ∀ z : wd (M 43 0) t [102, 105, 110, 101], False := fun z => by
              obtain ⟨z1, z2, z3, z4, z5, z6⟩ := wd4.mp z
              first | exact h_17 z1 | exact h_31 z2 | exact h_44 z3 | exact h_59 z4 | exact h_74 z5 | exact h_95 z6
            exact (bI_f hw).symm
          · skip
            refine q_iload 79 dX6_isWordAt_77 rfl rfl ?_
            refine q_if_eq 98 82 dX6_isWordAt_79 rfl rfl (fun h_79 => absurd h_79 (by decide)) (fun _ => ?_)
            refine q_aload_n 83 dX6_isWordAt_82 rfl rfl ?_
            refine q_getR 86 dX6_isWordAt_83 rfl fl_X6_46 (by decide) rfl rfl ?_
            refine q_aload_n 87 dX6_isWordAt_86 rfl rfl ?_
            refine q_getI 90 dX6_isWordAt_87 rfl fl_X6_229 (by decide) rfl (by decide) ?_
            refine q_iconst (v := 3) 91 dX6_isWordAt_90 rfl rfl ?_
            refine q_iadd 92 dX6_isWordAt_91 rfl ?_
            refine q_iald 93 dX6_isWordAt_92 rfl (by decide) (by decide) (by rw [h15]; exact nI_add t.1 3) (show t.1 + 3 < 96 by omega) ?_
            refine q_iload 95 dX6_isWordAt_93 rfl rfl ?_
            refine q_icmp_ne 102 98 dX6_isWordAt_95 rfl rfl (fun h_95 => ?_) (fun h_95 => ?_)
            · skip
              refine q_iconst (v := 0) 103 dX6_isWordAt_102 rfl rfl ?_
              refine q_zret dX6_isWordAt_103 rfl ?_
              refine ⟨congrArg (fun x => some (Value.int x)) ?_, rfl⟩
              have hw : ∀ z : wd (M 43 0) t [102, 105, 110, 101], False := fun z => by
                obtain ⟨z1, z2, z3, z4, z5, z6⟩ := wd4.mp z
                first | exact h_17 z1 | exact h_31 z2 | exact h_44 z3 | exact h_59 z4 | exact h_74 z5 | exact h_95 z6
              exact (bI_f hw).symm
            · skip
              refine q_iconst (v := 1) 99 dX6_isWordAt_98 rfl rfl ?_
              refine q_goto 103 dX6_isWordAt_99 rfl ?_
              refine q_zret dX6_isWordAt_103 rfl ?_
              refine ⟨congrArg (fun x => some (Value.int x)) ?_, rfl⟩
              exact (bI_t (wd4.mpr ⟨h_17, h_31, h_44, h_59, h_74, h_95⟩)).symm
set_option maxRecDepth 100000 in
set_option maxHeartbeats 4000000 in
theorem t6_key118 {g : GT} (M : TM) (T : Nat → Int32) (t : Tk) (hT : M 43 0 = T) (h15 : M 6 0 15 = nI t.1) (h16 : M 6 0 16 = nI t.2.1) (h17 : M 6 0 17 = nI t.2.2) (h1 : t.1 ≤ t.2.1) (h2 : t.2.1 ≤ 96) (h4 : t.2.2 ≤ 4) (hw : ¬ wd T t [98, 114, 101, 97, 116, 104]) : TR g (rmD 1) RX6 cX6_key 1 (some .int) 0 0 (Zm g (Rt (.int (kyF T t)) M)) 118 [some (.ref (gad g 6 0))] [] M := by
  refine q_aload_n 119 dX6_key_118 rfl rfl ?_
  refine q_bipush (v := 102) 121 dX6_key_119 rfl rfl ?_
  refine q_bipush (v := 101) 123 dX6_key_121 rfl rfl ?_
  refine q_bipush (v := 101) 125 dX6_key_123 rfl rfl ?_
  refine q_iconst (v := 0) 126 dX6_key_125 rfl rfl ?_
  refine q_callVt 129 dX6_key_126 rfl (c6_isWorda _ T t hT h15 h16 h17 h1 h2 h4) cw_X6_244 (by decide) rfl rfl ⟨by decide, by decide⟩ ⟨by decide, by decide⟩ (Nat.le_of_ble_eq_true rfl) ?_
  refine q_if_eq 134 132 dX6_key_129 rfl rfl (fun h_129 => ?_) (fun h_129 => ?_)
  · skip
    simp only [bI_0, Classical.not_not] at h_129
    refine q_aload_n 135 dX6_key_134 rfl rfl ?_
    refine q_bipush (v := 102) 137 dX6_key_135 rfl rfl ?_
    refine q_bipush (v := 105) 139 dX6_key_137 rfl rfl ?_
    refine q_bipush (v := 110) 141 dX6_key_139 rfl rfl ?_
    refine q_bipush (v := 101) 143 dX6_key_141 rfl rfl ?_
    refine q_callVt 146 dX6_key_143 rfl (c6_isWordb _ T t hT h15 h16 h17 h1 h2 h4) cw_X6_244 (by decide) rfl rfl ⟨by decide, by decide⟩ ⟨by decide, by decide⟩ (Nat.le_of_ble_eq_true rfl) ?_
    refine q_if_eq 153 149 dX6_key_146 rfl rfl (fun h_146 => ?_) (fun h_146 => ?_)
    · skip
      simp only [bI_0, Classical.not_not] at h_146
      refine q_iconst (v := (-1)) 154 dX6_key_153 rfl rfl ?_
      refine q_iret dX6_key_154 ?_
      refine ⟨congrArg (fun x => some (Value.int x)) ?_, rfl⟩
      unfold kyF
      first
        | (rw [if_neg hw, if_pos h_129])
        | (rw [if_neg hw, if_neg h_129, if_pos h_146])
        | (rw [if_neg hw, if_neg h_129, if_neg h_146])
    · skip
      simp only [bI_0, Classical.not_not] at h_146
      refine q_iconst (v := 2) 150 dX6_key_149 rfl rfl ?_
      refine q_goto 154 dX6_key_150 rfl ?_
      refine q_iret dX6_key_154 ?_
      refine ⟨congrArg (fun x => some (Value.int x)) ?_, rfl⟩
      unfold kyF
      first
        | (rw [if_neg hw, if_pos h_129])
        | (rw [if_neg hw, if_neg h_129, if_pos h_146])
        | (rw [if_neg hw, if_neg h_129, if_neg h_146])
  · skip
    simp only [bI_0, Classical.not_not] at h_129
    refine q_iconst (v := 1) 133 dX6_key_132 rfl rfl ?_
    refine q_iret dX6_key_133 ?_
    refine ⟨congrArg (fun x => some (Value.int x)) ?_, rfl⟩
    unfold kyF
    first
      | (rw [if_neg hw, if_pos h_129])
      | (rw [if_neg hw, if_neg h_129, if_pos h_146])
      | (rw [if_neg hw, if_neg h_129, if_neg h_146])
set_option maxRecDepth 100000 in
set_option maxHeartbeats 4000000 in
theorem c6_key {g : GT} (M : TM) (T : Nat → Int32) (t : Tk) (hT : M 43 0 = T) (h15 : M 6 0 15 = nI t.1) (h16 : M 6 0 16 = nI t.2.1) (h17 : M 6 0 17 = nI t.2.2) (h1 : t.1 ≤ t.2.1) (h2 : t.2.1 ≤ 96) (h4 : t.2.2 ≤ 4) : Cn g yX6_key cX6_key 1 (some .int) 1 [.ref (gad g 6 0)] M (Rt (.int (kyF T t)) M) := by
  refine Cn.ofTR (by decide +kernel) (Nat.le_of_ble_eq_true rfl) ?_
  subst hT
  refine q_aload_n 1 dX6_key_0 rfl rfl ?_
  refine q_getI 4 dX6_key_1 rfl fl_X6_226 (by decide) rfl (by decide) ?_
  refine q_iconst (v := 1) 5 dX6_key_4 rfl rfl ?_
  refine q_icmp_ne 118 8 dX6_key_5 rfl rfl (fun h_5 => ?_) (fun h_5 => ?_)
  · skip
    rw [h17, nI_e1 (by omega)] at h_5
    have hw : ¬ wd (M 43 0) t [98, 114, 101, 97, 116, 104] := fun z => by
      obtain ⟨z1, z2, z3, z4, z5, z6, z7, z8⟩ := wd6.mp z
      first | exact h_5 z1 | exact h_19 z2 | exact h_33 z3 | exact h_49 z4 | exact h_65 z5 | exact h_81 z6 | exact h_97 z7 | exact h_113 z8
    exact q_fg (t6_key118 M _ t rfl h15 h16 h17 h1 h2 h4 hw) ⟨rfl, trivial⟩
  · skip
    rw [h17, nI_e1 (by omega)] at h_5
    refine q_aload_n 9 dX6_key_8 rfl rfl ?_
    refine q_getI 12 dX6_key_9 rfl fl_X6_223 (by decide) rfl (by decide) ?_
    refine q_aload_n 13 dX6_key_12 rfl rfl ?_
    refine q_getI 16 dX6_key_13 rfl fl_X6_229 (by decide) rfl (by decide) ?_
    refine q_isub 17 dX6_key_16 rfl ?_
    refine q_bipush (v := 6) 19 dX6_key_17 rfl rfl ?_
    refine q_icmp_ne 118 22 dX6_key_19 rfl rfl (fun h_19 => ?_) (fun h_19 => ?_)
    · skip
      rw [h16, h15, pk_sub h1, show (6 : Int32) = nI 6 from rfl, nI_eq (by omega) (by decide)] at h_19
      have hw : ¬ wd (M 43 0) t [98, 114, 101, 97, 116, 104] := fun z => by
        obtain ⟨z1, z2, z3, z4, z5, z6, z7, z8⟩ := wd6.mp z
        first | exact h_5 z1 | exact h_19 z2 | exact h_33 z3 | exact h_49 z4 | exact h_65 z5 | exact h_81 z6 | exact h_97 z7 | exact h_113 z8
      exact q_fg (t6_key118 M _ t rfl h15 h16 h17 h1 h2 h4 hw) ⟨rfl, trivial⟩
    · skip
      rw [h16, h15, pk_sub h1, show (6 : Int32) = nI 6 from rfl, nI_eq (by omega) (by decide)] at h_19
      refine q_aload_n 23 dX6_key_22 rfl rfl ?_
      refine q_getR 26 dX6_key_23 rfl fl_X6_46 (by decide) rfl rfl ?_
      refine q_aload_n 27 dX6_key_26 rfl rfl ?_
      refine q_getI 30 dX6_key_27 rfl fl_X6_229 (by decide) rfl (by decide) ?_
      refine q_iald 31 dX6_key_30 rfl (by decide) (by decide) h15 (show t.1 < 96 by omega) ?_
      refine q_bipush (v := 98) 33 dX6_key_31 rfl rfl ?_
      refine q_icmp_ne 118 36 dX6_key_33 rfl rfl (fun h_33 => ?_) (fun h_33 => ?_)
      · skip
        have hw : ¬ wd (M 43 0) t [98, 114, 101, 97, 116, 104] := fun z => by
          obtain ⟨z1, z2, z3, z4, z5, z6, z7, z8⟩ := wd6.mp z
          first | exact h_5 z1 | exact h_19 z2 | exact h_33 z3 | exact h_49 z4 | exact h_65 z5 | exact h_81 z6 | exact h_97 z7 | exact h_113 z8
        exact q_fg (t6_key118 M _ t rfl h15 h16 h17 h1 h2 h4 hw) ⟨rfl, trivial⟩
      · skip
        refine q_aload_n 37 dX6_key_36 rfl rfl ?_
        refine q_getR 40 dX6_key_37 rfl fl_X6_46 (by decide) rfl rfl ?_
        refine q_aload_n 41 dX6_key_40 rfl rfl ?_
        refine q_getI 44 dX6_key_41 rfl fl_X6_229 (by decide) rfl (by decide) ?_
        refine q_iconst (v := 1) 45 dX6_key_44 rfl rfl ?_
        refine q_iadd 46 dX6_key_45 rfl ?_
        refine q_iald 47 dX6_key_46 rfl (by decide) (by decide) (by rw [h15]; exact nI_add t.1 1) (show t.1 + 1 < 96 by omega) ?_
        refine q_bipush (v := 114) 49 dX6_key_47 rfl rfl ?_
        refine q_icmp_ne 118 52 dX6_key_49 rfl rfl (fun h_49 => ?_) (fun h_49 => ?_)
        · skip
          have hw : ¬ wd (M 43 0) t [98, 114, 101, 97, 116, 104] := fun z => by
            obtain ⟨z1, z2, z3, z4, z5, z6, z7, z8⟩ := wd6.mp z
            first | exact h_5 z1 | exact h_19 z2 | exact h_33 z3 | exact h_49 z4 | exact h_65 z5 | exact h_81 z6 | exact h_97 z7 | exact h_113 z8
          exact q_fg (t6_key118 M _ t rfl h15 h16 h17 h1 h2 h4 hw) ⟨rfl, trivial⟩
        · skip
          refine q_aload_n 53 dX6_key_52 rfl rfl ?_
          refine q_getR 56 dX6_key_53 rfl fl_X6_46 (by decide) rfl rfl ?_
          refine q_aload_n 57 dX6_key_56 rfl rfl ?_
          refine q_getI 60 dX6_key_57 rfl fl_X6_229 (by decide) rfl (by decide) ?_
          refine q_iconst (v := 2) 61 dX6_key_60 rfl rfl ?_
          refine q_iadd 62 dX6_key_61 rfl ?_
          refine q_iald 63 dX6_key_62 rfl (by decide) (by decide) (by rw [h15]; exact nI_add t.1 2) (show t.1 + 2 < 96 by omega) ?_
          refine q_bipush (v := 101) 65 dX6_key_63 rfl rfl ?_
          refine q_icmp_ne 118 68 dX6_key_65 rfl rfl (fun h_65 => ?_) (fun h_65 => ?_)
          · skip
            have hw : ¬ wd (M 43 0) t [98, 114, 101, 97, 116, 104] := fun z => by
              obtain ⟨z1, z2, z3, z4, z5, z6, z7, z8⟩ := wd6.mp z
              first | exact h_5 z1 | exact h_19 z2 | exact h_33 z3 | exact h_49 z4 | exact h_65 z5 | exact h_81 z6 | exact h_97 z7 | exact h_113 z8
            exact q_fg (t6_key118 M _ t rfl h15 h16 h17 h1 h2 h4 hw) ⟨rfl, trivial⟩
          · skip
            refine q_aload_n 69 dX6_key_68 rfl rfl ?_
            refine q_getR 72 dX6_key_69 rfl fl_X6_46 (by decide) rfl rfl ?_
            refine q_aload_n 73 dX6_key_72 rfl rfl ?_
            refine q_getI 76 dX6_key_73 rfl fl_X6_229 (by decide) rfl (by decide) ?_
            refine q_iconst (v := 3) 77 dX6_key_76 rfl rfl ?_
            refine q_iadd 78 dX6_key_77 rfl ?_
            refine q_iald 79 dX6_key_78 rfl (by decide) (by decide) (by rw [h15]; exact nI_add t.1 3) (show t.1 + 3 < 96 by omega) ?_
            refine q_bipush (v := 97) 81 dX6_key_79 rfl rfl ?_
            refine q_icmp_ne 118 84 dX6_key_81 rfl rfl (fun h_81 => ?_) (fun h_81 => ?_)
            · skip
              have hw : ¬ wd (M 43 0) t [98, 114, 101, 97, 116, 104] := fun z => by
                obtain ⟨z1, z2, z3, z4, z5, z6, z7, z8⟩ := wd6.mp z
                first | exact h_5 z1 | exact h_19 z2 | exact h_33 z3 | exact h_49 z4 | exact h_65 z5 | exact h_81 z6 | exact h_97 z7 | exact h_113 z8
              exact q_fg (t6_key118 M _ t rfl h15 h16 h17 h1 h2 h4 hw) ⟨rfl, trivial⟩
            · skip
              refine q_aload_n 85 dX6_key_84 rfl rfl ?_
              refine q_getR 88 dX6_key_85 rfl fl_X6_46 (by decide) rfl rfl ?_
              refine q_aload_n 89 dX6_key_88 rfl rfl ?_
              refine q_getI 92 dX6_key_89 rfl fl_X6_229 (by decide) rfl (by decide) ?_
              refine q_iconst (v := 4) 93 dX6_key_92 rfl rfl ?_
              refine q_iadd 94 dX6_key_93 rfl ?_
              refine q_iald 95 dX6_key_94 rfl (by decide) (by decide) (by rw [h15]; exact nI_add t.1 4) (show t.1 + 4 < 96 by omega) ?_
              refine q_bipush (v := 116) 97 dX6_key_95 rfl rfl ?_
              refine q_icmp_ne 118 100 dX6_key_97 rfl rfl (fun h_97 => ?_) (fun h_97 => ?_)
              · skip
                have hw : ¬ wd (M 43 0) t [98, 114, 101, 97, 116, 104] := fun z => by
                  obtain ⟨z1, z2, z3, z4, z5, z6, z7, z8⟩ := wd6.mp z
                  first | exact h_5 z1 | exact h_19 z2 | exact h_33 z3 | exact h_49 z4 | exact h_65 z5 | exact h_81 z6 | exact h_97 z7 | exact h_113 z8
                exact q_fg (t6_key118 M _ t rfl h15 h16 h17 h1 h2 h4 hw) ⟨rfl, trivial⟩
              · skip
                refine q_aload_n 101 dX6_key_100 rfl rfl ?_
                refine q_getR 104 dX6_key_101 rfl fl_X6_46 (by decide) rfl rfl ?_
                refine q_aload_n 105 dX6_key_104 rfl rfl ?_
                refine q_getI 108 dX6_key_105 rfl fl_X6_229 (by decide) rfl (by decide) ?_
                refine q_iconst (v := 5) 109 dX6_key_108 rfl rfl ?_
                refine q_iadd 110 dX6_key_109 rfl ?_
                refine q_iald 111 dX6_key_110 rfl (by decide) (by decide) (by rw [h15]; exact nI_add t.1 5) (show t.1 + 5 < 96 by omega) ?_
                refine q_bipush (v := 104) 113 dX6_key_111 rfl rfl ?_
                refine q_icmp_ne 118 116 dX6_key_113 rfl rfl (fun h_113 => ?_) (fun h_113 => ?_)
                · skip
                  have hw : ¬ wd (M 43 0) t [98, 114, 101, 97, 116, 104] := fun z => by
                    obtain ⟨z1, z2, z3, z4, z5, z6, z7, z8⟩ := wd6.mp z
                    first | exact h_5 z1 | exact h_19 z2 | exact h_33 z3 | exact h_49 z4 | exact h_65 z5 | exact h_81 z6 | exact h_97 z7 | exact h_113 z8
                  exact q_fg (t6_key118 M _ t rfl h15 h16 h17 h1 h2 h4 hw) ⟨rfl, trivial⟩
                · skip
                  refine q_iconst (v := 0) 117 dX6_key_116 rfl rfl ?_
                  refine q_iret dX6_key_117 ?_
                  refine ⟨congrArg (fun x => some (Value.int x)) ?_, rfl⟩
                  exact (if_pos (wd6.mpr ⟨h_5, h_19, h_33, h_49, h_65, h_81, h_97, h_113⟩)).symm
def stM (N : TM) (b m : Nat) (w v : Int32) : TM := putA (putA N 31 0 (upd (upd (N 31 0) (b + 2 * m) w) (b + 2 * m + 1) v)) 6 0 (upd (N 6 0) 22 (nI (m + 1)))
set_option maxRecDepth 100000 in
set_option maxHeartbeats 4000000 in
theorem c6_step {g : GT} (N : TM) (w v : Int32) (b m : Nat) (h23 : N 6 0 23 = nI b) (h22 : N 6 0 22 = nI m) (hb : b + 2 * m + 1 < 3071) : Cn g yX6_step cX6_step 3 none 0 [.ref (gad g 6 0), .int w, .int v] N (Rv (stM N b m w v)) := by
  refine Cn.ofTR (by decide +kernel) (Nat.le_of_ble_eq_true rfl) ?_
  refine q_aload_n 1 dX6_step_0 rfl rfl ?_
  refine q_getR 4 dX6_step_1 rfl fl_X6_7 (by decide) rfl rfl ?_
  refine q_aload_n 5 dX6_step_4 rfl rfl ?_
  refine q_getI 8 dX6_step_5 rfl fl_X6_248 (by decide) rfl (by decide) ?_
  refine q_iconst (v := 2) 9 dX6_step_8 rfl rfl ?_
  refine q_aload_n 10 dX6_step_9 rfl rfl ?_
  refine q_getI 13 dX6_step_10 rfl fl_X6_251 (by decide) rfl (by decide) ?_
  refine q_imul 14 dX6_step_13 rfl ?_
  refine q_iadd 15 dX6_step_14 rfl ?_
  refine q_iload_n 16 dX6_step_15 rfl rfl ?_
  refine q_iast 17 dX6_step_16 rfl (by decide) (by decide) (by rw [h23, h22, nI_mul2, nI_add]) (show b + 2 * m < 3071 by omega) ?_
  refine q_aload_n 18 dX6_step_17 rfl rfl ?_
  refine q_getR 21 dX6_step_18 rfl fl_X6_7 (by decide) rfl rfl ?_
  refine q_aload_n 22 dX6_step_21 rfl rfl ?_
  refine q_getI 25 dX6_step_22 rfl fl_X6_248 (by decide) rfl (by decide) ?_
  refine q_iconst (v := 2) 26 dX6_step_25 rfl rfl ?_
  refine q_aload_n 27 dX6_step_26 rfl rfl ?_
  refine q_getI 30 dX6_step_27 rfl fl_X6_251 (by decide) rfl (by decide) ?_
  refine q_imul 31 dX6_step_30 rfl ?_
  refine q_iadd 32 dX6_step_31 rfl ?_
  refine q_iconst (v := 1) 33 dX6_step_32 rfl rfl ?_
  refine q_iadd 34 dX6_step_33 rfl ?_
  refine q_iload_n 35 dX6_step_34 rfl rfl ?_
  refine q_iast 36 dX6_step_35 rfl (by decide) (by decide) (by show N 6 0 23 + 2 * N 6 0 22 + 1 = _; rw [h23, h22, nI_mul2, nI_add, nI_1]) (show b + 2 * m + 1 < 3071 by omega) ?_
  refine q_aload_n 37 dX6_step_36 rfl rfl ?_
  refine q_dup 38 dX6_step_37 rfl rfl ?_
  refine q_getI 41 dX6_step_38 rfl fl_X6_251 (by decide) rfl (by decide) ?_
  refine q_iconst (v := 1) 42 dX6_step_41 rfl rfl ?_
  refine q_iadd 43 dX6_step_42 rfl ?_
  refine q_putI 46 dX6_step_43 rfl fl_X6_251 fp_6_22 (by decide) rfl (by decide) rfl rfl ?_
  refine q_vret dX6_step_46 ?_
  refine ⟨rfl, ?_⟩
  unfold stM
  rw [putA_pp, putA_s]
  show putA _ 6 0 (upd (N 6 0) 22 (N 6 0 22 + 1)) = _
  rw [h22, nI_1]
