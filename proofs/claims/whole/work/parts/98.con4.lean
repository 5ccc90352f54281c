/-! CONSTRUCTORS: their contracts -/
def fs_X1 (g : GT) (n : Nat) : List Value := ((dfs 1).set 0 (.ref (n0 g + n))).set 1 (.int (-1))
def L1_X1 (g : GT) (n : Nat) : List va_E := (([] : List va_E) ++ [.inl (gc g 0, 24, .inl (fun _ => 0))] : List va_E)
set_option maxRecDepth 100000 in
set_option maxHeartbeats 4000000 in
theorem cc_X1 : Cc yX1_init cX1_init 1 1 1 (fun _ => []) (fs_X1) L1_X1 1 24 := by
  intro g E i n hi
  refine Ci.of (by decide +kernel) (Or.inr rfl) (Nat.le_of_ble_eq_true rfl) ?_
  refine r_aload_n 1 dX1_init_0 rfl rfl ?_
  refine r_obj 4 dX1_init_1 rfl ko_X1 ⟨by decide, by decide⟩ ?_
  refine r_aload_n 5 dX1_init_4 rfl rfl ?_
  refine r_bipush (v := 24) 7 dX1_init_5 rfl rfl ?_
  refine s_newa (Len := 24) 9 (n + 1) 1 24 dX1_init_7 rfl hi rfl ⟨rfl, rfl, rfl⟩ rfl (by decide) ⟨by decide, by decide⟩ ?_
  refine s_put (ty := (.array .int)) 12 dX1_init_9 rfl fl_X1_9 ⟨_, _, rfl, by decide +kernel⟩ hi (by omega) (Nat.le_of_ble_eq_true rfl) rfl rfl ⟨by decide, by decide⟩ ?_
  refine r_aload_n 13 dX1_init_12 rfl rfl ?_
  refine r_iconst (v := (-1)) 14 dX1_init_13 rfl rfl ?_
  refine s_put (ty := .int) 17 dX1_init_14 rfl fl_X1_15 ⟨_, _, rfl, by decide +kernel⟩ hi (by omega) (Nat.le_of_ble_eq_true rfl) rfl rfl ⟨by decide, by decide⟩ ?_
  exact r_vret (P := fun _ => True) dX1_init_17 ⟨rfl, rfl⟩ (fun args s t hp hz hF => ⟨rfl, hp, hz, hF⟩)
def fs_X2 (g : GT) (n : Nat) : List Value := ((dfs 2).set 0 (.ref (n0 g + n))).set 1 (.int 0)
def L1_X2 (g : GT) (n : Nat) : List va_E := (((([] : List va_E) ++ [.inr (1, dfs 1)] : List va_E).set 0 (.inr (1, fs_X1 g (n + 1))) : List va_E) ++ L1_X1 g (n + 1) : List va_E)
set_option maxRecDepth 100000 in
set_option maxHeartbeats 4000000 in
theorem cc_X2 : Cc yX2_init cX2_init 1 2 2 (fun _ => []) (fs_X2) L1_X2 2 27 := by
  intro g E i n hi
  refine Ci.of (by decide +kernel) (Or.inr rfl) (Nat.le_of_ble_eq_true rfl) ?_
  refine r_aload_n 1 dX2_init_0 rfl rfl ?_
  refine r_obj 4 dX2_init_1 rfl ko_X2 ⟨by decide, by decide⟩ ?_
  refine r_aload_n 5 dX2_init_4 rfl rfl ?_
  refine s_new (ci := 1) 8 (n + 1) 1 3 dX2_init_5 rfl kl_X2_9 ki_X1 kt_X1 rfl (by decide +kernel) hi rfl ⟨rfl, rfl, rfl⟩ ⟨by decide, by decide⟩ ?_
  refine r_dup 9 dX2_init_8 rfl rfl ?_
  refine s_inN (k := 0) (a := n) (N := 0) 12 (n + 2) 2 27 dX2_init_9 rfl cc_X1 (List.mem_of_getElem? (i := 4) rfl) kt_X1 kc_X1 (by decide +kernel) kn_X1 rfl rfl rfl ⟨by decide, by decide⟩ ⟨rfl, rfl, rfl⟩ ⟨by decide, by decide⟩ (Nat.le_of_ble_eq_true rfl) hi rfl rfl rfl ?_
  refine s_put (ty := (.object "UnderWhitewash$Sheet")) 15 dX2_init_12 rfl fl_X2_12 ⟨_, _, rfl, by decide +kernel⟩ hi (by omega) (Nat.le_of_ble_eq_true rfl) rfl rfl ⟨by decide, by decide⟩ ?_
  refine r_aload_n 16 dX2_init_15 rfl rfl ?_
  refine r_iconst (v := 0) 17 dX2_init_16 rfl rfl ?_
  refine s_put (ty := .int) 20 dX2_init_17 rfl fl_X2_18 ⟨_, _, rfl, by decide +kernel⟩ hi (by omega) (Nat.le_of_ble_eq_true rfl) rfl rfl ⟨by decide, by decide⟩ ?_
  exact r_vret (P := fun _ => True) dX2_init_20 ⟨rfl, rfl⟩ (fun args s t hp hz hF => ⟨rfl, hp, hz, hF⟩)
def fs_X3 (g : GT) (n : Nat) : List Value := (((((dfs 3).set 0 (.ref (n0 g + n))).set 1 (.ref (n0 g + (n + 15)))).set 2 (.ref (n0 g + (n + 16)))).set 3 (.ref (n0 g + (n + 17)))).set 4 (.ref (n0 g + (n + 18)))
def L1_X3 (g : GT) (n : Nat) : List va_E := (((((([] : List va_E) ++ (.inl (gc g 3, 14, rfs (fun q => if q < 14 then some (n0 g + n + 1 + q) else none)) :: List.replicate 14 (.inl (gc g 0, 96, .inl (fun _ => 0)))) : List va_E) ++ [.inl (gc g 0, 14, .inl (fun _ => 0))] : List va_E) ++ [.inl (gc g 0, 14, .inl (fun _ => 0))] : List va_E) ++ [.inl (gc g 0, 14, .inl (fun _ => 0))] : List va_E) ++ [.inl (gc g 0, 96, .inl (fun _ => 0))] : List va_E)
set_option maxRecDepth 100000 in
set_option maxHeartbeats 4000000 in
theorem cc_X3 : Cc yX3_init cX3_init 1 1 3 (fun _ => []) (fs_X3) L1_X3 19 1496 := by
  intro g E i n hi
  refine Ci.of (by decide +kernel) (Or.inr rfl) (Nat.le_of_ble_eq_true rfl) ?_
  refine r_aload_n 1 dX3_init_0 rfl rfl ?_
  refine r_obj 4 dX3_init_1 rfl ko_X3 ⟨by decide, by decide⟩ ?_
  refine r_aload_n 5 dX3_init_4 rfl rfl ?_
  refine r_bipush (v := 14) 7 dX3_init_5 rfl rfl ?_
  refine r_bipush (v := 96) 9 dX3_init_7 rfl rfl ?_
  refine s_mna (N := 14) (K := 96) 13 (n + 15) 15 1358 dX3_init_9 rfl rfl hi rfl ⟨rfl, rfl, rfl⟩ rfl rfl (by decide) (by decide) ⟨by decide, by decide⟩ ?_
  refine s_put (ty := (.array (.array .int))) 16 dX3_init_13 rfl fl_X3_11 ⟨_, _, rfl, by decide +kernel⟩ hi (by omega) (Nat.le_of_ble_eq_true rfl) rfl rfl ⟨by decide, by decide⟩ ?_
  refine r_aload_n 17 dX3_init_16 rfl rfl ?_
  refine r_bipush (v := 14) 19 dX3_init_17 rfl rfl ?_
  refine s_newa (Len := 14) 21 (n + 16) 16 1372 dX3_init_19 rfl hi rfl ⟨rfl, rfl, rfl⟩ rfl (by decide) ⟨by decide, by decide⟩ ?_
  refine s_put (ty := (.array .int)) 24 dX3_init_21 rfl fl_X3_16 ⟨_, _, rfl, by decide +kernel⟩ hi (by omega) (Nat.le_of_ble_eq_true rfl) rfl rfl ⟨by decide, by decide⟩ ?_
  refine r_aload_n 25 dX3_init_24 rfl rfl ?_
  refine r_bipush (v := 14) 27 dX3_init_25 rfl rfl ?_
  refine s_newa (Len := 14) 29 (n + 17) 17 1386 dX3_init_27 rfl hi rfl ⟨rfl, rfl, rfl⟩ rfl (by decide) ⟨by decide, by decide⟩ ?_
  refine s_put (ty := (.array .int)) 32 dX3_init_29 rfl fl_X3_20 ⟨_, _, rfl, by decide +kernel⟩ hi (by omega) (Nat.le_of_ble_eq_true rfl) rfl rfl ⟨by decide, by decide⟩ ?_
  refine r_aload_n 33 dX3_init_32 rfl rfl ?_
  refine r_bipush (v := 14) 35 dX3_init_33 rfl rfl ?_
  refine s_newa (Len := 14) 37 (n + 18) 18 1400 dX3_init_35 rfl hi rfl ⟨rfl, rfl, rfl⟩ rfl (by decide) ⟨by decide, by decide⟩ ?_
  refine s_put (ty := (.array .int)) 40 dX3_init_37 rfl fl_X3_23 ⟨_, _, rfl, by decide +kernel⟩ hi (by omega) (Nat.le_of_ble_eq_true rfl) rfl rfl ⟨by decide, by decide⟩ ?_
  refine r_aload_n 41 dX3_init_40 rfl rfl ?_
  refine r_bipush (v := 96) 43 dX3_init_41 rfl rfl ?_
  refine s_newa (Len := 96) 45 (n + 19) 19 1496 dX3_init_43 rfl hi rfl ⟨rfl, rfl, rfl⟩ rfl (by decide) ⟨by decide, by decide⟩ ?_
  refine s_put (ty := (.array .int)) 48 dX3_init_45 rfl fl_X3_26 ⟨_, _, rfl, by decide +kernel⟩ hi (by omega) (Nat.le_of_ble_eq_true rfl) rfl rfl ⟨by decide, by decide⟩ ?_
  exact r_vret (P := fun _ => True) dX3_init_48 ⟨rfl, rfl⟩ (fun args s t hp hz hF => ⟨rfl, hp, hz, hF⟩)
def fs_X0 (g : GT) (n : Nat) : List Value := ((dfs 0).set 0 (.ref (n0 g + n))).set 4 (.ref (n0 g + (n + 1)))
def L1_X0 (g : GT) (n : Nat) : List va_E := ((([] : List va_E) ++ [.inl (gc g 0, 96, .inl (fun _ => 0))] : List va_E) ++ [.inl (gc g 0, 0, .inl (fun _ => 0))] : List va_E)
set_option maxRecDepth 100000 in
set_option maxHeartbeats 4000000 in
theorem cc_X0 : Cc yX0_init cX0_init 1 1 0 (fun _ => []) (fs_X0) L1_X0 2 96 := by
  intro g E i n hi
  refine Ci.of (by decide +kernel) (Or.inr rfl) (Nat.le_of_ble_eq_true rfl) ?_
  refine r_aload_n 1 dX0_init_0 rfl rfl ?_
  refine r_obj 4 dX0_init_1 rfl ko_X0 ⟨by decide, by decide⟩ ?_
  refine r_aload_n 5 dX0_init_4 rfl rfl ?_
  refine r_bipush (v := 96) 7 dX0_init_5 rfl rfl ?_
  refine s_newa (Len := 96) 9 (n + 1) 1 96 dX0_init_7 rfl hi rfl ⟨rfl, rfl, rfl⟩ rfl (by decide) ⟨by decide, by decide⟩ ?_
  refine s_put (ty := (.array .int)) 12 dX0_init_9 rfl fl_X0_9 ⟨_, _, rfl, by decide +kernel⟩ hi (by omega) (Nat.le_of_ble_eq_true rfl) rfl rfl ⟨by decide, by decide⟩ ?_
  refine r_aload_n 13 dX0_init_12 rfl rfl ?_
  refine r_iconst (v := 0) 14 dX0_init_13 rfl rfl ?_
  refine s_newa (Len := 0) 16 (n + 2) 2 96 dX0_init_14 rfl hi rfl ⟨rfl, rfl, rfl⟩ rfl (by decide) ⟨by decide, by decide⟩ ?_
  refine s_put (ty := (.array .int)) 19 dX0_init_16 rfl fl_X0_15 ⟨_, _, rfl, by decide +kernel⟩ hi (by omega) (Nat.le_of_ble_eq_true rfl) rfl rfl ⟨by decide, by decide⟩ ?_
  exact r_vret (P := fun _ => True) dX0_init_19 ⟨rfl, rfl⟩ (fun args s t hp hz hF => ⟨rfl, hp, hz, hF⟩)
def fs_X4 (tx : Nat) (g : GT) (n : Nat) : List Value := (((((((((((((dfs 4).set 1 (.ref (n0 g + n))).set 2 (.ref (n0 g + (n + 1)))).set 3 (.ref (n0 g + (n + 2)))).set 4 (.ref (n0 g + (n + 3)))).set 5 (.ref (n0 g + (n + 4)))).set 6 (.ref (n0 g + (n + 5)))).set 7 (.ref (n0 g + (n + 6)))).set 8 (.ref (n0 g + (n + 7)))).set 9 (.ref (n0 g + (n + 8)))).set 10 (.ref (n0 g + (n + 9)))).set 15 (.int 1)).set 17 (.int (-1))).set 0 (.ref (n0 g + tx))
def L1_X4 (g : GT) (n : Nat) : List va_E := ((((((((((((((([] : List va_E) ++ [.inl (gc g 0, 6, .inl (fun _ => 0))] : List va_E) ++ [.inl (gc g 0, 6, .inl (fun _ => 0))] : List va_E) ++ [.inl (gc g 0, 6, .inl (fun _ => 0))] : List va_E) ++ [.inl (gc g 0, 10, .inl (fun _ => 0))] : List va_E) ++ [.inl (gc g 0, 10, .inl (fun _ => 0))] : List va_E) ++ [.inl (gc g 0, 10, .inl (fun _ => 0))] : List va_E) ++ [.inl (gc g 0, 10, .inl (fun _ => 0))] : List va_E) ++ [.inl (gc g 0, 10, .inl (fun _ => 0))] : List va_E) ++ [.inl (gc g 0, 3, .inl (fun _ => 0))] : List va_E) ++ [.inl (gc g 0, 3, .inl (fun _ => 0))] : List va_E).set 0 (.inl (gc g 0, 6, .inl (mixF (fun _ => 60) (fun _ => 0) 6))) : List va_E).set 9 (.inl (gc g 0, 3, .inl (mixF (fun _ => (-1000000005)) (fun _ => 0) 3))) : List va_E).set 8 (.inl (gc g 0, 3, .inl (upd (fun _ => 0) 0 3))) : List va_E).set 8 (.inl (gc g 0, 3, .inl (upd (upd (fun _ => 0) 0 3) 1 20))) : List va_E)
set_option maxRecDepth 100000 in
set_option maxHeartbeats 4000000 in
theorem cc_X4 (tx : Nat) : Cc yX4_init cX4_init 2 1 4 (fun g => [.ref (n0 g + tx)]) (fs_X4 tx) L1_X4 10 74 := by
  intro g E i n hi
  refine Ci.of (by decide +kernel) (Or.inr rfl) (Nat.le_of_ble_eq_true rfl) ?_
  refine r_aload_n 1 dX4_init_0 rfl rfl ?_
  refine r_obj 4 dX4_init_1 rfl ko_X4 ⟨by decide, by decide⟩ ?_
  refine r_aload_n 5 dX4_init_4 rfl rfl ?_
  refine r_bipush (v := 6) 7 dX4_init_5 rfl rfl ?_
  refine s_newa (Len := 6) 9 (n + 1) 1 6 dX4_init_7 rfl hi rfl ⟨rfl, rfl, rfl⟩ rfl (by decide) ⟨by decide, by decide⟩ ?_
  refine s_put (ty := (.array .int)) 12 dX4_init_9 rfl fl_X4_9 ⟨_, _, rfl, by decide +kernel⟩ hi (by omega) (Nat.le_of_ble_eq_true rfl) rfl rfl ⟨by decide, by decide⟩ ?_
  refine r_aload_n 13 dX4_init_12 rfl rfl ?_
  refine r_bipush (v := 6) 15 dX4_init_13 rfl rfl ?_
  refine s_newa (Len := 6) 17 (n + 2) 2 12 dX4_init_15 rfl hi rfl ⟨rfl, rfl, rfl⟩ rfl (by decide) ⟨by decide, by decide⟩ ?_
  refine s_put (ty := (.array .int)) 20 dX4_init_17 rfl fl_X4_15 ⟨_, _, rfl, by decide +kernel⟩ hi (by omega) (Nat.le_of_ble_eq_true rfl) rfl rfl ⟨by decide, by decide⟩ ?_
  refine r_aload_n 21 dX4_init_20 rfl rfl ?_
  refine r_bipush (v := 6) 23 dX4_init_21 rfl rfl ?_
  refine s_newa (Len := 6) 25 (n + 3) 3 18 dX4_init_23 rfl hi rfl ⟨rfl, rfl, rfl⟩ rfl (by decide) ⟨by decide, by decide⟩ ?_
  refine s_put (ty := (.array .int)) 28 dX4_init_25 rfl fl_X4_18 ⟨_, _, rfl, by decide +kernel⟩ hi (by omega) (Nat.le_of_ble_eq_true rfl) rfl rfl ⟨by decide, by decide⟩ ?_
  refine r_aload_n 29 dX4_init_28 rfl rfl ?_
  refine r_bipush (v := 10) 31 dX4_init_29 rfl rfl ?_
  refine s_newa (Len := 10) 33 (n + 4) 4 28 dX4_init_31 rfl hi rfl ⟨rfl, rfl, rfl⟩ rfl (by decide) ⟨by decide, by decide⟩ ?_
  refine s_put (ty := (.array .int)) 36 dX4_init_33 rfl fl_X4_21 ⟨_, _, rfl, by decide +kernel⟩ hi (by omega) (Nat.le_of_ble_eq_true rfl) rfl rfl ⟨by decide, by decide⟩ ?_
  refine r_aload_n 37 dX4_init_36 rfl rfl ?_
  refine r_bipush (v := 10) 39 dX4_init_37 rfl rfl ?_
  refine s_newa (Len := 10) 41 (n + 5) 5 38 dX4_init_39 rfl hi rfl ⟨rfl, rfl, rfl⟩ rfl (by decide) ⟨by decide, by decide⟩ ?_
  refine s_put (ty := (.array .int)) 44 dX4_init_41 rfl fl_X4_24 ⟨_, _, rfl, by decide +kernel⟩ hi (by omega) (Nat.le_of_ble_eq_true rfl) rfl rfl ⟨by decide, by decide⟩ ?_
  refine r_aload_n 45 dX4_init_44 rfl rfl ?_
  refine r_bipush (v := 10) 47 dX4_init_45 rfl rfl ?_
  refine s_newa (Len := 10) 49 (n + 6) 6 48 dX4_init_47 rfl hi rfl ⟨rfl, rfl, rfl⟩ rfl (by decide) ⟨by decide, by decide⟩ ?_
  refine s_put (ty := (.array .int)) 52 dX4_init_49 rfl fl_X4_27 ⟨_, _, rfl, by decide +kernel⟩ hi (by omega) (Nat.le_of_ble_eq_true rfl) rfl rfl ⟨by decide, by decide⟩ ?_
  refine r_aload_n 53 dX4_init_52 rfl rfl ?_
  refine r_bipush (v := 10) 55 dX4_init_53 rfl rfl ?_
  refine s_newa (Len := 10) 57 (n + 7) 7 58 dX4_init_55 rfl hi rfl ⟨rfl, rfl, rfl⟩ rfl (by decide) ⟨by decide, by decide⟩ ?_
  refine s_put (ty := (.array .int)) 60 dX4_init_57 rfl fl_X4_30 ⟨_, _, rfl, by decide +kernel⟩ hi (by omega) (Nat.le_of_ble_eq_true rfl) rfl rfl ⟨by decide, by decide⟩ ?_
  refine r_aload_n 61 dX4_init_60 rfl rfl ?_
  refine r_bipush (v := 10) 63 dX4_init_61 rfl rfl ?_
  refine s_newa (Len := 10) 65 (n + 8) 8 68 dX4_init_63 rfl hi rfl ⟨rfl, rfl, rfl⟩ rfl (by decide) ⟨by decide, by decide⟩ ?_
  refine s_put (ty := (.array .int)) 68 dX4_init_65 rfl fl_X4_33 ⟨_, _, rfl, by decide +kernel⟩ hi (by omega) (Nat.le_of_ble_eq_true rfl) rfl rfl ⟨by decide, by decide⟩ ?_
  refine r_aload_n 69 dX4_init_68 rfl rfl ?_
  refine r_iconst (v := 3) 70 dX4_init_69 rfl rfl ?_
  refine s_newa (Len := 3) 72 (n + 9) 9 71 dX4_init_70 rfl hi rfl ⟨rfl, rfl, rfl⟩ rfl (by decide) ⟨by decide, by decide⟩ ?_
  refine s_put (ty := (.array .int)) 75 dX4_init_72 rfl fl_X4_36 ⟨_, _, rfl, by decide +kernel⟩ hi (by omega) (Nat.le_of_ble_eq_true rfl) rfl rfl ⟨by decide, by decide⟩ ?_
  refine r_aload_n 76 dX4_init_75 rfl rfl ?_
  refine r_iconst (v := 3) 77 dX4_init_76 rfl rfl ?_
  refine s_newa (Len := 3) 79 (n + 10) 10 74 dX4_init_77 rfl hi rfl ⟨rfl, rfl, rfl⟩ rfl (by decide) ⟨by decide, by decide⟩ ?_
  refine s_put (ty := (.array .int)) 82 dX4_init_79 rfl fl_X4_39 ⟨_, _, rfl, by decide +kernel⟩ hi (by omega) (Nat.le_of_ble_eq_true rfl) rfl rfl ⟨by decide, by decide⟩ ?_
  refine r_aload_n 83 dX4_init_82 rfl rfl ?_
  refine r_iconst (v := 1) 84 dX4_init_83 rfl rfl ?_
  refine s_put (ty := .int) 87 dX4_init_84 rfl fl_X4_42 ⟨_, _, rfl, by decide +kernel⟩ hi (by omega) (Nat.le_of_ble_eq_true rfl) rfl rfl ⟨by decide, by decide⟩ ?_
  refine r_aload_n 88 dX4_init_87 rfl rfl ?_
  refine r_iconst (v := (-1)) 89 dX4_init_88 rfl rfl ?_
  refine s_put (ty := .int) 92 dX4_init_89 rfl fl_X4_46 ⟨_, _, rfl, by decide +kernel⟩ hi (by omega) (Nat.le_of_ble_eq_true rfl) rfl rfl ⟨by decide, by decide⟩ ?_
  refine r_aload_n 93 dX4_init_92 rfl rfl ?_
  refine r_aload_n 94 dX4_init_93 rfl rfl ?_
  refine s_put (ty := (.object "UnderWhitewash$Texts")) 97 dX4_init_94 rfl fl_X4_49 ⟨_, _, rfl, by decide +kernel⟩ hi (by omega) (Nat.le_of_ble_eq_true rfl) rfl rfl ⟨by decide, by decide⟩ ?_
  refine r_aload_n 98 dX4_init_97 rfl rfl ?_
  refine s_get 101 dX4_init_98 rfl fl_X4_9 hi (by omega) rfl ?_
  refine r_bipush (v := 60) 103 dX4_init_101 rfl rfl ?_
  refine s_fill (d := 0) (k := 0) (a := n) 106 dX4_init_103 rfl cw_X4_53 hi rfl rfl rfl (by decide) ⟨by decide, by decide⟩ ⟨by decide, by decide⟩ ?_
  refine r_aload_n 107 dX4_init_106 rfl rfl ?_
  refine s_get 110 dX4_init_107 rfl fl_X4_39 hi (by omega) rfl ?_
  refine r_ldc 112 dX4_init_110 rfl cs_X4_59 ?_
  refine s_fill (d := 0) (k := 9) (a := (n + 9)) 115 dX4_init_112 rfl cw_X4_53 hi rfl rfl rfl (by decide) ⟨by decide, by decide⟩ ⟨by decide, by decide⟩ ?_
  refine r_aload_n 116 dX4_init_115 rfl rfl ?_
  refine s_get 119 dX4_init_116 rfl fl_X4_36 hi (by omega) rfl ?_
  refine r_iconst (v := 0) 120 dX4_init_119 rfl rfl ?_
  refine r_iconst (v := 3) 121 dX4_init_120 rfl rfl ?_
  refine s_iast (k := 8) (a := (n + 8)) (y := 0) 122 dX4_init_121 rfl hi rfl rfl rfl rfl (by decide) (by decide) ?_
  refine r_aload_n 123 dX4_init_122 rfl rfl ?_
  refine s_get 126 dX4_init_123 rfl fl_X4_36 hi (by omega) rfl ?_
  refine r_iconst (v := 1) 127 dX4_init_126 rfl rfl ?_
  refine r_bipush (v := 20) 129 dX4_init_127 rfl rfl ?_
  refine s_iast (k := 8) (a := (n + 8)) (y := 1) 130 dX4_init_129 rfl hi rfl rfl rfl rfl (by decide) (by decide) ?_
  exact r_vret (P := fun _ => True) dX4_init_130 ⟨rfl, rfl⟩ (fun args s t hp hz hF => ⟨rfl, hp, hz, hF⟩)
