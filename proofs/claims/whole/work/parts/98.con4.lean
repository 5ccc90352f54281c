/-! CONSTRUCTORS: their contracts -/
def fs_X1 (g : GT) (n : Nat) : List Value := ((dfs 1).set 0 (.ref (n0 g + n))).set 1 (.int (-1))
def L1_X1 (g : GT) (n : Nat) : List va_E := (([] : List va_E) ++ [.inl (gc g 0, 24, .inl (fun _ => 0))] : List va_E)
set_option maxRecDepth 100000 in
set_option maxHeartbeats 4000000 in
theorem cc_X1 : Cc yX1_init cX1_init 1 1 1 (fun _ => []) (fs_X1) L1_X1 1 24 := by
  intro g E i n hi
  refine Ci.of (by decide +kernel) (Or.inr rfl) (Nat.le_of_ble_eq_true rfl) ?_
  refine r_aload_n 1 dX1_init_0 rfl rfl ?_
  refine r_obj 4 dX1_init_1 rfl ko_X1 ⟨by decide, by decide⟩ ?_
  refine r_aload_n 5 dX1_init_4 rfl rfl ?_
  refine r_bipush (v := 24) 7 dX1_init_5 rfl rfl ?_
  refine s_newa (Len := 24) 9 (n + 1) 1 24 dX1_init_7 rfl hi rfl ⟨rfl, rfl, rfl⟩ rfl (by decide) ⟨by decide, by decide⟩ ?_
  refine s_put (ty := (.array .int)) 12 dX1_init_9 rfl fl_X1_9 ⟨_, _, rfl, by decide +kernel⟩ hi (by omega) (Nat.le_of_ble_eq_true rfl) rfl rfl ⟨by decide, by decide⟩ ?_
  refine r_aload_n 13 dX1_init_12 rfl rfl ?_
  refine r_iconst (v := (-1)) 14 dX1_init_13 rfl rfl ?_
  refine s_put (ty := .int) 17 dX1_init_14 rfl fl_X1_15 ⟨_, _, rfl, by decide +kernel⟩ hi (by omega) (Nat.le_of_ble_eq_true rfl) rfl rfl ⟨by decide, by decide⟩ ?_
  exact r_vret (P := fun _ => True) dX1_init_17 ⟨rfl, rfl⟩ (fun args s t hp hz hF => ⟨rfl, hp, hz, hF⟩)
def fs_X2 (g : GT) (n : Nat) : List Value := ((dfs 2).set 0 (.ref (n0 g + n))).set 1 (.int 0)
def L1_X2 (g : GT) (n : Nat) : List va_E := (((([] : List va_E) ++ [.inr (1, dfs 1)] : List va_E).set 0 (.inr (1, fs_X1 g (n + 1))) : List va_E) ++ L1_X1 g (n + 1) : List va_E)
set_option maxRecDepth 100000 in
set_option maxHeartbeats 4000000 in
theorem cc_X2 : Cc yX2_init cX2_init 1 2 2 (fun _ => []) (fs_X2) L1_X2 2 27 := by
  intro g E i n hi
  refine Ci.of (by decide +kernel) (Or.inr rfl) (Nat.le_of_ble_eq_true rfl) ?_
  refine r_aload_n 1 dX2_init_0 rfl rfl ?_
  refine r_obj 4 dX2_init_1 rfl ko_X2 ⟨by decide, by decide⟩ ?_
  refine r_aload_n 5 dX2_init_4 rfl rfl ?_
  refine s_new (ci := 1) 8 (n + 1) 1 3 dX2_init_5 rfl kl_X2_9 ki_X1 kt_X1 rfl (by decide +kernel) hi rfl ⟨rfl, rfl, rfl⟩ ⟨by decide, by decide⟩ ?_
  refine r_dup 9 dX2_init_8 rfl rfl ?_
  refine s_inN (k := 0) (a := n) (N := 0) 12 (n + 2) 2 27 dX2_init_9 rfl cc_X1 (List.mem_of_getElem? (i := 4) rfl) kt_X1 kc_X1 (by decide +kernel) kn_X1 rfl rfl rfl ⟨by decide, by decide⟩ ⟨rfl, rfl, rfl⟩ ⟨by decide, by decide⟩ (Nat.le_of_ble_eq_true rfl) hi rfl rfl rfl ?_
  refine s_put (ty := (.object "UnderWhitewash$Sheet")) 15 dX2_init_12 rfl fl_X2_12 ⟨_, _, rfl, by decide +kernel⟩ hi (by omega) (Nat.le_of_ble_eq_true rfl) rfl rfl ⟨by decide, by decide⟩ ?_
  refine r_aload_n 16 dX2_init_15 rfl rfl ?_
  refine r_iconst (v := 0) 17 dX2_init_16 rfl rfl ?_
  refine s_put (ty := .int) 20 dX2_init_17 rfl fl_X2_18 ⟨_, _, rfl, by decide +kernel⟩ hi (by omega) (Nat.le_of_ble_eq_true rfl) rfl rfl ⟨by decide, by decide⟩ ?_
  exact r_vret (P := fun _ => True) dX2_init_20 ⟨rfl, rfl⟩ (fun args s t hp hz hF => ⟨rfl, hp, hz, hF⟩)
def fs_X3 (g : GT) (n : Nat) : List Value := (((((dfs 3).set 0 (.ref (n0 g + n))).set 1 (.ref (n0 g + (n + 15)))).set 2 (.ref (n0 g + (n + 16)))).set 3 (.ref (n0 g + (n + 17)))).set 4 (.ref (n0 g + (n + 18)))
def L1_X3 (g : GT) (n : Nat) : List va_E := (((((([] : List va_E) ++ (.inl (gc g 3, 14, rfs (fun q => if q < 14 then some (n0 g + n + 1 + q) else none)) :: List.replicate 14 (.inl (gc g 0, 96, .inl (fun _ => 0)))) : List va_E) ++ [.inl (gc g 0, 14, .inl (fun _ => 0))] : List va_E) ++ [.inl (gc g 0, 14, .inl (fun _ => 0))] : List va_E) ++ [.inl (gc g 0, 14, .inl (fun _ => 0))] : List va_E) ++ [.inl (gc g 0, 96, .inl (fun _ => 0))] : List va_E)
set_option maxRecDepth 100000 in
set_option maxHeartbeats 4000000 in
theorem cc_X3 : Cc yX3_init cX3_init 1 1 3 (fun _ => []) (fs_X3) L1_X3 19 1496 := by
  intro g E i n hi
  refine Ci.of (by decide +kernel) (Or.inr rfl) (Nat.le_of_ble_eq_true rfl) ?_
  refine r_aload_n 1 dX3_init_0 rfl rfl ?_
  refine r_obj 4 dX3_init_1 rfl ko_X3 ⟨by decide, by decide⟩ ?_
  refine r_aload_n 5 dX3_init_4 rfl rfl ?_
  refine r_bipush (v := 14) 7 dX3_init_5 rfl rfl ?_
  refine r_bipush (v := 96) 9 dX3_init_7 rfl rfl ?_
  refine s_mna (N := 14) (K := 96) 13 (n + 15) 15 1358 dX3_init_9 rfl rfl hi rfl ⟨rfl, rfl, rfl⟩ rfl rfl (by decide) (by decide) ⟨by decide, by decide⟩ ?_
  refine s_put (ty := (.array (.array .int))) 16 dX3_init_13 rfl fl_X3_11 ⟨_, _, rfl, by decide +kernel⟩ hi (by omega) (Nat.le_of_ble_eq_true rfl) rfl rfl ⟨by decide, by decide⟩ ?_
  refine r_aload_n 17 dX3_init_16 rfl rfl ?_
  refine r_bipush (v := 14) 19 dX3_init_17 rfl rfl ?_
  refine s_newa (Len := 14) 21 (n + 16) 16 1372 dX3_init_19 rfl hi rfl ⟨rfl, rfl, rfl⟩ rfl (by decide) ⟨by decide, by decide⟩ ?_
  refine s_put (ty := (.array .int)) 24 dX3_init_21 rfl fl_X3_16 ⟨_, _, rfl, by decide +kernel⟩ hi (by omega) (Nat.le_of_ble_eq_true rfl) rfl rfl ⟨by decide, by decide⟩ ?_
  refine r_aload_n 25 dX3_init_24 rfl rfl ?_
  refine r_bipush (v := 14) 27 dX3_init_25 rfl rfl ?_
  refine s_newa (Len := 14) 29 (n + 17) 17 1386 dX3_init_27 rfl hi rfl ⟨rfl, rfl, rfl⟩ rfl (by decide) ⟨by decide, by decide⟩ ?_
  refine s_put (ty := (.array .int)) 32 dX3_init_29 rfl fl_X3_20 ⟨_, _, rfl, by decide +kernel⟩ hi (by omega) (Nat.le_of_ble_eq_true rfl) rfl rfl ⟨by decide, by decide⟩ ?_
  refine r_aload_n 33 dX3_init_32 rfl rfl ?_
  refine r_bipush (v := 14) 35 dX3_init_33 rfl rfl ?_
  refine s_newa (Len := 14) 37 (n + 18) 18 1400 dX3_init_35 rfl hi rfl ⟨rfl, rfl, rfl⟩ rfl (by decide) ⟨by decide, by decide⟩ ?_
  refine s_put (ty := (.array .int)) 40 dX3_init_37 rfl fl_X3_23 ⟨_, _, rfl, by decide +kernel⟩ hi (by omega) (Nat.le_of_ble_eq_true rfl) rfl rfl ⟨by decide, by decide⟩ ?_
  refine r_aload_n 41 dX3_init_40 rfl rfl ?_
  refine r_bipush (v := 96) 43 dX3_init_41 rfl rfl ?_
  refine s_newa (Len := 96) 45 (n + 19) 19 1496 dX3_init_43 rfl hi rfl ⟨rfl, rfl, rfl⟩ rfl (by decide) ⟨by decide, by decide⟩ ?_
  refine s_put (ty := (.array .int)) 48 dX3_init_45 rfl fl_X3_26 ⟨_, _, rfl, by decide +kernel⟩ hi (by omega) (Nat.le_of_ble_eq_true rfl) rfl rfl ⟨by decide, by decide⟩ ?_
  exact r_vret (P := fun _ => True) dX3_init_48 ⟨rfl, rfl⟩ (fun args s t hp hz hF => ⟨rfl, hp, hz, hF⟩)
def fs_X0 (g : GT) (n : Nat) : List Value := ((dfs 0).set 0 (.ref (n0 g + n))).set 4 (.ref (n0 g + (n + 1)))
def L1_X0 (g : GT) (n : Nat) : List va_E := ((([] : List va_E) ++ [.inl (gc g 0, 96, .inl (fun _ => 0))] : List va_E) ++ [.inl (gc g 0, 0, .inl (fun _ => 0))] : List va_E)
set_option maxRecDepth 100000 in
set_option maxHeartbeats 4000000 in
theorem cc_X0 : Cc yX0_init cX0_init 1 1 0 (fun _ => []) (fs_X0) L1_X0 2 96 := by
  intro g E i n hi
  refine Ci.of (by decide +kernel) (Or.inr rfl) (Nat.le_of_ble_eq_true rfl) ?_
  refine r_aload_n 1 dX0_init_0 rfl rfl ?_
  refine r_obj 4 dX0_init_1 rfl ko_X0 ⟨by decide, by decide⟩ ?_
  refine r_aload_n 5 dX0_init_4 rfl rfl ?_
  refine r_bipush (v := 96) 7 dX0_init_5 rfl rfl ?_
  refine s_newa (Len := 96) 9 (n + 1) 1 96 dX0_init_7 rfl hi rfl ⟨rfl, rfl, rfl⟩ rfl (by decide) ⟨by decide, by decide⟩ ?_
  refine s_put (ty := (.array .int)) 12 dX0_init_9 rfl fl_X0_9 ⟨_, _, rfl, by decide +kernel⟩ hi (by omega) (Nat.le_of_ble_eq_true rfl) rfl rfl ⟨by decide, by decide⟩ ?_
  refine r_aload_n 13 dX0_init_12 rfl rfl ?_
  refine r_iconst (v := 0) 14 dX0_init_13 rfl rfl ?_
  refine s_newa (Len := 0) 16 (n + 2) 2 96 dX0_init_14 rfl hi rfl ⟨rfl, rfl, rfl⟩ rfl (by decide) ⟨by decide, by decide⟩ ?_
  refine s_put (ty := (.array .int)) 19 dX0_init_16 rfl fl_X0_15 ⟨_, _, rfl, by decide +kernel⟩ hi (by omega) (Nat.le_of_ble_eq_true rfl) rfl rfl ⟨by decide, by decide⟩ ?_
  exact r_vret (P := fun _ => True) dX0_init_19 ⟨rfl, rfl⟩ (fun args s t hp hz hF => ⟨rfl, hp, hz, hF⟩)
