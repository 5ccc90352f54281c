/-! CONSTRUCTORS: of the two objects -/
def fs_X6 (g : GT) (n : Nat) : List Value := [(.ref (n0 g + n)), (.ref (n0 g + (n + 1))), (.ref (n0 g + (n + 2))), (.int 0), (.ref (n0 g + (n + 3))), (.ref (n0 g + (n + 4))), (.ref (n0 g + (n + 5))), (.ref (n0 g + (n + 6))), (.ref (n0 g + (n + 7))), (.ref (n0 g + (n + 8))), (.ref (n0 g + (n + 9))), (.ref (n0 g + (n + 10))), (.ref (n0 g + (n + 11))), (.ref (n0 g + (n + 12))), (.int 0), (.int 0), (.int 0), (.int 0), (.int 0), (.int 0), (.int 0), (.int 0), (.int 0), (.int 0), (.int 0), (.ref (n0 g + (n + 13))), (.ref (n0 g + (n + 14))), (.ref (n0 g + (n + 15))), (.ref (n0 g + (n + 16))), (.int 0), (.ref (n0 g + (n + 17)))]
def L1_X6 (g : GT) (n : Nat) : List va_E := ([.inl (gc g 0, 3071, .inl (upd (upd (upd (upd (upd (upd (upd (upd (upd (fun _ => 0) 8 1) 3 3) 4 20) 9 60) 10 60) 11 60) 12 60) 13 60) 14 60)), .inl (gc g 0, 3071, .inl (fun _ => 0)), .inl (gc g 0, 3071, .inl (fun _ => 0)), .inl (gc g 0, 4, .inl (upd (upd (upd (upd (fun _ => 0) 0 (-1)) 1 (-1)) 2 (-1)) 3 (-1))), .inl (gc g 0, 4, .inl (fun _ => 0)), .inl (gc g 0, 96, .inl (fun _ => 0)), .inl (gc g 0, 5, .inl (fun _ => 0)), .inl (gc g 0, 5, .inl (fun _ => 0)), .inl (gc g 0, 5, .inl (fun _ => 0)), .inl (gc g 0, 5, .inl (fun _ => 0)), .inl (gc g 0, 120, .inl (fun _ => 0)), .inl (gc g 0, 71, .inl (fun _ => 0)), .inl (gc g 0, 96, .inl (fun _ => 0)), .inl (gc g 0, 128, .inl (fun _ => 0)), .inl (gc g 0, 100, .inl (fun _ => 0)), .inl (gc g 0, 24, .inl (fun _ => 0)), .inl (gc g 0, 60, .inl (fun _ => 0)), .inl (gc g 0, 60, .inl (fun _ => 0))] : List va_E)
set_option maxRecDepth 100000 in
set_option maxHeartbeats 4000000 in
theorem cc_X6 : Cc yX6_init cX6_init 2 1 6 (fun _ => []) (fs_X6) L1_X6 18 9996 := by
  intro g E i n hi
  refine Ci.of (by decide +kernel) (Or.inr rfl) (Nat.le_of_ble_eq_true rfl) ?_
  refine r_aload_n 1 dX6_init_0 rfl rfl ?_
  refine r_obj 4 dX6_init_1 rfl ko_X6 ⟨by decide, by decide⟩ ?_
  refine r_aload_n 5 dX6_init_4 rfl rfl ?_
  refine r_sipush (v := 3071) 8 dX6_init_5 rfl rfl ?_
  refine s_newa (Len := 3071) 10 (n + 1) 1 3071 dX6_init_8 rfl hi rfl ⟨rfl, rfl, rfl⟩ rfl (by decide) ⟨by decide, by decide⟩ ?_
  refine s_put (ty := (.array .int)) 13 dX6_init_10 rfl fl_X6_7 ⟨_, _, rfl, by decide +kernel⟩ hi (by omega) (Nat.le_of_ble_eq_true rfl) rfl rfl ⟨by decide, by decide⟩ ?_
  refine r_aload_n 14 dX6_init_13 rfl rfl ?_
  refine r_sipush (v := 3071) 17 dX6_init_14 rfl rfl ?_
  refine s_newa (Len := 3071) 19 (n + 2) 2 6142 dX6_init_17 rfl hi rfl ⟨rfl, rfl, rfl⟩ rfl (by decide) ⟨by decide, by decide⟩ ?_
  refine s_put (ty := (.array .int)) 22 dX6_init_19 rfl fl_X6_13 ⟨_, _, rfl, by decide +kernel⟩ hi (by omega) (Nat.le_of_ble_eq_true rfl) rfl rfl ⟨by decide, by decide⟩ ?_
  refine r_aload_n 23 dX6_init_22 rfl rfl ?_
  refine r_sipush (v := 3071) 26 dX6_init_23 rfl rfl ?_
  refine s_newa (Len := 3071) 28 (n + 3) 3 9213 dX6_init_26 rfl hi rfl ⟨rfl, rfl, rfl⟩ rfl (by decide) ⟨by decide, by decide⟩ ?_
  refine s_put (ty := (.array .int)) 31 dX6_init_28 rfl fl_X6_16 ⟨_, _, rfl, by decide +kernel⟩ hi (by omega) (Nat.le_of_ble_eq_true rfl) rfl rfl ⟨by decide, by decide⟩ ?_
  refine r_aload_n 32 dX6_init_31 rfl rfl ?_
  refine r_iconst (v := 4) 33 dX6_init_32 rfl rfl ?_
  refine s_newa (Len := 4) 35 (n + 4) 4 9217 dX6_init_33 rfl hi rfl ⟨rfl, rfl, rfl⟩ rfl (by decide) ⟨by decide, by decide⟩ ?_
  refine s_put (ty := (.array .int)) 38 dX6_init_35 rfl fl_X6_19 ⟨_, _, rfl, by decide +kernel⟩ hi (by omega) (Nat.le_of_ble_eq_true rfl) rfl rfl ⟨by decide, by decide⟩ ?_
  refine r_eqE (E' := AP E i (.inr (6, [(.ref (n0 g + n)), (.ref (n0 g + (n + 1))), (.ref (n0 g + (n + 2))), (.int 0), (.ref (n0 g + (n + 3))), (.null), (.null), (.null), (.null), (.null), (.null), (.null), (.null), (.null), (.int 0), (.int 0), (.int 0), (.int 0), (.int 0), (.int 0), (.int 0), (.int 0), (.int 0), (.int 0), (.int 0), (.null), (.null), (.null), (.null), (.int 0), (.null)])) n ([.inl (gc g 0, 3071, .inl (fun _ => 0)), .inl (gc g 0, 3071, .inl (fun _ => 0)), .inl (gc g 0, 3071, .inl (fun _ => 0)), .inl (gc g 0, 4, .inl (fun _ => 0))] : List va_E)) rfl ?_
  refine r_aload_n 39 dX6_init_38 rfl rfl ?_
  refine r_iconst (v := 4) 40 dX6_init_39 rfl rfl ?_
  refine s_newa (Len := 4) 42 (n + 5) 5 9221 dX6_init_40 rfl hi rfl ⟨rfl, rfl, rfl⟩ rfl (by decide) ⟨by decide, by decide⟩ ?_
  refine s_put (ty := (.array .int)) 45 dX6_init_42 rfl fl_X6_22 ⟨_, _, rfl, by decide +kernel⟩ hi (by omega) (Nat.le_of_ble_eq_true rfl) rfl rfl ⟨by decide, by decide⟩ ?_
  refine r_aload_n 46 dX6_init_45 rfl rfl ?_
  refine r_bipush (v := 96) 48 dX6_init_46 rfl rfl ?_
  refine s_newa (Len := 96) 50 (n + 6) 6 9317 dX6_init_48 rfl hi rfl ⟨rfl, rfl, rfl⟩ rfl (by decide) ⟨by decide, by decide⟩ ?_
  refine s_put (ty := (.array .int)) 53 dX6_init_50 rfl fl_X6_25 ⟨_, _, rfl, by decide +kernel⟩ hi (by omega) (Nat.le_of_ble_eq_true rfl) rfl rfl ⟨by decide, by decide⟩ ?_
  refine r_aload_n 54 dX6_init_53 rfl rfl ?_
  refine r_iconst (v := 5) 55 dX6_init_54 rfl rfl ?_
  refine s_newa (Len := 5) 57 (n + 7) 7 9322 dX6_init_55 rfl hi rfl ⟨rfl, rfl, rfl⟩ rfl (by decide) ⟨by decide, by decide⟩ ?_
  refine s_put (ty := (.array .int)) 60 dX6_init_57 rfl fl_X6_28 ⟨_, _, rfl, by decide +kernel⟩ hi (by omega) (Nat.le_of_ble_eq_true rfl) rfl rfl ⟨by decide, by decide⟩ ?_
  refine r_aload_n 61 dX6_init_60 rfl rfl ?_
  refine r_iconst (v := 5) 62 dX6_init_61 rfl rfl ?_
  refine s_newa (Len := 5) 64 (n + 8) 8 9327 dX6_init_62 rfl hi rfl ⟨rfl, rfl, rfl⟩ rfl (by decide) ⟨by decide, by decide⟩ ?_
  refine s_put (ty := (.array .int)) 67 dX6_init_64 rfl fl_X6_31 ⟨_, _, rfl, by decide +kernel⟩ hi (by omega) (Nat.le_of_ble_eq_true rfl) rfl rfl ⟨by decide, by decide⟩ ?_
  refine r_eqE (E' := AP E i (.inr (6, [(.ref (n0 g + n)), (.ref (n0 g + (n + 1))), (.ref (n0 g + (n + 2))), (.int 0), (.ref (n0 g + (n + 3))), (.ref (n0 g + (n + 4))), (.ref (n0 g + (n + 5))), (.ref (n0 g + (n + 6))), (.ref (n0 g + (n + 7))), (.null), (.null), (.null), (.null), (.null), (.int 0), (.int 0), (.int 0), (.int 0), (.int 0), (.int 0), (.int 0), (.int 0), (.int 0), (.int 0), (.int 0), (.null), (.null), (.null), (.null), (.int 0), (.null)])) n ([.inl (gc g 0, 3071, .inl (fun _ => 0)), .inl (gc g 0, 3071, .inl (fun _ => 0)), .inl (gc g 0, 3071, .inl (fun _ => 0)), .inl (gc g 0, 4, .inl (fun _ => 0)), .inl (gc g 0, 4, .inl (fun _ => 0)), .inl (gc g 0, 96, .inl (fun _ => 0)), .inl (gc g 0, 5, .inl (fun _ => 0)), .inl (gc g 0, 5, .inl (fun _ => 0))] : List va_E)) rfl ?_
  refine r_aload_n 68 dX6_init_67 rfl rfl ?_
  refine r_iconst (v := 5) 69 dX6_init_68 rfl rfl ?_
  refine s_newa (Len := 5) 71 (n + 9) 9 9332 dX6_init_69 rfl hi rfl ⟨rfl, rfl, rfl⟩ rfl (by decide) ⟨by decide, by decide⟩ ?_
  refine s_put (ty := (.array .int)) 74 dX6_init_71 rfl fl_X6_34 ⟨_, _, rfl, by decide +kernel⟩ hi (by omega) (Nat.le_of_ble_eq_true rfl) rfl rfl ⟨by decide, by decide⟩ ?_
  refine r_aload_n 75 dX6_init_74 rfl rfl ?_
  refine r_iconst (v := 5) 76 dX6_init_75 rfl rfl ?_
  refine s_newa (Len := 5) 78 (n + 10) 10 9337 dX6_init_76 rfl hi rfl ⟨rfl, rfl, rfl⟩ rfl (by decide) ⟨by decide, by decide⟩ ?_
  refine s_put (ty := (.array .int)) 81 dX6_init_78 rfl fl_X6_37 ⟨_, _, rfl, by decide +kernel⟩ hi (by omega) (Nat.le_of_ble_eq_true rfl) rfl rfl ⟨by decide, by decide⟩ ?_
  refine r_aload_n 82 dX6_init_81 rfl rfl ?_
  refine r_bipush (v := 120) 84 dX6_init_82 rfl rfl ?_
  refine s_newa (Len := 120) 86 (n + 11) 11 9457 dX6_init_84 rfl hi rfl ⟨rfl, rfl, rfl⟩ rfl (by decide) ⟨by decide, by decide⟩ ?_
  refine s_put (ty := (.array .int)) 89 dX6_init_86 rfl fl_X6_40 ⟨_, _, rfl, by decide +kernel⟩ hi (by omega) (Nat.le_of_ble_eq_true rfl) rfl rfl ⟨by decide, by decide⟩ ?_
  refine r_aload_n 90 dX6_init_89 rfl rfl ?_
  refine r_bipush (v := 71) 92 dX6_init_90 rfl rfl ?_
  refine s_newa (Len := 71) 94 (n + 12) 12 9528 dX6_init_92 rfl hi rfl ⟨rfl, rfl, rfl⟩ rfl (by decide) ⟨by decide, by decide⟩ ?_
  refine s_put (ty := (.array .int)) 97 dX6_init_94 rfl fl_X6_43 ⟨_, _, rfl, by decide +kernel⟩ hi (by omega) (Nat.le_of_ble_eq_true rfl) rfl rfl ⟨by decide, by decide⟩ ?_
  refine r_eqE (E' := AP E i (.inr (6, [(.ref (n0 g + n)), (.ref (n0 g + (n + 1))), (.ref (n0 g + (n + 2))), (.int 0), (.ref (n0 g + (n + 3))), (.ref (n0 g + (n + 4))), (.ref (n0 g + (n + 5))), (.ref (n0 g + (n + 6))), (.ref (n0 g + (n + 7))), (.ref (n0 g + (n + 8))), (.ref (n0 g + (n + 9))), (.ref (n0 g + (n + 10))), (.ref (n0 g + (n + 11))), (.null), (.int 0), (.int 0), (.int 0), (.int 0), (.int 0), (.int 0), (.int 0), (.int 0), (.int 0), (.int 0), (.int 0), (.null), (.null), (.null), (.null), (.int 0), (.null)])) n ([.inl (gc g 0, 3071, .inl (fun _ => 0)), .inl (gc g 0, 3071, .inl (fun _ => 0)), .inl (gc g 0, 3071, .inl (fun _ => 0)), .inl (gc g 0, 4, .inl (fun _ => 0)), .inl (gc g 0, 4, .inl (fun _ => 0)), .inl (gc g 0, 96, .inl (fun _ => 0)), .inl (gc g 0, 5, .inl (fun _ => 0)), .inl (gc g 0, 5, .inl (fun _ => 0)), .inl (gc g 0, 5, .inl (fun _ => 0)), .inl (gc g 0, 5, .inl (fun _ => 0)), .inl (gc g 0, 120, .inl (fun _ => 0)), .inl (gc g 0, 71, .inl (fun _ => 0))] : List va_E)) rfl ?_
  refine r_aload_n 98 dX6_init_97 rfl rfl ?_
  refine r_bipush (v := 96) 100 dX6_init_98 rfl rfl ?_
  refine s_newa (Len := 96) 102 (n + 13) 13 9624 dX6_init_100 rfl hi rfl ⟨rfl, rfl, rfl⟩ rfl (by decide) ⟨by decide, by decide⟩ ?_
  refine s_put (ty := (.array .int)) 105 dX6_init_102 rfl fl_X6_46 ⟨_, _, rfl, by decide +kernel⟩ hi (by omega) (Nat.le_of_ble_eq_true rfl) rfl rfl ⟨by decide, by decide⟩ ?_
  refine r_aload_n 106 dX6_init_105 rfl rfl ?_
  refine r_sipush (v := 128) 109 dX6_init_106 rfl rfl ?_
  refine s_newa (Len := 128) 111 (n + 14) 14 9752 dX6_init_109 rfl hi rfl ⟨rfl, rfl, rfl⟩ rfl (by decide) ⟨by decide, by decide⟩ ?_
  refine s_put (ty := (.array .int)) 114 dX6_init_111 rfl fl_X6_49 ⟨_, _, rfl, by decide +kernel⟩ hi (by omega) (Nat.le_of_ble_eq_true rfl) rfl rfl ⟨by decide, by decide⟩ ?_
  refine r_aload_n 115 dX6_init_114 rfl rfl ?_
  refine r_bipush (v := 100) 117 dX6_init_115 rfl rfl ?_
  refine s_newa (Len := 100) 119 (n + 15) 15 9852 dX6_init_117 rfl hi rfl ⟨rfl, rfl, rfl⟩ rfl (by decide) ⟨by decide, by decide⟩ ?_
  refine s_put (ty := (.array .int)) 122 dX6_init_119 rfl fl_X6_52 ⟨_, _, rfl, by decide +kernel⟩ hi (by omega) (Nat.le_of_ble_eq_true rfl) rfl rfl ⟨by decide, by decide⟩ ?_
  refine r_aload_n 123 dX6_init_122 rfl rfl ?_
  refine r_bipush (v := 24) 125 dX6_init_123 rfl rfl ?_
  refine s_newa (Len := 24) 127 (n + 16) 16 9876 dX6_init_125 rfl hi rfl ⟨rfl, rfl, rfl⟩ rfl (by decide) ⟨by decide, by decide⟩ ?_
  refine s_put (ty := (.array .int)) 130 dX6_init_127 rfl fl_X6_55 ⟨_, _, rfl, by decide +kernel⟩ hi (by omega) (Nat.le_of_ble_eq_true rfl) rfl rfl ⟨by decide, by decide⟩ ?_
  refine r_eqE (E' := AP E i (.inr (6, [(.ref (n0 g + n)), (.ref (n0 g + (n + 1))), (.ref (n0 g + (n + 2))), (.int 0), (.ref (n0 g + (n + 3))), (.ref (n0 g + (n + 4))), (.ref (n0 g + (n + 5))), (.ref (n0 g + (n + 6))), (.ref (n0 g + (n + 7))), (.ref (n0 g + (n + 8))), (.ref (n0 g + (n + 9))), (.ref (n0 g + (n + 10))), (.ref (n0 g + (n + 11))), (.ref (n0 g + (n + 12))), (.int 0), (.int 0), (.int 0), (.int 0), (.int 0), (.int 0), (.int 0), (.int 0), (.int 0), (.int 0), (.int 0), (.ref (n0 g + (n + 13))), (.ref (n0 g + (n + 14))), (.ref (n0 g + (n + 15))), (.null), (.int 0), (.null)])) n ([.inl (gc g 0, 3071, .inl (fun _ => 0)), .inl (gc g 0, 3071, .inl (fun _ => 0)), .inl (gc g 0, 3071, .inl (fun _ => 0)), .inl (gc g 0, 4, .inl (fun _ => 0)), .inl (gc g 0, 4, .inl (fun _ => 0)), .inl (gc g 0, 96, .inl (fun _ => 0)), .inl (gc g 0, 5, .inl (fun _ => 0)), .inl (gc g 0, 5, .inl (fun _ => 0)), .inl (gc g 0, 5, .inl (fun _ => 0)), .inl (gc g 0, 5, .inl (fun _ => 0)), .inl (gc g 0, 120, .inl (fun _ => 0)), .inl (gc g 0, 71, .inl (fun _ => 0)), .inl (gc g 0, 96, .inl (fun _ => 0)), .inl (gc g 0, 128, .inl (fun _ => 0)), .inl (gc g 0, 100, .inl (fun _ => 0)), .inl (gc g 0, 24, .inl (fun _ => 0))] : List va_E)) rfl ?_
  refine r_aload_n 131 dX6_init_130 rfl rfl ?_
  refine r_bipush (v := 60) 133 dX6_init_131 rfl rfl ?_
  refine s_newa (Len := 60) 135 (n + 17) 17 9936 dX6_init_133 rfl hi rfl ⟨rfl, rfl, rfl⟩ rfl (by decide) ⟨by decide, by decide⟩ ?_
  refine s_put (ty := (.array .int)) 138 dX6_init_135 rfl fl_X6_58 ⟨_, _, rfl, by decide +kernel⟩ hi (by omega) (Nat.le_of_ble_eq_true rfl) rfl rfl ⟨by decide, by decide⟩ ?_
  refine r_aload_n 139 dX6_init_138 rfl rfl ?_
  refine r_bipush (v := 60) 141 dX6_init_139 rfl rfl ?_
  refine s_newa (Len := 60) 143 (n + 18) 18 9996 dX6_init_141 rfl hi rfl ⟨rfl, rfl, rfl⟩ rfl (by decide) ⟨by decide, by decide⟩ ?_
  refine s_put (ty := (.array .int)) 146 dX6_init_143 rfl fl_X6_61 ⟨_, _, rfl, by decide +kernel⟩ hi (by omega) (Nat.le_of_ble_eq_true rfl) rfl rfl ⟨by decide, by decide⟩ ?_
  refine r_aload_n 147 dX6_init_146 rfl rfl ?_
  refine s_get 150 dX6_init_147 rfl fl_X6_7 hi (by omega) rfl ?_
  refine r_bipush (v := 8) 152 dX6_init_150 rfl rfl ?_
  refine r_iconst (v := 1) 153 dX6_init_152 rfl rfl ?_
  refine s_iast (k := 0) (a := n) (y := 8) 154 dX6_init_153 rfl hi rfl rfl rfl rfl (by decide) (by decide) ?_
  refine r_aload_n 155 dX6_init_154 rfl rfl ?_
  refine s_get 158 dX6_init_155 rfl fl_X6_7 hi (by omega) rfl ?_
  refine r_iconst (v := 3) 159 dX6_init_158 rfl rfl ?_
  refine r_iconst (v := 3) 160 dX6_init_159 rfl rfl ?_
  refine s_iast (k := 0) (a := n) (y := 3) 161 dX6_init_160 rfl hi rfl rfl rfl rfl (by decide) (by decide) ?_
  refine r_eqE (E' := AP E i (.inr (6, [(.ref (n0 g + n)), (.ref (n0 g + (n + 1))), (.ref (n0 g + (n + 2))), (.int 0), (.ref (n0 g + (n + 3))), (.ref (n0 g + (n + 4))), (.ref (n0 g + (n + 5))), (.ref (n0 g + (n + 6))), (.ref (n0 g + (n + 7))), (.ref (n0 g + (n + 8))), (.ref (n0 g + (n + 9))), (.ref (n0 g + (n + 10))), (.ref (n0 g + (n + 11))), (.ref (n0 g + (n + 12))), (.int 0), (.int 0), (.int 0), (.int 0), (.int 0), (.int 0), (.int 0), (.int 0), (.int 0), (.int 0), (.int 0), (.ref (n0 g + (n + 13))), (.ref (n0 g + (n + 14))), (.ref (n0 g + (n + 15))), (.ref (n0 g + (n + 16))), (.int 0), (.ref (n0 g + (n + 17)))])) n ([.inl (gc g 0, 3071, .inl (upd (upd (fun _ => 0) 8 1) 3 3)), .inl (gc g 0, 3071, .inl (fun _ => 0)), .inl (gc g 0, 3071, .inl (fun _ => 0)), .inl (gc g 0, 4, .inl (fun _ => 0)), .inl (gc g 0, 4, .inl (fun _ => 0)), .inl (gc g 0, 96, .inl (fun _ => 0)), .inl (gc g 0, 5, .inl (fun _ => 0)), .inl (gc g 0, 5, .inl (fun _ => 0)), .inl (gc g 0, 5, .inl (fun _ => 0)), .inl (gc g 0, 5, .inl (fun _ => 0)), .inl (gc g 0, 120, .inl (fun _ => 0)), .inl (gc g 0, 71, .inl (fun _ => 0)), .inl (gc g 0, 96, .inl (fun _ => 0)), .inl (gc g 0, 128, .inl (fun _ => 0)), .inl (gc g 0, 100, .inl (fun _ => 0)), .inl (gc g 0, 24, .inl (fun _ => 0)), .inl (gc g 0, 60, .inl (fun _ => 0)), .inl (gc g 0, 60, .inl (fun _ => 0))] : List va_E)) rfl ?_
  refine r_aload_n 162 dX6_init_161 rfl rfl ?_
  refine s_get 165 dX6_init_162 rfl fl_X6_7 hi (by omega) rfl ?_
  refine r_iconst (v := 4) 166 dX6_init_165 rfl rfl ?_
  refine r_bipush (v := 20) 168 dX6_init_166 rfl rfl ?_
  refine s_iast (k := 0) (a := n) (y := 4) 169 dX6_init_168 rfl hi rfl rfl rfl rfl (by decide) (by decide) ?_
  refine r_iconst (v := 0) 170 dX6_init_169 rfl rfl ?_
  refine r_istore_n 171 dX6_init_170 rfl (by decide) rfl ?_
  refine r_iload_n 172 dX6_init_171 rfl rfl ?_
  refine r_bipush (v := 6) 174 dX6_init_172 rfl rfl ?_
  refine r_icmp_ge 194 177 dX6_init_174 rfl rfl (fun q => absurd q (by decide)) (fun _ => ?_)
  refine r_aload_n 178 dX6_init_177 rfl rfl ?_
  refine s_get 181 dX6_init_178 rfl fl_X6_7 hi (by omega) rfl ?_
  refine r_bipush (v := 9) 183 dX6_init_181 rfl rfl ?_
  refine r_iload_n 184 dX6_init_183 rfl rfl ?_
  refine r_iadd 185 dX6_init_184 rfl ?_
  refine r_bipush (v := 60) 187 dX6_init_185 rfl rfl ?_
  refine s_iast (k := 0) (a := n) (y := 9) 188 dX6_init_187 rfl hi rfl rfl rfl rfl (by decide) (by decide) ?_
  refine r_iinc (v := 1) 191 dX6_init_188 rfl rfl (by decide) rfl rfl ?_
  refine r_goto 171 dX6_init_191 rfl ?_
  refine r_iload_n 172 dX6_init_171 rfl rfl ?_
  refine r_bipush (v := 6) 174 dX6_init_172 rfl rfl ?_
  refine r_icmp_ge 194 177 dX6_init_174 rfl rfl (fun q => absurd q (by decide)) (fun _ => ?_)
  refine r_aload_n 178 dX6_init_177 rfl rfl ?_
  refine s_get 181 dX6_init_178 rfl fl_X6_7 hi (by omega) rfl ?_
  refine r_bipush (v := 9) 183 dX6_init_181 rfl rfl ?_
  refine r_iload_n 184 dX6_init_183 rfl rfl ?_
  refine r_iadd 185 dX6_init_184 rfl ?_
  refine r_bipush (v := 60) 187 dX6_init_185 rfl rfl ?_
  refine s_iast (k := 0) (a := n) (y := 10) 188 dX6_init_187 rfl hi rfl rfl rfl rfl (by decide) (by decide) ?_
  refine r_iinc (v := 2) 191 dX6_init_188 rfl rfl (by decide) rfl rfl ?_
  refine r_goto 171 dX6_init_191 rfl ?_
  refine r_iload_n 172 dX6_init_171 rfl rfl ?_
  refine r_bipush (v := 6) 174 dX6_init_172 rfl rfl ?_
  refine r_icmp_ge 194 177 dX6_init_174 rfl rfl (fun q => absurd q (by decide)) (fun _ => ?_)
  refine r_aload_n 178 dX6_init_177 rfl rfl ?_
  refine s_get 181 dX6_init_178 rfl fl_X6_7 hi (by omega) rfl ?_
  refine r_bipush (v := 9) 183 dX6_init_181 rfl rfl ?_
  refine r_iload_n 184 dX6_init_183 rfl rfl ?_
  refine r_iadd 185 dX6_init_184 rfl ?_
  refine r_bipush (v := 60) 187 dX6_init_185 rfl rfl ?_
  refine s_iast (k := 0) (a := n) (y := 11) 188 dX6_init_187 rfl hi rfl rfl rfl rfl (by decide) (by decide) ?_
  refine r_eqE (E' := AP E i (.inr (6, [(.ref (n0 g + n)), (.ref (n0 g + (n + 1))), (.ref (n0 g + (n + 2))), (.int 0), (.ref (n0 g + (n + 3))), (.ref (n0 g + (n + 4))), (.ref (n0 g + (n + 5))), (.ref (n0 g + (n + 6))), (.ref (n0 g + (n + 7))), (.ref (n0 g + (n + 8))), (.ref (n0 g + (n + 9))), (.ref (n0 g + (n + 10))), (.ref (n0 g + (n + 11))), (.ref (n0 g + (n + 12))), (.int 0), (.int 0), (.int 0), (.int 0), (.int 0), (.int 0), (.int 0), (.int 0), (.int 0), (.int 0), (.int 0), (.ref (n0 g + (n + 13))), (.ref (n0 g + (n + 14))), (.ref (n0 g + (n + 15))), (.ref (n0 g + (n + 16))), (.int 0), (.ref (n0 g + (n + 17)))])) n ([.inl (gc g 0, 3071, .inl (upd (upd (upd (upd (upd (upd (fun _ => 0) 8 1) 3 3) 4 20) 9 60) 10 60) 11 60)), .inl (gc g 0, 3071, .inl (fun _ => 0)), .inl (gc g 0, 3071, .inl (fun _ => 0)), .inl (gc g 0, 4, .inl (fun _ => 0)), .inl (gc g 0, 4, .inl (fun _ => 0)), .inl (gc g 0, 96, .inl (fun _ => 0)), .inl (gc g 0, 5, .inl (fun _ => 0)), .inl (gc g 0, 5, .inl (fun _ => 0)), .inl (gc g 0, 5, .inl (fun _ => 0)), .inl (gc g 0, 5, .inl (fun _ => 0)), .inl (gc g 0, 120, .inl (fun _ => 0)), .inl (gc g 0, 71, .inl (fun _ => 0)), .inl (gc g 0, 96, .inl (fun _ => 0)), .inl (gc g 0, 128, .inl (fun _ => 0)), .inl (gc g 0, 100, .inl (fun _ => 0)), .inl (gc g 0, 24, .inl (fun _ => 0)), .inl (gc g 0, 60, .inl (fun _ => 0)), .inl (gc g 0, 60, .inl (fun _ => 0))] : List va_E)) rfl ?_
  refine r_iinc (v := 3) 191 dX6_init_188 rfl rfl (by decide) rfl rfl ?_
  refine r_goto 171 dX6_init_191 rfl ?_
  refine r_iload_n 172 dX6_init_171 rfl rfl ?_
  refine r_bipush (v := 6) 174 dX6_init_172 rfl rfl ?_
  refine r_icmp_ge 194 177 dX6_init_174 rfl rfl (fun q => absurd q (by decide)) (fun _ => ?_)
  refine r_aload_n 178 dX6_init_177 rfl rfl ?_
  refine s_get 181 dX6_init_178 rfl fl_X6_7 hi (by omega) rfl ?_
  refine r_bipush (v := 9) 183 dX6_init_181 rfl rfl ?_
  refine r_iload_n 184 dX6_init_183 rfl rfl ?_
  refine r_iadd 185 dX6_init_184 rfl ?_
  refine r_bipush (v := 60) 187 dX6_init_185 rfl rfl ?_
  refine s_iast (k := 0) (a := n) (y := 12) 188 dX6_init_187 rfl hi rfl rfl rfl rfl (by decide) (by decide) ?_
  refine r_iinc (v := 4) 191 dX6_init_188 rfl rfl (by decide) rfl rfl ?_
  refine r_goto 171 dX6_init_191 rfl ?_
  refine r_iload_n 172 dX6_init_171 rfl rfl ?_
  refine r_bipush (v := 6) 174 dX6_init_172 rfl rfl ?_
  refine r_icmp_ge 194 177 dX6_init_174 rfl rfl (fun q => absurd q (by decide)) (fun _ => ?_)
  refine r_aload_n 178 dX6_init_177 rfl rfl ?_
  refine s_get 181 dX6_init_178 rfl fl_X6_7 hi (by omega) rfl ?_
  refine r_bipush (v := 9) 183 dX6_init_181 rfl rfl ?_
  refine r_iload_n 184 dX6_init_183 rfl rfl ?_
  refine r_iadd 185 dX6_init_184 rfl ?_
  refine r_bipush (v := 60) 187 dX6_init_185 rfl rfl ?_
  refine s_iast (k := 0) (a := n) (y := 13) 188 dX6_init_187 rfl hi rfl rfl rfl rfl (by decide) (by decide) ?_
  refine r_iinc (v := 5) 191 dX6_init_188 rfl rfl (by decide) rfl rfl ?_
  refine r_goto 171 dX6_init_191 rfl ?_
  refine r_iload_n 172 dX6_init_171 rfl rfl ?_
  refine r_bipush (v := 6) 174 dX6_init_172 rfl rfl ?_
  refine r_icmp_ge 194 177 dX6_init_174 rfl rfl (fun q => absurd q (by decide)) (fun _ => ?_)
  refine r_aload_n 178 dX6_init_177 rfl rfl ?_
  refine s_get 181 dX6_init_178 rfl fl_X6_7 hi (by omega) rfl ?_
  refine r_bipush (v := 9) 183 dX6_init_181 rfl rfl ?_
  refine r_iload_n 184 dX6_init_183 rfl rfl ?_
  refine r_iadd 185 dX6_init_184 rfl ?_
  refine r_bipush (v := 60) 187 dX6_init_185 rfl rfl ?_
  refine s_iast (k := 0) (a := n) (y := 14) 188 dX6_init_187 rfl hi rfl rfl rfl rfl (by decide) (by decide) ?_
  refine r_iinc (v := 6) 191 dX6_init_188 rfl rfl (by decide) rfl rfl ?_
  refine r_goto 171 dX6_init_191 rfl ?_
  refine r_iload_n 172 dX6_init_171 rfl rfl ?_
  refine r_bipush (v := 6) 174 dX6_init_172 rfl rfl ?_
  refine r_icmp_ge 194 177 dX6_init_174 rfl rfl (fun _ => ?_) (fun q => absurd (by decide) q)
  refine r_iconst (v := 0) 195 dX6_init_194 rfl rfl ?_
  refine r_istore_n 196 dX6_init_195 rfl (by decide) rfl ?_
  refine r_iload_n 197 dX6_init_196 rfl rfl ?_
  refine r_iconst (v := 4) 198 dX6_init_197 rfl rfl ?_
  refine r_icmp_ge 214 201 dX6_init_198 rfl rfl (fun q => absurd q (by decide)) (fun _ => ?_)
  refine r_aload_n 202 dX6_init_201 rfl rfl ?_
  refine s_get 205 dX6_init_202 rfl fl_X6_19 hi (by omega) rfl ?_
  refine r_iload_n 206 dX6_init_205 rfl rfl ?_
  refine r_iconst (v := (-1)) 207 dX6_init_206 rfl rfl ?_
  refine s_iast (k := 3) (a := (n + 3)) (y := 0) 208 dX6_init_207 rfl hi rfl rfl rfl rfl (by decide) (by decide) ?_
  refine r_eqE (E' := AP E i (.inr (6, [(.ref (n0 g + n)), (.ref (n0 g + (n + 1))), (.ref (n0 g + (n + 2))), (.int 0), (.ref (n0 g + (n + 3))), (.ref (n0 g + (n + 4))), (.ref (n0 g + (n + 5))), (.ref (n0 g + (n + 6))), (.ref (n0 g + (n + 7))), (.ref (n0 g + (n + 8))), (.ref (n0 g + (n + 9))), (.ref (n0 g + (n + 10))), (.ref (n0 g + (n + 11))), (.ref (n0 g + (n + 12))), (.int 0), (.int 0), (.int 0), (.int 0), (.int 0), (.int 0), (.int 0), (.int 0), (.int 0), (.int 0), (.int 0), (.ref (n0 g + (n + 13))), (.ref (n0 g + (n + 14))), (.ref (n0 g + (n + 15))), (.ref (n0 g + (n + 16))), (.int 0), (.ref (n0 g + (n + 17)))])) n ([.inl (gc g 0, 3071, .inl (upd (upd (upd (upd (upd (upd (upd (upd (upd (fun _ => 0) 8 1) 3 3) 4 20) 9 60) 10 60) 11 60) 12 60) 13 60) 14 60)), .inl (gc g 0, 3071, .inl (fun _ => 0)), .inl (gc g 0, 3071, .inl (fun _ => 0)), .inl (gc g 0, 4, .inl (upd (fun _ => 0) 0 (-1))), .inl (gc g 0, 4, .inl (fun _ => 0)), .inl (gc g 0, 96, .inl (fun _ => 0)), .inl (gc g 0, 5, .inl (fun _ => 0)), .inl (gc g 0, 5, .inl (fun _ => 0)), .inl (gc g 0, 5, .inl (fun _ => 0)), .inl (gc g 0, 5, .inl (fun _ => 0)), .inl (gc g 0, 120, .inl (fun _ => 0)), .inl (gc g 0, 71, .inl (fun _ => 0)), .inl (gc g 0, 96, .inl (fun _ => 0)), .inl (gc g 0, 128, .inl (fun _ => 0)), .inl (gc g 0, 100, .inl (fun _ => 0)), .inl (gc g 0, 24, .inl (fun _ => 0)), .inl (gc g 0, 60, .inl (fun _ => 0)), .inl (gc g 0, 60, .inl (fun _ => 0))] : List va_E)) rfl ?_
  refine r_iinc (v := 1) 211 dX6_init_208 rfl rfl (by decide) rfl rfl ?_
  refine r_goto 196 dX6_init_211 rfl ?_
  refine r_iload_n 197 dX6_init_196 rfl rfl ?_
  refine r_iconst (v := 4) 198 dX6_init_197 rfl rfl ?_
  refine r_icmp_ge 214 201 dX6_init_198 rfl rfl (fun q => absurd q (by decide)) (fun _ => ?_)
  refine r_aload_n 202 dX6_init_201 rfl rfl ?_
  refine s_get 205 dX6_init_202 rfl fl_X6_19 hi (by omega) rfl ?_
  refine r_iload_n 206 dX6_init_205 rfl rfl ?_
  refine r_iconst (v := (-1)) 207 dX6_init_206 rfl rfl ?_
  refine s_iast (k := 3) (a := (n + 3)) (y := 1) 208 dX6_init_207 rfl hi rfl rfl rfl rfl (by decide) (by decide) ?_
  refine r_iinc (v := 2) 211 dX6_init_208 rfl rfl (by decide) rfl rfl ?_
  refine r_goto 196 dX6_init_211 rfl ?_
  refine r_iload_n 197 dX6_init_196 rfl rfl ?_
  refine r_iconst (v := 4) 198 dX6_init_197 rfl rfl ?_
  refine r_icmp_ge 214 201 dX6_init_198 rfl rfl (fun q => absurd q (by decide)) (fun _ => ?_)
  refine r_aload_n 202 dX6_init_201 rfl rfl ?_
  refine s_get 205 dX6_init_202 rfl fl_X6_19 hi (by omega) rfl ?_
  refine r_iload_n 206 dX6_init_205 rfl rfl ?_
  refine r_iconst (v := (-1)) 207 dX6_init_206 rfl rfl ?_
  refine s_iast (k := 3) (a := (n + 3)) (y := 2) 208 dX6_init_207 rfl hi rfl rfl rfl rfl (by decide) (by decide) ?_
  refine r_iinc (v := 3) 211 dX6_init_208 rfl rfl (by decide) rfl rfl ?_
  refine r_goto 196 dX6_init_211 rfl ?_
  refine r_iload_n 197 dX6_init_196 rfl rfl ?_
  refine r_iconst (v := 4) 198 dX6_init_197 rfl rfl ?_
  refine r_icmp_ge 214 201 dX6_init_198 rfl rfl (fun q => absurd q (by decide)) (fun _ => ?_)
  refine r_aload_n 202 dX6_init_201 rfl rfl ?_
  refine s_get 205 dX6_init_202 rfl fl_X6_19 hi (by omega) rfl ?_
  refine r_iload_n 206 dX6_init_205 rfl rfl ?_
  refine r_iconst (v := (-1)) 207 dX6_init_206 rfl rfl ?_
  refine s_iast (k := 3) (a := (n + 3)) (y := 3) 208 dX6_init_207 rfl hi rfl rfl rfl rfl (by decide) (by decide) ?_
  refine r_iinc (v := 4) 211 dX6_init_208 rfl rfl (by decide) rfl rfl ?_
  refine r_goto 196 dX6_init_211 rfl ?_
  refine r_iload_n 197 dX6_init_196 rfl rfl ?_
  refine r_iconst (v := 4) 198 dX6_init_197 rfl rfl ?_
  refine r_icmp_ge 214 201 dX6_init_198 rfl rfl (fun _ => ?_) (fun q => absurd (by decide) q)
  refine r_eqE (E' := AP E i (.inr (6, [(.ref (n0 g + n)), (.ref (n0 g + (n + 1))), (.ref (n0 g + (n + 2))), (.int 0), (.ref (n0 g + (n + 3))), (.ref (n0 g + (n + 4))), (.ref (n0 g + (n + 5))), (.ref (n0 g + (n + 6))), (.ref (n0 g + (n + 7))), (.ref (n0 g + (n + 8))), (.ref (n0 g + (n + 9))), (.ref (n0 g + (n + 10))), (.ref (n0 g + (n + 11))), (.ref (n0 g + (n + 12))), (.int 0), (.int 0), (.int 0), (.int 0), (.int 0), (.int 0), (.int 0), (.int 0), (.int 0), (.int 0), (.int 0), (.ref (n0 g + (n + 13))), (.ref (n0 g + (n + 14))), (.ref (n0 g + (n + 15))), (.ref (n0 g + (n + 16))), (.int 0), (.ref (n0 g + (n + 17)))])) n ([.inl (gc g 0, 3071, .inl (upd (upd (upd (upd (upd (upd (upd (upd (upd (fun _ => 0) 8 1) 3 3) 4 20) 9 60) 10 60) 11 60) 12 60) 13 60) 14 60)), .inl (gc g 0, 3071, .inl (fun _ => 0)), .inl (gc g 0, 3071, .inl (fun _ => 0)), .inl (gc g 0, 4, .inl (upd (upd (upd (upd (fun _ => 0) 0 (-1)) 1 (-1)) 2 (-1)) 3 (-1))), .inl (gc g 0, 4, .inl (fun _ => 0)), .inl (gc g 0, 96, .inl (fun _ => 0)), .inl (gc g 0, 5, .inl (fun _ => 0)), .inl (gc g 0, 5, .inl (fun _ => 0)), .inl (gc g 0, 5, .inl (fun _ => 0)), .inl (gc g 0, 5, .inl (fun _ => 0)), .inl (gc g 0, 120, .inl (fun _ => 0)), .inl (gc g 0, 71, .inl (fun _ => 0)), .inl (gc g 0, 96, .inl (fun _ => 0)), .inl (gc g 0, 128, .inl (fun _ => 0)), .inl (gc g 0, 100, .inl (fun _ => 0)), .inl (gc g 0, 24, .inl (fun _ => 0)), .inl (gc g 0, 60, .inl (fun _ => 0)), .inl (gc g 0, 60, .inl (fun _ => 0))] : List va_E)) rfl ?_
  exact r_vret (P := fun _ => True) dX6_init_214 ⟨rfl, rfl⟩ (fun args s t hp hz hF => ⟨rfl, hp, hz, hF⟩)
