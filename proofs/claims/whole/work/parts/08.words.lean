theorem fl_J0_9 : Cond.fieldLink RJ0 9 "java/lang/String" "value" "[B" ∈ TB := TB_of (List.mem_append_right _ (List.mem_of_getElem? (i := 1365) (by decide +kernel))) rfl
theorem fl_J0_15 : Cond.fieldLink RJ0 15 "java/lang/String" "coder" "B" ∈ TB := TB_of (List.mem_append_right _ (List.mem_of_getElem? (i := 1366) (by decide +kernel))) rfl
theorem gs_J0_38 : Cond.fieldLink RJ0 38 "java/lang/String" "COMPACT_STRINGS" "Z" ∈ TB := TB_of (List.mem_append_right _ (List.mem_of_getElem? (i := 594) (by decide +kernel))) rfl
theorem mJ0_coder_7d493_i : Cond.initialized yJ0_coder_7d493.cls ∈ TB := TB_of (List.mem_append_right _ (List.mem_of_getElem? (i := 12) (by decide +kernel))) rfl
theorem mJ0_coder_7d493_c : Cond.code yJ0_coder_7d493 cJ0_coder_7d493 1 (some .byte) ∈ TB := TB_of (List.mem_append_right _ (List.mem_of_getElem? (i := 593) (by decide +kernel))) rfl
theorem mJ0_coder_7d493_d : yJ0_coder_7d493.cls ≠ "java/lang/invoke/MethodHandle" ∧ yJ0_coder_7d493.cls ≠ "java/lang/invoke/VarHandle" ∧ (parseMethodDescriptor yJ0_coder_7d493.desc).map (fun d => d.parameters.length) = some 0 := by decide +kernel
theorem mJ0_coder_7d493_n : Cond.instanceMethod yJ0_coder_7d493 ∈ TB := TB_of (List.mem_append_right _ (List.mem_of_getElem? (i := 591) (by decide +kernel))) rfl
theorem mJ0_coder_7d493_v : Cond.selects yJ0_coder_7d493.cls yJ0_coder_7d493 yJ0_coder_7d493 ∈ TB := TB_of (List.mem_append_right _ (List.mem_of_getElem? (i := 592) (by decide +kernel))) rfl
theorem cw_J0_335 : CW RJ0 335 yJ0_coder_7d493 cJ0_coder_7d493 1 (some .byte) 0 := ⟨TB_of (List.mem_append_right _ (List.mem_of_getElem? (i := 590) (by decide +kernel))) rfl, mJ0_coder_7d493_i, mJ0_coder_7d493_c, mJ0_coder_7d493_d⟩
theorem mJ0_isLatin1_aae02_i : Cond.initialized yJ0_isLatin1_aae02.cls ∈ TB := TB_of (List.mem_append_right _ (List.mem_of_getElem? (i := 12) (by decide +kernel))) rfl
theorem mJ0_isLatin1_aae02_c : Cond.code yJ0_isLatin1_aae02 cJ0_isLatin1_aae02 1 (some .boolean) ∈ TB := TB_of (List.mem_append_right _ (List.mem_of_getElem? (i := 603) (by decide +kernel))) rfl
theorem mJ0_isLatin1_aae02_d : yJ0_isLatin1_aae02.cls ≠ "java/lang/invoke/MethodHandle" ∧ yJ0_isLatin1_aae02.cls ≠ "java/lang/invoke/VarHandle" ∧ (parseMethodDescriptor yJ0_isLatin1_aae02.desc).map (fun d => d.parameters.length) = some 0 := by decide +kernel
theorem mJ0_isLatin1_aae02_n : Cond.instanceMethod yJ0_isLatin1_aae02 ∈ TB := TB_of (List.mem_append_right _ (List.mem_of_getElem? (i := 601) (by decide +kernel))) rfl
theorem mJ0_isLatin1_aae02_v : Cond.selects yJ0_isLatin1_aae02.cls yJ0_isLatin1_aae02 yJ0_isLatin1_aae02 ∈ TB := TB_of (List.mem_append_right _ (List.mem_of_getElem? (i := 602) (by decide +kernel))) rfl
theorem cw_J0_492 : CW RJ0 492 yJ0_isLatin1_aae02 cJ0_isLatin1_aae02 1 (some .boolean) 0 := ⟨TB_of (List.mem_append_right _ (List.mem_of_getElem? (i := 600) (by decide +kernel))) rfl, mJ0_isLatin1_aae02_i, mJ0_isLatin1_aae02_c, mJ0_isLatin1_aae02_d⟩
theorem mJ1_charAt_3b067_i : Cond.initialized yJ1_charAt_3b067.cls ∈ TB := TB_of (List.mem_append_right _ (List.mem_of_getElem? (i := 13) (by decide +kernel))) rfl
theorem mJ1_charAt_3b067_c : Cond.code yJ1_charAt_3b067 cJ1_charAt_3b067 2 (some .char) ∈ TB := TB_of (List.mem_append_right _ (List.mem_of_getElem? (i := 606) (by decide +kernel))) rfl
theorem mJ1_charAt_3b067_d : yJ1_charAt_3b067.cls ≠ "java/lang/invoke/MethodHandle" ∧ yJ1_charAt_3b067.cls ≠ "java/lang/invoke/VarHandle" ∧ (parseMethodDescriptor yJ1_charAt_3b067.desc).map (fun d => d.parameters.length) = some 2 := by decide +kernel
theorem mJ1_charAt_3b067_s : Cond.static yJ1_charAt_3b067 ∈ TB := TB_of (List.mem_append_right _ (List.mem_of_getElem? (i := 605) (by decide +kernel))) rfl
theorem cw_J0_495 : CWS RJ0 495 yJ1_charAt_3b067 cJ1_charAt_3b067 2 (some .char) 2 := ⟨⟨TB_of (List.mem_append_right _ (List.mem_of_getElem? (i := 604) (by decide +kernel))) rfl, mJ1_charAt_3b067_i, mJ1_charAt_3b067_c, mJ1_charAt_3b067_d⟩, mJ1_charAt_3b067_s⟩
theorem mJ2_charAt_3b067_i : Cond.initialized yJ2_charAt_3b067.cls ∈ TB := TB_of (List.mem_append_right _ (List.mem_of_getElem? (i := 15) (by decide +kernel))) rfl
theorem mJ2_charAt_3b067_c : Cond.code yJ2_charAt_3b067 cJ2_charAt_3b067 2 (some .char) ∈ TB := TB_of (List.mem_append_right _ (List.mem_of_getElem? (i := 617) (by decide +kernel))) rfl
theorem mJ2_charAt_3b067_d : yJ2_charAt_3b067.cls ≠ "java/lang/invoke/MethodHandle" ∧ yJ2_charAt_3b067.cls ≠ "java/lang/invoke/VarHandle" ∧ (parseMethodDescriptor yJ2_charAt_3b067.desc).map (fun d => d.parameters.length) = some 2 := by decide +kernel
theorem mJ2_charAt_3b067_s : Cond.static yJ2_charAt_3b067 ∈ TB := TB_of (List.mem_append_right _ (List.mem_of_getElem? (i := 616) (by decide +kernel))) rfl
theorem cw_J0_498 : CWS RJ0 498 yJ2_charAt_3b067 cJ2_charAt_3b067 2 (some .char) 2 := ⟨⟨TB_of (List.mem_append_right _ (List.mem_of_getElem? (i := 615) (by decide +kernel))) rfl, mJ2_charAt_3b067_i, mJ2_charAt_3b067_c, mJ2_charAt_3b067_d⟩, mJ2_charAt_3b067_s⟩
theorem mJ0_length_8abf5_i : Cond.initialized yJ0_length_8abf5.cls ∈ TB := TB_of (List.mem_append_right _ (List.mem_of_getElem? (i := 12) (by decide +kernel))) rfl
theorem mJ0_length_8abf5_c : Cond.code yJ0_length_8abf5 cJ0_length_8abf5 1 (some .int) ∈ TB := TB_of (List.mem_append_right _ (List.mem_of_getElem? (i := 589) (by decide +kernel))) rfl
theorem mJ0_length_8abf5_d : yJ0_length_8abf5.cls ≠ "java/lang/invoke/MethodHandle" ∧ yJ0_length_8abf5.cls ≠ "java/lang/invoke/VarHandle" ∧ (parseMethodDescriptor yJ0_length_8abf5.desc).map (fun d => d.parameters.length) = some 0 := by decide +kernel
theorem mJ0_length_8abf5_n : Cond.instanceMethod yJ0_length_8abf5 ∈ TB := TB_of (List.mem_append_right _ (List.mem_of_getElem? (i := 587) (by decide +kernel))) rfl
theorem mJ0_length_8abf5_v : Cond.selects yJ0_length_8abf5.cls yJ0_length_8abf5 yJ0_length_8abf5 ∈ TB := TB_of (List.mem_append_right _ (List.mem_of_getElem? (i := 588) (by decide +kernel))) rfl
theorem cw_J0_505 : CW RJ0 505 yJ0_length_8abf5 cJ0_length_8abf5 1 (some .int) 0 := ⟨TB_of (List.mem_append_right _ (List.mem_of_getElem? (i := 659) (by decide +kernel))) rfl, mJ0_length_8abf5_i, mJ0_length_8abf5_c, mJ0_length_8abf5_d⟩
theorem mJ0_indexOf_7cf53_i : Cond.initialized yJ0_indexOf_7cf53.cls ∈ TB := TB_of (List.mem_append_right _ (List.mem_of_getElem? (i := 12) (by decide +kernel))) rfl
theorem mJ0_indexOf_7cf53_c : Cond.code yJ0_indexOf_7cf53 cJ0_indexOf_7cf53 3 (some .int) ∈ TB := TB_of (List.mem_append_right _ (List.mem_of_getElem? (i := 658) (by decide +kernel))) rfl
theorem mJ0_indexOf_7cf53_d : yJ0_indexOf_7cf53.cls ≠ "java/lang/invoke/MethodHandle" ∧ yJ0_indexOf_7cf53.cls ≠ "java/lang/invoke/VarHandle" ∧ (parseMethodDescriptor yJ0_indexOf_7cf53.desc).map (fun d => d.parameters.length) = some 2 := by decide +kernel
theorem mJ0_indexOf_7cf53_n : Cond.instanceMethod yJ0_indexOf_7cf53 ∈ TB := TB_of (List.mem_append_right _ (List.mem_of_getElem? (i := 656) (by decide +kernel))) rfl
theorem mJ0_indexOf_7cf53_v : Cond.selects yJ0_indexOf_7cf53.cls yJ0_indexOf_7cf53 yJ0_indexOf_7cf53 ∈ TB := TB_of (List.mem_append_right _ (List.mem_of_getElem? (i := 657) (by decide +kernel))) rfl
theorem cw_J0_633 : CW RJ0 633 yJ0_indexOf_7cf53 cJ0_indexOf_7cf53 3 (some .int) 2 := ⟨TB_of (List.mem_append_right _ (List.mem_of_getElem? (i := 655) (by decide +kernel))) rfl, mJ0_indexOf_7cf53_i, mJ0_indexOf_7cf53_c, mJ0_indexOf_7cf53_d⟩
theorem mJ1_indexOf_4cfef_i : Cond.initialized yJ1_indexOf_4cfef.cls ∈ TB := TB_of (List.mem_append_right _ (List.mem_of_getElem? (i := 13) (by decide +kernel))) rfl
theorem mJ1_indexOf_4cfef_c : Cond.code yJ1_indexOf_4cfef cJ1_indexOf_4cfef 4 (some .int) ∈ TB := TB_of (List.mem_append_right _ (List.mem_of_getElem? (i := 662) (by decide +kernel))) rfl
theorem mJ1_indexOf_4cfef_d : yJ1_indexOf_4cfef.cls ≠ "java/lang/invoke/MethodHandle" ∧ yJ1_indexOf_4cfef.cls ≠ "java/lang/invoke/VarHandle" ∧ (parseMethodDescriptor yJ1_indexOf_4cfef.desc).map (fun d => d.parameters.length) = some 4 := by decide +kernel
theorem mJ1_indexOf_4cfef_s : Cond.static yJ1_indexOf_4cfef ∈ TB := TB_of (List.mem_append_right _ (List.mem_of_getElem? (i := 661) (by decide +kernel))) rfl
theorem cw_J0_637 : CWS RJ0 637 yJ1_indexOf_4cfef cJ1_indexOf_4cfef 4 (some .int) 4 := ⟨⟨TB_of (List.mem_append_right _ (List.mem_of_getElem? (i := 660) (by decide +kernel))) rfl, mJ1_indexOf_4cfef_i, mJ1_indexOf_4cfef_c, mJ1_indexOf_4cfef_d⟩, mJ1_indexOf_4cfef_s⟩
theorem mJ2_indexOf_4cfef_i : Cond.initialized yJ2_indexOf_4cfef.cls ∈ TB := TB_of (List.mem_append_right _ (List.mem_of_getElem? (i := 15) (by decide +kernel))) rfl
theorem mJ2_indexOf_4cfef_c : Cond.code yJ2_indexOf_4cfef cJ2_indexOf_4cfef 4 (some .int) ∈ TB := TB_of (List.mem_append_right _ (List.mem_of_getElem? (i := 673) (by decide +kernel))) rfl
theorem mJ2_indexOf_4cfef_d : yJ2_indexOf_4cfef.cls ≠ "java/lang/invoke/MethodHandle" ∧ yJ2_indexOf_4cfef.cls ≠ "java/lang/invoke/VarHandle" ∧ (parseMethodDescriptor yJ2_indexOf_4cfef.desc).map (fun d => d.parameters.length) = some 4 := by decide +kernel
theorem mJ2_indexOf_4cfef_s : Cond.static yJ2_indexOf_4cfef ∈ TB := TB_of (List.mem_append_right _ (List.mem_of_getElem? (i := 672) (by decide +kernel))) rfl
theorem cw_J0_640 : CWS RJ0 640 yJ2_indexOf_4cfef cJ2_indexOf_4cfef 4 (some .int) 4 := ⟨⟨TB_of (List.mem_append_right _ (List.mem_of_getElem? (i := 671) (by decide +kernel))) rfl, mJ2_indexOf_4cfef_i, mJ2_indexOf_4cfef_c, mJ2_indexOf_4cfef_d⟩, mJ2_indexOf_4cfef_s⟩
theorem gs_J0_1053 : Cond.fieldLink RJ0 1053 "jdk/internal/util/Preconditions" "SIOOBE_FORMATTER" "Ljava/util/function/BiFunction;" ∈ TB := TB_of (List.mem_append_right _ (List.mem_of_getElem? (i := 610) (by decide +kernel))) rfl
theorem mJ3_checkIndex_8e157_i : Cond.initialized yJ3_checkIndex_8e157.cls ∈ TB := TB_of (List.mem_append_right _ (List.mem_of_getElem? (i := 14) (by decide +kernel))) rfl
theorem mJ3_checkIndex_8e157_c : Cond.code yJ3_checkIndex_8e157 cJ3_checkIndex_8e157 3 (some .int) ∈ TB := TB_of (List.mem_append_right _ (List.mem_of_getElem? (i := 614) (by decide +kernel))) rfl
theorem mJ3_checkIndex_8e157_d : yJ3_checkIndex_8e157.cls ≠ "java/lang/invoke/MethodHandle" ∧ yJ3_checkIndex_8e157.cls ≠ "java/lang/invoke/VarHandle" ∧ (parseMethodDescriptor yJ3_checkIndex_8e157.desc).map (fun d => d.parameters.length) = some 3 := by decide +kernel
theorem mJ3_checkIndex_8e157_s : Cond.static yJ3_checkIndex_8e157 ∈ TB := TB_of (List.mem_append_right _ (List.mem_of_getElem? (i := 613) (by decide +kernel))) rfl
theorem cw_J0_1059 : CWS RJ0 1059 yJ3_checkIndex_8e157 cJ3_checkIndex_8e157 3 (some .int) 3 := ⟨⟨TB_of (List.mem_append_right _ (List.mem_of_getElem? (i := 612) (by decide +kernel))) rfl, mJ3_checkIndex_8e157_i, mJ3_checkIndex_8e157_c, mJ3_checkIndex_8e157_d⟩, mJ3_checkIndex_8e157_s⟩
theorem mJ3_checkFromToIndex_8c36e_i : Cond.initialized yJ3_checkFromToIndex_8c36e.cls ∈ TB := TB_of (List.mem_append_right _ (List.mem_of_getElem? (i := 14) (by decide +kernel))) rfl
theorem mJ3_checkFromToIndex_8c36e_c : Cond.code yJ3_checkFromToIndex_8c36e cJ3_checkFromToIndex_8c36e 4 (some .int) ∈ TB := TB_of (List.mem_append_right _ (List.mem_of_getElem? (i := 688) (by decide +kernel))) rfl
theorem mJ3_checkFromToIndex_8c36e_d : yJ3_checkFromToIndex_8c36e.cls ≠ "java/lang/invoke/MethodHandle" ∧ yJ3_checkFromToIndex_8c36e.cls ≠ "java/lang/invoke/VarHandle" ∧ (parseMethodDescriptor yJ3_checkFromToIndex_8c36e.desc).map (fun d => d.parameters.length) = some 4 := by decide +kernel
theorem mJ3_checkFromToIndex_8c36e_s : Cond.static yJ3_checkFromToIndex_8c36e ∈ TB := TB_of (List.mem_append_right _ (List.mem_of_getElem? (i := 687) (by decide +kernel))) rfl
theorem cw_J0_1062 : CWS RJ0 1062 yJ3_checkFromToIndex_8c36e cJ3_checkFromToIndex_8c36e 4 (some .int) 4 := ⟨⟨TB_of (List.mem_append_right _ (List.mem_of_getElem? (i := 686) (by decide +kernel))) rfl, mJ3_checkFromToIndex_8c36e_i, mJ3_checkFromToIndex_8c36e_c, mJ3_checkFromToIndex_8c36e_d⟩, mJ3_checkFromToIndex_8c36e_s⟩
theorem mJ0_checkIndex_df160_i : Cond.initialized yJ0_checkIndex_df160.cls ∈ TB := TB_of (List.mem_append_right _ (List.mem_of_getElem? (i := 12) (by decide +kernel))) rfl
theorem mJ0_checkIndex_df160_c : Cond.code yJ0_checkIndex_df160 cJ0_checkIndex_df160 2 none ∈ TB := TB_of (List.mem_append_right _ (List.mem_of_getElem? (i := 609) (by decide +kernel))) rfl
theorem mJ0_checkIndex_df160_d : yJ0_checkIndex_df160.cls ≠ "java/lang/invoke/MethodHandle" ∧ yJ0_checkIndex_df160.cls ≠ "java/lang/invoke/VarHandle" ∧ (parseMethodDescriptor yJ0_checkIndex_df160.desc).map (fun d => d.parameters.length) = some 2 := by decide +kernel
theorem mJ0_checkIndex_df160_s : Cond.static yJ0_checkIndex_df160 ∈ TB := TB_of (List.mem_append_right _ (List.mem_of_getElem? (i := 608) (by decide +kernel))) rfl
theorem cw_J1_9 : CWS RJ1 9 yJ0_checkIndex_df160 cJ0_checkIndex_df160 2 none 2 := ⟨⟨TB_of (List.mem_append_right _ (List.mem_of_getElem? (i := 607) (by decide +kernel))) rfl, mJ0_checkIndex_df160_i, mJ0_checkIndex_df160_c, mJ0_checkIndex_df160_d⟩, mJ0_checkIndex_df160_s⟩
theorem mJ9_min_7cf53_i : Cond.initialized yJ9_min_7cf53.cls ∈ TB := TB_of (List.mem_append_right _ (List.mem_of_getElem? (i := 9) (by decide +kernel))) rfl
theorem mJ9_min_7cf53_c : Cond.code yJ9_min_7cf53 cJ9_min_7cf53 2 (some .int) ∈ TB := TB_of (List.mem_append_right _ (List.mem_of_getElem? (i := 317) (by decide +kernel))) rfl
theorem mJ9_min_7cf53_d : yJ9_min_7cf53.cls ≠ "java/lang/invoke/MethodHandle" ∧ yJ9_min_7cf53.cls ≠ "java/lang/invoke/VarHandle" ∧ (parseMethodDescriptor yJ9_min_7cf53.desc).map (fun d => d.parameters.length) = some 2 := by decide +kernel
theorem mJ9_min_7cf53_s : Cond.static yJ9_min_7cf53 ∈ TB := TB_of (List.mem_append_right _ (List.mem_of_getElem? (i := 316) (by decide +kernel))) rfl
theorem cw_J1_38 : CWS RJ1 38 yJ9_min_7cf53 cJ9_min_7cf53 2 (some .int) 2 := ⟨⟨TB_of (List.mem_append_right _ (List.mem_of_getElem? (i := 667) (by decide +kernel))) rfl, mJ9_min_7cf53_i, mJ9_min_7cf53_c, mJ9_min_7cf53_d⟩, mJ9_min_7cf53_s⟩
theorem mJ1_canEncode_9a6ad_i : Cond.initialized yJ1_canEncode_9a6ad.cls ∈ TB := TB_of (List.mem_append_right _ (List.mem_of_getElem? (i := 13) (by decide +kernel))) rfl
theorem mJ1_canEncode_9a6ad_c : Cond.code yJ1_canEncode_9a6ad cJ1_canEncode_9a6ad 1 (some .boolean) ∈ TB := TB_of (List.mem_append_right _ (List.mem_of_getElem? (i := 665) (by decide +kernel))) rfl
theorem mJ1_canEncode_9a6ad_d : yJ1_canEncode_9a6ad.cls ≠ "java/lang/invoke/MethodHandle" ∧ yJ1_canEncode_9a6ad.cls ≠ "java/lang/invoke/VarHandle" ∧ (parseMethodDescriptor yJ1_canEncode_9a6ad.desc).map (fun d => d.parameters.length) = some 1 := by decide +kernel
theorem mJ1_canEncode_9a6ad_s : Cond.static yJ1_canEncode_9a6ad ∈ TB := TB_of (List.mem_append_right _ (List.mem_of_getElem? (i := 664) (by decide +kernel))) rfl
theorem cw_J1_88 : CWS RJ1 88 yJ1_canEncode_9a6ad cJ1_canEncode_9a6ad 1 (some .boolean) 1 := ⟨⟨TB_of (List.mem_append_right _ (List.mem_of_getElem? (i := 663) (by decide +kernel))) rfl, mJ1_canEncode_9a6ad_i, mJ1_canEncode_9a6ad_c, mJ1_canEncode_9a6ad_d⟩, mJ1_canEncode_9a6ad_s⟩
theorem mJ9_max_7cf53_i : Cond.initialized yJ9_max_7cf53.cls ∈ TB := TB_of (List.mem_append_right _ (List.mem_of_getElem? (i := 9) (by decide +kernel))) rfl
theorem mJ9_max_7cf53_c : Cond.code yJ9_max_7cf53 cJ9_max_7cf53 2 (some .int) ∈ TB := TB_of (List.mem_append_right _ (List.mem_of_getElem? (i := 320) (by decide +kernel))) rfl
theorem mJ9_max_7cf53_d : yJ9_max_7cf53.cls ≠ "java/lang/invoke/MethodHandle" ∧ yJ9_max_7cf53.cls ≠ "java/lang/invoke/VarHandle" ∧ (parseMethodDescriptor yJ9_max_7cf53.desc).map (fun d => d.parameters.length) = some 2 := by decide +kernel
theorem mJ9_max_7cf53_s : Cond.static yJ9_max_7cf53 ∈ TB := TB_of (List.mem_append_right _ (List.mem_of_getElem? (i := 319) (by decide +kernel))) rfl
theorem cw_J1_92 : CWS RJ1 92 yJ9_max_7cf53 cJ9_max_7cf53 2 (some .int) 2 := ⟨⟨TB_of (List.mem_append_right _ (List.mem_of_getElem? (i := 666) (by decide +kernel))) rfl, mJ9_max_7cf53_i, mJ9_max_7cf53_c, mJ9_max_7cf53_d⟩, mJ9_max_7cf53_s⟩
theorem mJ1_indexOfChar_4cfef_i : Cond.initialized yJ1_indexOfChar_4cfef.cls ∈ TB := TB_of (List.mem_append_right _ (List.mem_of_getElem? (i := 13) (by decide +kernel))) rfl
theorem mJ1_indexOfChar_4cfef_c : Cond.code yJ1_indexOfChar_4cfef cJ1_indexOfChar_4cfef 6 (some .int) ∈ TB := TB_of (List.mem_append_right _ (List.mem_of_getElem? (i := 670) (by decide +kernel))) rfl
theorem mJ1_indexOfChar_4cfef_d : yJ1_indexOfChar_4cfef.cls ≠ "java/lang/invoke/MethodHandle" ∧ yJ1_indexOfChar_4cfef.cls ≠ "java/lang/invoke/VarHandle" ∧ (parseMethodDescriptor yJ1_indexOfChar_4cfef.desc).map (fun d => d.parameters.length) = some 4 := by decide +kernel
theorem mJ1_indexOfChar_4cfef_s : Cond.static yJ1_indexOfChar_4cfef ∈ TB := TB_of (List.mem_append_right _ (List.mem_of_getElem? (i := 669) (by decide +kernel))) rfl
theorem cw_J1_95 : CWS RJ1 95 yJ1_indexOfChar_4cfef cJ1_indexOfChar_4cfef 6 (some .int) 4 := ⟨⟨TB_of (List.mem_append_right _ (List.mem_of_getElem? (i := 668) (by decide +kernel))) rfl, mJ1_indexOfChar_4cfef_i, mJ1_indexOfChar_4cfef_c, mJ1_indexOfChar_4cfef_d⟩, mJ1_indexOfChar_4cfef_s⟩
theorem cs_J6_265 : Cond.constant RJ6 265 (1431655765) ∈ TB := TB_of (List.mem_append_right _ (List.mem_of_getElem? (i := 405) (by decide +kernel))) rfl
theorem cs_J6_266 : Cond.constant RJ6 266 (858993459) ∈ TB := TB_of (List.mem_append_right _ (List.mem_of_getElem? (i := 406) (by decide +kernel))) rfl
theorem cs_J6_267 : Cond.constant RJ6 267 (252645135) ∈ TB := TB_of (List.mem_append_right _ (List.mem_of_getElem? (i := 407) (by decide +kernel))) rfl
theorem mX5_writes_i : Cond.initialized yX5_writes.cls ∈ TB := TB_of (List.mem_append_right _ (List.mem_of_getElem? (i := 1) (by decide +kernel))) rfl
theorem mX5_writes_c : Cond.code yX5_writes cX5_writes 5 (some .int) ∈ TB := TB_of (List.mem_append_right _ (List.mem_of_getElem? (i := 271) (by decide +kernel))) rfl
theorem mX5_writes_d : yX5_writes.cls ≠ "java/lang/invoke/MethodHandle" ∧ yX5_writes.cls ≠ "java/lang/invoke/VarHandle" ∧ (parseMethodDescriptor yX5_writes.desc).map (fun d => d.parameters.length) = some 4 := by decide +kernel
theorem mX5_writes_n : Cond.instanceMethod yX5_writes ∈ TB := TB_of (List.mem_append_right _ (List.mem_of_getElem? (i := 269) (by decide +kernel))) rfl
theorem mX5_writes_v : Cond.selects yX5_writes.cls yX5_writes yX5_writes ∈ TB := TB_of (List.mem_append_right _ (List.mem_of_getElem? (i := 270) (by decide +kernel))) rfl
theorem cw_L_13 : CWV RL 13 5 yX5_writes cX5_writes 5 (some .int) 4 := ⟨⟨TB_of (List.mem_append_right _ (List.mem_of_getElem? (i := 268) (by decide +kernel))) rfl, mX5_writes_i, mX5_writes_c, mX5_writes_d⟩, mX5_writes_n, mX5_writes_v, _, _, rfl⟩
theorem mX6_writes_i : Cond.initialized yX6_writes.cls ∈ TB := TB_of (List.mem_append_right _ (List.mem_of_getElem? (i := 8) (by decide +kernel))) rfl
theorem mX6_writes_c : Cond.code yX6_writes cX6_writes 5 (some .int) ∈ TB := TB_of (List.mem_append_right _ (List.mem_of_getElem? (i := 939) (by decide +kernel))) rfl
theorem mX6_writes_d : yX6_writes.cls ≠ "java/lang/invoke/MethodHandle" ∧ yX6_writes.cls ≠ "java/lang/invoke/VarHandle" ∧ (parseMethodDescriptor yX6_writes.desc).map (fun d => d.parameters.length) = some 4 := by decide +kernel
theorem mX6_writes_n : Cond.instanceMethod yX6_writes ∈ TB := TB_of (List.mem_append_right _ (List.mem_of_getElem? (i := 937) (by decide +kernel))) rfl
theorem mX6_writes_v : Cond.selects yX6_writes.cls yX6_writes yX6_writes ∈ TB := TB_of (List.mem_append_right _ (List.mem_of_getElem? (i := 938) (by decide +kernel))) rfl
theorem cw_L_17 : CWV RL 17 6 yX6_writes cX6_writes 5 (some .int) 4 := ⟨⟨TB_of (List.mem_append_right _ (List.mem_of_getElem? (i := 936) (by decide +kernel))) rfl, mX6_writes_i, mX6_writes_c, mX6_writes_d⟩, mX6_writes_n, mX6_writes_v, _, _, rfl⟩
theorem mX5_told_i : Cond.initialized yX5_told.cls ∈ TB := TB_of (List.mem_append_right _ (List.mem_of_getElem? (i := 1) (by decide +kernel))) rfl
theorem mX5_told_c : Cond.code yX5_told cX5_told 3 (some .int) ∈ TB := TB_of (List.mem_append_right _ (List.mem_of_getElem? (i := 291) (by decide +kernel))) rfl
theorem mX5_told_d : yX5_told.cls ≠ "java/lang/invoke/MethodHandle" ∧ yX5_told.cls ≠ "java/lang/invoke/VarHandle" ∧ (parseMethodDescriptor yX5_told.desc).map (fun d => d.parameters.length) = some 2 := by decide +kernel
theorem mX5_told_n : Cond.instanceMethod yX5_told ∈ TB := TB_of (List.mem_append_right _ (List.mem_of_getElem? (i := 289) (by decide +kernel))) rfl
theorem mX5_told_v : Cond.selects yX5_told.cls yX5_told yX5_told ∈ TB := TB_of (List.mem_append_right _ (List.mem_of_getElem? (i := 290) (by decide +kernel))) rfl
theorem cw_L_18 : CWV RL 18 5 yX5_told cX5_told 3 (some .int) 2 := ⟨⟨TB_of (List.mem_append_right _ (List.mem_of_getElem? (i := 288) (by decide +kernel))) rfl, mX5_told_i, mX5_told_c, mX5_told_d⟩, mX5_told_n, mX5_told_v, _, _, rfl⟩
theorem mX6_told_i : Cond.initialized yX6_told.cls ∈ TB := TB_of (List.mem_append_right _ (List.mem_of_getElem? (i := 8) (by decide +kernel))) rfl
theorem mX6_told_c : Cond.code yX6_told cX6_told 3 (some .int) ∈ TB := TB_of (List.mem_append_right _ (List.mem_of_getElem? (i := 962) (by decide +kernel))) rfl
theorem mX6_told_d : yX6_told.cls ≠ "java/lang/invoke/MethodHandle" ∧ yX6_told.cls ≠ "java/lang/invoke/VarHandle" ∧ (parseMethodDescriptor yX6_told.desc).map (fun d => d.parameters.length) = some 2 := by decide +kernel
theorem mX6_told_n : Cond.instanceMethod yX6_told ∈ TB := TB_of (List.mem_append_right _ (List.mem_of_getElem? (i := 960) (by decide +kernel))) rfl
theorem mX6_told_v : Cond.selects yX6_told.cls yX6_told yX6_told ∈ TB := TB_of (List.mem_append_right _ (List.mem_of_getElem? (i := 961) (by decide +kernel))) rfl
theorem cw_L_22 : CWV RL 22 6 yX6_told cX6_told 3 (some .int) 2 := ⟨⟨TB_of (List.mem_append_right _ (List.mem_of_getElem? (i := 959) (by decide +kernel))) rfl, mX6_told_i, mX6_told_c, mX6_told_d⟩, mX6_told_n, mX6_told_v, _, _, rfl⟩
theorem mX5_as_i : Cond.initialized yX5_as.cls ∈ TB := TB_of (List.mem_append_right _ (List.mem_of_getElem? (i := 1) (by decide +kernel))) rfl
theorem mX5_as_c : Cond.code yX5_as cX5_as 3 (some .int) ∈ TB := TB_of (List.mem_append_right _ (List.mem_of_getElem? (i := 337) (by decide +kernel))) rfl
theorem mX5_as_d : yX5_as.cls ≠ "java/lang/invoke/MethodHandle" ∧ yX5_as.cls ≠ "java/lang/invoke/VarHandle" ∧ (parseMethodDescriptor yX5_as.desc).map (fun d => d.parameters.length) = some 2 := by decide +kernel
theorem mX5_as_n : Cond.instanceMethod yX5_as ∈ TB := TB_of (List.mem_append_right _ (List.mem_of_getElem? (i := 335) (by decide +kernel))) rfl
theorem mX5_as_v : Cond.selects yX5_as.cls yX5_as yX5_as ∈ TB := TB_of (List.mem_append_right _ (List.mem_of_getElem? (i := 336) (by decide +kernel))) rfl
theorem cw_L_23 : CWV RL 23 5 yX5_as cX5_as 3 (some .int) 2 := ⟨⟨TB_of (List.mem_append_right _ (List.mem_of_getElem? (i := 334) (by decide +kernel))) rfl, mX5_as_i, mX5_as_c, mX5_as_d⟩, mX5_as_n, mX5_as_v, _, _, rfl⟩
theorem mX6_as_i : Cond.initialized yX6_as.cls ∈ TB := TB_of (List.mem_append_right _ (List.mem_of_getElem? (i := 8) (by decide +kernel))) rfl
theorem mX6_as_c : Cond.code yX6_as cX6_as 3 (some .int) ∈ TB := TB_of (List.mem_append_right _ (List.mem_of_getElem? (i := 1023) (by decide +kernel))) rfl
theorem mX6_as_d : yX6_as.cls ≠ "java/lang/invoke/MethodHandle" ∧ yX6_as.cls ≠ "java/lang/invoke/VarHandle" ∧ (parseMethodDescriptor yX6_as.desc).map (fun d => d.parameters.length) = some 2 := by decide +kernel
theorem mX6_as_n : Cond.instanceMethod yX6_as ∈ TB := TB_of (List.mem_append_right _ (List.mem_of_getElem? (i := 1021) (by decide +kernel))) rfl
theorem mX6_as_v : Cond.selects yX6_as.cls yX6_as yX6_as ∈ TB := TB_of (List.mem_append_right _ (List.mem_of_getElem? (i := 1022) (by decide +kernel))) rfl
theorem cw_L_26 : CWV RL 26 6 yX6_as cX6_as 3 (some .int) 2 := ⟨⟨TB_of (List.mem_append_right _ (List.mem_of_getElem? (i := 1020) (by decide +kernel))) rfl, mX6_as_i, mX6_as_c, mX6_as_d⟩, mX6_as_n, mX6_as_v, _, _, rfl⟩
theorem mX5_turns_i : Cond.initialized yX5_turns.cls ∈ TB := TB_of (List.mem_append_right _ (List.mem_of_getElem? (i := 1) (by decide +kernel))) rfl
theorem mX5_turns_c : Cond.code yX5_turns cX5_turns 4 (some .int) ∈ TB := TB_of (List.mem_append_right _ (List.mem_of_getElem? (i := 347) (by decide +kernel))) rfl
theorem mX5_turns_d : yX5_turns.cls ≠ "java/lang/invoke/MethodHandle" ∧ yX5_turns.cls ≠ "java/lang/invoke/VarHandle" ∧ (parseMethodDescriptor yX5_turns.desc).map (fun d => d.parameters.length) = some 2 := by decide +kernel
theorem mX5_turns_n : Cond.instanceMethod yX5_turns ∈ TB := TB_of (List.mem_append_right _ (List.mem_of_getElem? (i := 345) (by decide +kernel))) rfl
theorem mX5_turns_v : Cond.selects yX5_turns.cls yX5_turns yX5_turns ∈ TB := TB_of (List.mem_append_right _ (List.mem_of_getElem? (i := 346) (by decide +kernel))) rfl
theorem cw_L_27 : CWV RL 27 5 yX5_turns cX5_turns 4 (some .int) 2 := ⟨⟨TB_of (List.mem_append_right _ (List.mem_of_getElem? (i := 344) (by decide +kernel))) rfl, mX5_turns_i, mX5_turns_c, mX5_turns_d⟩, mX5_turns_n, mX5_turns_v, _, _, rfl⟩
theorem mX6_turns_i : Cond.initialized yX6_turns.cls ∈ TB := TB_of (List.mem_append_right _ (List.mem_of_getElem? (i := 8) (by decide +kernel))) rfl
theorem mX6_turns_c : Cond.code yX6_turns cX6_turns 3 (some .int) ∈ TB := TB_of (List.mem_append_right _ (List.mem_of_getElem? (i := 1031) (by decide +kernel))) rfl
theorem mX6_turns_d : yX6_turns.cls ≠ "java/lang/invoke/MethodHandle" ∧ yX6_turns.cls ≠ "java/lang/invoke/VarHandle" ∧ (parseMethodDescriptor yX6_turns.desc).map (fun d => d.parameters.length) = some 2 := by decide +kernel
theorem mX6_turns_n : Cond.instanceMethod yX6_turns ∈ TB := TB_of (List.mem_append_right _ (List.mem_of_getElem? (i := 1029) (by decide +kernel))) rfl
theorem mX6_turns_v : Cond.selects yX6_turns.cls yX6_turns yX6_turns ∈ TB := TB_of (List.mem_append_right _ (List.mem_of_getElem? (i := 1030) (by decide +kernel))) rfl
theorem cw_L_30 : CWV RL 30 6 yX6_turns cX6_turns 3 (some .int) 2 := ⟨⟨TB_of (List.mem_append_right _ (List.mem_of_getElem? (i := 1028) (by decide +kernel))) rfl, mX6_turns_i, mX6_turns_c, mX6_turns_d⟩, mX6_turns_n, mX6_turns_v, _, _, rfl⟩
theorem mX5_set_i : Cond.initialized yX5_set.cls ∈ TB := TB_of (List.mem_append_right _ (List.mem_of_getElem? (i := 1) (by decide +kernel))) rfl
theorem mX5_set_c : Cond.code yX5_set cX5_set 4 (some .int) ∈ TB := TB_of (List.mem_append_right _ (List.mem_of_getElem? (i := 351) (by decide +kernel))) rfl
theorem mX5_set_d : yX5_set.cls ≠ "java/lang/invoke/MethodHandle" ∧ yX5_set.cls ≠ "java/lang/invoke/VarHandle" ∧ (parseMethodDescriptor yX5_set.desc).map (fun d => d.parameters.length) = some 3 := by decide +kernel
theorem mX5_set_n : Cond.instanceMethod yX5_set ∈ TB := TB_of (List.mem_append_right _ (List.mem_of_getElem? (i := 349) (by decide +kernel))) rfl
theorem mX5_set_v : Cond.selects yX5_set.cls yX5_set yX5_set ∈ TB := TB_of (List.mem_append_right _ (List.mem_of_getElem? (i := 350) (by decide +kernel))) rfl
theorem cw_L_31 : CWV RL 31 5 yX5_set cX5_set 4 (some .int) 3 := ⟨⟨TB_of (List.mem_append_right _ (List.mem_of_getElem? (i := 348) (by decide +kernel))) rfl, mX5_set_i, mX5_set_c, mX5_set_d⟩, mX5_set_n, mX5_set_v, _, _, rfl⟩
theorem mX6_set_i : Cond.initialized yX6_set.cls ∈ TB := TB_of (List.mem_append_right _ (List.mem_of_getElem? (i := 8) (by decide +kernel))) rfl
theorem mX6_set_c : Cond.code yX6_set cX6_set 5 (some .int) ∈ TB := TB_of (List.mem_append_right _ (List.mem_of_getElem? (i := 1039) (by decide +kernel))) rfl
theorem mX6_set_d : yX6_set.cls ≠ "java/lang/invoke/MethodHandle" ∧ yX6_set.cls ≠ "java/lang/invoke/VarHandle" ∧ (parseMethodDescriptor yX6_set.desc).map (fun d => d.parameters.length) = some 3 := by decide +kernel
theorem mX6_set_n : Cond.instanceMethod yX6_set ∈ TB := TB_of (List.mem_append_right _ (List.mem_of_getElem? (i := 1037) (by decide +kernel))) rfl
theorem mX6_set_v : Cond.selects yX6_set.cls yX6_set yX6_set ∈ TB := TB_of (List.mem_append_right _ (List.mem_of_getElem? (i := 1038) (by decide +kernel))) rfl
theorem cw_L_35 : CWV RL 35 6 yX6_set cX6_set 5 (some .int) 3 := ⟨⟨TB_of (List.mem_append_right _ (List.mem_of_getElem? (i := 1036) (by decide +kernel))) rfl, mX6_set_i, mX6_set_c, mX6_set_d⟩, mX6_set_n, mX6_set_v, _, _, rfl⟩
theorem mX5_cell_i : Cond.initialized yX5_cell.cls ∈ TB := TB_of (List.mem_append_right _ (List.mem_of_getElem? (i := 1) (by decide +kernel))) rfl
theorem mX5_cell_c : Cond.code yX5_cell cX5_cell 4 (some .int) ∈ TB := TB_of (List.mem_append_right _ (List.mem_of_getElem? (i := 362) (by decide +kernel))) rfl
theorem mX5_cell_d : yX5_cell.cls ≠ "java/lang/invoke/MethodHandle" ∧ yX5_cell.cls ≠ "java/lang/invoke/VarHandle" ∧ (parseMethodDescriptor yX5_cell.desc).map (fun d => d.parameters.length) = some 3 := by decide +kernel
theorem mX5_cell_n : Cond.instanceMethod yX5_cell ∈ TB := TB_of (List.mem_append_right _ (List.mem_of_getElem? (i := 360) (by decide +kernel))) rfl
theorem mX5_cell_v : Cond.selects yX5_cell.cls yX5_cell yX5_cell ∈ TB := TB_of (List.mem_append_right _ (List.mem_of_getElem? (i := 361) (by decide +kernel))) rfl
theorem cw_L_36 : CWV RL 36 5 yX5_cell cX5_cell 4 (some .int) 3 := ⟨⟨TB_of (List.mem_append_right _ (List.mem_of_getElem? (i := 359) (by decide +kernel))) rfl, mX5_cell_i, mX5_cell_c, mX5_cell_d⟩, mX5_cell_n, mX5_cell_v, _, _, rfl⟩
theorem mX6_cell_i : Cond.initialized yX6_cell.cls ∈ TB := TB_of (List.mem_append_right _ (List.mem_of_getElem? (i := 8) (by decide +kernel))) rfl
theorem mX6_cell_c : Cond.code yX6_cell cX6_cell 4 (some .int) ∈ TB := TB_of (List.mem_append_right _ (List.mem_of_getElem? (i := 1044) (by decide +kernel))) rfl
theorem mX6_cell_d : yX6_cell.cls ≠ "java/lang/invoke/MethodHandle" ∧ yX6_cell.cls ≠ "java/lang/invoke/VarHandle" ∧ (parseMethodDescriptor yX6_cell.desc).map (fun d => d.parameters.length) = some 3 := by decide +kernel
theorem mX6_cell_n : Cond.instanceMethod yX6_cell ∈ TB := TB_of (List.mem_append_right _ (List.mem_of_getElem? (i := 1042) (by decide +kernel))) rfl
theorem mX6_cell_v : Cond.selects yX6_cell.cls yX6_cell yX6_cell ∈ TB := TB_of (List.mem_append_right _ (List.mem_of_getElem? (i := 1043) (by decide +kernel))) rfl
theorem cw_L_39 : CWV RL 39 6 yX6_cell cX6_cell 4 (some .int) 3 := ⟨⟨TB_of (List.mem_append_right _ (List.mem_of_getElem? (i := 1041) (by decide +kernel))) rfl, mX6_cell_i, mX6_cell_c, mX6_cell_d⟩, mX6_cell_n, mX6_cell_v, _, _, rfl⟩
theorem mX5_cellOf_i : Cond.initialized yX5_cellOf.cls ∈ TB := TB_of (List.mem_append_right _ (List.mem_of_getElem? (i := 1) (by decide +kernel))) rfl
theorem mX5_cellOf_c : Cond.code yX5_cellOf cX5_cellOf 3 (some .int) ∈ TB := TB_of (List.mem_append_right _ (List.mem_of_getElem? (i := 366) (by decide +kernel))) rfl
theorem mX5_cellOf_d : yX5_cellOf.cls ≠ "java/lang/invoke/MethodHandle" ∧ yX5_cellOf.cls ≠ "java/lang/invoke/VarHandle" ∧ (parseMethodDescriptor yX5_cellOf.desc).map (fun d => d.parameters.length) = some 2 := by decide +kernel
theorem mX5_cellOf_n : Cond.instanceMethod yX5_cellOf ∈ TB := TB_of (List.mem_append_right _ (List.mem_of_getElem? (i := 364) (by decide +kernel))) rfl
theorem mX5_cellOf_v : Cond.selects yX5_cellOf.cls yX5_cellOf yX5_cellOf ∈ TB := TB_of (List.mem_append_right _ (List.mem_of_getElem? (i := 365) (by decide +kernel))) rfl
theorem cw_L_40 : CWV RL 40 5 yX5_cellOf cX5_cellOf 3 (some .int) 2 := ⟨⟨TB_of (List.mem_append_right _ (List.mem_of_getElem? (i := 363) (by decide +kernel))) rfl, mX5_cellOf_i, mX5_cellOf_c, mX5_cellOf_d⟩, mX5_cellOf_n, mX5_cellOf_v, _, _, rfl⟩
theorem mX6_cellOf_i : Cond.initialized yX6_cellOf.cls ∈ TB := TB_of (List.mem_append_right _ (List.mem_of_getElem? (i := 8) (by decide +kernel))) rfl
theorem mX6_cellOf_c : Cond.code yX6_cellOf cX6_cellOf 3 (some .int) ∈ TB := TB_of (List.mem_append_right _ (List.mem_of_getElem? (i := 1048) (by decide +kernel))) rfl
theorem mX6_cellOf_d : yX6_cellOf.cls ≠ "java/lang/invoke/MethodHandle" ∧ yX6_cellOf.cls ≠ "java/lang/invoke/VarHandle" ∧ (parseMethodDescriptor yX6_cellOf.desc).map (fun d => d.parameters.length) = some 2 := by decide +kernel
theorem mX6_cellOf_n : Cond.instanceMethod yX6_cellOf ∈ TB := TB_of (List.mem_append_right _ (List.mem_of_getElem? (i := 1046) (by decide +kernel))) rfl
theorem mX6_cellOf_v : Cond.selects yX6_cellOf.cls yX6_cellOf yX6_cellOf ∈ TB := TB_of (List.mem_append_right _ (List.mem_of_getElem? (i := 1047) (by decide +kernel))) rfl
theorem cw_L_43 : CWV RL 43 6 yX6_cellOf cX6_cellOf 3 (some .int) 2 := ⟨⟨TB_of (List.mem_append_right _ (List.mem_of_getElem? (i := 1045) (by decide +kernel))) rfl, mX6_cellOf_i, mX6_cellOf_c, mX6_cellOf_d⟩, mX6_cellOf_n, mX6_cellOf_v, _, _, rfl⟩
theorem mX5_rule_i : Cond.initialized yX5_rule.cls ∈ TB := TB_of (List.mem_append_right _ (List.mem_of_getElem? (i := 1) (by decide +kernel))) rfl
theorem mX5_rule_c : Cond.code yX5_rule cX5_rule 4 (some .int) ∈ TB := TB_of (List.mem_append_right _ (List.mem_of_getElem? (i := 379) (by decide +kernel))) rfl
theorem mX5_rule_d : yX5_rule.cls ≠ "java/lang/invoke/MethodHandle" ∧ yX5_rule.cls ≠ "java/lang/invoke/VarHandle" ∧ (parseMethodDescriptor yX5_rule.desc).map (fun d => d.parameters.length) = some 2 := by decide +kernel
theorem mX5_rule_n : Cond.instanceMethod yX5_rule ∈ TB := TB_of (List.mem_append_right _ (List.mem_of_getElem? (i := 377) (by decide +kernel))) rfl
theorem mX5_rule_v : Cond.selects yX5_rule.cls yX5_rule yX5_rule ∈ TB := TB_of (List.mem_append_right _ (List.mem_of_getElem? (i := 378) (by decide +kernel))) rfl
theorem cw_L_44 : CWV RL 44 5 yX5_rule cX5_rule 4 (some .int) 2 := ⟨⟨TB_of (List.mem_append_right _ (List.mem_of_getElem? (i := 376) (by decide +kernel))) rfl, mX5_rule_i, mX5_rule_c, mX5_rule_d⟩, mX5_rule_n, mX5_rule_v, _, _, rfl⟩
theorem mX6_rule_i : Cond.initialized yX6_rule.cls ∈ TB := TB_of (List.mem_append_right _ (List.mem_of_getElem? (i := 8) (by decide +kernel))) rfl
theorem mX6_rule_c : Cond.code yX6_rule cX6_rule 3 (some .int) ∈ TB := TB_of (List.mem_append_right _ (List.mem_of_getElem? (i := 1057) (by decide +kernel))) rfl
theorem mX6_rule_d : yX6_rule.cls ≠ "java/lang/invoke/MethodHandle" ∧ yX6_rule.cls ≠ "java/lang/invoke/VarHandle" ∧ (parseMethodDescriptor yX6_rule.desc).map (fun d => d.parameters.length) = some 2 := by decide +kernel
theorem mX6_rule_n : Cond.instanceMethod yX6_rule ∈ TB := TB_of (List.mem_append_right _ (List.mem_of_getElem? (i := 1055) (by decide +kernel))) rfl
theorem mX6_rule_v : Cond.selects yX6_rule.cls yX6_rule yX6_rule ∈ TB := TB_of (List.mem_append_right _ (List.mem_of_getElem? (i := 1056) (by decide +kernel))) rfl
theorem cw_L_47 : CWV RL 47 6 yX6_rule cX6_rule 3 (some .int) 2 := ⟨⟨TB_of (List.mem_append_right _ (List.mem_of_getElem? (i := 1054) (by decide +kernel))) rfl, mX6_rule_i, mX6_rule_c, mX6_rule_d⟩, mX6_rule_n, mX6_rule_v, _, _, rfl⟩
theorem mX5_deal_i : Cond.initialized yX5_deal.cls ∈ TB := TB_of (List.mem_append_right _ (List.mem_of_getElem? (i := 1) (by decide +kernel))) rfl
theorem mX5_deal_c : Cond.code yX5_deal cX5_deal 7 (some .int) ∈ TB := TB_of (List.mem_append_right _ (List.mem_of_getElem? (i := 387) (by decide +kernel))) rfl
theorem mX5_deal_d : yX5_deal.cls ≠ "java/lang/invoke/MethodHandle" ∧ yX5_deal.cls ≠ "java/lang/invoke/VarHandle" ∧ (parseMethodDescriptor yX5_deal.desc).map (fun d => d.parameters.length) = some 1 := by decide +kernel
theorem mX5_deal_n : Cond.instanceMethod yX5_deal ∈ TB := TB_of (List.mem_append_right _ (List.mem_of_getElem? (i := 385) (by decide +kernel))) rfl
theorem mX5_deal_v : Cond.selects yX5_deal.cls yX5_deal yX5_deal ∈ TB := TB_of (List.mem_append_right _ (List.mem_of_getElem? (i := 386) (by decide +kernel))) rfl
theorem cw_L_48 : CWV RL 48 5 yX5_deal cX5_deal 7 (some .int) 1 := ⟨⟨TB_of (List.mem_append_right _ (List.mem_of_getElem? (i := 384) (by decide +kernel))) rfl, mX5_deal_i, mX5_deal_c, mX5_deal_d⟩, mX5_deal_n, mX5_deal_v, _, _, rfl⟩
theorem mX6_deal_i : Cond.initialized yX6_deal.cls ∈ TB := TB_of (List.mem_append_right _ (List.mem_of_getElem? (i := 8) (by decide +kernel))) rfl
theorem mX6_deal_c : Cond.code yX6_deal cX6_deal 6 (some .int) ∈ TB := TB_of (List.mem_append_right _ (List.mem_of_getElem? (i := 1064) (by decide +kernel))) rfl
theorem mX6_deal_d : yX6_deal.cls ≠ "java/lang/invoke/MethodHandle" ∧ yX6_deal.cls ≠ "java/lang/invoke/VarHandle" ∧ (parseMethodDescriptor yX6_deal.desc).map (fun d => d.parameters.length) = some 1 := by decide +kernel
theorem mX6_deal_n : Cond.instanceMethod yX6_deal ∈ TB := TB_of (List.mem_append_right _ (List.mem_of_getElem? (i := 1062) (by decide +kernel))) rfl
theorem mX6_deal_v : Cond.selects yX6_deal.cls yX6_deal yX6_deal ∈ TB := TB_of (List.mem_append_right _ (List.mem_of_getElem? (i := 1063) (by decide +kernel))) rfl
theorem cw_L_52 : CWV RL 52 6 yX6_deal cX6_deal 6 (some .int) 1 := ⟨⟨TB_of (List.mem_append_right _ (List.mem_of_getElem? (i := 1061) (by decide +kernel))) rfl, mX6_deal_i, mX6_deal_c, mX6_deal_d⟩, mX6_deal_n, mX6_deal_v, _, _, rfl⟩
theorem mX5_seed_i : Cond.initialized yX5_seed.cls ∈ TB := TB_of (List.mem_append_right _ (List.mem_of_getElem? (i := 1) (by decide +kernel))) rfl
theorem mX5_seed_c : Cond.code yX5_seed cX5_seed 3 (some .int) ∈ TB := TB_of (List.mem_append_right _ (List.mem_of_getElem? (i := 396) (by decide +kernel))) rfl
theorem mX5_seed_d : yX5_seed.cls ≠ "java/lang/invoke/MethodHandle" ∧ yX5_seed.cls ≠ "java/lang/invoke/VarHandle" ∧ (parseMethodDescriptor yX5_seed.desc).map (fun d => d.parameters.length) = some 1 := by decide +kernel
theorem mX5_seed_n : Cond.instanceMethod yX5_seed ∈ TB := TB_of (List.mem_append_right _ (List.mem_of_getElem? (i := 394) (by decide +kernel))) rfl
theorem mX5_seed_v : Cond.selects yX5_seed.cls yX5_seed yX5_seed ∈ TB := TB_of (List.mem_append_right _ (List.mem_of_getElem? (i := 395) (by decide +kernel))) rfl
theorem cw_L_53 : CWV RL 53 5 yX5_seed cX5_seed 3 (some .int) 1 := ⟨⟨TB_of (List.mem_append_right _ (List.mem_of_getElem? (i := 393) (by decide +kernel))) rfl, mX5_seed_i, mX5_seed_c, mX5_seed_d⟩, mX5_seed_n, mX5_seed_v, _, _, rfl⟩
theorem mX6_seed_i : Cond.initialized yX6_seed.cls ∈ TB := TB_of (List.mem_append_right _ (List.mem_of_getElem? (i := 8) (by decide +kernel))) rfl
theorem mX6_seed_c : Cond.code yX6_seed cX6_seed 2 (some .int) ∈ TB := TB_of (List.mem_append_right _ (List.mem_of_getElem? (i := 1074) (by decide +kernel))) rfl
theorem mX6_seed_d : yX6_seed.cls ≠ "java/lang/invoke/MethodHandle" ∧ yX6_seed.cls ≠ "java/lang/invoke/VarHandle" ∧ (parseMethodDescriptor yX6_seed.desc).map (fun d => d.parameters.length) = some 1 := by decide +kernel
theorem mX6_seed_n : Cond.instanceMethod yX6_seed ∈ TB := TB_of (List.mem_append_right _ (List.mem_of_getElem? (i := 1072) (by decide +kernel))) rfl
theorem mX6_seed_v : Cond.selects yX6_seed.cls yX6_seed yX6_seed ∈ TB := TB_of (List.mem_append_right _ (List.mem_of_getElem? (i := 1073) (by decide +kernel))) rfl
theorem cw_L_56 : CWV RL 56 6 yX6_seed cX6_seed 2 (some .int) 1 := ⟨⟨TB_of (List.mem_append_right _ (List.mem_of_getElem? (i := 1071) (by decide +kernel))) rfl, mX6_seed_i, mX6_seed_c, mX6_seed_d⟩, mX6_seed_n, mX6_seed_v, _, _, rfl⟩
theorem mX5_fewest_i : Cond.initialized yX5_fewest.cls ∈ TB := TB_of (List.mem_append_right _ (List.mem_of_getElem? (i := 1) (by decide +kernel))) rfl
theorem mX5_fewest_c : Cond.code yX5_fewest cX5_fewest 7 (some .int) ∈ TB := TB_of (List.mem_append_right _ (List.mem_of_getElem? (i := 400) (by decide +kernel))) rfl
theorem mX5_fewest_d : yX5_fewest.cls ≠ "java/lang/invoke/MethodHandle" ∧ yX5_fewest.cls ≠ "java/lang/invoke/VarHandle" ∧ (parseMethodDescriptor yX5_fewest.desc).map (fun d => d.parameters.length) = some 2 := by decide +kernel
theorem mX5_fewest_n : Cond.instanceMethod yX5_fewest ∈ TB := TB_of (List.mem_append_right _ (List.mem_of_getElem? (i := 398) (by decide +kernel))) rfl
theorem mX5_fewest_v : Cond.selects yX5_fewest.cls yX5_fewest yX5_fewest ∈ TB := TB_of (List.mem_append_right _ (List.mem_of_getElem? (i := 399) (by decide +kernel))) rfl
theorem cw_L_57 : CWV RL 57 5 yX5_fewest cX5_fewest 7 (some .int) 2 := ⟨⟨TB_of (List.mem_append_right _ (List.mem_of_getElem? (i := 397) (by decide +kernel))) rfl, mX5_fewest_i, mX5_fewest_c, mX5_fewest_d⟩, mX5_fewest_n, mX5_fewest_v, _, _, rfl⟩
theorem mX6_fewest_i : Cond.initialized yX6_fewest.cls ∈ TB := TB_of (List.mem_append_right _ (List.mem_of_getElem? (i := 8) (by decide +kernel))) rfl
theorem mX6_fewest_c : Cond.code yX6_fewest cX6_fewest 5 (some .int) ∈ TB := TB_of (List.mem_append_right _ (List.mem_of_getElem? (i := 1078) (by decide +kernel))) rfl
theorem mX6_fewest_d : yX6_fewest.cls ≠ "java/lang/invoke/MethodHandle" ∧ yX6_fewest.cls ≠ "java/lang/invoke/VarHandle" ∧ (parseMethodDescriptor yX6_fewest.desc).map (fun d => d.parameters.length) = some 2 := by decide +kernel
theorem mX6_fewest_n : Cond.instanceMethod yX6_fewest ∈ TB := TB_of (List.mem_append_right _ (List.mem_of_getElem? (i := 1076) (by decide +kernel))) rfl
theorem mX6_fewest_v : Cond.selects yX6_fewest.cls yX6_fewest yX6_fewest ∈ TB := TB_of (List.mem_append_right _ (List.mem_of_getElem? (i := 1077) (by decide +kernel))) rfl
theorem cw_L_60 : CWV RL 60 6 yX6_fewest cX6_fewest 5 (some .int) 2 := ⟨⟨TB_of (List.mem_append_right _ (List.mem_of_getElem? (i := 1075) (by decide +kernel))) rfl, mX6_fewest_i, mX6_fewest_c, mX6_fewest_d⟩, mX6_fewest_n, mX6_fewest_v, _, _, rfl⟩
theorem mX5_breathe_i : Cond.initialized yX5_breathe.cls ∈ TB := TB_of (List.mem_append_right _ (List.mem_of_getElem? (i := 1) (by decide +kernel))) rfl
theorem mX5_breathe_c : Cond.code yX5_breathe cX5_breathe 2 (some .int) ∈ TB := TB_of (List.mem_append_right _ (List.mem_of_getElem? (i := 415) (by decide +kernel))) rfl
theorem mX5_breathe_d : yX5_breathe.cls ≠ "java/lang/invoke/MethodHandle" ∧ yX5_breathe.cls ≠ "java/lang/invoke/VarHandle" ∧ (parseMethodDescriptor yX5_breathe.desc).map (fun d => d.parameters.length) = some 1 := by decide +kernel
theorem mX5_breathe_n : Cond.instanceMethod yX5_breathe ∈ TB := TB_of (List.mem_append_right _ (List.mem_of_getElem? (i := 413) (by decide +kernel))) rfl
theorem mX5_breathe_v : Cond.selects yX5_breathe.cls yX5_breathe yX5_breathe ∈ TB := TB_of (List.mem_append_right _ (List.mem_of_getElem? (i := 414) (by decide +kernel))) rfl
theorem cw_L_61 : CWV RL 61 5 yX5_breathe cX5_breathe 2 (some .int) 1 := ⟨⟨TB_of (List.mem_append_right _ (List.mem_of_getElem? (i := 412) (by decide +kernel))) rfl, mX5_breathe_i, mX5_breathe_c, mX5_breathe_d⟩, mX5_breathe_n, mX5_breathe_v, _, _, rfl⟩
theorem mX6_breathe_i : Cond.initialized yX6_breathe.cls ∈ TB := TB_of (List.mem_append_right _ (List.mem_of_getElem? (i := 8) (by decide +kernel))) rfl
theorem mX6_breathe_c : Cond.code yX6_breathe cX6_breathe 2 (some .int) ∈ TB := TB_of (List.mem_append_right _ (List.mem_of_getElem? (i := 1084) (by decide +kernel))) rfl
theorem mX6_breathe_d : yX6_breathe.cls ≠ "java/lang/invoke/MethodHandle" ∧ yX6_breathe.cls ≠ "java/lang/invoke/VarHandle" ∧ (parseMethodDescriptor yX6_breathe.desc).map (fun d => d.parameters.length) = some 1 := by decide +kernel
theorem mX6_breathe_n : Cond.instanceMethod yX6_breathe ∈ TB := TB_of (List.mem_append_right _ (List.mem_of_getElem? (i := 1082) (by decide +kernel))) rfl
theorem mX6_breathe_v : Cond.selects yX6_breathe.cls yX6_breathe yX6_breathe ∈ TB := TB_of (List.mem_append_right _ (List.mem_of_getElem? (i := 1083) (by decide +kernel))) rfl
theorem cw_L_64 : CWV RL 64 6 yX6_breathe cX6_breathe 2 (some .int) 1 := ⟨⟨TB_of (List.mem_append_right _ (List.mem_of_getElem? (i := 1081) (by decide +kernel))) rfl, mX6_breathe_i, mX6_breathe_c, mX6_breathe_d⟩, mX6_breathe_n, mX6_breathe_v, _, _, rfl⟩
theorem mX5_dig_i : Cond.initialized yX5_dig.cls ∈ TB := TB_of (List.mem_append_right _ (List.mem_of_getElem? (i := 1) (by decide +kernel))) rfl
theorem mX5_dig_c : Cond.code yX5_dig cX5_dig 3 (some .int) ∈ TB := TB_of (List.mem_append_right _ (List.mem_of_getElem? (i := 425) (by decide +kernel))) rfl
theorem mX5_dig_d : yX5_dig.cls ≠ "java/lang/invoke/MethodHandle" ∧ yX5_dig.cls ≠ "java/lang/invoke/VarHandle" ∧ (parseMethodDescriptor yX5_dig.desc).map (fun d => d.parameters.length) = some 2 := by decide +kernel
theorem mX5_dig_n : Cond.instanceMethod yX5_dig ∈ TB := TB_of (List.mem_append_right _ (List.mem_of_getElem? (i := 423) (by decide +kernel))) rfl
theorem mX5_dig_v : Cond.selects yX5_dig.cls yX5_dig yX5_dig ∈ TB := TB_of (List.mem_append_right _ (List.mem_of_getElem? (i := 424) (by decide +kernel))) rfl
theorem cw_L_65 : CWV RL 65 5 yX5_dig cX5_dig 3 (some .int) 2 := ⟨⟨TB_of (List.mem_append_right _ (List.mem_of_getElem? (i := 422) (by decide +kernel))) rfl, mX5_dig_i, mX5_dig_c, mX5_dig_d⟩, mX5_dig_n, mX5_dig_v, _, _, rfl⟩
theorem mX6_dig_i : Cond.initialized yX6_dig.cls ∈ TB := TB_of (List.mem_append_right _ (List.mem_of_getElem? (i := 8) (by decide +kernel))) rfl
theorem mX6_dig_c : Cond.code yX6_dig cX6_dig 3 (some .int) ∈ TB := TB_of (List.mem_append_right _ (List.mem_of_getElem? (i := 1101) (by decide +kernel))) rfl
theorem mX6_dig_d : yX6_dig.cls ≠ "java/lang/invoke/MethodHandle" ∧ yX6_dig.cls ≠ "java/lang/invoke/VarHandle" ∧ (parseMethodDescriptor yX6_dig.desc).map (fun d => d.parameters.length) = some 2 := by decide +kernel
theorem mX6_dig_n : Cond.instanceMethod yX6_dig ∈ TB := TB_of (List.mem_append_right _ (List.mem_of_getElem? (i := 1099) (by decide +kernel))) rfl
theorem mX6_dig_v : Cond.selects yX6_dig.cls yX6_dig yX6_dig ∈ TB := TB_of (List.mem_append_right _ (List.mem_of_getElem? (i := 1100) (by decide +kernel))) rfl
theorem cw_L_68 : CWV RL 68 6 yX6_dig cX6_dig 3 (some .int) 2 := ⟨⟨TB_of (List.mem_append_right _ (List.mem_of_getElem? (i := 1098) (by decide +kernel))) rfl, mX6_dig_i, mX6_dig_c, mX6_dig_d⟩, mX6_dig_n, mX6_dig_v, _, _, rfl⟩
theorem mX5_springs_i : Cond.initialized yX5_springs.cls ∈ TB := TB_of (List.mem_append_right _ (List.mem_of_getElem? (i := 1) (by decide +kernel))) rfl
theorem mX5_springs_c : Cond.code yX5_springs cX5_springs 3 (some .int) ∈ TB := TB_of (List.mem_append_right _ (List.mem_of_getElem? (i := 433) (by decide +kernel))) rfl
theorem mX5_springs_d : yX5_springs.cls ≠ "java/lang/invoke/MethodHandle" ∧ yX5_springs.cls ≠ "java/lang/invoke/VarHandle" ∧ (parseMethodDescriptor yX5_springs.desc).map (fun d => d.parameters.length) = some 1 := by decide +kernel
theorem mX5_springs_n : Cond.instanceMethod yX5_springs ∈ TB := TB_of (List.mem_append_right _ (List.mem_of_getElem? (i := 431) (by decide +kernel))) rfl
theorem mX5_springs_v : Cond.selects yX5_springs.cls yX5_springs yX5_springs ∈ TB := TB_of (List.mem_append_right _ (List.mem_of_getElem? (i := 432) (by decide +kernel))) rfl
theorem cw_L_69 : CWV RL 69 5 yX5_springs cX5_springs 3 (some .int) 1 := ⟨⟨TB_of (List.mem_append_right _ (List.mem_of_getElem? (i := 430) (by decide +kernel))) rfl, mX5_springs_i, mX5_springs_c, mX5_springs_d⟩, mX5_springs_n, mX5_springs_v, _, _, rfl⟩
theorem mX6_springs_i : Cond.initialized yX6_springs.cls ∈ TB := TB_of (List.mem_append_right _ (List.mem_of_getElem? (i := 8) (by decide +kernel))) rfl
theorem mX6_springs_c : Cond.code yX6_springs cX6_springs 3 (some .int) ∈ TB := TB_of (List.mem_append_right _ (List.mem_of_getElem? (i := 1109) (by decide +kernel))) rfl
theorem mX6_springs_d : yX6_springs.cls ≠ "java/lang/invoke/MethodHandle" ∧ yX6_springs.cls ≠ "java/lang/invoke/VarHandle" ∧ (parseMethodDescriptor yX6_springs.desc).map (fun d => d.parameters.length) = some 1 := by decide +kernel
theorem mX6_springs_n : Cond.instanceMethod yX6_springs ∈ TB := TB_of (List.mem_append_right _ (List.mem_of_getElem? (i := 1107) (by decide +kernel))) rfl
theorem mX6_springs_v : Cond.selects yX6_springs.cls yX6_springs yX6_springs ∈ TB := TB_of (List.mem_append_right _ (List.mem_of_getElem? (i := 1108) (by decide +kernel))) rfl
theorem cw_L_72 : CWV RL 72 6 yX6_springs cX6_springs 3 (some .int) 1 := ⟨⟨TB_of (List.mem_append_right _ (List.mem_of_getElem? (i := 1106) (by decide +kernel))) rfl, mX6_springs_i, mX6_springs_c, mX6_springs_d⟩, mX6_springs_n, mX6_springs_v, _, _, rfl⟩
theorem mX5_walls_i : Cond.initialized yX5_walls.cls ∈ TB := TB_of (List.mem_append_right _ (List.mem_of_getElem? (i := 1) (by decide +kernel))) rfl
theorem mX5_walls_c : Cond.code yX5_walls cX5_walls 2 (some .int) ∈ TB := TB_of (List.mem_append_right _ (List.mem_of_getElem? (i := 453) (by decide +kernel))) rfl
theorem mX5_walls_d : yX5_walls.cls ≠ "java/lang/invoke/MethodHandle" ∧ yX5_walls.cls ≠ "java/lang/invoke/VarHandle" ∧ (parseMethodDescriptor yX5_walls.desc).map (fun d => d.parameters.length) = some 1 := by decide +kernel
theorem mX5_walls_n : Cond.instanceMethod yX5_walls ∈ TB := TB_of (List.mem_append_right _ (List.mem_of_getElem? (i := 451) (by decide +kernel))) rfl
theorem mX5_walls_v : Cond.selects yX5_walls.cls yX5_walls yX5_walls ∈ TB := TB_of (List.mem_append_right _ (List.mem_of_getElem? (i := 452) (by decide +kernel))) rfl
theorem cw_L_73 : CWV RL 73 5 yX5_walls cX5_walls 2 (some .int) 1 := ⟨⟨TB_of (List.mem_append_right _ (List.mem_of_getElem? (i := 450) (by decide +kernel))) rfl, mX5_walls_i, mX5_walls_c, mX5_walls_d⟩, mX5_walls_n, mX5_walls_v, _, _, rfl⟩
theorem mX6_walls_i : Cond.initialized yX6_walls.cls ∈ TB := TB_of (List.mem_append_right _ (List.mem_of_getElem? (i := 8) (by decide +kernel))) rfl
theorem mX6_walls_c : Cond.code yX6_walls cX6_walls 2 (some .int) ∈ TB := TB_of (List.mem_append_right _ (List.mem_of_getElem? (i := 1125) (by decide +kernel))) rfl
theorem mX6_walls_d : yX6_walls.cls ≠ "java/lang/invoke/MethodHandle" ∧ yX6_walls.cls ≠ "java/lang/invoke/VarHandle" ∧ (parseMethodDescriptor yX6_walls.desc).map (fun d => d.parameters.length) = some 1 := by decide +kernel
theorem mX6_walls_n : Cond.instanceMethod yX6_walls ∈ TB := TB_of (List.mem_append_right _ (List.mem_of_getElem? (i := 1123) (by decide +kernel))) rfl
theorem mX6_walls_v : Cond.selects yX6_walls.cls yX6_walls yX6_walls ∈ TB := TB_of (List.mem_append_right _ (List.mem_of_getElem? (i := 1124) (by decide +kernel))) rfl
theorem cw_L_76 : CWV RL 76 6 yX6_walls cX6_walls 2 (some .int) 1 := ⟨⟨TB_of (List.mem_append_right _ (List.mem_of_getElem? (i := 1122) (by decide +kernel))) rfl, mX6_walls_i, mX6_walls_c, mX6_walls_d⟩, mX6_walls_n, mX6_walls_v, _, _, rfl⟩
theorem mX5_behind_i : Cond.initialized yX5_behind.cls ∈ TB := TB_of (List.mem_append_right _ (List.mem_of_getElem? (i := 1) (by decide +kernel))) rfl
theorem mX5_behind_c : Cond.code yX5_behind cX5_behind 3 (some .int) ∈ TB := TB_of (List.mem_append_right _ (List.mem_of_getElem? (i := 478) (by decide +kernel))) rfl
theorem mX5_behind_d : yX5_behind.cls ≠ "java/lang/invoke/MethodHandle" ∧ yX5_behind.cls ≠ "java/lang/invoke/VarHandle" ∧ (parseMethodDescriptor yX5_behind.desc).map (fun d => d.parameters.length) = some 2 := by decide +kernel
theorem mX5_behind_n : Cond.instanceMethod yX5_behind ∈ TB := TB_of (List.mem_append_right _ (List.mem_of_getElem? (i := 476) (by decide +kernel))) rfl
theorem mX5_behind_v : Cond.selects yX5_behind.cls yX5_behind yX5_behind ∈ TB := TB_of (List.mem_append_right _ (List.mem_of_getElem? (i := 477) (by decide +kernel))) rfl
theorem cw_L_77 : CWV RL 77 5 yX5_behind cX5_behind 3 (some .int) 2 := ⟨⟨TB_of (List.mem_append_right _ (List.mem_of_getElem? (i := 475) (by decide +kernel))) rfl, mX5_behind_i, mX5_behind_c, mX5_behind_d⟩, mX5_behind_n, mX5_behind_v, _, _, rfl⟩
theorem mX6_behind_i : Cond.initialized yX6_behind.cls ∈ TB := TB_of (List.mem_append_right _ (List.mem_of_getElem? (i := 8) (by decide +kernel))) rfl
theorem mX6_behind_c : Cond.code yX6_behind cX6_behind 4 (some .int) ∈ TB := TB_of (List.mem_append_right _ (List.mem_of_getElem? (i := 1141) (by decide +kernel))) rfl
theorem mX6_behind_d : yX6_behind.cls ≠ "java/lang/invoke/MethodHandle" ∧ yX6_behind.cls ≠ "java/lang/invoke/VarHandle" ∧ (parseMethodDescriptor yX6_behind.desc).map (fun d => d.parameters.length) = some 2 := by decide +kernel
theorem mX6_behind_n : Cond.instanceMethod yX6_behind ∈ TB := TB_of (List.mem_append_right _ (List.mem_of_getElem? (i := 1139) (by decide +kernel))) rfl
theorem mX6_behind_v : Cond.selects yX6_behind.cls yX6_behind yX6_behind ∈ TB := TB_of (List.mem_append_right _ (List.mem_of_getElem? (i := 1140) (by decide +kernel))) rfl
theorem cw_L_80 : CWV RL 80 6 yX6_behind cX6_behind 4 (some .int) 2 := ⟨⟨TB_of (List.mem_append_right _ (List.mem_of_getElem? (i := 1138) (by decide +kernel))) rfl, mX6_behind_i, mX6_behind_c, mX6_behind_d⟩, mX6_behind_n, mX6_behind_v, _, _, rfl⟩
theorem mX5_lost_i : Cond.initialized yX5_lost.cls ∈ TB := TB_of (List.mem_append_right _ (List.mem_of_getElem? (i := 1) (by decide +kernel))) rfl
theorem mX5_lost_c : Cond.code yX5_lost cX5_lost 3 (some .int) ∈ TB := TB_of (List.mem_append_right _ (List.mem_of_getElem? (i := 489) (by decide +kernel))) rfl
theorem mX5_lost_d : yX5_lost.cls ≠ "java/lang/invoke/MethodHandle" ∧ yX5_lost.cls ≠ "java/lang/invoke/VarHandle" ∧ (parseMethodDescriptor yX5_lost.desc).map (fun d => d.parameters.length) = some 1 := by decide +kernel
theorem mX5_lost_n : Cond.instanceMethod yX5_lost ∈ TB := TB_of (List.mem_append_right _ (List.mem_of_getElem? (i := 487) (by decide +kernel))) rfl
theorem mX5_lost_v : Cond.selects yX5_lost.cls yX5_lost yX5_lost ∈ TB := TB_of (List.mem_append_right _ (List.mem_of_getElem? (i := 488) (by decide +kernel))) rfl
theorem cw_L_81 : CWV RL 81 5 yX5_lost cX5_lost 3 (some .int) 1 := ⟨⟨TB_of (List.mem_append_right _ (List.mem_of_getElem? (i := 486) (by decide +kernel))) rfl, mX5_lost_i, mX5_lost_c, mX5_lost_d⟩, mX5_lost_n, mX5_lost_v, _, _, rfl⟩
theorem mX6_lost_i : Cond.initialized yX6_lost.cls ∈ TB := TB_of (List.mem_append_right _ (List.mem_of_getElem? (i := 8) (by decide +kernel))) rfl
theorem mX6_lost_c : Cond.code yX6_lost cX6_lost 3 (some .int) ∈ TB := TB_of (List.mem_append_right _ (List.mem_of_getElem? (i := 1153) (by decide +kernel))) rfl
theorem mX6_lost_d : yX6_lost.cls ≠ "java/lang/invoke/MethodHandle" ∧ yX6_lost.cls ≠ "java/lang/invoke/VarHandle" ∧ (parseMethodDescriptor yX6_lost.desc).map (fun d => d.parameters.length) = some 1 := by decide +kernel
theorem mX6_lost_n : Cond.instanceMethod yX6_lost ∈ TB := TB_of (List.mem_append_right _ (List.mem_of_getElem? (i := 1151) (by decide +kernel))) rfl
theorem mX6_lost_v : Cond.selects yX6_lost.cls yX6_lost yX6_lost ∈ TB := TB_of (List.mem_append_right _ (List.mem_of_getElem? (i := 1152) (by decide +kernel))) rfl
theorem cw_L_84 : CWV RL 84 6 yX6_lost cX6_lost 3 (some .int) 1 := ⟨⟨TB_of (List.mem_append_right _ (List.mem_of_getElem? (i := 1150) (by decide +kernel))) rfl, mX6_lost_i, mX6_lost_c, mX6_lost_d⟩, mX6_lost_n, mX6_lost_v, _, _, rfl⟩
theorem mX5_solid_i : Cond.initialized yX5_solid.cls ∈ TB := TB_of (List.mem_append_right _ (List.mem_of_getElem? (i := 1) (by decide +kernel))) rfl
theorem mX5_solid_c : Cond.code yX5_solid cX5_solid 3 (some .int) ∈ TB := TB_of (List.mem_append_right _ (List.mem_of_getElem? (i := 498) (by decide +kernel))) rfl
theorem mX5_solid_d : yX5_solid.cls ≠ "java/lang/invoke/MethodHandle" ∧ yX5_solid.cls ≠ "java/lang/invoke/VarHandle" ∧ (parseMethodDescriptor yX5_solid.desc).map (fun d => d.parameters.length) = some 1 := by decide +kernel
theorem mX5_solid_n : Cond.instanceMethod yX5_solid ∈ TB := TB_of (List.mem_append_right _ (List.mem_of_getElem? (i := 496) (by decide +kernel))) rfl
theorem mX5_solid_v : Cond.selects yX5_solid.cls yX5_solid yX5_solid ∈ TB := TB_of (List.mem_append_right _ (List.mem_of_getElem? (i := 497) (by decide +kernel))) rfl
theorem cw_L_85 : CWV RL 85 5 yX5_solid cX5_solid 3 (some .int) 1 := ⟨⟨TB_of (List.mem_append_right _ (List.mem_of_getElem? (i := 495) (by decide +kernel))) rfl, mX5_solid_i, mX5_solid_c, mX5_solid_d⟩, mX5_solid_n, mX5_solid_v, _, _, rfl⟩
theorem mX6_solid_i : Cond.initialized yX6_solid.cls ∈ TB := TB_of (List.mem_append_right _ (List.mem_of_getElem? (i := 8) (by decide +kernel))) rfl
theorem mX6_solid_c : Cond.code yX6_solid cX6_solid 3 (some .int) ∈ TB := TB_of (List.mem_append_right _ (List.mem_of_getElem? (i := 1157) (by decide +kernel))) rfl
theorem mX6_solid_d : yX6_solid.cls ≠ "java/lang/invoke/MethodHandle" ∧ yX6_solid.cls ≠ "java/lang/invoke/VarHandle" ∧ (parseMethodDescriptor yX6_solid.desc).map (fun d => d.parameters.length) = some 1 := by decide +kernel
theorem mX6_solid_n : Cond.instanceMethod yX6_solid ∈ TB := TB_of (List.mem_append_right _ (List.mem_of_getElem? (i := 1155) (by decide +kernel))) rfl
theorem mX6_solid_v : Cond.selects yX6_solid.cls yX6_solid yX6_solid ∈ TB := TB_of (List.mem_append_right _ (List.mem_of_getElem? (i := 1156) (by decide +kernel))) rfl
theorem cw_L_88 : CWV RL 88 6 yX6_solid cX6_solid 3 (some .int) 1 := ⟨⟨TB_of (List.mem_append_right _ (List.mem_of_getElem? (i := 1154) (by decide +kernel))) rfl, mX6_solid_i, mX6_solid_c, mX6_solid_d⟩, mX6_solid_n, mX6_solid_v, _, _, rfl⟩
theorem mX5_spoon_i : Cond.initialized yX5_spoon.cls ∈ TB := TB_of (List.mem_append_right _ (List.mem_of_getElem? (i := 1) (by decide +kernel))) rfl
theorem mX5_spoon_c : Cond.code yX5_spoon cX5_spoon 4 (some .int) ∈ TB := TB_of (List.mem_append_right _ (List.mem_of_getElem? (i := 506) (by decide +kernel))) rfl
theorem mX5_spoon_d : yX5_spoon.cls ≠ "java/lang/invoke/MethodHandle" ∧ yX5_spoon.cls ≠ "java/lang/invoke/VarHandle" ∧ (parseMethodDescriptor yX5_spoon.desc).map (fun d => d.parameters.length) = some 2 := by decide +kernel
theorem mX5_spoon_n : Cond.instanceMethod yX5_spoon ∈ TB := TB_of (List.mem_append_right _ (List.mem_of_getElem? (i := 504) (by decide +kernel))) rfl
theorem mX5_spoon_v : Cond.selects yX5_spoon.cls yX5_spoon yX5_spoon ∈ TB := TB_of (List.mem_append_right _ (List.mem_of_getElem? (i := 505) (by decide +kernel))) rfl
theorem cw_L_89 : CWV RL 89 5 yX5_spoon cX5_spoon 4 (some .int) 2 := ⟨⟨TB_of (List.mem_append_right _ (List.mem_of_getElem? (i := 503) (by decide +kernel))) rfl, mX5_spoon_i, mX5_spoon_c, mX5_spoon_d⟩, mX5_spoon_n, mX5_spoon_v, _, _, rfl⟩
theorem mX6_spoon_i : Cond.initialized yX6_spoon.cls ∈ TB := TB_of (List.mem_append_right _ (List.mem_of_getElem? (i := 8) (by decide +kernel))) rfl
theorem mX6_spoon_c : Cond.code yX6_spoon cX6_spoon 6 (some .int) ∈ TB := TB_of (List.mem_append_right _ (List.mem_of_getElem? (i := 1161) (by decide +kernel))) rfl
theorem mX6_spoon_d : yX6_spoon.cls ≠ "java/lang/invoke/MethodHandle" ∧ yX6_spoon.cls ≠ "java/lang/invoke/VarHandle" ∧ (parseMethodDescriptor yX6_spoon.desc).map (fun d => d.parameters.length) = some 2 := by decide +kernel
theorem mX6_spoon_n : Cond.instanceMethod yX6_spoon ∈ TB := TB_of (List.mem_append_right _ (List.mem_of_getElem? (i := 1159) (by decide +kernel))) rfl
theorem mX6_spoon_v : Cond.selects yX6_spoon.cls yX6_spoon yX6_spoon ∈ TB := TB_of (List.mem_append_right _ (List.mem_of_getElem? (i := 1160) (by decide +kernel))) rfl
theorem cw_L_92 : CWV RL 92 6 yX6_spoon cX6_spoon 6 (some .int) 2 := ⟨⟨TB_of (List.mem_append_right _ (List.mem_of_getElem? (i := 1158) (by decide +kernel))) rfl, mX6_spoon_i, mX6_spoon_c, mX6_spoon_d⟩, mX6_spoon_n, mX6_spoon_v, _, _, rfl⟩
theorem mX5_place_i : Cond.initialized yX5_place.cls ∈ TB := TB_of (List.mem_append_right _ (List.mem_of_getElem? (i := 1) (by decide +kernel))) rfl
theorem mX5_place_c : Cond.code yX5_place cX5_place 7 (some .int) ∈ TB := TB_of (List.mem_append_right _ (List.mem_of_getElem? (i := 510) (by decide +kernel))) rfl
theorem mX5_place_d : yX5_place.cls ≠ "java/lang/invoke/MethodHandle" ∧ yX5_place.cls ≠ "java/lang/invoke/VarHandle" ∧ (parseMethodDescriptor yX5_place.desc).map (fun d => d.parameters.length) = some 3 := by decide +kernel
theorem mX5_place_n : Cond.instanceMethod yX5_place ∈ TB := TB_of (List.mem_append_right _ (List.mem_of_getElem? (i := 508) (by decide +kernel))) rfl
theorem mX5_place_v : Cond.selects yX5_place.cls yX5_place yX5_place ∈ TB := TB_of (List.mem_append_right _ (List.mem_of_getElem? (i := 509) (by decide +kernel))) rfl
theorem cw_L_93 : CWV RL 93 5 yX5_place cX5_place 7 (some .int) 3 := ⟨⟨TB_of (List.mem_append_right _ (List.mem_of_getElem? (i := 507) (by decide +kernel))) rfl, mX5_place_i, mX5_place_c, mX5_place_d⟩, mX5_place_n, mX5_place_v, _, _, rfl⟩
theorem mX6_place_i : Cond.initialized yX6_place.cls ∈ TB := TB_of (List.mem_append_right _ (List.mem_of_getElem? (i := 8) (by decide +kernel))) rfl
theorem mX6_place_c : Cond.code yX6_place cX6_place 4 (some .int) ∈ TB := TB_of (List.mem_append_right _ (List.mem_of_getElem? (i := 1166) (by decide +kernel))) rfl
theorem mX6_place_d : yX6_place.cls ≠ "java/lang/invoke/MethodHandle" ∧ yX6_place.cls ≠ "java/lang/invoke/VarHandle" ∧ (parseMethodDescriptor yX6_place.desc).map (fun d => d.parameters.length) = some 3 := by decide +kernel
theorem mX6_place_n : Cond.instanceMethod yX6_place ∈ TB := TB_of (List.mem_append_right _ (List.mem_of_getElem? (i := 1164) (by decide +kernel))) rfl
theorem mX6_place_v : Cond.selects yX6_place.cls yX6_place yX6_place ∈ TB := TB_of (List.mem_append_right _ (List.mem_of_getElem? (i := 1165) (by decide +kernel))) rfl
theorem cw_L_96 : CWV RL 96 6 yX6_place cX6_place 4 (some .int) 3 := ⟨⟨TB_of (List.mem_append_right _ (List.mem_of_getElem? (i := 1163) (by decide +kernel))) rfl, mX6_place_i, mX6_place_c, mX6_place_d⟩, mX6_place_n, mX6_place_v, _, _, rfl⟩
theorem mX5_becomes_i : Cond.initialized yX5_becomes.cls ∈ TB := TB_of (List.mem_append_right _ (List.mem_of_getElem? (i := 1) (by decide +kernel))) rfl
theorem mX5_becomes_c : Cond.code yX5_becomes cX5_becomes 7 (some .int) ∈ TB := TB_of (List.mem_append_right _ (List.mem_of_getElem? (i := 514) (by decide +kernel))) rfl
theorem mX5_becomes_d : yX5_becomes.cls ≠ "java/lang/invoke/MethodHandle" ∧ yX5_becomes.cls ≠ "java/lang/invoke/VarHandle" ∧ (parseMethodDescriptor yX5_becomes.desc).map (fun d => d.parameters.length) = some 3 := by decide +kernel
theorem mX5_becomes_n : Cond.instanceMethod yX5_becomes ∈ TB := TB_of (List.mem_append_right _ (List.mem_of_getElem? (i := 512) (by decide +kernel))) rfl
theorem mX5_becomes_v : Cond.selects yX5_becomes.cls yX5_becomes yX5_becomes ∈ TB := TB_of (List.mem_append_right _ (List.mem_of_getElem? (i := 513) (by decide +kernel))) rfl
theorem cw_L_97 : CWV RL 97 5 yX5_becomes cX5_becomes 7 (some .int) 3 := ⟨⟨TB_of (List.mem_append_right _ (List.mem_of_getElem? (i := 511) (by decide +kernel))) rfl, mX5_becomes_i, mX5_becomes_c, mX5_becomes_d⟩, mX5_becomes_n, mX5_becomes_v, _, _, rfl⟩
theorem mX6_becomes_i : Cond.initialized yX6_becomes.cls ∈ TB := TB_of (List.mem_append_right _ (List.mem_of_getElem? (i := 8) (by decide +kernel))) rfl
theorem mX6_becomes_c : Cond.code yX6_becomes cX6_becomes 4 (some .int) ∈ TB := TB_of (List.mem_append_right _ (List.mem_of_getElem? (i := 1177) (by decide +kernel))) rfl
theorem mX6_becomes_d : yX6_becomes.cls ≠ "java/lang/invoke/MethodHandle" ∧ yX6_becomes.cls ≠ "java/lang/invoke/VarHandle" ∧ (parseMethodDescriptor yX6_becomes.desc).map (fun d => d.parameters.length) = some 3 := by decide +kernel
theorem mX6_becomes_n : Cond.instanceMethod yX6_becomes ∈ TB := TB_of (List.mem_append_right _ (List.mem_of_getElem? (i := 1175) (by decide +kernel))) rfl
theorem mX6_becomes_v : Cond.selects yX6_becomes.cls yX6_becomes yX6_becomes ∈ TB := TB_of (List.mem_append_right _ (List.mem_of_getElem? (i := 1176) (by decide +kernel))) rfl
theorem cw_L_100 : CWV RL 100 6 yX6_becomes cX6_becomes 4 (some .int) 3 := ⟨⟨TB_of (List.mem_append_right _ (List.mem_of_getElem? (i := 1174) (by decide +kernel))) rfl, mX6_becomes_i, mX6_becomes_c, mX6_becomes_d⟩, mX6_becomes_n, mX6_becomes_v, _, _, rfl⟩
theorem mX5_eyes_i : Cond.initialized yX5_eyes.cls ∈ TB := TB_of (List.mem_append_right _ (List.mem_of_getElem? (i := 1) (by decide +kernel))) rfl
theorem mX5_eyes_c : Cond.code yX5_eyes cX5_eyes 5 (some .int) ∈ TB := TB_of (List.mem_append_right _ (List.mem_of_getElem? (i := 518) (by decide +kernel))) rfl
theorem mX5_eyes_d : yX5_eyes.cls ≠ "java/lang/invoke/MethodHandle" ∧ yX5_eyes.cls ≠ "java/lang/invoke/VarHandle" ∧ (parseMethodDescriptor yX5_eyes.desc).map (fun d => d.parameters.length) = some 2 := by decide +kernel
theorem mX5_eyes_n : Cond.instanceMethod yX5_eyes ∈ TB := TB_of (List.mem_append_right _ (List.mem_of_getElem? (i := 516) (by decide +kernel))) rfl
theorem mX5_eyes_v : Cond.selects yX5_eyes.cls yX5_eyes yX5_eyes ∈ TB := TB_of (List.mem_append_right _ (List.mem_of_getElem? (i := 517) (by decide +kernel))) rfl
theorem cw_L_101 : CWV RL 101 5 yX5_eyes cX5_eyes 5 (some .int) 2 := ⟨⟨TB_of (List.mem_append_right _ (List.mem_of_getElem? (i := 515) (by decide +kernel))) rfl, mX5_eyes_i, mX5_eyes_c, mX5_eyes_d⟩, mX5_eyes_n, mX5_eyes_v, _, _, rfl⟩
theorem mX6_eyes_i : Cond.initialized yX6_eyes.cls ∈ TB := TB_of (List.mem_append_right _ (List.mem_of_getElem? (i := 8) (by decide +kernel))) rfl
theorem mX6_eyes_c : Cond.code yX6_eyes cX6_eyes 5 (some .int) ∈ TB := TB_of (List.mem_append_right _ (List.mem_of_getElem? (i := 1181) (by decide +kernel))) rfl
theorem mX6_eyes_d : yX6_eyes.cls ≠ "java/lang/invoke/MethodHandle" ∧ yX6_eyes.cls ≠ "java/lang/invoke/VarHandle" ∧ (parseMethodDescriptor yX6_eyes.desc).map (fun d => d.parameters.length) = some 2 := by decide +kernel
theorem mX6_eyes_n : Cond.instanceMethod yX6_eyes ∈ TB := TB_of (List.mem_append_right _ (List.mem_of_getElem? (i := 1179) (by decide +kernel))) rfl
theorem mX6_eyes_v : Cond.selects yX6_eyes.cls yX6_eyes yX6_eyes ∈ TB := TB_of (List.mem_append_right _ (List.mem_of_getElem? (i := 1180) (by decide +kernel))) rfl
theorem cw_L_104 : CWV RL 104 6 yX6_eyes cX6_eyes 5 (some .int) 2 := ⟨⟨TB_of (List.mem_append_right _ (List.mem_of_getElem? (i := 1178) (by decide +kernel))) rfl, mX6_eyes_i, mX6_eyes_c, mX6_eyes_d⟩, mX6_eyes_n, mX6_eyes_v, _, _, rfl⟩
theorem mX5_like_i : Cond.initialized yX5_like.cls ∈ TB := TB_of (List.mem_append_right _ (List.mem_of_getElem? (i := 1) (by decide +kernel))) rfl
theorem mX5_like_c : Cond.code yX5_like cX5_like 5 (some .int) ∈ TB := TB_of (List.mem_append_right _ (List.mem_of_getElem? (i := 523) (by decide +kernel))) rfl
theorem mX5_like_d : yX5_like.cls ≠ "java/lang/invoke/MethodHandle" ∧ yX5_like.cls ≠ "java/lang/invoke/VarHandle" ∧ (parseMethodDescriptor yX5_like.desc).map (fun d => d.parameters.length) = some 2 := by decide +kernel
theorem mX5_like_n : Cond.instanceMethod yX5_like ∈ TB := TB_of (List.mem_append_right _ (List.mem_of_getElem? (i := 521) (by decide +kernel))) rfl
theorem mX5_like_v : Cond.selects yX5_like.cls yX5_like yX5_like ∈ TB := TB_of (List.mem_append_right _ (List.mem_of_getElem? (i := 522) (by decide +kernel))) rfl
theorem cw_L_105 : CWV RL 105 5 yX5_like cX5_like 5 (some .int) 2 := ⟨⟨TB_of (List.mem_append_right _ (List.mem_of_getElem? (i := 520) (by decide +kernel))) rfl, mX5_like_i, mX5_like_c, mX5_like_d⟩, mX5_like_n, mX5_like_v, _, _, rfl⟩
theorem mX6_like_i : Cond.initialized yX6_like.cls ∈ TB := TB_of (List.mem_append_right _ (List.mem_of_getElem? (i := 8) (by decide +kernel))) rfl
theorem mX6_like_c : Cond.code yX6_like cX6_like 10 (some .int) ∈ TB := TB_of (List.mem_append_right _ (List.mem_of_getElem? (i := 1308) (by decide +kernel))) rfl
theorem mX6_like_d : yX6_like.cls ≠ "java/lang/invoke/MethodHandle" ∧ yX6_like.cls ≠ "java/lang/invoke/VarHandle" ∧ (parseMethodDescriptor yX6_like.desc).map (fun d => d.parameters.length) = some 2 := by decide +kernel
theorem mX6_like_n : Cond.instanceMethod yX6_like ∈ TB := TB_of (List.mem_append_right _ (List.mem_of_getElem? (i := 1306) (by decide +kernel))) rfl
theorem mX6_like_v : Cond.selects yX6_like.cls yX6_like yX6_like ∈ TB := TB_of (List.mem_append_right _ (List.mem_of_getElem? (i := 1307) (by decide +kernel))) rfl
theorem cw_L_108 : CWV RL 108 6 yX6_like cX6_like 10 (some .int) 2 := ⟨⟨TB_of (List.mem_append_right _ (List.mem_of_getElem? (i := 1305) (by decide +kernel))) rfl, mX6_like_i, mX6_like_c, mX6_like_d⟩, mX6_like_n, mX6_like_v, _, _, rfl⟩
theorem mX5_fee_i : Cond.initialized yX5_fee.cls ∈ TB := TB_of (List.mem_append_right _ (List.mem_of_getElem? (i := 1) (by decide +kernel))) rfl
theorem mX5_fee_c : Cond.code yX5_fee cX5_fee 2 (some .int) ∈ TB := TB_of (List.mem_append_right _ (List.mem_of_getElem? (i := 543) (by decide +kernel))) rfl
theorem mX5_fee_d : yX5_fee.cls ≠ "java/lang/invoke/MethodHandle" ∧ yX5_fee.cls ≠ "java/lang/invoke/VarHandle" ∧ (parseMethodDescriptor yX5_fee.desc).map (fun d => d.parameters.length) = some 0 := by decide +kernel
theorem mX5_fee_n : Cond.instanceMethod yX5_fee ∈ TB := TB_of (List.mem_append_right _ (List.mem_of_getElem? (i := 541) (by decide +kernel))) rfl
theorem mX5_fee_v : Cond.selects yX5_fee.cls yX5_fee yX5_fee ∈ TB := TB_of (List.mem_append_right _ (List.mem_of_getElem? (i := 542) (by decide +kernel))) rfl
theorem cw_L_109 : CWV RL 109 5 yX5_fee cX5_fee 2 (some .int) 0 := ⟨⟨TB_of (List.mem_append_right _ (List.mem_of_getElem? (i := 540) (by decide +kernel))) rfl, mX5_fee_i, mX5_fee_c, mX5_fee_d⟩, mX5_fee_n, mX5_fee_v, _, _, rfl⟩
theorem mX6_fee_i : Cond.initialized yX6_fee.cls ∈ TB := TB_of (List.mem_append_right _ (List.mem_of_getElem? (i := 8) (by decide +kernel))) rfl
theorem mX6_fee_c : Cond.code yX6_fee cX6_fee 2 (some .int) ∈ TB := TB_of (List.mem_append_right _ (List.mem_of_getElem? (i := 1186) (by decide +kernel))) rfl
theorem mX6_fee_d : yX6_fee.cls ≠ "java/lang/invoke/MethodHandle" ∧ yX6_fee.cls ≠ "java/lang/invoke/VarHandle" ∧ (parseMethodDescriptor yX6_fee.desc).map (fun d => d.parameters.length) = some 0 := by decide +kernel
theorem mX6_fee_n : Cond.instanceMethod yX6_fee ∈ TB := TB_of (List.mem_append_right _ (List.mem_of_getElem? (i := 1184) (by decide +kernel))) rfl
theorem mX6_fee_v : Cond.selects yX6_fee.cls yX6_fee yX6_fee ∈ TB := TB_of (List.mem_append_right _ (List.mem_of_getElem? (i := 1185) (by decide +kernel))) rfl
theorem cw_L_113 : CWV RL 113 6 yX6_fee cX6_fee 2 (some .int) 0 := ⟨⟨TB_of (List.mem_append_right _ (List.mem_of_getElem? (i := 1183) (by decide +kernel))) rfl, mX6_fee_i, mX6_fee_c, mX6_fee_d⟩, mX6_fee_n, mX6_fee_v, _, _, rfl⟩
theorem mX5_fine_i : Cond.initialized yX5_fine.cls ∈ TB := TB_of (List.mem_append_right _ (List.mem_of_getElem? (i := 1) (by decide +kernel))) rfl
theorem mX5_fine_c : Cond.code yX5_fine cX5_fine 3 (some .int) ∈ TB := TB_of (List.mem_append_right _ (List.mem_of_getElem? (i := 548) (by decide +kernel))) rfl
theorem mX5_fine_d : yX5_fine.cls ≠ "java/lang/invoke/MethodHandle" ∧ yX5_fine.cls ≠ "java/lang/invoke/VarHandle" ∧ (parseMethodDescriptor yX5_fine.desc).map (fun d => d.parameters.length) = some 1 := by decide +kernel
theorem mX5_fine_n : Cond.instanceMethod yX5_fine ∈ TB := TB_of (List.mem_append_right _ (List.mem_of_getElem? (i := 546) (by decide +kernel))) rfl
theorem mX5_fine_v : Cond.selects yX5_fine.cls yX5_fine yX5_fine ∈ TB := TB_of (List.mem_append_right _ (List.mem_of_getElem? (i := 547) (by decide +kernel))) rfl
theorem cw_L_114 : CWV RL 114 5 yX5_fine cX5_fine 3 (some .int) 1 := ⟨⟨TB_of (List.mem_append_right _ (List.mem_of_getElem? (i := 545) (by decide +kernel))) rfl, mX5_fine_i, mX5_fine_c, mX5_fine_d⟩, mX5_fine_n, mX5_fine_v, _, _, rfl⟩
theorem mX6_fine_i : Cond.initialized yX6_fine.cls ∈ TB := TB_of (List.mem_append_right _ (List.mem_of_getElem? (i := 8) (by decide +kernel))) rfl
theorem mX6_fine_c : Cond.code yX6_fine cX6_fine 3 (some .int) ∈ TB := TB_of (List.mem_append_right _ (List.mem_of_getElem? (i := 1190) (by decide +kernel))) rfl
theorem mX6_fine_d : yX6_fine.cls ≠ "java/lang/invoke/MethodHandle" ∧ yX6_fine.cls ≠ "java/lang/invoke/VarHandle" ∧ (parseMethodDescriptor yX6_fine.desc).map (fun d => d.parameters.length) = some 1 := by decide +kernel
theorem mX6_fine_n : Cond.instanceMethod yX6_fine ∈ TB := TB_of (List.mem_append_right _ (List.mem_of_getElem? (i := 1188) (by decide +kernel))) rfl
theorem mX6_fine_v : Cond.selects yX6_fine.cls yX6_fine yX6_fine ∈ TB := TB_of (List.mem_append_right _ (List.mem_of_getElem? (i := 1189) (by decide +kernel))) rfl
theorem cw_L_117 : CWV RL 117 6 yX6_fine cX6_fine 3 (some .int) 1 := ⟨⟨TB_of (List.mem_append_right _ (List.mem_of_getElem? (i := 1187) (by decide +kernel))) rfl, mX6_fine_i, mX6_fine_c, mX6_fine_d⟩, mX6_fine_n, mX6_fine_v, _, _, rfl⟩
theorem mX5_feed_i : Cond.initialized yX5_feed.cls ∈ TB := TB_of (List.mem_append_right _ (List.mem_of_getElem? (i := 1) (by decide +kernel))) rfl
theorem mX5_feed_c : Cond.code yX5_feed cX5_feed 4 (some .int) ∈ TB := TB_of (List.mem_append_right _ (List.mem_of_getElem? (i := 552) (by decide +kernel))) rfl
theorem mX5_feed_d : yX5_feed.cls ≠ "java/lang/invoke/MethodHandle" ∧ yX5_feed.cls ≠ "java/lang/invoke/VarHandle" ∧ (parseMethodDescriptor yX5_feed.desc).map (fun d => d.parameters.length) = some 3 := by decide +kernel
theorem mX5_feed_n : Cond.instanceMethod yX5_feed ∈ TB := TB_of (List.mem_append_right _ (List.mem_of_getElem? (i := 550) (by decide +kernel))) rfl
theorem mX5_feed_v : Cond.selects yX5_feed.cls yX5_feed yX5_feed ∈ TB := TB_of (List.mem_append_right _ (List.mem_of_getElem? (i := 551) (by decide +kernel))) rfl
theorem cw_L_118 : CWV RL 118 5 yX5_feed cX5_feed 4 (some .int) 3 := ⟨⟨TB_of (List.mem_append_right _ (List.mem_of_getElem? (i := 549) (by decide +kernel))) rfl, mX5_feed_i, mX5_feed_c, mX5_feed_d⟩, mX5_feed_n, mX5_feed_v, _, _, rfl⟩
theorem mX6_feed_i : Cond.initialized yX6_feed.cls ∈ TB := TB_of (List.mem_append_right _ (List.mem_of_getElem? (i := 8) (by decide +kernel))) rfl
theorem mX6_feed_c : Cond.code yX6_feed cX6_feed 6 (some .int) ∈ TB := TB_of (List.mem_append_right _ (List.mem_of_getElem? (i := 1194) (by decide +kernel))) rfl
theorem mX6_feed_d : yX6_feed.cls ≠ "java/lang/invoke/MethodHandle" ∧ yX6_feed.cls ≠ "java/lang/invoke/VarHandle" ∧ (parseMethodDescriptor yX6_feed.desc).map (fun d => d.parameters.length) = some 3 := by decide +kernel
theorem mX6_feed_n : Cond.instanceMethod yX6_feed ∈ TB := TB_of (List.mem_append_right _ (List.mem_of_getElem? (i := 1192) (by decide +kernel))) rfl
theorem mX6_feed_v : Cond.selects yX6_feed.cls yX6_feed yX6_feed ∈ TB := TB_of (List.mem_append_right _ (List.mem_of_getElem? (i := 1193) (by decide +kernel))) rfl
theorem cw_L_121 : CWV RL 121 6 yX6_feed cX6_feed 6 (some .int) 3 := ⟨⟨TB_of (List.mem_append_right _ (List.mem_of_getElem? (i := 1191) (by decide +kernel))) rfl, mX6_feed_i, mX6_feed_c, mX6_feed_d⟩, mX6_feed_n, mX6_feed_v, _, _, rfl⟩
theorem mX5_trim_i : Cond.initialized yX5_trim.cls ∈ TB := TB_of (List.mem_append_right _ (List.mem_of_getElem? (i := 1) (by decide +kernel))) rfl
theorem mX5_trim_c : Cond.code yX5_trim cX5_trim 2 (some .int) ∈ TB := TB_of (List.mem_append_right _ (List.mem_of_getElem? (i := 560) (by decide +kernel))) rfl
theorem mX5_trim_d : yX5_trim.cls ≠ "java/lang/invoke/MethodHandle" ∧ yX5_trim.cls ≠ "java/lang/invoke/VarHandle" ∧ (parseMethodDescriptor yX5_trim.desc).map (fun d => d.parameters.length) = some 1 := by decide +kernel
theorem mX5_trim_n : Cond.instanceMethod yX5_trim ∈ TB := TB_of (List.mem_append_right _ (List.mem_of_getElem? (i := 558) (by decide +kernel))) rfl
theorem mX5_trim_v : Cond.selects yX5_trim.cls yX5_trim yX5_trim ∈ TB := TB_of (List.mem_append_right _ (List.mem_of_getElem? (i := 559) (by decide +kernel))) rfl
theorem cw_L_122 : CWV RL 122 5 yX5_trim cX5_trim 2 (some .int) 1 := ⟨⟨TB_of (List.mem_append_right _ (List.mem_of_getElem? (i := 557) (by decide +kernel))) rfl, mX5_trim_i, mX5_trim_c, mX5_trim_d⟩, mX5_trim_n, mX5_trim_v, _, _, rfl⟩
theorem mX6_trim_i : Cond.initialized yX6_trim.cls ∈ TB := TB_of (List.mem_append_right _ (List.mem_of_getElem? (i := 8) (by decide +kernel))) rfl
theorem mX6_trim_c : Cond.code yX6_trim cX6_trim 2 (some .int) ∈ TB := TB_of (List.mem_append_right _ (List.mem_of_getElem? (i := 1198) (by decide +kernel))) rfl
theorem mX6_trim_d : yX6_trim.cls ≠ "java/lang/invoke/MethodHandle" ∧ yX6_trim.cls ≠ "java/lang/invoke/VarHandle" ∧ (parseMethodDescriptor yX6_trim.desc).map (fun d => d.parameters.length) = some 1 := by decide +kernel
theorem mX6_trim_n : Cond.instanceMethod yX6_trim ∈ TB := TB_of (List.mem_append_right _ (List.mem_of_getElem? (i := 1196) (by decide +kernel))) rfl
theorem mX6_trim_v : Cond.selects yX6_trim.cls yX6_trim yX6_trim ∈ TB := TB_of (List.mem_append_right _ (List.mem_of_getElem? (i := 1197) (by decide +kernel))) rfl
theorem cw_L_125 : CWV RL 125 6 yX6_trim cX6_trim 2 (some .int) 1 := ⟨⟨TB_of (List.mem_append_right _ (List.mem_of_getElem? (i := 1195) (by decide +kernel))) rfl, mX6_trim_i, mX6_trim_c, mX6_trim_d⟩, mX6_trim_n, mX6_trim_v, _, _, rfl⟩
theorem mX5_text_i : Cond.initialized yX5_text.cls ∈ TB := TB_of (List.mem_append_right _ (List.mem_of_getElem? (i := 1) (by decide +kernel))) rfl
theorem mX5_text_c : Cond.code yX5_text cX5_text 4 (some .int) ∈ TB := TB_of (List.mem_append_right _ (List.mem_of_getElem? (i := 564) (by decide +kernel))) rfl
theorem mX5_text_d : yX5_text.cls ≠ "java/lang/invoke/MethodHandle" ∧ yX5_text.cls ≠ "java/lang/invoke/VarHandle" ∧ (parseMethodDescriptor yX5_text.desc).map (fun d => d.parameters.length) = some 0 := by decide +kernel
theorem mX5_text_n : Cond.instanceMethod yX5_text ∈ TB := TB_of (List.mem_append_right _ (List.mem_of_getElem? (i := 562) (by decide +kernel))) rfl
theorem mX5_text_v : Cond.selects yX5_text.cls yX5_text yX5_text ∈ TB := TB_of (List.mem_append_right _ (List.mem_of_getElem? (i := 563) (by decide +kernel))) rfl
theorem cw_L_126 : CWV RL 126 5 yX5_text cX5_text 4 (some .int) 0 := ⟨⟨TB_of (List.mem_append_right _ (List.mem_of_getElem? (i := 561) (by decide +kernel))) rfl, mX5_text_i, mX5_text_c, mX5_text_d⟩, mX5_text_n, mX5_text_v, _, _, rfl⟩
theorem mX6_text_i : Cond.initialized yX6_text.cls ∈ TB := TB_of (List.mem_append_right _ (List.mem_of_getElem? (i := 8) (by decide +kernel))) rfl
theorem mX6_text_c : Cond.code yX6_text cX6_text 3 (some .int) ∈ TB := TB_of (List.mem_append_right _ (List.mem_of_getElem? (i := 1202) (by decide +kernel))) rfl
theorem mX6_text_d : yX6_text.cls ≠ "java/lang/invoke/MethodHandle" ∧ yX6_text.cls ≠ "java/lang/invoke/VarHandle" ∧ (parseMethodDescriptor yX6_text.desc).map (fun d => d.parameters.length) = some 0 := by decide +kernel
theorem mX6_text_n : Cond.instanceMethod yX6_text ∈ TB := TB_of (List.mem_append_right _ (List.mem_of_getElem? (i := 1200) (by decide +kernel))) rfl
theorem mX6_text_v : Cond.selects yX6_text.cls yX6_text yX6_text ∈ TB := TB_of (List.mem_append_right _ (List.mem_of_getElem? (i := 1201) (by decide +kernel))) rfl
theorem cw_L_129 : CWV RL 129 6 yX6_text cX6_text 3 (some .int) 0 := ⟨⟨TB_of (List.mem_append_right _ (List.mem_of_getElem? (i := 1199) (by decide +kernel))) rfl, mX6_text_i, mX6_text_c, mX6_text_d⟩, mX6_text_n, mX6_text_v, _, _, rfl⟩
theorem mX5_textTold_i : Cond.initialized yX5_textTold.cls ∈ TB := TB_of (List.mem_append_right _ (List.mem_of_getElem? (i := 1) (by decide +kernel))) rfl
theorem mX5_textTold_c : Cond.code yX5_textTold cX5_textTold 3 (some .int) ∈ TB := TB_of (List.mem_append_right _ (List.mem_of_getElem? (i := 748) (by decide +kernel))) rfl
theorem mX5_textTold_d : yX5_textTold.cls ≠ "java/lang/invoke/MethodHandle" ∧ yX5_textTold.cls ≠ "java/lang/invoke/VarHandle" ∧ (parseMethodDescriptor yX5_textTold.desc).map (fun d => d.parameters.length) = some 2 := by decide +kernel
theorem mX5_textTold_n : Cond.instanceMethod yX5_textTold ∈ TB := TB_of (List.mem_append_right _ (List.mem_of_getElem? (i := 746) (by decide +kernel))) rfl
theorem mX5_textTold_v : Cond.selects yX5_textTold.cls yX5_textTold yX5_textTold ∈ TB := TB_of (List.mem_append_right _ (List.mem_of_getElem? (i := 747) (by decide +kernel))) rfl
theorem cw_L_130 : CWV RL 130 5 yX5_textTold cX5_textTold 3 (some .int) 2 := ⟨⟨TB_of (List.mem_append_right _ (List.mem_of_getElem? (i := 745) (by decide +kernel))) rfl, mX5_textTold_i, mX5_textTold_c, mX5_textTold_d⟩, mX5_textTold_n, mX5_textTold_v, _, _, rfl⟩
theorem mX6_textTold_i : Cond.initialized yX6_textTold.cls ∈ TB := TB_of (List.mem_append_right _ (List.mem_of_getElem? (i := 8) (by decide +kernel))) rfl
theorem mX6_textTold_c : Cond.code yX6_textTold cX6_textTold 3 (some .int) ∈ TB := TB_of (List.mem_append_right _ (List.mem_of_getElem? (i := 1269) (by decide +kernel))) rfl
theorem mX6_textTold_d : yX6_textTold.cls ≠ "java/lang/invoke/MethodHandle" ∧ yX6_textTold.cls ≠ "java/lang/invoke/VarHandle" ∧ (parseMethodDescriptor yX6_textTold.desc).map (fun d => d.parameters.length) = some 2 := by decide +kernel
theorem mX6_textTold_n : Cond.instanceMethod yX6_textTold ∈ TB := TB_of (List.mem_append_right _ (List.mem_of_getElem? (i := 1267) (by decide +kernel))) rfl
theorem mX6_textTold_v : Cond.selects yX6_textTold.cls yX6_textTold yX6_textTold ∈ TB := TB_of (List.mem_append_right _ (List.mem_of_getElem? (i := 1268) (by decide +kernel))) rfl
theorem cw_L_133 : CWV RL 133 6 yX6_textTold cX6_textTold 3 (some .int) 2 := ⟨⟨TB_of (List.mem_append_right _ (List.mem_of_getElem? (i := 1266) (by decide +kernel))) rfl, mX6_textTold_i, mX6_textTold_c, mX6_textTold_d⟩, mX6_textTold_n, mX6_textTold_v, _, _, rfl⟩
theorem mX5_why_i : Cond.initialized yX5_why.cls ∈ TB := TB_of (List.mem_append_right _ (List.mem_of_getElem? (i := 1) (by decide +kernel))) rfl
theorem mX5_why_c : Cond.code yX5_why cX5_why 2 (some .int) ∈ TB := TB_of (List.mem_append_right _ (List.mem_of_getElem? (i := 752) (by decide +kernel))) rfl
theorem mX5_why_d : yX5_why.cls ≠ "java/lang/invoke/MethodHandle" ∧ yX5_why.cls ≠ "java/lang/invoke/VarHandle" ∧ (parseMethodDescriptor yX5_why.desc).map (fun d => d.parameters.length) = some 1 := by decide +kernel
theorem mX5_why_n : Cond.instanceMethod yX5_why ∈ TB := TB_of (List.mem_append_right _ (List.mem_of_getElem? (i := 750) (by decide +kernel))) rfl
theorem mX5_why_v : Cond.selects yX5_why.cls yX5_why yX5_why ∈ TB := TB_of (List.mem_append_right _ (List.mem_of_getElem? (i := 751) (by decide +kernel))) rfl
theorem cw_L_134 : CWV RL 134 5 yX5_why cX5_why 2 (some .int) 1 := ⟨⟨TB_of (List.mem_append_right _ (List.mem_of_getElem? (i := 749) (by decide +kernel))) rfl, mX5_why_i, mX5_why_c, mX5_why_d⟩, mX5_why_n, mX5_why_v, _, _, rfl⟩
theorem mX6_why_i : Cond.initialized yX6_why.cls ∈ TB := TB_of (List.mem_append_right _ (List.mem_of_getElem? (i := 8) (by decide +kernel))) rfl
theorem mX6_why_c : Cond.code yX6_why cX6_why 2 (some .int) ∈ TB := TB_of (List.mem_append_right _ (List.mem_of_getElem? (i := 1277) (by decide +kernel))) rfl
theorem mX6_why_d : yX6_why.cls ≠ "java/lang/invoke/MethodHandle" ∧ yX6_why.cls ≠ "java/lang/invoke/VarHandle" ∧ (parseMethodDescriptor yX6_why.desc).map (fun d => d.parameters.length) = some 1 := by decide +kernel
theorem mX6_why_n : Cond.instanceMethod yX6_why ∈ TB := TB_of (List.mem_append_right _ (List.mem_of_getElem? (i := 1275) (by decide +kernel))) rfl
theorem mX6_why_v : Cond.selects yX6_why.cls yX6_why yX6_why ∈ TB := TB_of (List.mem_append_right _ (List.mem_of_getElem? (i := 1276) (by decide +kernel))) rfl
theorem cw_L_137 : CWV RL 137 6 yX6_why cX6_why 2 (some .int) 1 := ⟨⟨TB_of (List.mem_append_right _ (List.mem_of_getElem? (i := 1274) (by decide +kernel))) rfl, mX6_why_i, mX6_why_c, mX6_why_d⟩, mX6_why_n, mX6_why_v, _, _, rfl⟩
theorem mX5_sheet_i : Cond.initialized yX5_sheet.cls ∈ TB := TB_of (List.mem_append_right _ (List.mem_of_getElem? (i := 1) (by decide +kernel))) rfl
theorem mX5_sheet_c : Cond.code yX5_sheet cX5_sheet 5 (some .int) ∈ TB := TB_of (List.mem_append_right _ (List.mem_of_getElem? (i := 756) (by decide +kernel))) rfl
theorem mX5_sheet_d : yX5_sheet.cls ≠ "java/lang/invoke/MethodHandle" ∧ yX5_sheet.cls ≠ "java/lang/invoke/VarHandle" ∧ (parseMethodDescriptor yX5_sheet.desc).map (fun d => d.parameters.length) = some 3 := by decide +kernel
theorem mX5_sheet_n : Cond.instanceMethod yX5_sheet ∈ TB := TB_of (List.mem_append_right _ (List.mem_of_getElem? (i := 754) (by decide +kernel))) rfl
theorem mX5_sheet_v : Cond.selects yX5_sheet.cls yX5_sheet yX5_sheet ∈ TB := TB_of (List.mem_append_right _ (List.mem_of_getElem? (i := 755) (by decide +kernel))) rfl
theorem cw_L_138 : CWV RL 138 5 yX5_sheet cX5_sheet 5 (some .int) 3 := ⟨⟨TB_of (List.mem_append_right _ (List.mem_of_getElem? (i := 753) (by decide +kernel))) rfl, mX5_sheet_i, mX5_sheet_c, mX5_sheet_d⟩, mX5_sheet_n, mX5_sheet_v, _, _, rfl⟩
theorem mX6_sheet_i : Cond.initialized yX6_sheet.cls ∈ TB := TB_of (List.mem_append_right _ (List.mem_of_getElem? (i := 8) (by decide +kernel))) rfl
theorem mX6_sheet_c : Cond.code yX6_sheet cX6_sheet 5 (some .int) ∈ TB := TB_of (List.mem_append_right _ (List.mem_of_getElem? (i := 1284) (by decide +kernel))) rfl
theorem mX6_sheet_d : yX6_sheet.cls ≠ "java/lang/invoke/MethodHandle" ∧ yX6_sheet.cls ≠ "java/lang/invoke/VarHandle" ∧ (parseMethodDescriptor yX6_sheet.desc).map (fun d => d.parameters.length) = some 3 := by decide +kernel
theorem mX6_sheet_n : Cond.instanceMethod yX6_sheet ∈ TB := TB_of (List.mem_append_right _ (List.mem_of_getElem? (i := 1282) (by decide +kernel))) rfl
theorem mX6_sheet_v : Cond.selects yX6_sheet.cls yX6_sheet yX6_sheet ∈ TB := TB_of (List.mem_append_right _ (List.mem_of_getElem? (i := 1283) (by decide +kernel))) rfl
theorem cw_L_141 : CWV RL 141 6 yX6_sheet cX6_sheet 5 (some .int) 3 := ⟨⟨TB_of (List.mem_append_right _ (List.mem_of_getElem? (i := 1281) (by decide +kernel))) rfl, mX6_sheet_i, mX6_sheet_c, mX6_sheet_d⟩, mX6_sheet_n, mX6_sheet_v, _, _, rfl⟩
theorem mX5_mark_i : Cond.initialized yX5_mark.cls ∈ TB := TB_of (List.mem_append_right _ (List.mem_of_getElem? (i := 1) (by decide +kernel))) rfl
theorem mX5_mark_c : Cond.code yX5_mark cX5_mark 5 (some .int) ∈ TB := TB_of (List.mem_append_right _ (List.mem_of_getElem? (i := 766) (by decide +kernel))) rfl
theorem mX5_mark_d : yX5_mark.cls ≠ "java/lang/invoke/MethodHandle" ∧ yX5_mark.cls ≠ "java/lang/invoke/VarHandle" ∧ (parseMethodDescriptor yX5_mark.desc).map (fun d => d.parameters.length) = some 3 := by decide +kernel
theorem mX5_mark_n : Cond.instanceMethod yX5_mark ∈ TB := TB_of (List.mem_append_right _ (List.mem_of_getElem? (i := 764) (by decide +kernel))) rfl
theorem mX5_mark_v : Cond.selects yX5_mark.cls yX5_mark yX5_mark ∈ TB := TB_of (List.mem_append_right _ (List.mem_of_getElem? (i := 765) (by decide +kernel))) rfl
theorem cw_L_142 : CWV RL 142 5 yX5_mark cX5_mark 5 (some .int) 3 := ⟨⟨TB_of (List.mem_append_right _ (List.mem_of_getElem? (i := 763) (by decide +kernel))) rfl, mX5_mark_i, mX5_mark_c, mX5_mark_d⟩, mX5_mark_n, mX5_mark_v, _, _, rfl⟩
theorem mX6_mark_i : Cond.initialized yX6_mark.cls ∈ TB := TB_of (List.mem_append_right _ (List.mem_of_getElem? (i := 8) (by decide +kernel))) rfl
theorem mX6_mark_c : Cond.code yX6_mark cX6_mark 4 (some .int) ∈ TB := TB_of (List.mem_append_right _ (List.mem_of_getElem? (i := 1293) (by decide +kernel))) rfl
theorem mX6_mark_d : yX6_mark.cls ≠ "java/lang/invoke/MethodHandle" ∧ yX6_mark.cls ≠ "java/lang/invoke/VarHandle" ∧ (parseMethodDescriptor yX6_mark.desc).map (fun d => d.parameters.length) = some 3 := by decide +kernel
theorem mX6_mark_n : Cond.instanceMethod yX6_mark ∈ TB := TB_of (List.mem_append_right _ (List.mem_of_getElem? (i := 1291) (by decide +kernel))) rfl
theorem mX6_mark_v : Cond.selects yX6_mark.cls yX6_mark yX6_mark ∈ TB := TB_of (List.mem_append_right _ (List.mem_of_getElem? (i := 1292) (by decide +kernel))) rfl
theorem cw_L_145 : CWV RL 145 6 yX6_mark cX6_mark 4 (some .int) 3 := ⟨⟨TB_of (List.mem_append_right _ (List.mem_of_getElem? (i := 1290) (by decide +kernel))) rfl, mX6_mark_i, mX6_mark_c, mX6_mark_d⟩, mX6_mark_n, mX6_mark_v, _, _, rfl⟩
theorem mX5_pour_i : Cond.initialized yX5_pour.cls ∈ TB := TB_of (List.mem_append_right _ (List.mem_of_getElem? (i := 1) (by decide +kernel))) rfl
theorem mX5_pour_c : Cond.code yX5_pour cX5_pour 6 (some .int) ∈ TB := TB_of (List.mem_append_right _ (List.mem_of_getElem? (i := 772) (by decide +kernel))) rfl
theorem mX5_pour_d : yX5_pour.cls ≠ "java/lang/invoke/MethodHandle" ∧ yX5_pour.cls ≠ "java/lang/invoke/VarHandle" ∧ (parseMethodDescriptor yX5_pour.desc).map (fun d => d.parameters.length) = some 1 := by decide +kernel
theorem mX5_pour_n : Cond.instanceMethod yX5_pour ∈ TB := TB_of (List.mem_append_right _ (List.mem_of_getElem? (i := 770) (by decide +kernel))) rfl
theorem mX5_pour_v : Cond.selects yX5_pour.cls yX5_pour yX5_pour ∈ TB := TB_of (List.mem_append_right _ (List.mem_of_getElem? (i := 771) (by decide +kernel))) rfl
theorem cw_L_146 : CWV RL 146 5 yX5_pour cX5_pour 6 (some .int) 1 := ⟨⟨TB_of (List.mem_append_right _ (List.mem_of_getElem? (i := 769) (by decide +kernel))) rfl, mX5_pour_i, mX5_pour_c, mX5_pour_d⟩, mX5_pour_n, mX5_pour_v, _, _, rfl⟩
theorem mX6_pour_i : Cond.initialized yX6_pour.cls ∈ TB := TB_of (List.mem_append_right _ (List.mem_of_getElem? (i := 8) (by decide +kernel))) rfl
theorem mX6_pour_c : Cond.code yX6_pour cX6_pour 6 (some .int) ∈ TB := TB_of (List.mem_append_right _ (List.mem_of_getElem? (i := 1300) (by decide +kernel))) rfl
theorem mX6_pour_d : yX6_pour.cls ≠ "java/lang/invoke/MethodHandle" ∧ yX6_pour.cls ≠ "java/lang/invoke/VarHandle" ∧ (parseMethodDescriptor yX6_pour.desc).map (fun d => d.parameters.length) = some 1 := by decide +kernel
theorem mX6_pour_n : Cond.instanceMethod yX6_pour ∈ TB := TB_of (List.mem_append_right _ (List.mem_of_getElem? (i := 1298) (by decide +kernel))) rfl
theorem mX6_pour_v : Cond.selects yX6_pour.cls yX6_pour yX6_pour ∈ TB := TB_of (List.mem_append_right _ (List.mem_of_getElem? (i := 1299) (by decide +kernel))) rfl
theorem cw_L_149 : CWV RL 149 6 yX6_pour cX6_pour 6 (some .int) 1 := ⟨⟨TB_of (List.mem_append_right _ (List.mem_of_getElem? (i := 1297) (by decide +kernel))) rfl, mX6_pour_i, mX6_pour_c, mX6_pour_d⟩, mX6_pour_n, mX6_pour_v, _, _, rfl⟩
theorem mX5_reads_i : Cond.initialized yX5_reads.cls ∈ TB := TB_of (List.mem_append_right _ (List.mem_of_getElem? (i := 1) (by decide +kernel))) rfl
theorem mX5_reads_c : Cond.code yX5_reads cX5_reads 4 (some .int) ∈ TB := TB_of (List.mem_append_right _ (List.mem_of_getElem? (i := 777) (by decide +kernel))) rfl
theorem mX5_reads_d : yX5_reads.cls ≠ "java/lang/invoke/MethodHandle" ∧ yX5_reads.cls ≠ "java/lang/invoke/VarHandle" ∧ (parseMethodDescriptor yX5_reads.desc).map (fun d => d.parameters.length) = some 1 := by decide +kernel
theorem mX5_reads_n : Cond.instanceMethod yX5_reads ∈ TB := TB_of (List.mem_append_right _ (List.mem_of_getElem? (i := 775) (by decide +kernel))) rfl
theorem mX5_reads_v : Cond.selects yX5_reads.cls yX5_reads yX5_reads ∈ TB := TB_of (List.mem_append_right _ (List.mem_of_getElem? (i := 776) (by decide +kernel))) rfl
theorem cw_L_150 : CWV RL 150 5 yX5_reads cX5_reads 4 (some .int) 1 := ⟨⟨TB_of (List.mem_append_right _ (List.mem_of_getElem? (i := 774) (by decide +kernel))) rfl, mX5_reads_i, mX5_reads_c, mX5_reads_d⟩, mX5_reads_n, mX5_reads_v, _, _, rfl⟩
theorem mX6_reads_i : Cond.initialized yX6_reads.cls ∈ TB := TB_of (List.mem_append_right _ (List.mem_of_getElem? (i := 8) (by decide +kernel))) rfl
theorem mX6_reads_c : Cond.code yX6_reads cX6_reads 4 (some .int) ∈ TB := TB_of (List.mem_append_right _ (List.mem_of_getElem? (i := 1304) (by decide +kernel))) rfl
theorem mX6_reads_d : yX6_reads.cls ≠ "java/lang/invoke/MethodHandle" ∧ yX6_reads.cls ≠ "java/lang/invoke/VarHandle" ∧ (parseMethodDescriptor yX6_reads.desc).map (fun d => d.parameters.length) = some 1 := by decide +kernel
theorem mX6_reads_n : Cond.instanceMethod yX6_reads ∈ TB := TB_of (List.mem_append_right _ (List.mem_of_getElem? (i := 1302) (by decide +kernel))) rfl
theorem mX6_reads_v : Cond.selects yX6_reads.cls yX6_reads yX6_reads ∈ TB := TB_of (List.mem_append_right _ (List.mem_of_getElem? (i := 1303) (by decide +kernel))) rfl
theorem cw_L_153 : CWV RL 153 6 yX6_reads cX6_reads 4 (some .int) 1 := ⟨⟨TB_of (List.mem_append_right _ (List.mem_of_getElem? (i := 1301) (by decide +kernel))) rfl, mX6_reads_i, mX6_reads_c, mX6_reads_d⟩, mX6_reads_n, mX6_reads_v, _, _, rfl⟩
theorem mX5_copy_i : Cond.initialized yX5_copy.cls ∈ TB := TB_of (List.mem_append_right _ (List.mem_of_getElem? (i := 1) (by decide +kernel))) rfl
theorem mX5_copy_c : Cond.code yX5_copy cX5_copy 8 (some .int) ∈ TB := TB_of (List.mem_append_right _ (List.mem_of_getElem? (i := 781) (by decide +kernel))) rfl
theorem mX5_copy_d : yX5_copy.cls ≠ "java/lang/invoke/MethodHandle" ∧ yX5_copy.cls ≠ "java/lang/invoke/VarHandle" ∧ (parseMethodDescriptor yX5_copy.desc).map (fun d => d.parameters.length) = some 5 := by decide +kernel
theorem mX5_copy_n : Cond.instanceMethod yX5_copy ∈ TB := TB_of (List.mem_append_right _ (List.mem_of_getElem? (i := 779) (by decide +kernel))) rfl
theorem mX5_copy_v : Cond.selects yX5_copy.cls yX5_copy yX5_copy ∈ TB := TB_of (List.mem_append_right _ (List.mem_of_getElem? (i := 780) (by decide +kernel))) rfl
theorem cw_L_154 : CWV RL 154 5 yX5_copy cX5_copy 8 (some .int) 5 := ⟨⟨TB_of (List.mem_append_right _ (List.mem_of_getElem? (i := 778) (by decide +kernel))) rfl, mX5_copy_i, mX5_copy_c, mX5_copy_d⟩, mX5_copy_n, mX5_copy_v, _, _, rfl⟩
theorem mX6_copy_i : Cond.initialized yX6_copy.cls ∈ TB := TB_of (List.mem_append_right _ (List.mem_of_getElem? (i := 8) (by decide +kernel))) rfl
theorem mX6_copy_c : Cond.code yX6_copy cX6_copy 7 (some .int) ∈ TB := TB_of (List.mem_append_right _ (List.mem_of_getElem? (i := 1319) (by decide +kernel))) rfl
theorem mX6_copy_d : yX6_copy.cls ≠ "java/lang/invoke/MethodHandle" ∧ yX6_copy.cls ≠ "java/lang/invoke/VarHandle" ∧ (parseMethodDescriptor yX6_copy.desc).map (fun d => d.parameters.length) = some 5 := by decide +kernel
theorem mX6_copy_n : Cond.instanceMethod yX6_copy ∈ TB := TB_of (List.mem_append_right _ (List.mem_of_getElem? (i := 1317) (by decide +kernel))) rfl
theorem mX6_copy_v : Cond.selects yX6_copy.cls yX6_copy yX6_copy ∈ TB := TB_of (List.mem_append_right _ (List.mem_of_getElem? (i := 1318) (by decide +kernel))) rfl
theorem cw_L_158 : CWV RL 158 6 yX6_copy cX6_copy 7 (some .int) 5 := ⟨⟨TB_of (List.mem_append_right _ (List.mem_of_getElem? (i := 1316) (by decide +kernel))) rfl, mX6_copy_i, mX6_copy_c, mX6_copy_d⟩, mX6_copy_n, mX6_copy_v, _, _, rfl⟩
theorem mX5_lay_i : Cond.initialized yX5_lay.cls ∈ TB := TB_of (List.mem_append_right _ (List.mem_of_getElem? (i := 1) (by decide +kernel))) rfl
theorem mX5_lay_c : Cond.code yX5_lay cX5_lay 6 (some .int) ∈ TB := TB_of (List.mem_append_right _ (List.mem_of_getElem? (i := 790) (by decide +kernel))) rfl
theorem mX5_lay_d : yX5_lay.cls ≠ "java/lang/invoke/MethodHandle" ∧ yX5_lay.cls ≠ "java/lang/invoke/VarHandle" ∧ (parseMethodDescriptor yX5_lay.desc).map (fun d => d.parameters.length) = some 3 := by decide +kernel
theorem mX5_lay_n : Cond.instanceMethod yX5_lay ∈ TB := TB_of (List.mem_append_right _ (List.mem_of_getElem? (i := 788) (by decide +kernel))) rfl
theorem mX5_lay_v : Cond.selects yX5_lay.cls yX5_lay yX5_lay ∈ TB := TB_of (List.mem_append_right _ (List.mem_of_getElem? (i := 789) (by decide +kernel))) rfl
theorem cw_L_159 : CWV RL 159 5 yX5_lay cX5_lay 6 (some .int) 3 := ⟨⟨TB_of (List.mem_append_right _ (List.mem_of_getElem? (i := 787) (by decide +kernel))) rfl, mX5_lay_i, mX5_lay_c, mX5_lay_d⟩, mX5_lay_n, mX5_lay_v, _, _, rfl⟩
theorem mX6_lay_i : Cond.initialized yX6_lay.cls ∈ TB := TB_of (List.mem_append_right _ (List.mem_of_getElem? (i := 8) (by decide +kernel))) rfl
theorem mX6_lay_c : Cond.code yX6_lay cX6_lay 7 (some .int) ∈ TB := TB_of (List.mem_append_right _ (List.mem_of_getElem? (i := 1323) (by decide +kernel))) rfl
theorem mX6_lay_d : yX6_lay.cls ≠ "java/lang/invoke/MethodHandle" ∧ yX6_lay.cls ≠ "java/lang/invoke/VarHandle" ∧ (parseMethodDescriptor yX6_lay.desc).map (fun d => d.parameters.length) = some 3 := by decide +kernel
theorem mX6_lay_n : Cond.instanceMethod yX6_lay ∈ TB := TB_of (List.mem_append_right _ (List.mem_of_getElem? (i := 1321) (by decide +kernel))) rfl
theorem mX6_lay_v : Cond.selects yX6_lay.cls yX6_lay yX6_lay ∈ TB := TB_of (List.mem_append_right _ (List.mem_of_getElem? (i := 1322) (by decide +kernel))) rfl
theorem cw_L_162 : CWV RL 162 6 yX6_lay cX6_lay 7 (some .int) 3 := ⟨⟨TB_of (List.mem_append_right _ (List.mem_of_getElem? (i := 1320) (by decide +kernel))) rfl, mX6_lay_i, mX6_lay_c, mX6_lay_d⟩, mX6_lay_n, mX6_lay_v, _, _, rfl⟩
theorem mX5_ask_i : Cond.initialized yX5_ask.cls ∈ TB := TB_of (List.mem_append_right _ (List.mem_of_getElem? (i := 1) (by decide +kernel))) rfl
theorem mX5_ask_c : Cond.code yX5_ask cX5_ask 4 (some .int) ∈ TB := TB_of (List.mem_append_right _ (List.mem_of_getElem? (i := 806) (by decide +kernel))) rfl
theorem mX5_ask_d : yX5_ask.cls ≠ "java/lang/invoke/MethodHandle" ∧ yX5_ask.cls ≠ "java/lang/invoke/VarHandle" ∧ (parseMethodDescriptor yX5_ask.desc).map (fun d => d.parameters.length) = some 2 := by decide +kernel
theorem mX5_ask_n : Cond.instanceMethod yX5_ask ∈ TB := TB_of (List.mem_append_right _ (List.mem_of_getElem? (i := 804) (by decide +kernel))) rfl
theorem mX5_ask_v : Cond.selects yX5_ask.cls yX5_ask yX5_ask ∈ TB := TB_of (List.mem_append_right _ (List.mem_of_getElem? (i := 805) (by decide +kernel))) rfl
theorem cw_L_163 : CWV RL 163 5 yX5_ask cX5_ask 4 (some .int) 2 := ⟨⟨TB_of (List.mem_append_right _ (List.mem_of_getElem? (i := 803) (by decide +kernel))) rfl, mX5_ask_i, mX5_ask_c, mX5_ask_d⟩, mX5_ask_n, mX5_ask_v, _, _, rfl⟩
theorem mX6_ask_i : Cond.initialized yX6_ask.cls ∈ TB := TB_of (List.mem_append_right _ (List.mem_of_getElem? (i := 8) (by decide +kernel))) rfl
theorem mX6_ask_c : Cond.code yX6_ask cX6_ask 3 (some .int) ∈ TB := TB_of (List.mem_append_right _ (List.mem_of_getElem? (i := 1330) (by decide +kernel))) rfl
theorem mX6_ask_d : yX6_ask.cls ≠ "java/lang/invoke/MethodHandle" ∧ yX6_ask.cls ≠ "java/lang/invoke/VarHandle" ∧ (parseMethodDescriptor yX6_ask.desc).map (fun d => d.parameters.length) = some 2 := by decide +kernel
theorem mX6_ask_n : Cond.instanceMethod yX6_ask ∈ TB := TB_of (List.mem_append_right _ (List.mem_of_getElem? (i := 1328) (by decide +kernel))) rfl
theorem mX6_ask_v : Cond.selects yX6_ask.cls yX6_ask yX6_ask ∈ TB := TB_of (List.mem_append_right _ (List.mem_of_getElem? (i := 1329) (by decide +kernel))) rfl
theorem cw_L_166 : CWV RL 166 6 yX6_ask cX6_ask 3 (some .int) 2 := ⟨⟨TB_of (List.mem_append_right _ (List.mem_of_getElem? (i := 1327) (by decide +kernel))) rfl, mX6_ask_i, mX6_ask_c, mX6_ask_d⟩, mX6_ask_n, mX6_ask_v, _, _, rfl⟩
theorem mX5_item_i : Cond.initialized yX5_item.cls ∈ TB := TB_of (List.mem_append_right _ (List.mem_of_getElem? (i := 1) (by decide +kernel))) rfl
theorem mX5_item_c : Cond.code yX5_item cX5_item 5 (some .int) ∈ TB := TB_of (List.mem_append_right _ (List.mem_of_getElem? (i := 810) (by decide +kernel))) rfl
theorem mX5_item_d : yX5_item.cls ≠ "java/lang/invoke/MethodHandle" ∧ yX5_item.cls ≠ "java/lang/invoke/VarHandle" ∧ (parseMethodDescriptor yX5_item.desc).map (fun d => d.parameters.length) = some 2 := by decide +kernel
theorem mX5_item_n : Cond.instanceMethod yX5_item ∈ TB := TB_of (List.mem_append_right _ (List.mem_of_getElem? (i := 808) (by decide +kernel))) rfl
theorem mX5_item_v : Cond.selects yX5_item.cls yX5_item yX5_item ∈ TB := TB_of (List.mem_append_right _ (List.mem_of_getElem? (i := 809) (by decide +kernel))) rfl
theorem cw_L_167 : CWV RL 167 5 yX5_item cX5_item 5 (some .int) 2 := ⟨⟨TB_of (List.mem_append_right _ (List.mem_of_getElem? (i := 807) (by decide +kernel))) rfl, mX5_item_i, mX5_item_c, mX5_item_d⟩, mX5_item_n, mX5_item_v, _, _, rfl⟩
theorem mX6_item_i : Cond.initialized yX6_item.cls ∈ TB := TB_of (List.mem_append_right _ (List.mem_of_getElem? (i := 8) (by decide +kernel))) rfl
theorem mX6_item_c : Cond.code yX6_item cX6_item 4 (some .int) ∈ TB := TB_of (List.mem_append_right _ (List.mem_of_getElem? (i := 1334) (by decide +kernel))) rfl
theorem mX6_item_d : yX6_item.cls ≠ "java/lang/invoke/MethodHandle" ∧ yX6_item.cls ≠ "java/lang/invoke/VarHandle" ∧ (parseMethodDescriptor yX6_item.desc).map (fun d => d.parameters.length) = some 2 := by decide +kernel
theorem mX6_item_n : Cond.instanceMethod yX6_item ∈ TB := TB_of (List.mem_append_right _ (List.mem_of_getElem? (i := 1332) (by decide +kernel))) rfl
theorem mX6_item_v : Cond.selects yX6_item.cls yX6_item yX6_item ∈ TB := TB_of (List.mem_append_right _ (List.mem_of_getElem? (i := 1333) (by decide +kernel))) rfl
theorem cw_L_170 : CWV RL 170 6 yX6_item cX6_item 4 (some .int) 2 := ⟨⟨TB_of (List.mem_append_right _ (List.mem_of_getElem? (i := 1331) (by decide +kernel))) rfl, mX6_item_i, mX6_item_c, mX6_item_d⟩, mX6_item_n, mX6_item_v, _, _, rfl⟩
theorem mX5_rest_i : Cond.initialized yX5_rest.cls ∈ TB := TB_of (List.mem_append_right _ (List.mem_of_getElem? (i := 1) (by decide +kernel))) rfl
theorem mX5_rest_c : Cond.code yX5_rest cX5_rest 4 (some .int) ∈ TB := TB_of (List.mem_append_right _ (List.mem_of_getElem? (i := 814) (by decide +kernel))) rfl
theorem mX5_rest_d : yX5_rest.cls ≠ "java/lang/invoke/MethodHandle" ∧ yX5_rest.cls ≠ "java/lang/invoke/VarHandle" ∧ (parseMethodDescriptor yX5_rest.desc).map (fun d => d.parameters.length) = some 2 := by decide +kernel
theorem mX5_rest_n : Cond.instanceMethod yX5_rest ∈ TB := TB_of (List.mem_append_right _ (List.mem_of_getElem? (i := 812) (by decide +kernel))) rfl
theorem mX5_rest_v : Cond.selects yX5_rest.cls yX5_rest yX5_rest ∈ TB := TB_of (List.mem_append_right _ (List.mem_of_getElem? (i := 813) (by decide +kernel))) rfl
theorem cw_L_171 : CWV RL 171 5 yX5_rest cX5_rest 4 (some .int) 2 := ⟨⟨TB_of (List.mem_append_right _ (List.mem_of_getElem? (i := 811) (by decide +kernel))) rfl, mX5_rest_i, mX5_rest_c, mX5_rest_d⟩, mX5_rest_n, mX5_rest_v, _, _, rfl⟩
theorem mX6_rest_i : Cond.initialized yX6_rest.cls ∈ TB := TB_of (List.mem_append_right _ (List.mem_of_getElem? (i := 8) (by decide +kernel))) rfl
theorem mX6_rest_c : Cond.code yX6_rest cX6_rest 3 (some .int) ∈ TB := TB_of (List.mem_append_right _ (List.mem_of_getElem? (i := 1338) (by decide +kernel))) rfl
theorem mX6_rest_d : yX6_rest.cls ≠ "java/lang/invoke/MethodHandle" ∧ yX6_rest.cls ≠ "java/lang/invoke/VarHandle" ∧ (parseMethodDescriptor yX6_rest.desc).map (fun d => d.parameters.length) = some 2 := by decide +kernel
theorem mX6_rest_n : Cond.instanceMethod yX6_rest ∈ TB := TB_of (List.mem_append_right _ (List.mem_of_getElem? (i := 1336) (by decide +kernel))) rfl
theorem mX6_rest_v : Cond.selects yX6_rest.cls yX6_rest yX6_rest ∈ TB := TB_of (List.mem_append_right _ (List.mem_of_getElem? (i := 1337) (by decide +kernel))) rfl
theorem cw_L_174 : CWV RL 174 6 yX6_rest cX6_rest 3 (some .int) 2 := ⟨⟨TB_of (List.mem_append_right _ (List.mem_of_getElem? (i := 1335) (by decide +kernel))) rfl, mX6_rest_i, mX6_rest_c, mX6_rest_d⟩, mX6_rest_n, mX6_rest_v, _, _, rfl⟩
theorem mX5_tell_i : Cond.initialized yX5_tell.cls ∈ TB := TB_of (List.mem_append_right _ (List.mem_of_getElem? (i := 1) (by decide +kernel))) rfl
theorem mX5_tell_c : Cond.code yX5_tell cX5_tell 2 (some .int) ∈ TB := TB_of (List.mem_append_right _ (List.mem_of_getElem? (i := 819) (by decide +kernel))) rfl
theorem mX5_tell_d : yX5_tell.cls ≠ "java/lang/invoke/MethodHandle" ∧ yX5_tell.cls ≠ "java/lang/invoke/VarHandle" ∧ (parseMethodDescriptor yX5_tell.desc).map (fun d => d.parameters.length) = some 1 := by decide +kernel
theorem mX5_tell_n : Cond.instanceMethod yX5_tell ∈ TB := TB_of (List.mem_append_right _ (List.mem_of_getElem? (i := 817) (by decide +kernel))) rfl
theorem mX5_tell_v : Cond.selects yX5_tell.cls yX5_tell yX5_tell ∈ TB := TB_of (List.mem_append_right _ (List.mem_of_getElem? (i := 818) (by decide +kernel))) rfl
theorem cw_L_175 : CWV RL 175 5 yX5_tell cX5_tell 2 (some .int) 1 := ⟨⟨TB_of (List.mem_append_right _ (List.mem_of_getElem? (i := 816) (by decide +kernel))) rfl, mX5_tell_i, mX5_tell_c, mX5_tell_d⟩, mX5_tell_n, mX5_tell_v, _, _, rfl⟩
theorem mX6_tell_i : Cond.initialized yX6_tell.cls ∈ TB := TB_of (List.mem_append_right _ (List.mem_of_getElem? (i := 8) (by decide +kernel))) rfl
theorem mX6_tell_c : Cond.code yX6_tell cX6_tell 2 (some .int) ∈ TB := TB_of (List.mem_append_right _ (List.mem_of_getElem? (i := 1343) (by decide +kernel))) rfl
theorem mX6_tell_d : yX6_tell.cls ≠ "java/lang/invoke/MethodHandle" ∧ yX6_tell.cls ≠ "java/lang/invoke/VarHandle" ∧ (parseMethodDescriptor yX6_tell.desc).map (fun d => d.parameters.length) = some 1 := by decide +kernel
theorem mX6_tell_n : Cond.instanceMethod yX6_tell ∈ TB := TB_of (List.mem_append_right _ (List.mem_of_getElem? (i := 1341) (by decide +kernel))) rfl
theorem mX6_tell_v : Cond.selects yX6_tell.cls yX6_tell yX6_tell ∈ TB := TB_of (List.mem_append_right _ (List.mem_of_getElem? (i := 1342) (by decide +kernel))) rfl
theorem cw_L_178 : CWV RL 178 6 yX6_tell cX6_tell 2 (some .int) 1 := ⟨⟨TB_of (List.mem_append_right _ (List.mem_of_getElem? (i := 1340) (by decide +kernel))) rfl, mX6_tell_i, mX6_tell_c, mX6_tell_d⟩, mX6_tell_n, mX6_tell_v, _, _, rfl⟩
theorem mX5_check_i : Cond.initialized yX5_check.cls ∈ TB := TB_of (List.mem_append_right _ (List.mem_of_getElem? (i := 1) (by decide +kernel))) rfl
theorem mX5_check_c : Cond.code yX5_check cX5_check 5 (some .int) ∈ TB := TB_of (List.mem_append_right _ (List.mem_of_getElem? (i := 823) (by decide +kernel))) rfl
theorem mX5_check_d : yX5_check.cls ≠ "java/lang/invoke/MethodHandle" ∧ yX5_check.cls ≠ "java/lang/invoke/VarHandle" ∧ (parseMethodDescriptor yX5_check.desc).map (fun d => d.parameters.length) = some 1 := by decide +kernel
theorem mX5_check_n : Cond.instanceMethod yX5_check ∈ TB := TB_of (List.mem_append_right _ (List.mem_of_getElem? (i := 821) (by decide +kernel))) rfl
theorem mX5_check_v : Cond.selects yX5_check.cls yX5_check yX5_check ∈ TB := TB_of (List.mem_append_right _ (List.mem_of_getElem? (i := 822) (by decide +kernel))) rfl
theorem cw_L_179 : CWV RL 179 5 yX5_check cX5_check 5 (some .int) 1 := ⟨⟨TB_of (List.mem_append_right _ (List.mem_of_getElem? (i := 820) (by decide +kernel))) rfl, mX5_check_i, mX5_check_c, mX5_check_d⟩, mX5_check_n, mX5_check_v, _, _, rfl⟩
theorem mX6_check_i : Cond.initialized yX6_check.cls ∈ TB := TB_of (List.mem_append_right _ (List.mem_of_getElem? (i := 8) (by decide +kernel))) rfl
theorem mX6_check_c : Cond.code yX6_check cX6_check 5 (some .int) ∈ TB := TB_of (List.mem_append_right _ (List.mem_of_getElem? (i := 1347) (by decide +kernel))) rfl
theorem mX6_check_d : yX6_check.cls ≠ "java/lang/invoke/MethodHandle" ∧ yX6_check.cls ≠ "java/lang/invoke/VarHandle" ∧ (parseMethodDescriptor yX6_check.desc).map (fun d => d.parameters.length) = some 1 := by decide +kernel
theorem mX6_check_n : Cond.instanceMethod yX6_check ∈ TB := TB_of (List.mem_append_right _ (List.mem_of_getElem? (i := 1345) (by decide +kernel))) rfl
theorem mX6_check_v : Cond.selects yX6_check.cls yX6_check yX6_check ∈ TB := TB_of (List.mem_append_right _ (List.mem_of_getElem? (i := 1346) (by decide +kernel))) rfl
theorem cw_L_182 : CWV RL 182 6 yX6_check cX6_check 5 (some .int) 1 := ⟨⟨TB_of (List.mem_append_right _ (List.mem_of_getElem? (i := 1344) (by decide +kernel))) rfl, mX6_check_i, mX6_check_c, mX6_check_d⟩, mX6_check_n, mX6_check_v, _, _, rfl⟩
theorem mX5_keep_i : Cond.initialized yX5_keep.cls ∈ TB := TB_of (List.mem_append_right _ (List.mem_of_getElem? (i := 1) (by decide +kernel))) rfl
theorem mX5_keep_c : Cond.code yX5_keep cX5_keep 1 (some .int) ∈ TB := TB_of (List.mem_append_right _ (List.mem_of_getElem? (i := 827) (by decide +kernel))) rfl
theorem mX5_keep_d : yX5_keep.cls ≠ "java/lang/invoke/MethodHandle" ∧ yX5_keep.cls ≠ "java/lang/invoke/VarHandle" ∧ (parseMethodDescriptor yX5_keep.desc).map (fun d => d.parameters.length) = some 0 := by decide +kernel
theorem mX5_keep_n : Cond.instanceMethod yX5_keep ∈ TB := TB_of (List.mem_append_right _ (List.mem_of_getElem? (i := 825) (by decide +kernel))) rfl
theorem mX5_keep_v : Cond.selects yX5_keep.cls yX5_keep yX5_keep ∈ TB := TB_of (List.mem_append_right _ (List.mem_of_getElem? (i := 826) (by decide +kernel))) rfl
theorem cw_L_183 : CWV RL 183 5 yX5_keep cX5_keep 1 (some .int) 0 := ⟨⟨TB_of (List.mem_append_right _ (List.mem_of_getElem? (i := 824) (by decide +kernel))) rfl, mX5_keep_i, mX5_keep_c, mX5_keep_d⟩, mX5_keep_n, mX5_keep_v, _, _, rfl⟩
theorem mX6_keep_i : Cond.initialized yX6_keep.cls ∈ TB := TB_of (List.mem_append_right _ (List.mem_of_getElem? (i := 8) (by decide +kernel))) rfl
theorem mX6_keep_c : Cond.code yX6_keep cX6_keep 1 (some .int) ∈ TB := TB_of (List.mem_append_right _ (List.mem_of_getElem? (i := 1356) (by decide +kernel))) rfl
theorem mX6_keep_d : yX6_keep.cls ≠ "java/lang/invoke/MethodHandle" ∧ yX6_keep.cls ≠ "java/lang/invoke/VarHandle" ∧ (parseMethodDescriptor yX6_keep.desc).map (fun d => d.parameters.length) = some 0 := by decide +kernel
theorem mX6_keep_n : Cond.instanceMethod yX6_keep ∈ TB := TB_of (List.mem_append_right _ (List.mem_of_getElem? (i := 1354) (by decide +kernel))) rfl
theorem mX6_keep_v : Cond.selects yX6_keep.cls yX6_keep yX6_keep ∈ TB := TB_of (List.mem_append_right _ (List.mem_of_getElem? (i := 1355) (by decide +kernel))) rfl
theorem cw_L_186 : CWV RL 186 6 yX6_keep cX6_keep 1 (some .int) 0 := ⟨⟨TB_of (List.mem_append_right _ (List.mem_of_getElem? (i := 1353) (by decide +kernel))) rfl, mX6_keep_i, mX6_keep_c, mX6_keep_d⟩, mX6_keep_n, mX6_keep_v, _, _, rfl⟩
theorem mX5_back_i : Cond.initialized yX5_back.cls ∈ TB := TB_of (List.mem_append_right _ (List.mem_of_getElem? (i := 1) (by decide +kernel))) rfl
theorem mX5_back_c : Cond.code yX5_back cX5_back 1 (some .int) ∈ TB := TB_of (List.mem_append_right _ (List.mem_of_getElem? (i := 831) (by decide +kernel))) rfl
theorem mX5_back_d : yX5_back.cls ≠ "java/lang/invoke/MethodHandle" ∧ yX5_back.cls ≠ "java/lang/invoke/VarHandle" ∧ (parseMethodDescriptor yX5_back.desc).map (fun d => d.parameters.length) = some 0 := by decide +kernel
theorem mX5_back_n : Cond.instanceMethod yX5_back ∈ TB := TB_of (List.mem_append_right _ (List.mem_of_getElem? (i := 829) (by decide +kernel))) rfl
theorem mX5_back_v : Cond.selects yX5_back.cls yX5_back yX5_back ∈ TB := TB_of (List.mem_append_right _ (List.mem_of_getElem? (i := 830) (by decide +kernel))) rfl
theorem cw_L_187 : CWV RL 187 5 yX5_back cX5_back 1 (some .int) 0 := ⟨⟨TB_of (List.mem_append_right _ (List.mem_of_getElem? (i := 828) (by decide +kernel))) rfl, mX5_back_i, mX5_back_c, mX5_back_d⟩, mX5_back_n, mX5_back_v, _, _, rfl⟩
theorem mX6_back_i : Cond.initialized yX6_back.cls ∈ TB := TB_of (List.mem_append_right _ (List.mem_of_getElem? (i := 8) (by decide +kernel))) rfl
theorem mX6_back_c : Cond.code yX6_back cX6_back 1 (some .int) ∈ TB := TB_of (List.mem_append_right _ (List.mem_of_getElem? (i := 1360) (by decide +kernel))) rfl
theorem mX6_back_d : yX6_back.cls ≠ "java/lang/invoke/MethodHandle" ∧ yX6_back.cls ≠ "java/lang/invoke/VarHandle" ∧ (parseMethodDescriptor yX6_back.desc).map (fun d => d.parameters.length) = some 0 := by decide +kernel
theorem mX6_back_n : Cond.instanceMethod yX6_back ∈ TB := TB_of (List.mem_append_right _ (List.mem_of_getElem? (i := 1358) (by decide +kernel))) rfl
theorem mX6_back_v : Cond.selects yX6_back.cls yX6_back yX6_back ∈ TB := TB_of (List.mem_append_right _ (List.mem_of_getElem? (i := 1359) (by decide +kernel))) rfl
theorem cw_L_190 : CWV RL 190 6 yX6_back cX6_back 1 (some .int) 0 := ⟨⟨TB_of (List.mem_append_right _ (List.mem_of_getElem? (i := 1357) (by decide +kernel))) rfl, mX6_back_i, mX6_back_c, mX6_back_d⟩, mX6_back_n, mX6_back_v, _, _, rfl⟩
theorem mX5_count_i : Cond.initialized yX5_count.cls ∈ TB := TB_of (List.mem_append_right _ (List.mem_of_getElem? (i := 1) (by decide +kernel))) rfl
theorem mX5_count_c : Cond.code yX5_count cX5_count 2 (some .int) ∈ TB := TB_of (List.mem_append_right _ (List.mem_of_getElem? (i := 835) (by decide +kernel))) rfl
theorem mX5_count_d : yX5_count.cls ≠ "java/lang/invoke/MethodHandle" ∧ yX5_count.cls ≠ "java/lang/invoke/VarHandle" ∧ (parseMethodDescriptor yX5_count.desc).map (fun d => d.parameters.length) = some 1 := by decide +kernel
theorem mX5_count_n : Cond.instanceMethod yX5_count ∈ TB := TB_of (List.mem_append_right _ (List.mem_of_getElem? (i := 833) (by decide +kernel))) rfl
theorem mX5_count_v : Cond.selects yX5_count.cls yX5_count yX5_count ∈ TB := TB_of (List.mem_append_right _ (List.mem_of_getElem? (i := 834) (by decide +kernel))) rfl
theorem cw_L_191 : CWV RL 191 5 yX5_count cX5_count 2 (some .int) 1 := ⟨⟨TB_of (List.mem_append_right _ (List.mem_of_getElem? (i := 832) (by decide +kernel))) rfl, mX5_count_i, mX5_count_c, mX5_count_d⟩, mX5_count_n, mX5_count_v, _, _, rfl⟩
theorem mX6_count_i : Cond.initialized yX6_count.cls ∈ TB := TB_of (List.mem_append_right _ (List.mem_of_getElem? (i := 8) (by decide +kernel))) rfl
theorem mX6_count_c : Cond.code yX6_count cX6_count 2 (some .int) ∈ TB := TB_of (List.mem_append_right _ (List.mem_of_getElem? (i := 1364) (by decide +kernel))) rfl
theorem mX6_count_d : yX6_count.cls ≠ "java/lang/invoke/MethodHandle" ∧ yX6_count.cls ≠ "java/lang/invoke/VarHandle" ∧ (parseMethodDescriptor yX6_count.desc).map (fun d => d.parameters.length) = some 1 := by decide +kernel
theorem mX6_count_n : Cond.instanceMethod yX6_count ∈ TB := TB_of (List.mem_append_right _ (List.mem_of_getElem? (i := 1362) (by decide +kernel))) rfl
theorem mX6_count_v : Cond.selects yX6_count.cls yX6_count yX6_count ∈ TB := TB_of (List.mem_append_right _ (List.mem_of_getElem? (i := 1363) (by decide +kernel))) rfl
theorem cw_L_194 : CWV RL 194 6 yX6_count cX6_count 2 (some .int) 1 := ⟨⟨TB_of (List.mem_append_right _ (List.mem_of_getElem? (i := 1361) (by decide +kernel))) rfl, mX6_count_i, mX6_count_c, mX6_count_d⟩, mX6_count_n, mX6_count_v, _, _, rfl⟩
theorem fl_X0_9 : FL RX0 9 0 0 := ⟨_, _, _, rfl, by decide, TB_of (List.mem_append_right _ (List.mem_of_getElem? (i := 139) (by decide +kernel))) rfl, rfl⟩
theorem fl_X0_15 : FL RX0 15 0 4 := ⟨_, _, _, rfl, by decide, TB_of (List.mem_append_right _ (List.mem_of_getElem? (i := 148) (by decide +kernel))) rfl, rfl⟩
theorem cw_X0_18 : CWS RX0 18 yJ9_min_7cf53 cJ9_min_7cf53 2 (some .int) 2 := ⟨⟨TB_of (List.mem_append_right _ (List.mem_of_getElem? (i := 569) (by decide +kernel))) rfl, mJ9_min_7cf53_i, mJ9_min_7cf53_c, mJ9_min_7cf53_d⟩, mJ9_min_7cf53_s⟩
theorem fl_X0_24 : FL RX0 24 0 5 := ⟨_, _, _, rfl, by decide, TB_of (List.mem_append_right _ (List.mem_of_getElem? (i := 149) (by decide +kernel))) rfl, rfl⟩
theorem fl_X0_28 : FL RX0 28 0 1 := ⟨_, _, _, rfl, by decide, TB_of (List.mem_append_right _ (List.mem_of_getElem? (i := 141) (by decide +kernel))) rfl, rfl⟩
theorem fl_X0_31 : FL RX0 31 0 3 := ⟨_, _, _, rfl, by decide, TB_of (List.mem_append_right _ (List.mem_of_getElem? (i := 146) (by decide +kernel))) rfl, rfl⟩
theorem fl_X0_34 : FL RX0 34 0 6 := ⟨_, _, _, rfl, by decide, TB_of (List.mem_append_right _ (List.mem_of_getElem? (i := 150) (by decide +kernel))) rfl, rfl⟩
theorem fl_X0_37 : FL RX0 37 0 8 := ⟨_, _, _, rfl, by decide, TB_of (List.mem_append_right _ (List.mem_of_getElem? (i := 152) (by decide +kernel))) rfl, rfl⟩
theorem fl_X0_40 : FL RX0 40 0 9 := ⟨_, _, _, rfl, by decide, TB_of (List.mem_append_right _ (List.mem_of_getElem? (i := 153) (by decide +kernel))) rfl, rfl⟩
theorem mX0_goOn_i : Cond.initialized yX0_goOn.cls ∈ TB := TB_of (List.mem_append_right _ (List.mem_of_getElem? (i := 5) (by decide +kernel))) rfl
theorem mX0_goOn_c : Cond.code yX0_goOn cX0_goOn 3 none ∈ TB := TB_of (List.mem_append_right _ (List.mem_of_getElem? (i := 573) (by decide +kernel))) rfl
theorem mX0_goOn_d : yX0_goOn.cls ≠ "java/lang/invoke/MethodHandle" ∧ yX0_goOn.cls ≠ "java/lang/invoke/VarHandle" ∧ (parseMethodDescriptor yX0_goOn.desc).map (fun d => d.parameters.length) = some 0 := by decide +kernel
theorem mX0_goOn_n : Cond.instanceMethod yX0_goOn ∈ TB := TB_of (List.mem_append_right _ (List.mem_of_getElem? (i := 571) (by decide +kernel))) rfl
theorem mX0_goOn_v : Cond.selects yX0_goOn.cls yX0_goOn yX0_goOn ∈ TB := TB_of (List.mem_append_right _ (List.mem_of_getElem? (i := 572) (by decide +kernel))) rfl
theorem cw_X0_43 : CWV RX0 43 0 yX0_goOn cX0_goOn 3 none 0 := ⟨⟨TB_of (List.mem_append_right _ (List.mem_of_getElem? (i := 570) (by decide +kernel))) rfl, mX0_goOn_i, mX0_goOn_c, mX0_goOn_d⟩, mX0_goOn_n, mX0_goOn_v, _, _, rfl⟩
theorem mX0_keyRead_i : Cond.initialized yX0_keyRead.cls ∈ TB := TB_of (List.mem_append_right _ (List.mem_of_getElem? (i := 5) (by decide +kernel))) rfl
theorem mX0_keyRead_c : Cond.code yX0_keyRead cX0_keyRead 1 (some .int) ∈ TB := TB_of (List.mem_append_right _ (List.mem_of_getElem? (i := 580) (by decide +kernel))) rfl
theorem mX0_keyRead_d : yX0_keyRead.cls ≠ "java/lang/invoke/MethodHandle" ∧ yX0_keyRead.cls ≠ "java/lang/invoke/VarHandle" ∧ (parseMethodDescriptor yX0_keyRead.desc).map (fun d => d.parameters.length) = some 0 := by decide +kernel
theorem mX0_keyRead_n : Cond.instanceMethod yX0_keyRead ∈ TB := TB_of (List.mem_append_right _ (List.mem_of_getElem? (i := 578) (by decide +kernel))) rfl
theorem mX0_keyRead_v : Cond.selects yX0_keyRead.cls yX0_keyRead yX0_keyRead ∈ TB := TB_of (List.mem_append_right _ (List.mem_of_getElem? (i := 579) (by decide +kernel))) rfl
theorem cw_X0_46 : CWV RX0 46 0 yX0_keyRead cX0_keyRead 1 (some .int) 0 := ⟨⟨TB_of (List.mem_append_right _ (List.mem_of_getElem? (i := 577) (by decide +kernel))) rfl, mX0_keyRead_i, mX0_keyRead_c, mX0_keyRead_d⟩, mX0_keyRead_n, mX0_keyRead_v, _, _, rfl⟩
theorem fl_X0_50 : FL RX0 50 0 2 := ⟨_, _, _, rfl, by decide, TB_of (List.mem_append_right _ (List.mem_of_getElem? (i := 144) (by decide +kernel))) rfl, rfl⟩
theorem fl_X0_53 : FL RX0 53 0 7 := ⟨_, _, _, rfl, by decide, TB_of (List.mem_append_right _ (List.mem_of_getElem? (i := 151) (by decide +kernel))) rfl, rfl⟩
theorem mX0_readLevel_i : Cond.initialized yX0_readLevel.cls ∈ TB := TB_of (List.mem_append_right _ (List.mem_of_getElem? (i := 5) (by decide +kernel))) rfl
theorem mX0_readLevel_c : Cond.code yX0_readLevel cX0_readLevel 7 none ∈ TB := TB_of (List.mem_append_right _ (List.mem_of_getElem? (i := 639) (by decide +kernel))) rfl
theorem mX0_readLevel_d : yX0_readLevel.cls ≠ "java/lang/invoke/MethodHandle" ∧ yX0_readLevel.cls ≠ "java/lang/invoke/VarHandle" ∧ (parseMethodDescriptor yX0_readLevel.desc).map (fun d => d.parameters.length) = some 3 := by decide +kernel
theorem mX0_readLevel_n : Cond.instanceMethod yX0_readLevel ∈ TB := TB_of (List.mem_append_right _ (List.mem_of_getElem? (i := 638) (by decide +kernel))) rfl
theorem mX0_readLevel_v : Cond.selects yX0_readLevel.cls yX0_readLevel yX0_readLevel ∈ TB := TB_of (List.mem_append_left _ (List.mem_of_getElem? (i := 5) (by decide +kernel))) rfl
theorem cw_X0_56 : CWV RX0 56 0 yX0_readLevel cX0_readLevel 7 none 3 := ⟨⟨TB_of (List.mem_append_right _ (List.mem_of_getElem? (i := 636) (by decide +kernel))) rfl, mX0_readLevel_i, mX0_readLevel_c, mX0_readLevel_d⟩, mX0_readLevel_n, mX0_readLevel_v, _, _, rfl⟩
theorem mX0_stop_i : Cond.initialized yX0_stop.cls ∈ TB := TB_of (List.mem_append_right _ (List.mem_of_getElem? (i := 5) (by decide +kernel))) rfl
theorem mX0_stop_c : Cond.code yX0_stop cX0_stop 1 none ∈ TB := TB_of (List.mem_append_right _ (List.mem_of_getElem? (i := 725) (by decide +kernel))) rfl
theorem mX0_stop_d : yX0_stop.cls ≠ "java/lang/invoke/MethodHandle" ∧ yX0_stop.cls ≠ "java/lang/invoke/VarHandle" ∧ (parseMethodDescriptor yX0_stop.desc).map (fun d => d.parameters.length) = some 0 := by decide +kernel
theorem mX0_stop_n : Cond.instanceMethod yX0_stop ∈ TB := TB_of (List.mem_append_right _ (List.mem_of_getElem? (i := 723) (by decide +kernel))) rfl
theorem mX0_stop_v : Cond.selects yX0_stop.cls yX0_stop yX0_stop ∈ TB := TB_of (List.mem_append_right _ (List.mem_of_getElem? (i := 724) (by decide +kernel))) rfl
theorem cw_X0_60 : CWV RX0 60 0 yX0_stop cX0_stop 1 none 0 := ⟨⟨TB_of (List.mem_append_right _ (List.mem_of_getElem? (i := 722) (by decide +kernel))) rfl, mX0_stop_i, mX0_stop_c, mX0_stop_d⟩, mX0_stop_n, mX0_stop_v, _, _, rfl⟩
theorem mX0_sortOf_i : Cond.initialized yX0_sortOf.cls ∈ TB := TB_of (List.mem_append_right _ (List.mem_of_getElem? (i := 5) (by decide +kernel))) rfl
theorem mX0_sortOf_c : Cond.code yX0_sortOf cX0_sortOf 1 (some .int) ∈ TB := TB_of (List.mem_append_right _ (List.mem_of_getElem? (i := 576) (by decide +kernel))) rfl
theorem mX0_sortOf_d : yX0_sortOf.cls ≠ "java/lang/invoke/MethodHandle" ∧ yX0_sortOf.cls ≠ "java/lang/invoke/VarHandle" ∧ (parseMethodDescriptor yX0_sortOf.desc).map (fun d => d.parameters.length) = some 1 := by decide +kernel
theorem mX0_sortOf_s : Cond.static yX0_sortOf ∈ TB := TB_of (List.mem_append_right _ (List.mem_of_getElem? (i := 575) (by decide +kernel))) rfl
theorem cw_X0_63 : CWS RX0 63 yX0_sortOf cX0_sortOf 1 (some .int) 1 := ⟨⟨TB_of (List.mem_append_right _ (List.mem_of_getElem? (i := 574) (by decide +kernel))) rfl, mX0_sortOf_i, mX0_sortOf_c, mX0_sortOf_d⟩, mX0_sortOf_s⟩
theorem cw_X0_67 : CW RX0 67 yJ0_length_8abf5 cJ0_length_8abf5 1 (some .int) 0 := ⟨TB_of (List.mem_append_right _ (List.mem_of_getElem? (i := 586) (by decide +kernel))) rfl, mJ0_length_8abf5_i, mJ0_length_8abf5_c, mJ0_length_8abf5_d⟩
theorem mJ0_charAt_5068e_i : Cond.initialized yJ0_charAt_5068e.cls ∈ TB := TB_of (List.mem_append_right _ (List.mem_of_getElem? (i := 12) (by decide +kernel))) rfl
theorem mJ0_charAt_5068e_c : Cond.code yJ0_charAt_5068e cJ0_charAt_5068e 2 (some .char) ∈ TB := TB_of (List.mem_append_right _ (List.mem_of_getElem? (i := 599) (by decide +kernel))) rfl
theorem mJ0_charAt_5068e_d : yJ0_charAt_5068e.cls ≠ "java/lang/invoke/MethodHandle" ∧ yJ0_charAt_5068e.cls ≠ "java/lang/invoke/VarHandle" ∧ (parseMethodDescriptor yJ0_charAt_5068e.desc).map (fun d => d.parameters.length) = some 1 := by decide +kernel
theorem mJ0_charAt_5068e_n : Cond.instanceMethod yJ0_charAt_5068e ∈ TB := TB_of (List.mem_append_right _ (List.mem_of_getElem? (i := 597) (by decide +kernel))) rfl
theorem mJ0_charAt_5068e_v : Cond.selects yJ0_charAt_5068e.cls yJ0_charAt_5068e yJ0_charAt_5068e ∈ TB := TB_of (List.mem_append_right _ (List.mem_of_getElem? (i := 598) (by decide +kernel))) rfl
theorem cw_X0_71 : CW RX0 71 yJ0_charAt_5068e cJ0_charAt_5068e 2 (some .char) 1 := ⟨TB_of (List.mem_append_right _ (List.mem_of_getElem? (i := 596) (by decide +kernel))) rfl, mJ0_charAt_5068e_i, mJ0_charAt_5068e_c, mJ0_charAt_5068e_d⟩
theorem mX0_isWord_i : Cond.initialized yX0_isWord.cls ∈ TB := TB_of (List.mem_append_right _ (List.mem_of_getElem? (i := 5) (by decide +kernel))) rfl
theorem mX0_isWord_c : Cond.code yX0_isWord cX0_isWord 4 (some .boolean) ∈ TB := TB_of (List.mem_append_right _ (List.mem_of_getElem? (i := 585) (by decide +kernel))) rfl
theorem mX0_isWord_d : yX0_isWord.cls ≠ "java/lang/invoke/MethodHandle" ∧ yX0_isWord.cls ≠ "java/lang/invoke/VarHandle" ∧ (parseMethodDescriptor yX0_isWord.desc).map (fun d => d.parameters.length) = some 1 := by decide +kernel
theorem mX0_isWord_n : Cond.instanceMethod yX0_isWord ∈ TB := TB_of (List.mem_append_right _ (List.mem_of_getElem? (i := 583) (by decide +kernel))) rfl
theorem mX0_isWord_v : Cond.selects yX0_isWord.cls yX0_isWord yX0_isWord ∈ TB := TB_of (List.mem_append_right _ (List.mem_of_getElem? (i := 584) (by decide +kernel))) rfl
theorem cw_X0_77 : CWV RX0 77 0 yX0_isWord cX0_isWord 4 (some .boolean) 1 := ⟨⟨TB_of (List.mem_append_right _ (List.mem_of_getElem? (i := 582) (by decide +kernel))) rfl, mX0_isWord_i, mX0_isWord_c, mX0_isWord_d⟩, mX0_isWord_n, mX0_isWord_v, _, _, rfl⟩
theorem mJ0_indexOf_0f7a4_i : Cond.initialized yJ0_indexOf_0f7a4.cls ∈ TB := TB_of (List.mem_append_right _ (List.mem_of_getElem? (i := 12) (by decide +kernel))) rfl
theorem mJ0_indexOf_0f7a4_c : Cond.code yJ0_indexOf_0f7a4 cJ0_indexOf_0f7a4 2 (some .int) ∈ TB := TB_of (List.mem_append_right _ (List.mem_of_getElem? (i := 654) (by decide +kernel))) rfl
theorem mJ0_indexOf_0f7a4_d : yJ0_indexOf_0f7a4.cls ≠ "java/lang/invoke/MethodHandle" ∧ yJ0_indexOf_0f7a4.cls ≠ "java/lang/invoke/VarHandle" ∧ (parseMethodDescriptor yJ0_indexOf_0f7a4.desc).map (fun d => d.parameters.length) = some 1 := by decide +kernel
theorem mJ0_indexOf_0f7a4_n : Cond.instanceMethod yJ0_indexOf_0f7a4 ∈ TB := TB_of (List.mem_append_right _ (List.mem_of_getElem? (i := 652) (by decide +kernel))) rfl
theorem mJ0_indexOf_0f7a4_v : Cond.selects yJ0_indexOf_0f7a4.cls yJ0_indexOf_0f7a4 yJ0_indexOf_0f7a4 ∈ TB := TB_of (List.mem_append_right _ (List.mem_of_getElem? (i := 653) (by decide +kernel))) rfl
theorem cw_X0_91 : CW RX0 91 yJ0_indexOf_0f7a4 cJ0_indexOf_0f7a4 2 (some .int) 1 := ⟨TB_of (List.mem_append_right _ (List.mem_of_getElem? (i := 651) (by decide +kernel))) rfl, mJ0_indexOf_0f7a4_i, mJ0_indexOf_0f7a4_c, mJ0_indexOf_0f7a4_d⟩
theorem mX0_put_i : Cond.initialized yX0_put.cls ∈ TB := TB_of (List.mem_append_right _ (List.mem_of_getElem? (i := 5) (by decide +kernel))) rfl
theorem mX0_put_c : Cond.code yX0_put cX0_put 2 none ∈ TB := TB_of (List.mem_append_right _ (List.mem_of_getElem? (i := 717) (by decide +kernel))) rfl
theorem mX0_put_d : yX0_put.cls ≠ "java/lang/invoke/MethodHandle" ∧ yX0_put.cls ≠ "java/lang/invoke/VarHandle" ∧ (parseMethodDescriptor yX0_put.desc).map (fun d => d.parameters.length) = some 1 := by decide +kernel
theorem mX0_put_n : Cond.instanceMethod yX0_put ∈ TB := TB_of (List.mem_append_right _ (List.mem_of_getElem? (i := 715) (by decide +kernel))) rfl
theorem mX0_put_v : Cond.selects yX0_put.cls yX0_put yX0_put ∈ TB := TB_of (List.mem_append_right _ (List.mem_of_getElem? (i := 716) (by decide +kernel))) rfl
theorem cw_X0_94 : CWV RX0 94 0 yX0_put cX0_put 2 none 1 := ⟨⟨TB_of (List.mem_append_right _ (List.mem_of_getElem? (i := 714) (by decide +kernel))) rfl, mX0_put_i, mX0_put_c, mX0_put_d⟩, mX0_put_n, mX0_put_v, _, _, rfl⟩
theorem mX0_signsOf_i : Cond.initialized yX0_signsOf.cls ∈ TB := TB_of (List.mem_append_right _ (List.mem_of_getElem? (i := 5) (by decide +kernel))) rfl
theorem mX0_signsOf_c : Cond.code yX0_signsOf cX0_signsOf 1 (some (.object "java/lang/String")) ∈ TB := TB_of (List.mem_append_right _ (List.mem_of_getElem? (i := 732) (by decide +kernel))) rfl
theorem mX0_signsOf_d : yX0_signsOf.cls ≠ "java/lang/invoke/MethodHandle" ∧ yX0_signsOf.cls ≠ "java/lang/invoke/VarHandle" ∧ (parseMethodDescriptor yX0_signsOf.desc).map (fun d => d.parameters.length) = some 1 := by decide +kernel
theorem mX0_signsOf_s : Cond.static yX0_signsOf ∈ TB := TB_of (List.mem_append_right _ (List.mem_of_getElem? (i := 731) (by decide +kernel))) rfl
theorem cw_X0_110 : CWS RX0 110 yX0_signsOf cX0_signsOf 1 (some (.object "java/lang/String")) 1 := ⟨⟨TB_of (List.mem_append_right _ (List.mem_of_getElem? (i := 730) (by decide +kernel))) rfl, mX0_signsOf_i, mX0_signsOf_c, mX0_signsOf_d⟩, mX0_signsOf_s⟩
theorem mX0_readPiece_i : Cond.initialized yX0_readPiece.cls ∈ TB := TB_of (List.mem_append_right _ (List.mem_of_getElem? (i := 5) (by decide +kernel))) rfl
theorem mX0_readPiece_c : Cond.code yX0_readPiece cX0_readPiece 4 none ∈ TB := TB_of (List.mem_append_right _ (List.mem_of_getElem? (i := 643) (by decide +kernel))) rfl
theorem mX0_readPiece_d : yX0_readPiece.cls ≠ "java/lang/invoke/MethodHandle" ∧ yX0_readPiece.cls ≠ "java/lang/invoke/VarHandle" ∧ (parseMethodDescriptor yX0_readPiece.desc).map (fun d => d.parameters.length) = some 2 := by decide +kernel
theorem mX0_readPiece_n : Cond.instanceMethod yX0_readPiece ∈ TB := TB_of (List.mem_append_right _ (List.mem_of_getElem? (i := 642) (by decide +kernel))) rfl
theorem mX0_readPiece_v : Cond.selects yX0_readPiece.cls yX0_readPiece yX0_readPiece ∈ TB := TB_of (List.mem_append_left _ (List.mem_of_getElem? (i := 6) (by decide +kernel))) rfl
theorem cw_X0_114 : CWV RX0 114 0 yX0_readPiece cX0_readPiece 4 none 2 := ⟨⟨TB_of (List.mem_append_right _ (List.mem_of_getElem? (i := 640) (by decide +kernel))) rfl, mX0_readPiece_i, mX0_readPiece_c, mX0_readPiece_d⟩, mX0_readPiece_n, mX0_readPiece_v, _, _, rfl⟩
theorem mX0_isSignOf_i : Cond.initialized yX0_isSignOf.cls ∈ TB := TB_of (List.mem_append_right _ (List.mem_of_getElem? (i := 5) (by decide +kernel))) rfl
theorem mX0_isSignOf_c : Cond.code yX0_isSignOf cX0_isSignOf 2 (some .boolean) ∈ TB := TB_of (List.mem_append_right _ (List.mem_of_getElem? (i := 729) (by decide +kernel))) rfl
theorem mX0_isSignOf_d : yX0_isSignOf.cls ≠ "java/lang/invoke/MethodHandle" ∧ yX0_isSignOf.cls ≠ "java/lang/invoke/VarHandle" ∧ (parseMethodDescriptor yX0_isSignOf.desc).map (fun d => d.parameters.length) = some 1 := by decide +kernel
theorem mX0_isSignOf_n : Cond.instanceMethod yX0_isSignOf ∈ TB := TB_of (List.mem_append_right _ (List.mem_of_getElem? (i := 727) (by decide +kernel))) rfl
theorem mX0_isSignOf_v : Cond.selects yX0_isSignOf.cls yX0_isSignOf yX0_isSignOf ∈ TB := TB_of (List.mem_append_right _ (List.mem_of_getElem? (i := 728) (by decide +kernel))) rfl
theorem cw_X0_118 : CWV RX0 118 0 yX0_isSignOf cX0_isSignOf 2 (some .boolean) 1 := ⟨⟨TB_of (List.mem_append_right _ (List.mem_of_getElem? (i := 726) (by decide +kernel))) rfl, mX0_isSignOf_i, mX0_isSignOf_c, mX0_isSignOf_d⟩, mX0_isSignOf_n, mX0_isSignOf_v, _, _, rfl⟩
theorem mX0_nameRead_i : Cond.initialized yX0_nameRead.cls ∈ TB := TB_of (List.mem_append_right _ (List.mem_of_getElem? (i := 5) (by decide +kernel))) rfl
theorem mX0_nameRead_c : Cond.code yX0_nameRead cX0_nameRead 2 (some .int) ∈ TB := TB_of (List.mem_append_right _ (List.mem_of_getElem? (i := 647) (by decide +kernel))) rfl
theorem mX0_nameRead_d : yX0_nameRead.cls ≠ "java/lang/invoke/MethodHandle" ∧ yX0_nameRead.cls ≠ "java/lang/invoke/VarHandle" ∧ (parseMethodDescriptor yX0_nameRead.desc).map (fun d => d.parameters.length) = some 0 := by decide +kernel
theorem mX0_nameRead_n : Cond.instanceMethod yX0_nameRead ∈ TB := TB_of (List.mem_append_right _ (List.mem_of_getElem? (i := 645) (by decide +kernel))) rfl
theorem mX0_nameRead_v : Cond.selects yX0_nameRead.cls yX0_nameRead yX0_nameRead ∈ TB := TB_of (List.mem_append_right _ (List.mem_of_getElem? (i := 646) (by decide +kernel))) rfl
theorem cw_X0_122 : CWV RX0 122 0 yX0_nameRead cX0_nameRead 2 (some .int) 0 := ⟨⟨TB_of (List.mem_append_right _ (List.mem_of_getElem? (i := 644) (by decide +kernel))) rfl, mX0_nameRead_i, mX0_nameRead_c, mX0_nameRead_d⟩, mX0_nameRead_n, mX0_nameRead_v, _, _, rfl⟩
theorem mX0_numberRead_i : Cond.initialized yX0_numberRead.cls ∈ TB := TB_of (List.mem_append_right _ (List.mem_of_getElem? (i := 5) (by decide +kernel))) rfl
theorem mX0_numberRead_c : Cond.code yX0_numberRead cX0_numberRead 3 (some .int) ∈ TB := TB_of (List.mem_append_right _ (List.mem_of_getElem? (i := 709) (by decide +kernel))) rfl
theorem mX0_numberRead_d : yX0_numberRead.cls ≠ "java/lang/invoke/MethodHandle" ∧ yX0_numberRead.cls ≠ "java/lang/invoke/VarHandle" ∧ (parseMethodDescriptor yX0_numberRead.desc).map (fun d => d.parameters.length) = some 0 := by decide +kernel
theorem mX0_numberRead_n : Cond.instanceMethod yX0_numberRead ∈ TB := TB_of (List.mem_append_right _ (List.mem_of_getElem? (i := 707) (by decide +kernel))) rfl
theorem mX0_numberRead_v : Cond.selects yX0_numberRead.cls yX0_numberRead yX0_numberRead ∈ TB := TB_of (List.mem_append_right _ (List.mem_of_getElem? (i := 708) (by decide +kernel))) rfl
theorem cw_X0_125 : CWV RX0 125 0 yX0_numberRead cX0_numberRead 3 (some .int) 0 := ⟨⟨TB_of (List.mem_append_right _ (List.mem_of_getElem? (i := 706) (by decide +kernel))) rfl, mX0_numberRead_i, mX0_numberRead_c, mX0_numberRead_d⟩, mX0_numberRead_n, mX0_numberRead_v, _, _, rfl⟩
theorem mX0_putLeaf_i : Cond.initialized yX0_putLeaf.cls ∈ TB := TB_of (List.mem_append_right _ (List.mem_of_getElem? (i := 5) (by decide +kernel))) rfl
theorem mX0_putLeaf_c : Cond.code yX0_putLeaf cX0_putLeaf 2 none ∈ TB := TB_of (List.mem_append_right _ (List.mem_of_getElem? (i := 713) (by decide +kernel))) rfl
theorem mX0_putLeaf_d : yX0_putLeaf.cls ≠ "java/lang/invoke/MethodHandle" ∧ yX0_putLeaf.cls ≠ "java/lang/invoke/VarHandle" ∧ (parseMethodDescriptor yX0_putLeaf.desc).map (fun d => d.parameters.length) = some 1 := by decide +kernel
theorem mX0_putLeaf_n : Cond.instanceMethod yX0_putLeaf ∈ TB := TB_of (List.mem_append_right _ (List.mem_of_getElem? (i := 711) (by decide +kernel))) rfl
theorem mX0_putLeaf_v : Cond.selects yX0_putLeaf.cls yX0_putLeaf yX0_putLeaf ∈ TB := TB_of (List.mem_append_right _ (List.mem_of_getElem? (i := 712) (by decide +kernel))) rfl
theorem cw_X0_128 : CWV RX0 128 0 yX0_putLeaf cX0_putLeaf 2 none 1 := ⟨⟨TB_of (List.mem_append_right _ (List.mem_of_getElem? (i := 710) (by decide +kernel))) rfl, mX0_putLeaf_i, mX0_putLeaf_c, mX0_putLeaf_d⟩, mX0_putLeaf_n, mX0_putLeaf_v, _, _, rfl⟩
theorem mX0_isSign_i : Cond.initialized yX0_isSign.cls ∈ TB := TB_of (List.mem_append_right _ (List.mem_of_getElem? (i := 5) (by decide +kernel))) rfl
theorem mX0_isSign_c : Cond.code yX0_isSign cX0_isSign 2 (some .boolean) ∈ TB := TB_of (List.mem_append_right _ (List.mem_of_getElem? (i := 721) (by decide +kernel))) rfl
theorem mX0_isSign_d : yX0_isSign.cls ≠ "java/lang/invoke/MethodHandle" ∧ yX0_isSign.cls ≠ "java/lang/invoke/VarHandle" ∧ (parseMethodDescriptor yX0_isSign.desc).map (fun d => d.parameters.length) = some 1 := by decide +kernel
theorem mX0_isSign_n : Cond.instanceMethod yX0_isSign ∈ TB := TB_of (List.mem_append_right _ (List.mem_of_getElem? (i := 719) (by decide +kernel))) rfl
theorem mX0_isSign_v : Cond.selects yX0_isSign.cls yX0_isSign yX0_isSign ∈ TB := TB_of (List.mem_append_right _ (List.mem_of_getElem? (i := 720) (by decide +kernel))) rfl
theorem cw_X0_131 : CWV RX0 131 0 yX0_isSign cX0_isSign 2 (some .boolean) 1 := ⟨⟨TB_of (List.mem_append_right _ (List.mem_of_getElem? (i := 718) (by decide +kernel))) rfl, mX0_isSign_i, mX0_isSign_c, mX0_isSign_d⟩, mX0_isSign_n, mX0_isSign_v, _, _, rfl⟩
theorem fl_X1_9 : FL RX1 9 1 0 := ⟨_, _, _, rfl, by decide, TB_of (List.mem_append_right _ (List.mem_of_getElem? (i := 184) (by decide +kernel))) rfl, rfl⟩
theorem fl_X1_15 : FL RX1 15 1 1 := ⟨_, _, _, rfl, by decide, TB_of (List.mem_append_right _ (List.mem_of_getElem? (i := 186) (by decide +kernel))) rfl, rfl⟩
theorem mJ7_fill_53178_i : Cond.initialized yJ7_fill_53178.cls ∈ TB := TB_of (List.mem_append_right _ (List.mem_of_getElem? (i := 4) (by decide +kernel))) rfl
theorem mJ7_fill_53178_c : Cond.code yJ7_fill_53178 cJ7_fill_53178 4 none ∈ TB := TB_of (List.mem_append_right _ (List.mem_of_getElem? (i := 60) (by decide +kernel))) rfl
theorem mJ7_fill_53178_d : yJ7_fill_53178.cls ≠ "java/lang/invoke/MethodHandle" ∧ yJ7_fill_53178.cls ≠ "java/lang/invoke/VarHandle" ∧ (parseMethodDescriptor yJ7_fill_53178.desc).map (fun d => d.parameters.length) = some 2 := by decide +kernel
theorem mJ7_fill_53178_s : Cond.static yJ7_fill_53178 ∈ TB := TB_of (List.mem_append_right _ (List.mem_of_getElem? (i := 59) (by decide +kernel))) rfl
theorem cw_X1_19 : CWS RX1 19 yJ7_fill_53178 cJ7_fill_53178 4 none 2 := ⟨⟨TB_of (List.mem_append_right _ (List.mem_of_getElem? (i := 762) (by decide +kernel))) rfl, mJ7_fill_53178_i, mJ7_fill_53178_c, mJ7_fill_53178_d⟩, mJ7_fill_53178_s⟩
theorem fl_X1_25 : FL RX1 25 1 2 := ⟨_, _, _, rfl, by decide, TB_of (List.mem_append_right _ (List.mem_of_getElem? (i := 188) (by decide +kernel))) rfl, rfl⟩
theorem cw_X1_28 : Cond.methodLink RX1 28 arraycopyName ∈ TB := TB_of (List.mem_append_right _ (List.mem_of_getElem? (i := 802) (by decide +kernel))) rfl
theorem fl_X2_12 : FL RX2 12 2 0 := ⟨_, _, _, rfl, by decide, TB_of (List.mem_append_right _ (List.mem_of_getElem? (i := 204) (by decide +kernel))) rfl, rfl⟩
theorem fl_X2_18 : FL RX2 18 2 1 := ⟨_, _, _, rfl, by decide, TB_of (List.mem_append_right _ (List.mem_of_getElem? (i := 206) (by decide +kernel))) rfl, rfl⟩
theorem fl_X2_22 : FL RX2 22 2 3 := ⟨_, _, _, rfl, by decide, TB_of (List.mem_append_right _ (List.mem_of_getElem? (i := 209) (by decide +kernel))) rfl, rfl⟩
theorem fl_X2_25 : FL RX2 25 2 4 := ⟨_, _, _, rfl, by decide, TB_of (List.mem_append_right _ (List.mem_of_getElem? (i := 211) (by decide +kernel))) rfl, rfl⟩
theorem fl_X2_28 : FL RX2 28 2 5 := ⟨_, _, _, rfl, by decide, TB_of (List.mem_append_right _ (List.mem_of_getElem? (i := 213) (by decide +kernel))) rfl, rfl⟩
theorem fl_X3_11 : FL RX3 11 3 0 := ⟨_, _, _, rfl, by decide, TB_of (List.mem_append_right _ (List.mem_of_getElem? (i := 33) (by decide +kernel))) rfl, rfl⟩
theorem fl_X3_16 : FL RX3 16 3 1 := ⟨_, _, _, rfl, by decide, TB_of (List.mem_append_right _ (List.mem_of_getElem? (i := 34) (by decide +kernel))) rfl, rfl⟩
theorem fl_X3_20 : FL RX3 20 3 2 := ⟨_, _, _, rfl, by decide, TB_of (List.mem_append_right _ (List.mem_of_getElem? (i := 35) (by decide +kernel))) rfl, rfl⟩
theorem fl_X3_23 : FL RX3 23 3 3 := ⟨_, _, _, rfl, by decide, TB_of (List.mem_append_right _ (List.mem_of_getElem? (i := 37) (by decide +kernel))) rfl, rfl⟩
theorem fl_X3_26 : FL RX3 26 3 4 := ⟨_, _, _, rfl, by decide, TB_of (List.mem_append_right _ (List.mem_of_getElem? (i := 39) (by decide +kernel))) rfl, rfl⟩
theorem fl_X3_33 : FL RX3 33 0 0 := ⟨_, _, _, rfl, by decide, TB_of (List.mem_append_right _ (List.mem_of_getElem? (i := 140) (by decide +kernel))) rfl, rfl⟩
theorem fl_X3_37 : FL RX3 37 0 1 := ⟨_, _, _, rfl, by decide, TB_of (List.mem_append_right _ (List.mem_of_getElem? (i := 142) (by decide +kernel))) rfl, rfl⟩
theorem cw_X3_40 : Cond.methodLink RX3 40 arraycopyName ∈ TB := TB_of (List.mem_append_right _ (List.mem_of_getElem? (i := 743) (by decide +kernel))) rfl
theorem fl_X3_46 : FL RX3 46 0 2 := ⟨_, _, _, rfl, by decide, TB_of (List.mem_append_right _ (List.mem_of_getElem? (i := 143) (by decide +kernel))) rfl, rfl⟩
theorem fl_X3_48 : FL RX3 48 0 3 := ⟨_, _, _, rfl, by decide, TB_of (List.mem_append_right _ (List.mem_of_getElem? (i := 147) (by decide +kernel))) rfl, rfl⟩
theorem mX3_joined_i : Cond.initialized yX3_joined.cls ∈ TB := TB_of (List.mem_append_right _ (List.mem_of_getElem? (i := 2) (by decide +kernel))) rfl
theorem mX3_joined_c : Cond.code yX3_joined cX3_joined 3 (some .int) ∈ TB := TB_of (List.mem_append_right _ (List.mem_of_getElem? (i := 311) (by decide +kernel))) rfl
theorem mX3_joined_d : yX3_joined.cls ≠ "java/lang/invoke/MethodHandle" ∧ yX3_joined.cls ≠ "java/lang/invoke/VarHandle" ∧ (parseMethodDescriptor yX3_joined.desc).map (fun d => d.parameters.length) = some 3 := by decide +kernel
theorem mX3_joined_s : Cond.static yX3_joined ∈ TB := TB_of (List.mem_append_right _ (List.mem_of_getElem? (i := 310) (by decide +kernel))) rfl
theorem cw_X3_50 : CWS RX3 50 yX3_joined cX3_joined 3 (some .int) 3 := ⟨⟨TB_of (List.mem_append_right _ (List.mem_of_getElem? (i := 309) (by decide +kernel))) rfl, mX3_joined_i, mX3_joined_c, mX3_joined_d⟩, mX3_joined_s⟩
theorem fl_X4_9 : FL RX4 9 4 1 := ⟨_, _, _, rfl, by decide, TB_of (List.mem_append_right _ (List.mem_of_getElem? (i := 63) (by decide +kernel))) rfl, rfl⟩
theorem fl_X4_15 : FL RX4 15 4 2 := ⟨_, _, _, rfl, by decide, TB_of (List.mem_append_right _ (List.mem_of_getElem? (i := 65) (by decide +kernel))) rfl, rfl⟩
theorem fl_X4_18 : FL RX4 18 4 3 := ⟨_, _, _, rfl, by decide, TB_of (List.mem_append_right _ (List.mem_of_getElem? (i := 67) (by decide +kernel))) rfl, rfl⟩
theorem fl_X4_21 : FL RX4 21 4 4 := ⟨_, _, _, rfl, by decide, TB_of (List.mem_append_right _ (List.mem_of_getElem? (i := 68) (by decide +kernel))) rfl, rfl⟩
theorem fl_X4_24 : FL RX4 24 4 5 := ⟨_, _, _, rfl, by decide, TB_of (List.mem_append_right _ (List.mem_of_getElem? (i := 70) (by decide +kernel))) rfl, rfl⟩
theorem fl_X4_27 : FL RX4 27 4 6 := ⟨_, _, _, rfl, by decide, TB_of (List.mem_append_right _ (List.mem_of_getElem? (i := 72) (by decide +kernel))) rfl, rfl⟩
theorem fl_X4_30 : FL RX4 30 4 7 := ⟨_, _, _, rfl, by decide, TB_of (List.mem_append_right _ (List.mem_of_getElem? (i := 74) (by decide +kernel))) rfl, rfl⟩
theorem fl_X4_33 : FL RX4 33 4 8 := ⟨_, _, _, rfl, by decide, TB_of (List.mem_append_right _ (List.mem_of_getElem? (i := 76) (by decide +kernel))) rfl, rfl⟩
theorem fl_X4_36 : FL RX4 36 4 9 := ⟨_, _, _, rfl, by decide, TB_of (List.mem_append_right _ (List.mem_of_getElem? (i := 78) (by decide +kernel))) rfl, rfl⟩
theorem fl_X4_39 : FL RX4 39 4 10 := ⟨_, _, _, rfl, by decide, TB_of (List.mem_append_right _ (List.mem_of_getElem? (i := 80) (by decide +kernel))) rfl, rfl⟩
theorem fl_X4_42 : FL RX4 42 4 15 := ⟨_, _, _, rfl, by decide, TB_of (List.mem_append_right _ (List.mem_of_getElem? (i := 90) (by decide +kernel))) rfl, rfl⟩
theorem fl_X4_46 : FL RX4 46 4 17 := ⟨_, _, _, rfl, by decide, TB_of (List.mem_append_right _ (List.mem_of_getElem? (i := 94) (by decide +kernel))) rfl, rfl⟩
theorem fl_X4_49 : FL RX4 49 4 0 := ⟨_, _, _, rfl, by decide, TB_of (List.mem_append_right _ (List.mem_of_getElem? (i := 62) (by decide +kernel))) rfl, rfl⟩
theorem cw_X4_53 : CWS RX4 53 yJ7_fill_53178 cJ7_fill_53178 4 none 2 := ⟨⟨TB_of (List.mem_append_right _ (List.mem_of_getElem? (i := 58) (by decide +kernel))) rfl, mJ7_fill_53178_i, mJ7_fill_53178_c, mJ7_fill_53178_d⟩, mJ7_fill_53178_s⟩
theorem cs_X4_59 : Cond.constant RX4 59 (-1000000005) ∈ TB := TB_of (List.mem_append_right _ (List.mem_of_getElem? (i := 61) (by decide +kernel))) rfl
theorem cw_X4_60 : Cond.methodLink RX4 60 arraycopyName ∈ TB := TB_of (List.mem_append_right _ (List.mem_of_getElem? (i := 483) (by decide +kernel))) rfl
theorem fl_X4_66 : FL RX4 66 4 11 := ⟨_, _, _, rfl, by decide, TB_of (List.mem_append_right _ (List.mem_of_getElem? (i := 83) (by decide +kernel))) rfl, rfl⟩
theorem fl_X4_69 : FL RX4 69 4 12 := ⟨_, _, _, rfl, by decide, TB_of (List.mem_append_right _ (List.mem_of_getElem? (i := 84) (by decide +kernel))) rfl, rfl⟩
theorem fl_X4_72 : FL RX4 72 4 13 := ⟨_, _, _, rfl, by decide, TB_of (List.mem_append_right _ (List.mem_of_getElem? (i := 86) (by decide +kernel))) rfl, rfl⟩
theorem fl_X4_75 : FL RX4 75 4 14 := ⟨_, _, _, rfl, by decide, TB_of (List.mem_append_right _ (List.mem_of_getElem? (i := 88) (by decide +kernel))) rfl, rfl⟩
theorem fl_X4_78 : FL RX4 78 4 16 := ⟨_, _, _, rfl, by decide, TB_of (List.mem_append_right _ (List.mem_of_getElem? (i := 92) (by decide +kernel))) rfl, rfl⟩
theorem cs_X4_81 : Cond.constant RX4 81 (-1000000003) ∈ TB := TB_of (List.mem_append_right _ (List.mem_of_getElem? (i := 287) (by decide +kernel))) rfl
theorem cs_X4_82 : Cond.constant RX4 82 (1103515245) ∈ TB := TB_of (List.mem_append_right _ (List.mem_of_getElem? (i := 392) (by decide +kernel))) rfl
theorem mX3_gives_i : Cond.initialized yX3_gives.cls ∈ TB := TB_of (List.mem_append_right _ (List.mem_of_getElem? (i := 2) (by decide +kernel))) rfl
theorem mX3_gives_c : Cond.code yX3_gives cX3_gives 9 (some .int) ∈ TB := TB_of (List.mem_append_right _ (List.mem_of_getElem? (i := 307) (by decide +kernel))) rfl
theorem mX3_gives_d : yX3_gives.cls ≠ "java/lang/invoke/MethodHandle" ∧ yX3_gives.cls ≠ "java/lang/invoke/VarHandle" ∧ (parseMethodDescriptor yX3_gives.desc).map (fun d => d.parameters.length) = some 5 := by decide +kernel
theorem mX3_gives_n : Cond.instanceMethod yX3_gives ∈ TB := TB_of (List.mem_append_right _ (List.mem_of_getElem? (i := 305) (by decide +kernel))) rfl
theorem mX3_gives_v : Cond.selects yX3_gives.cls yX3_gives yX3_gives ∈ TB := TB_of (List.mem_append_right _ (List.mem_of_getElem? (i := 306) (by decide +kernel))) rfl
theorem cw_X4_83 : CWV RX4 83 3 yX3_gives cX3_gives 9 (some .int) 5 := ⟨⟨TB_of (List.mem_append_right _ (List.mem_of_getElem? (i := 304) (by decide +kernel))) rfl, mX3_gives_i, mX3_gives_c, mX3_gives_d⟩, mX3_gives_n, mX3_gives_v, _, _, rfl⟩
theorem mX4_plain_i : Cond.initialized yX4_plain.cls ∈ TB := TB_of (List.mem_append_right _ (List.mem_of_getElem? (i := 3) (by decide +kernel))) rfl
theorem mX4_plain_c : Cond.code yX4_plain cX4_plain 5 (some .int) ∈ TB := TB_of (List.mem_append_right _ (List.mem_of_getElem? (i := 303) (by decide +kernel))) rfl
theorem mX4_plain_d : yX4_plain.cls ≠ "java/lang/invoke/MethodHandle" ∧ yX4_plain.cls ≠ "java/lang/invoke/VarHandle" ∧ (parseMethodDescriptor yX4_plain.desc).map (fun d => d.parameters.length) = some 1 := by decide +kernel
theorem mX4_plain_n : Cond.instanceMethod yX4_plain ∈ TB := TB_of (List.mem_append_right _ (List.mem_of_getElem? (i := 301) (by decide +kernel))) rfl
theorem mX4_plain_v : Cond.selects yX4_plain.cls yX4_plain yX4_plain ∈ TB := TB_of (List.mem_append_right _ (List.mem_of_getElem? (i := 302) (by decide +kernel))) rfl
theorem cw_X4_93 : CWV RX4 93 4 yX4_plain cX4_plain 5 (some .int) 1 := ⟨⟨TB_of (List.mem_append_right _ (List.mem_of_getElem? (i := 300) (by decide +kernel))) rfl, mX4_plain_i, mX4_plain_c, mX4_plain_d⟩, mX4_plain_n, mX4_plain_v, _, _, rfl⟩
theorem cw_X4_97 : CWS RX4 97 yJ9_min_7cf53 cJ9_min_7cf53 2 (some .int) 2 := ⟨⟨TB_of (List.mem_append_right _ (List.mem_of_getElem? (i := 321) (by decide +kernel))) rfl, mJ9_min_7cf53_i, mJ9_min_7cf53_c, mJ9_min_7cf53_d⟩, mJ9_min_7cf53_s⟩
theorem cw_X4_102 : CWS RX4 102 yJ9_max_7cf53 cJ9_max_7cf53 2 (some .int) 2 := ⟨⟨TB_of (List.mem_append_right _ (List.mem_of_getElem? (i := 322) (by decide +kernel))) rfl, mJ9_max_7cf53_i, mJ9_max_7cf53_c, mJ9_max_7cf53_d⟩, mJ9_max_7cf53_s⟩
theorem mX4_shows_i : Cond.initialized yX4_shows.cls ∈ TB := TB_of (List.mem_append_right _ (List.mem_of_getElem? (i := 3) (by decide +kernel))) rfl
theorem mX4_shows_c : Cond.code yX4_shows cX4_shows 3 (some .int) ∈ TB := TB_of (List.mem_append_right _ (List.mem_of_getElem? (i := 299) (by decide +kernel))) rfl
theorem mX4_shows_d : yX4_shows.cls ≠ "java/lang/invoke/MethodHandle" ∧ yX4_shows.cls ≠ "java/lang/invoke/VarHandle" ∧ (parseMethodDescriptor yX4_shows.desc).map (fun d => d.parameters.length) = some 1 := by decide +kernel
theorem mX4_shows_n : Cond.instanceMethod yX4_shows ∈ TB := TB_of (List.mem_append_right _ (List.mem_of_getElem? (i := 297) (by decide +kernel))) rfl
theorem mX4_shows_v : Cond.selects yX4_shows.cls yX4_shows yX4_shows ∈ TB := TB_of (List.mem_append_right _ (List.mem_of_getElem? (i := 298) (by decide +kernel))) rfl
theorem cw_X4_105 : CWV RX4 105 4 yX4_shows cX4_shows 3 (some .int) 1 := ⟨⟨TB_of (List.mem_append_right _ (List.mem_of_getElem? (i := 375) (by decide +kernel))) rfl, mX4_shows_i, mX4_shows_c, mX4_shows_d⟩, mX4_shows_n, mX4_shows_v, _, _, rfl⟩
theorem mX4_isLegible_i : Cond.initialized yX4_isLegible.cls ∈ TB := TB_of (List.mem_append_right _ (List.mem_of_getElem? (i := 3) (by decide +kernel))) rfl
theorem mX4_isLegible_c : Cond.code yX4_isLegible cX4_isLegible 2 (some .boolean) ∈ TB := TB_of (List.mem_append_right _ (List.mem_of_getElem? (i := 474) (by decide +kernel))) rfl
theorem mX4_isLegible_d : yX4_isLegible.cls ≠ "java/lang/invoke/MethodHandle" ∧ yX4_isLegible.cls ≠ "java/lang/invoke/VarHandle" ∧ (parseMethodDescriptor yX4_isLegible.desc).map (fun d => d.parameters.length) = some 1 := by decide +kernel
theorem mX4_isLegible_n : Cond.instanceMethod yX4_isLegible ∈ TB := TB_of (List.mem_append_right _ (List.mem_of_getElem? (i := 472) (by decide +kernel))) rfl
theorem mX4_isLegible_v : Cond.selects yX4_isLegible.cls yX4_isLegible yX4_isLegible ∈ TB := TB_of (List.mem_append_right _ (List.mem_of_getElem? (i := 473) (by decide +kernel))) rfl
theorem cw_X4_108 : CWV RX4 108 4 yX4_isLegible cX4_isLegible 2 (some .boolean) 1 := ⟨⟨TB_of (List.mem_append_right _ (List.mem_of_getElem? (i := 471) (by decide +kernel))) rfl, mX4_isLegible_i, mX4_isLegible_c, mX4_isLegible_d⟩, mX4_isLegible_n, mX4_isLegible_v, _, _, rfl⟩
theorem mX4_sumOfMarks_i : Cond.initialized yX4_sumOfMarks.cls ∈ TB := TB_of (List.mem_append_right _ (List.mem_of_getElem? (i := 3) (by decide +kernel))) rfl
theorem mX4_sumOfMarks_c : Cond.code yX4_sumOfMarks cX4_sumOfMarks 4 (some .int) ∈ TB := TB_of (List.mem_append_right _ (List.mem_of_getElem? (i := 461) (by decide +kernel))) rfl
theorem mX4_sumOfMarks_d : yX4_sumOfMarks.cls ≠ "java/lang/invoke/MethodHandle" ∧ yX4_sumOfMarks.cls ≠ "java/lang/invoke/VarHandle" ∧ (parseMethodDescriptor yX4_sumOfMarks.desc).map (fun d => d.parameters.length) = some 1 := by decide +kernel
theorem mX4_sumOfMarks_n : Cond.instanceMethod yX4_sumOfMarks ∈ TB := TB_of (List.mem_append_right _ (List.mem_of_getElem? (i := 459) (by decide +kernel))) rfl
theorem mX4_sumOfMarks_v : Cond.selects yX4_sumOfMarks.cls yX4_sumOfMarks yX4_sumOfMarks ∈ TB := TB_of (List.mem_append_right _ (List.mem_of_getElem? (i := 460) (by decide +kernel))) rfl
theorem cw_X4_112 : CWV RX4 112 4 yX4_sumOfMarks cX4_sumOfMarks 4 (some .int) 1 := ⟨⟨TB_of (List.mem_append_right _ (List.mem_of_getElem? (i := 458) (by decide +kernel))) rfl, mX4_sumOfMarks_i, mX4_sumOfMarks_c, mX4_sumOfMarks_d⟩, mX4_sumOfMarks_n, mX4_sumOfMarks_v, _, _, rfl⟩
theorem cs_X4_116 : Cond.constant RX4 116 (-1000000001) ∈ TB := TB_of (List.mem_append_right _ (List.mem_of_getElem? (i := 462) (by decide +kernel))) rfl
theorem mX4_sinks_i : Cond.initialized yX4_sinks.cls ∈ TB := TB_of (List.mem_append_right _ (List.mem_of_getElem? (i := 3) (by decide +kernel))) rfl
theorem mX4_sinks_c : Cond.code yX4_sinks cX4_sinks 3 (some .int) ∈ TB := TB_of (List.mem_append_right _ (List.mem_of_getElem? (i := 326) (by decide +kernel))) rfl
theorem mX4_sinks_d : yX4_sinks.cls ≠ "java/lang/invoke/MethodHandle" ∧ yX4_sinks.cls ≠ "java/lang/invoke/VarHandle" ∧ (parseMethodDescriptor yX4_sinks.desc).map (fun d => d.parameters.length) = some 1 := by decide +kernel
theorem mX4_sinks_n : Cond.instanceMethod yX4_sinks ∈ TB := TB_of (List.mem_append_right _ (List.mem_of_getElem? (i := 324) (by decide +kernel))) rfl
theorem mX4_sinks_v : Cond.selects yX4_sinks.cls yX4_sinks yX4_sinks ∈ TB := TB_of (List.mem_append_right _ (List.mem_of_getElem? (i := 325) (by decide +kernel))) rfl
theorem cw_X4_117 : CWV RX4 117 4 yX4_sinks cX4_sinks 3 (some .int) 1 := ⟨⟨TB_of (List.mem_append_right _ (List.mem_of_getElem? (i := 442) (by decide +kernel))) rfl, mX4_sinks_i, mX4_sinks_c, mX4_sinks_d⟩, mX4_sinks_n, mX4_sinks_v, _, _, rfl⟩
theorem mX4_fades_i : Cond.initialized yX4_fades.cls ∈ TB := TB_of (List.mem_append_right _ (List.mem_of_getElem? (i := 3) (by decide +kernel))) rfl
theorem mX4_fades_c : Cond.code yX4_fades cX4_fades 2 (some .int) ∈ TB := TB_of (List.mem_append_right _ (List.mem_of_getElem? (i := 330) (by decide +kernel))) rfl
theorem mX4_fades_d : yX4_fades.cls ≠ "java/lang/invoke/MethodHandle" ∧ yX4_fades.cls ≠ "java/lang/invoke/VarHandle" ∧ (parseMethodDescriptor yX4_fades.desc).map (fun d => d.parameters.length) = some 1 := by decide +kernel
theorem mX4_fades_n : Cond.instanceMethod yX4_fades ∈ TB := TB_of (List.mem_append_right _ (List.mem_of_getElem? (i := 328) (by decide +kernel))) rfl
theorem mX4_fades_v : Cond.selects yX4_fades.cls yX4_fades yX4_fades ∈ TB := TB_of (List.mem_append_right _ (List.mem_of_getElem? (i := 329) (by decide +kernel))) rfl
theorem cw_X4_120 : CWV RX4 120 4 yX4_fades cX4_fades 2 (some .int) 1 := ⟨⟨TB_of (List.mem_append_right _ (List.mem_of_getElem? (i := 420) (by decide +kernel))) rfl, mX4_fades_i, mX4_fades_c, mX4_fades_d⟩, mX4_fades_n, mX4_fades_v, _, _, rfl⟩
theorem cs_X4_123 : Cond.constant RX4 123 (99999) ∈ TB := TB_of (List.mem_append_right _ (List.mem_of_getElem? (i := 421) (by decide +kernel))) rfl
theorem mX4_draw_i : Cond.initialized yX4_draw.cls ∈ TB := TB_of (List.mem_append_right _ (List.mem_of_getElem? (i := 3) (by decide +kernel))) rfl
theorem mX4_draw_c : Cond.code yX4_draw cX4_draw 1 (some .int) ∈ TB := TB_of (List.mem_append_right _ (List.mem_of_getElem? (i := 391) (by decide +kernel))) rfl
theorem mX4_draw_d : yX4_draw.cls ≠ "java/lang/invoke/MethodHandle" ∧ yX4_draw.cls ≠ "java/lang/invoke/VarHandle" ∧ (parseMethodDescriptor yX4_draw.desc).map (fun d => d.parameters.length) = some 0 := by decide +kernel
theorem mX4_draw_n : Cond.instanceMethod yX4_draw ∈ TB := TB_of (List.mem_append_right _ (List.mem_of_getElem? (i := 389) (by decide +kernel))) rfl
theorem mX4_draw_v : Cond.selects yX4_draw.cls yX4_draw yX4_draw ∈ TB := TB_of (List.mem_append_right _ (List.mem_of_getElem? (i := 390) (by decide +kernel))) rfl
theorem cw_X4_124 : CWV RX4 124 4 yX4_draw cX4_draw 1 (some .int) 0 := ⟨⟨TB_of (List.mem_append_right _ (List.mem_of_getElem? (i := 448) (by decide +kernel))) rfl, mX4_draw_i, mX4_draw_c, mX4_draw_d⟩, mX4_draw_n, mX4_draw_v, _, _, rfl⟩
theorem mX4_digOut_i : Cond.initialized yX4_digOut.cls ∈ TB := TB_of (List.mem_append_right _ (List.mem_of_getElem? (i := 3) (by decide +kernel))) rfl
theorem mX4_digOut_c : Cond.code yX4_digOut cX4_digOut 6 (some .int) ∈ TB := TB_of (List.mem_append_right _ (List.mem_of_getElem? (i := 429) (by decide +kernel))) rfl
theorem mX4_digOut_d : yX4_digOut.cls ≠ "java/lang/invoke/MethodHandle" ∧ yX4_digOut.cls ≠ "java/lang/invoke/VarHandle" ∧ (parseMethodDescriptor yX4_digOut.desc).map (fun d => d.parameters.length) = some 2 := by decide +kernel
theorem mX4_digOut_n : Cond.instanceMethod yX4_digOut ∈ TB := TB_of (List.mem_append_right _ (List.mem_of_getElem? (i := 427) (by decide +kernel))) rfl
theorem mX4_digOut_v : Cond.selects yX4_digOut.cls yX4_digOut yX4_digOut ∈ TB := TB_of (List.mem_append_right _ (List.mem_of_getElem? (i := 428) (by decide +kernel))) rfl
theorem cw_X4_128 : CWV RX4 128 4 yX4_digOut cX4_digOut 6 (some .int) 2 := ⟨⟨TB_of (List.mem_append_right _ (List.mem_of_getElem? (i := 449) (by decide +kernel))) rfl, mX4_digOut_i, mX4_digOut_c, mX4_digOut_d⟩, mX4_digOut_n, mX4_digOut_v, _, _, rfl⟩
theorem mX4_coatAll_i : Cond.initialized yX4_coatAll.cls ∈ TB := TB_of (List.mem_append_right _ (List.mem_of_getElem? (i := 3) (by decide +kernel))) rfl
theorem mX4_coatAll_c : Cond.code yX4_coatAll cX4_coatAll 3 none ∈ TB := TB_of (List.mem_append_right _ (List.mem_of_getElem? (i := 441) (by decide +kernel))) rfl
theorem mX4_coatAll_d : yX4_coatAll.cls ≠ "java/lang/invoke/MethodHandle" ∧ yX4_coatAll.cls ≠ "java/lang/invoke/VarHandle" ∧ (parseMethodDescriptor yX4_coatAll.desc).map (fun d => d.parameters.length) = some 0 := by decide +kernel
theorem mX4_coatAll_n : Cond.instanceMethod yX4_coatAll ∈ TB := TB_of (List.mem_append_right _ (List.mem_of_getElem? (i := 439) (by decide +kernel))) rfl
theorem mX4_coatAll_v : Cond.selects yX4_coatAll.cls yX4_coatAll yX4_coatAll ∈ TB := TB_of (List.mem_append_right _ (List.mem_of_getElem? (i := 440) (by decide +kernel))) rfl
theorem cw_X4_131 : CWV RX4 131 4 yX4_coatAll cX4_coatAll 3 none 0 := ⟨⟨TB_of (List.mem_append_right _ (List.mem_of_getElem? (i := 438) (by decide +kernel))) rfl, mX4_coatAll_i, mX4_coatAll_c, mX4_coatAll_d⟩, mX4_coatAll_n, mX4_coatAll_v, _, _, rfl⟩
theorem mX4_breathOn_i : Cond.initialized yX4_breathOn.cls ∈ TB := TB_of (List.mem_append_right _ (List.mem_of_getElem? (i := 3) (by decide +kernel))) rfl
theorem mX4_breathOn_c : Cond.code yX4_breathOn cX4_breathOn 5 (some .int) ∈ TB := TB_of (List.mem_append_right _ (List.mem_of_getElem? (i := 419) (by decide +kernel))) rfl
theorem mX4_breathOn_d : yX4_breathOn.cls ≠ "java/lang/invoke/MethodHandle" ∧ yX4_breathOn.cls ≠ "java/lang/invoke/VarHandle" ∧ (parseMethodDescriptor yX4_breathOn.desc).map (fun d => d.parameters.length) = some 1 := by decide +kernel
theorem mX4_breathOn_n : Cond.instanceMethod yX4_breathOn ∈ TB := TB_of (List.mem_append_right _ (List.mem_of_getElem? (i := 417) (by decide +kernel))) rfl
theorem mX4_breathOn_v : Cond.selects yX4_breathOn.cls yX4_breathOn yX4_breathOn ∈ TB := TB_of (List.mem_append_right _ (List.mem_of_getElem? (i := 418) (by decide +kernel))) rfl
theorem cw_X4_134 : CWV RX4 134 4 yX4_breathOn cX4_breathOn 5 (some .int) 1 := ⟨⟨TB_of (List.mem_append_right _ (List.mem_of_getElem? (i := 443) (by decide +kernel))) rfl, mX4_breathOn_i, mX4_breathOn_c, mX4_breathOn_d⟩, mX4_breathOn_n, mX4_breathOn_v, _, _, rfl⟩
theorem mX4_spoonByChance_i : Cond.initialized yX4_spoonByChance.cls ∈ TB := TB_of (List.mem_append_right _ (List.mem_of_getElem? (i := 3) (by decide +kernel))) rfl
theorem mX4_spoonByChance_c : Cond.code yX4_spoonByChance cX4_spoonByChance 2 none ∈ TB := TB_of (List.mem_append_right _ (List.mem_of_getElem? (i := 447) (by decide +kernel))) rfl
theorem mX4_spoonByChance_d : yX4_spoonByChance.cls ≠ "java/lang/invoke/MethodHandle" ∧ yX4_spoonByChance.cls ≠ "java/lang/invoke/VarHandle" ∧ (parseMethodDescriptor yX4_spoonByChance.desc).map (fun d => d.parameters.length) = some 0 := by decide +kernel
theorem mX4_spoonByChance_n : Cond.instanceMethod yX4_spoonByChance ∈ TB := TB_of (List.mem_append_right _ (List.mem_of_getElem? (i := 445) (by decide +kernel))) rfl
theorem mX4_spoonByChance_v : Cond.selects yX4_spoonByChance.cls yX4_spoonByChance yX4_spoonByChance ∈ TB := TB_of (List.mem_append_right _ (List.mem_of_getElem? (i := 446) (by decide +kernel))) rfl
theorem cw_X4_137 : CWV RX4 137 4 yX4_spoonByChance cX4_spoonByChance 2 none 0 := ⟨⟨TB_of (List.mem_append_right _ (List.mem_of_getElem? (i := 444) (by decide +kernel))) rfl, mX4_spoonByChance_i, mX4_spoonByChance_c, mX4_spoonByChance_d⟩, mX4_spoonByChance_n, mX4_spoonByChance_v, _, _, rfl⟩
theorem fl_X5_10 : FL RX5 10 5 0 := ⟨_, _, _, rfl, by decide, TB_of (List.mem_append_right _ (List.mem_of_getElem? (i := 228) (by decide +kernel))) rfl, rfl⟩
theorem fl_X5_21 : FL RX5 21 5 1 := ⟨_, _, _, rfl, by decide, TB_of (List.mem_append_right _ (List.mem_of_getElem? (i := 229) (by decide +kernel))) rfl, rfl⟩
theorem fl_X5_25 : FL RX5 25 5 2 := ⟨_, _, _, rfl, by decide, TB_of (List.mem_append_right _ (List.mem_of_getElem? (i := 230) (by decide +kernel))) rfl, rfl⟩
theorem fl_X5_28 : FL RX5 28 5 3 := ⟨_, _, _, rfl, by decide, TB_of (List.mem_append_right _ (List.mem_of_getElem? (i := 231) (by decide +kernel))) rfl, rfl⟩
theorem fl_X5_34 : FL RX5 34 5 5 := ⟨_, _, _, rfl, by decide, TB_of (List.mem_append_right _ (List.mem_of_getElem? (i := 233) (by decide +kernel))) rfl, rfl⟩
theorem fl_X5_38 : FL RX5 38 5 6 := ⟨_, _, _, rfl, by decide, TB_of (List.mem_append_right _ (List.mem_of_getElem? (i := 234) (by decide +kernel))) rfl, rfl⟩
theorem fl_X5_44 : FL RX5 44 5 8 := ⟨_, _, _, rfl, by decide, TB_of (List.mem_append_right _ (List.mem_of_getElem? (i := 236) (by decide +kernel))) rfl, rfl⟩
theorem fl_X5_50 : FL RX5 50 5 9 := ⟨_, _, _, rfl, by decide, TB_of (List.mem_append_right _ (List.mem_of_getElem? (i := 237) (by decide +kernel))) rfl, rfl⟩
theorem fl_X5_54 : FL RX5 54 5 10 := ⟨_, _, _, rfl, by decide, TB_of (List.mem_append_right _ (List.mem_of_getElem? (i := 238) (by decide +kernel))) rfl, rfl⟩
theorem fl_X5_57 : FL RX5 57 5 12 := ⟨_, _, _, rfl, by decide, TB_of (List.mem_append_right _ (List.mem_of_getElem? (i := 240) (by decide +kernel))) rfl, rfl⟩
theorem mX5_isKind_i : Cond.initialized yX5_isKind.cls ∈ TB := TB_of (List.mem_append_right _ (List.mem_of_getElem? (i := 1) (by decide +kernel))) rfl
theorem mX5_isKind_c : Cond.code yX5_isKind cX5_isKind 1 (some .boolean) ∈ TB := TB_of (List.mem_append_right _ (List.mem_of_getElem? (i := 274) (by decide +kernel))) rfl
theorem mX5_isKind_d : yX5_isKind.cls ≠ "java/lang/invoke/MethodHandle" ∧ yX5_isKind.cls ≠ "java/lang/invoke/VarHandle" ∧ (parseMethodDescriptor yX5_isKind.desc).map (fun d => d.parameters.length) = some 1 := by decide +kernel
theorem mX5_isKind_s : Cond.static yX5_isKind ∈ TB := TB_of (List.mem_append_right _ (List.mem_of_getElem? (i := 273) (by decide +kernel))) rfl
theorem cw_X5_62 : CWS RX5 62 yX5_isKind cX5_isKind 1 (some .boolean) 1 := ⟨⟨TB_of (List.mem_append_right _ (List.mem_of_getElem? (i := 272) (by decide +kernel))) rfl, mX5_isKind_i, mX5_isKind_c, mX5_isKind_d⟩, mX5_isKind_s⟩
theorem mX5_within_i : Cond.initialized yX5_within.cls ∈ TB := TB_of (List.mem_append_right _ (List.mem_of_getElem? (i := 1) (by decide +kernel))) rfl
theorem mX5_within_c : Cond.code yX5_within cX5_within 3 (some .boolean) ∈ TB := TB_of (List.mem_append_right _ (List.mem_of_getElem? (i := 277) (by decide +kernel))) rfl
theorem mX5_within_d : yX5_within.cls ≠ "java/lang/invoke/MethodHandle" ∧ yX5_within.cls ≠ "java/lang/invoke/VarHandle" ∧ (parseMethodDescriptor yX5_within.desc).map (fun d => d.parameters.length) = some 3 := by decide +kernel
theorem mX5_within_s : Cond.static yX5_within ∈ TB := TB_of (List.mem_append_right _ (List.mem_of_getElem? (i := 276) (by decide +kernel))) rfl
theorem cw_X5_66 : CWS RX5 66 yX5_within cX5_within 3 (some .boolean) 3 := ⟨⟨TB_of (List.mem_append_right _ (List.mem_of_getElem? (i := 275) (by decide +kernel))) rfl, mX5_within_i, mX5_within_c, mX5_within_d⟩, mX5_within_s⟩
theorem mX5_isCell_i : Cond.initialized yX5_isCell.cls ∈ TB := TB_of (List.mem_append_right _ (List.mem_of_getElem? (i := 1) (by decide +kernel))) rfl
theorem mX5_isCell_c : Cond.code yX5_isCell cX5_isCell 1 (some .boolean) ∈ TB := TB_of (List.mem_append_right _ (List.mem_of_getElem? (i := 280) (by decide +kernel))) rfl
theorem mX5_isCell_d : yX5_isCell.cls ≠ "java/lang/invoke/MethodHandle" ∧ yX5_isCell.cls ≠ "java/lang/invoke/VarHandle" ∧ (parseMethodDescriptor yX5_isCell.desc).map (fun d => d.parameters.length) = some 1 := by decide +kernel
theorem mX5_isCell_s : Cond.static yX5_isCell ∈ TB := TB_of (List.mem_append_right _ (List.mem_of_getElem? (i := 279) (by decide +kernel))) rfl
theorem cw_X5_70 : CWS RX5 70 yX5_isCell cX5_isCell 1 (some .boolean) 1 := ⟨⟨TB_of (List.mem_append_right _ (List.mem_of_getElem? (i := 278) (by decide +kernel))) rfl, mX5_isCell_i, mX5_isCell_c, mX5_isCell_d⟩, mX5_isCell_s⟩
theorem cs_X5_73 : Cond.constant RX5 73 (-1000000001) ∈ TB := TB_of (List.mem_append_right _ (List.mem_of_getElem? (i := 281) (by decide +kernel))) rfl
theorem fl_X5_74 : FL RX5 74 4 11 := ⟨_, _, _, rfl, by decide, TB_of (List.mem_append_right _ (List.mem_of_getElem? (i := 82) (by decide +kernel))) rfl, rfl⟩
theorem cs_X5_78 : Cond.constant RX5 78 (-1000000003) ∈ TB := TB_of (List.mem_append_right _ (List.mem_of_getElem? (i := 282) (by decide +kernel))) rfl
theorem mX4_add_i : Cond.initialized yX4_add.cls ∈ TB := TB_of (List.mem_append_right _ (List.mem_of_getElem? (i := 3) (by decide +kernel))) rfl
theorem mX4_add_c : Cond.code yX4_add cX4_add 6 (some .int) ∈ TB := TB_of (List.mem_append_right _ (List.mem_of_getElem? (i := 286) (by decide +kernel))) rfl
theorem mX4_add_d : yX4_add.cls ≠ "java/lang/invoke/MethodHandle" ∧ yX4_add.cls ≠ "java/lang/invoke/VarHandle" ∧ (parseMethodDescriptor yX4_add.desc).map (fun d => d.parameters.length) = some 4 := by decide +kernel
theorem mX4_add_n : Cond.instanceMethod yX4_add ∈ TB := TB_of (List.mem_append_right _ (List.mem_of_getElem? (i := 284) (by decide +kernel))) rfl
theorem mX4_add_v : Cond.selects yX4_add.cls yX4_add yX4_add ∈ TB := TB_of (List.mem_append_right _ (List.mem_of_getElem? (i := 285) (by decide +kernel))) rfl
theorem cw_X5_79 : CWV RX5 79 4 yX4_add cX4_add 6 (some .int) 4 := ⟨⟨TB_of (List.mem_append_right _ (List.mem_of_getElem? (i := 283) (by decide +kernel))) rfl, mX4_add_i, mX4_add_c, mX4_add_d⟩, mX4_add_n, mX4_add_v, _, _, rfl⟩
theorem mX5_isMark_i : Cond.initialized yX5_isMark.cls ∈ TB := TB_of (List.mem_append_right _ (List.mem_of_getElem? (i := 1) (by decide +kernel))) rfl
theorem mX5_isMark_c : Cond.code yX5_isMark cX5_isMark 2 (some .boolean) ∈ TB := TB_of (List.mem_append_right _ (List.mem_of_getElem? (i := 295) (by decide +kernel))) rfl
theorem mX5_isMark_d : yX5_isMark.cls ≠ "java/lang/invoke/MethodHandle" ∧ yX5_isMark.cls ≠ "java/lang/invoke/VarHandle" ∧ (parseMethodDescriptor yX5_isMark.desc).map (fun d => d.parameters.length) = some 1 := by decide +kernel
theorem mX5_isMark_n : Cond.instanceMethod yX5_isMark ∈ TB := TB_of (List.mem_append_right _ (List.mem_of_getElem? (i := 294) (by decide +kernel))) rfl
theorem mX5_isMark_v : Cond.selects yX5_isMark.cls yX5_isMark yX5_isMark ∈ TB := TB_of (List.mem_append_left _ (List.mem_of_getElem? (i := 0) (by decide +kernel))) rfl
theorem cw_X5_83 : CWV RX5 83 5 yX5_isMark cX5_isMark 2 (some .boolean) 1 := ⟨⟨TB_of (List.mem_append_right _ (List.mem_of_getElem? (i := 292) (by decide +kernel))) rfl, mX5_isMark_i, mX5_isMark_c, mX5_isMark_d⟩, mX5_isMark_n, mX5_isMark_v, _, _, rfl⟩
theorem fl_X5_86 : FL RX5 86 4 4 := ⟨_, _, _, rfl, by decide, TB_of (List.mem_append_right _ (List.mem_of_getElem? (i := 69) (by decide +kernel))) rfl, rfl⟩
theorem fl_X5_89 : FL RX5 89 4 5 := ⟨_, _, _, rfl, by decide, TB_of (List.mem_append_right _ (List.mem_of_getElem? (i := 71) (by decide +kernel))) rfl, rfl⟩
theorem fl_X5_92 : FL RX5 92 4 6 := ⟨_, _, _, rfl, by decide, TB_of (List.mem_append_right _ (List.mem_of_getElem? (i := 73) (by decide +kernel))) rfl, rfl⟩
theorem fl_X5_95 : FL RX5 95 4 7 := ⟨_, _, _, rfl, by decide, TB_of (List.mem_append_right _ (List.mem_of_getElem? (i := 75) (by decide +kernel))) rfl, rfl⟩
theorem fl_X5_98 : FL RX5 98 4 8 := ⟨_, _, _, rfl, by decide, TB_of (List.mem_append_right _ (List.mem_of_getElem? (i := 77) (by decide +kernel))) rfl, rfl⟩
theorem cw_X5_101 : CWV RX5 101 4 yX4_shows cX4_shows 3 (some .int) 1 := ⟨⟨TB_of (List.mem_append_right _ (List.mem_of_getElem? (i := 296) (by decide +kernel))) rfl, mX4_shows_i, mX4_shows_c, mX4_shows_d⟩, mX4_shows_n, mX4_shows_v, _, _, rfl⟩
theorem cw_X5_105 : CWV RX5 105 4 yX4_sinks cX4_sinks 3 (some .int) 1 := ⟨⟨TB_of (List.mem_append_right _ (List.mem_of_getElem? (i := 323) (by decide +kernel))) rfl, mX4_sinks_i, mX4_sinks_c, mX4_sinks_d⟩, mX4_sinks_n, mX4_sinks_v, _, _, rfl⟩
theorem cw_X5_108 : CWV RX5 108 4 yX4_fades cX4_fades 2 (some .int) 1 := ⟨⟨TB_of (List.mem_append_right _ (List.mem_of_getElem? (i := 327) (by decide +kernel))) rfl, mX4_fades_i, mX4_fades_c, mX4_fades_d⟩, mX4_fades_n, mX4_fades_v, _, _, rfl⟩
theorem mX5_worthOf_i : Cond.initialized yX5_worthOf.cls ∈ TB := TB_of (List.mem_append_right _ (List.mem_of_getElem? (i := 1) (by decide +kernel))) rfl
theorem mX5_worthOf_c : Cond.code yX5_worthOf cX5_worthOf 3 (some .int) ∈ TB := TB_of (List.mem_append_right _ (List.mem_of_getElem? (i := 333) (by decide +kernel))) rfl
theorem mX5_worthOf_d : yX5_worthOf.cls ≠ "java/lang/invoke/MethodHandle" ∧ yX5_worthOf.cls ≠ "java/lang/invoke/VarHandle" ∧ (parseMethodDescriptor yX5_worthOf.desc).map (fun d => d.parameters.length) = some 3 := by decide +kernel
theorem mX5_worthOf_s : Cond.static yX5_worthOf ∈ TB := TB_of (List.mem_append_right _ (List.mem_of_getElem? (i := 332) (by decide +kernel))) rfl
theorem cw_X5_111 : CWS RX5 111 yX5_worthOf cX5_worthOf 3 (some .int) 3 := ⟨⟨TB_of (List.mem_append_right _ (List.mem_of_getElem? (i := 331) (by decide +kernel))) rfl, mX5_worthOf_i, mX5_worthOf_c, mX5_worthOf_d⟩, mX5_worthOf_s⟩
theorem mX5_isOf_i : Cond.initialized yX5_isOf.cls ∈ TB := TB_of (List.mem_append_right _ (List.mem_of_getElem? (i := 1) (by decide +kernel))) rfl
theorem mX5_isOf_c : Cond.code yX5_isOf cX5_isOf 4 (some .boolean) ∈ TB := TB_of (List.mem_append_right _ (List.mem_of_getElem? (i := 340) (by decide +kernel))) rfl
theorem mX5_isOf_d : yX5_isOf.cls ≠ "java/lang/invoke/MethodHandle" ∧ yX5_isOf.cls ≠ "java/lang/invoke/VarHandle" ∧ (parseMethodDescriptor yX5_isOf.desc).map (fun d => d.parameters.length) = some 2 := by decide +kernel
theorem mX5_isOf_s : Cond.static yX5_isOf ∈ TB := TB_of (List.mem_append_right _ (List.mem_of_getElem? (i := 339) (by decide +kernel))) rfl
theorem cw_X5_115 : CWS RX5 115 yX5_isOf cX5_isOf 4 (some .boolean) 2 := ⟨⟨TB_of (List.mem_append_right _ (List.mem_of_getElem? (i := 338) (by decide +kernel))) rfl, mX5_isOf_i, mX5_isOf_c, mX5_isOf_d⟩, mX5_isOf_s⟩
theorem cs_X5_119 : Cond.constant RX5 119 (-1000000012) ∈ TB := TB_of (List.mem_append_right _ (List.mem_of_getElem? (i := 343) (by decide +kernel))) rfl
theorem mX5_replaced_i : Cond.initialized yX5_replaced.cls ∈ TB := TB_of (List.mem_append_right _ (List.mem_of_getElem? (i := 1) (by decide +kernel))) rfl
theorem mX5_replaced_c : Cond.code yX5_replaced cX5_replaced 5 (some .int) ∈ TB := TB_of (List.mem_append_right _ (List.mem_of_getElem? (i := 354) (by decide +kernel))) rfl
theorem mX5_replaced_d : yX5_replaced.cls ≠ "java/lang/invoke/MethodHandle" ∧ yX5_replaced.cls ≠ "java/lang/invoke/VarHandle" ∧ (parseMethodDescriptor yX5_replaced.desc).map (fun d => d.parameters.length) = some 4 := by decide +kernel
theorem mX5_replaced_s : Cond.static yX5_replaced ∈ TB := TB_of (List.mem_append_right _ (List.mem_of_getElem? (i := 353) (by decide +kernel))) rfl
theorem cw_X5_120 : CWS RX5 120 yX5_replaced cX5_replaced 5 (some .int) 4 := ⟨⟨TB_of (List.mem_append_right _ (List.mem_of_getElem? (i := 352) (by decide +kernel))) rfl, mX5_replaced_i, mX5_replaced_c, mX5_replaced_d⟩, mX5_replaced_s⟩
theorem mX4_moveTo_i : Cond.initialized yX4_moveTo.cls ∈ TB := TB_of (List.mem_append_right _ (List.mem_of_getElem? (i := 3) (by decide +kernel))) rfl
theorem mX4_moveTo_c : Cond.code yX4_moveTo cX4_moveTo 4 (some .int) ∈ TB := TB_of (List.mem_append_right _ (List.mem_of_getElem? (i := 358) (by decide +kernel))) rfl
theorem mX4_moveTo_d : yX4_moveTo.cls ≠ "java/lang/invoke/MethodHandle" ∧ yX4_moveTo.cls ≠ "java/lang/invoke/VarHandle" ∧ (parseMethodDescriptor yX4_moveTo.desc).map (fun d => d.parameters.length) = some 2 := by decide +kernel
theorem mX4_moveTo_n : Cond.instanceMethod yX4_moveTo ∈ TB := TB_of (List.mem_append_right _ (List.mem_of_getElem? (i := 356) (by decide +kernel))) rfl
theorem mX4_moveTo_v : Cond.selects yX4_moveTo.cls yX4_moveTo yX4_moveTo ∈ TB := TB_of (List.mem_append_right _ (List.mem_of_getElem? (i := 357) (by decide +kernel))) rfl
theorem cw_X5_124 : CWV RX5 124 4 yX4_moveTo cX4_moveTo 4 (some .int) 2 := ⟨⟨TB_of (List.mem_append_right _ (List.mem_of_getElem? (i := 355) (by decide +kernel))) rfl, mX4_moveTo_i, mX4_moveTo_c, mX4_moveTo_d⟩, mX4_moveTo_n, mX4_moveTo_v, _, _, rfl⟩
theorem fl_X5_128 : FL RX5 128 4 1 := ⟨_, _, _, rfl, by decide, TB_of (List.mem_append_right _ (List.mem_of_getElem? (i := 64) (by decide +kernel))) rfl, rfl⟩
theorem fl_X5_131 : FL RX5 131 4 2 := ⟨_, _, _, rfl, by decide, TB_of (List.mem_append_right _ (List.mem_of_getElem? (i := 66) (by decide +kernel))) rfl, rfl⟩
theorem mX4_setIn_i : Cond.initialized yX4_setIn.cls ∈ TB := TB_of (List.mem_append_right _ (List.mem_of_getElem? (i := 3) (by decide +kernel))) rfl
theorem mX4_setIn_c : Cond.code yX4_setIn cX4_setIn 4 (some .int) ∈ TB := TB_of (List.mem_append_right _ (List.mem_of_getElem? (i := 370) (by decide +kernel))) rfl
theorem mX4_setIn_d : yX4_setIn.cls ≠ "java/lang/invoke/MethodHandle" ∧ yX4_setIn.cls ≠ "java/lang/invoke/VarHandle" ∧ (parseMethodDescriptor yX4_setIn.desc).map (fun d => d.parameters.length) = some 1 := by decide +kernel
theorem mX4_setIn_n : Cond.instanceMethod yX4_setIn ∈ TB := TB_of (List.mem_append_right _ (List.mem_of_getElem? (i := 368) (by decide +kernel))) rfl
theorem mX4_setIn_v : Cond.selects yX4_setIn.cls yX4_setIn yX4_setIn ∈ TB := TB_of (List.mem_append_right _ (List.mem_of_getElem? (i := 369) (by decide +kernel))) rfl
theorem cw_X5_134 : CWV RX5 134 4 yX4_setIn cX4_setIn 4 (some .int) 1 := ⟨⟨TB_of (List.mem_append_right _ (List.mem_of_getElem? (i := 367) (by decide +kernel))) rfl, mX4_setIn_i, mX4_setIn_c, mX4_setIn_d⟩, mX4_setIn_n, mX4_setIn_v, _, _, rfl⟩
theorem mX4_showIn_i : Cond.initialized yX4_showIn.cls ∈ TB := TB_of (List.mem_append_right _ (List.mem_of_getElem? (i := 3) (by decide +kernel))) rfl
theorem mX4_showIn_c : Cond.code yX4_showIn cX4_showIn 4 (some .int) ∈ TB := TB_of (List.mem_append_right _ (List.mem_of_getElem? (i := 374) (by decide +kernel))) rfl
theorem mX4_showIn_d : yX4_showIn.cls ≠ "java/lang/invoke/MethodHandle" ∧ yX4_showIn.cls ≠ "java/lang/invoke/VarHandle" ∧ (parseMethodDescriptor yX4_showIn.desc).map (fun d => d.parameters.length) = some 1 := by decide +kernel
theorem mX4_showIn_n : Cond.instanceMethod yX4_showIn ∈ TB := TB_of (List.mem_append_right _ (List.mem_of_getElem? (i := 372) (by decide +kernel))) rfl
theorem mX4_showIn_v : Cond.selects yX4_showIn.cls yX4_showIn yX4_showIn ∈ TB := TB_of (List.mem_append_right _ (List.mem_of_getElem? (i := 373) (by decide +kernel))) rfl
theorem cw_X5_137 : CWV RX5 137 4 yX4_showIn cX4_showIn 4 (some .int) 1 := ⟨⟨TB_of (List.mem_append_right _ (List.mem_of_getElem? (i := 371) (by decide +kernel))) rfl, mX4_showIn_i, mX4_showIn_c, mX4_showIn_d⟩, mX4_showIn_n, mX4_showIn_v, _, _, rfl⟩
theorem gs_X5_140 : Cond.fieldLink RX5 140 RX5 "LEAST_RULE" "[I" ∈ TB := TB_of (List.mem_append_right _ (List.mem_of_getElem? (i := 380) (by decide +kernel))) rfl
theorem gs_X5_143 : Cond.fieldLink RX5 143 RX5 "MOST_RULE" "[I" ∈ TB := TB_of (List.mem_append_right _ (List.mem_of_getElem? (i := 382) (by decide +kernel))) rfl
theorem fl_X5_146 : FL RX5 146 4 9 := ⟨_, _, _, rfl, by decide, TB_of (List.mem_append_right _ (List.mem_of_getElem? (i := 79) (by decide +kernel))) rfl, rfl⟩
theorem cw_X5_149 : CWS RX5 149 yJ9_min_7cf53 cJ9_min_7cf53 2 (some .int) 2 := ⟨⟨TB_of (List.mem_append_right _ (List.mem_of_getElem? (i := 315) (by decide +kernel))) rfl, mJ9_min_7cf53_i, mJ9_min_7cf53_c, mJ9_min_7cf53_d⟩, mJ9_min_7cf53_s⟩
theorem cw_X5_154 : CWV RX5 154 4 yX4_draw cX4_draw 1 (some .int) 0 := ⟨⟨TB_of (List.mem_append_right _ (List.mem_of_getElem? (i := 388) (by decide +kernel))) rfl, mX4_draw_i, mX4_draw_c, mX4_draw_d⟩, mX4_draw_n, mX4_draw_v, _, _, rfl⟩
theorem fl_X5_158 : FL RX5 158 4 15 := ⟨_, _, _, rfl, by decide, TB_of (List.mem_append_right _ (List.mem_of_getElem? (i := 91) (by decide +kernel))) rfl, rfl⟩
theorem cs_X5_161 : Cond.constant RX5 161 (-1000000005) ∈ TB := TB_of (List.mem_append_right _ (List.mem_of_getElem? (i := 401) (by decide +kernel))) rfl
theorem mJ6_bitCount_0f7a4_i : Cond.initialized yJ6_bitCount_0f7a4.cls ∈ TB := TB_of (List.mem_append_right _ (List.mem_of_getElem? (i := 10) (by decide +kernel))) rfl
theorem mJ6_bitCount_0f7a4_c : Cond.code yJ6_bitCount_0f7a4 cJ6_bitCount_0f7a4 1 (some .int) ∈ TB := TB_of (List.mem_append_right _ (List.mem_of_getElem? (i := 404) (by decide +kernel))) rfl
theorem mJ6_bitCount_0f7a4_d : yJ6_bitCount_0f7a4.cls ≠ "java/lang/invoke/MethodHandle" ∧ yJ6_bitCount_0f7a4.cls ≠ "java/lang/invoke/VarHandle" ∧ (parseMethodDescriptor yJ6_bitCount_0f7a4.desc).map (fun d => d.parameters.length) = some 1 := by decide +kernel
theorem mJ6_bitCount_0f7a4_s : Cond.static yJ6_bitCount_0f7a4 ∈ TB := TB_of (List.mem_append_right _ (List.mem_of_getElem? (i := 403) (by decide +kernel))) rfl
theorem cw_X5_162 : CWS RX5 162 yJ6_bitCount_0f7a4 cJ6_bitCount_0f7a4 1 (some .int) 1 := ⟨⟨TB_of (List.mem_append_right _ (List.mem_of_getElem? (i := 402) (by decide +kernel))) rfl, mJ6_bitCount_0f7a4_i, mJ6_bitCount_0f7a4_c, mJ6_bitCount_0f7a4_d⟩, mJ6_bitCount_0f7a4_s⟩
theorem mX5_sumOf_i : Cond.initialized yX5_sumOf.cls ∈ TB := TB_of (List.mem_append_right _ (List.mem_of_getElem? (i := 1) (by decide +kernel))) rfl
theorem mX5_sumOf_c : Cond.code yX5_sumOf cX5_sumOf 4 (some .int) ∈ TB := TB_of (List.mem_append_right _ (List.mem_of_getElem? (i := 411) (by decide +kernel))) rfl
theorem mX5_sumOf_d : yX5_sumOf.cls ≠ "java/lang/invoke/MethodHandle" ∧ yX5_sumOf.cls ≠ "java/lang/invoke/VarHandle" ∧ (parseMethodDescriptor yX5_sumOf.desc).map (fun d => d.parameters.length) = some 1 := by decide +kernel
theorem mX5_sumOf_n : Cond.instanceMethod yX5_sumOf ∈ TB := TB_of (List.mem_append_right _ (List.mem_of_getElem? (i := 410) (by decide +kernel))) rfl
theorem mX5_sumOf_v : Cond.selects yX5_sumOf.cls yX5_sumOf yX5_sumOf ∈ TB := TB_of (List.mem_append_left _ (List.mem_of_getElem? (i := 1) (by decide +kernel))) rfl
theorem cw_X5_167 : CWV RX5 167 5 yX5_sumOf cX5_sumOf 4 (some .int) 1 := ⟨⟨TB_of (List.mem_append_right _ (List.mem_of_getElem? (i := 408) (by decide +kernel))) rfl, mX5_sumOf_i, mX5_sumOf_c, mX5_sumOf_d⟩, mX5_sumOf_n, mX5_sumOf_v, _, _, rfl⟩
theorem cw_X5_170 : CWV RX5 170 4 yX4_breathOn cX4_breathOn 5 (some .int) 1 := ⟨⟨TB_of (List.mem_append_right _ (List.mem_of_getElem? (i := 416) (by decide +kernel))) rfl, mX4_breathOn_i, mX4_breathOn_c, mX4_breathOn_d⟩, mX4_breathOn_n, mX4_breathOn_v, _, _, rfl⟩
theorem cw_X5_173 : CWV RX5 173 4 yX4_digOut cX4_digOut 6 (some .int) 2 := ⟨⟨TB_of (List.mem_append_right _ (List.mem_of_getElem? (i := 426) (by decide +kernel))) rfl, mX4_digOut_i, mX4_digOut_c, mX4_digOut_d⟩, mX4_digOut_n, mX4_digOut_v, _, _, rfl⟩
theorem fl_X5_176 : FL RX5 176 4 12 := ⟨_, _, _, rfl, by decide, TB_of (List.mem_append_right _ (List.mem_of_getElem? (i := 85) (by decide +kernel))) rfl, rfl⟩
theorem fl_X5_179 : FL RX5 179 4 14 := ⟨_, _, _, rfl, by decide, TB_of (List.mem_append_right _ (List.mem_of_getElem? (i := 89) (by decide +kernel))) rfl, rfl⟩
theorem mX4_pass_i : Cond.initialized yX4_pass.cls ∈ TB := TB_of (List.mem_append_right _ (List.mem_of_getElem? (i := 3) (by decide +kernel))) rfl
theorem mX4_pass_c : Cond.code yX4_pass cX4_pass 3 none ∈ TB := TB_of (List.mem_append_right _ (List.mem_of_getElem? (i := 437) (by decide +kernel))) rfl
theorem mX4_pass_d : yX4_pass.cls ≠ "java/lang/invoke/MethodHandle" ∧ yX4_pass.cls ≠ "java/lang/invoke/VarHandle" ∧ (parseMethodDescriptor yX4_pass.desc).map (fun d => d.parameters.length) = some 1 := by decide +kernel
theorem mX4_pass_n : Cond.instanceMethod yX4_pass ∈ TB := TB_of (List.mem_append_right _ (List.mem_of_getElem? (i := 435) (by decide +kernel))) rfl
theorem mX4_pass_v : Cond.selects yX4_pass.cls yX4_pass yX4_pass ∈ TB := TB_of (List.mem_append_right _ (List.mem_of_getElem? (i := 436) (by decide +kernel))) rfl
theorem cw_X5_182 : CWV RX5 182 4 yX4_pass cX4_pass 3 none 1 := ⟨⟨TB_of (List.mem_append_right _ (List.mem_of_getElem? (i := 434) (by decide +kernel))) rfl, mX4_pass_i, mX4_pass_c, mX4_pass_d⟩, mX4_pass_n, mX4_pass_v, _, _, rfl⟩
theorem mX4_total_i : Cond.initialized yX4_total.cls ∈ TB := TB_of (List.mem_append_right _ (List.mem_of_getElem? (i := 3) (by decide +kernel))) rfl
theorem mX4_total_c : Cond.code yX4_total cX4_total 2 (some .int) ∈ TB := TB_of (List.mem_append_right _ (List.mem_of_getElem? (i := 457) (by decide +kernel))) rfl
theorem mX4_total_d : yX4_total.cls ≠ "java/lang/invoke/MethodHandle" ∧ yX4_total.cls ≠ "java/lang/invoke/VarHandle" ∧ (parseMethodDescriptor yX4_total.desc).map (fun d => d.parameters.length) = some 1 := by decide +kernel
theorem mX4_total_n : Cond.instanceMethod yX4_total ∈ TB := TB_of (List.mem_append_right _ (List.mem_of_getElem? (i := 455) (by decide +kernel))) rfl
theorem mX4_total_v : Cond.selects yX4_total.cls yX4_total yX4_total ∈ TB := TB_of (List.mem_append_right _ (List.mem_of_getElem? (i := 456) (by decide +kernel))) rfl
theorem cw_X5_186 : CWV RX5 186 4 yX4_total cX4_total 2 (some .int) 1 := ⟨⟨TB_of (List.mem_append_right _ (List.mem_of_getElem? (i := 454) (by decide +kernel))) rfl, mX4_total_i, mX4_total_c, mX4_total_d⟩, mX4_total_n, mX4_total_v, _, _, rfl⟩
theorem mX4_narrowest_i : Cond.initialized yX4_narrowest.cls ∈ TB := TB_of (List.mem_append_right _ (List.mem_of_getElem? (i := 3) (by decide +kernel))) rfl
theorem mX4_narrowest_c : Cond.code yX4_narrowest cX4_narrowest 3 (some .int) ∈ TB := TB_of (List.mem_append_right _ (List.mem_of_getElem? (i := 466) (by decide +kernel))) rfl
theorem mX4_narrowest_d : yX4_narrowest.cls ≠ "java/lang/invoke/MethodHandle" ∧ yX4_narrowest.cls ≠ "java/lang/invoke/VarHandle" ∧ (parseMethodDescriptor yX4_narrowest.desc).map (fun d => d.parameters.length) = some 0 := by decide +kernel
theorem mX4_narrowest_n : Cond.instanceMethod yX4_narrowest ∈ TB := TB_of (List.mem_append_right _ (List.mem_of_getElem? (i := 464) (by decide +kernel))) rfl
theorem mX4_narrowest_v : Cond.selects yX4_narrowest.cls yX4_narrowest yX4_narrowest ∈ TB := TB_of (List.mem_append_right _ (List.mem_of_getElem? (i := 465) (by decide +kernel))) rfl
theorem cw_X5_189 : CWV RX5 189 4 yX4_narrowest cX4_narrowest 3 (some .int) 0 := ⟨⟨TB_of (List.mem_append_right _ (List.mem_of_getElem? (i := 463) (by decide +kernel))) rfl, mX4_narrowest_i, mX4_narrowest_c, mX4_narrowest_d⟩, mX4_narrowest_n, mX4_narrowest_v, _, _, rfl⟩
theorem mX4_legibleSet_i : Cond.initialized yX4_legibleSet.cls ∈ TB := TB_of (List.mem_append_right _ (List.mem_of_getElem? (i := 3) (by decide +kernel))) rfl
theorem mX4_legibleSet_c : Cond.code yX4_legibleSet cX4_legibleSet 3 (some .int) ∈ TB := TB_of (List.mem_append_right _ (List.mem_of_getElem? (i := 470) (by decide +kernel))) rfl
theorem mX4_legibleSet_d : yX4_legibleSet.cls ≠ "java/lang/invoke/MethodHandle" ∧ yX4_legibleSet.cls ≠ "java/lang/invoke/VarHandle" ∧ (parseMethodDescriptor yX4_legibleSet.desc).map (fun d => d.parameters.length) = some 0 := by decide +kernel
theorem mX4_legibleSet_n : Cond.instanceMethod yX4_legibleSet ∈ TB := TB_of (List.mem_append_right _ (List.mem_of_getElem? (i := 468) (by decide +kernel))) rfl
theorem mX4_legibleSet_v : Cond.selects yX4_legibleSet.cls yX4_legibleSet yX4_legibleSet ∈ TB := TB_of (List.mem_append_right _ (List.mem_of_getElem? (i := 469) (by decide +kernel))) rfl
theorem cw_X5_192 : CWV RX5 192 4 yX4_legibleSet cX4_legibleSet 3 (some .int) 0 := ⟨⟨TB_of (List.mem_append_right _ (List.mem_of_getElem? (i := 467) (by decide +kernel))) rfl, mX4_legibleSet_i, mX4_legibleSet_c, mX4_legibleSet_d⟩, mX4_legibleSet_n, mX4_legibleSet_v, _, _, rfl⟩
theorem mX4_become_i : Cond.initialized yX4_become.cls ∈ TB := TB_of (List.mem_append_right _ (List.mem_of_getElem? (i := 3) (by decide +kernel))) rfl
theorem mX4_become_c : Cond.code yX4_become cX4_become 2 none ∈ TB := TB_of (List.mem_append_right _ (List.mem_of_getElem? (i := 482) (by decide +kernel))) rfl
theorem mX4_become_d : yX4_become.cls ≠ "java/lang/invoke/MethodHandle" ∧ yX4_become.cls ≠ "java/lang/invoke/VarHandle" ∧ (parseMethodDescriptor yX4_become.desc).map (fun d => d.parameters.length) = some 1 := by decide +kernel
theorem mX4_become_n : Cond.instanceMethod yX4_become ∈ TB := TB_of (List.mem_append_right _ (List.mem_of_getElem? (i := 480) (by decide +kernel))) rfl
theorem mX4_become_v : Cond.selects yX4_become.cls yX4_become yX4_become ∈ TB := TB_of (List.mem_append_right _ (List.mem_of_getElem? (i := 481) (by decide +kernel))) rfl
theorem cw_X5_195 : CWV RX5 195 4 yX4_become cX4_become 2 none 1 := ⟨⟨TB_of (List.mem_append_right _ (List.mem_of_getElem? (i := 479) (by decide +kernel))) rfl, mX4_become_i, mX4_become_c, mX4_become_d⟩, mX4_become_n, mX4_become_v, _, _, rfl⟩
theorem mX4_leaveOnly_i : Cond.initialized yX4_leaveOnly.cls ∈ TB := TB_of (List.mem_append_right _ (List.mem_of_getElem? (i := 3) (by decide +kernel))) rfl
theorem mX4_leaveOnly_c : Cond.code yX4_leaveOnly cX4_leaveOnly 2 none ∈ TB := TB_of (List.mem_append_right _ (List.mem_of_getElem? (i := 493) (by decide +kernel))) rfl
theorem mX4_leaveOnly_d : yX4_leaveOnly.cls ≠ "java/lang/invoke/MethodHandle" ∧ yX4_leaveOnly.cls ≠ "java/lang/invoke/VarHandle" ∧ (parseMethodDescriptor yX4_leaveOnly.desc).map (fun d => d.parameters.length) = some 1 := by decide +kernel
theorem mX4_leaveOnly_n : Cond.instanceMethod yX4_leaveOnly ∈ TB := TB_of (List.mem_append_right _ (List.mem_of_getElem? (i := 491) (by decide +kernel))) rfl
theorem mX4_leaveOnly_v : Cond.selects yX4_leaveOnly.cls yX4_leaveOnly yX4_leaveOnly ∈ TB := TB_of (List.mem_append_right _ (List.mem_of_getElem? (i := 492) (by decide +kernel))) rfl
theorem cw_X5_199 : CWV RX5 199 4 yX4_leaveOnly cX4_leaveOnly 2 none 1 := ⟨⟨TB_of (List.mem_append_right _ (List.mem_of_getElem? (i := 490) (by decide +kernel))) rfl, mX4_leaveOnly_i, mX4_leaveOnly_c, mX4_leaveOnly_d⟩, mX4_leaveOnly_n, mX4_leaveOnly_v, _, _, rfl⟩
theorem cw_X5_202 : CWV RX5 202 4 yX4_isLegible cX4_isLegible 2 (some .boolean) 1 := ⟨⟨TB_of (List.mem_append_right _ (List.mem_of_getElem? (i := 494) (by decide +kernel))) rfl, mX4_isLegible_i, mX4_isLegible_c, mX4_isLegible_d⟩, mX4_isLegible_n, mX4_isLegible_v, _, _, rfl⟩
theorem mX4_leaveNone_i : Cond.initialized yX4_leaveNone.cls ∈ TB := TB_of (List.mem_append_right _ (List.mem_of_getElem? (i := 3) (by decide +kernel))) rfl
theorem mX4_leaveNone_c : Cond.code yX4_leaveNone cX4_leaveNone 1 none ∈ TB := TB_of (List.mem_append_right _ (List.mem_of_getElem? (i := 502) (by decide +kernel))) rfl
theorem mX4_leaveNone_d : yX4_leaveNone.cls ≠ "java/lang/invoke/MethodHandle" ∧ yX4_leaveNone.cls ≠ "java/lang/invoke/VarHandle" ∧ (parseMethodDescriptor yX4_leaveNone.desc).map (fun d => d.parameters.length) = some 0 := by decide +kernel
theorem mX4_leaveNone_n : Cond.instanceMethod yX4_leaveNone ∈ TB := TB_of (List.mem_append_right _ (List.mem_of_getElem? (i := 500) (by decide +kernel))) rfl
theorem mX4_leaveNone_v : Cond.selects yX4_leaveNone.cls yX4_leaveNone yX4_leaveNone ∈ TB := TB_of (List.mem_append_right _ (List.mem_of_getElem? (i := 501) (by decide +kernel))) rfl
theorem cw_X5_205 : CWV RX5 205 4 yX4_leaveNone cX4_leaveNone 1 none 0 := ⟨⟨TB_of (List.mem_append_right _ (List.mem_of_getElem? (i := 499) (by decide +kernel))) rfl, mX4_leaveNone_i, mX4_leaveNone_c, mX4_leaveNone_d⟩, mX4_leaveNone_n, mX4_leaveNone_v, _, _, rfl⟩
theorem cs_X5_208 : Cond.constant RX5 208 (99999) ∈ TB := TB_of (List.mem_append_right _ (List.mem_of_getElem? (i := 519) (by decide +kernel))) rfl
theorem fl_X5_209 : FL RX5 209 4 17 := ⟨_, _, _, rfl, by decide, TB_of (List.mem_append_right _ (List.mem_of_getElem? (i := 95) (by decide +kernel))) rfl, rfl⟩
theorem mX5_isSheet_i : Cond.initialized yX5_isSheet.cls ∈ TB := TB_of (List.mem_append_right _ (List.mem_of_getElem? (i := 1) (by decide +kernel))) rfl
theorem mX5_isSheet_c : Cond.code yX5_isSheet cX5_isSheet 1 (some .boolean) ∈ TB := TB_of (List.mem_append_right _ (List.mem_of_getElem? (i := 526) (by decide +kernel))) rfl
theorem mX5_isSheet_d : yX5_isSheet.cls ≠ "java/lang/invoke/MethodHandle" ∧ yX5_isSheet.cls ≠ "java/lang/invoke/VarHandle" ∧ (parseMethodDescriptor yX5_isSheet.desc).map (fun d => d.parameters.length) = some 1 := by decide +kernel
theorem mX5_isSheet_s : Cond.static yX5_isSheet ∈ TB := TB_of (List.mem_append_right _ (List.mem_of_getElem? (i := 525) (by decide +kernel))) rfl
theorem cw_X5_212 : CWS RX5 212 yX5_isSheet cX5_isSheet 1 (some .boolean) 1 := ⟨⟨TB_of (List.mem_append_right _ (List.mem_of_getElem? (i := 524) (by decide +kernel))) rfl, mX5_isSheet_i, mX5_isSheet_c, mX5_isSheet_d⟩, mX5_isSheet_s⟩
theorem mX5_isMissing_i : Cond.initialized yX5_isMissing.cls ∈ TB := TB_of (List.mem_append_right _ (List.mem_of_getElem? (i := 1) (by decide +kernel))) rfl
theorem mX5_isMissing_c : Cond.code yX5_isMissing cX5_isMissing 2 (some .boolean) ∈ TB := TB_of (List.mem_append_right _ (List.mem_of_getElem? (i := 530) (by decide +kernel))) rfl
theorem mX5_isMissing_d : yX5_isMissing.cls ≠ "java/lang/invoke/MethodHandle" ∧ yX5_isMissing.cls ≠ "java/lang/invoke/VarHandle" ∧ (parseMethodDescriptor yX5_isMissing.desc).map (fun d => d.parameters.length) = some 1 := by decide +kernel
theorem mX5_isMissing_n : Cond.instanceMethod yX5_isMissing ∈ TB := TB_of (List.mem_append_right _ (List.mem_of_getElem? (i := 529) (by decide +kernel))) rfl
theorem mX5_isMissing_v : Cond.selects yX5_isMissing.cls yX5_isMissing yX5_isMissing ∈ TB := TB_of (List.mem_append_left _ (List.mem_of_getElem? (i := 2) (by decide +kernel))) rfl
theorem cw_X5_215 : CWV RX5 215 5 yX5_isMissing cX5_isMissing 2 (some .boolean) 1 := ⟨⟨TB_of (List.mem_append_right _ (List.mem_of_getElem? (i := 527) (by decide +kernel))) rfl, mX5_isMissing_i, mX5_isMissing_c, mX5_isMissing_d⟩, mX5_isMissing_n, mX5_isMissing_v, _, _, rfl⟩
theorem cs_X5_218 : Cond.constant RX5 218 (-1000000011) ∈ TB := TB_of (List.mem_append_right _ (List.mem_of_getElem? (i := 531) (by decide +kernel))) rfl
theorem mX5_sumDifferences_i : Cond.initialized yX5_sumDifferences.cls ∈ TB := TB_of (List.mem_append_right _ (List.mem_of_getElem? (i := 1) (by decide +kernel))) rfl
theorem mX5_sumDifferences_c : Cond.code yX5_sumDifferences cX5_sumDifferences 4 none ∈ TB := TB_of (List.mem_append_right _ (List.mem_of_getElem? (i := 535) (by decide +kernel))) rfl
theorem mX5_sumDifferences_d : yX5_sumDifferences.cls ≠ "java/lang/invoke/MethodHandle" ∧ yX5_sumDifferences.cls ≠ "java/lang/invoke/VarHandle" ∧ (parseMethodDescriptor yX5_sumDifferences.desc).map (fun d => d.parameters.length) = some 1 := by decide +kernel
theorem mX5_sumDifferences_n : Cond.instanceMethod yX5_sumDifferences ∈ TB := TB_of (List.mem_append_right _ (List.mem_of_getElem? (i := 534) (by decide +kernel))) rfl
theorem mX5_sumDifferences_v : Cond.selects yX5_sumDifferences.cls yX5_sumDifferences yX5_sumDifferences ∈ TB := TB_of (List.mem_append_left _ (List.mem_of_getElem? (i := 3) (by decide +kernel))) rfl
theorem cw_X5_219 : CWV RX5 219 5 yX5_sumDifferences cX5_sumDifferences 4 none 1 := ⟨⟨TB_of (List.mem_append_right _ (List.mem_of_getElem? (i := 532) (by decide +kernel))) rfl, mX5_sumDifferences_i, mX5_sumDifferences_c, mX5_sumDifferences_d⟩, mX5_sumDifferences_n, mX5_sumDifferences_v, _, _, rfl⟩
theorem fl_X5_223 : FL RX5 223 4 10 := ⟨_, _, _, rfl, by decide, TB_of (List.mem_append_right _ (List.mem_of_getElem? (i := 81) (by decide +kernel))) rfl, rfl⟩
theorem fl_X5_226 : FL RX5 226 4 13 := ⟨_, _, _, rfl, by decide, TB_of (List.mem_append_right _ (List.mem_of_getElem? (i := 87) (by decide +kernel))) rfl, rfl⟩
theorem cw_X5_229 : CWV RX5 229 3 yX3_gives cX3_gives 9 (some .int) 5 := ⟨⟨TB_of (List.mem_append_right _ (List.mem_of_getElem? (i := 544) (by decide +kernel))) rfl, mX3_gives_i, mX3_gives_c, mX3_gives_d⟩, mX3_gives_n, mX3_gives_v, _, _, rfl⟩
theorem fl_X5_233 : FL RX5 233 5 7 := ⟨_, _, _, rfl, by decide, TB_of (List.mem_append_right _ (List.mem_of_getElem? (i := 235) (by decide +kernel))) rfl, rfl⟩
theorem mX5_putBytes_i : Cond.initialized yX5_putBytes.cls ∈ TB := TB_of (List.mem_append_right _ (List.mem_of_getElem? (i := 1) (by decide +kernel))) rfl
theorem mX5_putBytes_c : Cond.code yX5_putBytes cX5_putBytes 3 none ∈ TB := TB_of (List.mem_append_right _ (List.mem_of_getElem? (i := 556) (by decide +kernel))) rfl
theorem mX5_putBytes_d : yX5_putBytes.cls ≠ "java/lang/invoke/MethodHandle" ∧ yX5_putBytes.cls ≠ "java/lang/invoke/VarHandle" ∧ (parseMethodDescriptor yX5_putBytes.desc).map (fun d => d.parameters.length) = some 1 := by decide +kernel
theorem mX5_putBytes_n : Cond.instanceMethod yX5_putBytes ∈ TB := TB_of (List.mem_append_right _ (List.mem_of_getElem? (i := 555) (by decide +kernel))) rfl
theorem mX5_putBytes_v : Cond.selects yX5_putBytes.cls yX5_putBytes yX5_putBytes ∈ TB := TB_of (List.mem_append_left _ (List.mem_of_getElem? (i := 4) (by decide +kernel))) rfl
theorem cw_X5_236 : CWV RX5 236 5 yX5_putBytes cX5_putBytes 3 none 1 := ⟨⟨TB_of (List.mem_append_right _ (List.mem_of_getElem? (i := 553) (by decide +kernel))) rfl, mX5_putBytes_i, mX5_putBytes_c, mX5_putBytes_d⟩, mX5_putBytes_n, mX5_putBytes_v, _, _, rfl⟩
theorem mX0_faultOf_i : Cond.initialized yX0_faultOf.cls ∈ TB := TB_of (List.mem_append_right _ (List.mem_of_getElem? (i := 5) (by decide +kernel))) rfl
theorem mX0_faultOf_c : Cond.code yX0_faultOf cX0_faultOf 3 (some .int) ∈ TB := TB_of (List.mem_append_right _ (List.mem_of_getElem? (i := 568) (by decide +kernel))) rfl
theorem mX0_faultOf_d : yX0_faultOf.cls ≠ "java/lang/invoke/MethodHandle" ∧ yX0_faultOf.cls ≠ "java/lang/invoke/VarHandle" ∧ (parseMethodDescriptor yX0_faultOf.desc).map (fun d => d.parameters.length) = some 2 := by decide +kernel
theorem mX0_faultOf_n : Cond.instanceMethod yX0_faultOf ∈ TB := TB_of (List.mem_append_right _ (List.mem_of_getElem? (i := 566) (by decide +kernel))) rfl
theorem mX0_faultOf_v : Cond.selects yX0_faultOf.cls yX0_faultOf yX0_faultOf ∈ TB := TB_of (List.mem_append_right _ (List.mem_of_getElem? (i := 567) (by decide +kernel))) rfl
theorem cw_X5_239 : CWV RX5 239 0 yX0_faultOf cX0_faultOf 3 (some .int) 2 := ⟨⟨TB_of (List.mem_append_right _ (List.mem_of_getElem? (i := 565) (by decide +kernel))) rfl, mX0_faultOf_i, mX0_faultOf_c, mX0_faultOf_d⟩, mX0_faultOf_n, mX0_faultOf_v, _, _, rfl⟩
theorem fl_X5_243 : FL RX5 243 4 16 := ⟨_, _, _, rfl, by decide, TB_of (List.mem_append_right _ (List.mem_of_getElem? (i := 93) (by decide +kernel))) rfl, rfl⟩
theorem mX3_take_i : Cond.initialized yX3_take.cls ∈ TB := TB_of (List.mem_append_right _ (List.mem_of_getElem? (i := 2) (by decide +kernel))) rfl
theorem mX3_take_c : Cond.code yX3_take cX3_take 3 none ∈ TB := TB_of (List.mem_append_right _ (List.mem_of_getElem? (i := 742) (by decide +kernel))) rfl
theorem mX3_take_d : yX3_take.cls ≠ "java/lang/invoke/MethodHandle" ∧ yX3_take.cls ≠ "java/lang/invoke/VarHandle" ∧ (parseMethodDescriptor yX3_take.desc).map (fun d => d.parameters.length) = some 2 := by decide +kernel
theorem mX3_take_n : Cond.instanceMethod yX3_take ∈ TB := TB_of (List.mem_append_right _ (List.mem_of_getElem? (i := 740) (by decide +kernel))) rfl
theorem mX3_take_v : Cond.selects yX3_take.cls yX3_take yX3_take ∈ TB := TB_of (List.mem_append_right _ (List.mem_of_getElem? (i := 741) (by decide +kernel))) rfl
theorem cw_X5_246 : CWV RX5 246 3 yX3_take cX3_take 3 none 2 := ⟨⟨TB_of (List.mem_append_right _ (List.mem_of_getElem? (i := 739) (by decide +kernel))) rfl, mX3_take_i, mX3_take_c, mX3_take_d⟩, mX3_take_n, mX3_take_v, _, _, rfl⟩
theorem fl_X5_250 : FL RX5 250 0 2 := ⟨_, _, _, rfl, by decide, TB_of (List.mem_append_right _ (List.mem_of_getElem? (i := 145) (by decide +kernel))) rfl, rfl⟩
theorem fl_X5_253 : FL RX5 253 3 2 := ⟨_, _, _, rfl, by decide, TB_of (List.mem_append_right _ (List.mem_of_getElem? (i := 36) (by decide +kernel))) rfl, rfl⟩
theorem fl_X5_255 : FL RX5 255 3 3 := ⟨_, _, _, rfl, by decide, TB_of (List.mem_append_right _ (List.mem_of_getElem? (i := 38) (by decide +kernel))) rfl, rfl⟩
theorem cs_X5_258 : Cond.constant RX5 258 (-1000000014) ∈ TB := TB_of (List.mem_append_right _ (List.mem_of_getElem? (i := 757) (by decide +kernel))) rfl
theorem mX1_clear_i : Cond.initialized yX1_clear.cls ∈ TB := TB_of (List.mem_append_right _ (List.mem_of_getElem? (i := 6) (by decide +kernel))) rfl
theorem mX1_clear_c : Cond.code yX1_clear cX1_clear 3 none ∈ TB := TB_of (List.mem_append_right _ (List.mem_of_getElem? (i := 761) (by decide +kernel))) rfl
theorem mX1_clear_d : yX1_clear.cls ≠ "java/lang/invoke/MethodHandle" ∧ yX1_clear.cls ≠ "java/lang/invoke/VarHandle" ∧ (parseMethodDescriptor yX1_clear.desc).map (fun d => d.parameters.length) = some 2 := by decide +kernel
theorem mX1_clear_n : Cond.instanceMethod yX1_clear ∈ TB := TB_of (List.mem_append_right _ (List.mem_of_getElem? (i := 759) (by decide +kernel))) rfl
theorem mX1_clear_v : Cond.selects yX1_clear.cls yX1_clear yX1_clear ∈ TB := TB_of (List.mem_append_right _ (List.mem_of_getElem? (i := 760) (by decide +kernel))) rfl
theorem cw_X5_259 : CWV RX5 259 1 yX1_clear cX1_clear 3 none 2 := ⟨⟨TB_of (List.mem_append_right _ (List.mem_of_getElem? (i := 758) (by decide +kernel))) rfl, mX1_clear_i, mX1_clear_c, mX1_clear_d⟩, mX1_clear_n, mX1_clear_v, _, _, rfl⟩
theorem fl_X5_263 : FL RX5 263 1 2 := ⟨_, _, _, rfl, by decide, TB_of (List.mem_append_right _ (List.mem_of_getElem? (i := 189) (by decide +kernel))) rfl, rfl⟩
theorem cs_X5_266 : Cond.constant RX5 266 (-1000000013) ∈ TB := TB_of (List.mem_append_right _ (List.mem_of_getElem? (i := 767) (by decide +kernel))) rfl
theorem fl_X5_267 : FL RX5 267 1 1 := ⟨_, _, _, rfl, by decide, TB_of (List.mem_append_right _ (List.mem_of_getElem? (i := 187) (by decide +kernel))) rfl, rfl⟩
theorem cs_X5_270 : Cond.constant RX5 270 (-99999) ∈ TB := TB_of (List.mem_append_right _ (List.mem_of_getElem? (i := 768) (by decide +kernel))) rfl
theorem fl_X5_271 : FL RX5 271 1 0 := ⟨_, _, _, rfl, by decide, TB_of (List.mem_append_right _ (List.mem_of_getElem? (i := 185) (by decide +kernel))) rfl, rfl⟩
theorem mX5_held_i : Cond.initialized yX5_held.cls ∈ TB := TB_of (List.mem_append_right _ (List.mem_of_getElem? (i := 1) (by decide +kernel))) rfl
theorem mX5_held_c : Cond.code yX5_held cX5_held 2 (some .int) ∈ TB := TB_of (List.mem_append_right _ (List.mem_of_getElem? (i := 314) (by decide +kernel))) rfl
theorem mX5_held_d : yX5_held.cls ≠ "java/lang/invoke/MethodHandle" ∧ yX5_held.cls ≠ "java/lang/invoke/VarHandle" ∧ (parseMethodDescriptor yX5_held.desc).map (fun d => d.parameters.length) = some 2 := by decide +kernel
theorem mX5_held_s : Cond.static yX5_held ∈ TB := TB_of (List.mem_append_right _ (List.mem_of_getElem? (i := 313) (by decide +kernel))) rfl
theorem cw_X5_274 : CWS RX5 274 yX5_held cX5_held 2 (some .int) 2 := ⟨⟨TB_of (List.mem_append_right _ (List.mem_of_getElem? (i := 773) (by decide +kernel))) rfl, mX5_held_i, mX5_held_c, mX5_held_d⟩, mX5_held_s⟩
theorem mX1_hasRun_i : Cond.initialized yX1_hasRun.cls ∈ TB := TB_of (List.mem_append_right _ (List.mem_of_getElem? (i := 6) (by decide +kernel))) rfl
theorem mX1_hasRun_c : Cond.code yX1_hasRun cX1_hasRun 3 (some .boolean) ∈ TB := TB_of (List.mem_append_right _ (List.mem_of_getElem? (i := 785) (by decide +kernel))) rfl
theorem mX1_hasRun_d : yX1_hasRun.cls ≠ "java/lang/invoke/MethodHandle" ∧ yX1_hasRun.cls ≠ "java/lang/invoke/VarHandle" ∧ (parseMethodDescriptor yX1_hasRun.desc).map (fun d => d.parameters.length) = some 2 := by decide +kernel
theorem mX1_hasRun_n : Cond.instanceMethod yX1_hasRun ∈ TB := TB_of (List.mem_append_right _ (List.mem_of_getElem? (i := 783) (by decide +kernel))) rfl
theorem mX1_hasRun_v : Cond.selects yX1_hasRun.cls yX1_hasRun yX1_hasRun ∈ TB := TB_of (List.mem_append_right _ (List.mem_of_getElem? (i := 784) (by decide +kernel))) rfl
theorem cw_X5_277 : CWV RX5 277 1 yX1_hasRun cX1_hasRun 3 (some .boolean) 2 := ⟨⟨TB_of (List.mem_append_right _ (List.mem_of_getElem? (i := 782) (by decide +kernel))) rfl, mX1_hasRun_i, mX1_hasRun_c, mX1_hasRun_d⟩, mX1_hasRun_n, mX1_hasRun_v, _, _, rfl⟩
theorem cw_X5_280 : Cond.methodLink RX5 280 arraycopyName ∈ TB := TB_of (List.mem_append_right _ (List.mem_of_getElem? (i := 786) (by decide +kernel))) rfl
theorem mX5_isSlot_i : Cond.initialized yX5_isSlot.cls ∈ TB := TB_of (List.mem_append_right _ (List.mem_of_getElem? (i := 1) (by decide +kernel))) rfl
theorem mX5_isSlot_c : Cond.code yX5_isSlot cX5_isSlot 1 (some .boolean) ∈ TB := TB_of (List.mem_append_right _ (List.mem_of_getElem? (i := 793) (by decide +kernel))) rfl
theorem mX5_isSlot_d : yX5_isSlot.cls ≠ "java/lang/invoke/MethodHandle" ∧ yX5_isSlot.cls ≠ "java/lang/invoke/VarHandle" ∧ (parseMethodDescriptor yX5_isSlot.desc).map (fun d => d.parameters.length) = some 1 := by decide +kernel
theorem mX5_isSlot_s : Cond.static yX5_isSlot ∈ TB := TB_of (List.mem_append_right _ (List.mem_of_getElem? (i := 792) (by decide +kernel))) rfl
theorem cw_X5_286 : CWS RX5 286 yX5_isSlot cX5_isSlot 1 (some .boolean) 1 := ⟨⟨TB_of (List.mem_append_right _ (List.mem_of_getElem? (i := 791) (by decide +kernel))) rfl, mX5_isSlot_i, mX5_isSlot_c, mX5_isSlot_d⟩, mX5_isSlot_s⟩
theorem fl_X5_289 : FL RX5 289 2 1 := ⟨_, _, _, rfl, by decide, TB_of (List.mem_append_right _ (List.mem_of_getElem? (i := 207) (by decide +kernel))) rfl, rfl⟩
theorem mX2_takeMark_i : Cond.initialized yX2_takeMark.cls ∈ TB := TB_of (List.mem_append_right _ (List.mem_of_getElem? (i := 7) (by decide +kernel))) rfl
theorem mX2_takeMark_c : Cond.code yX2_takeMark cX2_takeMark 4 none ∈ TB := TB_of (List.mem_append_right _ (List.mem_of_getElem? (i := 797) (by decide +kernel))) rfl
theorem mX2_takeMark_d : yX2_takeMark.cls ≠ "java/lang/invoke/MethodHandle" ∧ yX2_takeMark.cls ≠ "java/lang/invoke/VarHandle" ∧ (parseMethodDescriptor yX2_takeMark.desc).map (fun d => d.parameters.length) = some 3 := by decide +kernel
theorem mX2_takeMark_n : Cond.instanceMethod yX2_takeMark ∈ TB := TB_of (List.mem_append_right _ (List.mem_of_getElem? (i := 795) (by decide +kernel))) rfl
theorem mX2_takeMark_v : Cond.selects yX2_takeMark.cls yX2_takeMark yX2_takeMark ∈ TB := TB_of (List.mem_append_right _ (List.mem_of_getElem? (i := 796) (by decide +kernel))) rfl
theorem cw_X5_292 : CWV RX5 292 2 yX2_takeMark cX2_takeMark 4 none 3 := ⟨⟨TB_of (List.mem_append_right _ (List.mem_of_getElem? (i := 794) (by decide +kernel))) rfl, mX2_takeMark_i, mX2_takeMark_c, mX2_takeMark_d⟩, mX2_takeMark_n, mX2_takeMark_v, _, _, rfl⟩
theorem fl_X5_296 : FL RX5 296 2 0 := ⟨_, _, _, rfl, by decide, TB_of (List.mem_append_right _ (List.mem_of_getElem? (i := 205) (by decide +kernel))) rfl, rfl⟩
theorem mX1_become_i : Cond.initialized yX1_become.cls ∈ TB := TB_of (List.mem_append_right _ (List.mem_of_getElem? (i := 6) (by decide +kernel))) rfl
theorem mX1_become_c : Cond.code yX1_become cX1_become 2 none ∈ TB := TB_of (List.mem_append_right _ (List.mem_of_getElem? (i := 801) (by decide +kernel))) rfl
theorem mX1_become_d : yX1_become.cls ≠ "java/lang/invoke/MethodHandle" ∧ yX1_become.cls ≠ "java/lang/invoke/VarHandle" ∧ (parseMethodDescriptor yX1_become.desc).map (fun d => d.parameters.length) = some 1 := by decide +kernel
theorem mX1_become_n : Cond.instanceMethod yX1_become ∈ TB := TB_of (List.mem_append_right _ (List.mem_of_getElem? (i := 799) (by decide +kernel))) rfl
theorem mX1_become_v : Cond.selects yX1_become.cls yX1_become yX1_become ∈ TB := TB_of (List.mem_append_right _ (List.mem_of_getElem? (i := 800) (by decide +kernel))) rfl
theorem cw_X5_300 : CWV RX5 300 1 yX1_become cX1_become 2 none 1 := ⟨⟨TB_of (List.mem_append_right _ (List.mem_of_getElem? (i := 798) (by decide +kernel))) rfl, mX1_become_i, mX1_become_c, mX1_become_d⟩, mX1_become_n, mX1_become_v, _, _, rfl⟩
theorem fl_X5_302 : FL RX5 302 2 2 := ⟨_, _, _, rfl, by decide, TB_of (List.mem_append_right _ (List.mem_of_getElem? (i := 208) (by decide +kernel))) rfl, rfl⟩
theorem fl_X5_305 : FL RX5 305 2 3 := ⟨_, _, _, rfl, by decide, TB_of (List.mem_append_right _ (List.mem_of_getElem? (i := 210) (by decide +kernel))) rfl, rfl⟩
theorem fl_X5_307 : FL RX5 307 2 4 := ⟨_, _, _, rfl, by decide, TB_of (List.mem_append_right _ (List.mem_of_getElem? (i := 212) (by decide +kernel))) rfl, rfl⟩
theorem fl_X5_309 : FL RX5 309 2 5 := ⟨_, _, _, rfl, by decide, TB_of (List.mem_append_right _ (List.mem_of_getElem? (i := 214) (by decide +kernel))) rfl, rfl⟩
theorem cs_X5_311 : Cond.constant RX5 311 (-1000000002) ∈ TB := TB_of (List.mem_append_right _ (List.mem_of_getElem? (i := 815) (by decide +kernel))) rfl
theorem fl_X5_312 : FL RX5 312 5 11 := ⟨_, _, _, rfl, by decide, TB_of (List.mem_append_right _ (List.mem_of_getElem? (i := 239) (by decide +kernel))) rfl, rfl⟩
theorem fl_X5_315 : FL RX5 315 5 4 := ⟨_, _, _, rfl, by decide, TB_of (List.mem_append_right _ (List.mem_of_getElem? (i := 232) (by decide +kernel))) rfl, rfl⟩
theorem cw_X5_319 : CWS RX5 319 yJ9_max_7cf53 cJ9_max_7cf53 2 (some .int) 2 := ⟨⟨TB_of (List.mem_append_right _ (List.mem_of_getElem? (i := 318) (by decide +kernel))) rfl, mJ9_max_7cf53_i, mJ9_max_7cf53_c, mJ9_max_7cf53_d⟩, mJ9_max_7cf53_s⟩
theorem gs_X5_322 : Cond.fieldLink RX5 322 RX5 "RIGHT_ABOVE" "[I" ∈ TB := TB_of (List.mem_append_right _ (List.mem_of_getElem? (i := 341) (by decide +kernel))) rfl
theorem cw_X5_325 : CWS RX5 325 yJ7_fill_53178 cJ7_fill_53178 4 none 2 := ⟨⟨TB_of (List.mem_append_right _ (List.mem_of_getElem? (i := 536) (by decide +kernel))) rfl, mJ7_fill_53178_i, mJ7_fill_53178_c, mJ7_fill_53178_d⟩, mJ7_fill_53178_s⟩
theorem mJ9_abs_0f7a4_i : Cond.initialized yJ9_abs_0f7a4.cls ∈ TB := TB_of (List.mem_append_right _ (List.mem_of_getElem? (i := 9) (by decide +kernel))) rfl
theorem mJ9_abs_0f7a4_c : Cond.code yJ9_abs_0f7a4 cJ9_abs_0f7a4 1 (some .int) ∈ TB := TB_of (List.mem_append_right _ (List.mem_of_getElem? (i := 539) (by decide +kernel))) rfl
theorem mJ9_abs_0f7a4_d : yJ9_abs_0f7a4.cls ≠ "java/lang/invoke/MethodHandle" ∧ yJ9_abs_0f7a4.cls ≠ "java/lang/invoke/VarHandle" ∧ (parseMethodDescriptor yJ9_abs_0f7a4.desc).map (fun d => d.parameters.length) = some 1 := by decide +kernel
theorem mJ9_abs_0f7a4_s : Cond.static yJ9_abs_0f7a4 ∈ TB := TB_of (List.mem_append_right _ (List.mem_of_getElem? (i := 538) (by decide +kernel))) rfl
theorem cw_X5_331 : CWS RX5 331 yJ9_abs_0f7a4 cJ9_abs_0f7a4 1 (some .int) 1 := ⟨⟨TB_of (List.mem_append_right _ (List.mem_of_getElem? (i := 537) (by decide +kernel))) rfl, mJ9_abs_0f7a4_i, mJ9_abs_0f7a4_c, mJ9_abs_0f7a4_d⟩, mJ9_abs_0f7a4_s⟩
theorem fl_X6_7 : FL RX6 7 6 0 := ⟨_, _, _, rfl, by decide, TB_of (List.mem_append_right _ (List.mem_of_getElem? (i := 842) (by decide +kernel))) rfl, rfl⟩
theorem fl_X6_13 : FL RX6 13 6 1 := ⟨_, _, _, rfl, by decide, TB_of (List.mem_append_right _ (List.mem_of_getElem? (i := 843) (by decide +kernel))) rfl, rfl⟩
theorem fl_X6_16 : FL RX6 16 6 2 := ⟨_, _, _, rfl, by decide, TB_of (List.mem_append_right _ (List.mem_of_getElem? (i := 844) (by decide +kernel))) rfl, rfl⟩
theorem fl_X6_19 : FL RX6 19 6 4 := ⟨_, _, _, rfl, by decide, TB_of (List.mem_append_right _ (List.mem_of_getElem? (i := 846) (by decide +kernel))) rfl, rfl⟩
theorem fl_X6_22 : FL RX6 22 6 5 := ⟨_, _, _, rfl, by decide, TB_of (List.mem_append_right _ (List.mem_of_getElem? (i := 847) (by decide +kernel))) rfl, rfl⟩
theorem fl_X6_25 : FL RX6 25 6 6 := ⟨_, _, _, rfl, by decide, TB_of (List.mem_append_right _ (List.mem_of_getElem? (i := 848) (by decide +kernel))) rfl, rfl⟩
theorem fl_X6_28 : FL RX6 28 6 7 := ⟨_, _, _, rfl, by decide, TB_of (List.mem_append_right _ (List.mem_of_getElem? (i := 849) (by decide +kernel))) rfl, rfl⟩
theorem fl_X6_31 : FL RX6 31 6 8 := ⟨_, _, _, rfl, by decide, TB_of (List.mem_append_right _ (List.mem_of_getElem? (i := 850) (by decide +kernel))) rfl, rfl⟩
theorem fl_X6_34 : FL RX6 34 6 9 := ⟨_, _, _, rfl, by decide, TB_of (List.mem_append_right _ (List.mem_of_getElem? (i := 851) (by decide +kernel))) rfl, rfl⟩
theorem fl_X6_37 : FL RX6 37 6 10 := ⟨_, _, _, rfl, by decide, TB_of (List.mem_append_right _ (List.mem_of_getElem? (i := 852) (by decide +kernel))) rfl, rfl⟩
theorem fl_X6_40 : FL RX6 40 6 11 := ⟨_, _, _, rfl, by decide, TB_of (List.mem_append_right _ (List.mem_of_getElem? (i := 853) (by decide +kernel))) rfl, rfl⟩
theorem fl_X6_43 : FL RX6 43 6 12 := ⟨_, _, _, rfl, by decide, TB_of (List.mem_append_right _ (List.mem_of_getElem? (i := 854) (by decide +kernel))) rfl, rfl⟩
theorem fl_X6_46 : FL RX6 46 6 13 := ⟨_, _, _, rfl, by decide, TB_of (List.mem_append_right _ (List.mem_of_getElem? (i := 855) (by decide +kernel))) rfl, rfl⟩
theorem fl_X6_49 : FL RX6 49 6 25 := ⟨_, _, _, rfl, by decide, TB_of (List.mem_append_right _ (List.mem_of_getElem? (i := 867) (by decide +kernel))) rfl, rfl⟩
theorem fl_X6_52 : FL RX6 52 6 26 := ⟨_, _, _, rfl, by decide, TB_of (List.mem_append_right _ (List.mem_of_getElem? (i := 868) (by decide +kernel))) rfl, rfl⟩
theorem fl_X6_55 : FL RX6 55 6 27 := ⟨_, _, _, rfl, by decide, TB_of (List.mem_append_right _ (List.mem_of_getElem? (i := 869) (by decide +kernel))) rfl, rfl⟩
theorem fl_X6_58 : FL RX6 58 6 28 := ⟨_, _, _, rfl, by decide, TB_of (List.mem_append_right _ (List.mem_of_getElem? (i := 870) (by decide +kernel))) rfl, rfl⟩
theorem fl_X6_61 : FL RX6 61 6 30 := ⟨_, _, _, rfl, by decide, TB_of (List.mem_append_right _ (List.mem_of_getElem? (i := 872) (by decide +kernel))) rfl, rfl⟩
theorem cs_X6_64 : Cond.constant RX6 64 (-1000000005) ∈ TB := TB_of (List.mem_append_right _ (List.mem_of_getElem? (i := 1080) (by decide +kernel))) rfl
theorem mX6_isIn_i : Cond.initialized yX6_isIn.cls ∈ TB := TB_of (List.mem_append_right _ (List.mem_of_getElem? (i := 8) (by decide +kernel))) rfl
theorem mX6_isIn_c : Cond.code yX6_isIn cX6_isIn 6 (some .boolean) ∈ TB := TB_of (List.mem_append_right _ (List.mem_of_getElem? (i := 943) (by decide +kernel))) rfl
theorem mX6_isIn_d : yX6_isIn.cls ≠ "java/lang/invoke/MethodHandle" ∧ yX6_isIn.cls ≠ "java/lang/invoke/VarHandle" ∧ (parseMethodDescriptor yX6_isIn.desc).map (fun d => d.parameters.length) = some 3 := by decide +kernel
theorem mX6_isIn_s : Cond.static yX6_isIn ∈ TB := TB_of (List.mem_append_right _ (List.mem_of_getElem? (i := 942) (by decide +kernel))) rfl
theorem cw_X6_65 : CWS RX6 65 yX6_isIn cX6_isIn 6 (some .boolean) 3 := ⟨⟨TB_of (List.mem_append_right _ (List.mem_of_getElem? (i := 941) (by decide +kernel))) rfl, mX6_isIn_i, mX6_isIn_c, mX6_isIn_d⟩, mX6_isIn_s⟩
theorem cs_X6_69 : Cond.constant RX6 69 (1103515245) ∈ TB := TB_of (List.mem_append_right _ (List.mem_of_getElem? (i := 1070) (by decide +kernel))) rfl
theorem cl_X6_70 : Cond.constantLong RX6 70 (5) ∈ TB := TB_of (List.mem_append_right _ (List.mem_of_getElem? (i := 940) (by decide +kernel))) rfl
theorem mX6_of_i : Cond.initialized yX6_of.cls ∈ TB := TB_of (List.mem_append_right _ (List.mem_of_getElem? (i := 8) (by decide +kernel))) rfl
theorem mX6_of_c : Cond.code yX6_of cX6_of 3 (some .int) ∈ TB := TB_of (List.mem_append_right _ (List.mem_of_getElem? (i := 987) (by decide +kernel))) rfl
theorem mX6_of_d : yX6_of.cls ≠ "java/lang/invoke/MethodHandle" ∧ yX6_of.cls ≠ "java/lang/invoke/VarHandle" ∧ (parseMethodDescriptor yX6_of.desc).map (fun d => d.parameters.length) = some 2 := by decide +kernel
theorem mX6_of_n : Cond.instanceMethod yX6_of ∈ TB := TB_of (List.mem_append_right _ (List.mem_of_getElem? (i := 986) (by decide +kernel))) rfl
theorem mX6_of_v : Cond.selects yX6_of.cls yX6_of yX6_of ∈ TB := TB_of (List.mem_append_left _ (List.mem_of_getElem? (i := 14) (by decide +kernel))) rfl
theorem cw_X6_72 : CWV RX6 72 6 yX6_of cX6_of 3 (some .int) 2 := ⟨⟨TB_of (List.mem_append_right _ (List.mem_of_getElem? (i := 984) (by decide +kernel))) rfl, mX6_of_i, mX6_of_c, mX6_of_d⟩, mX6_of_n, mX6_of_v, _, _, rfl⟩
theorem mX6_counts_i : Cond.initialized yX6_counts.cls ∈ TB := TB_of (List.mem_append_right _ (List.mem_of_getElem? (i := 8) (by decide +kernel))) rfl
theorem mX6_counts_c : Cond.code yX6_counts cX6_counts 4 (some .int) ∈ TB := TB_of (List.mem_append_right _ (List.mem_of_getElem? (i := 979) (by decide +kernel))) rfl
theorem mX6_counts_d : yX6_counts.cls ≠ "java/lang/invoke/MethodHandle" ∧ yX6_counts.cls ≠ "java/lang/invoke/VarHandle" ∧ (parseMethodDescriptor yX6_counts.desc).map (fun d => d.parameters.length) = some 1 := by decide +kernel
theorem mX6_counts_n : Cond.instanceMethod yX6_counts ∈ TB := TB_of (List.mem_append_right _ (List.mem_of_getElem? (i := 978) (by decide +kernel))) rfl
theorem mX6_counts_v : Cond.selects yX6_counts.cls yX6_counts yX6_counts ∈ TB := TB_of (List.mem_append_left _ (List.mem_of_getElem? (i := 12) (by decide +kernel))) rfl
theorem cw_X6_76 : CWV RX6 76 6 yX6_counts cX6_counts 4 (some .int) 1 := ⟨⟨TB_of (List.mem_append_right _ (List.mem_of_getElem? (i := 976) (by decide +kernel))) rfl, mX6_counts_i, mX6_counts_c, mX6_counts_d⟩, mX6_counts_n, mX6_counts_v, _, _, rfl⟩
theorem mX6_within_i : Cond.initialized yX6_within.cls ∈ TB := TB_of (List.mem_append_right _ (List.mem_of_getElem? (i := 8) (by decide +kernel))) rfl
theorem mX6_within_c : Cond.code yX6_within cX6_within 2 (some .int) ∈ TB := TB_of (List.mem_append_right _ (List.mem_of_getElem? (i := 990) (by decide +kernel))) rfl
theorem mX6_within_d : yX6_within.cls ≠ "java/lang/invoke/MethodHandle" ∧ yX6_within.cls ≠ "java/lang/invoke/VarHandle" ∧ (parseMethodDescriptor yX6_within.desc).map (fun d => d.parameters.length) = some 2 := by decide +kernel
theorem mX6_within_s : Cond.static yX6_within ∈ TB := TB_of (List.mem_append_right _ (List.mem_of_getElem? (i := 989) (by decide +kernel))) rfl
theorem cw_X6_80 : CWS RX6 80 yX6_within cX6_within 2 (some .int) 2 := ⟨⟨TB_of (List.mem_append_right _ (List.mem_of_getElem? (i := 988) (by decide +kernel))) rfl, mX6_within_i, mX6_within_c, mX6_within_d⟩, mX6_within_s⟩
theorem mX6_marksIn_i : Cond.initialized yX6_marksIn.cls ∈ TB := TB_of (List.mem_append_right _ (List.mem_of_getElem? (i := 8) (by decide +kernel))) rfl
theorem mX6_marksIn_c : Cond.code yX6_marksIn cX6_marksIn 4 (some .int) ∈ TB := TB_of (List.mem_append_right _ (List.mem_of_getElem? (i := 994) (by decide +kernel))) rfl
theorem mX6_marksIn_d : yX6_marksIn.cls ≠ "java/lang/invoke/MethodHandle" ∧ yX6_marksIn.cls ≠ "java/lang/invoke/VarHandle" ∧ (parseMethodDescriptor yX6_marksIn.desc).map (fun d => d.parameters.length) = some 1 := by decide +kernel
theorem mX6_marksIn_n : Cond.instanceMethod yX6_marksIn ∈ TB := TB_of (List.mem_append_right _ (List.mem_of_getElem? (i := 993) (by decide +kernel))) rfl
theorem mX6_marksIn_v : Cond.selects yX6_marksIn.cls yX6_marksIn yX6_marksIn ∈ TB := TB_of (List.mem_append_left _ (List.mem_of_getElem? (i := 15) (by decide +kernel))) rfl
theorem cw_X6_83 : CWV RX6 83 6 yX6_marksIn cX6_marksIn 4 (some .int) 1 := ⟨⟨TB_of (List.mem_append_right _ (List.mem_of_getElem? (i := 991) (by decide +kernel))) rfl, mX6_marksIn_i, mX6_marksIn_c, mX6_marksIn_d⟩, mX6_marksIn_n, mX6_marksIn_v, _, _, rfl⟩
theorem mX6_many_i : Cond.initialized yX6_many.cls ∈ TB := TB_of (List.mem_append_right _ (List.mem_of_getElem? (i := 8) (by decide +kernel))) rfl
theorem mX6_many_c : Cond.code yX6_many cX6_many 3 (some .int) ∈ TB := TB_of (List.mem_append_right _ (List.mem_of_getElem? (i := 997) (by decide +kernel))) rfl
theorem mX6_many_d : yX6_many.cls ≠ "java/lang/invoke/MethodHandle" ∧ yX6_many.cls ≠ "java/lang/invoke/VarHandle" ∧ (parseMethodDescriptor yX6_many.desc).map (fun d => d.parameters.length) = some 1 := by decide +kernel
theorem mX6_many_s : Cond.static yX6_many ∈ TB := TB_of (List.mem_append_right _ (List.mem_of_getElem? (i := 996) (by decide +kernel))) rfl
theorem cw_X6_86 : CWS RX6 86 yX6_many cX6_many 3 (some .int) 1 := ⟨⟨TB_of (List.mem_append_right _ (List.mem_of_getElem? (i := 995) (by decide +kernel))) rfl, mX6_many_i, mX6_many_c, mX6_many_d⟩, mX6_many_s⟩
theorem mX6_worked_i : Cond.initialized yX6_worked.cls ∈ TB := TB_of (List.mem_append_right _ (List.mem_of_getElem? (i := 8) (by decide +kernel))) rfl
theorem mX6_worked_c : Cond.code yX6_worked cX6_worked 6 (some .int) ∈ TB := TB_of (List.mem_append_right _ (List.mem_of_getElem? (i := 1001) (by decide +kernel))) rfl
theorem mX6_worked_d : yX6_worked.cls ≠ "java/lang/invoke/MethodHandle" ∧ yX6_worked.cls ≠ "java/lang/invoke/VarHandle" ∧ (parseMethodDescriptor yX6_worked.desc).map (fun d => d.parameters.length) = some 1 := by decide +kernel
theorem mX6_worked_n : Cond.instanceMethod yX6_worked ∈ TB := TB_of (List.mem_append_right _ (List.mem_of_getElem? (i := 1000) (by decide +kernel))) rfl
theorem mX6_worked_v : Cond.selects yX6_worked.cls yX6_worked yX6_worked ∈ TB := TB_of (List.mem_append_left _ (List.mem_of_getElem? (i := 16) (by decide +kernel))) rfl
theorem cw_X6_89 : CWV RX6 89 6 yX6_worked cX6_worked 6 (some .int) 1 := ⟨⟨TB_of (List.mem_append_right _ (List.mem_of_getElem? (i := 998) (by decide +kernel))) rfl, mX6_worked_i, mX6_worked_c, mX6_worked_d⟩, mX6_worked_n, mX6_worked_v, _, _, rfl⟩
theorem mX6_plain_i : Cond.initialized yX6_plain.cls ∈ TB := TB_of (List.mem_append_right _ (List.mem_of_getElem? (i := 8) (by decide +kernel))) rfl
theorem mX6_plain_c : Cond.code yX6_plain cX6_plain 3 (some .int) ∈ TB := TB_of (List.mem_append_right _ (List.mem_of_getElem? (i := 975) (by decide +kernel))) rfl
theorem mX6_plain_d : yX6_plain.cls ≠ "java/lang/invoke/MethodHandle" ∧ yX6_plain.cls ≠ "java/lang/invoke/VarHandle" ∧ (parseMethodDescriptor yX6_plain.desc).map (fun d => d.parameters.length) = some 1 := by decide +kernel
theorem mX6_plain_n : Cond.instanceMethod yX6_plain ∈ TB := TB_of (List.mem_append_right _ (List.mem_of_getElem? (i := 974) (by decide +kernel))) rfl
theorem mX6_plain_v : Cond.selects yX6_plain.cls yX6_plain yX6_plain ∈ TB := TB_of (List.mem_append_left _ (List.mem_of_getElem? (i := 11) (by decide +kernel))) rfl
theorem cw_X6_92 : CWV RX6 92 6 yX6_plain cX6_plain 3 (some .int) 1 := ⟨⟨TB_of (List.mem_append_right _ (List.mem_of_getElem? (i := 972) (by decide +kernel))) rfl, mX6_plain_i, mX6_plain_c, mX6_plain_d⟩, mX6_plain_n, mX6_plain_v, _, _, rfl⟩
theorem mX6_least_i : Cond.initialized yX6_least.cls ∈ TB := TB_of (List.mem_append_right _ (List.mem_of_getElem? (i := 8) (by decide +kernel))) rfl
theorem mX6_least_c : Cond.code yX6_least cX6_least 2 (some .int) ∈ TB := TB_of (List.mem_append_right _ (List.mem_of_getElem? (i := 1007) (by decide +kernel))) rfl
theorem mX6_least_d : yX6_least.cls ≠ "java/lang/invoke/MethodHandle" ∧ yX6_least.cls ≠ "java/lang/invoke/VarHandle" ∧ (parseMethodDescriptor yX6_least.desc).map (fun d => d.parameters.length) = some 2 := by decide +kernel
theorem mX6_least_s : Cond.static yX6_least ∈ TB := TB_of (List.mem_append_right _ (List.mem_of_getElem? (i := 1006) (by decide +kernel))) rfl
theorem cw_X6_95 : CWS RX6 95 yX6_least cX6_least 2 (some .int) 2 := ⟨⟨TB_of (List.mem_append_right _ (List.mem_of_getElem? (i := 1005) (by decide +kernel))) rfl, mX6_least_i, mX6_least_c, mX6_least_d⟩, mX6_least_s⟩
theorem mX6_sets_i : Cond.initialized yX6_sets.cls ∈ TB := TB_of (List.mem_append_right _ (List.mem_of_getElem? (i := 8) (by decide +kernel))) rfl
theorem mX6_sets_c : Cond.code yX6_sets cX6_sets 4 none ∈ TB := TB_of (List.mem_append_right _ (List.mem_of_getElem? (i := 958) (by decide +kernel))) rfl
theorem mX6_sets_d : yX6_sets.cls ≠ "java/lang/invoke/MethodHandle" ∧ yX6_sets.cls ≠ "java/lang/invoke/VarHandle" ∧ (parseMethodDescriptor yX6_sets.desc).map (fun d => d.parameters.length) = some 3 := by decide +kernel
theorem mX6_sets_n : Cond.instanceMethod yX6_sets ∈ TB := TB_of (List.mem_append_right _ (List.mem_of_getElem? (i := 957) (by decide +kernel))) rfl
theorem mX6_sets_v : Cond.selects yX6_sets.cls yX6_sets yX6_sets ∈ TB := TB_of (List.mem_append_left _ (List.mem_of_getElem? (i := 8) (by decide +kernel))) rfl
theorem cw_X6_98 : CWV RX6 98 6 yX6_sets cX6_sets 4 none 3 := ⟨⟨TB_of (List.mem_append_right _ (List.mem_of_getElem? (i := 955) (by decide +kernel))) rfl, mX6_sets_i, mX6_sets_c, mX6_sets_d⟩, mX6_sets_n, mX6_sets_v, _, _, rfl⟩
theorem cl_X6_102 : Cond.constantLong RX6 102 (99) ∈ TB := TB_of (List.mem_append_right _ (List.mem_of_getElem? (i := 944) (by decide +kernel))) rfl
theorem cl_X6_104 : Cond.constantLong RX6 104 (9999) ∈ TB := TB_of (List.mem_append_right _ (List.mem_of_getElem? (i := 945) (by decide +kernel))) rfl
theorem mX6_isCell_i : Cond.initialized yX6_isCell.cls ∈ TB := TB_of (List.mem_append_right _ (List.mem_of_getElem? (i := 8) (by decide +kernel))) rfl
theorem mX6_isCell_c : Cond.code yX6_isCell cX6_isCell 1 (some .boolean) ∈ TB := TB_of (List.mem_append_right _ (List.mem_of_getElem? (i := 948) (by decide +kernel))) rfl
theorem mX6_isCell_d : yX6_isCell.cls ≠ "java/lang/invoke/MethodHandle" ∧ yX6_isCell.cls ≠ "java/lang/invoke/VarHandle" ∧ (parseMethodDescriptor yX6_isCell.desc).map (fun d => d.parameters.length) = some 1 := by decide +kernel
theorem mX6_isCell_s : Cond.static yX6_isCell ∈ TB := TB_of (List.mem_append_right _ (List.mem_of_getElem? (i := 947) (by decide +kernel))) rfl
theorem cw_X6_106 : CWS RX6 106 yX6_isCell cX6_isCell 1 (some .boolean) 1 := ⟨⟨TB_of (List.mem_append_right _ (List.mem_of_getElem? (i := 946) (by decide +kernel))) rfl, mX6_isCell_i, mX6_isCell_c, mX6_isCell_d⟩, mX6_isCell_s⟩
theorem cs_X6_110 : Cond.constant RX6 110 (-1000000001) ∈ TB := TB_of (List.mem_append_right _ (List.mem_of_getElem? (i := 949) (by decide +kernel))) rfl
theorem cs_X6_111 : Cond.constant RX6 111 (-1000000003) ∈ TB := TB_of (List.mem_append_right _ (List.mem_of_getElem? (i := 950) (by decide +kernel))) rfl
theorem mX6_comes_i : Cond.initialized yX6_comes.cls ∈ TB := TB_of (List.mem_append_right _ (List.mem_of_getElem? (i := 8) (by decide +kernel))) rfl
theorem mX6_comes_c : Cond.code yX6_comes cX6_comes 6 none ∈ TB := TB_of (List.mem_append_right _ (List.mem_of_getElem? (i := 954) (by decide +kernel))) rfl
theorem mX6_comes_d : yX6_comes.cls ≠ "java/lang/invoke/MethodHandle" ∧ yX6_comes.cls ≠ "java/lang/invoke/VarHandle" ∧ (parseMethodDescriptor yX6_comes.desc).map (fun d => d.parameters.length) = some 4 := by decide +kernel
theorem mX6_comes_n : Cond.instanceMethod yX6_comes ∈ TB := TB_of (List.mem_append_right _ (List.mem_of_getElem? (i := 953) (by decide +kernel))) rfl
theorem mX6_comes_v : Cond.selects yX6_comes.cls yX6_comes yX6_comes ∈ TB := TB_of (List.mem_append_left _ (List.mem_of_getElem? (i := 7) (by decide +kernel))) rfl
theorem cw_X6_112 : CWV RX6 112 6 yX6_comes cX6_comes 6 none 4 := ⟨⟨TB_of (List.mem_append_right _ (List.mem_of_getElem? (i := 951) (by decide +kernel))) rfl, mX6_comes_i, mX6_comes_c, mX6_comes_d⟩, mX6_comes_n, mX6_comes_v, _, _, rfl⟩
theorem mX6_isMark_i : Cond.initialized yX6_isMark.cls ∈ TB := TB_of (List.mem_append_right _ (List.mem_of_getElem? (i := 8) (by decide +kernel))) rfl
theorem mX6_isMark_c : Cond.code yX6_isMark cX6_isMark 2 (some .boolean) ∈ TB := TB_of (List.mem_append_right _ (List.mem_of_getElem? (i := 966) (by decide +kernel))) rfl
theorem mX6_isMark_d : yX6_isMark.cls ≠ "java/lang/invoke/MethodHandle" ∧ yX6_isMark.cls ≠ "java/lang/invoke/VarHandle" ∧ (parseMethodDescriptor yX6_isMark.desc).map (fun d => d.parameters.length) = some 1 := by decide +kernel
theorem mX6_isMark_n : Cond.instanceMethod yX6_isMark ∈ TB := TB_of (List.mem_append_right _ (List.mem_of_getElem? (i := 965) (by decide +kernel))) rfl
theorem mX6_isMark_v : Cond.selects yX6_isMark.cls yX6_isMark yX6_isMark ∈ TB := TB_of (List.mem_append_left _ (List.mem_of_getElem? (i := 9) (by decide +kernel))) rfl
theorem cw_X6_116 : CWV RX6 116 6 yX6_isMark cX6_isMark 2 (some .boolean) 1 := ⟨⟨TB_of (List.mem_append_right _ (List.mem_of_getElem? (i := 963) (by decide +kernel))) rfl, mX6_isMark_i, mX6_isMark_c, mX6_isMark_d⟩, mX6_isMark_n, mX6_isMark_v, _, _, rfl⟩
theorem cl_X6_119 : Cond.constantLong RX6 119 (8) ∈ TB := TB_of (List.mem_append_right _ (List.mem_of_getElem? (i := 967) (by decide +kernel))) rfl
theorem mX6_shows_i : Cond.initialized yX6_shows.cls ∈ TB := TB_of (List.mem_append_right _ (List.mem_of_getElem? (i := 8) (by decide +kernel))) rfl
theorem mX6_shows_c : Cond.code yX6_shows cX6_shows 4 (some .int) ∈ TB := TB_of (List.mem_append_right _ (List.mem_of_getElem? (i := 971) (by decide +kernel))) rfl
theorem mX6_shows_d : yX6_shows.cls ≠ "java/lang/invoke/MethodHandle" ∧ yX6_shows.cls ≠ "java/lang/invoke/VarHandle" ∧ (parseMethodDescriptor yX6_shows.desc).map (fun d => d.parameters.length) = some 1 := by decide +kernel
theorem mX6_shows_n : Cond.instanceMethod yX6_shows ∈ TB := TB_of (List.mem_append_right _ (List.mem_of_getElem? (i := 970) (by decide +kernel))) rfl
theorem mX6_shows_v : Cond.selects yX6_shows.cls yX6_shows yX6_shows ∈ TB := TB_of (List.mem_append_left _ (List.mem_of_getElem? (i := 10) (by decide +kernel))) rfl
theorem cw_X6_121 : CWV RX6 121 6 yX6_shows cX6_shows 4 (some .int) 1 := ⟨⟨TB_of (List.mem_append_right _ (List.mem_of_getElem? (i := 968) (by decide +kernel))) rfl, mX6_shows_i, mX6_shows_c, mX6_shows_d⟩, mX6_shows_n, mX6_shows_v, _, _, rfl⟩
theorem mX6_sinks_i : Cond.initialized yX6_sinks.cls ∈ TB := TB_of (List.mem_append_right _ (List.mem_of_getElem? (i := 8) (by decide +kernel))) rfl
theorem mX6_sinks_c : Cond.code yX6_sinks cX6_sinks 3 (some .int) ∈ TB := TB_of (List.mem_append_right _ (List.mem_of_getElem? (i := 1011) (by decide +kernel))) rfl
theorem mX6_sinks_d : yX6_sinks.cls ≠ "java/lang/invoke/MethodHandle" ∧ yX6_sinks.cls ≠ "java/lang/invoke/VarHandle" ∧ (parseMethodDescriptor yX6_sinks.desc).map (fun d => d.parameters.length) = some 1 := by decide +kernel
theorem mX6_sinks_n : Cond.instanceMethod yX6_sinks ∈ TB := TB_of (List.mem_append_right _ (List.mem_of_getElem? (i := 1010) (by decide +kernel))) rfl
theorem mX6_sinks_v : Cond.selects yX6_sinks.cls yX6_sinks yX6_sinks ∈ TB := TB_of (List.mem_append_left _ (List.mem_of_getElem? (i := 17) (by decide +kernel))) rfl
theorem cw_X6_124 : CWV RX6 124 6 yX6_sinks cX6_sinks 3 (some .int) 1 := ⟨⟨TB_of (List.mem_append_right _ (List.mem_of_getElem? (i := 1008) (by decide +kernel))) rfl, mX6_sinks_i, mX6_sinks_c, mX6_sinks_d⟩, mX6_sinks_n, mX6_sinks_v, _, _, rfl⟩
theorem mX6_fades_i : Cond.initialized yX6_fades.cls ∈ TB := TB_of (List.mem_append_right _ (List.mem_of_getElem? (i := 8) (by decide +kernel))) rfl
theorem mX6_fades_c : Cond.code yX6_fades cX6_fades 2 (some .int) ∈ TB := TB_of (List.mem_append_right _ (List.mem_of_getElem? (i := 1015) (by decide +kernel))) rfl
theorem mX6_fades_d : yX6_fades.cls ≠ "java/lang/invoke/MethodHandle" ∧ yX6_fades.cls ≠ "java/lang/invoke/VarHandle" ∧ (parseMethodDescriptor yX6_fades.desc).map (fun d => d.parameters.length) = some 1 := by decide +kernel
theorem mX6_fades_n : Cond.instanceMethod yX6_fades ∈ TB := TB_of (List.mem_append_right _ (List.mem_of_getElem? (i := 1014) (by decide +kernel))) rfl
theorem mX6_fades_v : Cond.selects yX6_fades.cls yX6_fades yX6_fades ∈ TB := TB_of (List.mem_append_left _ (List.mem_of_getElem? (i := 18) (by decide +kernel))) rfl
theorem cw_X6_127 : CWV RX6 127 6 yX6_fades cX6_fades 2 (some .int) 1 := ⟨⟨TB_of (List.mem_append_right _ (List.mem_of_getElem? (i := 1012) (by decide +kernel))) rfl, mX6_fades_i, mX6_fades_c, mX6_fades_d⟩, mX6_fades_n, mX6_fades_v, _, _, rfl⟩
theorem mX6_worth_i : Cond.initialized yX6_worth.cls ∈ TB := TB_of (List.mem_append_right _ (List.mem_of_getElem? (i := 8) (by decide +kernel))) rfl
theorem mX6_worth_c : Cond.code yX6_worth cX6_worth 3 (some .int) ∈ TB := TB_of (List.mem_append_right _ (List.mem_of_getElem? (i := 1019) (by decide +kernel))) rfl
theorem mX6_worth_d : yX6_worth.cls ≠ "java/lang/invoke/MethodHandle" ∧ yX6_worth.cls ≠ "java/lang/invoke/VarHandle" ∧ (parseMethodDescriptor yX6_worth.desc).map (fun d => d.parameters.length) = some 1 := by decide +kernel
theorem mX6_worth_n : Cond.instanceMethod yX6_worth ∈ TB := TB_of (List.mem_append_right _ (List.mem_of_getElem? (i := 1018) (by decide +kernel))) rfl
theorem mX6_worth_v : Cond.selects yX6_worth.cls yX6_worth yX6_worth ∈ TB := TB_of (List.mem_append_left _ (List.mem_of_getElem? (i := 19) (by decide +kernel))) rfl
theorem cw_X6_130 : CWV RX6 130 6 yX6_worth cX6_worth 3 (some .int) 1 := ⟨⟨TB_of (List.mem_append_right _ (List.mem_of_getElem? (i := 1016) (by decide +kernel))) rfl, mX6_worth_i, mX6_worth_c, mX6_worth_d⟩, mX6_worth_n, mX6_worth_v, _, _, rfl⟩
theorem mX6_isOf_i : Cond.initialized yX6_isOf.cls ∈ TB := TB_of (List.mem_append_right _ (List.mem_of_getElem? (i := 8) (by decide +kernel))) rfl
theorem mX6_isOf_c : Cond.code yX6_isOf cX6_isOf 2 (some .boolean) ∈ TB := TB_of (List.mem_append_right _ (List.mem_of_getElem? (i := 1026) (by decide +kernel))) rfl
theorem mX6_isOf_d : yX6_isOf.cls ≠ "java/lang/invoke/MethodHandle" ∧ yX6_isOf.cls ≠ "java/lang/invoke/VarHandle" ∧ (parseMethodDescriptor yX6_isOf.desc).map (fun d => d.parameters.length) = some 2 := by decide +kernel
theorem mX6_isOf_s : Cond.static yX6_isOf ∈ TB := TB_of (List.mem_append_right _ (List.mem_of_getElem? (i := 1025) (by decide +kernel))) rfl
theorem cw_X6_133 : CWS RX6 133 yX6_isOf cX6_isOf 2 (some .boolean) 2 := ⟨⟨TB_of (List.mem_append_right _ (List.mem_of_getElem? (i := 1024) (by decide +kernel))) rfl, mX6_isOf_i, mX6_isOf_c, mX6_isOf_d⟩, mX6_isOf_s⟩
theorem cs_X6_137 : Cond.constant RX6 137 (-1000000012) ∈ TB := TB_of (List.mem_append_right _ (List.mem_of_getElem? (i := 1027) (by decide +kernel))) rfl
theorem mX6_changes_i : Cond.initialized yX6_changes.cls ∈ TB := TB_of (List.mem_append_right _ (List.mem_of_getElem? (i := 8) (by decide +kernel))) rfl
theorem mX6_changes_c : Cond.code yX6_changes cX6_changes 4 (some .int) ∈ TB := TB_of (List.mem_append_right _ (List.mem_of_getElem? (i := 1035) (by decide +kernel))) rfl
theorem mX6_changes_d : yX6_changes.cls ≠ "java/lang/invoke/MethodHandle" ∧ yX6_changes.cls ≠ "java/lang/invoke/VarHandle" ∧ (parseMethodDescriptor yX6_changes.desc).map (fun d => d.parameters.length) = some 2 := by decide +kernel
theorem mX6_changes_n : Cond.instanceMethod yX6_changes ∈ TB := TB_of (List.mem_append_right _ (List.mem_of_getElem? (i := 1034) (by decide +kernel))) rfl
theorem mX6_changes_v : Cond.selects yX6_changes.cls yX6_changes yX6_changes ∈ TB := TB_of (List.mem_append_left _ (List.mem_of_getElem? (i := 20) (by decide +kernel))) rfl
theorem cw_X6_138 : CWV RX6 138 6 yX6_changes cX6_changes 4 (some .int) 2 := ⟨⟨TB_of (List.mem_append_right _ (List.mem_of_getElem? (i := 1032) (by decide +kernel))) rfl, mX6_changes_i, mX6_changes_c, mX6_changes_d⟩, mX6_changes_n, mX6_changes_v, _, _, rfl⟩
theorem cl_X6_141 : Cond.constantLong RX6 141 (4) ∈ TB := TB_of (List.mem_append_right _ (List.mem_of_getElem? (i := 1040) (by decide +kernel))) rfl
theorem cl_X6_143 : Cond.constantLong RX6 143 (3) ∈ TB := TB_of (List.mem_append_right _ (List.mem_of_getElem? (i := 1049) (by decide +kernel))) rfl
theorem mX6_shownBy_i : Cond.initialized yX6_shownBy.cls ∈ TB := TB_of (List.mem_append_right _ (List.mem_of_getElem? (i := 8) (by decide +kernel))) rfl
theorem mX6_shownBy_c : Cond.code yX6_shownBy cX6_shownBy 4 (some .int) ∈ TB := TB_of (List.mem_append_right _ (List.mem_of_getElem? (i := 1053) (by decide +kernel))) rfl
theorem mX6_shownBy_d : yX6_shownBy.cls ≠ "java/lang/invoke/MethodHandle" ∧ yX6_shownBy.cls ≠ "java/lang/invoke/VarHandle" ∧ (parseMethodDescriptor yX6_shownBy.desc).map (fun d => d.parameters.length) = some 1 := by decide +kernel
theorem mX6_shownBy_n : Cond.instanceMethod yX6_shownBy ∈ TB := TB_of (List.mem_append_right _ (List.mem_of_getElem? (i := 1052) (by decide +kernel))) rfl
theorem mX6_shownBy_v : Cond.selects yX6_shownBy.cls yX6_shownBy yX6_shownBy ∈ TB := TB_of (List.mem_append_left _ (List.mem_of_getElem? (i := 21) (by decide +kernel))) rfl
theorem cw_X6_145 : CWV RX6 145 6 yX6_shownBy cX6_shownBy 4 (some .int) 1 := ⟨⟨TB_of (List.mem_append_right _ (List.mem_of_getElem? (i := 1050) (by decide +kernel))) rfl, mX6_shownBy_i, mX6_shownBy_c, mX6_shownBy_d⟩, mX6_shownBy_n, mX6_shownBy_v, _, _, rfl⟩
theorem cl_X6_148 : Cond.constantLong RX6 148 (2) ∈ TB := TB_of (List.mem_append_right _ (List.mem_of_getElem? (i := 1058) (by decide +kernel))) rfl
theorem cl_X6_150 : Cond.constantLong RX6 150 (9) ∈ TB := TB_of (List.mem_append_right _ (List.mem_of_getElem? (i := 1059) (by decide +kernel))) rfl
theorem cl_X6_152 : Cond.constantLong RX6 152 (100) ∈ TB := TB_of (List.mem_append_right _ (List.mem_of_getElem? (i := 1060) (by decide +kernel))) rfl
theorem cl_X6_154 : Cond.constantLong RX6 154 (10) ∈ TB := TB_of (List.mem_append_right _ (List.mem_of_getElem? (i := 1065) (by decide +kernel))) rfl
theorem mX6_drawn_i : Cond.initialized yX6_drawn.cls ∈ TB := TB_of (List.mem_append_right _ (List.mem_of_getElem? (i := 8) (by decide +kernel))) rfl
theorem mX6_drawn_c : Cond.code yX6_drawn cX6_drawn 1 (some .int) ∈ TB := TB_of (List.mem_append_right _ (List.mem_of_getElem? (i := 1069) (by decide +kernel))) rfl
theorem mX6_drawn_d : yX6_drawn.cls ≠ "java/lang/invoke/MethodHandle" ∧ yX6_drawn.cls ≠ "java/lang/invoke/VarHandle" ∧ (parseMethodDescriptor yX6_drawn.desc).map (fun d => d.parameters.length) = some 0 := by decide +kernel
theorem mX6_drawn_n : Cond.instanceMethod yX6_drawn ∈ TB := TB_of (List.mem_append_right _ (List.mem_of_getElem? (i := 1068) (by decide +kernel))) rfl
theorem mX6_drawn_v : Cond.selects yX6_drawn.cls yX6_drawn yX6_drawn ∈ TB := TB_of (List.mem_append_left _ (List.mem_of_getElem? (i := 22) (by decide +kernel))) rfl
theorem cw_X6_156 : CWV RX6 156 6 yX6_drawn cX6_drawn 1 (some .int) 0 := ⟨⟨TB_of (List.mem_append_right _ (List.mem_of_getElem? (i := 1066) (by decide +kernel))) rfl, mX6_drawn_i, mX6_drawn_c, mX6_drawn_d⟩, mX6_drawn_n, mX6_drawn_v, _, _, rfl⟩
theorem cl_X6_160 : Cond.constantLong RX6 160 (999) ∈ TB := TB_of (List.mem_append_right _ (List.mem_of_getElem? (i := 1079) (by decide +kernel))) rfl
theorem mX6_isLegible_i : Cond.initialized yX6_isLegible.cls ∈ TB := TB_of (List.mem_append_right _ (List.mem_of_getElem? (i := 8) (by decide +kernel))) rfl
theorem mX6_isLegible_c : Cond.code yX6_isLegible cX6_isLegible 2 (some .boolean) ∈ TB := TB_of (List.mem_append_right _ (List.mem_of_getElem? (i := 1096) (by decide +kernel))) rfl
theorem mX6_isLegible_d : yX6_isLegible.cls ≠ "java/lang/invoke/MethodHandle" ∧ yX6_isLegible.cls ≠ "java/lang/invoke/VarHandle" ∧ (parseMethodDescriptor yX6_isLegible.desc).map (fun d => d.parameters.length) = some 1 := by decide +kernel
theorem mX6_isLegible_n : Cond.instanceMethod yX6_isLegible ∈ TB := TB_of (List.mem_append_right _ (List.mem_of_getElem? (i := 1095) (by decide +kernel))) rfl
theorem mX6_isLegible_v : Cond.selects yX6_isLegible.cls yX6_isLegible yX6_isLegible ∈ TB := TB_of (List.mem_append_left _ (List.mem_of_getElem? (i := 25) (by decide +kernel))) rfl
theorem cw_X6_162 : CWV RX6 162 6 yX6_isLegible cX6_isLegible 2 (some .boolean) 1 := ⟨⟨TB_of (List.mem_append_right _ (List.mem_of_getElem? (i := 1093) (by decide +kernel))) rfl, mX6_isLegible_i, mX6_isLegible_c, mX6_isLegible_d⟩, mX6_isLegible_n, mX6_isLegible_v, _, _, rfl⟩
theorem mX6_legible_i : Cond.initialized yX6_legible.cls ∈ TB := TB_of (List.mem_append_right _ (List.mem_of_getElem? (i := 8) (by decide +kernel))) rfl
theorem mX6_legible_c : Cond.code yX6_legible cX6_legible 3 (some .int) ∈ TB := TB_of (List.mem_append_right _ (List.mem_of_getElem? (i := 1092) (by decide +kernel))) rfl
theorem mX6_legible_d : yX6_legible.cls ≠ "java/lang/invoke/MethodHandle" ∧ yX6_legible.cls ≠ "java/lang/invoke/VarHandle" ∧ (parseMethodDescriptor yX6_legible.desc).map (fun d => d.parameters.length) = some 0 := by decide +kernel
theorem mX6_legible_n : Cond.instanceMethod yX6_legible ∈ TB := TB_of (List.mem_append_right _ (List.mem_of_getElem? (i := 1091) (by decide +kernel))) rfl
theorem mX6_legible_v : Cond.selects yX6_legible.cls yX6_legible yX6_legible ∈ TB := TB_of (List.mem_append_left _ (List.mem_of_getElem? (i := 24) (by decide +kernel))) rfl
theorem cw_X6_165 : CWV RX6 165 6 yX6_legible cX6_legible 3 (some .int) 0 := ⟨⟨TB_of (List.mem_append_right _ (List.mem_of_getElem? (i := 1089) (by decide +kernel))) rfl, mX6_legible_i, mX6_legible_c, mX6_legible_d⟩, mX6_legible_n, mX6_legible_v, _, _, rfl⟩
theorem cs_X6_168 : Cond.constant RX6 168 (99999) ∈ TB := TB_of (List.mem_append_right _ (List.mem_of_getElem? (i := 1097) (by decide +kernel))) rfl
theorem mX6_isBreathedOn_i : Cond.initialized yX6_isBreathedOn.cls ∈ TB := TB_of (List.mem_append_right _ (List.mem_of_getElem? (i := 8) (by decide +kernel))) rfl
theorem mX6_isBreathedOn_c : Cond.code yX6_isBreathedOn cX6_isBreathedOn 4 (some .int) ∈ TB := TB_of (List.mem_append_right _ (List.mem_of_getElem? (i := 1088) (by decide +kernel))) rfl
theorem mX6_isBreathedOn_d : yX6_isBreathedOn.cls ≠ "java/lang/invoke/MethodHandle" ∧ yX6_isBreathedOn.cls ≠ "java/lang/invoke/VarHandle" ∧ (parseMethodDescriptor yX6_isBreathedOn.desc).map (fun d => d.parameters.length) = some 1 := by decide +kernel
theorem mX6_isBreathedOn_n : Cond.instanceMethod yX6_isBreathedOn ∈ TB := TB_of (List.mem_append_right _ (List.mem_of_getElem? (i := 1087) (by decide +kernel))) rfl
theorem mX6_isBreathedOn_v : Cond.selects yX6_isBreathedOn.cls yX6_isBreathedOn yX6_isBreathedOn ∈ TB := TB_of (List.mem_append_left _ (List.mem_of_getElem? (i := 23) (by decide +kernel))) rfl
theorem cw_X6_169 : CWV RX6 169 6 yX6_isBreathedOn cX6_isBreathedOn 4 (some .int) 1 := ⟨⟨TB_of (List.mem_append_right _ (List.mem_of_getElem? (i := 1085) (by decide +kernel))) rfl, mX6_isBreathedOn_i, mX6_isBreathedOn_c, mX6_isBreathedOn_d⟩, mX6_isBreathedOn_n, mX6_isBreathedOn_v, _, _, rfl⟩
theorem mX6_isDug_i : Cond.initialized yX6_isDug.cls ∈ TB := TB_of (List.mem_append_right _ (List.mem_of_getElem? (i := 8) (by decide +kernel))) rfl
theorem mX6_isDug_c : Cond.code yX6_isDug cX6_isDug 5 (some .int) ∈ TB := TB_of (List.mem_append_right _ (List.mem_of_getElem? (i := 1105) (by decide +kernel))) rfl
theorem mX6_isDug_d : yX6_isDug.cls ≠ "java/lang/invoke/MethodHandle" ∧ yX6_isDug.cls ≠ "java/lang/invoke/VarHandle" ∧ (parseMethodDescriptor yX6_isDug.desc).map (fun d => d.parameters.length) = some 2 := by decide +kernel
theorem mX6_isDug_n : Cond.instanceMethod yX6_isDug ∈ TB := TB_of (List.mem_append_right _ (List.mem_of_getElem? (i := 1104) (by decide +kernel))) rfl
theorem mX6_isDug_v : Cond.selects yX6_isDug.cls yX6_isDug yX6_isDug ∈ TB := TB_of (List.mem_append_left _ (List.mem_of_getElem? (i := 26) (by decide +kernel))) rfl
theorem cw_X6_172 : CWV RX6 172 6 yX6_isDug cX6_isDug 5 (some .int) 2 := ⟨⟨TB_of (List.mem_append_right _ (List.mem_of_getElem? (i := 1102) (by decide +kernel))) rfl, mX6_isDug_i, mX6_isDug_c, mX6_isDug_d⟩, mX6_isDug_n, mX6_isDug_v, _, _, rfl⟩
theorem mX6_isCoated_i : Cond.initialized yX6_isCoated.cls ∈ TB := TB_of (List.mem_append_right _ (List.mem_of_getElem? (i := 8) (by decide +kernel))) rfl
theorem mX6_isCoated_c : Cond.code yX6_isCoated cX6_isCoated 3 none ∈ TB := TB_of (List.mem_append_right _ (List.mem_of_getElem? (i := 1121) (by decide +kernel))) rfl
theorem mX6_isCoated_d : yX6_isCoated.cls ≠ "java/lang/invoke/MethodHandle" ∧ yX6_isCoated.cls ≠ "java/lang/invoke/VarHandle" ∧ (parseMethodDescriptor yX6_isCoated.desc).map (fun d => d.parameters.length) = some 1 := by decide +kernel
theorem mX6_isCoated_n : Cond.instanceMethod yX6_isCoated ∈ TB := TB_of (List.mem_append_right _ (List.mem_of_getElem? (i := 1120) (by decide +kernel))) rfl
theorem mX6_isCoated_v : Cond.selects yX6_isCoated.cls yX6_isCoated yX6_isCoated ∈ TB := TB_of (List.mem_append_left _ (List.mem_of_getElem? (i := 29) (by decide +kernel))) rfl
theorem cw_X6_175 : CWV RX6 175 6 yX6_isCoated cX6_isCoated 3 none 1 := ⟨⟨TB_of (List.mem_append_right _ (List.mem_of_getElem? (i := 1118) (by decide +kernel))) rfl, mX6_isCoated_i, mX6_isCoated_c, mX6_isCoated_d⟩, mX6_isCoated_n, mX6_isCoated_v, _, _, rfl⟩
theorem mX6_goesOn_i : Cond.initialized yX6_goesOn.cls ∈ TB := TB_of (List.mem_append_right _ (List.mem_of_getElem? (i := 8) (by decide +kernel))) rfl
theorem mX6_goesOn_c : Cond.code yX6_goesOn cX6_goesOn 4 none ∈ TB := TB_of (List.mem_append_right _ (List.mem_of_getElem? (i := 1117) (by decide +kernel))) rfl
theorem mX6_goesOn_d : yX6_goesOn.cls ≠ "java/lang/invoke/MethodHandle" ∧ yX6_goesOn.cls ≠ "java/lang/invoke/VarHandle" ∧ (parseMethodDescriptor yX6_goesOn.desc).map (fun d => d.parameters.length) = some 0 := by decide +kernel
theorem mX6_goesOn_n : Cond.instanceMethod yX6_goesOn ∈ TB := TB_of (List.mem_append_right _ (List.mem_of_getElem? (i := 1116) (by decide +kernel))) rfl
theorem mX6_goesOn_v : Cond.selects yX6_goesOn.cls yX6_goesOn yX6_goesOn ∈ TB := TB_of (List.mem_append_left _ (List.mem_of_getElem? (i := 28) (by decide +kernel))) rfl
theorem cw_X6_179 : CWV RX6 179 6 yX6_goesOn cX6_goesOn 4 none 0 := ⟨⟨TB_of (List.mem_append_right _ (List.mem_of_getElem? (i := 1114) (by decide +kernel))) rfl, mX6_goesOn_i, mX6_goesOn_c, mX6_goesOn_d⟩, mX6_goesOn_n, mX6_goesOn_v, _, _, rfl⟩
theorem mX6_goesOnMany_i : Cond.initialized yX6_goesOnMany.cls ∈ TB := TB_of (List.mem_append_right _ (List.mem_of_getElem? (i := 8) (by decide +kernel))) rfl
theorem mX6_goesOnMany_c : Cond.code yX6_goesOnMany cX6_goesOnMany 3 none ∈ TB := TB_of (List.mem_append_right _ (List.mem_of_getElem? (i := 1113) (by decide +kernel))) rfl
theorem mX6_goesOnMany_d : yX6_goesOnMany.cls ≠ "java/lang/invoke/MethodHandle" ∧ yX6_goesOnMany.cls ≠ "java/lang/invoke/VarHandle" ∧ (parseMethodDescriptor yX6_goesOnMany.desc).map (fun d => d.parameters.length) = some 1 := by decide +kernel
theorem mX6_goesOnMany_n : Cond.instanceMethod yX6_goesOnMany ∈ TB := TB_of (List.mem_append_right _ (List.mem_of_getElem? (i := 1112) (by decide +kernel))) rfl
theorem mX6_goesOnMany_v : Cond.selects yX6_goesOnMany.cls yX6_goesOnMany yX6_goesOnMany ∈ TB := TB_of (List.mem_append_left _ (List.mem_of_getElem? (i := 27) (by decide +kernel))) rfl
theorem cw_X6_182 : CWV RX6 182 6 yX6_goesOnMany cX6_goesOnMany 3 none 1 := ⟨⟨TB_of (List.mem_append_right _ (List.mem_of_getElem? (i := 1110) (by decide +kernel))) rfl, mX6_goesOnMany_i, mX6_goesOnMany_c, mX6_goesOnMany_d⟩, mX6_goesOnMany_n, mX6_goesOnMany_v, _, _, rfl⟩
theorem mX6_sumOf_i : Cond.initialized yX6_sumOf.cls ∈ TB := TB_of (List.mem_append_right _ (List.mem_of_getElem? (i := 8) (by decide +kernel))) rfl
theorem mX6_sumOf_c : Cond.code yX6_sumOf cX6_sumOf 4 (some .int) ∈ TB := TB_of (List.mem_append_right _ (List.mem_of_getElem? (i := 1133) (by decide +kernel))) rfl
theorem mX6_sumOf_d : yX6_sumOf.cls ≠ "java/lang/invoke/MethodHandle" ∧ yX6_sumOf.cls ≠ "java/lang/invoke/VarHandle" ∧ (parseMethodDescriptor yX6_sumOf.desc).map (fun d => d.parameters.length) = some 1 := by decide +kernel
theorem mX6_sumOf_n : Cond.instanceMethod yX6_sumOf ∈ TB := TB_of (List.mem_append_right _ (List.mem_of_getElem? (i := 1132) (by decide +kernel))) rfl
theorem mX6_sumOf_v : Cond.selects yX6_sumOf.cls yX6_sumOf yX6_sumOf ∈ TB := TB_of (List.mem_append_left _ (List.mem_of_getElem? (i := 31) (by decide +kernel))) rfl
theorem cw_X6_185 : CWV RX6 185 6 yX6_sumOf cX6_sumOf 4 (some .int) 1 := ⟨⟨TB_of (List.mem_append_right _ (List.mem_of_getElem? (i := 1130) (by decide +kernel))) rfl, mX6_sumOf_i, mX6_sumOf_c, mX6_sumOf_d⟩, mX6_sumOf_n, mX6_sumOf_v, _, _, rfl⟩
theorem mX6_wallsOf_i : Cond.initialized yX6_wallsOf.cls ∈ TB := TB_of (List.mem_append_right _ (List.mem_of_getElem? (i := 8) (by decide +kernel))) rfl
theorem mX6_wallsOf_c : Cond.code yX6_wallsOf cX6_wallsOf 2 (some .int) ∈ TB := TB_of (List.mem_append_right _ (List.mem_of_getElem? (i := 1129) (by decide +kernel))) rfl
theorem mX6_wallsOf_d : yX6_wallsOf.cls ≠ "java/lang/invoke/MethodHandle" ∧ yX6_wallsOf.cls ≠ "java/lang/invoke/VarHandle" ∧ (parseMethodDescriptor yX6_wallsOf.desc).map (fun d => d.parameters.length) = some 1 := by decide +kernel
theorem mX6_wallsOf_n : Cond.instanceMethod yX6_wallsOf ∈ TB := TB_of (List.mem_append_right _ (List.mem_of_getElem? (i := 1128) (by decide +kernel))) rfl
theorem mX6_wallsOf_v : Cond.selects yX6_wallsOf.cls yX6_wallsOf yX6_wallsOf ∈ TB := TB_of (List.mem_append_left _ (List.mem_of_getElem? (i := 30) (by decide +kernel))) rfl
theorem cw_X6_188 : CWV RX6 188 6 yX6_wallsOf cX6_wallsOf 2 (some .int) 1 := ⟨⟨TB_of (List.mem_append_right _ (List.mem_of_getElem? (i := 1126) (by decide +kernel))) rfl, mX6_wallsOf_i, mX6_wallsOf_c, mX6_wallsOf_d⟩, mX6_wallsOf_n, mX6_wallsOf_v, _, _, rfl⟩
theorem mX6_narrowest_i : Cond.initialized yX6_narrowest.cls ∈ TB := TB_of (List.mem_append_right _ (List.mem_of_getElem? (i := 8) (by decide +kernel))) rfl
theorem mX6_narrowest_c : Cond.code yX6_narrowest cX6_narrowest 3 (some .int) ∈ TB := TB_of (List.mem_append_right _ (List.mem_of_getElem? (i := 1137) (by decide +kernel))) rfl
theorem mX6_narrowest_d : yX6_narrowest.cls ≠ "java/lang/invoke/MethodHandle" ∧ yX6_narrowest.cls ≠ "java/lang/invoke/VarHandle" ∧ (parseMethodDescriptor yX6_narrowest.desc).map (fun d => d.parameters.length) = some 0 := by decide +kernel
theorem mX6_narrowest_n : Cond.instanceMethod yX6_narrowest ∈ TB := TB_of (List.mem_append_right _ (List.mem_of_getElem? (i := 1136) (by decide +kernel))) rfl
theorem mX6_narrowest_v : Cond.selects yX6_narrowest.cls yX6_narrowest yX6_narrowest ∈ TB := TB_of (List.mem_append_left _ (List.mem_of_getElem? (i := 32) (by decide +kernel))) rfl
theorem cw_X6_191 : CWV RX6 191 6 yX6_narrowest cX6_narrowest 3 (some .int) 0 := ⟨⟨TB_of (List.mem_append_right _ (List.mem_of_getElem? (i := 1134) (by decide +kernel))) rfl, mX6_narrowest_i, mX6_narrowest_c, mX6_narrowest_d⟩, mX6_narrowest_n, mX6_narrowest_v, _, _, rfl⟩
theorem mX6_laysBy_i : Cond.initialized yX6_laysBy.cls ∈ TB := TB_of (List.mem_append_right _ (List.mem_of_getElem? (i := 8) (by decide +kernel))) rfl
theorem mX6_laysBy_c : Cond.code yX6_laysBy cX6_laysBy 2 none ∈ TB := TB_of (List.mem_append_right _ (List.mem_of_getElem? (i := 1145) (by decide +kernel))) rfl
theorem mX6_laysBy_d : yX6_laysBy.cls ≠ "java/lang/invoke/MethodHandle" ∧ yX6_laysBy.cls ≠ "java/lang/invoke/VarHandle" ∧ (parseMethodDescriptor yX6_laysBy.desc).map (fun d => d.parameters.length) = some 0 := by decide +kernel
theorem mX6_laysBy_n : Cond.instanceMethod yX6_laysBy ∈ TB := TB_of (List.mem_append_right _ (List.mem_of_getElem? (i := 1144) (by decide +kernel))) rfl
theorem mX6_laysBy_v : Cond.selects yX6_laysBy.cls yX6_laysBy yX6_laysBy ∈ TB := TB_of (List.mem_append_left _ (List.mem_of_getElem? (i := 33) (by decide +kernel))) rfl
theorem cw_X6_194 : CWV RX6 194 6 yX6_laysBy cX6_laysBy 2 none 0 := ⟨⟨TB_of (List.mem_append_right _ (List.mem_of_getElem? (i := 1142) (by decide +kernel))) rfl, mX6_laysBy_i, mX6_laysBy_c, mX6_laysBy_d⟩, mX6_laysBy_n, mX6_laysBy_v, _, _, rfl⟩
theorem mX6_laysBack_i : Cond.initialized yX6_laysBack.cls ∈ TB := TB_of (List.mem_append_right _ (List.mem_of_getElem? (i := 8) (by decide +kernel))) rfl
theorem mX6_laysBack_c : Cond.code yX6_laysBack cX6_laysBack 2 none ∈ TB := TB_of (List.mem_append_right _ (List.mem_of_getElem? (i := 1149) (by decide +kernel))) rfl
theorem mX6_laysBack_d : yX6_laysBack.cls ≠ "java/lang/invoke/MethodHandle" ∧ yX6_laysBack.cls ≠ "java/lang/invoke/VarHandle" ∧ (parseMethodDescriptor yX6_laysBack.desc).map (fun d => d.parameters.length) = some 0 := by decide +kernel
theorem mX6_laysBack_n : Cond.instanceMethod yX6_laysBack ∈ TB := TB_of (List.mem_append_right _ (List.mem_of_getElem? (i := 1148) (by decide +kernel))) rfl
theorem mX6_laysBack_v : Cond.selects yX6_laysBack.cls yX6_laysBack yX6_laysBack ∈ TB := TB_of (List.mem_append_left _ (List.mem_of_getElem? (i := 34) (by decide +kernel))) rfl
theorem cw_X6_197 : CWV RX6 197 6 yX6_laysBack cX6_laysBack 2 none 0 := ⟨⟨TB_of (List.mem_append_right _ (List.mem_of_getElem? (i := 1146) (by decide +kernel))) rfl, mX6_laysBack_i, mX6_laysBack_c, mX6_laysBack_d⟩, mX6_laysBack_n, mX6_laysBack_v, _, _, rfl⟩
theorem cl_X6_200 : Cond.constantLong RX6 200 (60) ∈ TB := TB_of (List.mem_append_right _ (List.mem_of_getElem? (i := 1162) (by decide +kernel))) rfl
theorem mX6_isAsked_i : Cond.initialized yX6_isAsked.cls ∈ TB := TB_of (List.mem_append_right _ (List.mem_of_getElem? (i := 8) (by decide +kernel))) rfl
theorem mX6_isAsked_c : Cond.code yX6_isAsked cX6_isAsked 2 (some .boolean) ∈ TB := TB_of (List.mem_append_right _ (List.mem_of_getElem? (i := 1169) (by decide +kernel))) rfl
theorem mX6_isAsked_d : yX6_isAsked.cls ≠ "java/lang/invoke/MethodHandle" ∧ yX6_isAsked.cls ≠ "java/lang/invoke/VarHandle" ∧ (parseMethodDescriptor yX6_isAsked.desc).map (fun d => d.parameters.length) = some 2 := by decide +kernel
theorem mX6_isAsked_s : Cond.static yX6_isAsked ∈ TB := TB_of (List.mem_append_right _ (List.mem_of_getElem? (i := 1168) (by decide +kernel))) rfl
theorem cw_X6_202 : CWS RX6 202 yX6_isAsked cX6_isAsked 2 (some .boolean) 2 := ⟨⟨TB_of (List.mem_append_right _ (List.mem_of_getElem? (i := 1167) (by decide +kernel))) rfl, mX6_isAsked_i, mX6_isAsked_c, mX6_isAsked_d⟩, mX6_isAsked_s⟩
theorem mX6_mostBy_i : Cond.initialized yX6_mostBy.cls ∈ TB := TB_of (List.mem_append_right _ (List.mem_of_getElem? (i := 8) (by decide +kernel))) rfl
theorem mX6_mostBy_c : Cond.code yX6_mostBy cX6_mostBy 9 (some .int) ∈ TB := TB_of (List.mem_append_right _ (List.mem_of_getElem? (i := 1173) (by decide +kernel))) rfl
theorem mX6_mostBy_d : yX6_mostBy.cls ≠ "java/lang/invoke/MethodHandle" ∧ yX6_mostBy.cls ≠ "java/lang/invoke/VarHandle" ∧ (parseMethodDescriptor yX6_mostBy.desc).map (fun d => d.parameters.length) = some 4 := by decide +kernel
theorem mX6_mostBy_n : Cond.instanceMethod yX6_mostBy ∈ TB := TB_of (List.mem_append_right _ (List.mem_of_getElem? (i := 1172) (by decide +kernel))) rfl
theorem mX6_mostBy_v : Cond.selects yX6_mostBy.cls yX6_mostBy yX6_mostBy ∈ TB := TB_of (List.mem_append_left _ (List.mem_of_getElem? (i := 35) (by decide +kernel))) rfl
theorem cw_X6_205 : CWV RX6 205 6 yX6_mostBy cX6_mostBy 9 (some .int) 4 := ⟨⟨TB_of (List.mem_append_right _ (List.mem_of_getElem? (i := 1170) (by decide +kernel))) rfl, mX6_mostBy_i, mX6_mostBy_c, mX6_mostBy_d⟩, mX6_mostBy_n, mX6_mostBy_v, _, _, rfl⟩
theorem cl_X6_209 : Cond.constantLong RX6 209 (99999) ∈ TB := TB_of (List.mem_append_right _ (List.mem_of_getElem? (i := 1182) (by decide +kernel))) rfl
theorem fl_X6_211 : FL RX6 211 6 14 := ⟨_, _, _, rfl, by decide, TB_of (List.mem_append_right _ (List.mem_of_getElem? (i := 856) (by decide +kernel))) rfl, rfl⟩
theorem cl_X6_215 : Cond.constantLong RX6 215 (97) ∈ TB := TB_of (List.mem_append_right _ (List.mem_of_getElem? (i := 1215) (by decide +kernel))) rfl
theorem cl_X6_217 : Cond.constantLong RX6 217 (122) ∈ TB := TB_of (List.mem_append_right _ (List.mem_of_getElem? (i := 1216) (by decide +kernel))) rfl
theorem cl_X6_219 : Cond.constantLong RX6 219 (48) ∈ TB := TB_of (List.mem_append_right _ (List.mem_of_getElem? (i := 1221) (by decide +kernel))) rfl
theorem cl_X6_221 : Cond.constantLong RX6 221 (57) ∈ TB := TB_of (List.mem_append_right _ (List.mem_of_getElem? (i := 1222) (by decide +kernel))) rfl
theorem fl_X6_223 : FL RX6 223 6 16 := ⟨_, _, _, rfl, by decide, TB_of (List.mem_append_right _ (List.mem_of_getElem? (i := 858) (by decide +kernel))) rfl, rfl⟩
theorem fl_X6_226 : FL RX6 226 6 17 := ⟨_, _, _, rfl, by decide, TB_of (List.mem_append_right _ (List.mem_of_getElem? (i := 859) (by decide +kernel))) rfl, rfl⟩
theorem fl_X6_229 : FL RX6 229 6 15 := ⟨_, _, _, rfl, by decide, TB_of (List.mem_append_right _ (List.mem_of_getElem? (i := 857) (by decide +kernel))) rfl, rfl⟩
theorem mX6_isLetter_i : Cond.initialized yX6_isLetter.cls ∈ TB := TB_of (List.mem_append_right _ (List.mem_of_getElem? (i := 8) (by decide +kernel))) rfl
theorem mX6_isLetter_c : Cond.code yX6_isLetter cX6_isLetter 2 (some .boolean) ∈ TB := TB_of (List.mem_append_right _ (List.mem_of_getElem? (i := 1214) (by decide +kernel))) rfl
theorem mX6_isLetter_d : yX6_isLetter.cls ≠ "java/lang/invoke/MethodHandle" ∧ yX6_isLetter.cls ≠ "java/lang/invoke/VarHandle" ∧ (parseMethodDescriptor yX6_isLetter.desc).map (fun d => d.parameters.length) = some 1 := by decide +kernel
theorem mX6_isLetter_n : Cond.instanceMethod yX6_isLetter ∈ TB := TB_of (List.mem_append_right _ (List.mem_of_getElem? (i := 1213) (by decide +kernel))) rfl
theorem mX6_isLetter_v : Cond.selects yX6_isLetter.cls yX6_isLetter yX6_isLetter ∈ TB := TB_of (List.mem_append_left _ (List.mem_of_getElem? (i := 38) (by decide +kernel))) rfl
theorem cw_X6_232 : CWV RX6 232 6 yX6_isLetter cX6_isLetter 2 (some .boolean) 1 := ⟨⟨TB_of (List.mem_append_right _ (List.mem_of_getElem? (i := 1211) (by decide +kernel))) rfl, mX6_isLetter_i, mX6_isLetter_c, mX6_isLetter_d⟩, mX6_isLetter_n, mX6_isLetter_v, _, _, rfl⟩
theorem fl_X6_235 : FL RX6 235 6 19 := ⟨_, _, _, rfl, by decide, TB_of (List.mem_append_right _ (List.mem_of_getElem? (i := 861) (by decide +kernel))) rfl, rfl⟩
theorem mX6_isDigit_i : Cond.initialized yX6_isDigit.cls ∈ TB := TB_of (List.mem_append_right _ (List.mem_of_getElem? (i := 8) (by decide +kernel))) rfl
theorem mX6_isDigit_c : Cond.code yX6_isDigit cX6_isDigit 2 (some .boolean) ∈ TB := TB_of (List.mem_append_right _ (List.mem_of_getElem? (i := 1220) (by decide +kernel))) rfl
theorem mX6_isDigit_d : yX6_isDigit.cls ≠ "java/lang/invoke/MethodHandle" ∧ yX6_isDigit.cls ≠ "java/lang/invoke/VarHandle" ∧ (parseMethodDescriptor yX6_isDigit.desc).map (fun d => d.parameters.length) = some 1 := by decide +kernel
theorem mX6_isDigit_n : Cond.instanceMethod yX6_isDigit ∈ TB := TB_of (List.mem_append_right _ (List.mem_of_getElem? (i := 1219) (by decide +kernel))) rfl
theorem mX6_isDigit_v : Cond.selects yX6_isDigit.cls yX6_isDigit yX6_isDigit ∈ TB := TB_of (List.mem_append_left _ (List.mem_of_getElem? (i := 39) (by decide +kernel))) rfl
theorem cw_X6_238 : CWV RX6 238 6 yX6_isDigit cX6_isDigit 2 (some .boolean) 1 := ⟨⟨TB_of (List.mem_append_right _ (List.mem_of_getElem? (i := 1217) (by decide +kernel))) rfl, mX6_isDigit_i, mX6_isDigit_c, mX6_isDigit_d⟩, mX6_isDigit_n, mX6_isDigit_v, _, _, rfl⟩
theorem fl_X6_241 : FL RX6 241 6 18 := ⟨_, _, _, rfl, by decide, TB_of (List.mem_append_right _ (List.mem_of_getElem? (i := 860) (by decide +kernel))) rfl, rfl⟩
theorem mX6_isWordAt_i : Cond.initialized yX6_isWordAt.cls ∈ TB := TB_of (List.mem_append_right _ (List.mem_of_getElem? (i := 8) (by decide +kernel))) rfl
theorem mX6_isWordAt_c : Cond.code yX6_isWordAt cX6_isWordAt 6 (some .boolean) ∈ TB := TB_of (List.mem_append_right _ (List.mem_of_getElem? (i := 1230) (by decide +kernel))) rfl
theorem mX6_isWordAt_d : yX6_isWordAt.cls ≠ "java/lang/invoke/MethodHandle" ∧ yX6_isWordAt.cls ≠ "java/lang/invoke/VarHandle" ∧ (parseMethodDescriptor yX6_isWordAt.desc).map (fun d => d.parameters.length) = some 4 := by decide +kernel
theorem mX6_isWordAt_n : Cond.instanceMethod yX6_isWordAt ∈ TB := TB_of (List.mem_append_right _ (List.mem_of_getElem? (i := 1229) (by decide +kernel))) rfl
theorem mX6_isWordAt_v : Cond.selects yX6_isWordAt.cls yX6_isWordAt yX6_isWordAt ∈ TB := TB_of (List.mem_append_left _ (List.mem_of_getElem? (i := 41) (by decide +kernel))) rfl
theorem cw_X6_244 : CWV RX6 244 6 yX6_isWordAt cX6_isWordAt 6 (some .boolean) 4 := ⟨⟨TB_of (List.mem_append_right _ (List.mem_of_getElem? (i := 1227) (by decide +kernel))) rfl, mX6_isWordAt_i, mX6_isWordAt_c, mX6_isWordAt_d⟩, mX6_isWordAt_n, mX6_isWordAt_v, _, _, rfl⟩
theorem fl_X6_248 : FL RX6 248 6 23 := ⟨_, _, _, rfl, by decide, TB_of (List.mem_append_right _ (List.mem_of_getElem? (i := 865) (by decide +kernel))) rfl, rfl⟩
theorem fl_X6_251 : FL RX6 251 6 22 := ⟨_, _, _, rfl, by decide, TB_of (List.mem_append_right _ (List.mem_of_getElem? (i := 864) (by decide +kernel))) rfl, rfl⟩
theorem mX6_both_i : Cond.initialized yX6_both.cls ∈ TB := TB_of (List.mem_append_right _ (List.mem_of_getElem? (i := 8) (by decide +kernel))) rfl
theorem mX6_both_c : Cond.code yX6_both cX6_both 2 (some .boolean) ∈ TB := TB_of (List.mem_append_right _ (List.mem_of_getElem? (i := 1238) (by decide +kernel))) rfl
theorem mX6_both_d : yX6_both.cls ≠ "java/lang/invoke/MethodHandle" ∧ yX6_both.cls ≠ "java/lang/invoke/VarHandle" ∧ (parseMethodDescriptor yX6_both.desc).map (fun d => d.parameters.length) = some 1 := by decide +kernel
theorem mX6_both_n : Cond.instanceMethod yX6_both ∈ TB := TB_of (List.mem_append_right _ (List.mem_of_getElem? (i := 1237) (by decide +kernel))) rfl
theorem mX6_both_v : Cond.selects yX6_both.cls yX6_both yX6_both ∈ TB := TB_of (List.mem_append_left _ (List.mem_of_getElem? (i := 43) (by decide +kernel))) rfl
theorem cw_X6_254 : CWV RX6 254 6 yX6_both cX6_both 2 (some .boolean) 1 := ⟨⟨TB_of (List.mem_append_right _ (List.mem_of_getElem? (i := 1235) (by decide +kernel))) rfl, mX6_both_i, mX6_both_c, mX6_both_d⟩, mX6_both_n, mX6_both_v, _, _, rfl⟩
theorem mX6_isSign_i : Cond.initialized yX6_isSign.cls ∈ TB := TB_of (List.mem_append_right _ (List.mem_of_getElem? (i := 8) (by decide +kernel))) rfl
theorem mX6_isSign_c : Cond.code yX6_isSign cX6_isSign 2 (some .boolean) ∈ TB := TB_of (List.mem_append_right _ (List.mem_of_getElem? (i := 1265) (by decide +kernel))) rfl
theorem mX6_isSign_d : yX6_isSign.cls ≠ "java/lang/invoke/MethodHandle" ∧ yX6_isSign.cls ≠ "java/lang/invoke/VarHandle" ∧ (parseMethodDescriptor yX6_isSign.desc).map (fun d => d.parameters.length) = some 1 := by decide +kernel
theorem mX6_isSign_n : Cond.instanceMethod yX6_isSign ∈ TB := TB_of (List.mem_append_right _ (List.mem_of_getElem? (i := 1264) (by decide +kernel))) rfl
theorem mX6_isSign_v : Cond.selects yX6_isSign.cls yX6_isSign yX6_isSign ∈ TB := TB_of (List.mem_append_left _ (List.mem_of_getElem? (i := 49) (by decide +kernel))) rfl
theorem cw_X6_257 : CWV RX6 257 6 yX6_isSign cX6_isSign 2 (some .boolean) 1 := ⟨⟨TB_of (List.mem_append_right _ (List.mem_of_getElem? (i := 1262) (by decide +kernel))) rfl, mX6_isSign_i, mX6_isSign_c, mX6_isSign_d⟩, mX6_isSign_n, mX6_isSign_v, _, _, rfl⟩
theorem mX6_nextToken_i : Cond.initialized yX6_nextToken.cls ∈ TB := TB_of (List.mem_append_right _ (List.mem_of_getElem? (i := 8) (by decide +kernel))) rfl
theorem mX6_nextToken_c : Cond.code yX6_nextToken cX6_nextToken 3 none ∈ TB := TB_of (List.mem_append_right _ (List.mem_of_getElem? (i := 1210) (by decide +kernel))) rfl
theorem mX6_nextToken_d : yX6_nextToken.cls ≠ "java/lang/invoke/MethodHandle" ∧ yX6_nextToken.cls ≠ "java/lang/invoke/VarHandle" ∧ (parseMethodDescriptor yX6_nextToken.desc).map (fun d => d.parameters.length) = some 0 := by decide +kernel
theorem mX6_nextToken_n : Cond.instanceMethod yX6_nextToken ∈ TB := TB_of (List.mem_append_right _ (List.mem_of_getElem? (i := 1209) (by decide +kernel))) rfl
theorem mX6_nextToken_v : Cond.selects yX6_nextToken.cls yX6_nextToken yX6_nextToken ∈ TB := TB_of (List.mem_append_left _ (List.mem_of_getElem? (i := 37) (by decide +kernel))) rfl
theorem cw_X6_260 : CWV RX6 260 6 yX6_nextToken cX6_nextToken 3 none 0 := ⟨⟨TB_of (List.mem_append_right _ (List.mem_of_getElem? (i := 1207) (by decide +kernel))) rfl, mX6_nextToken_i, mX6_nextToken_c, mX6_nextToken_d⟩, mX6_nextToken_n, mX6_nextToken_v, _, _, rfl⟩
theorem mX6_step_i : Cond.initialized yX6_step.cls ∈ TB := TB_of (List.mem_append_right _ (List.mem_of_getElem? (i := 8) (by decide +kernel))) rfl
theorem mX6_step_c : Cond.code yX6_step cX6_step 3 none ∈ TB := TB_of (List.mem_append_right _ (List.mem_of_getElem? (i := 1258) (by decide +kernel))) rfl
theorem mX6_step_d : yX6_step.cls ≠ "java/lang/invoke/MethodHandle" ∧ yX6_step.cls ≠ "java/lang/invoke/VarHandle" ∧ (parseMethodDescriptor yX6_step.desc).map (fun d => d.parameters.length) = some 2 := by decide +kernel
theorem mX6_step_n : Cond.instanceMethod yX6_step ∈ TB := TB_of (List.mem_append_right _ (List.mem_of_getElem? (i := 1257) (by decide +kernel))) rfl
theorem mX6_step_v : Cond.selects yX6_step.cls yX6_step yX6_step ∈ TB := TB_of (List.mem_append_left _ (List.mem_of_getElem? (i := 48) (by decide +kernel))) rfl
theorem cw_X6_263 : CWV RX6 263 6 yX6_step cX6_step 3 none 2 := ⟨⟨TB_of (List.mem_append_right _ (List.mem_of_getElem? (i := 1255) (by decide +kernel))) rfl, mX6_step_i, mX6_step_c, mX6_step_d⟩, mX6_step_n, mX6_step_v, _, _, rfl⟩
theorem mX6_test_i : Cond.initialized yX6_test.cls ∈ TB := TB_of (List.mem_append_right _ (List.mem_of_getElem? (i := 8) (by decide +kernel))) rfl
theorem mX6_test_c : Cond.code yX6_test cX6_test 3 (some .boolean) ∈ TB := TB_of (List.mem_append_right _ (List.mem_of_getElem? (i := 1242) (by decide +kernel))) rfl
theorem mX6_test_d : yX6_test.cls ≠ "java/lang/invoke/MethodHandle" ∧ yX6_test.cls ≠ "java/lang/invoke/VarHandle" ∧ (parseMethodDescriptor yX6_test.desc).map (fun d => d.parameters.length) = some 1 := by decide +kernel
theorem mX6_test_n : Cond.instanceMethod yX6_test ∈ TB := TB_of (List.mem_append_right _ (List.mem_of_getElem? (i := 1241) (by decide +kernel))) rfl
theorem mX6_test_v : Cond.selects yX6_test.cls yX6_test yX6_test ∈ TB := TB_of (List.mem_append_left _ (List.mem_of_getElem? (i := 44) (by decide +kernel))) rfl
theorem cw_X6_267 : CWV RX6 267 6 yX6_test cX6_test 3 (some .boolean) 1 := ⟨⟨TB_of (List.mem_append_right _ (List.mem_of_getElem? (i := 1239) (by decide +kernel))) rfl, mX6_test_i, mX6_test_c, mX6_test_d⟩, mX6_test_n, mX6_test_v, _, _, rfl⟩
theorem mX6_sum_i : Cond.initialized yX6_sum.cls ∈ TB := TB_of (List.mem_append_right _ (List.mem_of_getElem? (i := 8) (by decide +kernel))) rfl
theorem mX6_sum_c : Cond.code yX6_sum cX6_sum 3 (some .boolean) ∈ TB := TB_of (List.mem_append_right _ (List.mem_of_getElem? (i := 1246) (by decide +kernel))) rfl
theorem mX6_sum_d : yX6_sum.cls ≠ "java/lang/invoke/MethodHandle" ∧ yX6_sum.cls ≠ "java/lang/invoke/VarHandle" ∧ (parseMethodDescriptor yX6_sum.desc).map (fun d => d.parameters.length) = some 1 := by decide +kernel
theorem mX6_sum_n : Cond.instanceMethod yX6_sum ∈ TB := TB_of (List.mem_append_right _ (List.mem_of_getElem? (i := 1245) (by decide +kernel))) rfl
theorem mX6_sum_v : Cond.selects yX6_sum.cls yX6_sum yX6_sum ∈ TB := TB_of (List.mem_append_left _ (List.mem_of_getElem? (i := 45) (by decide +kernel))) rfl
theorem cw_X6_270 : CWV RX6 270 6 yX6_sum cX6_sum 3 (some .boolean) 1 := ⟨⟨TB_of (List.mem_append_right _ (List.mem_of_getElem? (i := 1243) (by decide +kernel))) rfl, mX6_sum_i, mX6_sum_c, mX6_sum_d⟩, mX6_sum_n, mX6_sum_v, _, _, rfl⟩
theorem mX6_term_i : Cond.initialized yX6_term.cls ∈ TB := TB_of (List.mem_append_right _ (List.mem_of_getElem? (i := 8) (by decide +kernel))) rfl
theorem mX6_term_c : Cond.code yX6_term cX6_term 3 (some .boolean) ∈ TB := TB_of (List.mem_append_right _ (List.mem_of_getElem? (i := 1250) (by decide +kernel))) rfl
theorem mX6_term_d : yX6_term.cls ≠ "java/lang/invoke/MethodHandle" ∧ yX6_term.cls ≠ "java/lang/invoke/VarHandle" ∧ (parseMethodDescriptor yX6_term.desc).map (fun d => d.parameters.length) = some 1 := by decide +kernel
theorem mX6_term_n : Cond.instanceMethod yX6_term ∈ TB := TB_of (List.mem_append_right _ (List.mem_of_getElem? (i := 1249) (by decide +kernel))) rfl
theorem mX6_term_v : Cond.selects yX6_term.cls yX6_term yX6_term ∈ TB := TB_of (List.mem_append_left _ (List.mem_of_getElem? (i := 46) (by decide +kernel))) rfl
theorem cw_X6_273 : CWV RX6 273 6 yX6_term cX6_term 3 (some .boolean) 1 := ⟨⟨TB_of (List.mem_append_right _ (List.mem_of_getElem? (i := 1247) (by decide +kernel))) rfl, mX6_term_i, mX6_term_c, mX6_term_d⟩, mX6_term_n, mX6_term_v, _, _, rfl⟩
theorem mX6_part0_i : Cond.initialized yX6_part0.cls ∈ TB := TB_of (List.mem_append_right _ (List.mem_of_getElem? (i := 8) (by decide +kernel))) rfl
theorem mX6_part0_c : Cond.code yX6_part0 cX6_part0 2 (some .boolean) ∈ TB := TB_of (List.mem_append_right _ (List.mem_of_getElem? (i := 1254) (by decide +kernel))) rfl
theorem mX6_part0_d : yX6_part0.cls ≠ "java/lang/invoke/MethodHandle" ∧ yX6_part0.cls ≠ "java/lang/invoke/VarHandle" ∧ (parseMethodDescriptor yX6_part0.desc).map (fun d => d.parameters.length) = some 1 := by decide +kernel
theorem mX6_part0_n : Cond.instanceMethod yX6_part0 ∈ TB := TB_of (List.mem_append_right _ (List.mem_of_getElem? (i := 1253) (by decide +kernel))) rfl
theorem mX6_part0_v : Cond.selects yX6_part0.cls yX6_part0 yX6_part0 ∈ TB := TB_of (List.mem_append_left _ (List.mem_of_getElem? (i := 47) (by decide +kernel))) rfl
theorem cw_X6_276 : CWV RX6 276 6 yX6_part0 cX6_part0 2 (some .boolean) 1 := ⟨⟨TB_of (List.mem_append_right _ (List.mem_of_getElem? (i := 1251) (by decide +kernel))) rfl, mX6_part0_i, mX6_part0_c, mX6_part0_d⟩, mX6_part0_n, mX6_part0_v, _, _, rfl⟩
theorem fl_X6_279 : FL RX6 279 6 24 := ⟨_, _, _, rfl, by decide, TB_of (List.mem_append_right _ (List.mem_of_getElem? (i := 866) (by decide +kernel))) rfl, rfl⟩
theorem mX6_isName_i : Cond.initialized yX6_isName.cls ∈ TB := TB_of (List.mem_append_right _ (List.mem_of_getElem? (i := 8) (by decide +kernel))) rfl
theorem mX6_isName_c : Cond.code yX6_isName cX6_isName 2 (some .boolean) ∈ TB := TB_of (List.mem_append_right _ (List.mem_of_getElem? (i := 1261) (by decide +kernel))) rfl
theorem mX6_isName_d : yX6_isName.cls ≠ "java/lang/invoke/MethodHandle" ∧ yX6_isName.cls ≠ "java/lang/invoke/VarHandle" ∧ (parseMethodDescriptor yX6_isName.desc).map (fun d => d.parameters.length) = some 2 := by decide +kernel
theorem mX6_isName_s : Cond.static yX6_isName ∈ TB := TB_of (List.mem_append_right _ (List.mem_of_getElem? (i := 1260) (by decide +kernel))) rfl
theorem cw_X6_282 : CWS RX6 282 yX6_isName cX6_isName 2 (some .boolean) 2 := ⟨⟨TB_of (List.mem_append_right _ (List.mem_of_getElem? (i := 1259) (by decide +kernel))) rfl, mX6_isName_i, mX6_isName_c, mX6_isName_d⟩, mX6_isName_s⟩
theorem fl_X6_285 : FL RX6 285 6 21 := ⟨_, _, _, rfl, by decide, TB_of (List.mem_append_right _ (List.mem_of_getElem? (i := 863) (by decide +kernel))) rfl, rfl⟩
theorem fl_X6_288 : FL RX6 288 6 20 := ⟨_, _, _, rfl, by decide, TB_of (List.mem_append_right _ (List.mem_of_getElem? (i := 862) (by decide +kernel))) rfl, rfl⟩
theorem mX6_either_i : Cond.initialized yX6_either.cls ∈ TB := TB_of (List.mem_append_right _ (List.mem_of_getElem? (i := 8) (by decide +kernel))) rfl
theorem mX6_either_c : Cond.code yX6_either cX6_either 2 (some .boolean) ∈ TB := TB_of (List.mem_append_right _ (List.mem_of_getElem? (i := 1234) (by decide +kernel))) rfl
theorem mX6_either_d : yX6_either.cls ≠ "java/lang/invoke/MethodHandle" ∧ yX6_either.cls ≠ "java/lang/invoke/VarHandle" ∧ (parseMethodDescriptor yX6_either.desc).map (fun d => d.parameters.length) = some 1 := by decide +kernel
theorem mX6_either_n : Cond.instanceMethod yX6_either ∈ TB := TB_of (List.mem_append_right _ (List.mem_of_getElem? (i := 1233) (by decide +kernel))) rfl
theorem mX6_either_v : Cond.selects yX6_either.cls yX6_either yX6_either ∈ TB := TB_of (List.mem_append_left _ (List.mem_of_getElem? (i := 42) (by decide +kernel))) rfl
theorem cw_X6_291 : CWV RX6 291 6 yX6_either cX6_either 2 (some .boolean) 1 := ⟨⟨TB_of (List.mem_append_right _ (List.mem_of_getElem? (i := 1231) (by decide +kernel))) rfl, mX6_either_i, mX6_either_c, mX6_either_d⟩, mX6_either_n, mX6_either_v, _, _, rfl⟩
theorem mX6_textAt_i : Cond.initialized yX6_textAt.cls ∈ TB := TB_of (List.mem_append_right _ (List.mem_of_getElem? (i := 8) (by decide +kernel))) rfl
theorem mX6_textAt_c : Cond.code yX6_textAt cX6_textAt 2 (some .int) ∈ TB := TB_of (List.mem_append_right _ (List.mem_of_getElem? (i := 983) (by decide +kernel))) rfl
theorem mX6_textAt_d : yX6_textAt.cls ≠ "java/lang/invoke/MethodHandle" ∧ yX6_textAt.cls ≠ "java/lang/invoke/VarHandle" ∧ (parseMethodDescriptor yX6_textAt.desc).map (fun d => d.parameters.length) = some 1 := by decide +kernel
theorem mX6_textAt_n : Cond.instanceMethod yX6_textAt ∈ TB := TB_of (List.mem_append_right _ (List.mem_of_getElem? (i := 982) (by decide +kernel))) rfl
theorem mX6_textAt_v : Cond.selects yX6_textAt.cls yX6_textAt yX6_textAt ∈ TB := TB_of (List.mem_append_left _ (List.mem_of_getElem? (i := 13) (by decide +kernel))) rfl
theorem cw_X6_294 : CWV RX6 294 6 yX6_textAt cX6_textAt 2 (some .int) 1 := ⟨⟨TB_of (List.mem_append_right _ (List.mem_of_getElem? (i := 980) (by decide +kernel))) rfl, mX6_textAt_i, mX6_textAt_c, mX6_textAt_d⟩, mX6_textAt_n, mX6_textAt_v, _, _, rfl⟩
theorem mX6_key_i : Cond.initialized yX6_key.cls ∈ TB := TB_of (List.mem_append_right _ (List.mem_of_getElem? (i := 8) (by decide +kernel))) rfl
theorem mX6_key_c : Cond.code yX6_key cX6_key 1 (some .int) ∈ TB := TB_of (List.mem_append_right _ (List.mem_of_getElem? (i := 1226) (by decide +kernel))) rfl
theorem mX6_key_d : yX6_key.cls ≠ "java/lang/invoke/MethodHandle" ∧ yX6_key.cls ≠ "java/lang/invoke/VarHandle" ∧ (parseMethodDescriptor yX6_key.desc).map (fun d => d.parameters.length) = some 0 := by decide +kernel
theorem mX6_key_n : Cond.instanceMethod yX6_key ∈ TB := TB_of (List.mem_append_right _ (List.mem_of_getElem? (i := 1225) (by decide +kernel))) rfl
theorem mX6_key_v : Cond.selects yX6_key.cls yX6_key yX6_key ∈ TB := TB_of (List.mem_append_left _ (List.mem_of_getElem? (i := 40) (by decide +kernel))) rfl
theorem cw_X6_297 : CWV RX6 297 6 yX6_key cX6_key 1 (some .int) 0 := ⟨⟨TB_of (List.mem_append_right _ (List.mem_of_getElem? (i := 1223) (by decide +kernel))) rfl, mX6_key_i, mX6_key_c, mX6_key_d⟩, mX6_key_n, mX6_key_v, _, _, rfl⟩
theorem mX6_parse_i : Cond.initialized yX6_parse.cls ∈ TB := TB_of (List.mem_append_right _ (List.mem_of_getElem? (i := 8) (by decide +kernel))) rfl
theorem mX6_parse_c : Cond.code yX6_parse cX6_parse 3 (some .int) ∈ TB := TB_of (List.mem_append_right _ (List.mem_of_getElem? (i := 1206) (by decide +kernel))) rfl
theorem mX6_parse_d : yX6_parse.cls ≠ "java/lang/invoke/MethodHandle" ∧ yX6_parse.cls ≠ "java/lang/invoke/VarHandle" ∧ (parseMethodDescriptor yX6_parse.desc).map (fun d => d.parameters.length) = some 0 := by decide +kernel
theorem mX6_parse_n : Cond.instanceMethod yX6_parse ∈ TB := TB_of (List.mem_append_right _ (List.mem_of_getElem? (i := 1205) (by decide +kernel))) rfl
theorem mX6_parse_v : Cond.selects yX6_parse.cls yX6_parse yX6_parse ∈ TB := TB_of (List.mem_append_left _ (List.mem_of_getElem? (i := 36) (by decide +kernel))) rfl
theorem cw_X6_300 : CWV RX6 300 6 yX6_parse cX6_parse 3 (some .int) 0 := ⟨⟨TB_of (List.mem_append_right _ (List.mem_of_getElem? (i := 1203) (by decide +kernel))) rfl, mX6_parse_i, mX6_parse_c, mX6_parse_d⟩, mX6_parse_n, mX6_parse_v, _, _, rfl⟩
theorem mX6_isText_i : Cond.initialized yX6_isText.cls ∈ TB := TB_of (List.mem_append_right _ (List.mem_of_getElem? (i := 8) (by decide +kernel))) rfl
theorem mX6_isText_c : Cond.code yX6_isText cX6_isText 2 (some .boolean) ∈ TB := TB_of (List.mem_append_right _ (List.mem_of_getElem? (i := 1273) (by decide +kernel))) rfl
theorem mX6_isText_d : yX6_isText.cls ≠ "java/lang/invoke/MethodHandle" ∧ yX6_isText.cls ≠ "java/lang/invoke/VarHandle" ∧ (parseMethodDescriptor yX6_isText.desc).map (fun d => d.parameters.length) = some 1 := by decide +kernel
theorem mX6_isText_n : Cond.instanceMethod yX6_isText ∈ TB := TB_of (List.mem_append_right _ (List.mem_of_getElem? (i := 1272) (by decide +kernel))) rfl
theorem mX6_isText_v : Cond.selects yX6_isText.cls yX6_isText yX6_isText ∈ TB := TB_of (List.mem_append_left _ (List.mem_of_getElem? (i := 50) (by decide +kernel))) rfl
theorem cw_X6_303 : CWV RX6 303 6 yX6_isText cX6_isText 2 (some .boolean) 1 := ⟨⟨TB_of (List.mem_append_right _ (List.mem_of_getElem? (i := 1270) (by decide +kernel))) rfl, mX6_isText_i, mX6_isText_c, mX6_isText_d⟩, mX6_isText_n, mX6_isText_v, _, _, rfl⟩
theorem mX6_orNone_i : Cond.initialized yX6_orNone.cls ∈ TB := TB_of (List.mem_append_right _ (List.mem_of_getElem? (i := 8) (by decide +kernel))) rfl
theorem mX6_orNone_c : Cond.code yX6_orNone cX6_orNone 1 (some .int) ∈ TB := TB_of (List.mem_append_right _ (List.mem_of_getElem? (i := 1280) (by decide +kernel))) rfl
theorem mX6_orNone_d : yX6_orNone.cls ≠ "java/lang/invoke/MethodHandle" ∧ yX6_orNone.cls ≠ "java/lang/invoke/VarHandle" ∧ (parseMethodDescriptor yX6_orNone.desc).map (fun d => d.parameters.length) = some 1 := by decide +kernel
theorem mX6_orNone_s : Cond.static yX6_orNone ∈ TB := TB_of (List.mem_append_right _ (List.mem_of_getElem? (i := 1279) (by decide +kernel))) rfl
theorem cw_X6_306 : CWS RX6 306 yX6_orNone cX6_orNone 1 (some .int) 1 := ⟨⟨TB_of (List.mem_append_right _ (List.mem_of_getElem? (i := 1278) (by decide +kernel))) rfl, mX6_orNone_i, mX6_orNone_c, mX6_orNone_d⟩, mX6_orNone_s⟩
theorem mX6_joined_i : Cond.initialized yX6_joined.cls ∈ TB := TB_of (List.mem_append_right _ (List.mem_of_getElem? (i := 8) (by decide +kernel))) rfl
theorem mX6_joined_c : Cond.code yX6_joined cX6_joined 3 (some .int) ∈ TB := TB_of (List.mem_append_right _ (List.mem_of_getElem? (i := 1004) (by decide +kernel))) rfl
theorem mX6_joined_d : yX6_joined.cls ≠ "java/lang/invoke/MethodHandle" ∧ yX6_joined.cls ≠ "java/lang/invoke/VarHandle" ∧ (parseMethodDescriptor yX6_joined.desc).map (fun d => d.parameters.length) = some 3 := by decide +kernel
theorem mX6_joined_s : Cond.static yX6_joined ∈ TB := TB_of (List.mem_append_right _ (List.mem_of_getElem? (i := 1003) (by decide +kernel))) rfl
theorem cw_X6_309 : CWS RX6 309 yX6_joined cX6_joined 3 (some .int) 3 := ⟨⟨TB_of (List.mem_append_right _ (List.mem_of_getElem? (i := 1002) (by decide +kernel))) rfl, mX6_joined_i, mX6_joined_c, mX6_joined_d⟩, mX6_joined_s⟩
theorem mX6_isSheet_i : Cond.initialized yX6_isSheet.cls ∈ TB := TB_of (List.mem_append_right _ (List.mem_of_getElem? (i := 8) (by decide +kernel))) rfl
theorem mX6_isSheet_c : Cond.code yX6_isSheet cX6_isSheet 1 (some .boolean) ∈ TB := TB_of (List.mem_append_right _ (List.mem_of_getElem? (i := 1287) (by decide +kernel))) rfl
theorem mX6_isSheet_d : yX6_isSheet.cls ≠ "java/lang/invoke/MethodHandle" ∧ yX6_isSheet.cls ≠ "java/lang/invoke/VarHandle" ∧ (parseMethodDescriptor yX6_isSheet.desc).map (fun d => d.parameters.length) = some 1 := by decide +kernel
theorem mX6_isSheet_s : Cond.static yX6_isSheet ∈ TB := TB_of (List.mem_append_right _ (List.mem_of_getElem? (i := 1286) (by decide +kernel))) rfl
theorem cw_X6_313 : CWS RX6 313 yX6_isSheet cX6_isSheet 1 (some .boolean) 1 := ⟨⟨TB_of (List.mem_append_right _ (List.mem_of_getElem? (i := 1285) (by decide +kernel))) rfl, mX6_isSheet_i, mX6_isSheet_c, mX6_isSheet_d⟩, mX6_isSheet_s⟩
theorem cl_X6_316 : Cond.constantLong RX6 316 (-1) ∈ TB := TB_of (List.mem_append_right _ (List.mem_of_getElem? (i := 1288) (by decide +kernel))) rfl
theorem cs_X6_318 : Cond.constant RX6 318 (-1000000014) ∈ TB := TB_of (List.mem_append_right _ (List.mem_of_getElem? (i := 1289) (by decide +kernel))) rfl
theorem cs_X6_319 : Cond.constant RX6 319 (-1000000011) ∈ TB := TB_of (List.mem_append_right _ (List.mem_of_getElem? (i := 1294) (by decide +kernel))) rfl
theorem cs_X6_320 : Cond.constant RX6 320 (-1000000013) ∈ TB := TB_of (List.mem_append_right _ (List.mem_of_getElem? (i := 1295) (by decide +kernel))) rfl
theorem cl_X6_321 : Cond.constantLong RX6 321 (-99999) ∈ TB := TB_of (List.mem_append_right _ (List.mem_of_getElem? (i := 1296) (by decide +kernel))) rfl
theorem mX6_off_i : Cond.initialized yX6_off.cls ∈ TB := TB_of (List.mem_append_right _ (List.mem_of_getElem? (i := 8) (by decide +kernel))) rfl
theorem mX6_off_c : Cond.code yX6_off cX6_off 2 (some .int) ∈ TB := TB_of (List.mem_append_right _ (List.mem_of_getElem? (i := 1315) (by decide +kernel))) rfl
theorem mX6_off_d : yX6_off.cls ≠ "java/lang/invoke/MethodHandle" ∧ yX6_off.cls ≠ "java/lang/invoke/VarHandle" ∧ (parseMethodDescriptor yX6_off.desc).map (fun d => d.parameters.length) = some 2 := by decide +kernel
theorem mX6_off_s : Cond.static yX6_off ∈ TB := TB_of (List.mem_append_right _ (List.mem_of_getElem? (i := 1314) (by decide +kernel))) rfl
theorem cw_X6_323 : CWS RX6 323 yX6_off cX6_off 2 (some .int) 2 := ⟨⟨TB_of (List.mem_append_right _ (List.mem_of_getElem? (i := 1313) (by decide +kernel))) rfl, mX6_off_i, mX6_off_c, mX6_off_d⟩, mX6_off_s⟩
theorem mX6_unlike_i : Cond.initialized yX6_unlike.cls ∈ TB := TB_of (List.mem_append_right _ (List.mem_of_getElem? (i := 8) (by decide +kernel))) rfl
theorem mX6_unlike_c : Cond.code yX6_unlike cX6_unlike 7 (some .long) ∈ TB := TB_of (List.mem_append_right _ (List.mem_of_getElem? (i := 1312) (by decide +kernel))) rfl
theorem mX6_unlike_d : yX6_unlike.cls ≠ "java/lang/invoke/MethodHandle" ∧ yX6_unlike.cls ≠ "java/lang/invoke/VarHandle" ∧ (parseMethodDescriptor yX6_unlike.desc).map (fun d => d.parameters.length) = some 2 := by decide +kernel
theorem mX6_unlike_n : Cond.instanceMethod yX6_unlike ∈ TB := TB_of (List.mem_append_right _ (List.mem_of_getElem? (i := 1311) (by decide +kernel))) rfl
theorem mX6_unlike_v : Cond.selects yX6_unlike.cls yX6_unlike yX6_unlike ∈ TB := TB_of (List.mem_append_left _ (List.mem_of_getElem? (i := 51) (by decide +kernel))) rfl
theorem cw_X6_326 : CWV RX6 326 6 yX6_unlike cX6_unlike 7 (some .long) 2 := ⟨⟨TB_of (List.mem_append_right _ (List.mem_of_getElem? (i := 1309) (by decide +kernel))) rfl, mX6_unlike_i, mX6_unlike_c, mX6_unlike_d⟩, mX6_unlike_n, mX6_unlike_v, _, _, rfl⟩
theorem mX6_isSlot_i : Cond.initialized yX6_isSlot.cls ∈ TB := TB_of (List.mem_append_right _ (List.mem_of_getElem? (i := 8) (by decide +kernel))) rfl
theorem mX6_isSlot_c : Cond.code yX6_isSlot cX6_isSlot 1 (some .boolean) ∈ TB := TB_of (List.mem_append_right _ (List.mem_of_getElem? (i := 1326) (by decide +kernel))) rfl
theorem mX6_isSlot_d : yX6_isSlot.cls ≠ "java/lang/invoke/MethodHandle" ∧ yX6_isSlot.cls ≠ "java/lang/invoke/VarHandle" ∧ (parseMethodDescriptor yX6_isSlot.desc).map (fun d => d.parameters.length) = some 1 := by decide +kernel
theorem mX6_isSlot_s : Cond.static yX6_isSlot ∈ TB := TB_of (List.mem_append_right _ (List.mem_of_getElem? (i := 1325) (by decide +kernel))) rfl
theorem cw_X6_330 : CWS RX6 330 yX6_isSlot cX6_isSlot 1 (some .boolean) 1 := ⟨⟨TB_of (List.mem_append_right _ (List.mem_of_getElem? (i := 1324) (by decide +kernel))) rfl, mX6_isSlot_i, mX6_isSlot_c, mX6_isSlot_d⟩, mX6_isSlot_s⟩
theorem cs_X6_333 : Cond.constant RX6 333 (-1000000002) ∈ TB := TB_of (List.mem_append_right _ (List.mem_of_getElem? (i := 1339) (by decide +kernel))) rfl
theorem fl_X6_334 : FL RX6 334 6 29 := ⟨_, _, _, rfl, by decide, TB_of (List.mem_append_right _ (List.mem_of_getElem? (i := 871) (by decide +kernel))) rfl, rfl⟩
theorem cl_X6_337 : Cond.constantLong RX6 337 (30) ∈ TB := TB_of (List.mem_append_right _ (List.mem_of_getElem? (i := 1348) (by decide +kernel))) rfl
theorem fl_X6_339 : FL RX6 339 6 3 := ⟨_, _, _, rfl, by decide, TB_of (List.mem_append_right _ (List.mem_of_getElem? (i := 845) (by decide +kernel))) rfl, rfl⟩
theorem mX6_setAside_i : Cond.initialized yX6_setAside.cls ∈ TB := TB_of (List.mem_append_right _ (List.mem_of_getElem? (i := 8) (by decide +kernel))) rfl
theorem mX6_setAside_c : Cond.code yX6_setAside cX6_setAside 4 none ∈ TB := TB_of (List.mem_append_right _ (List.mem_of_getElem? (i := 1352) (by decide +kernel))) rfl
theorem mX6_setAside_d : yX6_setAside.cls ≠ "java/lang/invoke/MethodHandle" ∧ yX6_setAside.cls ≠ "java/lang/invoke/VarHandle" ∧ (parseMethodDescriptor yX6_setAside.desc).map (fun d => d.parameters.length) = some 2 := by decide +kernel
theorem mX6_setAside_n : Cond.instanceMethod yX6_setAside ∈ TB := TB_of (List.mem_append_right _ (List.mem_of_getElem? (i := 1351) (by decide +kernel))) rfl
theorem mX6_setAside_v : Cond.selects yX6_setAside.cls yX6_setAside yX6_setAside ∈ TB := TB_of (List.mem_append_left _ (List.mem_of_getElem? (i := 52) (by decide +kernel))) rfl
theorem cw_X6_343 : CWV RX6 343 6 yX6_setAside cX6_setAside 4 none 2 := ⟨⟨TB_of (List.mem_append_right _ (List.mem_of_getElem? (i := 1349) (by decide +kernel))) rfl, mX6_setAside_i, mX6_setAside_c, mX6_setAside_d⟩, mX6_setAside_n, mX6_setAside_v, _, _, rfl⟩
theorem cn_within : CNW yX5_within cX5_within 3 (some .boolean) 3 := ⟨mX5_within_i, mX5_within_c, mX5_within_d⟩
theorem cn_held : CNW yX5_held cX5_held 2 (some .int) 2 := ⟨mX5_held_i, mX5_held_c, mX5_held_d⟩
theorem ac_w : Cond.native arraycopyName ∈ TB ∧ Cond.static arraycopyName ∈ TB ∧ Cond.initialized "java/lang/System" ∈ TB := ⟨TB_of (List.mem_append_right _ (List.mem_of_getElem? (i := 485) (by decide +kernel))) rfl, TB_of (List.mem_append_right _ (List.mem_of_getElem? (i := 484) (by decide +kernel))) rfl, TB_of (List.mem_append_right _ (List.mem_of_getElem? (i := 11) (by decide +kernel))) rfl⟩
theorem fp_0_1 : FP 0 1 .int := ⟨_, _, _, rfl, rfl, by decide +kernel⟩
theorem fp_0_2 : FP 0 2 .int := ⟨_, _, _, rfl, rfl, by decide +kernel⟩
theorem fp_0_3 : FP 0 3 .int := ⟨_, _, _, rfl, rfl, by decide +kernel⟩
theorem fp_0_4 : FP 0 4 (.array .int) := ⟨_, _, _, rfl, rfl, by decide +kernel⟩
theorem fp_0_5 : FP 0 5 .int := ⟨_, _, _, rfl, rfl, by decide +kernel⟩
theorem fp_0_6 : FP 0 6 .int := ⟨_, _, _, rfl, rfl, by decide +kernel⟩
theorem fp_0_7 : FP 0 7 .int := ⟨_, _, _, rfl, rfl, by decide +kernel⟩
theorem fp_0_8 : FP 0 8 .int := ⟨_, _, _, rfl, rfl, by decide +kernel⟩
theorem fp_0_9 : FP 0 9 .int := ⟨_, _, _, rfl, rfl, by decide +kernel⟩
theorem fp_1_1 : FP 1 1 .int := ⟨_, _, _, rfl, rfl, by decide +kernel⟩
theorem fp_1_2 : FP 1 2 .int := ⟨_, _, _, rfl, rfl, by decide +kernel⟩
theorem fp_2_1 : FP 2 1 .int := ⟨_, _, _, rfl, rfl, by decide +kernel⟩
theorem fp_2_2 : FP 2 2 .int := ⟨_, _, _, rfl, rfl, by decide +kernel⟩
theorem fp_2_3 : FP 2 3 .int := ⟨_, _, _, rfl, rfl, by decide +kernel⟩
theorem fp_2_4 : FP 2 4 .int := ⟨_, _, _, rfl, rfl, by decide +kernel⟩
theorem fp_2_5 : FP 2 5 .int := ⟨_, _, _, rfl, rfl, by decide +kernel⟩
theorem fp_4_11 : FP 4 11 .int := ⟨_, _, _, rfl, rfl, by decide +kernel⟩
theorem fp_4_12 : FP 4 12 .int := ⟨_, _, _, rfl, rfl, by decide +kernel⟩
theorem fp_4_13 : FP 4 13 .int := ⟨_, _, _, rfl, rfl, by decide +kernel⟩
theorem fp_4_14 : FP 4 14 .int := ⟨_, _, _, rfl, rfl, by decide +kernel⟩
theorem fp_4_15 : FP 4 15 .int := ⟨_, _, _, rfl, rfl, by decide +kernel⟩
theorem fp_4_16 : FP 4 16 .int := ⟨_, _, _, rfl, rfl, by decide +kernel⟩
theorem fp_4_17 : FP 4 17 .int := ⟨_, _, _, rfl, rfl, by decide +kernel⟩
theorem fp_5_4 : FP 5 4 .boolean := ⟨_, _, _, rfl, rfl, by decide +kernel⟩
theorem fp_5_7 : FP 5 7 .int := ⟨_, _, _, rfl, rfl, by decide +kernel⟩
theorem fp_5_11 : FP 5 11 .int := ⟨_, _, _, rfl, rfl, by decide +kernel⟩
theorem fp_6_3 : FP 6 3 .boolean := ⟨_, _, _, rfl, rfl, by decide +kernel⟩
theorem fp_6_14 : FP 6 14 .int := ⟨_, _, _, rfl, rfl, by decide +kernel⟩
theorem fp_6_15 : FP 6 15 .int := ⟨_, _, _, rfl, rfl, by decide +kernel⟩
theorem fp_6_16 : FP 6 16 .int := ⟨_, _, _, rfl, rfl, by decide +kernel⟩
theorem fp_6_17 : FP 6 17 .int := ⟨_, _, _, rfl, rfl, by decide +kernel⟩
theorem fp_6_18 : FP 6 18 .int := ⟨_, _, _, rfl, rfl, by decide +kernel⟩
theorem fp_6_19 : FP 6 19 .int := ⟨_, _, _, rfl, rfl, by decide +kernel⟩
theorem fp_6_20 : FP 6 20 .int := ⟨_, _, _, rfl, rfl, by decide +kernel⟩
theorem fp_6_21 : FP 6 21 .int := ⟨_, _, _, rfl, rfl, by decide +kernel⟩
theorem fp_6_22 : FP 6 22 .int := ⟨_, _, _, rfl, rfl, by decide +kernel⟩
theorem fp_6_23 : FP 6 23 .int := ⟨_, _, _, rfl, rfl, by decide +kernel⟩
theorem fp_6_24 : FP 6 24 .int := ⟨_, _, _, rfl, rfl, by decide +kernel⟩
theorem fp_6_29 : FP 6 29 .int := ⟨_, _, _, rfl, rfl, by decide +kernel⟩
