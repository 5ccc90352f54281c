/-! THE LAW: its loop -/
theorem sub6_lt {a b : Nat} (ha : a < 2 ^ 29) (hb : b < 2 ^ 29) : nI a - 6 < nI b ↔ a < b + 6 := by
  rw [Int32.lt_iff_toInt_lt, show (6 : Int32) = nI 6 from rfl, pk_sub_toInt (by omega) (by decide), nI_toInt (by omega)]
  omega
set_option maxRecDepth 100000 in
set_option maxHeartbeats 4000000 in
theorem law_loop {g : GT} {kc ks : Nat} (hk : kc ≤ 600000 ∧ ks ≤ 7302250) (hN : gN g ≤ 3072) : ∀ (j p : Nat) (M : TM) (y : Int32), Iv M → gN g + 6 - p < j → p ≤ gN g + 6 → y = nI p → TR g room_1 RL cL_law 4 ret kc ks (ZL g) 18 [some (.ref (gad g 52 0)), some (.ref (gad g 5 0)), some (.ref (gad g 6 0)), some (.int y)] [] M := by
  intro j
  induction j with
  | zero => intro p M y hI hj hp hy; exact absurd hj (by omega)
  | succ j ih =>
    intro p M y hI hj hp6 hy
    subst hy
    have hN31 : gN g < 2 ^ 31 := by omega
    refine q_iload_n 19 dL_law_18 rfl rfl ?_
    refine q_aload_n 20 dL_law_19 rfl rfl ?_
    refine q_slen 21 dL_law_20 rfl ?_
    refine q_bipush (v := 6) 23 dL_law_21 rfl rfl ?_
    refine q_isub 24 dL_law_23 rfl ?_
    refine q_icmp_gt 1582 27 dL_law_24 rfl rfl (fun h_24 => ?_) (fun h_24 => ?_)
    · skip
      rw [sub6_lt (by omega) (by omega)] at h_24
      refine q_iconst (v := 1) 1583 dL_law_1582 rfl rfl ?_
      exact law_end hk
    · skip
      rw [sub6_lt (by omega) (by omega)] at h_24
      have hp : p + 6 ≤ gN g := by omega
      have hih : ∀ M2, Iv M2 → TR g room_1 RL cL_law 4 ret kc ks (ZL g) 1576 [some (.ref (gad g 52 0)), some (.ref (gad g 5 0)), some (.ref (gad g 6 0)), some (.int (nI p))] [] M2 := fun M2 h2 => by
        refine q_iinc 1579 dL_law_1576 rfl rfl (by decide) rfl (nI_add p 6) ?_
        refine q_goto 18 dL_law_1579 rfl ?_
        exact q_fg (ih (p + 6) M2 _ h2 (by omega) (by omega) rfl) ⟨rfl, rfl, rfl, rfl, trivial⟩
      refine q_aload_n 28 dL_law_27 rfl rfl ?_
      refine q_iload_n 29 dL_law_28 rfl rfl ?_
      refine q_sald 30 dL_law_29 rfl rfl (show p < gN g by omega) hN31 ?_
      refine q_bipush (v := 63) 32 dL_law_30 rfl rfl ?_
      refine q_iand 33 dL_law_32 rfl ?_
      by_cases hs_33_0 : (gxs g p &&& 63) = (0 : Int32)
      · skip
        refine q_tab 224 dL_law_33 rfl (sw_eq hs_33_0 rfl) rfl ?_
        exact law_writes hk hN31 M hI p hp hih
      by_cases hs_33_1 : (gxs g p &&& 63) = (1 : Int32)
      · skip
        refine q_tab 277 dL_law_33 rfl (sw_eq hs_33_1 rfl) rfl ?_
        exact law_told hk hN31 M hI p hp hih
      by_cases hs_33_2 : (gxs g p &&& 63) = (2 : Int32)
      · skip
        refine q_tab 310 dL_law_33 rfl (sw_eq hs_33_2 rfl) rfl ?_
        exact law_as hk hN31 M hI p hp hih
      by_cases hs_33_3 : (gxs g p &&& 63) = (3 : Int32)
      · skip
        refine q_tab 343 dL_law_33 rfl (sw_eq hs_33_3 rfl) rfl ?_
        exact law_turns hk hN31 M hI p hp hih
      by_cases hs_33_4 : (gxs g p &&& 63) = (4 : Int32)
      · skip
        refine q_tab 376 dL_law_33 rfl (sw_eq hs_33_4 rfl) rfl ?_
        exact law_set hk hN31 M hI p hp hih
      by_cases hs_33_5 : (gxs g p &&& 63) = (5 : Int32)
      · skip
        refine q_tab 419 dL_law_33 rfl (sw_eq hs_33_5 rfl) rfl ?_
        exact law_cell hk hN31 M hI p hp hih
      by_cases hs_33_6 : (gxs g p &&& 63) = (6 : Int32)
      · skip
        refine q_tab 462 dL_law_33 rfl (sw_eq hs_33_6 rfl) rfl ?_
        exact law_cellOf hk hN31 M hI p hp hih
      by_cases hs_33_7 : (gxs g p &&& 63) = (7 : Int32)
      · skip
        refine q_tab 495 dL_law_33 rfl (sw_eq hs_33_7 rfl) rfl ?_
        exact law_rule hk hN31 M hI p hp hih
      by_cases hs_33_8 : (gxs g p &&& 63) = (8 : Int32)
      · skip
        refine q_tab 528 dL_law_33 rfl (sw_eq hs_33_8 rfl) rfl ?_
        exact law_deal hk hN31 M hI p hp hih
      by_cases hs_33_9 : (gxs g p &&& 63) = (9 : Int32)
      · skip
        refine q_tab 551 dL_law_33 rfl (sw_eq hs_33_9 rfl) rfl ?_
        exact law_seed hk hN31 M hI p hp hih
      by_cases hs_33_10 : (gxs g p &&& 63) = (10 : Int32)
      · skip
        refine q_tab 574 dL_law_33 rfl (sw_eq hs_33_10 rfl) rfl ?_
        exact law_fewest hk hN31 M hI p hp hih
      by_cases hs_33_11 : (gxs g p &&& 63) = (11 : Int32)
      · skip
        refine q_tab 607 dL_law_33 rfl (sw_eq hs_33_11 rfl) rfl ?_
        exact law_breathe hk hN31 M hI p hp hih
      by_cases hs_33_12 : (gxs g p &&& 63) = (12 : Int32)
      · skip
        refine q_tab 630 dL_law_33 rfl (sw_eq hs_33_12 rfl) rfl ?_
        exact law_dig hk hN31 M hI p hp hih
      by_cases hs_33_13 : (gxs g p &&& 63) = (13 : Int32)
      · skip
        refine q_tab 663 dL_law_33 rfl (sw_eq hs_33_13 rfl) rfl ?_
        exact law_springs hk hN31 M hI p hp hih
      by_cases hs_33_14 : (gxs g p &&& 63) = (14 : Int32)
      · skip
        refine q_tab 686 dL_law_33 rfl (sw_eq hs_33_14 rfl) rfl ?_
        exact law_walls hk hN31 M hI p hp hih
      by_cases hs_33_15 : (gxs g p &&& 63) = (15 : Int32)
      · skip
        refine q_tab 709 dL_law_33 rfl (sw_eq hs_33_15 rfl) rfl ?_
        exact law_behind hk hN31 M hI p hp hih
      by_cases hs_33_16 : (gxs g p &&& 63) = (16 : Int32)
      · skip
        refine q_tab 742 dL_law_33 rfl (sw_eq hs_33_16 rfl) rfl ?_
        exact law_lost hk hN31 M hI p hp hih
      by_cases hs_33_17 : (gxs g p &&& 63) = (17 : Int32)
      · skip
        refine q_tab 765 dL_law_33 rfl (sw_eq hs_33_17 rfl) rfl ?_
        exact law_solid hk hN31 M hI p hp hih
      by_cases hs_33_18 : (gxs g p &&& 63) = (18 : Int32)
      · skip
        refine q_tab 788 dL_law_33 rfl (sw_eq hs_33_18 rfl) rfl ?_
        exact law_spoon hk hN31 M hI p hp hih
      by_cases hs_33_19 : (gxs g p &&& 63) = (19 : Int32)
      · skip
        refine q_tab 821 dL_law_33 rfl (sw_eq hs_33_19 rfl) rfl ?_
        exact law_place hk hN31 M hI p hp hih
      by_cases hs_33_20 : (gxs g p &&& 63) = (20 : Int32)
      · skip
        refine q_tab 864 dL_law_33 rfl (sw_eq hs_33_20 rfl) rfl ?_
        exact law_becomes hk hN31 M hI p hp hih
      by_cases hs_33_21 : (gxs g p &&& 63) = (21 : Int32)
      · skip
        refine q_tab 907 dL_law_33 rfl (sw_eq hs_33_21 rfl) rfl ?_
        exact law_eyes hk hN31 M hI p hp hih
      by_cases hs_33_22 : (gxs g p &&& 63) = (22 : Int32)
      · skip
        refine q_tab 940 dL_law_33 rfl (sw_eq hs_33_22 rfl) rfl ?_
        exact law_like hk hN31 M hI p hp hih
      by_cases hs_33_23 : (gxs g p &&& 63) = (23 : Int32)
      · skip
        refine q_tab 973 dL_law_33 rfl (sw_eq hs_33_23 rfl) rfl ?_
        exact law_fee hk hN31 M hI p hp hih
      by_cases hs_33_24 : (gxs g p &&& 63) = (24 : Int32)
      · skip
        refine q_tab 986 dL_law_33 rfl (sw_eq hs_33_24 rfl) rfl ?_
        exact law_fine hk hN31 M hI p hp hih
      by_cases hs_33_25 : (gxs g p &&& 63) = (25 : Int32)
      · skip
        refine q_tab 1009 dL_law_33 rfl (sw_eq hs_33_25 rfl) rfl ?_
        exact law_feed hk hN31 M hI p hp hih
      by_cases hs_33_26 : (gxs g p &&& 63) = (26 : Int32)
      · skip
        refine q_tab 1052 dL_law_33 rfl (sw_eq hs_33_26 rfl) rfl ?_
        exact law_trim hk hN31 M hI p hp hih
      by_cases hs_33_27 : (gxs g p &&& 63) = (27 : Int32)
      · skip
        refine q_tab 1075 dL_law_33 rfl (sw_eq hs_33_27 rfl) rfl ?_
        exact law_text hk hN31 M hI p hp hih
      by_cases hs_33_28 : (gxs g p &&& 63) = (28 : Int32)
      · skip
        refine q_tab 1088 dL_law_33 rfl (sw_eq hs_33_28 rfl) rfl ?_
        exact law_textTold hk hN31 M hI p hp hih
      by_cases hs_33_29 : (gxs g p &&& 63) = (29 : Int32)
      · skip
        refine q_tab 1121 dL_law_33 rfl (sw_eq hs_33_29 rfl) rfl ?_
        exact law_why hk hN31 M hI p hp hih
      by_cases hs_33_30 : (gxs g p &&& 63) = (30 : Int32)
      · skip
        refine q_tab 1144 dL_law_33 rfl (sw_eq hs_33_30 rfl) rfl ?_
        exact law_sheet hk hN31 M hI p hp hih
      by_cases hs_33_31 : (gxs g p &&& 63) = (31 : Int32)
      · skip
        refine q_tab 1187 dL_law_33 rfl (sw_eq hs_33_31 rfl) rfl ?_
        exact law_mark hk hN31 M hI p hp hih
      by_cases hs_33_32 : (gxs g p &&& 63) = (32 : Int32)
      · skip
        refine q_tab 1230 dL_law_33 rfl (sw_eq hs_33_32 rfl) rfl ?_
        exact law_pour hk hN31 M hI p hp hih
      by_cases hs_33_33 : (gxs g p &&& 63) = (33 : Int32)
      · skip
        refine q_tab 1253 dL_law_33 rfl (sw_eq hs_33_33 rfl) rfl ?_
        exact law_reads hk hN31 M hI p hp hih
      by_cases hs_33_34 : (gxs g p &&& 63) = (34 : Int32)
      · skip
        refine q_tab 1276 dL_law_33 rfl (sw_eq hs_33_34 rfl) rfl ?_
        exact law_copy hk hN31 M hI p hp hih
      by_cases hs_33_35 : (gxs g p &&& 63) = (35 : Int32)
      · skip
        refine q_tab 1339 dL_law_33 rfl (sw_eq hs_33_35 rfl) rfl ?_
        exact law_lay hk hN31 M hI p hp hih
      by_cases hs_33_36 : (gxs g p &&& 63) = (36 : Int32)
      · skip
        refine q_tab 1382 dL_law_33 rfl (sw_eq hs_33_36 rfl) rfl ?_
        exact law_ask hk hN31 M hI p hp hih
      by_cases hs_33_37 : (gxs g p &&& 63) = (37 : Int32)
      · skip
        refine q_tab 1415 dL_law_33 rfl (sw_eq hs_33_37 rfl) rfl ?_
        exact law_item hk hN31 M hI p hp hih
      by_cases hs_33_38 : (gxs g p &&& 63) = (38 : Int32)
      · skip
        refine q_tab 1448 dL_law_33 rfl (sw_eq hs_33_38 rfl) rfl ?_
        exact law_rest hk hN31 M hI p hp hih
      by_cases hs_33_39 : (gxs g p &&& 63) = (39 : Int32)
      · skip
        refine q_tab 1481 dL_law_33 rfl (sw_eq hs_33_39 rfl) rfl ?_
        exact law_tell hk hN31 M hI p hp hih
      by_cases hs_33_40 : (gxs g p &&& 63) = (40 : Int32)
      · skip
        refine q_tab 1504 dL_law_33 rfl (sw_eq hs_33_40 rfl) rfl ?_
        exact law_check hk hN31 M hI p hp hih
      by_cases hs_33_41 : (gxs g p &&& 63) = (41 : Int32)
      · skip
        refine q_tab 1527 dL_law_33 rfl (sw_eq hs_33_41 rfl) rfl ?_
        exact law_keep hk hN31 M hI p hp hih
      by_cases hs_33_42 : (gxs g p &&& 63) = (42 : Int32)
      · skip
        refine q_tab 1540 dL_law_33 rfl (sw_eq hs_33_42 rfl) rfl ?_
        exact law_back hk hN31 M hI p hp hih
      by_cases hs_33_43 : (gxs g p &&& 63) = (43 : Int32)
      · skip
        refine q_tab 1553 dL_law_33 rfl (sw_eq hs_33_43 rfl) rfl ?_
        exact law_count hk hN31 M hI p hp hih
      refine q_tab 1576 dL_law_33 rfl (sw_def [0, 1, 2, 3, 4, 5, 6, 7, 8, 9, 10, 11, 12, 13, 14, 15, 16, 17, 18, 19, 20, 21, 22, 23, 24, 25, 26, 27, 28, 29, 30, 31, 32, 33, 34, 35, 36, 37, 38, 39, 40, 41, 42, 43] (by decide) rfl (by simp only [List.mem_cons, List.not_mem_nil, or_false, not_or]; exact ⟨lv_neT hs_33_0 rfl, lv_neT hs_33_1 rfl, lv_neT hs_33_2 rfl, lv_neT hs_33_3 rfl, lv_neT hs_33_4 rfl, lv_neT hs_33_5 rfl, lv_neT hs_33_6 rfl, lv_neT hs_33_7 rfl, lv_neT hs_33_8 rfl, lv_neT hs_33_9 rfl, lv_neT hs_33_10 rfl, lv_neT hs_33_11 rfl, lv_neT hs_33_12 rfl, lv_neT hs_33_13 rfl, lv_neT hs_33_14 rfl, lv_neT hs_33_15 rfl, lv_neT hs_33_16 rfl, lv_neT hs_33_17 rfl, lv_neT hs_33_18 rfl, lv_neT hs_33_19 rfl, lv_neT hs_33_20 rfl, lv_neT hs_33_21 rfl, lv_neT hs_33_22 rfl, lv_neT hs_33_23 rfl, lv_neT hs_33_24 rfl, lv_neT hs_33_25 rfl, lv_neT hs_33_26 rfl, lv_neT hs_33_27 rfl, lv_neT hs_33_28 rfl, lv_neT hs_33_29 rfl, lv_neT hs_33_30 rfl, lv_neT hs_33_31 rfl, lv_neT hs_33_32 rfl, lv_neT hs_33_33 rfl, lv_neT hs_33_34 rfl, lv_neT hs_33_35 rfl, lv_neT hs_33_36 rfl, lv_neT hs_33_37 rfl, lv_neT hs_33_38 rfl, lv_neT hs_33_39 rfl, lv_neT hs_33_40 rfl, lv_neT hs_33_41 rfl, lv_neT hs_33_42 rfl, lv_neT hs_33_43 rfl⟩)) rfl ?_
      exact hih M hI
