/-! THE CLASS: one wall becomes another; marks come, go, stay alone -/
def bcF (a b : Nat → Int32) : Nat → Int32 := upd (upd (upd (upd (upd (upd a 11 (b 11)) 12 (b 12)) 13 (b 13)) 14 (b 14)) 15 (b 15)) 16 (b 16)
def QBc (M : TM) (w v : Nat) (M' : TM) : Prop := Kp w M M' ∧ (∀ c, c < 6 → M' 18 w c = M 18 v c ∧ M' 19 w c = M 19 v c ∧ M' 20 w c = M 20 v c) ∧ (∀ i, i < 10 → M' 21 w i = M 21 v i ∧ M' 22 w i = M 22 v i ∧ M' 23 w i = M 23 v i ∧ M' 24 w i = M 24 v i ∧ M' 25 w i = M 25 v i) ∧ (∀ i, i < 3 → M' 26 w i = M 26 v i ∧ M' 27 w i = M 27 v i) ∧ M' 4 w = bcF (M 4 w) (M 4 v)
theorem cpy_00 (a b : Nat → Int32) {n i : Nat} (h : i < n) : va_cpy a b 0 0 n i = a i := by
  unfold va_cpy
  rw [if_pos (by omega)]
  congr 1; omega
theorem QBc.rc {M M' : TM} {w v : Nat} {s : SS} (h : QBc M w v M') (hC : RC M v s) : RC M' w s := by
  obtain ⟨-, h1, h2, h3, h4⟩ := h
  refine ⟨fun c hc => ?_, ?_, ?_, ?_⟩
  · rw [(h1 c hc).1, (h1 c hc).2.1, (h1 c hc).2.2]; exact hC.1 c hc
  · rw [(h3 0 (by decide)).1, (h3 1 (by decide)).1, (h3 2 (by decide)).1]; exact hC.2.1
  · rw [(h3 0 (by decide)).2, (h3 1 (by decide)).2, (h3 2 (by decide)).2]; exact hC.2.2.1
  · rw [h4]; exact hC.2.2.2
theorem QBc.rp {M M' : TM} {w v m : Nat} {f : Nat → Nat} {s : SS} (h : QBc M w v M') (hP : RP M v s m f) : RP M' w s m f := by
  refine ⟨h.rc hP.1, ⟨?_, hP.2.1.2⟩, fun i hi => ⟨(hP.2.2 i hi).1, ?_⟩⟩
  · rw [h.2.2.2.2]; exact hP.2.1.1
  · obtain ⟨a, b, c, d, e⟩ := h.2.2.1 i (Nat.lt_of_lt_of_le hi hP.2.1.2)
    unfold RM
    rw [a, b, c, d, e]; exact (hP.2.2 i hi).2
theorem QBc.rw' {M M' : TM} {w v : Nat} {s : SS} (h : QBc M w v M') (hP : RW M v s) : RW M' w s := ⟨h.rp hP.1, by rw [h.2.2.2.2]; exact hP.2.1, by rw [h.2.2.2.2]; exact hP.2.2⟩
set_option maxRecDepth 100000 in
set_option maxHeartbeats 4000000 in
theorem t4_become {g : GT} (N : TM) (w v : Nat) (hw : w < 3) (hv : v < 3) (hne : v ≠ w) : TR g (rmD 1) RX4 cX4_become 2 none 0 0 (Zm g (Rv (putA N 4 w (bcF (N 4 w) (N 4 v))))) 148 [some (.ref (gad g 4 w)), some (.ref (gad g 4 v))] [] N := by
  refine q_aload_n 149 dX4_become_148 rfl rfl ?_
  refine q_aload_n 150 dX4_become_149 rfl rfl ?_
  refine q_getI 153 dX4_become_150 rfl fl_X4_66 hv rfl (by decide) ?_
  refine q_putI 156 dX4_become_153 rfl fl_X4_66 fp_4_11 hw rfl (by decide) rfl rfl ?_
  refine q_aload_n 157 dX4_become_156 rfl rfl ?_
  refine q_aload_n 158 dX4_become_157 rfl rfl ?_
  refine q_getI 161 dX4_become_158 rfl fl_X4_69 hv rfl (by decide) ?_
  refine q_putI 164 dX4_become_161 rfl fl_X4_69 fp_4_12 hw rfl (by decide) rfl rfl ?_
  refine q_aload_n 165 dX4_become_164 rfl rfl ?_
  refine q_aload_n 166 dX4_become_165 rfl rfl ?_
  refine q_getI 169 dX4_become_166 rfl fl_X4_72 hv rfl (by decide) ?_
  refine q_putI 172 dX4_become_169 rfl fl_X4_72 fp_4_13 hw rfl (by decide) rfl rfl ?_
  refine q_aload_n 173 dX4_become_172 rfl rfl ?_
  refine q_aload_n 174 dX4_become_173 rfl rfl ?_
  refine q_getI 177 dX4_become_174 rfl fl_X4_75 hv rfl (by decide) ?_
  refine q_putI 180 dX4_become_177 rfl fl_X4_75 fp_4_14 hw rfl (by decide) rfl rfl ?_
  refine q_aload_n 181 dX4_become_180 rfl rfl ?_
  refine q_aload_n 182 dX4_become_181 rfl rfl ?_
  refine q_getI 185 dX4_become_182 rfl fl_X4_42 hv rfl (by decide) ?_
  refine q_putI 188 dX4_become_185 rfl fl_X4_42 fp_4_15 hw rfl (by decide) rfl rfl ?_
  refine q_aload_n 189 dX4_become_188 rfl rfl ?_
  refine q_aload_n 190 dX4_become_189 rfl rfl ?_
  refine q_getI 193 dX4_become_190 rfl fl_X4_78 hv rfl (by decide) ?_
  refine q_putI 196 dX4_become_193 rfl fl_X4_78 fp_4_16 hw rfl (by decide) rfl rfl ?_
  refine q_vret dX4_become_196 ?_
  refine ⟨rfl, ?_⟩
  simp only [putA_pp, putA_s, putA_nk _ _ _ _ hne]
  rfl
set_option maxRecDepth 100000 in
set_option maxHeartbeats 4000000 in
theorem c4_become {g : GT} (M : TM) (w v : Nat) (hw : w < 3) (hv : v < 3) (hne : v ≠ w) : Cn g yX4_become cX4_become 2 none 1 [.ref (gad g 4 w), .ref (gad g 4 v)] M (fun r M' => r = none ∧ QBc M w v M') := by
  refine Cn.ofTR (by decide +kernel) (Nat.le_of_ble_eq_true rfl) ?_
  refine q_aload_n 1 dX4_become_0 rfl rfl ?_
  refine q_getR 4 dX4_become_1 rfl fl_X4_9 hv rfl rfl ?_
  refine q_iconst (v := 0) 5 dX4_become_4 rfl rfl ?_
  refine q_aload_n 6 dX4_become_5 rfl rfl ?_
  refine q_getR 9 dX4_become_6 rfl fl_X4_9 hw rfl rfl ?_
  refine q_iconst (v := 0) 10 dX4_become_9 rfl rfl ?_
  refine q_bipush (v := 6) 12 dX4_become_10 rfl rfl ?_
  refine q_acopy 15 dX4_become_12 rfl cw_X4_60 ac_w (by decide) (by decide) hv hw (i := 0) (j := 0) (c := 6) rfl rfl rfl (by decide) (by decide) ⟨by decide, by decide⟩ ?_
  refine q_aload_n 16 dX4_become_15 rfl rfl ?_
  refine q_getR 19 dX4_become_16 rfl fl_X4_15 hv rfl rfl ?_
  refine q_iconst (v := 0) 20 dX4_become_19 rfl rfl ?_
  refine q_aload_n 21 dX4_become_20 rfl rfl ?_
  refine q_getR 24 dX4_become_21 rfl fl_X4_15 hw rfl rfl ?_
  refine q_iconst (v := 0) 25 dX4_become_24 rfl rfl ?_
  refine q_bipush (v := 6) 27 dX4_become_25 rfl rfl ?_
  refine q_acopy 30 dX4_become_27 rfl cw_X4_60 ac_w (by decide) (by decide) hv hw (i := 0) (j := 0) (c := 6) rfl rfl rfl (by decide) (by decide) ⟨by decide, by decide⟩ ?_
  refine q_aload_n 31 dX4_become_30 rfl rfl ?_
  refine q_getR 34 dX4_become_31 rfl fl_X4_18 hv rfl rfl ?_
  refine q_iconst (v := 0) 35 dX4_become_34 rfl rfl ?_
  refine q_aload_n 36 dX4_become_35 rfl rfl ?_
  refine q_getR 39 dX4_become_36 rfl fl_X4_18 hw rfl rfl ?_
  refine q_iconst (v := 0) 40 dX4_become_39 rfl rfl ?_
  refine q_bipush (v := 6) 42 dX4_become_40 rfl rfl ?_
  refine q_acopy 45 dX4_become_42 rfl cw_X4_60 ac_w (by decide) (by decide) hv hw (i := 0) (j := 0) (c := 6) rfl rfl rfl (by decide) (by decide) ⟨by decide, by decide⟩ ?_
  refine q_aload_n 46 dX4_become_45 rfl rfl ?_
  refine q_getR 49 dX4_become_46 rfl fl_X4_21 hv rfl rfl ?_
  refine q_iconst (v := 0) 50 dX4_become_49 rfl rfl ?_
  refine q_aload_n 51 dX4_become_50 rfl rfl ?_
  refine q_getR 54 dX4_become_51 rfl fl_X4_21 hw rfl rfl ?_
  refine q_iconst (v := 0) 55 dX4_become_54 rfl rfl ?_
  refine q_bipush (v := 10) 57 dX4_become_55 rfl rfl ?_
  refine q_acopy 60 dX4_become_57 rfl cw_X4_60 ac_w (by decide) (by decide) hv hw (i := 0) (j := 0) (c := 10) rfl rfl rfl (by decide) (by decide) ⟨by decide, by decide⟩ ?_
  refine q_aload_n 61 dX4_become_60 rfl rfl ?_
  refine q_getR 64 dX4_become_61 rfl fl_X4_24 hv rfl rfl ?_
  refine q_iconst (v := 0) 65 dX4_become_64 rfl rfl ?_
  refine q_aload_n 66 dX4_become_65 rfl rfl ?_
  refine q_getR 69 dX4_become_66 rfl fl_X4_24 hw rfl rfl ?_
  refine q_iconst (v := 0) 70 dX4_become_69 rfl rfl ?_
  refine q_bipush (v := 10) 72 dX4_become_70 rfl rfl ?_
  refine q_acopy 75 dX4_become_72 rfl cw_X4_60 ac_w (by decide) (by decide) hv hw (i := 0) (j := 0) (c := 10) rfl rfl rfl (by decide) (by decide) ⟨by decide, by decide⟩ ?_
  refine q_aload_n 76 dX4_become_75 rfl rfl ?_
  refine q_getR 79 dX4_become_76 rfl fl_X4_27 hv rfl rfl ?_
  refine q_iconst (v := 0) 80 dX4_become_79 rfl rfl ?_
  refine q_aload_n 81 dX4_become_80 rfl rfl ?_
  refine q_getR 84 dX4_become_81 rfl fl_X4_27 hw rfl rfl ?_
  refine q_iconst (v := 0) 85 dX4_become_84 rfl rfl ?_
  refine q_bipush (v := 10) 87 dX4_become_85 rfl rfl ?_
  refine q_acopy 90 dX4_become_87 rfl cw_X4_60 ac_w (by decide) (by decide) hv hw (i := 0) (j := 0) (c := 10) rfl rfl rfl (by decide) (by decide) ⟨by decide, by decide⟩ ?_
  refine q_aload_n 91 dX4_become_90 rfl rfl ?_
  refine q_getR 94 dX4_become_91 rfl fl_X4_30 hv rfl rfl ?_
  refine q_iconst (v := 0) 95 dX4_become_94 rfl rfl ?_
  refine q_aload_n 96 dX4_become_95 rfl rfl ?_
  refine q_getR 99 dX4_become_96 rfl fl_X4_30 hw rfl rfl ?_
  refine q_iconst (v := 0) 100 dX4_become_99 rfl rfl ?_
  refine q_bipush (v := 10) 102 dX4_become_100 rfl rfl ?_
  refine q_acopy 105 dX4_become_102 rfl cw_X4_60 ac_w (by decide) (by decide) hv hw (i := 0) (j := 0) (c := 10) rfl rfl rfl (by decide) (by decide) ⟨by decide, by decide⟩ ?_
  refine q_aload_n 106 dX4_become_105 rfl rfl ?_
  refine q_getR 109 dX4_become_106 rfl fl_X4_33 hv rfl rfl ?_
  refine q_iconst (v := 0) 110 dX4_become_109 rfl rfl ?_
  refine q_aload_n 111 dX4_become_110 rfl rfl ?_
  refine q_getR 114 dX4_become_111 rfl fl_X4_33 hw rfl rfl ?_
  refine q_iconst (v := 0) 115 dX4_become_114 rfl rfl ?_
  refine q_bipush (v := 10) 117 dX4_become_115 rfl rfl ?_
  refine q_acopy 120 dX4_become_117 rfl cw_X4_60 ac_w (by decide) (by decide) hv hw (i := 0) (j := 0) (c := 10) rfl rfl rfl (by decide) (by decide) ⟨by decide, by decide⟩ ?_
  refine q_aload_n 121 dX4_become_120 rfl rfl ?_
  refine q_getR 124 dX4_become_121 rfl fl_X4_36 hv rfl rfl ?_
  refine q_iconst (v := 0) 125 dX4_become_124 rfl rfl ?_
  refine q_aload_n 126 dX4_become_125 rfl rfl ?_
  refine q_getR 129 dX4_become_126 rfl fl_X4_36 hw rfl rfl ?_
  refine q_iconst (v := 0) 130 dX4_become_129 rfl rfl ?_
  refine q_iconst (v := 3) 131 dX4_become_130 rfl rfl ?_
  refine q_acopy 134 dX4_become_131 rfl cw_X4_60 ac_w (by decide) (by decide) hv hw (i := 0) (j := 0) (c := 3) rfl rfl rfl (by decide) (by decide) ⟨by decide, by decide⟩ ?_
  refine q_aload_n 135 dX4_become_134 rfl rfl ?_
  refine q_getR 138 dX4_become_135 rfl fl_X4_39 hv rfl rfl ?_
  refine q_iconst (v := 0) 139 dX4_become_138 rfl rfl ?_
  refine q_aload_n 140 dX4_become_139 rfl rfl ?_
  refine q_getR 143 dX4_become_140 rfl fl_X4_39 hw rfl rfl ?_
  refine q_iconst (v := 0) 144 dX4_become_143 rfl rfl ?_
  refine q_iconst (v := 3) 145 dX4_become_144 rfl rfl ?_
  refine q_acopy 148 dX4_become_145 rfl cw_X4_60 ac_w (by decide) (by decide) hv hw (i := 0) (j := 0) (c := 3) rfl rfl rfl (by decide) (by decide) ⟨by decide, by decide⟩ ?_
  refine TR_post (q_fg (t4_become _ w v hw hv hne) ⟨rfl, rfl, trivial⟩) ?_
  rintro _ _ ⟨rfl, rfl⟩
  refine ⟨rfl, ?_, fun c hc => ⟨?_, ?_, ?_⟩, fun i hi => ⟨?_, ?_, ?_, ?_, ?_⟩, fun i hi => ⟨?_, ?_⟩, ?_⟩
  · repeat' (first | exact Kp.rf | refine Kp.put ?_ (by omega))
  · (repeat (rw [putA_nt _ _ _ _ (by decide)])); rw [putA_s]; first | exact cpy_00 _ _ hc | exact cpy_00 _ _ hi
  · (repeat (rw [putA_nt _ _ _ _ (by decide)])); rw [putA_s]; first | exact cpy_00 _ _ hc | exact cpy_00 _ _ hi
  · (repeat (rw [putA_nt _ _ _ _ (by decide)])); rw [putA_s]; first | exact cpy_00 _ _ hc | exact cpy_00 _ _ hi
  · (repeat (rw [putA_nt _ _ _ _ (by decide)])); rw [putA_s]; first | exact cpy_00 _ _ hc | exact cpy_00 _ _ hi
  · (repeat (rw [putA_nt _ _ _ _ (by decide)])); rw [putA_s]; first | exact cpy_00 _ _ hc | exact cpy_00 _ _ hi
  · (repeat (rw [putA_nt _ _ _ _ (by decide)])); rw [putA_s]; first | exact cpy_00 _ _ hc | exact cpy_00 _ _ hi
  · (repeat (rw [putA_nt _ _ _ _ (by decide)])); rw [putA_s]; first | exact cpy_00 _ _ hc | exact cpy_00 _ _ hi
  · (repeat (rw [putA_nt _ _ _ _ (by decide)])); rw [putA_s]; first | exact cpy_00 _ _ hc | exact cpy_00 _ _ hi
  · (repeat (rw [putA_nt _ _ _ _ (by decide)])); rw [putA_s]; first | exact cpy_00 _ _ hc | exact cpy_00 _ _ hi
  · (repeat (rw [putA_nt _ _ _ _ (by decide)])); rw [putA_s]; first | exact cpy_00 _ _ hc | exact cpy_00 _ _ hi
  · rw [putA_s]; rfl
