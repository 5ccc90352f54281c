/-! THE CLASS: copies, slots laid -/
abbrev cCopy5 (M : TM) (f pl t at_ m : Int32) : Prop := (isS f ∧ isS t) ∧ ¬ (M 1 (tn f) 1 < 0 ∨ M 1 (tn t) 1 < 0) ∧ M 1 (tn f) 1 = M 1 (tn t) 1 ∧ cIdx pl m (tn (M 1 (tn f) 2)) ∧ cIdx at_ m (tn (M 1 (tn t) 2))
def cpM5 (M : TM) (f pl t at_ m : Int32) : TM := if cCopy5 M f pl t at_ m then putA M 12 (tn t) (va_cpy (M 12 (tn f)) (M 12 (tn t)) (tn pl) (tn at_) (tn m)) else M
theorem cpM5_n {M : TM} {f pl t at_ m : Int32} (h : ¬ cCopy5 M f pl t at_ m) : M = cpM5 M f pl t at_ m := (if_neg h).symm
set_option maxRecDepth 100000 in
set_option maxHeartbeats 4000000 in
theorem c5_copy {g : GT} (M : TM) (f pl t at_ m : Int32) (hS : WS5 M) : Cn g yX5_copy cX5_copy 8 (some .int) 2 [.ref (gad g 5 0), .int f, .int pl, .int t, .int at_, .int m] M (fun r M' => r = some (.int (if isS f ∧ isS t then aCopy (M 1 (tn f) 1) (M 1 (tn t) 1) (tn (M 1 (tn f) 2)) (tn (M 1 (tn t) 2)) pl at_ m else BADc)) ∧ M' = cpM5 M f pl t at_ m) := by
  refine Cn.ofTR (by decide +kernel) (Nat.le_of_ble_eq_true rfl) ?_
  refine q_iload_n 1 dX5_copy_0 rfl rfl ?_
  refine q_callSt 4 dX5_copy_1 rfl (c5_isSheet _ _) cw_X5_212 rfl rfl ⟨by decide, by decide⟩ ⟨by decide, by decide⟩ (Nat.le_of_ble_eq_true rfl) ?_
  refine q_if_eq 14 7 dX5_copy_4 rfl rfl (fun h_4 => ?_) (fun h_4 => ?_)
  · skip
    simp only [bI_0, Classical.not_not] at h_4
    refine q_ldc 16 dX5_copy_14 rfl cs_X5_73 ?_
    refine q_iret dX5_copy_16 ?_
    refine ⟨congrArg (fun x => some (Value.int x)) ?_, cpM5_n (fun q => ?_)⟩
    · rw [if_neg (fun q => by first | exact h_4 q.1 | exact h_11 q.2)]
    · first | exact h_4 q.1.1 | exact h_11 q.1.2
  · skip
    simp only [bI_0, Classical.not_not] at h_4
    obtain ⟨ef, lf⟩ := rg_tn h_4 (n := 3) rfl
    have f4 : tn f < 4 := by omega
    obtain ⟨hsf, zf, zf24, ezf⟩ := hS (tn f) f4
    have tf : tn (M 1 (tn f) 2) = zf := by rw [ezf]; exact nI_clamp (by omega)
    refine q_iload_n 8 dX5_copy_7 rfl rfl ?_
    refine q_callSt 11 dX5_copy_8 rfl (c5_isSheet _ _) cw_X5_212 rfl rfl ⟨by decide, by decide⟩ ⟨by decide, by decide⟩ (Nat.le_of_ble_eq_true rfl) ?_
    refine q_if_ne 17 14 dX5_copy_11 rfl rfl (fun h_11 => ?_) (fun h_11 => ?_)
    · skip
      simp only [bI_0, Classical.not_not] at h_11
      obtain ⟨et, lt⟩ := rg_tn h_11 (n := 3) rfl
      have t4 : tn t < 4 := by omega
      obtain ⟨hst, zt, zt24, ezt⟩ := hS (tn t) t4
      have tt : tn (M 1 (tn t) 2) = zt := by rw [ezt]; exact nI_clamp (by omega)
      refine q_aload_n 18 dX5_copy_17 rfl rfl ?_
      refine q_iload_n 19 dX5_copy_18 rfl rfl ?_
      refine q_callVt 22 dX5_copy_19 rfl (c5_isMissing _ _ (tn f) ef f4) cw_X5_215 (by decide) rfl rfl ⟨by decide, by decide⟩ ⟨by decide, by decide⟩ (Nat.le_of_ble_eq_true rfl) ?_
      refine q_if_ne 33 25 dX5_copy_22 rfl rfl (fun h_22 => ?_) (fun h_22 => ?_)
      · skip
        simp only [bI_0, Classical.not_not] at h_22
        rw [ms_iff hsf] at h_22
        refine q_ldc 35 dX5_copy_33 rfl cs_X5_218 ?_
        refine q_iret dX5_copy_35 ?_
        refine ⟨congrArg (fun x => some (Value.int x)) ?_, cpM5_n (fun q => ?_)⟩
        · rw [if_pos ⟨h_4, h_11⟩]
          unfold aCopy
          first | (have hq := h_30; rw [if_pos (Or.inr hq)]; done) | (have hq := h_22; rw [if_pos (Or.inl hq)]; done)
        · first | (have hq := h_30; exact q.2.1 (Or.inr hq)) | (have hq := h_22; exact q.2.1 (Or.inl hq))
      · skip
        simp only [bI_0, Classical.not_not] at h_22
        rw [ms_iff hsf] at h_22
        refine q_aload_n 26 dX5_copy_25 rfl rfl ?_
        refine q_iload_n 27 dX5_copy_26 rfl rfl ?_
        refine q_callVt 30 dX5_copy_27 rfl (c5_isMissing _ _ (tn t) et t4) cw_X5_215 (by decide) rfl rfl ⟨by decide, by decide⟩ ⟨by decide, by decide⟩ (Nat.le_of_ble_eq_true rfl) ?_
        refine q_if_eq 36 33 dX5_copy_30 rfl rfl (fun h_30 => ?_) (fun h_30 => ?_)
        · skip
          simp only [bI_0, Classical.not_not] at h_30
          rw [ms_iff hst] at h_30
          refine q_aload_n 37 dX5_copy_36 rfl rfl ?_
          refine q_getR 40 dX5_copy_37 rfl fl_X5_44 (by decide) rfl rfl ?_
          refine q_iload_n 41 dX5_copy_40 rfl rfl ?_
          refine q_aald7 42 dX5_copy_41 rfl ef f4 ?_
          refine q_astore 44 dX5_copy_42 rfl (by decide) rfl ?_
          refine q_aload_n 45 dX5_copy_44 rfl rfl ?_
          refine q_getR 48 dX5_copy_45 rfl fl_X5_44 (by decide) rfl rfl ?_
          refine q_iload_n 49 dX5_copy_48 rfl rfl ?_
          refine q_aald7 50 dX5_copy_49 rfl et t4 ?_
          refine q_astore 52 dX5_copy_50 rfl (by decide) rfl ?_
          refine q_aload 54 dX5_copy_52 rfl rfl ?_
          refine q_getI 57 dX5_copy_54 rfl fl_X5_267 (show tn f < 9 by omega) rfl (by decide) ?_
          refine q_aload 59 dX5_copy_57 rfl rfl ?_
          refine q_getI 62 dX5_copy_59 rfl fl_X5_267 (show tn t < 9 by omega) rfl (by decide) ?_
          refine q_icmp_eq 68 65 dX5_copy_62 rfl rfl (fun h_62 => ?_) (fun h_62 => ?_)
          · skip
            refine q_aload 70 dX5_copy_68 rfl rfl ?_
            refine q_iload_n 71 dX5_copy_70 rfl rfl ?_
            refine q_iload 73 dX5_copy_71 rfl rfl ?_
            refine q_callVt 76 dX5_copy_73 rfl (c1_hasRun _ (tn f) (by omega) _ _ zf zf24 ezf) cw_X5_277 (show tn f < 9 by omega) rfl rfl ⟨by decide, by decide⟩ ⟨by decide, by decide⟩ (Nat.le_of_ble_eq_true rfl) ?_
            refine q_if_eq 91 79 dX5_copy_76 rfl rfl (fun h_76 => ?_) (fun h_76 => ?_)
            · skip
              simp only [bI_0, Classical.not_not] at h_76
              refine q_ldc_w 94 dX5_copy_91 rfl cs_X5_266 ?_
              refine q_iret dX5_copy_94 ?_
              refine ⟨congrArg (fun x => some (Value.int x)) ?_, cpM5_n (fun q => ?_)⟩
              · rw [if_pos ⟨h_4, h_11⟩]
                unfold aCopy
                rw [if_neg (fun z => z.elim h_22 h_30), if_neg (fun z => z h_62), tf, tt, if_neg (fun z => by first | exact h_76 z.1 | exact h_88 z.2)]
              · have q1 := q.2.2.2.1
                have q2 := q.2.2.2.2
                rw [tf] at q1
                rw [tt] at q2
                first | exact h_76 q1 | exact h_88 q2
            · skip
              simp only [bI_0, Classical.not_not] at h_76
              refine q_aload 81 dX5_copy_79 rfl rfl ?_
              refine q_iload 83 dX5_copy_81 rfl rfl ?_
              refine q_iload 85 dX5_copy_83 rfl rfl ?_
              refine q_callVt 88 dX5_copy_85 rfl (c1_hasRun _ (tn t) (by omega) _ _ zt zt24 ezt) cw_X5_277 (show tn t < 9 by omega) rfl rfl ⟨by decide, by decide⟩ ⟨by decide, by decide⟩ (Nat.le_of_ble_eq_true rfl) ?_
              refine q_if_ne 95 91 dX5_copy_88 rfl rfl (fun h_88 => ?_) (fun h_88 => ?_)
              · skip
                simp only [bI_0, Classical.not_not] at h_88
                refine q_aload 97 dX5_copy_95 rfl rfl ?_
                refine q_getR 100 dX5_copy_97 rfl fl_X5_271 (show tn f < 9 by omega) rfl rfl ?_
                refine q_iload_n 101 dX5_copy_100 rfl rfl ?_
                refine q_aload 103 dX5_copy_101 rfl rfl ?_
                refine q_getR 106 dX5_copy_103 rfl fl_X5_271 (show tn t < 9 by omega) rfl rfl ?_
                refine q_iload 108 dX5_copy_106 rfl rfl ?_
                refine q_iload 110 dX5_copy_108 rfl rfl ?_
                refine q_acopy 113 dX5_copy_110 rfl cw_X5_280 ac_w (by decide) (by decide) (show tn f < 9 by omega) (show tn t < 9 by omega) (i := tn pl) (j := tn at_) (c := tn m) (pos_tn h_76.1).1 (pos_tn h_88.1).1 (pos_tn h_76.2.1).1 (show tn pl + tn m ≤ 24 by have := h_76.2.2; omega) (show tn at_ + tn m ≤ 24 by have := h_88.2.2; omega) ⟨by decide, by decide⟩ ?_
                refine q_iload 115 dX5_copy_113 rfl rfl ?_
                refine q_iret dX5_copy_115 ?_
                have hc : cCopy5 M f pl t at_ m := ⟨⟨h_4, h_11⟩, fun z => z.elim h_22 h_30, h_62, by rw [tf]; exact h_76, by rw [tt]; exact h_88⟩
                refine ⟨congrArg (fun x => some (Value.int x)) ?_, (if_pos hc).symm⟩
                rw [if_pos ⟨h_4, h_11⟩]
                unfold aCopy
                rw [if_neg (fun z => z.elim h_22 h_30), if_neg (fun z => z h_62), tf, tt, if_pos ⟨h_76, h_88⟩]
              · skip
                simp only [bI_0, Classical.not_not] at h_88
                refine q_ldc_w 94 dX5_copy_91 rfl cs_X5_266 ?_
                refine q_iret dX5_copy_94 ?_
                refine ⟨congrArg (fun x => some (Value.int x)) ?_, cpM5_n (fun q => ?_)⟩
                · rw [if_pos ⟨h_4, h_11⟩]
                  unfold aCopy
                  rw [if_neg (fun z => z.elim h_22 h_30), if_neg (fun z => z h_62), tf, tt, if_neg (fun z => by first | exact h_76 z.1 | exact h_88 z.2)]
                · have q1 := q.2.2.2.1
                  have q2 := q.2.2.2.2
                  rw [tf] at q1
                  rw [tt] at q2
                  first | exact h_76 q1 | exact h_88 q2
          · skip
            refine q_ldc 67 dX5_copy_65 rfl cs_X5_119 ?_
            refine q_iret dX5_copy_67 ?_
            refine ⟨congrArg (fun x => some (Value.int x)) ?_, cpM5_n (fun q => ?_)⟩
            · rw [if_pos ⟨h_4, h_11⟩]
              unfold aCopy
              rw [if_neg (fun z => z.elim h_22 h_30), if_pos h_62]
            · exact h_62 q.2.2.1
        · skip
          simp only [bI_0, Classical.not_not] at h_30
          rw [ms_iff hst] at h_30
          refine q_ldc 35 dX5_copy_33 rfl cs_X5_218 ?_
          refine q_iret dX5_copy_35 ?_
          refine ⟨congrArg (fun x => some (Value.int x)) ?_, cpM5_n (fun q => ?_)⟩
          · rw [if_pos ⟨h_4, h_11⟩]
            unfold aCopy
            first | (have hq := h_30; rw [if_pos (Or.inr hq)]; done) | (have hq := h_22; rw [if_pos (Or.inl hq)]; done)
          · first | (have hq := h_30; exact q.2.1 (Or.inr hq)) | (have hq := h_22; exact q.2.1 (Or.inl hq))
    · skip
      simp only [bI_0, Classical.not_not] at h_11
      refine q_ldc 16 dX5_copy_14 rfl cs_X5_73 ?_
      refine q_iret dX5_copy_16 ?_
      refine ⟨congrArg (fun x => some (Value.int x)) ?_, cpM5_n (fun q => ?_)⟩
      · rw [if_neg (fun q => by first | exact h_4 q.1 | exact h_11 q.2)]
      · first | exact h_4 q.1.1 | exact h_11 q.1.2
theorem lay_0 {s : SS} {l t k : Int32} (h : t = 0 ∨ t = 3) : cLay s l t k ↔ isL l := ⟨fun q => q.1, fun q => ⟨q, h.elim Or.inl (fun z => Or.inr (Or.inl z))⟩⟩
theorem lay_1 {s : SS} {l t k : Int32} (h : t = 1) : cLay s l t k ↔ isL l ∧ isM s k := by
  subst h
  exact ⟨fun q => ⟨q.1, by rcases q.2 with e | e | e | e; exact absurd e (by decide); exact absurd e (by decide); exact e.2; exact absurd e.1 (by decide)⟩, fun q => ⟨q.1, Or.inr (Or.inr (Or.inl ⟨rfl, q.2⟩))⟩⟩
theorem lay_2 {s : SS} {l t k : Int32} (h : t = 2) : cLay s l t k ↔ isL l ∧ isS k := by
  subst h
  exact ⟨fun q => ⟨q.1, by rcases q.2 with e | e | e | e; exact absurd e (by decide); exact absurd e (by decide); exact absurd e.1 (by decide); exact e.2⟩, fun q => ⟨q.1, Or.inr (Or.inr (Or.inr ⟨rfl, q.2⟩))⟩⟩
def aLay5 (M : TM) (s : SS) (l t k : Int32) : Int32 := if cLay s l t k then (if t = 2 ∧ M 1 (tn k) 1 < 0 then NOTHc else M 2 (tn l) 1) else BADc
def lyM0 (M : TM) (l t : Int32) : TM := putA M 2 (tn l) (upd (M 2 (tn l)) 1 t)
def lyM (M : TM) (l t k : Int32) : TM := if t = 1 then putA M 2 (tn l) (upd (upd (upd (upd (M 2 (tn l)) 1 t) 3 (M 21 0 (tn k))) 4 (M 22 0 (tn k))) 5 (M 25 0 (tn k))) else if t = 2 then sbM (lyM0 M l t) (tn l + 4) (tn k) else if t = 3 then putA M 2 (tn l) (upd (upd (M 2 (tn l)) 1 t) 2 k) else lyM0 M l t
def mLay5 (M : TM) (s : SS) (l t k : Int32) : TM := if cLay s l t k ∧ ¬ (t = 2 ∧ M 1 (tn k) 1 < 0) then lyM M l t k else M
theorem lay_n {M : TM} {s : SS} {l t k : Int32} (h : ¬ cLay s l t k) : (some (Value.int BADc) = some (.int (aLay5 M s l t k))) ∧ M = mLay5 M s l t k := ⟨by unfold aLay5; rw [if_neg h], by unfold mLay5; rw [if_neg (fun q => h q.1)]⟩
theorem lay_y {M : TM} {s : SS} {l t k : Int32} (h : cLay s l t k) (h2 : ¬ (t = 2 ∧ M 1 (tn k) 1 < 0)) : aLay5 M s l t k = M 2 (tn l) 1 ∧ mLay5 M s l t k = lyM M l t k := ⟨by unfold aLay5; rw [if_pos h, if_neg h2], by unfold mLay5; rw [if_pos ⟨h, h2⟩]⟩
theorem lyM_1 {M : TM} {l t k : Int32} (h : t = 1) : lyM M l t k = putA M 2 (tn l) (upd (upd (upd (upd (M 2 (tn l)) 1 t) 3 (M 21 0 (tn k))) 4 (M 22 0 (tn k))) 5 (M 25 0 (tn k))) := if_pos h
theorem lyM_2 {M : TM} {l t k : Int32} (h : t = 2) : lyM M l t k = sbM (lyM0 M l t) (tn l + 4) (tn k) := by unfold lyM; rw [if_neg (by rw [h]; decide), if_pos h]
theorem lyM_3 {M : TM} {l t k : Int32} (h : t = 3) : lyM M l t k = putA M 2 (tn l) (upd (upd (M 2 (tn l)) 1 t) 2 k) := by unfold lyM; rw [if_neg (by rw [h]; decide), if_neg (by rw [h]; decide), if_pos h]
theorem lyM_0 {M : TM} {l t k : Int32} (h : ¬ t = 1) (h2 : ¬ t = 2) (h3 : ¬ t = 3) : lyM M l t k = lyM0 M l t := by unfold lyM; rw [if_neg h, if_neg h2, if_neg h3]
theorem lay_03 {t : Int32} (h : 0 ≤ t ∧ t ≤ 3) (h1 : ¬ t = 1) (h2 : ¬ t = 2) : t = 0 ∨ t = 3 := by
  obtain ⟨e, l⟩ := rg_tn h (n := 3) rfl
  have : tn t = 0 ∨ tn t = 1 ∨ tn t = 2 ∨ tn t = 3 := by omega
  rcases this with z | z | z | z <;> rw [z] at e
  · exact Or.inl e
  · exact absurd e h1
  · exact absurd e h2
  · exact Or.inr e
set_option maxRecDepth 100000 in
set_option maxHeartbeats 4000000 in
theorem c5_lay {g : GT} (M : TM) (l t k : Int32) (hS : WS5 M) (s : SS) (hR : RW M 0 s) (hW : WF 9999 s) (hT : RT M s) : Cn g yX5_lay cX5_lay 6 (some .int) 2 [.ref (gad g 5 0), .int l, .int t, .int k] M (fun r M' => r = some (.int (aLay5 M s l t k)) ∧ M' = mLay5 M s l t k) := by
  refine Cn.ofTR (by decide +kernel) (Nat.le_of_ble_eq_true rfl) ?_
  have e11 : M 4 0 11 = s 0 := hR.1.2.1.1.trans hW.1.1.symm
  refine q_iload_n 1 dX5_lay_0 rfl rfl ?_
  refine q_callSt 4 dX5_lay_1 rfl (c5_isSlot _ _) cw_X5_286 rfl rfl ⟨by decide, by decide⟩ ⟨by decide, by decide⟩ (Nat.le_of_ble_eq_true rfl) ?_
  refine q_if_eq 16 7 dX5_lay_4 rfl rfl (fun h_4 => ?_) (fun h_4 => ?_)
  · skip
    simp only [bI_0, Classical.not_not] at h_4
    refine q_ldc 18 dX5_lay_16 rfl cs_X5_73 ?_
    refine q_iret dX5_lay_18 ?_
    refine lay_n (fun q => ?_)
    first | exact h_4 q.1 | (rcases q.2 with e | e | e | e; exact h_13 (by rw [e]; decide); exact h_13 (by rw [e]; decide); exact h_13 (by rw [e.1]; decide); exact h_13 (by rw [e.1]; decide))
  · skip
    simp only [bI_0, Classical.not_not] at h_4
    obtain ⟨el, ll⟩ := rg_tn h_4 (n := 4) rfl
    have l5 : tn l < 5 := by omega
    refine q_iload_n 8 dX5_lay_7 rfl rfl ?_
    refine q_iconst (v := 0) 9 dX5_lay_8 rfl rfl ?_
    refine q_iconst (v := 3) 10 dX5_lay_9 rfl rfl ?_
    refine q_callSt 13 dX5_lay_10 rfl (c5_within _ _ _ _) cw_X5_66 rfl rfl ⟨by decide, by decide⟩ ⟨by decide, by decide⟩ (Nat.le_of_ble_eq_true rfl) ?_
    refine q_if_ne 19 16 dX5_lay_13 rfl rfl (fun h_13 => ?_) (fun h_13 => ?_)
    · skip
      simp only [bI_0, Classical.not_not] at h_13
      refine q_iload_n 20 dX5_lay_19 rfl rfl ?_
      refine q_iconst (v := 1) 21 dX5_lay_20 rfl rfl ?_
      refine q_icmp_ne 32 24 dX5_lay_21 rfl rfl (fun h_21 => ?_) (fun h_21 => ?_)
      · skip
        refine q_iload_n 33 dX5_lay_32 rfl rfl ?_
        refine q_iconst (v := 2) 34 dX5_lay_33 rfl rfl ?_
        refine q_icmp_ne 47 37 dX5_lay_34 rfl rfl (fun h_34 => ?_) (fun h_34 => ?_)
        · skip
          refine q_iload_n 48 dX5_lay_47 rfl rfl ?_
          refine q_iconst (v := 2) 49 dX5_lay_48 rfl rfl ?_
          refine q_icmp_ne 63 52 dX5_lay_49 rfl rfl (fun h_49 => ?_) (fun h_49 => ?_)
          · skip
            refine q_aload_n 64 dX5_lay_63 rfl rfl ?_
            refine q_getR 67 dX5_lay_64 rfl fl_X5_50 (by decide) rfl rfl ?_
            refine q_iload_n 68 dX5_lay_67 rfl rfl ?_
            refine q_aald8 69 dX5_lay_68 rfl el l5 ?_
            refine q_astore 71 dX5_lay_69 rfl (by decide) rfl ?_
            refine q_aload 73 dX5_lay_71 rfl rfl ?_
            refine q_getI 76 dX5_lay_73 rfl fl_X5_289 l5 rfl (by decide) ?_
            refine q_istore 78 dX5_lay_76 rfl (by decide) rfl ?_
            refine q_aload 80 dX5_lay_78 rfl rfl ?_
            refine q_iload_n 81 dX5_lay_80 rfl rfl ?_
            refine q_putI 84 dX5_lay_81 rfl fl_X5_289 fp_2_1 l5 rfl (by decide) rfl rfl ?_
            refine q_iload_n 85 dX5_lay_84 rfl rfl ?_
            refine q_iconst (v := 1) 86 dX5_lay_85 rfl rfl ?_
            refine q_icmp_ne 124 89 dX5_lay_86 rfl rfl (fun h_86 => ?_) (fun h_86 => ?_)
            · skip
              refine q_iload_n 125 dX5_lay_124 rfl rfl ?_
              refine q_iconst (v := 2) 126 dX5_lay_125 rfl rfl ?_
              refine q_icmp_ne 146 129 dX5_lay_126 rfl rfl (fun h_126 => ?_) (fun h_126 => ?_)
              · skip
                refine q_iload_n 147 dX5_lay_146 rfl rfl ?_
                refine q_iconst (v := 3) 148 dX5_lay_147 rfl rfl ?_
                refine q_icmp_ne 157 151 dX5_lay_148 rfl rfl (fun h_148 => ?_) (fun h_148 => ?_)
                · skip
                  refine q_iload 159 dX5_lay_157 rfl rfl ?_
                  refine q_iret dX5_lay_159 ?_
                  first
                  | (have hq := hM1; have hcl : cLay s l t k := (lay_1 h_86).mpr ⟨h_4, hq⟩; have hx : ¬ (t = 2 ∧ M 1 (tn k) 1 < 0) := (fun q => by rw [h_86] at q; exact absurd q.1 (by decide)); refine ⟨congrArg (fun x => some (Value.int x)) (lay_y hcl hx).1.symm, Eq.trans ?_ (lay_y hcl hx).2.symm⟩; rw [lyM_1 h_86, putA_pp, putA_s]; rfl)
                  | (have hq := hS1; have hcl : cLay s l t k := (lay_2 h_126).mpr ⟨h_4, hq⟩; have hx : ¬ (t = 2 ∧ M 1 (tn k) 1 < 0) := (fun q => hms q.2); refine ⟨congrArg (fun x => some (Value.int x)) (lay_y hcl hx).1.symm, Eq.trans ?_ (lay_y hcl hx).2.symm⟩; rw [lyM_2 h_126]; rfl)
                  | (have h3 := lay_03 h_13 h_86 h_126; have hcl : cLay s l t k := (lay_0 h3).mpr h_4; have hx : ¬ (t = 2 ∧ M 1 (tn k) 1 < 0) := (fun q => h_126 q.1); have hq : ¬ t = 3 := h_148; refine ⟨congrArg (fun x => some (Value.int x)) (lay_y hcl hx).1.symm, Eq.trans ?_ (lay_y hcl hx).2.symm⟩; rw [lyM_0 h_86 h_126 hq]; rfl)
                  | (have h3 := lay_03 h_13 h_86 h_126; have hcl : cLay s l t k := (lay_0 h3).mpr h_4; have hx : ¬ (t = 2 ∧ M 1 (tn k) 1 < 0) := (fun q => h_126 q.1); refine ⟨congrArg (fun x => some (Value.int x)) (lay_y hcl hx).1.symm, Eq.trans ?_ (lay_y hcl hx).2.symm⟩; rw [lyM_3 h_148, putA_pp, putA_s])
                · skip
                  refine q_aload 153 dX5_lay_151 rfl rfl ?_
                  refine q_iload_n 154 dX5_lay_153 rfl rfl ?_
                  refine q_putI 157 dX5_lay_154 rfl fl_X5_302 fp_2_2 l5 rfl (by decide) rfl rfl ?_
                  refine q_iload 159 dX5_lay_157 rfl rfl ?_
                  refine q_iret dX5_lay_159 ?_
                  first
                  | (have hq := hM1; have hcl : cLay s l t k := (lay_1 h_86).mpr ⟨h_4, hq⟩; have hx : ¬ (t = 2 ∧ M 1 (tn k) 1 < 0) := (fun q => by rw [h_86] at q; exact absurd q.1 (by decide)); refine ⟨congrArg (fun x => some (Value.int x)) (lay_y hcl hx).1.symm, Eq.trans ?_ (lay_y hcl hx).2.symm⟩; rw [lyM_1 h_86, putA_pp, putA_s]; rfl)
                  | (have hq := hS1; have hcl : cLay s l t k := (lay_2 h_126).mpr ⟨h_4, hq⟩; have hx : ¬ (t = 2 ∧ M 1 (tn k) 1 < 0) := (fun q => hms q.2); refine ⟨congrArg (fun x => some (Value.int x)) (lay_y hcl hx).1.symm, Eq.trans ?_ (lay_y hcl hx).2.symm⟩; rw [lyM_2 h_126]; rfl)
                  | (have h3 := lay_03 h_13 h_86 h_126; have hcl : cLay s l t k := (lay_0 h3).mpr h_4; have hx : ¬ (t = 2 ∧ M 1 (tn k) 1 < 0) := (fun q => h_126 q.1); have hq : ¬ t = 3 := h_148; refine ⟨congrArg (fun x => some (Value.int x)) (lay_y hcl hx).1.symm, Eq.trans ?_ (lay_y hcl hx).2.symm⟩; rw [lyM_0 h_86 h_126 hq]; rfl)
                  | (have h3 := lay_03 h_13 h_86 h_126; have hcl : cLay s l t k := (lay_0 h3).mpr h_4; have hx : ¬ (t = 2 ∧ M 1 (tn k) 1 < 0) := (fun q => h_126 q.1); refine ⟨congrArg (fun x => some (Value.int x)) (lay_y hcl hx).1.symm, Eq.trans ?_ (lay_y hcl hx).2.symm⟩; rw [lyM_3 h_148, putA_pp, putA_s])
              · skip
                have hS1 : isS k := by first | exact absurd h_126 h_49 | exact hS0
                obtain ⟨ek1, lk1⟩ := rg_tn hS1 (n := 3) rfl
                have k41 : tn k < 4 := by omega
                have hms : ¬ M 1 (tn k) 1 < 0 := by first | exact absurd h_126 h_49 | exact h_57
                refine q_aload 131 dX5_lay_129 rfl rfl ?_
                refine q_getR 134 dX5_lay_131 rfl fl_X5_296 l5 rfl rfl ?_
                refine q_aload_n 135 dX5_lay_134 rfl rfl ?_
                refine q_getR 138 dX5_lay_135 rfl fl_X5_44 (by decide) rfl rfl ?_
                refine q_iload_n 139 dX5_lay_138 rfl rfl ?_
                refine q_aald7 140 dX5_lay_139 rfl ek1 k41 ?_
                refine q_callVv 143 dX5_lay_140 rfl (c1_become _ (tn l + 4) (tn k) (by omega) (by omega) (by omega)) cw_X5_300 (show tn l + 4 < 9 by omega) rfl rfl ⟨by decide, by decide⟩ ⟨by decide, by decide⟩ (Nat.le_of_ble_eq_true rfl) ?_
                refine q_goto 157 dX5_lay_143 rfl ?_
                refine q_iload 159 dX5_lay_157 rfl rfl ?_
                refine q_iret dX5_lay_159 ?_
                first
                | (have hq := hM1; have hcl : cLay s l t k := (lay_1 h_86).mpr ⟨h_4, hq⟩; have hx : ¬ (t = 2 ∧ M 1 (tn k) 1 < 0) := (fun q => by rw [h_86] at q; exact absurd q.1 (by decide)); refine ⟨congrArg (fun x => some (Value.int x)) (lay_y hcl hx).1.symm, Eq.trans ?_ (lay_y hcl hx).2.symm⟩; rw [lyM_1 h_86, putA_pp, putA_s]; rfl)
                | (have hq := hS1; have hcl : cLay s l t k := (lay_2 h_126).mpr ⟨h_4, hq⟩; have hx : ¬ (t = 2 ∧ M 1 (tn k) 1 < 0) := (fun q => hms q.2); refine ⟨congrArg (fun x => some (Value.int x)) (lay_y hcl hx).1.symm, Eq.trans ?_ (lay_y hcl hx).2.symm⟩; rw [lyM_2 h_126]; rfl)
                | (have h3 := lay_03 h_13 h_86 h_126; have hcl : cLay s l t k := (lay_0 h3).mpr h_4; have hx : ¬ (t = 2 ∧ M 1 (tn k) 1 < 0) := (fun q => h_126 q.1); have hq : ¬ t = 3 := h_148; refine ⟨congrArg (fun x => some (Value.int x)) (lay_y hcl hx).1.symm, Eq.trans ?_ (lay_y hcl hx).2.symm⟩; rw [lyM_0 h_86 h_126 hq]; rfl)
                | (have h3 := lay_03 h_13 h_86 h_126; have hcl : cLay s l t k := (lay_0 h3).mpr h_4; have hx : ¬ (t = 2 ∧ M 1 (tn k) 1 < 0) := (fun q => h_126 q.1); refine ⟨congrArg (fun x => some (Value.int x)) (lay_y hcl hx).1.symm, Eq.trans ?_ (lay_y hcl hx).2.symm⟩; rw [lyM_3 h_148, putA_pp, putA_s])
            · skip
              have hM1 : isM s k := by first | exact absurd h_86 h_21 | exact h_29
              obtain ⟨em, lm⟩ := isM_nat hW.1.1 hW.1.2 hM1
              have m10 : tn k < 10 := by have := hW.1.2; omega
              refine q_aload 91 dX5_lay_89 rfl rfl ?_
              refine q_aload_n 92 dX5_lay_91 rfl rfl ?_
              refine q_getR 95 dX5_lay_92 rfl fl_X5_21 (by decide) rfl rfl ?_
              refine q_getR 98 dX5_lay_95 rfl fl_X5_86 (by decide) rfl rfl ?_
              refine q_iload_n 99 dX5_lay_98 rfl rfl ?_
              refine q_iald 100 dX5_lay_99 rfl (by decide) (by decide) em m10 ?_
              refine q_aload_n 101 dX5_lay_100 rfl rfl ?_
              refine q_getR 104 dX5_lay_101 rfl fl_X5_21 (by decide) rfl rfl ?_
              refine q_getR 107 dX5_lay_104 rfl fl_X5_89 (by decide) rfl rfl ?_
              refine q_iload_n 108 dX5_lay_107 rfl rfl ?_
              refine q_iald 109 dX5_lay_108 rfl (by decide) (by decide) em m10 ?_
              refine q_aload_n 110 dX5_lay_109 rfl rfl ?_
              refine q_getR 113 dX5_lay_110 rfl fl_X5_21 (by decide) rfl rfl ?_
              refine q_getR 116 dX5_lay_113 rfl fl_X5_98 (by decide) rfl rfl ?_
              refine q_iload_n 117 dX5_lay_116 rfl rfl ?_
              refine q_iald 118 dX5_lay_117 rfl (by decide) (by decide) em m10 ?_
              refine q_callVv 121 dX5_lay_118 rfl (c2_takeMark _ (tn l) l5 _ _ _) cw_X5_292 l5 rfl rfl ⟨by decide, by decide⟩ ⟨by decide, by decide⟩ (Nat.le_of_ble_eq_true rfl) ?_
              refine q_goto 157 dX5_lay_121 rfl ?_
              refine q_iload 159 dX5_lay_157 rfl rfl ?_
              refine q_iret dX5_lay_159 ?_
              first
              | (have hq := hM1; have hcl : cLay s l t k := (lay_1 h_86).mpr ⟨h_4, hq⟩; have hx : ¬ (t = 2 ∧ M 1 (tn k) 1 < 0) := (fun q => by rw [h_86] at q; exact absurd q.1 (by decide)); refine ⟨congrArg (fun x => some (Value.int x)) (lay_y hcl hx).1.symm, Eq.trans ?_ (lay_y hcl hx).2.symm⟩; rw [lyM_1 h_86, putA_pp, putA_s]; rfl)
              | (have hq := hS1; have hcl : cLay s l t k := (lay_2 h_126).mpr ⟨h_4, hq⟩; have hx : ¬ (t = 2 ∧ M 1 (tn k) 1 < 0) := (fun q => hms q.2); refine ⟨congrArg (fun x => some (Value.int x)) (lay_y hcl hx).1.symm, Eq.trans ?_ (lay_y hcl hx).2.symm⟩; rw [lyM_2 h_126]; rfl)
              | (have h3 := lay_03 h_13 h_86 h_126; have hcl : cLay s l t k := (lay_0 h3).mpr h_4; have hx : ¬ (t = 2 ∧ M 1 (tn k) 1 < 0) := (fun q => h_126 q.1); have hq : ¬ t = 3 := h_148; refine ⟨congrArg (fun x => some (Value.int x)) (lay_y hcl hx).1.symm, Eq.trans ?_ (lay_y hcl hx).2.symm⟩; rw [lyM_0 h_86 h_126 hq]; rfl)
              | (have h3 := lay_03 h_13 h_86 h_126; have hcl : cLay s l t k := (lay_0 h3).mpr h_4; have hx : ¬ (t = 2 ∧ M 1 (tn k) 1 < 0) := (fun q => h_126 q.1); refine ⟨congrArg (fun x => some (Value.int x)) (lay_y hcl hx).1.symm, Eq.trans ?_ (lay_y hcl hx).2.symm⟩; rw [lyM_3 h_148, putA_pp, putA_s])
          · skip
            have hS0 : isS k := by first | exact h_41 | exact absurd h_49 h_34
            obtain ⟨ek, lk⟩ := rg_tn hS0 (n := 3) rfl
            have k4 : tn k < 4 := by omega
            obtain ⟨hso, z, z24, ez⟩ := hS (tn k) k4
            refine q_aload_n 53 dX5_lay_52 rfl rfl ?_
            refine q_iload_n 54 dX5_lay_53 rfl rfl ?_
            refine q_callVt 57 dX5_lay_54 rfl (c5_isMissing _ _ (tn k) ek k4) cw_X5_215 (by decide) rfl rfl ⟨by decide, by decide⟩ ⟨by decide, by decide⟩ (Nat.le_of_ble_eq_true rfl) ?_
            refine q_if_eq 63 60 dX5_lay_57 rfl rfl (fun h_57 => ?_) (fun h_57 => ?_)
            · skip
              simp only [bI_0, Classical.not_not] at h_57
              rw [ms_iff hso] at h_57
              refine q_aload_n 64 dX5_lay_63 rfl rfl ?_
              refine q_getR 67 dX5_lay_64 rfl fl_X5_50 (by decide) rfl rfl ?_
              refine q_iload_n 68 dX5_lay_67 rfl rfl ?_
              refine q_aald8 69 dX5_lay_68 rfl el l5 ?_
              refine q_astore 71 dX5_lay_69 rfl (by decide) rfl ?_
              refine q_aload 73 dX5_lay_71 rfl rfl ?_
              refine q_getI 76 dX5_lay_73 rfl fl_X5_289 l5 rfl (by decide) ?_
              refine q_istore 78 dX5_lay_76 rfl (by decide) rfl ?_
              refine q_aload 80 dX5_lay_78 rfl rfl ?_
              refine q_iload_n 81 dX5_lay_80 rfl rfl ?_
              refine q_putI 84 dX5_lay_81 rfl fl_X5_289 fp_2_1 l5 rfl (by decide) rfl rfl ?_
              refine q_iload_n 85 dX5_lay_84 rfl rfl ?_
              refine q_iconst (v := 1) 86 dX5_lay_85 rfl rfl ?_
              refine q_icmp_ne 124 89 dX5_lay_86 rfl rfl (fun h_86 => ?_) (fun h_86 => ?_)
              · skip
                refine q_iload_n 125 dX5_lay_124 rfl rfl ?_
                refine q_iconst (v := 2) 126 dX5_lay_125 rfl rfl ?_
                refine q_icmp_ne 146 129 dX5_lay_126 rfl rfl (fun h_126 => ?_) (fun h_126 => ?_)
                · skip
                  refine q_iload_n 147 dX5_lay_146 rfl rfl ?_
                  refine q_iconst (v := 3) 148 dX5_lay_147 rfl rfl ?_
                  refine q_icmp_ne 157 151 dX5_lay_148 rfl rfl (fun h_148 => ?_) (fun h_148 => ?_)
                  · skip
                    refine q_iload 159 dX5_lay_157 rfl rfl ?_
                    refine q_iret dX5_lay_159 ?_
                    first
                    | (have hq := hM1; have hcl : cLay s l t k := (lay_1 h_86).mpr ⟨h_4, hq⟩; have hx : ¬ (t = 2 ∧ M 1 (tn k) 1 < 0) := (fun q => by rw [h_86] at q; exact absurd q.1 (by decide)); refine ⟨congrArg (fun x => some (Value.int x)) (lay_y hcl hx).1.symm, Eq.trans ?_ (lay_y hcl hx).2.symm⟩; rw [lyM_1 h_86, putA_pp, putA_s]; rfl)
                    | (have hq := hS1; have hcl : cLay s l t k := (lay_2 h_126).mpr ⟨h_4, hq⟩; have hx : ¬ (t = 2 ∧ M 1 (tn k) 1 < 0) := (fun q => hms q.2); refine ⟨congrArg (fun x => some (Value.int x)) (lay_y hcl hx).1.symm, Eq.trans ?_ (lay_y hcl hx).2.symm⟩; rw [lyM_2 h_126]; rfl)
                    | (have h3 := lay_03 h_13 h_86 h_126; have hcl : cLay s l t k := (lay_0 h3).mpr h_4; have hx : ¬ (t = 2 ∧ M 1 (tn k) 1 < 0) := (fun q => h_126 q.1); have hq : ¬ t = 3 := h_148; refine ⟨congrArg (fun x => some (Value.int x)) (lay_y hcl hx).1.symm, Eq.trans ?_ (lay_y hcl hx).2.symm⟩; rw [lyM_0 h_86 h_126 hq]; rfl)
                    | (have h3 := lay_03 h_13 h_86 h_126; have hcl : cLay s l t k := (lay_0 h3).mpr h_4; have hx : ¬ (t = 2 ∧ M 1 (tn k) 1 < 0) := (fun q => h_126 q.1); refine ⟨congrArg (fun x => some (Value.int x)) (lay_y hcl hx).1.symm, Eq.trans ?_ (lay_y hcl hx).2.symm⟩; rw [lyM_3 h_148, putA_pp, putA_s])
                  · skip
                    refine q_aload 153 dX5_lay_151 rfl rfl ?_
                    refine q_iload_n 154 dX5_lay_153 rfl rfl ?_
                    refine q_putI 157 dX5_lay_154 rfl fl_X5_302 fp_2_2 l5 rfl (by decide) rfl rfl ?_
                    refine q_iload 159 dX5_lay_157 rfl rfl ?_
                    refine q_iret dX5_lay_159 ?_
                    first
                    | (have hq := hM1; have hcl : cLay s l t k := (lay_1 h_86).mpr ⟨h_4, hq⟩; have hx : ¬ (t = 2 ∧ M 1 (tn k) 1 < 0) := (fun q => by rw [h_86] at q; exact absurd q.1 (by decide)); refine ⟨congrArg (fun x => some (Value.int x)) (lay_y hcl hx).1.symm, Eq.trans ?_ (lay_y hcl hx).2.symm⟩; rw [lyM_1 h_86, putA_pp, putA_s]; rfl)
                    | (have hq := hS1; have hcl : cLay s l t k := (lay_2 h_126).mpr ⟨h_4, hq⟩; have hx : ¬ (t = 2 ∧ M 1 (tn k) 1 < 0) := (fun q => hms q.2); refine ⟨congrArg (fun x => some (Value.int x)) (lay_y hcl hx).1.symm, Eq.trans ?_ (lay_y hcl hx).2.symm⟩; rw [lyM_2 h_126]; rfl)
                    | (have h3 := lay_03 h_13 h_86 h_126; have hcl : cLay s l t k := (lay_0 h3).mpr h_4; have hx : ¬ (t = 2 ∧ M 1 (tn k) 1 < 0) := (fun q => h_126 q.1); have hq : ¬ t = 3 := h_148; refine ⟨congrArg (fun x => some (Value.int x)) (lay_y hcl hx).1.symm, Eq.trans ?_ (lay_y hcl hx).2.symm⟩; rw [lyM_0 h_86 h_126 hq]; rfl)
                    | (have h3 := lay_03 h_13 h_86 h_126; have hcl : cLay s l t k := (lay_0 h3).mpr h_4; have hx : ¬ (t = 2 ∧ M 1 (tn k) 1 < 0) := (fun q => h_126 q.1); refine ⟨congrArg (fun x => some (Value.int x)) (lay_y hcl hx).1.symm, Eq.trans ?_ (lay_y hcl hx).2.symm⟩; rw [lyM_3 h_148, putA_pp, putA_s])
                · skip
                  have hS1 : isS k := by first | exact absurd h_126 h_49 | exact hS0
                  obtain ⟨ek1, lk1⟩ := rg_tn hS1 (n := 3) rfl
                  have k41 : tn k < 4 := by omega
                  have hms : ¬ M 1 (tn k) 1 < 0 := by first | exact absurd h_126 h_49 | exact h_57
                  refine q_aload 131 dX5_lay_129 rfl rfl ?_
                  refine q_getR 134 dX5_lay_131 rfl fl_X5_296 l5 rfl rfl ?_
                  refine q_aload_n 135 dX5_lay_134 rfl rfl ?_
                  refine q_getR 138 dX5_lay_135 rfl fl_X5_44 (by decide) rfl rfl ?_
                  refine q_iload_n 139 dX5_lay_138 rfl rfl ?_
                  refine q_aald7 140 dX5_lay_139 rfl ek1 k41 ?_
                  refine q_callVv 143 dX5_lay_140 rfl (c1_become _ (tn l + 4) (tn k) (by omega) (by omega) (by omega)) cw_X5_300 (show tn l + 4 < 9 by omega) rfl rfl ⟨by decide, by decide⟩ ⟨by decide, by decide⟩ (Nat.le_of_ble_eq_true rfl) ?_
                  refine q_goto 157 dX5_lay_143 rfl ?_
                  refine q_iload 159 dX5_lay_157 rfl rfl ?_
                  refine q_iret dX5_lay_159 ?_
                  first
                  | (have hq := hM1; have hcl : cLay s l t k := (lay_1 h_86).mpr ⟨h_4, hq⟩; have hx : ¬ (t = 2 ∧ M 1 (tn k) 1 < 0) := (fun q => by rw [h_86] at q; exact absurd q.1 (by decide)); refine ⟨congrArg (fun x => some (Value.int x)) (lay_y hcl hx).1.symm, Eq.trans ?_ (lay_y hcl hx).2.symm⟩; rw [lyM_1 h_86, putA_pp, putA_s]; rfl)
                  | (have hq := hS1; have hcl : cLay s l t k := (lay_2 h_126).mpr ⟨h_4, hq⟩; have hx : ¬ (t = 2 ∧ M 1 (tn k) 1 < 0) := (fun q => hms q.2); refine ⟨congrArg (fun x => some (Value.int x)) (lay_y hcl hx).1.symm, Eq.trans ?_ (lay_y hcl hx).2.symm⟩; rw [lyM_2 h_126]; rfl)
                  | (have h3 := lay_03 h_13 h_86 h_126; have hcl : cLay s l t k := (lay_0 h3).mpr h_4; have hx : ¬ (t = 2 ∧ M 1 (tn k) 1 < 0) := (fun q => h_126 q.1); have hq : ¬ t = 3 := h_148; refine ⟨congrArg (fun x => some (Value.int x)) (lay_y hcl hx).1.symm, Eq.trans ?_ (lay_y hcl hx).2.symm⟩; rw [lyM_0 h_86 h_126 hq]; rfl)
                  | (have h3 := lay_03 h_13 h_86 h_126; have hcl : cLay s l t k := (lay_0 h3).mpr h_4; have hx : ¬ (t = 2 ∧ M 1 (tn k) 1 < 0) := (fun q => h_126 q.1); refine ⟨congrArg (fun x => some (Value.int x)) (lay_y hcl hx).1.symm, Eq.trans ?_ (lay_y hcl hx).2.symm⟩; rw [lyM_3 h_148, putA_pp, putA_s])
              · skip
                have hM1 : isM s k := by first | exact absurd h_86 h_21 | exact h_29
                obtain ⟨em, lm⟩ := isM_nat hW.1.1 hW.1.2 hM1
                have m10 : tn k < 10 := by have := hW.1.2; omega
                refine q_aload 91 dX5_lay_89 rfl rfl ?_
                refine q_aload_n 92 dX5_lay_91 rfl rfl ?_
                refine q_getR 95 dX5_lay_92 rfl fl_X5_21 (by decide) rfl rfl ?_
                refine q_getR 98 dX5_lay_95 rfl fl_X5_86 (by decide) rfl rfl ?_
                refine q_iload_n 99 dX5_lay_98 rfl rfl ?_
                refine q_iald 100 dX5_lay_99 rfl (by decide) (by decide) em m10 ?_
                refine q_aload_n 101 dX5_lay_100 rfl rfl ?_
                refine q_getR 104 dX5_lay_101 rfl fl_X5_21 (by decide) rfl rfl ?_
                refine q_getR 107 dX5_lay_104 rfl fl_X5_89 (by decide) rfl rfl ?_
                refine q_iload_n 108 dX5_lay_107 rfl rfl ?_
                refine q_iald 109 dX5_lay_108 rfl (by decide) (by decide) em m10 ?_
                refine q_aload_n 110 dX5_lay_109 rfl rfl ?_
                refine q_getR 113 dX5_lay_110 rfl fl_X5_21 (by decide) rfl rfl ?_
                refine q_getR 116 dX5_lay_113 rfl fl_X5_98 (by decide) rfl rfl ?_
                refine q_iload_n 117 dX5_lay_116 rfl rfl ?_
                refine q_iald 118 dX5_lay_117 rfl (by decide) (by decide) em m10 ?_
                refine q_callVv 121 dX5_lay_118 rfl (c2_takeMark _ (tn l) l5 _ _ _) cw_X5_292 l5 rfl rfl ⟨by decide, by decide⟩ ⟨by decide, by decide⟩ (Nat.le_of_ble_eq_true rfl) ?_
                refine q_goto 157 dX5_lay_121 rfl ?_
                refine q_iload 159 dX5_lay_157 rfl rfl ?_
                refine q_iret dX5_lay_159 ?_
                first
                | (have hq := hM1; have hcl : cLay s l t k := (lay_1 h_86).mpr ⟨h_4, hq⟩; have hx : ¬ (t = 2 ∧ M 1 (tn k) 1 < 0) := (fun q => by rw [h_86] at q; exact absurd q.1 (by decide)); refine ⟨congrArg (fun x => some (Value.int x)) (lay_y hcl hx).1.symm, Eq.trans ?_ (lay_y hcl hx).2.symm⟩; rw [lyM_1 h_86, putA_pp, putA_s]; rfl)
                | (have hq := hS1; have hcl : cLay s l t k := (lay_2 h_126).mpr ⟨h_4, hq⟩; have hx : ¬ (t = 2 ∧ M 1 (tn k) 1 < 0) := (fun q => hms q.2); refine ⟨congrArg (fun x => some (Value.int x)) (lay_y hcl hx).1.symm, Eq.trans ?_ (lay_y hcl hx).2.symm⟩; rw [lyM_2 h_126]; rfl)
                | (have h3 := lay_03 h_13 h_86 h_126; have hcl : cLay s l t k := (lay_0 h3).mpr h_4; have hx : ¬ (t = 2 ∧ M 1 (tn k) 1 < 0) := (fun q => h_126 q.1); have hq : ¬ t = 3 := h_148; refine ⟨congrArg (fun x => some (Value.int x)) (lay_y hcl hx).1.symm, Eq.trans ?_ (lay_y hcl hx).2.symm⟩; rw [lyM_0 h_86 h_126 hq]; rfl)
                | (have h3 := lay_03 h_13 h_86 h_126; have hcl : cLay s l t k := (lay_0 h3).mpr h_4; have hx : ¬ (t = 2 ∧ M 1 (tn k) 1 < 0) := (fun q => h_126 q.1); refine ⟨congrArg (fun x => some (Value.int x)) (lay_y hcl hx).1.symm, Eq.trans ?_ (lay_y hcl hx).2.symm⟩; rw [lyM_3 h_148, putA_pp, putA_s])
            · skip
              simp only [bI_0, Classical.not_not] at h_57
              rw [ms_iff hso] at h_57
              refine q_ldc 62 dX5_lay_60 rfl cs_X5_218 ?_
              refine q_iret dX5_lay_62 ?_
              have hcl : cLay s l t k := (lay_2 h_49).mpr ⟨h_4, hS0⟩
              refine ⟨congrArg (fun x => some (Value.int x)) ?_, ?_⟩
              · unfold aLay5; rw [if_pos hcl, if_pos ⟨h_49, h_57⟩]
              · unfold mLay5; rw [if_neg (fun q => q.2 ⟨h_49, h_57⟩)]
        · skip
          refine q_iload_n 38 dX5_lay_37 rfl rfl ?_
          refine q_callSt 41 dX5_lay_38 rfl (c5_isSheet _ _) cw_X5_212 rfl rfl ⟨by decide, by decide⟩ ⟨by decide, by decide⟩ (Nat.le_of_ble_eq_true rfl) ?_
          refine q_if_ne 47 44 dX5_lay_41 rfl rfl (fun h_41 => ?_) (fun h_41 => ?_)
          · skip
            simp only [bI_0, Classical.not_not] at h_41
            refine q_iload_n 48 dX5_lay_47 rfl rfl ?_
            refine q_iconst (v := 2) 49 dX5_lay_48 rfl rfl ?_
            refine q_icmp_ne 63 52 dX5_lay_49 rfl rfl (fun h_49 => ?_) (fun h_49 => ?_)
            · skip
              refine q_aload_n 64 dX5_lay_63 rfl rfl ?_
              refine q_getR 67 dX5_lay_64 rfl fl_X5_50 (by decide) rfl rfl ?_
              refine q_iload_n 68 dX5_lay_67 rfl rfl ?_
              refine q_aald8 69 dX5_lay_68 rfl el l5 ?_
              refine q_astore 71 dX5_lay_69 rfl (by decide) rfl ?_
              refine q_aload 73 dX5_lay_71 rfl rfl ?_
              refine q_getI 76 dX5_lay_73 rfl fl_X5_289 l5 rfl (by decide) ?_
              refine q_istore 78 dX5_lay_76 rfl (by decide) rfl ?_
              refine q_aload 80 dX5_lay_78 rfl rfl ?_
              refine q_iload_n 81 dX5_lay_80 rfl rfl ?_
              refine q_putI 84 dX5_lay_81 rfl fl_X5_289 fp_2_1 l5 rfl (by decide) rfl rfl ?_
              refine q_iload_n 85 dX5_lay_84 rfl rfl ?_
              refine q_iconst (v := 1) 86 dX5_lay_85 rfl rfl ?_
              refine q_icmp_ne 124 89 dX5_lay_86 rfl rfl (fun h_86 => ?_) (fun h_86 => ?_)
              · skip
                refine q_iload_n 125 dX5_lay_124 rfl rfl ?_
                refine q_iconst (v := 2) 126 dX5_lay_125 rfl rfl ?_
                refine q_icmp_ne 146 129 dX5_lay_126 rfl rfl (fun h_126 => ?_) (fun h_126 => ?_)
                · skip
                  refine q_iload_n 147 dX5_lay_146 rfl rfl ?_
                  refine q_iconst (v := 3) 148 dX5_lay_147 rfl rfl ?_
                  refine q_icmp_ne 157 151 dX5_lay_148 rfl rfl (fun h_148 => ?_) (fun h_148 => ?_)
                  · skip
                    refine q_iload 159 dX5_lay_157 rfl rfl ?_
                    refine q_iret dX5_lay_159 ?_
                    first
                    | (have hq := hM1; have hcl : cLay s l t k := (lay_1 h_86).mpr ⟨h_4, hq⟩; have hx : ¬ (t = 2 ∧ M 1 (tn k) 1 < 0) := (fun q => by rw [h_86] at q; exact absurd q.1 (by decide)); refine ⟨congrArg (fun x => some (Value.int x)) (lay_y hcl hx).1.symm, Eq.trans ?_ (lay_y hcl hx).2.symm⟩; rw [lyM_1 h_86, putA_pp, putA_s]; rfl)
                    | (have hq := hS1; have hcl : cLay s l t k := (lay_2 h_126).mpr ⟨h_4, hq⟩; have hx : ¬ (t = 2 ∧ M 1 (tn k) 1 < 0) := (fun q => hms q.2); refine ⟨congrArg (fun x => some (Value.int x)) (lay_y hcl hx).1.symm, Eq.trans ?_ (lay_y hcl hx).2.symm⟩; rw [lyM_2 h_126]; rfl)
                    | (have h3 := lay_03 h_13 h_86 h_126; have hcl : cLay s l t k := (lay_0 h3).mpr h_4; have hx : ¬ (t = 2 ∧ M 1 (tn k) 1 < 0) := (fun q => h_126 q.1); have hq : ¬ t = 3 := h_148; refine ⟨congrArg (fun x => some (Value.int x)) (lay_y hcl hx).1.symm, Eq.trans ?_ (lay_y hcl hx).2.symm⟩; rw [lyM_0 h_86 h_126 hq]; rfl)
                    | (have h3 := lay_03 h_13 h_86 h_126; have hcl : cLay s l t k := (lay_0 h3).mpr h_4; have hx : ¬ (t = 2 ∧ M 1 (tn k) 1 < 0) := (fun q => h_126 q.1); refine ⟨congrArg (fun x => some (Value.int x)) (lay_y hcl hx).1.symm, Eq.trans ?_ (lay_y hcl hx).2.symm⟩; rw [lyM_3 h_148, putA_pp, putA_s])
                  · skip
                    refine q_aload 153 dX5_lay_151 rfl rfl ?_
                    refine q_iload_n 154 dX5_lay_153 rfl rfl ?_
                    refine q_putI 157 dX5_lay_154 rfl fl_X5_302 fp_2_2 l5 rfl (by decide) rfl rfl ?_
                    refine q_iload 159 dX5_lay_157 rfl rfl ?_
                    refine q_iret dX5_lay_159 ?_
                    first
                    | (have hq := hM1; have hcl : cLay s l t k := (lay_1 h_86).mpr ⟨h_4, hq⟩; have hx : ¬ (t = 2 ∧ M 1 (tn k) 1 < 0) := (fun q => by rw [h_86] at q; exact absurd q.1 (by decide)); refine ⟨congrArg (fun x => some (Value.int x)) (lay_y hcl hx).1.symm, Eq.trans ?_ (lay_y hcl hx).2.symm⟩; rw [lyM_1 h_86, putA_pp, putA_s]; rfl)
                    | (have hq := hS1; have hcl : cLay s l t k := (lay_2 h_126).mpr ⟨h_4, hq⟩; have hx : ¬ (t = 2 ∧ M 1 (tn k) 1 < 0) := (fun q => hms q.2); refine ⟨congrArg (fun x => some (Value.int x)) (lay_y hcl hx).1.symm, Eq.trans ?_ (lay_y hcl hx).2.symm⟩; rw [lyM_2 h_126]; rfl)
                    | (have h3 := lay_03 h_13 h_86 h_126; have hcl : cLay s l t k := (lay_0 h3).mpr h_4; have hx : ¬ (t = 2 ∧ M 1 (tn k) 1 < 0) := (fun q => h_126 q.1); have hq : ¬ t = 3 := h_148; refine ⟨congrArg (fun x => some (Value.int x)) (lay_y hcl hx).1.symm, Eq.trans ?_ (lay_y hcl hx).2.symm⟩; rw [lyM_0 h_86 h_126 hq]; rfl)
                    | (have h3 := lay_03 h_13 h_86 h_126; have hcl : cLay s l t k := (lay_0 h3).mpr h_4; have hx : ¬ (t = 2 ∧ M 1 (tn k) 1 < 0) := (fun q => h_126 q.1); refine ⟨congrArg (fun x => some (Value.int x)) (lay_y hcl hx).1.symm, Eq.trans ?_ (lay_y hcl hx).2.symm⟩; rw [lyM_3 h_148, putA_pp, putA_s])
                · skip
                  have hS1 : isS k := by first | exact absurd h_126 h_49 | exact hS0
                  obtain ⟨ek1, lk1⟩ := rg_tn hS1 (n := 3) rfl
                  have k41 : tn k < 4 := by omega
                  have hms : ¬ M 1 (tn k) 1 < 0 := by first | exact absurd h_126 h_49 | exact h_57
                  refine q_aload 131 dX5_lay_129 rfl rfl ?_
                  refine q_getR 134 dX5_lay_131 rfl fl_X5_296 l5 rfl rfl ?_
                  refine q_aload_n 135 dX5_lay_134 rfl rfl ?_
                  refine q_getR 138 dX5_lay_135 rfl fl_X5_44 (by decide) rfl rfl ?_
                  refine q_iload_n 139 dX5_lay_138 rfl rfl ?_
                  refine q_aald7 140 dX5_lay_139 rfl ek1 k41 ?_
                  refine q_callVv 143 dX5_lay_140 rfl (c1_become _ (tn l + 4) (tn k) (by omega) (by omega) (by omega)) cw_X5_300 (show tn l + 4 < 9 by omega) rfl rfl ⟨by decide, by decide⟩ ⟨by decide, by decide⟩ (Nat.le_of_ble_eq_true rfl) ?_
                  refine q_goto 157 dX5_lay_143 rfl ?_
                  refine q_iload 159 dX5_lay_157 rfl rfl ?_
                  refine q_iret dX5_lay_159 ?_
                  first
                  | (have hq := hM1; have hcl : cLay s l t k := (lay_1 h_86).mpr ⟨h_4, hq⟩; have hx : ¬ (t = 2 ∧ M 1 (tn k) 1 < 0) := (fun q => by rw [h_86] at q; exact absurd q.1 (by decide)); refine ⟨congrArg (fun x => some (Value.int x)) (lay_y hcl hx).1.symm, Eq.trans ?_ (lay_y hcl hx).2.symm⟩; rw [lyM_1 h_86, putA_pp, putA_s]; rfl)
                  | (have hq := hS1; have hcl : cLay s l t k := (lay_2 h_126).mpr ⟨h_4, hq⟩; have hx : ¬ (t = 2 ∧ M 1 (tn k) 1 < 0) := (fun q => hms q.2); refine ⟨congrArg (fun x => some (Value.int x)) (lay_y hcl hx).1.symm, Eq.trans ?_ (lay_y hcl hx).2.symm⟩; rw [lyM_2 h_126]; rfl)
                  | (have h3 := lay_03 h_13 h_86 h_126; have hcl : cLay s l t k := (lay_0 h3).mpr h_4; have hx : ¬ (t = 2 ∧ M 1 (tn k) 1 < 0) := (fun q => h_126 q.1); have hq : ¬ t = 3 := h_148; refine ⟨congrArg (fun x => some (Value.int x)) (lay_y hcl hx).1.symm, Eq.trans ?_ (lay_y hcl hx).2.symm⟩; rw [lyM_0 h_86 h_126 hq]; rfl)
                  | (have h3 := lay_03 h_13 h_86 h_126; have hcl : cLay s l t k := (lay_0 h3).mpr h_4; have hx : ¬ (t = 2 ∧ M 1 (tn k) 1 < 0) := (fun q => h_126 q.1); refine ⟨congrArg (fun x => some (Value.int x)) (lay_y hcl hx).1.symm, Eq.trans ?_ (lay_y hcl hx).2.symm⟩; rw [lyM_3 h_148, putA_pp, putA_s])
              · skip
                have hM1 : isM s k := by first | exact absurd h_86 h_21 | exact h_29
                obtain ⟨em, lm⟩ := isM_nat hW.1.1 hW.1.2 hM1
                have m10 : tn k < 10 := by have := hW.1.2; omega
                refine q_aload 91 dX5_lay_89 rfl rfl ?_
                refine q_aload_n 92 dX5_lay_91 rfl rfl ?_
                refine q_getR 95 dX5_lay_92 rfl fl_X5_21 (by decide) rfl rfl ?_
                refine q_getR 98 dX5_lay_95 rfl fl_X5_86 (by decide) rfl rfl ?_
                refine q_iload_n 99 dX5_lay_98 rfl rfl ?_
                refine q_iald 100 dX5_lay_99 rfl (by decide) (by decide) em m10 ?_
                refine q_aload_n 101 dX5_lay_100 rfl rfl ?_
                refine q_getR 104 dX5_lay_101 rfl fl_X5_21 (by decide) rfl rfl ?_
                refine q_getR 107 dX5_lay_104 rfl fl_X5_89 (by decide) rfl rfl ?_
                refine q_iload_n 108 dX5_lay_107 rfl rfl ?_
                refine q_iald 109 dX5_lay_108 rfl (by decide) (by decide) em m10 ?_
                refine q_aload_n 110 dX5_lay_109 rfl rfl ?_
                refine q_getR 113 dX5_lay_110 rfl fl_X5_21 (by decide) rfl rfl ?_
                refine q_getR 116 dX5_lay_113 rfl fl_X5_98 (by decide) rfl rfl ?_
                refine q_iload_n 117 dX5_lay_116 rfl rfl ?_
                refine q_iald 118 dX5_lay_117 rfl (by decide) (by decide) em m10 ?_
                refine q_callVv 121 dX5_lay_118 rfl (c2_takeMark _ (tn l) l5 _ _ _) cw_X5_292 l5 rfl rfl ⟨by decide, by decide⟩ ⟨by decide, by decide⟩ (Nat.le_of_ble_eq_true rfl) ?_
                refine q_goto 157 dX5_lay_121 rfl ?_
                refine q_iload 159 dX5_lay_157 rfl rfl ?_
                refine q_iret dX5_lay_159 ?_
                first
                | (have hq := hM1; have hcl : cLay s l t k := (lay_1 h_86).mpr ⟨h_4, hq⟩; have hx : ¬ (t = 2 ∧ M 1 (tn k) 1 < 0) := (fun q => by rw [h_86] at q; exact absurd q.1 (by decide)); refine ⟨congrArg (fun x => some (Value.int x)) (lay_y hcl hx).1.symm, Eq.trans ?_ (lay_y hcl hx).2.symm⟩; rw [lyM_1 h_86, putA_pp, putA_s]; rfl)
                | (have hq := hS1; have hcl : cLay s l t k := (lay_2 h_126).mpr ⟨h_4, hq⟩; have hx : ¬ (t = 2 ∧ M 1 (tn k) 1 < 0) := (fun q => hms q.2); refine ⟨congrArg (fun x => some (Value.int x)) (lay_y hcl hx).1.symm, Eq.trans ?_ (lay_y hcl hx).2.symm⟩; rw [lyM_2 h_126]; rfl)
                | (have h3 := lay_03 h_13 h_86 h_126; have hcl : cLay s l t k := (lay_0 h3).mpr h_4; have hx : ¬ (t = 2 ∧ M 1 (tn k) 1 < 0) := (fun q => h_126 q.1); have hq : ¬ t = 3 := h_148; refine ⟨congrArg (fun x => some (Value.int x)) (lay_y hcl hx).1.symm, Eq.trans ?_ (lay_y hcl hx).2.symm⟩; rw [lyM_0 h_86 h_126 hq]; rfl)
                | (have h3 := lay_03 h_13 h_86 h_126; have hcl : cLay s l t k := (lay_0 h3).mpr h_4; have hx : ¬ (t = 2 ∧ M 1 (tn k) 1 < 0) := (fun q => h_126 q.1); refine ⟨congrArg (fun x => some (Value.int x)) (lay_y hcl hx).1.symm, Eq.trans ?_ (lay_y hcl hx).2.symm⟩; rw [lyM_3 h_148, putA_pp, putA_s])
            · skip
              have hS0 : isS k := by first | exact h_41 | exact absurd h_49 h_34
              obtain ⟨ek, lk⟩ := rg_tn hS0 (n := 3) rfl
              have k4 : tn k < 4 := by omega
              obtain ⟨hso, z, z24, ez⟩ := hS (tn k) k4
              refine q_aload_n 53 dX5_lay_52 rfl rfl ?_
              refine q_iload_n 54 dX5_lay_53 rfl rfl ?_
              refine q_callVt 57 dX5_lay_54 rfl (c5_isMissing _ _ (tn k) ek k4) cw_X5_215 (by decide) rfl rfl ⟨by decide, by decide⟩ ⟨by decide, by decide⟩ (Nat.le_of_ble_eq_true rfl) ?_
              refine q_if_eq 63 60 dX5_lay_57 rfl rfl (fun h_57 => ?_) (fun h_57 => ?_)
              · skip
                simp only [bI_0, Classical.not_not] at h_57
                rw [ms_iff hso] at h_57
                refine q_aload_n 64 dX5_lay_63 rfl rfl ?_
                refine q_getR 67 dX5_lay_64 rfl fl_X5_50 (by decide) rfl rfl ?_
                refine q_iload_n 68 dX5_lay_67 rfl rfl ?_
                refine q_aald8 69 dX5_lay_68 rfl el l5 ?_
                refine q_astore 71 dX5_lay_69 rfl (by decide) rfl ?_
                refine q_aload 73 dX5_lay_71 rfl rfl ?_
                refine q_getI 76 dX5_lay_73 rfl fl_X5_289 l5 rfl (by decide) ?_
                refine q_istore 78 dX5_lay_76 rfl (by decide) rfl ?_
                refine q_aload 80 dX5_lay_78 rfl rfl ?_
                refine q_iload_n 81 dX5_lay_80 rfl rfl ?_
                refine q_putI 84 dX5_lay_81 rfl fl_X5_289 fp_2_1 l5 rfl (by decide) rfl rfl ?_
                refine q_iload_n 85 dX5_lay_84 rfl rfl ?_
                refine q_iconst (v := 1) 86 dX5_lay_85 rfl rfl ?_
                refine q_icmp_ne 124 89 dX5_lay_86 rfl rfl (fun h_86 => ?_) (fun h_86 => ?_)
                · skip
                  refine q_iload_n 125 dX5_lay_124 rfl rfl ?_
                  refine q_iconst (v := 2) 126 dX5_lay_125 rfl rfl ?_
                  refine q_icmp_ne 146 129 dX5_lay_126 rfl rfl (fun h_126 => ?_) (fun h_126 => ?_)
                  · skip
                    refine q_iload_n 147 dX5_lay_146 rfl rfl ?_
                    refine q_iconst (v := 3) 148 dX5_lay_147 rfl rfl ?_
                    refine q_icmp_ne 157 151 dX5_lay_148 rfl rfl (fun h_148 => ?_) (fun h_148 => ?_)
                    · skip
                      refine q_iload 159 dX5_lay_157 rfl rfl ?_
                      refine q_iret dX5_lay_159 ?_
                      first
                      | (have hq := hM1; have hcl : cLay s l t k := (lay_1 h_86).mpr ⟨h_4, hq⟩; have hx : ¬ (t = 2 ∧ M 1 (tn k) 1 < 0) := (fun q => by rw [h_86] at q; exact absurd q.1 (by decide)); refine ⟨congrArg (fun x => some (Value.int x)) (lay_y hcl hx).1.symm, Eq.trans ?_ (lay_y hcl hx).2.symm⟩; rw [lyM_1 h_86, putA_pp, putA_s]; rfl)
                      | (have hq := hS1; have hcl : cLay s l t k := (lay_2 h_126).mpr ⟨h_4, hq⟩; have hx : ¬ (t = 2 ∧ M 1 (tn k) 1 < 0) := (fun q => hms q.2); refine ⟨congrArg (fun x => some (Value.int x)) (lay_y hcl hx).1.symm, Eq.trans ?_ (lay_y hcl hx).2.symm⟩; rw [lyM_2 h_126]; rfl)
                      | (have h3 := lay_03 h_13 h_86 h_126; have hcl : cLay s l t k := (lay_0 h3).mpr h_4; have hx : ¬ (t = 2 ∧ M 1 (tn k) 1 < 0) := (fun q => h_126 q.1); have hq : ¬ t = 3 := h_148; refine ⟨congrArg (fun x => some (Value.int x)) (lay_y hcl hx).1.symm, Eq.trans ?_ (lay_y hcl hx).2.symm⟩; rw [lyM_0 h_86 h_126 hq]; rfl)
                      | (have h3 := lay_03 h_13 h_86 h_126; have hcl : cLay s l t k := (lay_0 h3).mpr h_4; have hx : ¬ (t = 2 ∧ M 1 (tn k) 1 < 0) := (fun q => h_126 q.1); refine ⟨congrArg (fun x => some (Value.int x)) (lay_y hcl hx).1.symm, Eq.trans ?_ (lay_y hcl hx).2.symm⟩; rw [lyM_3 h_148, putA_pp, putA_s])
                    · skip
                      refine q_aload 153 dX5_lay_151 rfl rfl ?_
                      refine q_iload_n 154 dX5_lay_153 rfl rfl ?_
                      refine q_putI 157 dX5_lay_154 rfl fl_X5_302 fp_2_2 l5 rfl (by decide) rfl rfl ?_
                      refine q_iload 159 dX5_lay_157 rfl rfl ?_
                      refine q_iret dX5_lay_159 ?_
                      first
                      | (have hq := hM1; have hcl : cLay s l t k := (lay_1 h_86).mpr ⟨h_4, hq⟩; have hx : ¬ (t = 2 ∧ M 1 (tn k) 1 < 0) := (fun q => by rw [h_86] at q; exact absurd q.1 (by decide)); refine ⟨congrArg (fun x => some (Value.int x)) (lay_y hcl hx).1.symm, Eq.trans ?_ (lay_y hcl hx).2.symm⟩; rw [lyM_1 h_86, putA_pp, putA_s]; rfl)
                      | (have hq := hS1; have hcl : cLay s l t k := (lay_2 h_126).mpr ⟨h_4, hq⟩; have hx : ¬ (t = 2 ∧ M 1 (tn k) 1 < 0) := (fun q => hms q.2); refine ⟨congrArg (fun x => some (Value.int x)) (lay_y hcl hx).1.symm, Eq.trans ?_ (lay_y hcl hx).2.symm⟩; rw [lyM_2 h_126]; rfl)
                      | (have h3 := lay_03 h_13 h_86 h_126; have hcl : cLay s l t k := (lay_0 h3).mpr h_4; have hx : ¬ (t = 2 ∧ M 1 (tn k) 1 < 0) := (fun q => h_126 q.1); have hq : ¬ t = 3 := h_148; refine ⟨congrArg (fun x => some (Value.int x)) (lay_y hcl hx).1.symm, Eq.trans ?_ (lay_y hcl hx).2.symm⟩; rw [lyM_0 h_86 h_126 hq]; rfl)
                      | (have h3 := lay_03 h_13 h_86 h_126; have hcl : cLay s l t k := (lay_0 h3).mpr h_4; have hx : ¬ (t = 2 ∧ M 1 (tn k) 1 < 0) := (fun q => h_126 q.1); refine ⟨congrArg (fun x => some (Value.int x)) (lay_y hcl hx).1.symm, Eq.trans ?_ (lay_y hcl hx).2.symm⟩; rw [lyM_3 h_148, putA_pp, putA_s])
                  · skip
                    have hS1 : isS k := by first | exact absurd h_126 h_49 | exact hS0
                    obtain ⟨ek1, lk1⟩ := rg_tn hS1 (n := 3) rfl
                    have k41 : tn k < 4 := by omega
                    have hms : ¬ M 1 (tn k) 1 < 0 := by first | exact absurd h_126 h_49 | exact h_57
                    refine q_aload 131 dX5_lay_129 rfl rfl ?_
                    refine q_getR 134 dX5_lay_131 rfl fl_X5_296 l5 rfl rfl ?_
                    refine q_aload_n 135 dX5_lay_134 rfl rfl ?_
                    refine q_getR 138 dX5_lay_135 rfl fl_X5_44 (by decide) rfl rfl ?_
                    refine q_iload_n 139 dX5_lay_138 rfl rfl ?_
                    refine q_aald7 140 dX5_lay_139 rfl ek1 k41 ?_
                    refine q_callVv 143 dX5_lay_140 rfl (c1_become _ (tn l + 4) (tn k) (by omega) (by omega) (by omega)) cw_X5_300 (show tn l + 4 < 9 by omega) rfl rfl ⟨by decide, by decide⟩ ⟨by decide, by decide⟩ (Nat.le_of_ble_eq_true rfl) ?_
                    refine q_goto 157 dX5_lay_143 rfl ?_
                    refine q_iload 159 dX5_lay_157 rfl rfl ?_
                    refine q_iret dX5_lay_159 ?_
                    first
                    | (have hq := hM1; have hcl : cLay s l t k := (lay_1 h_86).mpr ⟨h_4, hq⟩; have hx : ¬ (t = 2 ∧ M 1 (tn k) 1 < 0) := (fun q => by rw [h_86] at q; exact absurd q.1 (by decide)); refine ⟨congrArg (fun x => some (Value.int x)) (lay_y hcl hx).1.symm, Eq.trans ?_ (lay_y hcl hx).2.symm⟩; rw [lyM_1 h_86, putA_pp, putA_s]; rfl)
                    | (have hq := hS1; have hcl : cLay s l t k := (lay_2 h_126).mpr ⟨h_4, hq⟩; have hx : ¬ (t = 2 ∧ M 1 (tn k) 1 < 0) := (fun q => hms q.2); refine ⟨congrArg (fun x => some (Value.int x)) (lay_y hcl hx).1.symm, Eq.trans ?_ (lay_y hcl hx).2.symm⟩; rw [lyM_2 h_126]; rfl)
                    | (have h3 := lay_03 h_13 h_86 h_126; have hcl : cLay s l t k := (lay_0 h3).mpr h_4; have hx : ¬ (t = 2 ∧ M 1 (tn k) 1 < 0) := (fun q => h_126 q.1); have hq : ¬ t = 3 := h_148; refine ⟨congrArg (fun x => some (Value.int x)) (lay_y hcl hx).1.symm, Eq.trans ?_ (lay_y hcl hx).2.symm⟩; rw [lyM_0 h_86 h_126 hq]; rfl)
                    | (have h3 := lay_03 h_13 h_86 h_126; have hcl : cLay s l t k := (lay_0 h3).mpr h_4; have hx : ¬ (t = 2 ∧ M 1 (tn k) 1 < 0) := (fun q => h_126 q.1); refine ⟨congrArg (fun x => some (Value.int x)) (lay_y hcl hx).1.symm, Eq.trans ?_ (lay_y hcl hx).2.symm⟩; rw [lyM_3 h_148, putA_pp, putA_s])
                · skip
                  have hM1 : isM s k := by first | exact absurd h_86 h_21 | exact h_29
                  obtain ⟨em, lm⟩ := isM_nat hW.1.1 hW.1.2 hM1
                  have m10 : tn k < 10 := by have := hW.1.2; omega
                  refine q_aload 91 dX5_lay_89 rfl rfl ?_
                  refine q_aload_n 92 dX5_lay_91 rfl rfl ?_
                  refine q_getR 95 dX5_lay_92 rfl fl_X5_21 (by decide) rfl rfl ?_
                  refine q_getR 98 dX5_lay_95 rfl fl_X5_86 (by decide) rfl rfl ?_
                  refine q_iload_n 99 dX5_lay_98 rfl rfl ?_
                  refine q_iald 100 dX5_lay_99 rfl (by decide) (by decide) em m10 ?_
                  refine q_aload_n 101 dX5_lay_100 rfl rfl ?_
                  refine q_getR 104 dX5_lay_101 rfl fl_X5_21 (by decide) rfl rfl ?_
                  refine q_getR 107 dX5_lay_104 rfl fl_X5_89 (by decide) rfl rfl ?_
                  refine q_iload_n 108 dX5_lay_107 rfl rfl ?_
                  refine q_iald 109 dX5_lay_108 rfl (by decide) (by decide) em m10 ?_
                  refine q_aload_n 110 dX5_lay_109 rfl rfl ?_
                  refine q_getR 113 dX5_lay_110 rfl fl_X5_21 (by decide) rfl rfl ?_
                  refine q_getR 116 dX5_lay_113 rfl fl_X5_98 (by decide) rfl rfl ?_
                  refine q_iload_n 117 dX5_lay_116 rfl rfl ?_
                  refine q_iald 118 dX5_lay_117 rfl (by decide) (by decide) em m10 ?_
                  refine q_callVv 121 dX5_lay_118 rfl (c2_takeMark _ (tn l) l5 _ _ _) cw_X5_292 l5 rfl rfl ⟨by decide, by decide⟩ ⟨by decide, by decide⟩ (Nat.le_of_ble_eq_true rfl) ?_
                  refine q_goto 157 dX5_lay_121 rfl ?_
                  refine q_iload 159 dX5_lay_157 rfl rfl ?_
                  refine q_iret dX5_lay_159 ?_
                  first
                  | (have hq := hM1; have hcl : cLay s l t k := (lay_1 h_86).mpr ⟨h_4, hq⟩; have hx : ¬ (t = 2 ∧ M 1 (tn k) 1 < 0) := (fun q => by rw [h_86] at q; exact absurd q.1 (by decide)); refine ⟨congrArg (fun x => some (Value.int x)) (lay_y hcl hx).1.symm, Eq.trans ?_ (lay_y hcl hx).2.symm⟩; rw [lyM_1 h_86, putA_pp, putA_s]; rfl)
                  | (have hq := hS1; have hcl : cLay s l t k := (lay_2 h_126).mpr ⟨h_4, hq⟩; have hx : ¬ (t = 2 ∧ M 1 (tn k) 1 < 0) := (fun q => hms q.2); refine ⟨congrArg (fun x => some (Value.int x)) (lay_y hcl hx).1.symm, Eq.trans ?_ (lay_y hcl hx).2.symm⟩; rw [lyM_2 h_126]; rfl)
                  | (have h3 := lay_03 h_13 h_86 h_126; have hcl : cLay s l t k := (lay_0 h3).mpr h_4; have hx : ¬ (t = 2 ∧ M 1 (tn k) 1 < 0) := (fun q => h_126 q.1); have hq : ¬ t = 3 := h_148; refine ⟨congrArg (fun x => some (Value.int x)) (lay_y hcl hx).1.symm, Eq.trans ?_ (lay_y hcl hx).2.symm⟩; rw [lyM_0 h_86 h_126 hq]; rfl)
                  | (have h3 := lay_03 h_13 h_86 h_126; have hcl : cLay s l t k := (lay_0 h3).mpr h_4; have hx : ¬ (t = 2 ∧ M 1 (tn k) 1 < 0) := (fun q => h_126 q.1); refine ⟨congrArg (fun x => some (Value.int x)) (lay_y hcl hx).1.symm, Eq.trans ?_ (lay_y hcl hx).2.symm⟩; rw [lyM_3 h_148, putA_pp, putA_s])
              · skip
                simp only [bI_0, Classical.not_not] at h_57
                rw [ms_iff hso] at h_57
                refine q_ldc 62 dX5_lay_60 rfl cs_X5_218 ?_
                refine q_iret dX5_lay_62 ?_
                have hcl : cLay s l t k := (lay_2 h_49).mpr ⟨h_4, hS0⟩
                refine ⟨congrArg (fun x => some (Value.int x)) ?_, ?_⟩
                · unfold aLay5; rw [if_pos hcl, if_pos ⟨h_49, h_57⟩]
                · unfold mLay5; rw [if_neg (fun q => q.2 ⟨h_49, h_57⟩)]
          · skip
            simp only [bI_0, Classical.not_not] at h_41
            refine q_ldc 46 dX5_lay_44 rfl cs_X5_73 ?_
            refine q_iret dX5_lay_46 ?_
            refine lay_n (fun q => ?_)
            first | (have hq := (lay_1 h_21).mp q; exact h_29 hq.2) | (have hq := (lay_2 h_34).mp q; exact h_41 hq.2)
      · skip
        refine q_aload_n 25 dX5_lay_24 rfl rfl ?_
        refine q_iload_n 26 dX5_lay_25 rfl rfl ?_
        refine q_callVt 29 dX5_lay_26 rfl (c5_isMark _ _) cw_X5_83 (by decide) rfl rfl ⟨by decide, by decide⟩ ⟨by decide, by decide⟩ (Nat.le_of_ble_eq_true rfl) ?_
        refine q_if_eq 44 32 dX5_lay_29 rfl rfl (fun h_29 => ?_) (fun h_29 => ?_)
        · skip
          simp only [bI_0, Classical.not_not] at h_29
          rw [e11] at h_29
          refine q_ldc 46 dX5_lay_44 rfl cs_X5_73 ?_
          refine q_iret dX5_lay_46 ?_
          refine lay_n (fun q => ?_)
          first | (have hq := (lay_1 h_21).mp q; exact h_29 hq.2) | (have hq := (lay_2 h_34).mp q; exact h_41 hq.2)
        · skip
          simp only [bI_0, Classical.not_not] at h_29
          rw [e11] at h_29
          refine q_iload_n 33 dX5_lay_32 rfl rfl ?_
          refine q_iconst (v := 2) 34 dX5_lay_33 rfl rfl ?_
          refine q_icmp_ne 47 37 dX5_lay_34 rfl rfl (fun h_34 => ?_) (fun h_34 => ?_)
          · skip
            refine q_iload_n 48 dX5_lay_47 rfl rfl ?_
            refine q_iconst (v := 2) 49 dX5_lay_48 rfl rfl ?_
            refine q_icmp_ne 63 52 dX5_lay_49 rfl rfl (fun h_49 => ?_) (fun h_49 => ?_)
            · skip
              refine q_aload_n 64 dX5_lay_63 rfl rfl ?_
              refine q_getR 67 dX5_lay_64 rfl fl_X5_50 (by decide) rfl rfl ?_
              refine q_iload_n 68 dX5_lay_67 rfl rfl ?_
              refine q_aald8 69 dX5_lay_68 rfl el l5 ?_
              refine q_astore 71 dX5_lay_69 rfl (by decide) rfl ?_
              refine q_aload 73 dX5_lay_71 rfl rfl ?_
              refine q_getI 76 dX5_lay_73 rfl fl_X5_289 l5 rfl (by decide) ?_
              refine q_istore 78 dX5_lay_76 rfl (by decide) rfl ?_
              refine q_aload 80 dX5_lay_78 rfl rfl ?_
              refine q_iload_n 81 dX5_lay_80 rfl rfl ?_
              refine q_putI 84 dX5_lay_81 rfl fl_X5_289 fp_2_1 l5 rfl (by decide) rfl rfl ?_
              refine q_iload_n 85 dX5_lay_84 rfl rfl ?_
              refine q_iconst (v := 1) 86 dX5_lay_85 rfl rfl ?_
              refine q_icmp_ne 124 89 dX5_lay_86 rfl rfl (fun h_86 => ?_) (fun h_86 => ?_)
              · skip
                refine q_iload_n 125 dX5_lay_124 rfl rfl ?_
                refine q_iconst (v := 2) 126 dX5_lay_125 rfl rfl ?_
                refine q_icmp_ne 146 129 dX5_lay_126 rfl rfl (fun h_126 => ?_) (fun h_126 => ?_)
                · skip
                  refine q_iload_n 147 dX5_lay_146 rfl rfl ?_
                  refine q_iconst (v := 3) 148 dX5_lay_147 rfl rfl ?_
                  refine q_icmp_ne 157 151 dX5_lay_148 rfl rfl (fun h_148 => ?_) (fun h_148 => ?_)
                  · skip
                    refine q_iload 159 dX5_lay_157 rfl rfl ?_
                    refine q_iret dX5_lay_159 ?_
                    first
                    | (have hq := hM1; have hcl : cLay s l t k := (lay_1 h_86).mpr ⟨h_4, hq⟩; have hx : ¬ (t = 2 ∧ M 1 (tn k) 1 < 0) := (fun q => by rw [h_86] at q; exact absurd q.1 (by decide)); refine ⟨congrArg (fun x => some (Value.int x)) (lay_y hcl hx).1.symm, Eq.trans ?_ (lay_y hcl hx).2.symm⟩; rw [lyM_1 h_86, putA_pp, putA_s]; rfl)
                    | (have hq := hS1; have hcl : cLay s l t k := (lay_2 h_126).mpr ⟨h_4, hq⟩; have hx : ¬ (t = 2 ∧ M 1 (tn k) 1 < 0) := (fun q => hms q.2); refine ⟨congrArg (fun x => some (Value.int x)) (lay_y hcl hx).1.symm, Eq.trans ?_ (lay_y hcl hx).2.symm⟩; rw [lyM_2 h_126]; rfl)
                    | (have h3 := lay_03 h_13 h_86 h_126; have hcl : cLay s l t k := (lay_0 h3).mpr h_4; have hx : ¬ (t = 2 ∧ M 1 (tn k) 1 < 0) := (fun q => h_126 q.1); have hq : ¬ t = 3 := h_148; refine ⟨congrArg (fun x => some (Value.int x)) (lay_y hcl hx).1.symm, Eq.trans ?_ (lay_y hcl hx).2.symm⟩; rw [lyM_0 h_86 h_126 hq]; rfl)
                    | (have h3 := lay_03 h_13 h_86 h_126; have hcl : cLay s l t k := (lay_0 h3).mpr h_4; have hx : ¬ (t = 2 ∧ M 1 (tn k) 1 < 0) := (fun q => h_126 q.1); refine ⟨congrArg (fun x => some (Value.int x)) (lay_y hcl hx).1.symm, Eq.trans ?_ (lay_y hcl hx).2.symm⟩; rw [lyM_3 h_148, putA_pp, putA_s])
                  · skip
                    refine q_aload 153 dX5_lay_151 rfl rfl ?_
                    refine q_iload_n 154 dX5_lay_153 rfl rfl ?_
                    refine q_putI 157 dX5_lay_154 rfl fl_X5_302 fp_2_2 l5 rfl (by decide) rfl rfl ?_
                    refine q_iload 159 dX5_lay_157 rfl rfl ?_
                    refine q_iret dX5_lay_159 ?_
                    first
                    | (have hq := hM1; have hcl : cLay s l t k := (lay_1 h_86).mpr ⟨h_4, hq⟩; have hx : ¬ (t = 2 ∧ M 1 (tn k) 1 < 0) := (fun q => by rw [h_86] at q; exact absurd q.1 (by decide)); refine ⟨congrArg (fun x => some (Value.int x)) (lay_y hcl hx).1.symm, Eq.trans ?_ (lay_y hcl hx).2.symm⟩; rw [lyM_1 h_86, putA_pp, putA_s]; rfl)
                    | (have hq := hS1; have hcl : cLay s l t k := (lay_2 h_126).mpr ⟨h_4, hq⟩; have hx : ¬ (t = 2 ∧ M 1 (tn k) 1 < 0) := (fun q => hms q.2); refine ⟨congrArg (fun x => some (Value.int x)) (lay_y hcl hx).1.symm, Eq.trans ?_ (lay_y hcl hx).2.symm⟩; rw [lyM_2 h_126]; rfl)
                    | (have h3 := lay_03 h_13 h_86 h_126; have hcl : cLay s l t k := (lay_0 h3).mpr h_4; have hx : ¬ (t = 2 ∧ M 1 (tn k) 1 < 0) := (fun q => h_126 q.1); have hq : ¬ t = 3 := h_148; refine ⟨congrArg (fun x => some (Value.int x)) (lay_y hcl hx).1.symm, Eq.trans ?_ (lay_y hcl hx).2.symm⟩; rw [lyM_0 h_86 h_126 hq]; rfl)
                    | (have h3 := lay_03 h_13 h_86 h_126; have hcl : cLay s l t k := (lay_0 h3).mpr h_4; have hx : ¬ (t = 2 ∧ M 1 (tn k) 1 < 0) := (fun q => h_126 q.1); refine ⟨congrArg (fun x => some (Value.int x)) (lay_y hcl hx).1.symm, Eq.trans ?_ (lay_y hcl hx).2.symm⟩; rw [lyM_3 h_148, putA_pp, putA_s])
                · skip
                  have hS1 : isS k := by first | exact absurd h_126 h_49 | exact hS0
                  obtain ⟨ek1, lk1⟩ := rg_tn hS1 (n := 3) rfl
                  have k41 : tn k < 4 := by omega
                  have hms : ¬ M 1 (tn k) 1 < 0 := by first | exact absurd h_126 h_49 | exact h_57
                  refine q_aload 131 dX5_lay_129 rfl rfl ?_
                  refine q_getR 134 dX5_lay_131 rfl fl_X5_296 l5 rfl rfl ?_
                  refine q_aload_n 135 dX5_lay_134 rfl rfl ?_
                  refine q_getR 138 dX5_lay_135 rfl fl_X5_44 (by decide) rfl rfl ?_
                  refine q_iload_n 139 dX5_lay_138 rfl rfl ?_
                  refine q_aald7 140 dX5_lay_139 rfl ek1 k41 ?_
                  refine q_callVv 143 dX5_lay_140 rfl (c1_become _ (tn l + 4) (tn k) (by omega) (by omega) (by omega)) cw_X5_300 (show tn l + 4 < 9 by omega) rfl rfl ⟨by decide, by decide⟩ ⟨by decide, by decide⟩ (Nat.le_of_ble_eq_true rfl) ?_
                  refine q_goto 157 dX5_lay_143 rfl ?_
                  refine q_iload 159 dX5_lay_157 rfl rfl ?_
                  refine q_iret dX5_lay_159 ?_
                  first
                  | (have hq := hM1; have hcl : cLay s l t k := (lay_1 h_86).mpr ⟨h_4, hq⟩; have hx : ¬ (t = 2 ∧ M 1 (tn k) 1 < 0) := (fun q => by rw [h_86] at q; exact absurd q.1 (by decide)); refine ⟨congrArg (fun x => some (Value.int x)) (lay_y hcl hx).1.symm, Eq.trans ?_ (lay_y hcl hx).2.symm⟩; rw [lyM_1 h_86, putA_pp, putA_s]; rfl)
                  | (have hq := hS1; have hcl : cLay s l t k := (lay_2 h_126).mpr ⟨h_4, hq⟩; have hx : ¬ (t = 2 ∧ M 1 (tn k) 1 < 0) := (fun q => hms q.2); refine ⟨congrArg (fun x => some (Value.int x)) (lay_y hcl hx).1.symm, Eq.trans ?_ (lay_y hcl hx).2.symm⟩; rw [lyM_2 h_126]; rfl)
                  | (have h3 := lay_03 h_13 h_86 h_126; have hcl : cLay s l t k := (lay_0 h3).mpr h_4; have hx : ¬ (t = 2 ∧ M 1 (tn k) 1 < 0) := (fun q => h_126 q.1); have hq : ¬ t = 3 := h_148; refine ⟨congrArg (fun x => some (Value.int x)) (lay_y hcl hx).1.symm, Eq.trans ?_ (lay_y hcl hx).2.symm⟩; rw [lyM_0 h_86 h_126 hq]; rfl)
                  | (have h3 := lay_03 h_13 h_86 h_126; have hcl : cLay s l t k := (lay_0 h3).mpr h_4; have hx : ¬ (t = 2 ∧ M 1 (tn k) 1 < 0) := (fun q => h_126 q.1); refine ⟨congrArg (fun x => some (Value.int x)) (lay_y hcl hx).1.symm, Eq.trans ?_ (lay_y hcl hx).2.symm⟩; rw [lyM_3 h_148, putA_pp, putA_s])
              · skip
                have hM1 : isM s k := by first | exact absurd h_86 h_21 | exact h_29
                obtain ⟨em, lm⟩ := isM_nat hW.1.1 hW.1.2 hM1
                have m10 : tn k < 10 := by have := hW.1.2; omega
                refine q_aload 91 dX5_lay_89 rfl rfl ?_
                refine q_aload_n 92 dX5_lay_91 rfl rfl ?_
                refine q_getR 95 dX5_lay_92 rfl fl_X5_21 (by decide) rfl rfl ?_
                refine q_getR 98 dX5_lay_95 rfl fl_X5_86 (by decide) rfl rfl ?_
                refine q_iload_n 99 dX5_lay_98 rfl rfl ?_
                refine q_iald 100 dX5_lay_99 rfl (by decide) (by decide) em m10 ?_
                refine q_aload_n 101 dX5_lay_100 rfl rfl ?_
                refine q_getR 104 dX5_lay_101 rfl fl_X5_21 (by decide) rfl rfl ?_
                refine q_getR 107 dX5_lay_104 rfl fl_X5_89 (by decide) rfl rfl ?_
                refine q_iload_n 108 dX5_lay_107 rfl rfl ?_
                refine q_iald 109 dX5_lay_108 rfl (by decide) (by decide) em m10 ?_
                refine q_aload_n 110 dX5_lay_109 rfl rfl ?_
                refine q_getR 113 dX5_lay_110 rfl fl_X5_21 (by decide) rfl rfl ?_
                refine q_getR 116 dX5_lay_113 rfl fl_X5_98 (by decide) rfl rfl ?_
                refine q_iload_n 117 dX5_lay_116 rfl rfl ?_
                refine q_iald 118 dX5_lay_117 rfl (by decide) (by decide) em m10 ?_
                refine q_callVv 121 dX5_lay_118 rfl (c2_takeMark _ (tn l) l5 _ _ _) cw_X5_292 l5 rfl rfl ⟨by decide, by decide⟩ ⟨by decide, by decide⟩ (Nat.le_of_ble_eq_true rfl) ?_
                refine q_goto 157 dX5_lay_121 rfl ?_
                refine q_iload 159 dX5_lay_157 rfl rfl ?_
                refine q_iret dX5_lay_159 ?_
                first
                | (have hq := hM1; have hcl : cLay s l t k := (lay_1 h_86).mpr ⟨h_4, hq⟩; have hx : ¬ (t = 2 ∧ M 1 (tn k) 1 < 0) := (fun q => by rw [h_86] at q; exact absurd q.1 (by decide)); refine ⟨congrArg (fun x => some (Value.int x)) (lay_y hcl hx).1.symm, Eq.trans ?_ (lay_y hcl hx).2.symm⟩; rw [lyM_1 h_86, putA_pp, putA_s]; rfl)
                | (have hq := hS1; have hcl : cLay s l t k := (lay_2 h_126).mpr ⟨h_4, hq⟩; have hx : ¬ (t = 2 ∧ M 1 (tn k) 1 < 0) := (fun q => hms q.2); refine ⟨congrArg (fun x => some (Value.int x)) (lay_y hcl hx).1.symm, Eq.trans ?_ (lay_y hcl hx).2.symm⟩; rw [lyM_2 h_126]; rfl)
                | (have h3 := lay_03 h_13 h_86 h_126; have hcl : cLay s l t k := (lay_0 h3).mpr h_4; have hx : ¬ (t = 2 ∧ M 1 (tn k) 1 < 0) := (fun q => h_126 q.1); have hq : ¬ t = 3 := h_148; refine ⟨congrArg (fun x => some (Value.int x)) (lay_y hcl hx).1.symm, Eq.trans ?_ (lay_y hcl hx).2.symm⟩; rw [lyM_0 h_86 h_126 hq]; rfl)
                | (have h3 := lay_03 h_13 h_86 h_126; have hcl : cLay s l t k := (lay_0 h3).mpr h_4; have hx : ¬ (t = 2 ∧ M 1 (tn k) 1 < 0) := (fun q => h_126 q.1); refine ⟨congrArg (fun x => some (Value.int x)) (lay_y hcl hx).1.symm, Eq.trans ?_ (lay_y hcl hx).2.symm⟩; rw [lyM_3 h_148, putA_pp, putA_s])
            · skip
              have hS0 : isS k := by first | exact h_41 | exact absurd h_49 h_34
              obtain ⟨ek, lk⟩ := rg_tn hS0 (n := 3) rfl
              have k4 : tn k < 4 := by omega
              obtain ⟨hso, z, z24, ez⟩ := hS (tn k) k4
              refine q_aload_n 53 dX5_lay_52 rfl rfl ?_
              refine q_iload_n 54 dX5_lay_53 rfl rfl ?_
              refine q_callVt 57 dX5_lay_54 rfl (c5_isMissing _ _ (tn k) ek k4) cw_X5_215 (by decide) rfl rfl ⟨by decide, by decide⟩ ⟨by decide, by decide⟩ (Nat.le_of_ble_eq_true rfl) ?_
              refine q_if_eq 63 60 dX5_lay_57 rfl rfl (fun h_57 => ?_) (fun h_57 => ?_)
              · skip
                simp only [bI_0, Classical.not_not] at h_57
                rw [ms_iff hso] at h_57
                refine q_aload_n 64 dX5_lay_63 rfl rfl ?_
                refine q_getR 67 dX5_lay_64 rfl fl_X5_50 (by decide) rfl rfl ?_
                refine q_iload_n 68 dX5_lay_67 rfl rfl ?_
                refine q_aald8 69 dX5_lay_68 rfl el l5 ?_
                refine q_astore 71 dX5_lay_69 rfl (by decide) rfl ?_
                refine q_aload 73 dX5_lay_71 rfl rfl ?_
                refine q_getI 76 dX5_lay_73 rfl fl_X5_289 l5 rfl (by decide) ?_
                refine q_istore 78 dX5_lay_76 rfl (by decide) rfl ?_
                refine q_aload 80 dX5_lay_78 rfl rfl ?_
                refine q_iload_n 81 dX5_lay_80 rfl rfl ?_
                refine q_putI 84 dX5_lay_81 rfl fl_X5_289 fp_2_1 l5 rfl (by decide) rfl rfl ?_
                refine q_iload_n 85 dX5_lay_84 rfl rfl ?_
                refine q_iconst (v := 1) 86 dX5_lay_85 rfl rfl ?_
                refine q_icmp_ne 124 89 dX5_lay_86 rfl rfl (fun h_86 => ?_) (fun h_86 => ?_)
                · skip
                  refine q_iload_n 125 dX5_lay_124 rfl rfl ?_
                  refine q_iconst (v := 2) 126 dX5_lay_125 rfl rfl ?_
                  refine q_icmp_ne 146 129 dX5_lay_126 rfl rfl (fun h_126 => ?_) (fun h_126 => ?_)
                  · skip
                    refine q_iload_n 147 dX5_lay_146 rfl rfl ?_
                    refine q_iconst (v := 3) 148 dX5_lay_147 rfl rfl ?_
                    refine q_icmp_ne 157 151 dX5_lay_148 rfl rfl (fun h_148 => ?_) (fun h_148 => ?_)
                    · skip
                      refine q_iload 159 dX5_lay_157 rfl rfl ?_
                      refine q_iret dX5_lay_159 ?_
                      first
                      | (have hq := hM1; have hcl : cLay s l t k := (lay_1 h_86).mpr ⟨h_4, hq⟩; have hx : ¬ (t = 2 ∧ M 1 (tn k) 1 < 0) := (fun q => by rw [h_86] at q; exact absurd q.1 (by decide)); refine ⟨congrArg (fun x => some (Value.int x)) (lay_y hcl hx).1.symm, Eq.trans ?_ (lay_y hcl hx).2.symm⟩; rw [lyM_1 h_86, putA_pp, putA_s]; rfl)
                      | (have hq := hS1; have hcl : cLay s l t k := (lay_2 h_126).mpr ⟨h_4, hq⟩; have hx : ¬ (t = 2 ∧ M 1 (tn k) 1 < 0) := (fun q => hms q.2); refine ⟨congrArg (fun x => some (Value.int x)) (lay_y hcl hx).1.symm, Eq.trans ?_ (lay_y hcl hx).2.symm⟩; rw [lyM_2 h_126]; rfl)
                      | (have h3 := lay_03 h_13 h_86 h_126; have hcl : cLay s l t k := (lay_0 h3).mpr h_4; have hx : ¬ (t = 2 ∧ M 1 (tn k) 1 < 0) := (fun q => h_126 q.1); have hq : ¬ t = 3 := h_148; refine ⟨congrArg (fun x => some (Value.int x)) (lay_y hcl hx).1.symm, Eq.trans ?_ (lay_y hcl hx).2.symm⟩; rw [lyM_0 h_86 h_126 hq]; rfl)
                      | (have h3 := lay_03 h_13 h_86 h_126; have hcl : cLay s l t k := (lay_0 h3).mpr h_4; have hx : ¬ (t = 2 ∧ M 1 (tn k) 1 < 0) := (fun q => h_126 q.1); refine ⟨congrArg (fun x => some (Value.int x)) (lay_y hcl hx).1.symm, Eq.trans ?_ (lay_y hcl hx).2.symm⟩; rw [lyM_3 h_148, putA_pp, putA_s])
                    · skip
                      refine q_aload 153 dX5_lay_151 rfl rfl ?_
                      refine q_iload_n 154 dX5_lay_153 rfl rfl ?_
                      refine q_putI 157 dX5_lay_154 rfl fl_X5_302 fp_2_2 l5 rfl (by decide) rfl rfl ?_
                      refine q_iload 159 dX5_lay_157 rfl rfl ?_
                      refine q_iret dX5_lay_159 ?_
                      first
                      | (have hq := hM1; have hcl : cLay s l t k := (lay_1 h_86).mpr ⟨h_4, hq⟩; have hx : ¬ (t = 2 ∧ M 1 (tn k) 1 < 0) := (fun q => by rw [h_86] at q; exact absurd q.1 (by decide)); refine ⟨congrArg (fun x => some (Value.int x)) (lay_y hcl hx).1.symm, Eq.trans ?_ (lay_y hcl hx).2.symm⟩; rw [lyM_1 h_86, putA_pp, putA_s]; rfl)
                      | (have hq := hS1; have hcl : cLay s l t k := (lay_2 h_126).mpr ⟨h_4, hq⟩; have hx : ¬ (t = 2 ∧ M 1 (tn k) 1 < 0) := (fun q => hms q.2); refine ⟨congrArg (fun x => some (Value.int x)) (lay_y hcl hx).1.symm, Eq.trans ?_ (lay_y hcl hx).2.symm⟩; rw [lyM_2 h_126]; rfl)
                      | (have h3 := lay_03 h_13 h_86 h_126; have hcl : cLay s l t k := (lay_0 h3).mpr h_4; have hx : ¬ (t = 2 ∧ M 1 (tn k) 1 < 0) := (fun q => h_126 q.1); have hq : ¬ t = 3 := h_148; refine ⟨congrArg (fun x => some (Value.int x)) (lay_y hcl hx).1.symm, Eq.trans ?_ (lay_y hcl hx).2.symm⟩; rw [lyM_0 h_86 h_126 hq]; rfl)
                      | (have h3 := lay_03 h_13 h_86 h_126; have hcl : cLay s l t k := (lay_0 h3).mpr h_4; have hx : ¬ (t = 2 ∧ M 1 (tn k) 1 < 0) := (fun q => h_126 q.1); refine ⟨congrArg (fun x => some (Value.int x)) (lay_y hcl hx).1.symm, Eq.trans ?_ (lay_y hcl hx).2.symm⟩; rw [lyM_3 h_148, putA_pp, putA_s])
                  · skip
                    have hS1 : isS k := by first | exact absurd h_126 h_49 | exact hS0
                    obtain ⟨ek1, lk1⟩ := rg_tn hS1 (n := 3) rfl
                    have k41 : tn k < 4 := by omega
                    have hms : ¬ M 1 (tn k) 1 < 0 := by first | exact absurd h_126 h_49 | exact h_57
                    refine q_aload 131 dX5_lay_129 rfl rfl ?_
                    refine q_getR 134 dX5_lay_131 rfl fl_X5_296 l5 rfl rfl ?_
                    refine q_aload_n 135 dX5_lay_134 rfl rfl ?_
                    refine q_getR 138 dX5_lay_135 rfl fl_X5_44 (by decide) rfl rfl ?_
                    refine q_iload_n 139 dX5_lay_138 rfl rfl ?_
                    refine q_aald7 140 dX5_lay_139 rfl ek1 k41 ?_
                    refine q_callVv 143 dX5_lay_140 rfl (c1_become _ (tn l + 4) (tn k) (by omega) (by omega) (by omega)) cw_X5_300 (show tn l + 4 < 9 by omega) rfl rfl ⟨by decide, by decide⟩ ⟨by decide, by decide⟩ (Nat.le_of_ble_eq_true rfl) ?_
                    refine q_goto 157 dX5_lay_143 rfl ?_
                    refine q_iload 159 dX5_lay_157 rfl rfl ?_
                    refine q_iret dX5_lay_159 ?_
                    first
                    | (have hq := hM1; have hcl : cLay s l t k := (lay_1 h_86).mpr ⟨h_4, hq⟩; have hx : ¬ (t = 2 ∧ M 1 (tn k) 1 < 0) := (fun q => by rw [h_86] at q; exact absurd q.1 (by decide)); refine ⟨congrArg (fun x => some (Value.int x)) (lay_y hcl hx).1.symm, Eq.trans ?_ (lay_y hcl hx).2.symm⟩; rw [lyM_1 h_86, putA_pp, putA_s]; rfl)
                    | (have hq := hS1; have hcl : cLay s l t k := (lay_2 h_126).mpr ⟨h_4, hq⟩; have hx : ¬ (t = 2 ∧ M 1 (tn k) 1 < 0) := (fun q => hms q.2); refine ⟨congrArg (fun x => some (Value.int x)) (lay_y hcl hx).1.symm, Eq.trans ?_ (lay_y hcl hx).2.symm⟩; rw [lyM_2 h_126]; rfl)
                    | (have h3 := lay_03 h_13 h_86 h_126; have hcl : cLay s l t k := (lay_0 h3).mpr h_4; have hx : ¬ (t = 2 ∧ M 1 (tn k) 1 < 0) := (fun q => h_126 q.1); have hq : ¬ t = 3 := h_148; refine ⟨congrArg (fun x => some (Value.int x)) (lay_y hcl hx).1.symm, Eq.trans ?_ (lay_y hcl hx).2.symm⟩; rw [lyM_0 h_86 h_126 hq]; rfl)
                    | (have h3 := lay_03 h_13 h_86 h_126; have hcl : cLay s l t k := (lay_0 h3).mpr h_4; have hx : ¬ (t = 2 ∧ M 1 (tn k) 1 < 0) := (fun q => h_126 q.1); refine ⟨congrArg (fun x => some (Value.int x)) (lay_y hcl hx).1.symm, Eq.trans ?_ (lay_y hcl hx).2.symm⟩; rw [lyM_3 h_148, putA_pp, putA_s])
                · skip
                  have hM1 : isM s k := by first | exact absurd h_86 h_21 | exact h_29
                  obtain ⟨em, lm⟩ := isM_nat hW.1.1 hW.1.2 hM1
                  have m10 : tn k < 10 := by have := hW.1.2; omega
                  refine q_aload 91 dX5_lay_89 rfl rfl ?_
                  refine q_aload_n 92 dX5_lay_91 rfl rfl ?_
                  refine q_getR 95 dX5_lay_92 rfl fl_X5_21 (by decide) rfl rfl ?_
                  refine q_getR 98 dX5_lay_95 rfl fl_X5_86 (by decide) rfl rfl ?_
                  refine q_iload_n 99 dX5_lay_98 rfl rfl ?_
                  refine q_iald 100 dX5_lay_99 rfl (by decide) (by decide) em m10 ?_
                  refine q_aload_n 101 dX5_lay_100 rfl rfl ?_
                  refine q_getR 104 dX5_lay_101 rfl fl_X5_21 (by decide) rfl rfl ?_
                  refine q_getR 107 dX5_lay_104 rfl fl_X5_89 (by decide) rfl rfl ?_
                  refine q_iload_n 108 dX5_lay_107 rfl rfl ?_
                  refine q_iald 109 dX5_lay_108 rfl (by decide) (by decide) em m10 ?_
                  refine q_aload_n 110 dX5_lay_109 rfl rfl ?_
                  refine q_getR 113 dX5_lay_110 rfl fl_X5_21 (by decide) rfl rfl ?_
                  refine q_getR 116 dX5_lay_113 rfl fl_X5_98 (by decide) rfl rfl ?_
                  refine q_iload_n 117 dX5_lay_116 rfl rfl ?_
                  refine q_iald 118 dX5_lay_117 rfl (by decide) (by decide) em m10 ?_
                  refine q_callVv 121 dX5_lay_118 rfl (c2_takeMark _ (tn l) l5 _ _ _) cw_X5_292 l5 rfl rfl ⟨by decide, by decide⟩ ⟨by decide, by decide⟩ (Nat.le_of_ble_eq_true rfl) ?_
                  refine q_goto 157 dX5_lay_121 rfl ?_
                  refine q_iload 159 dX5_lay_157 rfl rfl ?_
                  refine q_iret dX5_lay_159 ?_
                  first
                  | (have hq := hM1; have hcl : cLay s l t k := (lay_1 h_86).mpr ⟨h_4, hq⟩; have hx : ¬ (t = 2 ∧ M 1 (tn k) 1 < 0) := (fun q => by rw [h_86] at q; exact absurd q.1 (by decide)); refine ⟨congrArg (fun x => some (Value.int x)) (lay_y hcl hx).1.symm, Eq.trans ?_ (lay_y hcl hx).2.symm⟩; rw [lyM_1 h_86, putA_pp, putA_s]; rfl)
                  | (have hq := hS1; have hcl : cLay s l t k := (lay_2 h_126).mpr ⟨h_4, hq⟩; have hx : ¬ (t = 2 ∧ M 1 (tn k) 1 < 0) := (fun q => hms q.2); refine ⟨congrArg (fun x => some (Value.int x)) (lay_y hcl hx).1.symm, Eq.trans ?_ (lay_y hcl hx).2.symm⟩; rw [lyM_2 h_126]; rfl)
                  | (have h3 := lay_03 h_13 h_86 h_126; have hcl : cLay s l t k := (lay_0 h3).mpr h_4; have hx : ¬ (t = 2 ∧ M 1 (tn k) 1 < 0) := (fun q => h_126 q.1); have hq : ¬ t = 3 := h_148; refine ⟨congrArg (fun x => some (Value.int x)) (lay_y hcl hx).1.symm, Eq.trans ?_ (lay_y hcl hx).2.symm⟩; rw [lyM_0 h_86 h_126 hq]; rfl)
                  | (have h3 := lay_03 h_13 h_86 h_126; have hcl : cLay s l t k := (lay_0 h3).mpr h_4; have hx : ¬ (t = 2 ∧ M 1 (tn k) 1 < 0) := (fun q => h_126 q.1); refine ⟨congrArg (fun x => some (Value.int x)) (lay_y hcl hx).1.symm, Eq.trans ?_ (lay_y hcl hx).2.symm⟩; rw [lyM_3 h_148, putA_pp, putA_s])
              · skip
                simp only [bI_0, Classical.not_not] at h_57
                rw [ms_iff hso] at h_57
                refine q_ldc 62 dX5_lay_60 rfl cs_X5_218 ?_
                refine q_iret dX5_lay_62 ?_
                have hcl : cLay s l t k := (lay_2 h_49).mpr ⟨h_4, hS0⟩
                refine ⟨congrArg (fun x => some (Value.int x)) ?_, ?_⟩
                · unfold aLay5; rw [if_pos hcl, if_pos ⟨h_49, h_57⟩]
                · unfold mLay5; rw [if_neg (fun q => q.2 ⟨h_49, h_57⟩)]
          · skip
            refine q_iload_n 38 dX5_lay_37 rfl rfl ?_
            refine q_callSt 41 dX5_lay_38 rfl (c5_isSheet _ _) cw_X5_212 rfl rfl ⟨by decide, by decide⟩ ⟨by decide, by decide⟩ (Nat.le_of_ble_eq_true rfl) ?_
            refine q_if_ne 47 44 dX5_lay_41 rfl rfl (fun h_41 => ?_) (fun h_41 => ?_)
            · skip
              simp only [bI_0, Classical.not_not] at h_41
              refine q_iload_n 48 dX5_lay_47 rfl rfl ?_
              refine q_iconst (v := 2) 49 dX5_lay_48 rfl rfl ?_
              refine q_icmp_ne 63 52 dX5_lay_49 rfl rfl (fun h_49 => ?_) (fun h_49 => ?_)
              · skip
                refine q_aload_n 64 dX5_lay_63 rfl rfl ?_
                refine q_getR 67 dX5_lay_64 rfl fl_X5_50 (by decide) rfl rfl ?_
                refine q_iload_n 68 dX5_lay_67 rfl rfl ?_
                refine q_aald8 69 dX5_lay_68 rfl el l5 ?_
                refine q_astore 71 dX5_lay_69 rfl (by decide) rfl ?_
                refine q_aload 73 dX5_lay_71 rfl rfl ?_
                refine q_getI 76 dX5_lay_73 rfl fl_X5_289 l5 rfl (by decide) ?_
                refine q_istore 78 dX5_lay_76 rfl (by decide) rfl ?_
                refine q_aload 80 dX5_lay_78 rfl rfl ?_
                refine q_iload_n 81 dX5_lay_80 rfl rfl ?_
                refine q_putI 84 dX5_lay_81 rfl fl_X5_289 fp_2_1 l5 rfl (by decide) rfl rfl ?_
                refine q_iload_n 85 dX5_lay_84 rfl rfl ?_
                refine q_iconst (v := 1) 86 dX5_lay_85 rfl rfl ?_
                refine q_icmp_ne 124 89 dX5_lay_86 rfl rfl (fun h_86 => ?_) (fun h_86 => ?_)
                · skip
                  refine q_iload_n 125 dX5_lay_124 rfl rfl ?_
                  refine q_iconst (v := 2) 126 dX5_lay_125 rfl rfl ?_
                  refine q_icmp_ne 146 129 dX5_lay_126 rfl rfl (fun h_126 => ?_) (fun h_126 => ?_)
                  · skip
                    refine q_iload_n 147 dX5_lay_146 rfl rfl ?_
                    refine q_iconst (v := 3) 148 dX5_lay_147 rfl rfl ?_
                    refine q_icmp_ne 157 151 dX5_lay_148 rfl rfl (fun h_148 => ?_) (fun h_148 => ?_)
                    · skip
                      refine q_iload 159 dX5_lay_157 rfl rfl ?_
                      refine q_iret dX5_lay_159 ?_
                      first
                      | (have hq := hM1; have hcl : cLay s l t k := (lay_1 h_86).mpr ⟨h_4, hq⟩; have hx : ¬ (t = 2 ∧ M 1 (tn k) 1 < 0) := (fun q => by rw [h_86] at q; exact absurd q.1 (by decide)); refine ⟨congrArg (fun x => some (Value.int x)) (lay_y hcl hx).1.symm, Eq.trans ?_ (lay_y hcl hx).2.symm⟩; rw [lyM_1 h_86, putA_pp, putA_s]; rfl)
                      | (have hq := hS1; have hcl : cLay s l t k := (lay_2 h_126).mpr ⟨h_4, hq⟩; have hx : ¬ (t = 2 ∧ M 1 (tn k) 1 < 0) := (fun q => hms q.2); refine ⟨congrArg (fun x => some (Value.int x)) (lay_y hcl hx).1.symm, Eq.trans ?_ (lay_y hcl hx).2.symm⟩; rw [lyM_2 h_126]; rfl)
                      | (have h3 := lay_03 h_13 h_86 h_126; have hcl : cLay s l t k := (lay_0 h3).mpr h_4; have hx : ¬ (t = 2 ∧ M 1 (tn k) 1 < 0) := (fun q => h_126 q.1); have hq : ¬ t = 3 := h_148; refine ⟨congrArg (fun x => some (Value.int x)) (lay_y hcl hx).1.symm, Eq.trans ?_ (lay_y hcl hx).2.symm⟩; rw [lyM_0 h_86 h_126 hq]; rfl)
                      | (have h3 := lay_03 h_13 h_86 h_126; have hcl : cLay s l t k := (lay_0 h3).mpr h_4; have hx : ¬ (t = 2 ∧ M 1 (tn k) 1 < 0) := (fun q => h_126 q.1); refine ⟨congrArg (fun x => some (Value.int x)) (lay_y hcl hx).1.symm, Eq.trans ?_ (lay_y hcl hx).2.symm⟩; rw [lyM_3 h_148, putA_pp, putA_s])
                    · skip
                      refine q_aload 153 dX5_lay_151 rfl rfl ?_
                      refine q_iload_n 154 dX5_lay_153 rfl rfl ?_
                      refine q_putI 157 dX5_lay_154 rfl fl_X5_302 fp_2_2 l5 rfl (by decide) rfl rfl ?_
                      refine q_iload 159 dX5_lay_157 rfl rfl ?_
                      refine q_iret dX5_lay_159 ?_
                      first
                      | (have hq := hM1; have hcl : cLay s l t k := (lay_1 h_86).mpr ⟨h_4, hq⟩; have hx : ¬ (t = 2 ∧ M 1 (tn k) 1 < 0) := (fun q => by rw [h_86] at q; exact absurd q.1 (by decide)); refine ⟨congrArg (fun x => some (Value.int x)) (lay_y hcl hx).1.symm, Eq.trans ?_ (lay_y hcl hx).2.symm⟩; rw [lyM_1 h_86, putA_pp, putA_s]; rfl)
                      | (have hq := hS1; have hcl : cLay s l t k := (lay_2 h_126).mpr ⟨h_4, hq⟩; have hx : ¬ (t = 2 ∧ M 1 (tn k) 1 < 0) := (fun q => hms q.2); refine ⟨congrArg (fun x => some (Value.int x)) (lay_y hcl hx).1.symm, Eq.trans ?_ (lay_y hcl hx).2.symm⟩; rw [lyM_2 h_126]; rfl)
                      | (have h3 := lay_03 h_13 h_86 h_126; have hcl : cLay s l t k := (lay_0 h3).mpr h_4; have hx : ¬ (t = 2 ∧ M 1 (tn k) 1 < 0) := (fun q => h_126 q.1); have hq : ¬ t = 3 := h_148; refine ⟨congrArg (fun x => some (Value.int x)) (lay_y hcl hx).1.symm, Eq.trans ?_ (lay_y hcl hx).2.symm⟩; rw [lyM_0 h_86 h_126 hq]; rfl)
                      | (have h3 := lay_03 h_13 h_86 h_126; have hcl : cLay s l t k := (lay_0 h3).mpr h_4; have hx : ¬ (t = 2 ∧ M 1 (tn k) 1 < 0) := (fun q => h_126 q.1); refine ⟨congrArg (fun x => some (Value.int x)) (lay_y hcl hx).1.symm, Eq.trans ?_ (lay_y hcl hx).2.symm⟩; rw [lyM_3 h_148, putA_pp, putA_s])
                  · skip
                    have hS1 : isS k := by first | exact absurd h_126 h_49 | exact hS0
                    obtain ⟨ek1, lk1⟩ := rg_tn hS1 (n := 3) rfl
                    have k41 : tn k < 4 := by omega
                    have hms : ¬ M 1 (tn k) 1 < 0 := by first | exact absurd h_126 h_49 | exact h_57
                    refine q_aload 131 dX5_lay_129 rfl rfl ?_
                    refine q_getR 134 dX5_lay_131 rfl fl_X5_296 l5 rfl rfl ?_
                    refine q_aload_n 135 dX5_lay_134 rfl rfl ?_
                    refine q_getR 138 dX5_lay_135 rfl fl_X5_44 (by decide) rfl rfl ?_
                    refine q_iload_n 139 dX5_lay_138 rfl rfl ?_
                    refine q_aald7 140 dX5_lay_139 rfl ek1 k41 ?_
                    refine q_callVv 143 dX5_lay_140 rfl (c1_become _ (tn l + 4) (tn k) (by omega) (by omega) (by omega)) cw_X5_300 (show tn l + 4 < 9 by omega) rfl rfl ⟨by decide, by decide⟩ ⟨by decide, by decide⟩ (Nat.le_of_ble_eq_true rfl) ?_
                    refine q_goto 157 dX5_lay_143 rfl ?_
                    refine q_iload 159 dX5_lay_157 rfl rfl ?_
                    refine q_iret dX5_lay_159 ?_
                    first
                    | (have hq := hM1; have hcl : cLay s l t k := (lay_1 h_86).mpr ⟨h_4, hq⟩; have hx : ¬ (t = 2 ∧ M 1 (tn k) 1 < 0) := (fun q => by rw [h_86] at q; exact absurd q.1 (by decide)); refine ⟨congrArg (fun x => some (Value.int x)) (lay_y hcl hx).1.symm, Eq.trans ?_ (lay_y hcl hx).2.symm⟩; rw [lyM_1 h_86, putA_pp, putA_s]; rfl)
                    | (have hq := hS1; have hcl : cLay s l t k := (lay_2 h_126).mpr ⟨h_4, hq⟩; have hx : ¬ (t = 2 ∧ M 1 (tn k) 1 < 0) := (fun q => hms q.2); refine ⟨congrArg (fun x => some (Value.int x)) (lay_y hcl hx).1.symm, Eq.trans ?_ (lay_y hcl hx).2.symm⟩; rw [lyM_2 h_126]; rfl)
                    | (have h3 := lay_03 h_13 h_86 h_126; have hcl : cLay s l t k := (lay_0 h3).mpr h_4; have hx : ¬ (t = 2 ∧ M 1 (tn k) 1 < 0) := (fun q => h_126 q.1); have hq : ¬ t = 3 := h_148; refine ⟨congrArg (fun x => some (Value.int x)) (lay_y hcl hx).1.symm, Eq.trans ?_ (lay_y hcl hx).2.symm⟩; rw [lyM_0 h_86 h_126 hq]; rfl)
                    | (have h3 := lay_03 h_13 h_86 h_126; have hcl : cLay s l t k := (lay_0 h3).mpr h_4; have hx : ¬ (t = 2 ∧ M 1 (tn k) 1 < 0) := (fun q => h_126 q.1); refine ⟨congrArg (fun x => some (Value.int x)) (lay_y hcl hx).1.symm, Eq.trans ?_ (lay_y hcl hx).2.symm⟩; rw [lyM_3 h_148, putA_pp, putA_s])
                · skip
                  have hM1 : isM s k := by first | exact absurd h_86 h_21 | exact h_29
                  obtain ⟨em, lm⟩ := isM_nat hW.1.1 hW.1.2 hM1
                  have m10 : tn k < 10 := by have := hW.1.2; omega
                  refine q_aload 91 dX5_lay_89 rfl rfl ?_
                  refine q_aload_n 92 dX5_lay_91 rfl rfl ?_
                  refine q_getR 95 dX5_lay_92 rfl fl_X5_21 (by decide) rfl rfl ?_
                  refine q_getR 98 dX5_lay_95 rfl fl_X5_86 (by decide) rfl rfl ?_
                  refine q_iload_n 99 dX5_lay_98 rfl rfl ?_
                  refine q_iald 100 dX5_lay_99 rfl (by decide) (by decide) em m10 ?_
                  refine q_aload_n 101 dX5_lay_100 rfl rfl ?_
                  refine q_getR 104 dX5_lay_101 rfl fl_X5_21 (by decide) rfl rfl ?_
                  refine q_getR 107 dX5_lay_104 rfl fl_X5_89 (by decide) rfl rfl ?_
                  refine q_iload_n 108 dX5_lay_107 rfl rfl ?_
                  refine q_iald 109 dX5_lay_108 rfl (by decide) (by decide) em m10 ?_
                  refine q_aload_n 110 dX5_lay_109 rfl rfl ?_
                  refine q_getR 113 dX5_lay_110 rfl fl_X5_21 (by decide) rfl rfl ?_
                  refine q_getR 116 dX5_lay_113 rfl fl_X5_98 (by decide) rfl rfl ?_
                  refine q_iload_n 117 dX5_lay_116 rfl rfl ?_
                  refine q_iald 118 dX5_lay_117 rfl (by decide) (by decide) em m10 ?_
                  refine q_callVv 121 dX5_lay_118 rfl (c2_takeMark _ (tn l) l5 _ _ _) cw_X5_292 l5 rfl rfl ⟨by decide, by decide⟩ ⟨by decide, by decide⟩ (Nat.le_of_ble_eq_true rfl) ?_
                  refine q_goto 157 dX5_lay_121 rfl ?_
                  refine q_iload 159 dX5_lay_157 rfl rfl ?_
                  refine q_iret dX5_lay_159 ?_
                  first
                  | (have hq := hM1; have hcl : cLay s l t k := (lay_1 h_86).mpr ⟨h_4, hq⟩; have hx : ¬ (t = 2 ∧ M 1 (tn k) 1 < 0) := (fun q => by rw [h_86] at q; exact absurd q.1 (by decide)); refine ⟨congrArg (fun x => some (Value.int x)) (lay_y hcl hx).1.symm, Eq.trans ?_ (lay_y hcl hx).2.symm⟩; rw [lyM_1 h_86, putA_pp, putA_s]; rfl)
                  | (have hq := hS1; have hcl : cLay s l t k := (lay_2 h_126).mpr ⟨h_4, hq⟩; have hx : ¬ (t = 2 ∧ M 1 (tn k) 1 < 0) := (fun q => hms q.2); refine ⟨congrArg (fun x => some (Value.int x)) (lay_y hcl hx).1.symm, Eq.trans ?_ (lay_y hcl hx).2.symm⟩; rw [lyM_2 h_126]; rfl)
                  | (have h3 := lay_03 h_13 h_86 h_126; have hcl : cLay s l t k := (lay_0 h3).mpr h_4; have hx : ¬ (t = 2 ∧ M 1 (tn k) 1 < 0) := (fun q => h_126 q.1); have hq : ¬ t = 3 := h_148; refine ⟨congrArg (fun x => some (Value.int x)) (lay_y hcl hx).1.symm, Eq.trans ?_ (lay_y hcl hx).2.symm⟩; rw [lyM_0 h_86 h_126 hq]; rfl)
                  | (have h3 := lay_03 h_13 h_86 h_126; have hcl : cLay s l t k := (lay_0 h3).mpr h_4; have hx : ¬ (t = 2 ∧ M 1 (tn k) 1 < 0) := (fun q => h_126 q.1); refine ⟨congrArg (fun x => some (Value.int x)) (lay_y hcl hx).1.symm, Eq.trans ?_ (lay_y hcl hx).2.symm⟩; rw [lyM_3 h_148, putA_pp, putA_s])
              · skip
                have hS0 : isS k := by first | exact h_41 | exact absurd h_49 h_34
                obtain ⟨ek, lk⟩ := rg_tn hS0 (n := 3) rfl
                have k4 : tn k < 4 := by omega
                obtain ⟨hso, z, z24, ez⟩ := hS (tn k) k4
                refine q_aload_n 53 dX5_lay_52 rfl rfl ?_
                refine q_iload_n 54 dX5_lay_53 rfl rfl ?_
                refine q_callVt 57 dX5_lay_54 rfl (c5_isMissing _ _ (tn k) ek k4) cw_X5_215 (by decide) rfl rfl ⟨by decide, by decide⟩ ⟨by decide, by decide⟩ (Nat.le_of_ble_eq_true rfl) ?_
                refine q_if_eq 63 60 dX5_lay_57 rfl rfl (fun h_57 => ?_) (fun h_57 => ?_)
                · skip
                  simp only [bI_0, Classical.not_not] at h_57
                  rw [ms_iff hso] at h_57
                  refine q_aload_n 64 dX5_lay_63 rfl rfl ?_
                  refine q_getR 67 dX5_lay_64 rfl fl_X5_50 (by decide) rfl rfl ?_
                  refine q_iload_n 68 dX5_lay_67 rfl rfl ?_
                  refine q_aald8 69 dX5_lay_68 rfl el l5 ?_
                  refine q_astore 71 dX5_lay_69 rfl (by decide) rfl ?_
                  refine q_aload 73 dX5_lay_71 rfl rfl ?_
                  refine q_getI 76 dX5_lay_73 rfl fl_X5_289 l5 rfl (by decide) ?_
                  refine q_istore 78 dX5_lay_76 rfl (by decide) rfl ?_
                  refine q_aload 80 dX5_lay_78 rfl rfl ?_
                  refine q_iload_n 81 dX5_lay_80 rfl rfl ?_
                  refine q_putI 84 dX5_lay_81 rfl fl_X5_289 fp_2_1 l5 rfl (by decide) rfl rfl ?_
                  refine q_iload_n 85 dX5_lay_84 rfl rfl ?_
                  refine q_iconst (v := 1) 86 dX5_lay_85 rfl rfl ?_
                  refine q_icmp_ne 124 89 dX5_lay_86 rfl rfl (fun h_86 => ?_) (fun h_86 => ?_)
                  · skip
                    refine q_iload_n 125 dX5_lay_124 rfl rfl ?_
                    refine q_iconst (v := 2) 126 dX5_lay_125 rfl rfl ?_
                    refine q_icmp_ne 146 129 dX5_lay_126 rfl rfl (fun h_126 => ?_) (fun h_126 => ?_)
                    · skip
                      refine q_iload_n 147 dX5_lay_146 rfl rfl ?_
                      refine q_iconst (v := 3) 148 dX5_lay_147 rfl rfl ?_
                      refine q_icmp_ne 157 151 dX5_lay_148 rfl rfl (fun h_148 => ?_) (fun h_148 => ?_)
                      · skip
                        refine q_iload 159 dX5_lay_157 rfl rfl ?_
                        refine q_iret dX5_lay_159 ?_
                        first
                        | (have hq := hM1; have hcl : cLay s l t k := (lay_1 h_86).mpr ⟨h_4, hq⟩; have hx : ¬ (t = 2 ∧ M 1 (tn k) 1 < 0) := (fun q => by rw [h_86] at q; exact absurd q.1 (by decide)); refine ⟨congrArg (fun x => some (Value.int x)) (lay_y hcl hx).1.symm, Eq.trans ?_ (lay_y hcl hx).2.symm⟩; rw [lyM_1 h_86, putA_pp, putA_s]; rfl)
                        | (have hq := hS1; have hcl : cLay s l t k := (lay_2 h_126).mpr ⟨h_4, hq⟩; have hx : ¬ (t = 2 ∧ M 1 (tn k) 1 < 0) := (fun q => hms q.2); refine ⟨congrArg (fun x => some (Value.int x)) (lay_y hcl hx).1.symm, Eq.trans ?_ (lay_y hcl hx).2.symm⟩; rw [lyM_2 h_126]; rfl)
                        | (have h3 := lay_03 h_13 h_86 h_126; have hcl : cLay s l t k := (lay_0 h3).mpr h_4; have hx : ¬ (t = 2 ∧ M 1 (tn k) 1 < 0) := (fun q => h_126 q.1); have hq : ¬ t = 3 := h_148; refine ⟨congrArg (fun x => some (Value.int x)) (lay_y hcl hx).1.symm, Eq.trans ?_ (lay_y hcl hx).2.symm⟩; rw [lyM_0 h_86 h_126 hq]; rfl)
                        | (have h3 := lay_03 h_13 h_86 h_126; have hcl : cLay s l t k := (lay_0 h3).mpr h_4; have hx : ¬ (t = 2 ∧ M 1 (tn k) 1 < 0) := (fun q => h_126 q.1); refine ⟨congrArg (fun x => some (Value.int x)) (lay_y hcl hx).1.symm, Eq.trans ?_ (lay_y hcl hx).2.symm⟩; rw [lyM_3 h_148, putA_pp, putA_s])
                      · skip
                        refine q_aload 153 dX5_lay_151 rfl rfl ?_
                        refine q_iload_n 154 dX5_lay_153 rfl rfl ?_
                        refine q_putI 157 dX5_lay_154 rfl fl_X5_302 fp_2_2 l5 rfl (by decide) rfl rfl ?_
                        refine q_iload 159 dX5_lay_157 rfl rfl ?_
                        refine q_iret dX5_lay_159 ?_
                        first
                        | (have hq := hM1; have hcl : cLay s l t k := (lay_1 h_86).mpr ⟨h_4, hq⟩; have hx : ¬ (t = 2 ∧ M 1 (tn k) 1 < 0) := (fun q => by rw [h_86] at q; exact absurd q.1 (by decide)); refine ⟨congrArg (fun x => some (Value.int x)) (lay_y hcl hx).1.symm, Eq.trans ?_ (lay_y hcl hx).2.symm⟩; rw [lyM_1 h_86, putA_pp, putA_s]; rfl)
                        | (have hq := hS1; have hcl : cLay s l t k := (lay_2 h_126).mpr ⟨h_4, hq⟩; have hx : ¬ (t = 2 ∧ M 1 (tn k) 1 < 0) := (fun q => hms q.2); refine ⟨congrArg (fun x => some (Value.int x)) (lay_y hcl hx).1.symm, Eq.trans ?_ (lay_y hcl hx).2.symm⟩; rw [lyM_2 h_126]; rfl)
                        | (have h3 := lay_03 h_13 h_86 h_126; have hcl : cLay s l t k := (lay_0 h3).mpr h_4; have hx : ¬ (t = 2 ∧ M 1 (tn k) 1 < 0) := (fun q => h_126 q.1); have hq : ¬ t = 3 := h_148; refine ⟨congrArg (fun x => some (Value.int x)) (lay_y hcl hx).1.symm, Eq.trans ?_ (lay_y hcl hx).2.symm⟩; rw [lyM_0 h_86 h_126 hq]; rfl)
                        | (have h3 := lay_03 h_13 h_86 h_126; have hcl : cLay s l t k := (lay_0 h3).mpr h_4; have hx : ¬ (t = 2 ∧ M 1 (tn k) 1 < 0) := (fun q => h_126 q.1); refine ⟨congrArg (fun x => some (Value.int x)) (lay_y hcl hx).1.symm, Eq.trans ?_ (lay_y hcl hx).2.symm⟩; rw [lyM_3 h_148, putA_pp, putA_s])
                    · skip
                      have hS1 : isS k := by first | exact absurd h_126 h_49 | exact hS0
                      obtain ⟨ek1, lk1⟩ := rg_tn hS1 (n := 3) rfl
                      have k41 : tn k < 4 := by omega
                      have hms : ¬ M 1 (tn k) 1 < 0 := by first | exact absurd h_126 h_49 | exact h_57
                      refine q_aload 131 dX5_lay_129 rfl rfl ?_
                      refine q_getR 134 dX5_lay_131 rfl fl_X5_296 l5 rfl rfl ?_
                      refine q_aload_n 135 dX5_lay_134 rfl rfl ?_
                      refine q_getR 138 dX5_lay_135 rfl fl_X5_44 (by decide) rfl rfl ?_
                      refine q_iload_n 139 dX5_lay_138 rfl rfl ?_
                      refine q_aald7 140 dX5_lay_139 rfl ek1 k41 ?_
                      refine q_callVv 143 dX5_lay_140 rfl (c1_become _ (tn l + 4) (tn k) (by omega) (by omega) (by omega)) cw_X5_300 (show tn l + 4 < 9 by omega) rfl rfl ⟨by decide, by decide⟩ ⟨by decide, by decide⟩ (Nat.le_of_ble_eq_true rfl) ?_
                      refine q_goto 157 dX5_lay_143 rfl ?_
                      refine q_iload 159 dX5_lay_157 rfl rfl ?_
                      refine q_iret dX5_lay_159 ?_
                      first
                      | (have hq := hM1; have hcl : cLay s l t k := (lay_1 h_86).mpr ⟨h_4, hq⟩; have hx : ¬ (t = 2 ∧ M 1 (tn k) 1 < 0) := (fun q => by rw [h_86] at q; exact absurd q.1 (by decide)); refine ⟨congrArg (fun x => some (Value.int x)) (lay_y hcl hx).1.symm, Eq.trans ?_ (lay_y hcl hx).2.symm⟩; rw [lyM_1 h_86, putA_pp, putA_s]; rfl)
                      | (have hq := hS1; have hcl : cLay s l t k := (lay_2 h_126).mpr ⟨h_4, hq⟩; have hx : ¬ (t = 2 ∧ M 1 (tn k) 1 < 0) := (fun q => hms q.2); refine ⟨congrArg (fun x => some (Value.int x)) (lay_y hcl hx).1.symm, Eq.trans ?_ (lay_y hcl hx).2.symm⟩; rw [lyM_2 h_126]; rfl)
                      | (have h3 := lay_03 h_13 h_86 h_126; have hcl : cLay s l t k := (lay_0 h3).mpr h_4; have hx : ¬ (t = 2 ∧ M 1 (tn k) 1 < 0) := (fun q => h_126 q.1); have hq : ¬ t = 3 := h_148; refine ⟨congrArg (fun x => some (Value.int x)) (lay_y hcl hx).1.symm, Eq.trans ?_ (lay_y hcl hx).2.symm⟩; rw [lyM_0 h_86 h_126 hq]; rfl)
                      | (have h3 := lay_03 h_13 h_86 h_126; have hcl : cLay s l t k := (lay_0 h3).mpr h_4; have hx : ¬ (t = 2 ∧ M 1 (tn k) 1 < 0) := (fun q => h_126 q.1); refine ⟨congrArg (fun x => some (Value.int x)) (lay_y hcl hx).1.symm, Eq.trans ?_ (lay_y hcl hx).2.symm⟩; rw [lyM_3 h_148, putA_pp, putA_s])
                  · skip
                    have hM1 : isM s k := by first | exact absurd h_86 h_21 | exact h_29
                    obtain ⟨em, lm⟩ := isM_nat hW.1.1 hW.1.2 hM1
                    have m10 : tn k < 10 := by have := hW.1.2; omega
                    refine q_aload 91 dX5_lay_89 rfl rfl ?_
                    refine q_aload_n 92 dX5_lay_91 rfl rfl ?_
                    refine q_getR 95 dX5_lay_92 rfl fl_X5_21 (by decide) rfl rfl ?_
                    refine q_getR 98 dX5_lay_95 rfl fl_X5_86 (by decide) rfl rfl ?_
                    refine q_iload_n 99 dX5_lay_98 rfl rfl ?_
                    refine q_iald 100 dX5_lay_99 rfl (by decide) (by decide) em m10 ?_
                    refine q_aload_n 101 dX5_lay_100 rfl rfl ?_
                    refine q_getR 104 dX5_lay_101 rfl fl_X5_21 (by decide) rfl rfl ?_
                    refine q_getR 107 dX5_lay_104 rfl fl_X5_89 (by decide) rfl rfl ?_
                    refine q_iload_n 108 dX5_lay_107 rfl rfl ?_
                    refine q_iald 109 dX5_lay_108 rfl (by decide) (by decide) em m10 ?_
                    refine q_aload_n 110 dX5_lay_109 rfl rfl ?_
                    refine q_getR 113 dX5_lay_110 rfl fl_X5_21 (by decide) rfl rfl ?_
                    refine q_getR 116 dX5_lay_113 rfl fl_X5_98 (by decide) rfl rfl ?_
                    refine q_iload_n 117 dX5_lay_116 rfl rfl ?_
                    refine q_iald 118 dX5_lay_117 rfl (by decide) (by decide) em m10 ?_
                    refine q_callVv 121 dX5_lay_118 rfl (c2_takeMark _ (tn l) l5 _ _ _) cw_X5_292 l5 rfl rfl ⟨by decide, by decide⟩ ⟨by decide, by decide⟩ (Nat.le_of_ble_eq_true rfl) ?_
                    refine q_goto 157 dX5_lay_121 rfl ?_
                    refine q_iload 159 dX5_lay_157 rfl rfl ?_
                    refine q_iret dX5_lay_159 ?_
                    first
                    | (have hq := hM1; have hcl : cLay s l t k := (lay_1 h_86).mpr ⟨h_4, hq⟩; have hx : ¬ (t = 2 ∧ M 1 (tn k) 1 < 0) := (fun q => by rw [h_86] at q; exact absurd q.1 (by decide)); refine ⟨congrArg (fun x => some (Value.int x)) (lay_y hcl hx).1.symm, Eq.trans ?_ (lay_y hcl hx).2.symm⟩; rw [lyM_1 h_86, putA_pp, putA_s]; rfl)
                    | (have hq := hS1; have hcl : cLay s l t k := (lay_2 h_126).mpr ⟨h_4, hq⟩; have hx : ¬ (t = 2 ∧ M 1 (tn k) 1 < 0) := (fun q => hms q.2); refine ⟨congrArg (fun x => some (Value.int x)) (lay_y hcl hx).1.symm, Eq.trans ?_ (lay_y hcl hx).2.symm⟩; rw [lyM_2 h_126]; rfl)
                    | (have h3 := lay_03 h_13 h_86 h_126; have hcl : cLay s l t k := (lay_0 h3).mpr h_4; have hx : ¬ (t = 2 ∧ M 1 (tn k) 1 < 0) := (fun q => h_126 q.1); have hq : ¬ t = 3 := h_148; refine ⟨congrArg (fun x => some (Value.int x)) (lay_y hcl hx).1.symm, Eq.trans ?_ (lay_y hcl hx).2.symm⟩; rw [lyM_0 h_86 h_126 hq]; rfl)
                    | (have h3 := lay_03 h_13 h_86 h_126; have hcl : cLay s l t k := (lay_0 h3).mpr h_4; have hx : ¬ (t = 2 ∧ M 1 (tn k) 1 < 0) := (fun q => h_126 q.1); refine ⟨congrArg (fun x => some (Value.int x)) (lay_y hcl hx).1.symm, Eq.trans ?_ (lay_y hcl hx).2.symm⟩; rw [lyM_3 h_148, putA_pp, putA_s])
                · skip
                  simp only [bI_0, Classical.not_not] at h_57
                  rw [ms_iff hso] at h_57
                  refine q_ldc 62 dX5_lay_60 rfl cs_X5_218 ?_
                  refine q_iret dX5_lay_62 ?_
                  have hcl : cLay s l t k := (lay_2 h_49).mpr ⟨h_4, hS0⟩
                  refine ⟨congrArg (fun x => some (Value.int x)) ?_, ?_⟩
                  · unfold aLay5; rw [if_pos hcl, if_pos ⟨h_49, h_57⟩]
                  · unfold mLay5; rw [if_neg (fun q => q.2 ⟨h_49, h_57⟩)]
            · skip
              simp only [bI_0, Classical.not_not] at h_41
              refine q_ldc 46 dX5_lay_44 rfl cs_X5_73 ?_
              refine q_iret dX5_lay_46 ?_
              refine lay_n (fun q => ?_)
              first | (have hq := (lay_1 h_21).mp q; exact h_29 hq.2) | (have hq := (lay_2 h_34).mp q; exact h_41 hq.2)
    · skip
      simp only [bI_0, Classical.not_not] at h_13
      refine q_ldc 18 dX5_lay_16 rfl cs_X5_73 ?_
      refine q_iret dX5_lay_18 ?_
      refine lay_n (fun q => ?_)
      first | exact h_4 q.1 | (rcases q.2 with e | e | e | e; exact h_13 (by rw [e]; decide); exact h_13 (by rw [e]; decide); exact h_13 (by rw [e.1]; decide); exact h_13 (by rw [e.1]; decide))
