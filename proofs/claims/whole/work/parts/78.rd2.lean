/-! THE CLASS'S READER: the relation between its cells and the pure state -/
def K0 (M N : TM) : Prop := (∀ t k, ¬ (t = 0 ∧ k = 0) → ¬ (t = 10 ∧ k = 0) → N t k = M t k) ∧ N 0 0 4 = 1
def G0 (T : Nat → Int32) (n : Nat) (M : TM) : Prop := M 28 0 = T ∧ n ≤ 96 ∧ ∀ i, i < n → ∃ a, a < 256 ∧ T i = nI a
def R0 (T : Nat → Int32) (n : Nat) (key : Int32) (M : TM) (l : Nat) (x : PS) (N : TM) : Prop := K0 M N ∧ TK0 (tk T n x.1) N ∧ (N 0 0 1 = nI x.2.1 ∧ N 0 0 2 = key ∧ N 0 0 3 = nI l ∧ N 0 0 5 = nI n ∧ N 0 0 9 = -1) ∧ ∀ k, k < x.2.1 → N 10 0 k = enF key (x.2.2 (2 * k)) (x.2.2 (2 * k + 1))
def F0s (n : Nat) (M : TM) (f : Nat) (N : TM) : Prop := K0 M N ∧ (N 0 0 5 = nI n ∧ N 0 0 9 = nI f) ∧ (f ≤ n ∧ n ≤ 96) ∧ ∃ z, z ≤ 96 ∧ N 0 0 1 = nI z
theorem tk_wa {T : Nat → Int32} {n i : Nat} {v : Int32} (h : CSo (tk T n i) v) (h4 : (tk T n i).2.2 ≠ 4) : (v = 1 ∨ v = 2) ↔ ((tk T n i).2.2 = 1 ∨ (tk T n i).2.2 = 2) := by
  unfold CSo at h
  rcases h with ⟨a, b⟩ | ⟨a, b⟩ | ⟨a, b⟩ | ⟨a, b⟩ | ⟨a, b⟩ <;> first | exact absurd a h4 | (rw [a, b]; decide)
theorem c0_next {g : GT} {T : Nat → Int32} {n : Nat} {key : Int32} {M N : TM} {l : Nat} {x : PS} (G : G0 T n M) (h : R0 T n key M l x N) (h0 : (tk T n x.1).2.2 ≠ 0) (h4 : (tk T n x.1).2.2 ≠ 4) : Cn g yX0_goOn cX0_goOn 3 none 1 [.ref (gad g 0 0)] N (fun r N' => r = none ∧ R0 T n key M l (ad x) N') := by
  obtain ⟨hK, ⟨h7, h8, h6⟩, ⟨a1, a2, a3, a5, a9⟩, hS⟩ := h
  obtain ⟨w1, w2, w3⟩ := tk_W T n x.1
  rw [if_neg h0] at h8
  refine Cn.mono (c0_goOn N T n ((hK.1 28 0 (by decide) (by decide)).trans G.1) hK.2 a5 G.2.1 (tk T n x.1).2.1 w2 h8) ?_
  rintro r N' ⟨rfl, k, ht⟩
  have k' := fun j h6 h7 h8 => k.2 j h6 h7 h8
  refine ⟨rfl, ⟨fun t q q1 q2 => (k.1 t q q1).trans (hK.1 t q q1 q2), (k' 4 (by decide) (by decide) (by decide)).trans hK.2⟩, ?_, ⟨(k' 1 (by decide) (by decide) (by decide)).trans a1, (k' 2 (by decide) (by decide) (by decide)).trans a2, (k' 3 (by decide) (by decide) (by decide)).trans a3, (k' 5 (by decide) (by decide) (by decide)).trans a5, (k' 9 (by decide) (by decide) (by decide)).trans a9⟩, fun j hj => (congrArg (fun f => f j) (k.1 10 0 (by decide))).trans (hS j hj)⟩
  have e : tk T n (x.1 + 1) = nxA T n (nxP T n (tk T n x.1).2.1) (decide ((N 0 0 6 = 1 ∨ N 0 0 6 = 2) ∧ (tk T n x.1).2.1 = nxP T n (tk T n x.1).2.1)) := by
    show nx T n _ _ = _
    unfold nx
    rw [decide_eq_decide.mpr (and_congr_left (fun _ => (tk_wa h6 h4).symm))]
  show TK0 (tk T n (x.1 + 1)) N'
  rw [e]; exact ht
theorem R0.so3 {T : Nat → Int32} {n : Nat} {key : Int32} {M N : TM} {l : Nat} {x : PS} (h : R0 T n key M l x N) : N 0 0 6 = 0 ↔ (tk T n x.1).2.2 = 3 := by
  have h6 := h.2.1.2.2
  unfold CSo at h6
  constructor
  · intro e; rw [e] at h6
    rcases h6 with ⟨a, b⟩ | ⟨a, b⟩ | ⟨a, b⟩ | ⟨a, b⟩ | ⟨a, b | ⟨b, -⟩⟩ <;> first | exact a | exact absurd b (by decide)
  · intro e; rw [e] at h6
    rcases h6 with ⟨a, b⟩ | ⟨a, b⟩ | ⟨a, b⟩ | ⟨a, b⟩ | ⟨a, b⟩ <;> first | exact b | exact absurd a (by decide)
theorem R0.so1 {T : Nat → Int32} {n : Nat} {key : Int32} {M N : TM} {l : Nat} {x : PS} (h : R0 T n key M l x N) : N 0 0 6 = 1 ↔ (tk T n x.1).2.2 = 1 := by
  have h6 := h.2.1.2.2
  unfold CSo at h6
  constructor
  · intro e; rw [e] at h6
    rcases h6 with ⟨a, b⟩ | ⟨a, b⟩ | ⟨a, b⟩ | ⟨a, b⟩ | ⟨a, b | ⟨b, -⟩⟩ <;> first | exact a | exact absurd b (by decide)
  · intro e; rw [e] at h6
    rcases h6 with ⟨a, b⟩ | ⟨a, b⟩ | ⟨a, b⟩ | ⟨a, b⟩ | ⟨a, b⟩ <;> first | exact b | exact absurd a (by decide)
theorem R0.so0 {T : Nat → Int32} {n : Nat} {key : Int32} {M N : TM} {l : Nat} {x : PS} (h : R0 T n key M l x N) : N 0 0 6 = 4 ↔ (tk T n x.1).2.2 = 0 := by
  have h6 := h.2.1.2.2
  unfold CSo at h6
  constructor
  · intro e; rw [e] at h6
    rcases h6 with ⟨a, b⟩ | ⟨a, b⟩ | ⟨a, b⟩ | ⟨a, b⟩ | ⟨a, b | ⟨b, -⟩⟩ <;> first | exact a | exact absurd b (by decide)
  · intro e; rw [e] at h6
    rcases h6 with ⟨a, b⟩ | ⟨a, b⟩ | ⟨a, b⟩ | ⟨a, b⟩ | ⟨a, b⟩ <;> first | exact b | exact absurd a (by decide)
theorem R0.so2 {T : Nat → Int32} {n : Nat} {key : Int32} {M N : TM} {l : Nat} {x : PS} (h : R0 T n key M l x N) : (N 0 0 6 = 2 ∧ (tk T n x.1).2.1 - (tk T n x.1).1 ≤ 4) ↔ (tk T n x.1).2.2 = 2 := by
  have h6 := h.2.1.2.2
  obtain ⟨w1, w2, w3⟩ := tk_W T n x.1
  unfold CSo at h6
  constructor
  · rintro ⟨e, e4⟩; rw [e] at h6
    rcases h6 with ⟨a, b⟩ | ⟨a, b⟩ | ⟨a, b⟩ | ⟨a, b⟩ | ⟨a, b | ⟨-, b⟩⟩ <;> first | exact a | exact absurd b (by decide) | omega
  · intro e; rw [e] at h6 w3
    refine ⟨?_, by omega⟩
    rcases h6 with ⟨a, b⟩ | ⟨a, b⟩ | ⟨a, b⟩ | ⟨a, b⟩ | ⟨a, b⟩ <;> first | exact b | exact absurd a (by decide)
set_option maxRecDepth 100000 in
set_option maxHeartbeats 4000000 in
theorem c0_isSign {g : GT} {T : Nat → Int32} {n : Nat} {key : Int32} {M N : TM} {l : Nat} {x : PS} (G : G0 T n M) (h : R0 T n key M l x N) (c : Int32) : Cn g yX0_isSign cX0_isSign 2 (some .boolean) 0 [.ref (gad g 0 0), .int c] N (Rt (.int (bI ((tk T n x.1).2.2 = 3 ∧ ch T n x = c))) N) := by
  refine Cn.ofTR (by decide +kernel) (Nat.le_of_ble_eq_true rfl) ?_
  obtain ⟨hK, ⟨h7, h8, h6⟩, ⟨a1, a2, a3, a5, a9⟩, hS⟩ := id h
  obtain ⟨w1, w2, w3⟩ := tk_W T n x.1
  have hT := hK.2
  have kT : N 28 0 = T := (hK.1 28 0 (by decide) (by decide)).trans G.1
  have h96 := G.2.1
  refine q_aload_n 1 dX0_isSign_0 rfl rfl ?_
  refine q_getI 4 dX0_isSign_1 rfl fl_X0_40 (by decide) rfl (by decide) ?_
  refine q_if_ge 42 7 dX0_isSign_4 rfl rfl (fun h_4 => absurd (show (0 : Int32) ≤ -1 by rw [← a9]; exact h_4) (by decide)) (fun _ => ?_)
  refine q_aload_n 8 dX0_isSign_7 rfl rfl ?_
  refine q_getI 11 dX0_isSign_8 rfl fl_X0_34 (by decide) rfl (by decide) ?_
  refine q_if_ne 42 14 dX0_isSign_11 rfl rfl (fun h_11 => ?_) (fun h_11 => ?_)
  · skip
    rw [h.so3] at h_11
    refine q_iconst (v := 0) 43 dX0_isSign_42 rfl rfl ?_
    refine q_zret dX0_isSign_43 rfl ?_
    refine ⟨congrArg (fun x => some (Value.int x)) ?_, rfl⟩
    first
      | exact (bI_t ⟨h_11, h_35⟩).symm
      | exact (bI_f (fun z => h_35 z.2)).symm
      | exact (bI_f (fun z => h_11 z.1)).symm
      | exact (bI_f (fun z => by have := z.1; omega)).symm
  · skip
    rw [h.so3] at h_11
    refine q_aload_n 15 dX0_isSign_14 rfl rfl ?_
    refine q_getI 18 dX0_isSign_15 rfl fl_X0_53 (by decide) rfl (by decide) ?_
    refine q_aload_n 19 dX0_isSign_18 rfl rfl ?_
    refine q_getI 22 dX0_isSign_19 rfl fl_X0_24 (by decide) rfl (by decide) ?_
    refine q_icmp_ge 42 25 dX0_isSign_22 rfl rfl (fun h_22 => ?_) (fun h_22 => ?_)
    · skip
      rw [h7, a5, nI_leI (by omega) (by omega)] at h_22
      refine q_iconst (v := 0) 43 dX0_isSign_42 rfl rfl ?_
      refine q_zret dX0_isSign_43 rfl ?_
      refine ⟨congrArg (fun x => some (Value.int x)) ?_, rfl⟩
      first
        | exact (bI_t ⟨h_11, h_35⟩).symm
        | exact (bI_f (fun z => h_35 z.2)).symm
        | exact (bI_f (fun z => h_11 z.1)).symm
        | exact (bI_f (fun z => by have := z.1; omega)).symm
    · skip
      rw [h7, a5, nI_leI (by omega) (by omega)] at h_22
      refine q_aload_n 26 dX0_isSign_25 rfl rfl ?_
      refine q_getT 29 dX0_isSign_26 rfl fl_X0_15 (by decide) hT ?_
      refine q_aload_n 30 dX0_isSign_29 rfl rfl ?_
      refine q_getI 33 dX0_isSign_30 rfl fl_X0_53 (by decide) rfl (by decide) ?_
      refine q_iald 34 dX0_isSign_33 rfl (by decide) (by decide) h7 (show (tk T n x.1).1 < 96 by omega) ?_
      refine q_iload_n 35 dX0_isSign_34 rfl rfl ?_
      refine q_icmp_ne 42 38 dX0_isSign_35 rfl rfl (fun h_35 => ?_) (fun h_35 => ?_)
      · skip
        rw [kT] at h_35
        refine q_iconst (v := 0) 43 dX0_isSign_42 rfl rfl ?_
        refine q_zret dX0_isSign_43 rfl ?_
        refine ⟨congrArg (fun x => some (Value.int x)) ?_, rfl⟩
        first
          | exact (bI_t ⟨h_11, h_35⟩).symm
          | exact (bI_f (fun z => h_35 z.2)).symm
          | exact (bI_f (fun z => h_11 z.1)).symm
          | exact (bI_f (fun z => by have := z.1; omega)).symm
      · skip
        rw [kT] at h_35
        refine q_iconst (v := 1) 39 dX0_isSign_38 rfl rfl ?_
        refine q_goto 43 dX0_isSign_39 rfl ?_
        refine q_zret dX0_isSign_43 rfl ?_
        refine ⟨congrArg (fun x => some (Value.int x)) ?_, rfl⟩
        first
          | exact (bI_t ⟨h_11, h_35⟩).symm
          | exact (bI_f (fun z => h_35 z.2)).symm
          | exact (bI_f (fun z => h_11 z.1)).symm
          | exact (bI_f (fun z => by have := z.1; omega)).symm
set_option maxRecDepth 100000 in
set_option maxHeartbeats 4000000 in
theorem c0_isSignF {g : GT} {n f : Nat} {M N : TM} (h : F0s n M f N) (c : Int32) : Cn g yX0_isSign cX0_isSign 2 (some .boolean) 0 [.ref (gad g 0 0), .int c] N (Rt (.int 0) N) := by
  refine Cn.ofTR (by decide +kernel) (Nat.le_of_ble_eq_true rfl) ?_
  obtain ⟨hK, ⟨a5, a9⟩, ⟨hf, hn⟩, hz⟩ := id h
  refine q_aload_n 1 dX0_isSign_0 rfl rfl ?_
  refine q_getI 4 dX0_isSign_1 rfl fl_X0_40 (by decide) rfl (by decide) ?_
  refine q_if_ge 42 7 dX0_isSign_4 rfl rfl (fun _ => ?_) (fun h_4 => absurd (show 0 ≤ N 0 0 9 by rw [a9]; exact nI_pos' (by omega)) h_4)
  refine q_iconst (v := 0) 43 dX0_isSign_42 rfl rfl ?_
  refine q_zret dX0_isSign_43 rfl ?_
  exact ⟨rfl, rfl⟩
set_option maxRecDepth 100000 in
set_option maxHeartbeats 4000000 in
theorem c0_signsOf {g : GT} (M : TM) (l : Nat) (hl : l < 5) : Cn g yX0_signsOf cX0_signsOf 1 (some (.object "java/lang/String")) 0 [.int (nI l)] M (Rt (.ref (gad g 53 (6 + l))) M) := by
  refine Cn.ofTR (by decide +kernel) (Nat.le_of_ble_eq_true rfl) ?_
  refine q_iload_n 1 dX0_signsOf_0 rfl rfl ?_
  by_cases hs_1_0 : nI l = (0 : Int32)
  · skip
    obtain rfl : l = 0 := nI_inj (by omega) (by decide) hs_1_0
    refine q_tab 36 dX0_signsOf_1 rfl (sw_eq hs_1_0 rfl) rfl ?_
    refine q_ldcS (i := 6) 38 dX0_signsOf_36 rfl (by decide) rfl rfl ?_
    refine q_aret (Or.inl ⟨_, rfl⟩) dX0_signsOf_38 ?_
    first | exact ⟨rfl, rfl⟩ | (exfalso; have e0 : l ≠ 0 := fun z => hs_1_0 (by rw [z]; rfl); have e1 : l ≠ 1 := fun z => hs_1_1 (by rw [z]; rfl); have e2 : l ≠ 2 := fun z => hs_1_2 (by rw [z]; rfl); have e3 : l ≠ 3 := fun z => hs_1_3 (by rw [z]; rfl); have e4 : l ≠ 4 := fun z => hs_1_4 (by rw [z]; rfl); omega)
  by_cases hs_1_1 : nI l = (1 : Int32)
  · skip
    obtain rfl : l = 1 := nI_inj (by omega) (by decide) hs_1_1
    refine q_tab 39 dX0_signsOf_1 rfl (sw_eq hs_1_1 rfl) rfl ?_
    refine q_ldcS (i := 7) 41 dX0_signsOf_39 rfl (by decide) rfl rfl ?_
    refine q_aret (Or.inl ⟨_, rfl⟩) dX0_signsOf_41 ?_
    first | exact ⟨rfl, rfl⟩ | (exfalso; have e0 : l ≠ 0 := fun z => hs_1_0 (by rw [z]; rfl); have e1 : l ≠ 1 := fun z => hs_1_1 (by rw [z]; rfl); have e2 : l ≠ 2 := fun z => hs_1_2 (by rw [z]; rfl); have e3 : l ≠ 3 := fun z => hs_1_3 (by rw [z]; rfl); have e4 : l ≠ 4 := fun z => hs_1_4 (by rw [z]; rfl); omega)
  by_cases hs_1_2 : nI l = (2 : Int32)
  · skip
    obtain rfl : l = 2 := nI_inj (by omega) (by decide) hs_1_2
    refine q_tab 42 dX0_signsOf_1 rfl (sw_eq hs_1_2 rfl) rfl ?_
    refine q_ldcS (i := 8) 44 dX0_signsOf_42 rfl (by decide) rfl rfl ?_
    refine q_aret (Or.inl ⟨_, rfl⟩) dX0_signsOf_44 ?_
    first | exact ⟨rfl, rfl⟩ | (exfalso; have e0 : l ≠ 0 := fun z => hs_1_0 (by rw [z]; rfl); have e1 : l ≠ 1 := fun z => hs_1_1 (by rw [z]; rfl); have e2 : l ≠ 2 := fun z => hs_1_2 (by rw [z]; rfl); have e3 : l ≠ 3 := fun z => hs_1_3 (by rw [z]; rfl); have e4 : l ≠ 4 := fun z => hs_1_4 (by rw [z]; rfl); omega)
  by_cases hs_1_3 : nI l = (3 : Int32)
  · skip
    obtain rfl : l = 3 := nI_inj (by omega) (by decide) hs_1_3
    refine q_tab 45 dX0_signsOf_1 rfl (sw_eq hs_1_3 rfl) rfl ?_
    refine q_ldcS (i := 9) 47 dX0_signsOf_45 rfl (by decide) rfl rfl ?_
    refine q_aret (Or.inl ⟨_, rfl⟩) dX0_signsOf_47 ?_
    first | exact ⟨rfl, rfl⟩ | (exfalso; have e0 : l ≠ 0 := fun z => hs_1_0 (by rw [z]; rfl); have e1 : l ≠ 1 := fun z => hs_1_1 (by rw [z]; rfl); have e2 : l ≠ 2 := fun z => hs_1_2 (by rw [z]; rfl); have e3 : l ≠ 3 := fun z => hs_1_3 (by rw [z]; rfl); have e4 : l ≠ 4 := fun z => hs_1_4 (by rw [z]; rfl); omega)
  by_cases hs_1_4 : nI l = (4 : Int32)
  · skip
    obtain rfl : l = 4 := nI_inj (by omega) (by decide) hs_1_4
    refine q_tab 48 dX0_signsOf_1 rfl (sw_eq hs_1_4 rfl) rfl ?_
    refine q_ldcS (i := 10) 50 dX0_signsOf_48 rfl (by decide) rfl rfl ?_
    refine q_aret (Or.inl ⟨_, rfl⟩) dX0_signsOf_50 ?_
    first | exact ⟨rfl, rfl⟩ | (exfalso; have e0 : l ≠ 0 := fun z => hs_1_0 (by rw [z]; rfl); have e1 : l ≠ 1 := fun z => hs_1_1 (by rw [z]; rfl); have e2 : l ≠ 2 := fun z => hs_1_2 (by rw [z]; rfl); have e3 : l ≠ 3 := fun z => hs_1_3 (by rw [z]; rfl); have e4 : l ≠ 4 := fun z => hs_1_4 (by rw [z]; rfl); omega)
  refine q_tab 51 dX0_signsOf_1 rfl (sw_def [0, 1, 2, 3, 4] (by decide) rfl (by simp only [List.mem_cons, List.not_mem_nil, or_false, not_or]; exact ⟨lv_neT hs_1_0 rfl, lv_neT hs_1_1 rfl, lv_neT hs_1_2 rfl, lv_neT hs_1_3 rfl, lv_neT hs_1_4 rfl⟩)) rfl ?_
  refine q_ldcS (i := 11) 53 dX0_signsOf_51 rfl (by decide) rfl rfl ?_
  refine q_aret (Or.inl ⟨_, rfl⟩) dX0_signsOf_53 ?_
  first | exact ⟨rfl, rfl⟩ | (exfalso; have e0 : l ≠ 0 := fun z => hs_1_0 (by rw [z]; rfl); have e1 : l ≠ 1 := fun z => hs_1_1 (by rw [z]; rfl); have e2 : l ≠ 2 := fun z => hs_1_2 (by rw [z]; rfl); have e3 : l ≠ 3 := fun z => hs_1_3 (by rw [z]; rfl); have e4 : l ≠ 4 := fun z => hs_1_4 (by rw [z]; rfl); omega)
set_option maxRecDepth 100000 in
set_option maxHeartbeats 4000000 in
theorem c0_isSignOf {g : GT} {T : Nat → Int32} {n : Nat} {key : Int32} {M N : TM} {l : Nat} {x : PS} (G : G0 T n M) (h : R0 T n key M l x N) (j : Nat) (hj : j < 5) : Cn g yX0_isSignOf cX0_isSignOf 2 (some .boolean) 4 [.ref (gad g 0 0), .int (nI j)] N (Rt (.int (bI (sgB T n (sgL j) x = true))) N) := by
  refine Cn.ofTR (by decide +kernel) (Nat.le_of_ble_eq_true rfl) ?_
  obtain ⟨hK, ⟨h7, h8, h6⟩, ⟨a1, a2, a3, a5, a9⟩, hS⟩ := id h
  obtain ⟨w1, w2, w3⟩ := tk_W T n x.1
  have hT := hK.2
  have kT : N 28 0 = T := (hK.1 28 0 (by decide) (by decide)).trans G.1
  have h96 := G.2.1
  have hi : 6 + j < 12 := by omega
  refine q_aload_n 1 dX0_isSignOf_0 rfl rfl ?_
  refine q_getI 4 dX0_isSignOf_1 rfl fl_X0_40 (by decide) rfl (by decide) ?_
  refine q_if_ge 49 7 dX0_isSignOf_4 rfl rfl (fun h_4 => absurd (show (0 : Int32) ≤ -1 by rw [← a9]; exact h_4) (by decide)) (fun _ => ?_)
  refine q_aload_n 8 dX0_isSignOf_7 rfl rfl ?_
  refine q_getI 11 dX0_isSignOf_8 rfl fl_X0_34 (by decide) rfl (by decide) ?_
  refine q_if_ne 49 14 dX0_isSignOf_11 rfl rfl (fun h_11 => ?_) (fun h_11 => ?_)
  · skip
    rw [h.so3] at h_11
    refine q_iconst (v := 0) 50 dX0_isSignOf_49 rfl rfl ?_
    refine q_zret dX0_isSignOf_50 rfl ?_
    refine ⟨congrArg (fun x => some (Value.int x)) ?_, rfl⟩
    first
      | exact (bI_t (sgB_t.mpr ⟨h_11, by unfold ch; rw [ea]; exact h_42⟩)).symm
      | exact (bI_f (fun z => h_42 (by have q := (sgB_t.mp z).2; unfold ch at q; rw [ea] at q; exact q))).symm
      | exact (bI_f (fun z => h_11 (sgB_t.mp z).1)).symm
      | exact (bI_f (fun z => by have := (sgB_t.mp z).1; omega)).symm
  · skip
    rw [h.so3] at h_11
    refine q_aload_n 15 dX0_isSignOf_14 rfl rfl ?_
    refine q_getI 18 dX0_isSignOf_15 rfl fl_X0_53 (by decide) rfl (by decide) ?_
    refine q_aload_n 19 dX0_isSignOf_18 rfl rfl ?_
    refine q_getI 22 dX0_isSignOf_19 rfl fl_X0_24 (by decide) rfl (by decide) ?_
    refine q_icmp_ge 49 25 dX0_isSignOf_22 rfl rfl (fun h_22 => ?_) (fun h_22 => ?_)
    · skip
      rw [h7, a5, nI_leI (by omega) (by omega)] at h_22
      refine q_iconst (v := 0) 50 dX0_isSignOf_49 rfl rfl ?_
      refine q_zret dX0_isSignOf_50 rfl ?_
      refine ⟨congrArg (fun x => some (Value.int x)) ?_, rfl⟩
      first
        | exact (bI_t (sgB_t.mpr ⟨h_11, by unfold ch; rw [ea]; exact h_42⟩)).symm
        | exact (bI_f (fun z => h_42 (by have q := (sgB_t.mp z).2; unfold ch at q; rw [ea] at q; exact q))).symm
        | exact (bI_f (fun z => h_11 (sgB_t.mp z).1)).symm
        | exact (bI_f (fun z => by have := (sgB_t.mp z).1; omega)).symm
    · skip
      rw [h7, a5, nI_leI (by omega) (by omega)] at h_22
      obtain ⟨a, ha, ea⟩ := G.2.2 (tk T n x.1).1 (by omega)
      refine q_iload_n 26 dX0_isSignOf_25 rfl rfl ?_
      refine q_callSt 29 dX0_isSignOf_26 rfl (c0_signsOf _ j hj) cw_X0_110 rfl rfl ⟨by decide, by decide⟩ ⟨by decide, by decide⟩ (Nat.le_of_ble_eq_true rfl) ?_
      refine q_aload_n 30 dX0_isSignOf_29 rfl rfl ?_
      refine q_getT 33 dX0_isSignOf_30 rfl fl_X0_15 (by decide) hT ?_
      refine q_aload_n 34 dX0_isSignOf_33 rfl rfl ?_
      refine q_getI 37 dX0_isSignOf_34 rfl fl_X0_53 (by decide) rfl (by decide) ?_
      refine q_iald 38 dX0_isSignOf_37 rfl (by decide) (by decide) h7 (show (tk T n x.1).1 < 96 by omega) ?_
      refine q_i2c 39 dX0_isSignOf_38 rfl ?_
      rw [kT, ea, c_char a ha]
      refine q_callOt 42 dX0_isSignOf_39 rfl (cJ_indexOf _ (6 + j) a hi ha) cw_X0_91 mJ0_indexOf_0f7a4_n mJ0_indexOf_0f7a4_v rfl hi rfl rfl ⟨by decide, by decide⟩ ⟨by decide, by decide⟩ (Nat.le_of_ble_eq_true rfl) ?_
      refine q_if_lt 49 45 dX0_isSignOf_42 rfl rfl (fun h_42 => ?_) (fun h_42 => ?_)
      · skip
        have h_42 : ¬ sgL j (nI a) = true := fun z => Int32.lt_irrefl (Int32.lt_of_lt_of_le h_42 ((ix_sg a ha j hj).mpr z))
        refine q_iconst (v := 0) 50 dX0_isSignOf_49 rfl rfl ?_
        refine q_zret dX0_isSignOf_50 rfl ?_
        refine ⟨congrArg (fun x => some (Value.int x)) ?_, rfl⟩
        first
          | exact (bI_t (sgB_t.mpr ⟨h_11, by unfold ch; rw [ea]; exact h_42⟩)).symm
          | exact (bI_f (fun z => h_42 (by have q := (sgB_t.mp z).2; unfold ch at q; rw [ea] at q; exact q))).symm
          | exact (bI_f (fun z => h_11 (sgB_t.mp z).1)).symm
          | exact (bI_f (fun z => by have := (sgB_t.mp z).1; omega)).symm
      · skip
        have h_42 : sgL j (nI a) = true := (ix_sg a ha j hj).mp (Int32.not_lt.mp h_42)
        refine q_iconst (v := 1) 46 dX0_isSignOf_45 rfl rfl ?_
        refine q_goto 50 dX0_isSignOf_46 rfl ?_
        refine q_zret dX0_isSignOf_50 rfl ?_
        refine ⟨congrArg (fun x => some (Value.int x)) ?_, rfl⟩
        first
          | exact (bI_t (sgB_t.mpr ⟨h_11, by unfold ch; rw [ea]; exact h_42⟩)).symm
          | exact (bI_f (fun z => h_42 (by have q := (sgB_t.mp z).2; unfold ch at q; rw [ea] at q; exact q))).symm
          | exact (bI_f (fun z => h_11 (sgB_t.mp z).1)).symm
          | exact (bI_f (fun z => by have := (sgB_t.mp z).1; omega)).symm
set_option maxRecDepth 100000 in
set_option maxHeartbeats 4000000 in
theorem c0_isSignOfF {g : GT} {n f : Nat} {M N : TM} (h : F0s n M f N) (c : Int32) : Cn g yX0_isSignOf cX0_isSignOf 2 (some .boolean) 4 [.ref (gad g 0 0), .int c] N (Rt (.int 0) N) := by
  refine Cn.ofTR (by decide +kernel) (Nat.le_of_ble_eq_true rfl) ?_
  obtain ⟨hK, ⟨a5, a9⟩, ⟨hf, hn⟩, hz⟩ := id h
  refine q_aload_n 1 dX0_isSignOf_0 rfl rfl ?_
  refine q_getI 4 dX0_isSignOf_1 rfl fl_X0_40 (by decide) rfl (by decide) ?_
  refine q_if_ge 49 7 dX0_isSignOf_4 rfl rfl (fun _ => ?_) (fun h_4 => absurd (show 0 ≤ N 0 0 9 by rw [a9]; exact nI_pos' (by omega)) h_4)
  refine q_iconst (v := 0) 50 dX0_isSignOf_49 rfl rfl ?_
  refine q_zret dX0_isSignOf_50 rfl ?_
  exact ⟨rfl, rfl⟩
def nrF (T : Nat → Int32) (n k : Nat) (x : PS) : Int32 := if (tk T n x.1).2.2 = 1 ∧ (tk T n x.1).2.1 - (tk T n x.1).1 = 1 then ixS (3 + k) (ch T n x) else -1
set_option maxRecDepth 100000 in
set_option maxHeartbeats 4000000 in
theorem t0_nm61 {g : GT} {T : Nat → Int32} {n : Nat} {key : Int32} {M N : TM} {l : Nat} {x : PS} (G : G0 T n M) (h : R0 T n key M l x N) (i : Nat) (hi : i < 12) (hat : (tk T n x.1).1 < n) : TR g (rmD 4) RX0 cX0_nameRead 2 (some .int) 0 0 (Zm g (Rt (.int (ixS i (ch T n x))) N)) 61 [some (.ref (gad g 0 0)), none] [.ref (gad g 53 i)] N := by
  obtain ⟨hK, ⟨h7, h8, h6⟩, ⟨a1, a2, a3, a5, a9⟩, hS⟩ := id h
  obtain ⟨w1, w2, w3⟩ := tk_W T n x.1
  have hT := hK.2
  have kT : N 28 0 = T := (hK.1 28 0 (by decide) (by decide)).trans G.1
  have h96 := G.2.1
  obtain ⟨a, ha, ea⟩ := G.2.2 (tk T n x.1).1 (by omega)
  refine q_astore_n 62 dX0_nameRead_61 rfl (by decide) rfl ?_
  refine q_aload_n 63 dX0_nameRead_62 rfl rfl ?_
  refine q_aload_n 64 dX0_nameRead_63 rfl rfl ?_
  refine q_getT 67 dX0_nameRead_64 rfl fl_X0_15 (by decide) hT ?_
  refine q_aload_n 68 dX0_nameRead_67 rfl rfl ?_
  refine q_getI 71 dX0_nameRead_68 rfl fl_X0_53 (by decide) rfl (by decide) ?_
  refine q_iald 72 dX0_nameRead_71 rfl (by decide) (by decide) h7 (show (tk T n x.1).1 < 96 by omega) ?_
  refine q_i2c 73 dX0_nameRead_72 rfl ?_
  rw [kT, ea, c_char a ha]
  refine q_callOt 76 dX0_nameRead_73 rfl (cJ_indexOf _ i a hi ha) cw_X0_91 mJ0_indexOf_0f7a4_n mJ0_indexOf_0f7a4_v rfl hi rfl rfl ⟨by decide, by decide⟩ ⟨by decide, by decide⟩ (Nat.le_of_ble_eq_true rfl) ?_
  refine q_iret dX0_nameRead_76 ?_
  exact ⟨congrArg (fun x => some (Value.int x)) (by unfold ch; rw [ea]), rfl⟩
set_option maxRecDepth 100000 in
set_option maxHeartbeats 4000000 in
theorem c0_nameRead {g : GT} {T : Nat → Int32} {n : Nat} {k : Nat} {M N : TM} {l : Nat} {x : PS} (G : G0 T n M) (h : R0 T n (nI k) M l x N) (hk : k < 3) : Cn g yX0_nameRead cX0_nameRead 2 (some .int) 4 [.ref (gad g 0 0)] N (Rt (.int (nrF T n k x)) N) := by
  refine Cn.ofTR (by decide +kernel) (Nat.le_of_ble_eq_true rfl) ?_
  obtain ⟨hK, ⟨h7, h8, h6⟩, ⟨a1, a2, a3, a5, a9⟩, hS⟩ := id h
  obtain ⟨w1, w2, w3⟩ := tk_W T n x.1
  have hT := hK.2
  have kT : N 28 0 = T := (hK.1 28 0 (by decide) (by decide)).trans G.1
  have h96 := G.2.1
  refine q_aload_n 1 dX0_nameRead_0 rfl rfl ?_
  refine q_getI 4 dX0_nameRead_1 rfl fl_X0_34 (by decide) rfl (by decide) ?_
  refine q_iconst (v := 1) 5 dX0_nameRead_4 rfl rfl ?_
  refine q_icmp_ne 32 8 dX0_nameRead_5 rfl rfl (fun h_5 => ?_) (fun h_5 => ?_)
  · skip
    rw [h.so1] at h_5
    refine q_iconst (v := (-1)) 33 dX0_nameRead_32 rfl rfl ?_
    refine q_iret dX0_nameRead_33 ?_
    refine ⟨congrArg (fun x => some (Value.int x)) ?_, rfl⟩
    unfold nrF
    first
      | exact (if_neg (fun z => h_5 z.1)).symm
      | exact (if_neg (fun z => h_18 z.2)).symm
      | (exfalso; omega)
  · skip
    rw [h.so1] at h_5
    rw [if_neg (by omega)] at h8
    refine q_aload_n 9 dX0_nameRead_8 rfl rfl ?_
    refine q_getI 12 dX0_nameRead_9 rfl fl_X0_37 (by decide) rfl (by decide) ?_
    refine q_aload_n 13 dX0_nameRead_12 rfl rfl ?_
    refine q_getI 16 dX0_nameRead_13 rfl fl_X0_53 (by decide) rfl (by decide) ?_
    refine q_isub 17 dX0_nameRead_16 rfl ?_
    refine q_iconst (v := 1) 18 dX0_nameRead_17 rfl rfl ?_
    refine q_icmp_ne 32 21 dX0_nameRead_18 rfl rfl (fun h_18 => ?_) (fun h_18 => ?_)
    · skip
      rw [h8, h7, pk_sub w1, nI_e1 (by omega)] at h_18
      refine q_iconst (v := (-1)) 33 dX0_nameRead_32 rfl rfl ?_
      refine q_iret dX0_nameRead_33 ?_
      refine ⟨congrArg (fun x => some (Value.int x)) ?_, rfl⟩
      unfold nrF
      first
        | exact (if_neg (fun z => h_5 z.1)).symm
        | exact (if_neg (fun z => h_18 z.2)).symm
        | (exfalso; omega)
    · skip
      rw [h8, h7, pk_sub w1, nI_e1 (by omega)] at h_18
      refine q_aload_n 22 dX0_nameRead_21 rfl rfl ?_
      refine q_getI 25 dX0_nameRead_22 rfl fl_X0_53 (by decide) rfl (by decide) ?_
      refine q_aload_n 26 dX0_nameRead_25 rfl rfl ?_
      refine q_getI 29 dX0_nameRead_26 rfl fl_X0_24 (by decide) rfl (by decide) ?_
      refine q_icmp_lt 34 32 dX0_nameRead_29 rfl rfl (fun h_29 => ?_) (fun h_29 => ?_)
      · skip
        rw [h7, a5, nI_ltI (by omega) (by omega)] at h_29
        refine q_aload_n 35 dX0_nameRead_34 rfl rfl ?_
        refine q_getI 38 dX0_nameRead_35 rfl fl_X0_50 (by decide) rfl (by decide) ?_
        refine q_if_ne 46 41 dX0_nameRead_38 rfl rfl (fun h_38 => ?_) (fun h_38 => ?_)
        · skip
          rw [a2, nI_e0 (by omega)] at h_38
          refine q_aload_n 47 dX0_nameRead_46 rfl rfl ?_
          refine q_getI 50 dX0_nameRead_47 rfl fl_X0_50 (by decide) rfl (by decide) ?_
          refine q_iconst (v := 1) 51 dX0_nameRead_50 rfl rfl ?_
          refine q_icmp_ne 59 54 dX0_nameRead_51 rfl rfl (fun h_51 => ?_) (fun h_51 => ?_)
          · skip
            rw [a2, nI_e1 (by omega)] at h_51
            refine q_ldcS (i := 5) 61 dX0_nameRead_59 rfl (by decide) rfl rfl ?_
            first
              | (obtain rfl : k = 0 := (by omega); unfold nrF; rw [if_pos ⟨h_5, h_18⟩]; exact q_fg (t0_nm61 G h 3 (by decide) (by omega)) ⟨rfl, trivial⟩)
              | (obtain rfl : k = 1 := (by omega); unfold nrF; rw [if_pos ⟨h_5, h_18⟩]; exact q_fg (t0_nm61 G h 4 (by decide) (by omega)) ⟨rfl, trivial⟩)
              | (obtain rfl : k = 2 := (by omega); unfold nrF; rw [if_pos ⟨h_5, h_18⟩]; exact q_fg (t0_nm61 G h 5 (by decide) (by omega)) ⟨rfl, trivial⟩)
          · skip
            rw [a2, nI_e1 (by omega)] at h_51
            refine q_ldcS (i := 4) 56 dX0_nameRead_54 rfl (by decide) rfl rfl ?_
            refine q_goto 61 dX0_nameRead_56 rfl ?_
            first
              | (obtain rfl : k = 0 := (by omega); unfold nrF; rw [if_pos ⟨h_5, h_18⟩]; exact q_fg (t0_nm61 G h 3 (by decide) (by omega)) ⟨rfl, trivial⟩)
              | (obtain rfl : k = 1 := (by omega); unfold nrF; rw [if_pos ⟨h_5, h_18⟩]; exact q_fg (t0_nm61 G h 4 (by decide) (by omega)) ⟨rfl, trivial⟩)
              | (obtain rfl : k = 2 := (by omega); unfold nrF; rw [if_pos ⟨h_5, h_18⟩]; exact q_fg (t0_nm61 G h 5 (by decide) (by omega)) ⟨rfl, trivial⟩)
        · skip
          rw [a2, nI_e0 (by omega)] at h_38
          refine q_ldcS (i := 3) 43 dX0_nameRead_41 rfl (by decide) rfl rfl ?_
          refine q_goto 61 dX0_nameRead_43 rfl ?_
          first
            | (obtain rfl : k = 0 := (by omega); unfold nrF; rw [if_pos ⟨h_5, h_18⟩]; exact q_fg (t0_nm61 G h 3 (by decide) (by omega)) ⟨rfl, trivial⟩)
            | (obtain rfl : k = 1 := (by omega); unfold nrF; rw [if_pos ⟨h_5, h_18⟩]; exact q_fg (t0_nm61 G h 4 (by decide) (by omega)) ⟨rfl, trivial⟩)
            | (obtain rfl : k = 2 := (by omega); unfold nrF; rw [if_pos ⟨h_5, h_18⟩]; exact q_fg (t0_nm61 G h 5 (by decide) (by omega)) ⟨rfl, trivial⟩)
      · skip
        rw [h7, a5, nI_ltI (by omega) (by omega)] at h_29
        refine q_iconst (v := (-1)) 33 dX0_nameRead_32 rfl rfl ?_
        refine q_iret dX0_nameRead_33 ?_
        refine ⟨congrArg (fun x => some (Value.int x)) ?_, rfl⟩
        unfold nrF
        first
          | exact (if_neg (fun z => h_5 z.1)).symm
          | exact (if_neg (fun z => h_18 z.2)).symm
          | (exfalso; omega)
set_option maxRecDepth 100000 in
set_option maxHeartbeats 4000000 in
theorem l0_num {g : GT} {T : Nat → Int32} {n : Nat} {key : Int32} {M N : TM} {l : Nat} {x : PS} (G : G0 T n M) (h : R0 T n key M l x N) (h2 : (tk T n x.1).2.2 = 2) : ∀ (j : Nat) (k : Nat) (v y : Int32), (tk T n x.1).1 + k ≤ (tk T n x.1).2.1 → (tk T n x.1).2.1 - ((tk T n x.1).1 + k) < j → v = nuF T (tk T n x.1).1 k → y = nI ((tk T n x.1).1 + k) → TR g (rmD 0) RX0 cX0_numberRead 3 (some .int) 0 0 (Zm g (Rt (.int (nuF T (tk T n x.1).1 ((tk T n x.1).2.1 - (tk T n x.1).1))) N)) 7 [some (.ref (gad g 0 0)), some (.int v), some (.int y)] [] N := by
  intro j
  induction j with
  | zero => intro k v y hk hj hv hy; exact absurd hj (by omega)
  | succ j ih =>
    intro k v y hk hj hv hy
    subst hy
    subst hv
    obtain ⟨hK, ⟨h7, h8, h6⟩, ⟨a1, a2, a3, a5, a9⟩, hS⟩ := id h
    obtain ⟨w1, w2, w3⟩ := tk_W T n x.1
    have hT := hK.2
    have kT : N 28 0 = T := (hK.1 28 0 (by decide) (by decide)).trans G.1
    have h96 := G.2.1
    rw [if_neg (by omega)] at h8
    refine q_iload_n 8 dX0_numberRead_7 rfl rfl ?_
    refine q_aload_n 9 dX0_numberRead_8 rfl rfl ?_
    refine q_getI 12 dX0_numberRead_9 rfl fl_X0_37 (by decide) rfl (by decide) ?_
    refine q_icmp_ge 44 15 dX0_numberRead_12 rfl rfl (fun h_12 => ?_) (fun h_12 => ?_)
    · skip
      rw [h8, nI_leI (by omega) (by omega)] at h_12
      refine q_iload_n 45 dX0_numberRead_44 rfl rfl ?_
      refine q_iret dX0_numberRead_45 ?_
      refine ⟨congrArg (fun x => some (Value.int x)) ?_, rfl⟩
      first | (rw [show (tk T n x.1).2.1 - (tk T n x.1).1 = k by omega])
    · skip
      rw [h8, nI_leI (by omega) (by omega)] at h_12
      refine q_iload_n 16 dX0_numberRead_15 rfl rfl ?_
      refine q_aload_n 17 dX0_numberRead_16 rfl rfl ?_
      refine q_getI 20 dX0_numberRead_17 rfl fl_X0_24 (by decide) rfl (by decide) ?_
      refine q_icmp_ge 44 23 dX0_numberRead_20 rfl rfl (fun h_20 => ?_) (fun h_20 => ?_)
      · skip
        rw [a5, nI_leI (by omega) (by omega)] at h_20
        refine q_iload_n 45 dX0_numberRead_44 rfl rfl ?_
        refine q_iret dX0_numberRead_45 ?_
        refine ⟨congrArg (fun x => some (Value.int x)) ?_, rfl⟩
        first | (rw [show (tk T n x.1).2.1 - (tk T n x.1).1 = k by omega])
      · skip
        rw [a5, nI_leI (by omega) (by omega)] at h_20
        refine q_iload_n 24 dX0_numberRead_23 rfl rfl ?_
        refine q_bipush (v := 10) 26 dX0_numberRead_24 rfl rfl ?_
        refine q_imul 27 dX0_numberRead_26 rfl ?_
        refine q_aload_n 28 dX0_numberRead_27 rfl rfl ?_
        refine q_getT 31 dX0_numberRead_28 rfl fl_X0_15 (by decide) hT ?_
        refine q_iload_n 32 dX0_numberRead_31 rfl rfl ?_
        refine q_iald 33 dX0_numberRead_32 rfl (by decide) (by decide) rfl (show (tk T n x.1).1 + k < 96 by omega) ?_
        refine q_iadd 34 dX0_numberRead_33 rfl ?_
        refine q_bipush (v := 48) 36 dX0_numberRead_34 rfl rfl ?_
        refine q_isub 37 dX0_numberRead_36 rfl ?_
        refine q_istore_n 38 dX0_numberRead_37 rfl (by decide) rfl ?_
        refine q_iinc 41 dX0_numberRead_38 rfl rfl (by decide) rfl (nI_1 _) ?_
        refine q_goto 7 dX0_numberRead_41 rfl ?_
        exact q_fg (ih (k + 1) _ _ (by omega) (by omega) (by show _ = nuF T (tk T n x.1).1 k * 10 + T ((tk T n x.1).1 + k) - 48; rw [← kT]) rfl) ⟨rfl, rfl, rfl, trivial⟩
set_option maxRecDepth 100000 in
set_option maxHeartbeats 4000000 in
theorem c0_numberRead {g : GT} {T : Nat → Int32} {n : Nat} {key : Int32} {M N : TM} {l : Nat} {x : PS} (G : G0 T n M) (h : R0 T n key M l x N) (h2 : (tk T n x.1).2.2 = 2) : Cn g yX0_numberRead cX0_numberRead 3 (some .int) 0 [.ref (gad g 0 0)] N (Rt (.int (nuF T (tk T n x.1).1 ((tk T n x.1).2.1 - (tk T n x.1).1))) N) := by
  refine Cn.ofTR (by decide +kernel) (Nat.le_of_ble_eq_true rfl) ?_
  obtain ⟨w1, w2, w3⟩ := tk_W T n x.1
  have h7 := h.2.1.1
  refine q_iconst (v := 0) 1 dX0_numberRead_0 rfl rfl ?_
  refine q_istore_n 2 dX0_numberRead_1 rfl (by decide) rfl ?_
  refine q_aload_n 3 dX0_numberRead_2 rfl rfl ?_
  refine q_getI 6 dX0_numberRead_3 rfl fl_X0_53 (by decide) rfl (by decide) ?_
  refine q_istore_n 7 dX0_numberRead_6 rfl (by decide) rfl ?_
  exact q_fg (l0_num G h h2 ((tk T n x.1).2.1 + 1) 0 _ _ (by omega) (by omega) rfl h7) ⟨rfl, rfl, rfl, trivial⟩
def ptM (N : TM) (m : Nat) (v : Int32) : TM := putA (putA N 10 0 (upd (N 10 0) m v)) 0 0 (upd (N 0 0) 1 (nI (m + 1)))
set_option maxRecDepth 100000 in
set_option maxHeartbeats 4000000 in
theorem c0_put {g : GT} (N : TM) (m : Nat) (v : Int32) (h1 : N 0 0 1 = nI m) (hm : m ≤ 95) : Cn g yX0_put cX0_put 2 none 0 [.ref (gad g 0 0), .int v] N (Rv (ptM N m v)) := by
  refine Cn.ofTR (by decide +kernel) (Nat.le_of_ble_eq_true rfl) ?_
  refine q_aload_n 1 dX0_put_0 rfl rfl ?_
  refine q_getI 4 dX0_put_1 rfl fl_X0_28 (by decide) rfl (by decide) ?_
  refine q_bipush (v := 96) 6 dX0_put_4 rfl rfl ?_
  refine q_icmp_ge 29 9 dX0_put_6 rfl rfl (fun h_6 => absurd (show nI 96 ≤ nI m by rw [← h1]; exact h_6) (nI_ge (by omega) (by decide))) (fun _ => ?_)
  refine q_aload_n 10 dX0_put_9 rfl rfl ?_
  refine q_getR 13 dX0_put_10 rfl fl_X0_9 (by decide) rfl rfl ?_
  refine q_aload_n 14 dX0_put_13 rfl rfl ?_
  refine q_getI 17 dX0_put_14 rfl fl_X0_28 (by decide) rfl (by decide) ?_
  refine q_iload_n 18 dX0_put_17 rfl rfl ?_
  refine q_iast 19 dX0_put_18 rfl (by decide) (by decide) h1 (show m < 96 by omega) ?_
  refine q_aload_n 20 dX0_put_19 rfl rfl ?_
  refine q_dup 21 dX0_put_20 rfl rfl ?_
  refine q_getI 24 dX0_put_21 rfl fl_X0_28 (by decide) rfl (by decide) ?_
  refine q_iconst (v := 1) 25 dX0_put_24 rfl rfl ?_
  refine q_iadd 26 dX0_put_25 rfl ?_
  refine q_putI 29 dX0_put_26 rfl fl_X0_28 fp_0_1 (by decide) rfl (by decide) rfl rfl ?_
  refine q_vret dX0_put_29 ?_
  refine ⟨rfl, ?_⟩
  show putA (putA N 10 0 (upd (N 10 0) m v)) 0 0 (upd (N 0 0) 1 (N 0 0 1 + 1)) = _
  rw [h1, nI_1]
  rfl
set_option maxRecDepth 100000 in
set_option maxHeartbeats 4000000 in
theorem c0_putN {g : GT} (N : TM) (m : Nat) (v : Int32) (h1 : N 0 0 1 = nI m) (hm : m = 96) : Cn g yX0_put cX0_put 2 none 0 [.ref (gad g 0 0), .int v] N (Rv N) := by
  refine Cn.ofTR (by decide +kernel) (Nat.le_of_ble_eq_true rfl) ?_
  refine q_aload_n 1 dX0_put_0 rfl rfl ?_
  refine q_getI 4 dX0_put_1 rfl fl_X0_28 (by decide) rfl (by decide) ?_
  refine q_bipush (v := 96) 6 dX0_put_4 rfl rfl ?_
  refine q_icmp_ge 29 9 dX0_put_6 rfl rfl (fun _ => ?_) (fun h_6 => absurd (show nI 96 ≤ N 0 0 1 by rw [h1, hm]; exact Int32.le_refl _) h_6)
  refine q_vret dX0_put_29 ?_
  exact ⟨rfl, rfl⟩
theorem c0_putF {g : GT} {n f : Nat} {M N : TM} (h : F0s n M f N) (v : Int32) : Cn g yX0_put cX0_put 2 none 0 [.ref (gad g 0 0), .int v] N (fun r N' => r = none ∧ F0s n M f N') := by
  obtain ⟨hK, h59, hf, z, hz, e1⟩ := h
  by_cases h96 : z = 96
  · refine Cn.mono (c0_putN N z v e1 h96) ?_
    rintro r N' ⟨rfl, rfl⟩
    exact ⟨rfl, hK, h59, hf, z, hz, e1⟩
  · refine Cn.mono (c0_put N z v e1 (by omega)) ?_
    rintro r N' ⟨rfl, rfl⟩
    refine ⟨rfl, ⟨fun t k q1 q2 => ?_, hK.2⟩, h59, hf, z + 1, by omega, rfl⟩
    unfold ptM
    rw [putA_n _ _ _ _ q1, putA_n _ _ _ _ q2]; exact hK.1 t k q1 q2
theorem R0.pt {T : Nat → Int32} {n : Nat} {key : Int32} {M N : TM} {l : Nat} {x : PS} (h : R0 T n key M l x N) {w v c : Int32} (hc : c = enF key w v) : R0 T n key M l (sp x w v) (ptM N x.2.1 c) := by
  obtain ⟨hK, ht, ⟨a1, a2, a3, a5, a9⟩, hS⟩ := h
  refine ⟨⟨fun t k q1 q2 => ?_, hK.2⟩, ht, ⟨rfl, a2, a3, a5, a9⟩, fun k hk => ?_⟩
  · unfold ptM
    rw [putA_n _ _ _ _ q1, putA_n _ _ _ _ q2]; exact hK.1 t k q1 q2
  · show upd (N 10 0) x.2.1 c k = _
    have hk : k < x.2.1 + 1 := hk
    by_cases e : k = x.2.1
    · subst e; rw [upd_s, sp_w, sp_v]; exact hc
    · rw [upd_n e, sp_lo x w v (by omega), sp_lo x w v (by omega)]; exact hS k (by omega)
theorem c0_pts {g : GT} {T : Nat → Int32} {n : Nat} {key : Int32} {M N : TM} {x : PS} (h : R0 T n key M (lc x.2.2 x.2.1) x N) (hm : x.2.1 ≤ 95) {c s : Int32} (hs : s = -c) : Cn g yX0_put cX0_put 2 none 0 [.ref (gad g 0 0), .int s] N (fun r N' => r = none ∧ R0 T n key M (lc (sp x 2 c).2.2 (sp x 2 c).2.1) (sp x 2 c) N') := by
  refine Cn.mono (c0_put N x.2.1 s h.2.2.1.1 hm) ?_
  rintro r N' ⟨rfl, rfl⟩
  refine ⟨rfl, ?_⟩
  rw [show lc (sp x 2 c).2.2 (sp x 2 c).2.1 = lc x.2.2 x.2.1 from lc_2 x c]
  exact h.pt (by unfold enF; rw [if_pos rfl]; exact hs)
theorem R0.f3 {T : Nat → Int32} {n : Nat} {key : Int32} {M N : TM} {l : Nat} {x : PS} (h : R0 T n key M l x N) : R0 T n key M (l + 1) x (putA N 0 0 (upd (N 0 0) 3 (N 0 0 3 + 1))) := by
  obtain ⟨hK, ht, ⟨a1, a2, a3, a5, a9⟩, hS⟩ := h
  exact ⟨⟨fun t k q1 q2 => (putA_n _ _ _ _ q1).trans (hK.1 t k q1 q2), hK.2⟩, ht, ⟨a1, a2, (congrArg (· + 1) a3).trans (nI_1 l), a5, a9⟩, hS⟩
set_option maxRecDepth 100000 in
set_option maxHeartbeats 4000000 in
theorem c0_putLeaf {g : GT} {T : Nat → Int32} {n : Nat} {key : Int32} {M N : TM} {x : PS} (G : G0 T n M) (h : R0 T n key M (lc x.2.2 x.2.1) x N) (hm : x.2.1 ≤ 95) (h0 : (tk T n x.1).2.2 ≠ 0) (h4 : (tk T n x.1).2.2 ≠ 4) (w v : Int32) (hw : w ≠ 2) (c : Int32) (hc : c = enF key w v) : Cn g yX0_putLeaf cX0_putLeaf 2 none 2 [.ref (gad g 0 0), .int c] N (fun r N' => r = none ∧ R0 T n key M (lc (ad (sp x w v)).2.2 (ad (sp x w v)).2.1) (ad (sp x w v)) N') := by
  refine Cn.ofTR (by decide +kernel) (Nat.le_of_ble_eq_true rfl) ?_
  refine q_aload_n 1 dX0_putLeaf_0 rfl rfl ?_
  refine q_iload_n 2 dX0_putLeaf_1 rfl rfl ?_
  refine q_callVv 5 dX0_putLeaf_2 rfl (c0_put N x.2.1 c h.2.2.1.1 hm) cw_X0_94 (by decide) rfl rfl ⟨by decide, by decide⟩ ⟨by decide, by decide⟩ (Nat.le_of_ble_eq_true rfl) ?_
  refine q_aload_n 6 dX0_putLeaf_5 rfl rfl ?_
  refine q_dup 7 dX0_putLeaf_6 rfl rfl ?_
  refine q_getI 10 dX0_putLeaf_7 rfl fl_X0_31 (by decide) rfl (by decide) ?_
  refine q_iconst (v := 1) 11 dX0_putLeaf_10 rfl rfl ?_
  refine q_iadd 12 dX0_putLeaf_11 rfl ?_
  refine q_putI 15 dX0_putLeaf_12 rfl fl_X0_31 fp_0_3 (by decide) rfl (by decide) rfl rfl ?_
  refine q_aload_n 16 dX0_putLeaf_15 rfl rfl ?_
  refine q_callV 19 dX0_putLeaf_16 rfl (c0_next G ((h.pt hc).f3) h0 h4) cw_X0_43 (by decide) rfl rfl ⟨by decide, by decide⟩ ⟨by decide, by decide⟩ (Nat.le_of_ble_eq_true rfl) ?_
  rintro _ N1 ⟨rfl, hR⟩
  refine q_vret dX0_putLeaf_19 ?_
  refine ⟨rfl, ?_⟩
  rw [show lc (ad (sp x w v)).2.2 (ad (sp x w v)).2.1 = lc x.2.2 x.2.1 + 1 from lc_l x v hw]
  exact hR
set_option maxRecDepth 100000 in
set_option maxHeartbeats 4000000 in
theorem c0_stop {g : GT} {T : Nat → Int32} {n : Nat} {key : Int32} {M N : TM} {l : Nat} {x : PS} (G : G0 T n M) (h : R0 T n key M l x N) (hx : x.2.1 ≤ 96) : Cn g yX0_stop cX0_stop 1 none 0 [.ref (gad g 0 0)] N (fun r N' => r = none ∧ F0s n M (tk T n x.1).1 N') := by
  refine Cn.ofTR (by decide +kernel) (Nat.le_of_ble_eq_true rfl) ?_
  obtain ⟨hK, ⟨h7, h8, h6⟩, ⟨a1, a2, a3, a5, a9⟩, hS⟩ := id h
  obtain ⟨w1, w2, w3⟩ := tk_W T n x.1
  have hT := hK.2
  have kT : N 28 0 = T := (hK.1 28 0 (by decide) (by decide)).trans G.1
  have h96 := G.2.1
  refine q_aload_n 1 dX0_stop_0 rfl rfl ?_
  refine q_getI 4 dX0_stop_1 rfl fl_X0_40 (by decide) rfl (by decide) ?_
  refine q_if_ge 15 7 dX0_stop_4 rfl rfl (fun h_4 => absurd (show (0 : Int32) ≤ -1 by rw [← a9]; exact h_4) (by decide)) (fun _ => ?_)
  refine q_aload_n 8 dX0_stop_7 rfl rfl ?_
  refine q_aload_n 9 dX0_stop_8 rfl rfl ?_
  refine q_getI 12 dX0_stop_9 rfl fl_X0_53 (by decide) rfl (by decide) ?_
  refine q_putI 15 dX0_stop_12 rfl fl_X0_40 fp_0_9 (by decide) rfl (by decide) rfl rfl ?_
  refine q_vret dX0_stop_15 ?_
  exact ⟨rfl, ⟨fun t k q1 q2 => (putA_n _ _ _ _ q1).trans (hK.1 t k q1 q2), hK.2⟩, ⟨a5, h7⟩, ⟨by omega, h96⟩, _, hx, a1⟩
set_option maxRecDepth 100000 in
set_option maxHeartbeats 4000000 in
theorem c0_stopF {g : GT} {n f : Nat} {M N : TM} (h : F0s n M f N) : Cn g yX0_stop cX0_stop 1 none 0 [.ref (gad g 0 0)] N (fun r N' => r = none ∧ F0s n M f N') := by
  refine Cn.ofTR (by decide +kernel) (Nat.le_of_ble_eq_true rfl) ?_
  obtain ⟨hK, ⟨a5, a9⟩, ⟨hf, hn⟩, hz⟩ := id h
  refine q_aload_n 1 dX0_stop_0 rfl rfl ?_
  refine q_getI 4 dX0_stop_1 rfl fl_X0_40 (by decide) rfl (by decide) ?_
  refine q_if_ge 15 7 dX0_stop_4 rfl rfl (fun _ => ?_) (fun h_4 => absurd (show 0 ≤ N 0 0 9 by rw [a9]; exact nI_pos' (by omega)) h_4)
  refine q_vret dX0_stop_15 ?_
  exact ⟨rfl, h⟩
