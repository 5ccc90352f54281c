/-! THE CLASS'S READER: levels, pieces -/
def L0 (T : Nat → Int32) (n : Nat) (key : Int32) (M : TM) (res : Bool × PS) (N : TM) : Prop := (res.1 = true → R0 T n key M (lc res.2.2.2 res.2.2.1) res.2 N) ∧ (¬ res.1 = true → F0s n M (tk T n res.2.1).1 N)
abbrev Q0 (T : Nat → Int32) (n : Nat) (key : Int32) (M : TM) (res : Bool × PS) : Option Value → TM → Prop := fun r N => r = none ∧ L0 T n key M res N
theorem L0.t {T : Nat → Int32} {n : Nat} {key : Int32} {M N : TM} {x : PS} (h : R0 T n key M (lc x.2.2 x.2.1) x N) : L0 T n key M (true, x) N := ⟨fun _ => h, fun z => absurd rfl z⟩
theorem L0.f {T : Nat → Int32} {n : Nat} {key : Int32} {M N : TM} {x : PS} (h : F0s n M (tk T n x.1).1 N) : L0 T n key M (false, x) N := ⟨fun z => absurd z Bool.false_ne_true, fun _ => h⟩
theorem L0.b {T : Nat → Int32} {n : Nat} {key : Int32} {M N : TM} {res : Bool × PS} (hf : ¬ res.1 = true) (h : F0s n M (tk T n res.2.1).1 N) : L0 T n key M res N := ⟨fun z => absurd z hf, fun _ => h⟩
def CP (g : GT) (T : Nat → Int32) (n : Nat) (key : Int32) (M : TM) (dp no d : Nat) (p : PS → Bool × PS) : Prop := ∀ (x : PS) (N : TM), R0 T n key M (lc x.2.2 x.2.1) x N → x.2.1 ≤ x.1 → x.1 ≤ n → Cn g yX0_readPiece cX0_readPiece 4 none d [.ref (gad g 0 0), .int (nI dp), .int (nI no)] N (Q0 T n key M (p x))
def CL (g : GT) (T : Nat → Int32) (n : Nat) (key : Int32) (M : TM) (dp no j d : Nat) (p : PS → Bool × PS) : Prop := ∀ (x : PS) (N : TM), R0 T n key M (lc x.2.2 x.2.1) x N → x.2.1 ≤ x.1 → x.1 ≤ n → Cn g yX0_readLevel cX0_readLevel 7 none d [.ref (gad g 0 0), .int (nI (5 - j)), .int (nI dp), .int (nI no)] N (Q0 T n key M (lv T n p j x))
set_option maxRecDepth 100000 in
set_option maxHeartbeats 4000000 in
theorem w0_lv0 {g : GT} {T : Nat → Int32} {n : Nat} {key : Int32} {M : TM} {dp no d : Nat} {p : PS → Bool × PS} {jj : Nat} (G : G0 T n M) (hC : CP g T n key M dp no d p) (x : PS) (N : TM) (hR : R0 T n key M (lc x.2.2 x.2.1) x N) (hm : x.2.1 ≤ x.1) (hi : x.1 ≤ n) : Cn g yX0_readLevel cX0_readLevel 7 none (d + 1) [.ref (gad g 0 0), .int (nI (5 - 0)), .int (nI dp), .int (nI no)] N (Q0 T n key M (lv T n p 0 x)) := by
  refine Cn.ofTR (by decide +kernel) (Nat.le_of_ble_eq_true rfl) ?_
  refine q_iload_n 1 dX0_readLevel_0 rfl rfl ?_
  refine q_iconst (v := 5) 2 dX0_readLevel_1 rfl rfl ?_
  refine q_icmp_lt 12 5 dX0_readLevel_2 rfl rfl (fun h_2 => absurd h_2 (by decide)) (fun _ => ?_)
  refine q_aload_n 6 dX0_readLevel_5 rfl rfl ?_
  refine q_iload_n 7 dX0_readLevel_6 rfl rfl ?_
  refine q_iload_n 8 dX0_readLevel_7 rfl rfl ?_
  refine q_callV 11 dX0_readLevel_8 rfl (hC x N hR hm hi) cw_X0_114 (by decide) rfl rfl (rm_ok (by omega) (by decide)) ⟨Nat.zero_le _, Nat.zero_le _⟩ (Nat.le_of_ble_eq_true rfl) ?_
  rintro _ N1 ⟨rfl, h⟩
  refine q_vret dX0_readLevel_11 ?_
  exact ⟨rfl, h⟩
set_option maxRecDepth 100000 in
set_option maxHeartbeats 4000000 in
theorem t0_rlF {g : GT} {T : Nat → Int32} {n : Nat} {key : Int32} {M : TM} {dp no d : Nat} {p : PS → Bool × PS} {jj : Nat} (G : G0 T n M) (h4d : 4 ≤ d) (mo k : Int32) (res : Bool × PS) (hf : ¬ res.1 = true) (N : TM) (h : F0s n M (tk T n res.2.1).1 N) : TR g (rmD (d + 1)) RX0 cX0_readLevel 7 none 0 0 (Zm g (Q0 T n key M res)) 37 [some (.ref (gad g 0 0)), some (.int (nI (4 - jj))), some (.int (nI dp)), some (.int (nI no)), some (.int mo), some (.int k), none] [] N := by
  refine q_iload 39 dX0_readLevel_37 rfl rfl ?_
  refine q_iload 41 dX0_readLevel_39 rfl rfl ?_
  refine q_icmp_ge 89 44 dX0_readLevel_41 rfl rfl (fun h_41 => ?_) (fun h_41 => ?_)
  · skip
    refine q_vret dX0_readLevel_89 ?_
    exact ⟨rfl, L0.b hf h⟩
  · skip
    refine q_aload_n 45 dX0_readLevel_44 rfl rfl ?_
    refine q_iload_n 46 dX0_readLevel_45 rfl rfl ?_
    refine q_callVt 49 dX0_readLevel_46 rfl (c0_isSignOfF h _) cw_X0_118 (by decide) rfl rfl (rm_ok (by omega) (by decide)) ⟨Nat.zero_le _, Nat.zero_le _⟩ (Nat.le_of_ble_eq_true rfl) ?_
    refine q_if_eq 89 52 dX0_readLevel_49 rfl rfl (fun _ => ?_) (fun h_49 => absurd rfl h_49)
    refine q_vret dX0_readLevel_89 ?_
    exact ⟨rfl, L0.b hf h⟩
set_option maxRecDepth 100000 in
set_option maxHeartbeats 4000000 in
theorem t0_rlG {g : GT} {T : Nat → Int32} {n : Nat} {key : Int32} {M : TM} {dp no d : Nat} {p : PS → Bool × PS} {jj : Nat} (G : G0 T n M) (mo k c : Int32) (P : Option Value → TM → Prop) (x : PS) (N : TM) (hR : R0 T n key M (lc x.2.2 x.2.1) x N) (hm : x.2.1 ≤ 95) (hih : ∀ N3, R0 T n key M (lc (sp x 2 c).2.2 (sp x 2 c).2.1) (sp x 2 c) N3 → TR g (rmD (d + 1)) RX0 cX0_readLevel 7 none 0 0 (Zm g P) 37 [some (.ref (gad g 0 0)), some (.int (nI (4 - jj))), some (.int (nI dp)), some (.int (nI no)), some (.int mo), some (.int (k + 1)), none] [] N3) : TR g (rmD (d + 1)) RX0 cX0_readLevel 7 none 0 0 (Zm g P) 76 [some (.ref (gad g 0 0)), some (.int (nI (4 - jj))), some (.int (nI dp)), some (.int (nI no)), some (.int mo), some (.int k), some (.int c)] [] N := by
  refine q_aload_n 77 dX0_readLevel_76 rfl rfl ?_
  refine q_iload 79 dX0_readLevel_77 rfl rfl ?_
  refine q_ineg 80 dX0_readLevel_79 rfl ?_
  refine q_callV 83 dX0_readLevel_80 rfl (c0_pts hR hm rfl) cw_X0_94 (by decide) rfl rfl (rm_ok (by omega) (by decide)) ⟨Nat.zero_le _, Nat.zero_le _⟩ (Nat.le_of_ble_eq_true rfl) ?_
  rintro _ N3 ⟨rfl, hR3⟩
  refine q_iinc 86 dX0_readLevel_83 rfl rfl (by decide) rfl rfl ?_
  refine q_goto 37 dX0_readLevel_86 rfl ?_
  exact q_fg (hih N3 hR3) ⟨rfl, rfl, rfl, rfl, rfl, rfl, trivial⟩
set_option maxRecDepth 100000 in
set_option maxHeartbeats 4000000 in
theorem t0_rlB {g : GT} {T : Nat → Int32} {n : Nat} {key : Int32} {M : TM} {dp no d : Nat} {p : PS → Bool × PS} {jj : Nat} (G : G0 T n M) (h4d : 4 ≤ d) (mo k c : Int32) (res : Bool × PS) (hf : ¬ res.1 = true) (N : TM) (h : F0s n M (tk T n res.2.1).1 N) : TR g (rmD (d + 1)) RX0 cX0_readLevel 7 none 0 0 (Zm g (Q0 T n key M res)) 76 [some (.ref (gad g 0 0)), some (.int (nI (4 - jj))), some (.int (nI dp)), some (.int (nI no)), some (.int mo), some (.int k), some (.int c)] [] N := by
  refine q_aload_n 77 dX0_readLevel_76 rfl rfl ?_
  refine q_iload 79 dX0_readLevel_77 rfl rfl ?_
  refine q_ineg 80 dX0_readLevel_79 rfl ?_
  refine q_callV 83 dX0_readLevel_80 rfl (c0_putF h _) cw_X0_94 (by decide) rfl rfl (rm_ok (by omega) (by decide)) ⟨Nat.zero_le _, Nat.zero_le _⟩ (Nat.le_of_ble_eq_true rfl) ?_
  rintro _ N3 ⟨rfl, h3⟩
  refine q_iinc 86 dX0_readLevel_83 rfl rfl (by decide) rfl rfl ?_
  refine q_goto 37 dX0_readLevel_86 rfl ?_
  exact q_fg (t0_rlF (p := p) G h4d mo _ res hf N3 h3) ⟨rfl, rfl, rfl, rfl, rfl, rfl, trivial⟩
set_option maxRecDepth 100000 in
set_option maxHeartbeats 4000000 in
theorem l0_rl {g : GT} {T : Nat → Int32} {n : Nat} {key : Int32} {M : TM} {dp no d : Nat} {p : PS → Bool × PS} {jj : Nat} (G : G0 T n M) (h4d : 4 ≤ d) (hj5 : jj < 5) (hG : Gp T n key (lv T n p jj)) (hC : CL g T n key M dp no jj d p) : ∀ (j : Nat) (f k : Nat) (x : PS) (N : TM) (mo ki : Int32), R0 T n key M (lc x.2.2 x.2.1) x N → x.2.1 ≤ x.1 → x.1 ≤ n → f < j → k + f < 200 → mo = nI (k + f) → ki = nI k → TR g (rmD (d + 1)) RX0 cX0_readLevel 7 none 0 0 (Zm g (Q0 T n key M (lo T n (lv T n p jj) (sgL (4 - jj)) f x))) 37 [some (.ref (gad g 0 0)), some (.int (nI (4 - jj))), some (.int (nI dp)), some (.int (nI no)), some (.int mo), some (.int ki), none] [] N := by
  intro j
  induction j with
  | zero => intro f k x N mo ki hR hm hi hfj hkf hmo hki; exact absurd hfj (by omega)
  | succ j ih =>
    intro f k x N mo ki hR hm hi hfj hkf hmo hki
    subst hmo
    subst hki
    obtain ⟨w1, w2, w3⟩ := tk_W T n x.1
    have h96 := G.2.1
    have kT : N 28 0 = T := (hR.1.1 28 0 (by decide) (by decide)).trans G.1
    have hT := hR.1.2
    refine q_iload 39 dX0_readLevel_37 rfl rfl ?_
    refine q_iload 41 dX0_readLevel_39 rfl rfl ?_
    refine q_icmp_ge 89 44 dX0_readLevel_41 rfl rfl (fun h_41 => ?_) (fun h_41 => ?_)
    · skip
      rw [nI_leI (by omega) (by omega)] at h_41
      refine q_vret dX0_readLevel_89 ?_
      refine ⟨rfl, ?_⟩
      first
        | (rw [lo_f h_49]; exact L0.t hR)
        | (rw [show f = 0 by omega]; exact L0.t hR)
    · skip
      rw [nI_leI (by omega) (by omega)] at h_41
      refine q_aload_n 45 dX0_readLevel_44 rfl rfl ?_
      refine q_iload_n 46 dX0_readLevel_45 rfl rfl ?_
      refine q_callVt 49 dX0_readLevel_46 rfl (c0_isSignOf G hR (4 - jj) (by omega)) cw_X0_118 (by decide) rfl rfl (rm_ok (by omega) (by decide)) ⟨Nat.zero_le _, Nat.zero_le _⟩ (Nat.le_of_ble_eq_true rfl) ?_
      refine q_if_eq 89 52 dX0_readLevel_49 rfl rfl (fun h_49 => ?_) (fun h_49 => ?_)
      · skip
        simp only [bI_0, Classical.not_not] at h_49
        refine q_vret dX0_readLevel_89 ?_
        refine ⟨rfl, ?_⟩
        first
          | (rw [lo_f h_49]; exact L0.t hR)
          | (rw [show f = 0 by omega]; exact L0.t hR)
      · skip
        simp only [bI_0, Classical.not_not] at h_49
        obtain ⟨s1, s2⟩ := sgB_t.mp h_49
        have hx : x.1 < n := tk_n (T := T) (by rw [s1]; decide)
        refine q_aload_n 53 dX0_readLevel_52 rfl rfl ?_
        refine q_getT 56 dX0_readLevel_53 rfl fl_X0_15 (by decide) hT ?_
        refine q_aload_n 57 dX0_readLevel_56 rfl rfl ?_
        refine q_getI 60 dX0_readLevel_57 rfl fl_X0_53 (by decide) rfl (by decide) ?_
        refine q_iald 61 dX0_readLevel_60 rfl (by decide) (by decide) hR.2.1.1 (show (tk T n x.1).1 < 96 by omega) ?_
        rw [show N 28 0 (tk T n x.1).1 = ch T n x by rw [kT]; rfl]
        refine q_istore 63 dX0_readLevel_61 rfl (by decide) rfl ?_
        refine q_aload_n 64 dX0_readLevel_63 rfl rfl ?_
        refine q_callV 67 dX0_readLevel_64 rfl (c0_next G hR (by rw [s1]; decide) (by rw [s1]; decide)) cw_X0_43 (by decide) rfl rfl (rm_ok (by omega) (by decide)) ⟨Nat.zero_le _, Nat.zero_le _⟩ (Nat.le_of_ble_eq_true rfl) ?_
        rintro _ N1 ⟨rfl, hR1⟩
        refine q_aload_n 68 dX0_readLevel_67 rfl rfl ?_
        refine q_iload_n 69 dX0_readLevel_68 rfl rfl ?_
        refine q_iconst (v := 1) 70 dX0_readLevel_69 rfl rfl ?_
        refine q_iadd 71 dX0_readLevel_70 rfl ?_
        rw [show nI (4 - jj) + 1 = nI (5 - jj) from (nI_1 _).trans (congrArg nI (by omega))]
        refine q_iload_n 72 dX0_readLevel_71 rfl rfl ?_
        refine q_iload_n 73 dX0_readLevel_72 rfl rfl ?_
        refine q_callV 76 dX0_readLevel_73 rfl (hC (ad x) N1 hR1 (show x.2.1 ≤ x.1 + 1 by omega) (show x.1 + 1 ≤ n from hx)) cw_X0_56 (by decide) rfl rfl (rm_ok (by omega) (by decide)) ⟨Nat.zero_le _, Nat.zero_le _⟩ (Nat.le_of_ble_eq_true rfl) ?_
        rintro _ N2 ⟨rfl, hL⟩
        obtain ⟨f', rfl⟩ : ∃ f', f = f' + 1 := ⟨f - 1, by omega⟩
        by_cases hp : (lv T n p jj (ad x)).1 = true
        · have hmm := hG.m1 hp hm hx
          rw [lo_t h_49 hp]
          exact q_fg (t0_rlG (p := p) G _ _ _ _ _ N2 (hL.1 hp) (by omega) (fun N3 hR3 => q_fg (ih f' (k + 1) _ N3 _ _ hR3 hmm.1 hmm.2.1 (by omega) (by omega) (congrArg nI (by omega)) (nI_1 k)) ⟨rfl, rfl, rfl, rfl, rfl, rfl, trivial⟩)) ⟨rfl, rfl, rfl, rfl, rfl, rfl, rfl, trivial⟩
        · rw [lo_b h_49 hp]
          exact q_fg (t0_rlB (p := p) G h4d _ _ _ _ hp N2 (hL.2 hp)) ⟨rfl, rfl, rfl, rfl, rfl, rfl, rfl, trivial⟩
set_option maxRecDepth 100000 in
set_option maxHeartbeats 4000000 in
theorem t0_rl32 {g : GT} {T : Nat → Int32} {n : Nat} {key : Int32} {M : TM} {dp no d : Nat} {p : PS → Bool × PS} {jj : Nat} (G : G0 T n M) (h4d : 4 ≤ d) (hj5 : jj < 5) (hG : Gp T n key (lv T n p jj)) (hC : CL g T n key M dp no jj d p) (x : PS) (N : TM) (hL : L0 T n key M (lv T n p jj x) N) (hm : x.2.1 ≤ x.1) (hi : x.1 ≤ n) : TR g (rmD (d + 1)) RX0 cX0_readLevel 7 none 0 0 (Zm g (Q0 T n key M (lv T n p (jj + 1) x))) 32 [some (.ref (gad g 0 0)), some (.int (nI (4 - jj))), some (.int (nI dp)), some (.int (nI no)), none, none, none] [.int (nI (fuL (4 - jj)))] N := by
  refine q_istore 34 dX0_readLevel_32 rfl (by decide) rfl ?_
  refine q_iconst (v := 0) 35 dX0_readLevel_34 rfl rfl ?_
  refine q_istore 37 dX0_readLevel_35 rfl (by decide) rfl ?_
  have hfu : fuL (4 - jj) < 200 := by unfold fuL; split <;> decide
  by_cases hp : (lv T n p jj x).1 = true
  · have hmm := hG.m hp hm hi
    rw [lv_t hp]
    exact q_fg (l0_rl G h4d hj5 hG hC (fuL (4 - jj) + 1) (fuL (4 - jj)) 0 _ N _ _ (hL.1 hp) hmm.1 hmm.2.1 (by omega) (by omega) (congrArg nI (by omega)) rfl) ⟨rfl, rfl, rfl, rfl, rfl, rfl, trivial⟩
  · rw [lv_b hp]
    exact q_fg (t0_rlF (p := p) G h4d _ _ _ hp N (hL.2 hp)) ⟨rfl, rfl, rfl, rfl, rfl, rfl, trivial⟩
set_option maxRecDepth 100000 in
set_option maxHeartbeats 4000000 in
theorem w0_lvS {g : GT} {T : Nat → Int32} {n : Nat} {key : Int32} {M : TM} {dp no d : Nat} {p : PS → Bool × PS} {jj : Nat} (G : G0 T n M) (h4d : 4 ≤ d) (hj5 : jj < 5) (hG : Gp T n key (lv T n p jj)) (hC : CL g T n key M dp no jj d p) (x : PS) (N : TM) (hR : R0 T n key M (lc x.2.2 x.2.1) x N) (hm : x.2.1 ≤ x.1) (hi : x.1 ≤ n) : Cn g yX0_readLevel cX0_readLevel 7 none (d + 1) [.ref (gad g 0 0), .int (nI (5 - (jj + 1))), .int (nI dp), .int (nI no)] N (Q0 T n key M (lv T n p (jj + 1) x)) := by
  refine Cn.ofTR (by decide +kernel) (Nat.le_of_ble_eq_true rfl) ?_
  rw [show 5 - (jj + 1) = 4 - jj by omega]
  refine q_iload_n 1 dX0_readLevel_0 rfl rfl ?_
  refine q_iconst (v := 5) 2 dX0_readLevel_1 rfl rfl ?_
  refine q_icmp_lt 12 5 dX0_readLevel_2 rfl rfl (fun _ => ?_) (fun h_2 => absurd ((nI_ltI (b := 5) (by omega) (by decide)).mpr (by omega)) h_2)
  refine q_aload_n 13 dX0_readLevel_12 rfl rfl ?_
  refine q_iload_n 14 dX0_readLevel_13 rfl rfl ?_
  refine q_iconst (v := 1) 15 dX0_readLevel_14 rfl rfl ?_
  refine q_iadd 16 dX0_readLevel_15 rfl ?_
  rw [show nI (4 - jj) + 1 = nI (5 - jj) from (nI_1 _).trans (congrArg nI (by omega))]
  refine q_iload_n 17 dX0_readLevel_16 rfl rfl ?_
  refine q_iload_n 18 dX0_readLevel_17 rfl rfl ?_
  refine q_callV 21 dX0_readLevel_18 rfl (hC x N hR hm hi) cw_X0_56 (by decide) rfl rfl (rm_ok (by omega) (by decide)) ⟨Nat.zero_le _, Nat.zero_le _⟩ (Nat.le_of_ble_eq_true rfl) ?_
  rintro _ N1 ⟨rfl, hL⟩
  refine q_iload_n 22 dX0_readLevel_21 rfl rfl ?_
  refine q_iconst (v := 2) 23 dX0_readLevel_22 rfl rfl ?_
  refine q_icmp_ne 30 26 dX0_readLevel_23 rfl rfl (fun h_23 => ?_) (fun h_23 => ?_)
  · skip
    rw [nI_e2 (by omega)] at h_23
    have e32 : (96 : Int32) = nI (fuL (4 - jj)) := by unfold fuL; rw [if_neg h_23]; rfl
    refine q_bipush (v := 96) 32 dX0_readLevel_30 rfl rfl ?_
    exact q_eqS (congrArg (fun x => [Value.int x]) e32) (q_fg (t0_rl32 G h4d hj5 hG hC x N1 hL hm hi) ⟨rfl, rfl, rfl, rfl, trivial⟩)
  · skip
    rw [nI_e2 (by omega)] at h_23
    have e32 : (1 : Int32) = nI (fuL (4 - jj)) := by unfold fuL; rw [if_pos h_23]; rfl
    refine q_iconst (v := 1) 27 dX0_readLevel_26 rfl rfl ?_
    refine q_goto 32 dX0_readLevel_27 rfl ?_
    exact q_eqS (congrArg (fun x => [Value.int x]) e32) (q_fg (t0_rl32 G h4d hj5 hG hC x N1 hL hm hi) ⟨rfl, rfl, rfl, rfl, trivial⟩)
theorem w0_lv {g : GT} {T : Nat → Int32} {n : Nat} {key : Int32} {M : TM} {dp no d : Nat} {p : PS → Bool × PS} (G : G0 T n M) (h4d : 4 ≤ d) (hG : Gp T n key p) (hC : CP g T n key M dp no d p) : CL g T n key M dp no 5 (d + 6) p := by
  have gg := fun j => lv_G hG j
  have c0 : CL g T n key M dp no 0 (d + 1) p := fun x N a1 a2 a3 => w0_lv0 (jj := 0) G hC x N a1 a2 a3
  have c1 : CL g T n key M dp no 1 (d + 1 + 1) p := fun x N a1 a2 a3 => w0_lvS G (by omega) (by decide) (gg 0) c0 x N a1 a2 a3
  have c2 : CL g T n key M dp no 2 (d + 1 + 1 + 1) p := fun x N a1 a2 a3 => w0_lvS G (by omega) (by decide) (gg 1) c1 x N a1 a2 a3
  have c3 : CL g T n key M dp no 3 (d + 1 + 1 + 1 + 1) p := fun x N a1 a2 a3 => w0_lvS G (by omega) (by decide) (gg 2) c2 x N a1 a2 a3
  have c4 : CL g T n key M dp no 4 (d + 1 + 1 + 1 + 1 + 1) p := fun x N a1 a2 a3 => w0_lvS G (by omega) (by decide) (gg 3) c3 x N a1 a2 a3
  exact fun x N a1 a2 a3 => w0_lvS G (by omega) (by decide) (gg 4) c4 x N a1 a2 a3
set_option maxRecDepth 100000 in
set_option maxHeartbeats 4000000 in
theorem t0_p115G {g : GT} {T : Nat → Int32} {n kk : Nat} {M : TM} {d : Nat} (G : G0 T n M) (h4d : 4 ≤ d) (x : PS) (N : TM) (hR : R0 T n (nI kk) M (lc x.2.2 x.2.1) x N) (hm : x.2.1 ≤ x.1) (hi : x.1 ≤ n) : TR g (rmD (d + 7)) RX0 cX0_readPiece 4 none 0 0 (Zm g (Q0 T n (nI kk) M (if (tk T n x.1).2.2 = 3 ∧ ch T n x = 41 then (true, ad x) else (false, x)))) 115 [some (.ref (gad g 0 0)), none, none, none] [] N := by
  obtain ⟨w1, w2, w3⟩ := tk_W T n x.1
  have h96 := G.2.1
  refine q_aload_n 116 dX0_readPiece_115 rfl rfl ?_
  refine q_bipush (v := 41) 118 dX0_readPiece_116 rfl rfl ?_
  refine q_callVt 121 dX0_readPiece_118 rfl (c0_isSign G hR _) cw_X0_131 (by decide) rfl rfl (rm_ok (by omega) (by decide)) ⟨Nat.zero_le _, Nat.zero_le _⟩ (Nat.le_of_ble_eq_true rfl) ?_
  refine q_if_eq 131 124 dX0_readPiece_121 rfl rfl (fun h_121 => ?_) (fun h_121 => ?_)
  · skip
    simp only [bI_0, Classical.not_not] at h_121
    refine q_aload_n 132 dX0_readPiece_131 rfl rfl ?_
    refine q_callV 135 dX0_readPiece_132 rfl (c0_stop G hR (by omega)) cw_X0_60 (by decide) rfl rfl (rm_ok (by omega) (by decide)) ⟨Nat.zero_le _, Nat.zero_le _⟩ (Nat.le_of_ble_eq_true rfl) ?_
    rintro _ N1 ⟨rfl, h1⟩
    refine q_goto 142 dX0_readPiece_135 rfl ?_
    refine q_vret dX0_readPiece_142 ?_
    first
      | (rw [if_pos h_121]; exact ⟨rfl, L0.t hR1⟩)
      | (rw [if_neg h_121]; exact ⟨rfl, L0.f h1⟩)
  · skip
    simp only [bI_0, Classical.not_not] at h_121
    refine q_aload_n 125 dX0_readPiece_124 rfl rfl ?_
    refine q_callV 128 dX0_readPiece_125 rfl (c0_next G hR (by rw [h_121.1]; decide) (by rw [h_121.1]; decide)) cw_X0_43 (by decide) rfl rfl (rm_ok (by omega) (by decide)) ⟨Nat.zero_le _, Nat.zero_le _⟩ (Nat.le_of_ble_eq_true rfl) ?_
    rintro _ N1 ⟨rfl, hR1⟩
    refine q_goto 142 dX0_readPiece_128 rfl ?_
    refine q_vret dX0_readPiece_142 ?_
    first
      | (rw [if_pos h_121]; exact ⟨rfl, L0.t hR1⟩)
      | (rw [if_neg h_121]; exact ⟨rfl, L0.f h1⟩)
set_option maxRecDepth 100000 in
set_option maxHeartbeats 4000000 in
theorem t0_p115F {g : GT} {T : Nat → Int32} {n kk : Nat} {M : TM} {d : Nat} (h4d : 4 ≤ d) (res : Bool × PS) (hf : ¬ res.1 = true) (N : TM) (h : F0s n M (tk T n res.2.1).1 N) : TR g (rmD (d + 7)) RX0 cX0_readPiece 4 none 0 0 (Zm g (Q0 T n (nI kk) M res)) 115 [some (.ref (gad g 0 0)), none, none, none] [] N := by
  refine q_aload_n 116 dX0_readPiece_115 rfl rfl ?_
  refine q_bipush (v := 41) 118 dX0_readPiece_116 rfl rfl ?_
  refine q_callVt 121 dX0_readPiece_118 rfl (c0_isSignF h _) cw_X0_131 (by decide) rfl rfl (rm_ok (by omega) (by decide)) ⟨Nat.zero_le _, Nat.zero_le _⟩ (Nat.le_of_ble_eq_true rfl) ?_
  refine q_if_eq 131 124 dX0_readPiece_121 rfl rfl (fun _ => ?_) (fun h_121 => absurd rfl h_121)
  refine q_aload_n 132 dX0_readPiece_131 rfl rfl ?_
  refine q_callV 135 dX0_readPiece_132 rfl (c0_stopF h) cw_X0_60 (by decide) rfl rfl (rm_ok (by omega) (by decide)) ⟨Nat.zero_le _, Nat.zero_le _⟩ (Nat.le_of_ble_eq_true rfl) ?_
  rintro _ N1 ⟨rfl, h1⟩
  refine q_goto 142 dX0_readPiece_135 rfl ?_
  refine q_vret dX0_readPiece_142 ?_
  exact ⟨rfl, L0.b hf h1⟩
set_option maxRecDepth 100000 in
set_option maxHeartbeats 4000000 in
theorem t0_p87 {g : GT} {T : Nat → Int32} {n kk : Nat} {M : TM} {dp no d : Nat} {f : Nat → Nat → PS → Bool × PS} (G : G0 T n M) (hkk : kk < 3) (h4d : 4 ≤ d) (hd8 : dp ≤ 8) (hn8 : no ≤ 8) (hGN : Gp T n (nI kk) (f dp (no + 1))) (hGL : Gp T n (nI kk) (lv T n (f (dp + 1) no) 5)) (hN : no < 8 → CP g T n (nI kk) M dp (no + 1) d (f dp (no + 1))) (hL : dp < 8 → CL g T n (nI kk) M (dp + 1) no 5 (d + 6) (f (dp + 1) no)) (x : PS) (N : TM) (hR : R0 T n (nI kk) M (lc x.2.2 x.2.1) x N) (hm : x.2.1 ≤ x.1) (hi : x.1 ≤ n) (h1 : ¬ (tk T n x.1).2.2 = 2) (h2 : ¬ ((tk T n x.1).2.2 = 1 ∧ (tk T n x.1).2.1 - (tk T n x.1).1 = 1 ∧ nmQ (nI kk) (ch T n x) = true)) (h3 : ¬ (((tk T n x.1).2.2 = 3 ∧ ch T n x = 33) ∧ no < 8)) : TR g (rmD (d + 7)) RX0 cX0_readPiece 4 none 0 0 (Zm g (Q0 T n (nI kk) M (paB T n (nI kk) f dp no x))) 87 [some (.ref (gad g 0 0)), some (.int (nI dp)), some (.int (nI no)), none] [] N := by
  obtain ⟨w1, w2, w3⟩ := tk_W T n x.1
  have h96 := G.2.1
  refine q_aload_n 88 dX0_readPiece_87 rfl rfl ?_
  refine q_bipush (v := 40) 90 dX0_readPiece_88 rfl rfl ?_
  refine q_callVt 93 dX0_readPiece_90 rfl (c0_isSign G hR _) cw_X0_131 (by decide) rfl rfl (rm_ok (by omega) (by decide)) ⟨Nat.zero_le _, Nat.zero_le _⟩ (Nat.le_of_ble_eq_true rfl) ?_
  refine q_if_eq 138 96 dX0_readPiece_93 rfl rfl (fun h_93 => ?_) (fun h_93 => ?_)
  · skip
    simp only [bI_0, Classical.not_not] at h_93
    refine q_aload_n 139 dX0_readPiece_138 rfl rfl ?_
    refine q_callV 142 dX0_readPiece_139 rfl (c0_stop G hR (by omega)) cw_X0_60 (by decide) rfl rfl (rm_ok (by omega) (by decide)) ⟨Nat.zero_le _, Nat.zero_le _⟩ (Nat.le_of_ble_eq_true rfl) ?_
    rintro _ N1 ⟨rfl, hF⟩
    refine q_vret dX0_readPiece_142 ?_
    have h4 : ¬ (((tk T n x.1).2.2 = 3 ∧ ch T n x = 40) ∧ dp < 8) := fun z => by
      first | exact h_93 z.1 | (have := z.2; omega)
    unfold paB
    rw [if_neg h1, if_neg h2, if_neg h3, if_neg h4]
    exact ⟨rfl, L0.f hF⟩
  · skip
    simp only [bI_0, Classical.not_not] at h_93
    refine q_iload_n 97 dX0_readPiece_96 rfl rfl ?_
    refine q_bipush (v := 8) 99 dX0_readPiece_97 rfl rfl ?_
    refine q_icmp_ge 138 102 dX0_readPiece_99 rfl rfl (fun h_99 => ?_) (fun h_99 => ?_)
    · skip
      rw [show (8 : Int32) = nI 8 from rfl, nI_leI (by decide) (by omega)] at h_99
      refine q_aload_n 139 dX0_readPiece_138 rfl rfl ?_
      refine q_callV 142 dX0_readPiece_139 rfl (c0_stop G hR (by omega)) cw_X0_60 (by decide) rfl rfl (rm_ok (by omega) (by decide)) ⟨Nat.zero_le _, Nat.zero_le _⟩ (Nat.le_of_ble_eq_true rfl) ?_
      rintro _ N1 ⟨rfl, hF⟩
      refine q_vret dX0_readPiece_142 ?_
      have h4 : ¬ (((tk T n x.1).2.2 = 3 ∧ ch T n x = 40) ∧ dp < 8) := fun z => by
        first | exact h_93 z.1 | (have := z.2; omega)
      unfold paB
      rw [if_neg h1, if_neg h2, if_neg h3, if_neg h4]
      exact ⟨rfl, L0.f hF⟩
    · skip
      rw [show (8 : Int32) = nI 8 from rfl, nI_leI (by decide) (by omega)] at h_99
      have hd : dp < 8 := by omega
      have hx : x.1 < n := tk_n (T := T) (by rw [h_93.1]; decide)
      refine q_aload_n 103 dX0_readPiece_102 rfl rfl ?_
      refine q_callV 106 dX0_readPiece_103 rfl (c0_next G hR (by rw [h_93.1]; decide) (by rw [h_93.1]; decide)) cw_X0_43 (by decide) rfl rfl (rm_ok (by omega) (by decide)) ⟨Nat.zero_le _, Nat.zero_le _⟩ (Nat.le_of_ble_eq_true rfl) ?_
      rintro _ N1 ⟨rfl, hR1⟩
      refine q_aload_n 107 dX0_readPiece_106 rfl rfl ?_
      refine q_iconst (v := 0) 108 dX0_readPiece_107 rfl rfl ?_
      refine q_iload_n 109 dX0_readPiece_108 rfl rfl ?_
      refine q_iconst (v := 1) 110 dX0_readPiece_109 rfl rfl ?_
      refine q_iadd 111 dX0_readPiece_110 rfl ?_
      rw [nI_1 dp]
      refine q_iload_n 112 dX0_readPiece_111 rfl rfl ?_
      refine q_callV 115 dX0_readPiece_112 rfl (hL hd (ad x) N1 hR1 (show x.2.1 ≤ x.1 + 1 by omega) (show x.1 + 1 ≤ n from hx)) cw_X0_56 (by decide) rfl rfl (rm_ok (by omega) (by decide)) ⟨Nat.zero_le _, Nat.zero_le _⟩ (Nat.le_of_ble_eq_true rfl) ?_
      rintro _ N2 ⟨rfl, hL2⟩
      unfold paB
      rw [if_neg h1, if_neg h2, if_neg h3, if_pos ⟨h_93, hd⟩]
      by_cases hp : (lv T n (f (dp + 1) no) 5 (ad x)).1 = true
      · have hmm := hGL.m1 hp hm hx
        rw [if_pos hp]
        exact q_fg (t0_p115G G h4d _ N2 (hL2.1 hp) (by omega) hmm.2.1) ⟨rfl, trivial⟩
      · rw [if_neg hp]
        exact q_fg (t0_p115F h4d _ hp N2 (hL2.2 hp)) ⟨rfl, trivial⟩
set_option maxRecDepth 100000 in
set_option maxHeartbeats 4000000 in
theorem t0_p78G {g : GT} {T : Nat → Int32} {n kk : Nat} {M : TM} {d : Nat} (h4d : 4 ≤ d) (x : PS) (N : TM) (hR : R0 T n (nI kk) M (lc x.2.2 x.2.1) x N) (hm : x.2.1 ≤ 95) : TR g (rmD (d + 7)) RX0 cX0_readPiece 4 none 0 0 (Zm g (Q0 T n (nI kk) M (true, sp x 2 33))) 78 [some (.ref (gad g 0 0)), none, none, none] [] N := by
  refine q_aload_n 79 dX0_readPiece_78 rfl rfl ?_
  refine q_bipush (v := (-33)) 81 dX0_readPiece_79 rfl rfl ?_
  refine q_callV 84 dX0_readPiece_81 rfl (c0_pts hR hm (c := 33) rfl) cw_X0_94 (by decide) rfl rfl (rm_ok (by omega) (by decide)) ⟨Nat.zero_le _, Nat.zero_le _⟩ (Nat.le_of_ble_eq_true rfl) ?_
  rintro _ N1 ⟨rfl, hR1⟩
  refine q_goto 142 dX0_readPiece_84 rfl ?_
  refine q_vret dX0_readPiece_142 ?_
  exact ⟨rfl, L0.t hR1⟩
set_option maxRecDepth 100000 in
set_option maxHeartbeats 4000000 in
theorem t0_p78F {g : GT} {T : Nat → Int32} {n kk : Nat} {M : TM} {d : Nat} (h4d : 4 ≤ d) (res : Bool × PS) (hf : ¬ res.1 = true) (N : TM) (h : F0s n M (tk T n res.2.1).1 N) : TR g (rmD (d + 7)) RX0 cX0_readPiece 4 none 0 0 (Zm g (Q0 T n (nI kk) M res)) 78 [some (.ref (gad g 0 0)), none, none, none] [] N := by
  refine q_aload_n 79 dX0_readPiece_78 rfl rfl ?_
  refine q_bipush (v := (-33)) 81 dX0_readPiece_79 rfl rfl ?_
  refine q_callV 84 dX0_readPiece_81 rfl (c0_putF h _) cw_X0_94 (by decide) rfl rfl (rm_ok (by omega) (by decide)) ⟨Nat.zero_le _, Nat.zero_le _⟩ (Nat.le_of_ble_eq_true rfl) ?_
  rintro _ N1 ⟨rfl, h1⟩
  refine q_goto 142 dX0_readPiece_84 rfl ?_
  refine q_vret dX0_readPiece_142 ?_
  exact ⟨rfl, L0.b hf h1⟩
set_option maxRecDepth 100000 in
set_option maxHeartbeats 4000000 in
theorem t0_p51 {g : GT} {T : Nat → Int32} {n kk : Nat} {M : TM} {dp no d : Nat} {f : Nat → Nat → PS → Bool × PS} (G : G0 T n M) (hkk : kk < 3) (h4d : 4 ≤ d) (hd8 : dp ≤ 8) (hn8 : no ≤ 8) (hGN : Gp T n (nI kk) (f dp (no + 1))) (hGL : Gp T n (nI kk) (lv T n (f (dp + 1) no) 5)) (hN : no < 8 → CP g T n (nI kk) M dp (no + 1) d (f dp (no + 1))) (hL : dp < 8 → CL g T n (nI kk) M (dp + 1) no 5 (d + 6) (f (dp + 1) no)) (x : PS) (N : TM) (hR : R0 T n (nI kk) M (lc x.2.2 x.2.1) x N) (hm : x.2.1 ≤ x.1) (hi : x.1 ≤ n) (h1 : ¬ (tk T n x.1).2.2 = 2) (h2 : ¬ ((tk T n x.1).2.2 = 1 ∧ (tk T n x.1).2.1 - (tk T n x.1).1 = 1 ∧ nmQ (nI kk) (ch T n x) = true)) : TR g (rmD (d + 7)) RX0 cX0_readPiece 4 none 0 0 (Zm g (Q0 T n (nI kk) M (paB T n (nI kk) f dp no x))) 51 [some (.ref (gad g 0 0)), some (.int (nI dp)), some (.int (nI no)), none] [] N := by
  obtain ⟨w1, w2, w3⟩ := tk_W T n x.1
  have h96 := G.2.1
  refine q_aload_n 52 dX0_readPiece_51 rfl rfl ?_
  refine q_bipush (v := 33) 54 dX0_readPiece_52 rfl rfl ?_
  refine q_callVt 57 dX0_readPiece_54 rfl (c0_isSign G hR _) cw_X0_131 (by decide) rfl rfl (rm_ok (by omega) (by decide)) ⟨Nat.zero_le _, Nat.zero_le _⟩ (Nat.le_of_ble_eq_true rfl) ?_
  refine q_if_eq 87 60 dX0_readPiece_57 rfl rfl (fun h_57 => ?_) (fun h_57 => ?_)
  · skip
    simp only [bI_0, Classical.not_not] at h_57
    have h3 : ¬ (((tk T n x.1).2.2 = 3 ∧ ch T n x = 33) ∧ no < 8) := fun z => h_57 z.1
    exact q_fg (t0_p87 G hkk h4d hd8 hn8 hGN hGL hN hL x N hR hm hi h1 h2 h3) ⟨rfl, rfl, rfl, trivial⟩
  · skip
    simp only [bI_0, Classical.not_not] at h_57
    refine q_iload_n 61 dX0_readPiece_60 rfl rfl ?_
    refine q_bipush (v := 8) 63 dX0_readPiece_61 rfl rfl ?_
    refine q_icmp_ge 87 66 dX0_readPiece_63 rfl rfl (fun h_63 => ?_) (fun h_63 => ?_)
    · skip
      rw [show (8 : Int32) = nI 8 from rfl, nI_leI (by decide) (by omega)] at h_63
      have h3 : ¬ (((tk T n x.1).2.2 = 3 ∧ ch T n x = 33) ∧ no < 8) := fun z => by have := z.2; omega
      exact q_fg (t0_p87 G hkk h4d hd8 hn8 hGN hGL hN hL x N hR hm hi h1 h2 h3) ⟨rfl, rfl, rfl, trivial⟩
    · skip
      rw [show (8 : Int32) = nI 8 from rfl, nI_leI (by decide) (by omega)] at h_63
      have hn : no < 8 := by omega
      have hx : x.1 < n := tk_n (T := T) (by rw [h_57.1]; decide)
      refine q_aload_n 67 dX0_readPiece_66 rfl rfl ?_
      refine q_callV 70 dX0_readPiece_67 rfl (c0_next G hR (by rw [h_57.1]; decide) (by rw [h_57.1]; decide)) cw_X0_43 (by decide) rfl rfl (rm_ok (by omega) (by decide)) ⟨Nat.zero_le _, Nat.zero_le _⟩ (Nat.le_of_ble_eq_true rfl) ?_
      rintro _ N1 ⟨rfl, hR1⟩
      refine q_aload_n 71 dX0_readPiece_70 rfl rfl ?_
      refine q_iload_n 72 dX0_readPiece_71 rfl rfl ?_
      refine q_iload_n 73 dX0_readPiece_72 rfl rfl ?_
      refine q_iconst (v := 1) 74 dX0_readPiece_73 rfl rfl ?_
      refine q_iadd 75 dX0_readPiece_74 rfl ?_
      rw [nI_1 no]
      refine q_callV 78 dX0_readPiece_75 rfl (hN hn (ad x) N1 hR1 (show x.2.1 ≤ x.1 + 1 by omega) (show x.1 + 1 ≤ n from hx)) cw_X0_114 (by decide) rfl rfl (rm_ok (by omega) (by decide)) ⟨Nat.zero_le _, Nat.zero_le _⟩ (Nat.le_of_ble_eq_true rfl) ?_
      rintro _ N2 ⟨rfl, hL2⟩
      unfold paB
      rw [if_neg h1, if_neg h2, if_pos ⟨h_57, hn⟩]
      by_cases hp : (f dp (no + 1) (ad x)).1 = true
      · have hmm := hGN.m1 hp hm hx
        rw [if_pos hp]
        exact q_fg (t0_p78G h4d _ N2 (hL2.1 hp) (by omega)) ⟨rfl, trivial⟩
      · rw [if_neg hp]
        exact q_fg (t0_p78F h4d _ hp N2 (hL2.2 hp)) ⟨rfl, trivial⟩
set_option maxRecDepth 100000 in
set_option maxHeartbeats 4000000 in
theorem t0_p37 {g : GT} {T : Nat → Int32} {n kk : Nat} {M : TM} {dp no d : Nat} {f : Nat → Nat → PS → Bool × PS} (G : G0 T n M) (hkk : kk < 3) (h4d : 4 ≤ d) (hd8 : dp ≤ 8) (hn8 : no ≤ 8) (hGN : Gp T n (nI kk) (f dp (no + 1))) (hGL : Gp T n (nI kk) (lv T n (f (dp + 1) no) 5)) (hN : no < 8 → CP g T n (nI kk) M dp (no + 1) d (f dp (no + 1))) (hL : dp < 8 → CL g T n (nI kk) M (dp + 1) no 5 (d + 6) (f (dp + 1) no)) (x : PS) (N : TM) (hR : R0 T n (nI kk) M (lc x.2.2 x.2.1) x N) (hm : x.2.1 ≤ x.1) (hi : x.1 ≤ n) (h1 : ¬ (tk T n x.1).2.2 = 2) : TR g (rmD (d + 7)) RX0 cX0_readPiece 4 none 0 0 (Zm g (Q0 T n (nI kk) M (paB T n (nI kk) f dp no x))) 37 [some (.ref (gad g 0 0)), some (.int (nI dp)), some (.int (nI no)), some (.int (nrF T n kk x))] [] N := by
  obtain ⟨w1, w2, w3⟩ := tk_W T n x.1
  have h96 := G.2.1
  refine q_iload_n 38 dX0_readPiece_37 rfl rfl ?_
  refine q_if_lt 51 41 dX0_readPiece_38 rfl rfl (fun h_38 => ?_) (fun h_38 => ?_)
  · skip
    have h2 : ¬ ((tk T n x.1).2.2 = 1 ∧ (tk T n x.1).2.1 - (tk T n x.1).1 = 1 ∧ nmQ (nI kk) (ch T n x) = true) := fun z => by
      obtain ⟨a, ha, ea⟩ := G.2.2 (tk T n x.1).1 (by have := z.1; omega)
      have ea : ch T n x = nI a := ea
      unfold nrF at h_38
      rw [if_pos ⟨z.1, z.2.1⟩, ea] at h_38
      exact Int32.lt_irrefl (Int32.lt_of_lt_of_le h_38 ((ix_nm a ha kk hkk).1.mpr (by rw [← ea]; exact z.2.2)))
    exact q_fg (t0_p51 G hkk h4d hd8 hn8 hGN hGL hN hL x N hR hm hi h1 h2) ⟨rfl, rfl, rfl, trivial⟩
  · skip
    have h5 : (tk T n x.1).2.2 = 1 ∧ (tk T n x.1).2.1 - (tk T n x.1).1 = 1 := Classical.byContradiction (fun z => by unfold nrF at h_38; rw [if_neg z] at h_38; exact h_38 (by decide))
    obtain ⟨a, ha, ea⟩ := G.2.2 (tk T n x.1).1 (by have := h5.1; omega)
    have ea : ch T n x = nI a := ea
    have en : nrF T n kk x = ixS (3 + kk) (nI a) := by unfold nrF; rw [if_pos h5, ea]
    have hq : nmQ (nI kk) (nI a) = true := (ix_nm a ha kk hkk).1.mp (by rw [← en]; exact Int32.not_lt.mp h_38)
    have hx : x.1 < n := tk_n (T := T) (by rw [h5.1]; decide)
    have ec : -1 - nrF T n kk x = enF (nI kk) 1 (ch T n x) := by unfold enF; rw [if_neg (by decide), if_neg (by decide), en, ea]; exact (ix_nm a ha kk hkk).2 hq
    refine q_aload_n 42 dX0_readPiece_41 rfl rfl ?_
    refine q_iconst (v := (-1)) 43 dX0_readPiece_42 rfl rfl ?_
    refine q_iload_n 44 dX0_readPiece_43 rfl rfl ?_
    refine q_isub 45 dX0_readPiece_44 rfl ?_
    refine q_callV 48 dX0_readPiece_45 rfl (c0_putLeaf G hR (by omega) (by rw [h5.1]; decide) (by rw [h5.1]; decide) 1 (ch T n x) (by decide) _ ec) cw_X0_128 (by decide) rfl rfl (rm_ok (by omega) (by decide)) ⟨Nat.zero_le _, Nat.zero_le _⟩ (Nat.le_of_ble_eq_true rfl) ?_
    rintro _ N1 ⟨rfl, hR1⟩
    refine q_goto 142 dX0_readPiece_48 rfl ?_
    refine q_vret dX0_readPiece_142 ?_
    unfold paB
    rw [if_neg h1, if_pos ⟨h5.1, h5.2, (by rw [ea]; exact hq)⟩]
    exact ⟨rfl, L0.t hR1⟩
set_option maxRecDepth 100000 in
set_option maxHeartbeats 4000000 in
theorem w0_piece {g : GT} {T : Nat → Int32} {n kk : Nat} {M : TM} {dp no d : Nat} {f : Nat → Nat → PS → Bool × PS} (G : G0 T n M) (hkk : kk < 3) (h4d : 4 ≤ d) (hd8 : dp ≤ 8) (hn8 : no ≤ 8) (hGN : Gp T n (nI kk) (f dp (no + 1))) (hGL : Gp T n (nI kk) (lv T n (f (dp + 1) no) 5)) (hN : no < 8 → CP g T n (nI kk) M dp (no + 1) d (f dp (no + 1))) (hL : dp < 8 → CL g T n (nI kk) M (dp + 1) no 5 (d + 6) (f (dp + 1) no)) (x : PS) (N : TM) (hR : R0 T n (nI kk) M (lc x.2.2 x.2.1) x N) (hm : x.2.1 ≤ x.1) (hi : x.1 ≤ n) : Cn g yX0_readPiece cX0_readPiece 4 none (d + 7) [.ref (gad g 0 0), .int (nI dp), .int (nI no)] N (Q0 T n (nI kk) M (paB T n (nI kk) f dp no x)) := by
  refine Cn.ofTR (by decide +kernel) (Nat.le_of_ble_eq_true rfl) ?_
  obtain ⟨w1, w2, w3⟩ := tk_W T n x.1
  have h96 := G.2.1
  refine q_aload_n 1 dX0_readPiece_0 rfl rfl ?_
  refine q_callVt 4 dX0_readPiece_1 rfl (c0_nameRead G hR hkk) cw_X0_122 (by decide) rfl rfl (rm_ok (by omega) (by decide)) ⟨Nat.zero_le _, Nat.zero_le _⟩ (Nat.le_of_ble_eq_true rfl) ?_
  refine q_istore_n 5 dX0_readPiece_4 rfl (by decide) rfl ?_
  refine q_aload_n 6 dX0_readPiece_5 rfl rfl ?_
  refine q_getI 9 dX0_readPiece_6 rfl fl_X0_34 (by decide) rfl (by decide) ?_
  refine q_iconst (v := 2) 10 dX0_readPiece_9 rfl rfl ?_
  refine q_icmp_ne 37 13 dX0_readPiece_10 rfl rfl (fun h_10 => ?_) (fun h_10 => ?_)
  · skip
    have h1 : ¬ (tk T n x.1).2.2 = 2 := fun z => h_10 (hR.so2.mpr z).1
    exact q_fg (t0_p37 G hkk h4d hd8 hn8 hGN hGL hN hL x N hR hm hi h1) ⟨rfl, rfl, rfl, rfl, trivial⟩
  · skip
    have h0 : ¬ (tk T n x.1).2.2 = 0 := fun z => absurd (h_10.symm.trans (hR.so0.mpr z)) (by decide)
    have h8 := hR.2.1.2.1
    rw [if_neg h0] at h8
    refine q_aload_n 14 dX0_readPiece_13 rfl rfl ?_
    refine q_getI 17 dX0_readPiece_14 rfl fl_X0_37 (by decide) rfl (by decide) ?_
    refine q_aload_n 18 dX0_readPiece_17 rfl rfl ?_
    refine q_getI 21 dX0_readPiece_18 rfl fl_X0_53 (by decide) rfl (by decide) ?_
    refine q_isub 22 dX0_readPiece_21 rfl ?_
    refine q_iconst (v := 4) 23 dX0_readPiece_22 rfl rfl ?_
    refine q_icmp_gt 37 26 dX0_readPiece_23 rfl rfl (fun h_23 => ?_) (fun h_23 => ?_)
    · skip
      rw [h8, hR.2.1.1, pk_sub w1, show (4 : Int32) = nI 4 from rfl, nI_ltI (by decide) (by omega)] at h_23
      have h1 : ¬ (tk T n x.1).2.2 = 2 := fun z => by have := (hR.so2.mpr z).2; omega
      exact q_fg (t0_p37 G hkk h4d hd8 hn8 hGN hGL hN hL x N hR hm hi h1) ⟨rfl, rfl, rfl, rfl, trivial⟩
    · skip
      rw [h8, hR.2.1.1, pk_sub w1, show (4 : Int32) = nI 4 from rfl, nI_ltI (by decide) (by omega)] at h_23
      have h2 : (tk T n x.1).2.2 = 2 := hR.so2.mp ⟨h_10, by omega⟩
      have hx : x.1 < n := tk_n (T := T) (by rw [h2]; decide)
      refine q_aload_n 27 dX0_readPiece_26 rfl rfl ?_
      refine q_aload_n 28 dX0_readPiece_27 rfl rfl ?_
      refine q_callVt 31 dX0_readPiece_28 rfl (c0_numberRead G hR h2) cw_X0_125 (by decide) rfl rfl (rm_ok (by omega) (by decide)) ⟨Nat.zero_le _, Nat.zero_le _⟩ (Nat.le_of_ble_eq_true rfl) ?_
      refine q_callV 34 dX0_readPiece_31 rfl (c0_putLeaf G hR (by omega) (by rw [h2]; decide) (by rw [h2]; decide) 0 _ (by decide) _ (by unfold enF; rw [if_neg (by decide), if_pos rfl])) cw_X0_128 (by decide) rfl rfl (rm_ok (by omega) (by decide)) ⟨Nat.zero_le _, Nat.zero_le _⟩ (Nat.le_of_ble_eq_true rfl) ?_
      rintro _ N1 ⟨rfl, hR1⟩
      refine q_goto 142 dX0_readPiece_34 rfl ?_
      refine q_vret dX0_readPiece_142 ?_
      unfold paB
      rw [if_pos h2]
      exact ⟨rfl, L0.t hR1⟩
theorem c0_readPiece {g : GT} {T : Nat → Int32} {n kk : Nat} {M : TM} (G : G0 T n M) (hkk : kk < 3) : ∀ (B dp no : Nat), 17 ≤ B + dp + no → dp ≤ 8 → no ≤ 8 → CP g T n (nI kk) M dp no (7 * B + 5) (pa T n (nI kk) B dp no)
  | 0, dp, no, h, h1, h2 => by omega
  | B + 1, dp, no, h, h1, h2 => fun x N hR hm hi => by
    have hL : dp < 8 → CL g T n (nI kk) M (dp + 1) no 5 (7 * B + 5 + 6) (pa T n (nI kk) B (dp + 1) no) := fun hd => w0_lv G (by omega) (pa_G B (dp + 1) no) (c0_readPiece G hkk B (dp + 1) no (by omega) (by omega) h2)
    exact w0_piece (f := pa T n (nI kk) B) G hkk (by omega) h1 h2 (pa_G B dp (no + 1)) (lv_G (pa_G B (dp + 1) no) 5) (fun hn => c0_readPiece G hkk B dp (no + 1) (by omega) h1 (by omega)) hL x N hR hm hi
theorem c0_readLevel {g : GT} {T : Nat → Int32} {n kk : Nat} {M : TM} (G : G0 T n M) (hkk : kk < 3) : CL g T n (nI kk) M 0 0 5 130 (pa T n (nI kk) 17 0 0) := w0_lv G (by omega) (pa_G 17 0 0) (c0_readPiece G hkk 17 0 0 (by omega) (by omega) (by omega))
