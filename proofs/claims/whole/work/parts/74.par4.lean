/-! THE REFERENCE'S PARSER: a part -/
set_option maxRecDepth 100000 in
set_option maxHeartbeats 4000000 in
theorem t6_p145 {g : GT} {T : Nat → Int32} {n b : Nat} {M : TM} {dp no d : Nat} {key : Int32} {f : Nat → Nat → PS → Bool × PS} (G : G6 T n b M) (h2d : 2 ≤ d) (hd8 : dp ≤ 8) (hn8 : no ≤ 8) (hGN : Gp T n key (f dp (no + 1))) (hGL : Gp T n key (lv T n (f (dp + 1) no) 5)) (hN : no < 8 → C6 g T n b M dp (no + 1) key yX6_part0 cX6_part0 2 d (f dp (no + 1))) (hL : dp < 8 → C6 g T n b M (dp + 1) no key yX6_either cX6_either 2 (d + 5) (lv T n (f (dp + 1) no) 5)) (x : PS) (N : TM) (hR : R6 T n b M dp no (lc x.2.2 x.2.1) x N) (hm : x.2.1 ≤ x.1) (hi : x.1 ≤ n) (h1 : ¬ (tk T n x.1).2.2 = 2) (h2 : ¬ ((tk T n x.1).2.2 = 1 ∧ (tk T n x.1).2.1 - (tk T n x.1).1 = 1 ∧ nmQ key (ch T n x) = true)) (h3 : ¬ (((tk T n x.1).2.2 = 3 ∧ ch T n x = 33) ∧ no < 8)) : TR g (rmD (d + 6)) RX6 cX6_part0 2 (some .boolean) 0 0 (Zm g (Q6 T n b M dp no (paB T n key f dp no x))) 145 [some (.ref (gad g 6 0)), some (.int key)] [] N := by
  obtain ⟨w1, w2, w3⟩ := tk_W T n x.1
  have h96 := G.2.2.1
  refine q_aload_n 146 dX6_part0_145 rfl rfl ?_
  refine q_bipush (v := 40) 148 dX6_part0_146 rfl rfl ?_
  refine q_callVt 151 dX6_part0_148 rfl (c6_isSign _ _) cw_X6_257 (by decide) rfl rfl (rm_ok (by omega) (by decide)) ⟨Nat.zero_le _, Nat.zero_le _⟩ (Nat.le_of_ble_eq_true rfl) ?_
  refine q_if_eq 163 154 dX6_part0_151 rfl rfl (fun h_151 => ?_) (fun h_151 => ?_)
  · skip
    simp only [bI_0, Classical.not_not] at h_151
    rw [sg6 hR 40] at h_151
    refine q_iconst (v := 0) 164 dX6_part0_163 rfl rfl ?_
    refine q_zret dX6_part0_164 rfl ?_
    have h4 : ¬ (((tk T n x.1).2.2 = 3 ∧ ch T n x = 40) ∧ dp < 8) := fun z => by
      first | exact h_151 z.1 | (have := z.2; omega)
    unfold paB
    rw [if_neg h1, if_neg h2, if_neg h3, if_neg h4]
    exact Q6.f hR
  · skip
    simp only [bI_0, Classical.not_not] at h_151
    rw [sg6 hR 40] at h_151
    refine q_aload_n 155 dX6_part0_154 rfl rfl ?_
    refine q_getI 158 dX6_part0_155 rfl fl_X6_288 (by decide) rfl (by decide) ?_
    refine q_bipush (v := 8) 160 dX6_part0_158 rfl rfl ?_
    refine q_icmp_ne 165 163 dX6_part0_160 rfl rfl (fun h_160 => ?_) (fun h_160 => ?_)
    · skip
      rw [hR.2.2.1.1, show (8 : Int32) = nI 8 from rfl, nI_eq (by omega) (by decide)] at h_160
      have hd : dp < 8 := by omega
      have hx : x.1 < n := tk_n (T := T) (by rw [h_151.1]; decide)
      refine q_aload_n 166 dX6_part0_165 rfl rfl ?_
      refine q_dup 167 dX6_part0_166 rfl rfl ?_
      refine q_getI 170 dX6_part0_167 rfl fl_X6_288 (by decide) rfl (by decide) ?_
      refine q_iconst (v := 1) 171 dX6_part0_170 rfl rfl ?_
      refine q_iadd 172 dX6_part0_171 rfl ?_
      refine q_putI 175 dX6_part0_172 rfl fl_X6_288 fp_6_20 (by decide) rfl (by decide) rfl rfl ?_
      refine q_aload_n 176 dX6_part0_175 rfl rfl ?_
      refine q_callV 179 dX6_part0_176 rfl (c6_next G (hR.f20 (dp + 1) (by show N 6 0 20 + 1 = _; rw [hR.2.2.1.1]; exact nI_1 dp))) cw_X6_260 (by decide) rfl rfl (rm_ok (by omega) (by decide)) ⟨Nat.zero_le _, Nat.zero_le _⟩ (Nat.le_of_ble_eq_true rfl) ?_
      rintro _ N1 ⟨rfl, hR1⟩
      refine q_aload_n 180 dX6_part0_179 rfl rfl ?_
      refine q_iload_n 181 dX6_part0_180 rfl rfl ?_
      refine q_callV 184 dX6_part0_181 rfl (hL hd (ad x) N1 hR1 (show x.2.1 ≤ x.1 + 1 by omega) (show x.1 + 1 ≤ n from hx)) cw_X6_291 (by decide) rfl rfl (rm_ok (by omega) (by decide)) ⟨Nat.zero_le _, Nat.zero_le _⟩ (Nat.le_of_ble_eq_true rfl) ?_
      rintro _ N2 ⟨rfl, q1, q2, q3⟩
      refine q_if_eq 196 187 dX6_part0_184 rfl rfl (fun h_184 => ?_) (fun h_184 => ?_)
      · skip
        simp only [bI_0, Classical.not_not] at h_184
        refine q_iconst (v := 0) 197 dX6_part0_196 rfl rfl ?_
        refine q_zret dX6_part0_197 rfl ?_
        unfold paB
        rw [if_neg h1, if_neg h2, if_neg h3, if_pos ⟨h_151, hd⟩]
        first
          | (rw [if_pos h_184, if_neg h_193]; exact Q6.f (q2 h_184))
          | (rw [if_neg h_184]; exact Q6.b (r := some (.int (bI ((lv T n (f (dp + 1) no) 5 (ad x)).1 = true)))) ⟨rfl, q1, q2, q3⟩ h_184)
      · skip
        simp only [bI_0, Classical.not_not] at h_184
        refine q_aload_n 188 dX6_part0_187 rfl rfl ?_
        refine q_bipush (v := 41) 190 dX6_part0_188 rfl rfl ?_
        refine q_callVt 193 dX6_part0_190 rfl (c6_isSign _ _) cw_X6_257 (by decide) rfl rfl (rm_ok (by omega) (by decide)) ⟨Nat.zero_le _, Nat.zero_le _⟩ (Nat.le_of_ble_eq_true rfl) ?_
        refine q_if_ne 198 196 dX6_part0_193 rfl rfl (fun h_193 => ?_) (fun h_193 => ?_)
        · skip
          simp only [bI_0, Classical.not_not] at h_193
          rw [sg6 (q2 h_184) 41] at h_193
          refine q_aload_n 199 dX6_part0_198 rfl rfl ?_
          refine q_dup 200 dX6_part0_199 rfl rfl ?_
          refine q_getI 203 dX6_part0_200 rfl fl_X6_288 (by decide) rfl (by decide) ?_
          refine q_iconst (v := 1) 204 dX6_part0_203 rfl rfl ?_
          refine q_isub 205 dX6_part0_204 rfl ?_
          refine q_putI 208 dX6_part0_205 rfl fl_X6_288 fp_6_20 (by decide) rfl (by decide) rfl rfl ?_
          refine q_aload_n 209 dX6_part0_208 rfl rfl ?_
          refine q_callV 212 dX6_part0_209 rfl (c6_next G ((q2 h_184).f20 dp (by show N2 6 0 20 - 1 = _; rw [(q2 h_184).2.2.1.1]; exact nI_pred dp))) cw_X6_260 (by decide) rfl rfl (rm_ok (by omega) (by decide)) ⟨Nat.zero_le _, Nat.zero_le _⟩ (Nat.le_of_ble_eq_true rfl) ?_
          rintro _ N3 ⟨rfl, hR3⟩
          refine q_iconst (v := 1) 213 dX6_part0_212 rfl rfl ?_
          refine q_zret dX6_part0_213 rfl ?_
          unfold paB
          rw [if_neg h1, if_neg h2, if_neg h3, if_pos ⟨h_151, hd⟩, if_pos h_184, if_pos h_193]
          exact Q6.t hR3
        · skip
          simp only [bI_0, Classical.not_not] at h_193
          rw [sg6 (q2 h_184) 41] at h_193
          refine q_iconst (v := 0) 197 dX6_part0_196 rfl rfl ?_
          refine q_zret dX6_part0_197 rfl ?_
          unfold paB
          rw [if_neg h1, if_neg h2, if_neg h3, if_pos ⟨h_151, hd⟩]
          first
            | (rw [if_pos h_184, if_neg h_193]; exact Q6.f (q2 h_184))
            | (rw [if_neg h_184]; exact Q6.b (r := some (.int (bI ((lv T n (f (dp + 1) no) 5 (ad x)).1 = true)))) ⟨rfl, q1, q2, q3⟩ h_184)
    · skip
      rw [hR.2.2.1.1, show (8 : Int32) = nI 8 from rfl, nI_eq (by omega) (by decide)] at h_160
      refine q_iconst (v := 0) 164 dX6_part0_163 rfl rfl ?_
      refine q_zret dX6_part0_164 rfl ?_
      have h4 : ¬ (((tk T n x.1).2.2 = 3 ∧ ch T n x = 40) ∧ dp < 8) := fun z => by
        first | exact h_151 z.1 | (have := z.2; omega)
      unfold paB
      rw [if_neg h1, if_neg h2, if_neg h3, if_neg h4]
      exact Q6.f hR
set_option maxRecDepth 100000 in
set_option maxHeartbeats 4000000 in
theorem t6_p84 {g : GT} {T : Nat → Int32} {n b : Nat} {M : TM} {dp no d : Nat} {key : Int32} {f : Nat → Nat → PS → Bool × PS} (G : G6 T n b M) (h2d : 2 ≤ d) (hd8 : dp ≤ 8) (hn8 : no ≤ 8) (hGN : Gp T n key (f dp (no + 1))) (hGL : Gp T n key (lv T n (f (dp + 1) no) 5)) (hN : no < 8 → C6 g T n b M dp (no + 1) key yX6_part0 cX6_part0 2 d (f dp (no + 1))) (hL : dp < 8 → C6 g T n b M (dp + 1) no key yX6_either cX6_either 2 (d + 5) (lv T n (f (dp + 1) no) 5)) (x : PS) (N : TM) (hR : R6 T n b M dp no (lc x.2.2 x.2.1) x N) (hm : x.2.1 ≤ x.1) (hi : x.1 ≤ n) (h1 : ¬ (tk T n x.1).2.2 = 2) (h2 : ¬ ((tk T n x.1).2.2 = 1 ∧ (tk T n x.1).2.1 - (tk T n x.1).1 = 1 ∧ nmQ key (ch T n x) = true)) : TR g (rmD (d + 6)) RX6 cX6_part0 2 (some .boolean) 0 0 (Zm g (Q6 T n b M dp no (paB T n key f dp no x))) 84 [some (.ref (gad g 6 0)), some (.int key)] [] N := by
  obtain ⟨w1, w2, w3⟩ := tk_W T n x.1
  have h96 := G.2.2.1
  refine q_aload_n 85 dX6_part0_84 rfl rfl ?_
  refine q_bipush (v := 33) 87 dX6_part0_85 rfl rfl ?_
  refine q_callVt 90 dX6_part0_87 rfl (c6_isSign _ _) cw_X6_257 (by decide) rfl rfl (rm_ok (by omega) (by decide)) ⟨Nat.zero_le _, Nat.zero_le _⟩ (Nat.le_of_ble_eq_true rfl) ?_
  refine q_if_eq 145 93 dX6_part0_90 rfl rfl (fun h_90 => ?_) (fun h_90 => ?_)
  · skip
    simp only [bI_0, Classical.not_not] at h_90
    rw [sg6 hR 33] at h_90
    have h3 : ¬ (((tk T n x.1).2.2 = 3 ∧ ch T n x = 33) ∧ no < 8) := fun z => h_90 z.1
    exact q_fg (t6_p145 G h2d hd8 hn8 hGN hGL hN hL x N hR hm hi h1 h2 h3) ⟨rfl, rfl, trivial⟩
  · skip
    simp only [bI_0, Classical.not_not] at h_90
    rw [sg6 hR 33] at h_90
    refine q_aload_n 94 dX6_part0_93 rfl rfl ?_
    refine q_getI 97 dX6_part0_94 rfl fl_X6_285 (by decide) rfl (by decide) ?_
    refine q_bipush (v := 8) 99 dX6_part0_97 rfl rfl ?_
    refine q_icmp_ge 145 102 dX6_part0_99 rfl rfl (fun h_99 => ?_) (fun h_99 => ?_)
    · skip
      rw [hR.2.2.1.2.1, show (8 : Int32) = nI 8 from rfl, nI_leI (by decide) (by omega)] at h_99
      have h3 : ¬ (((tk T n x.1).2.2 = 3 ∧ ch T n x = 33) ∧ no < 8) := fun z => by have := z.2; omega
      exact q_fg (t6_p145 G h2d hd8 hn8 hGN hGL hN hL x N hR hm hi h1 h2 h3) ⟨rfl, rfl, trivial⟩
    · skip
      rw [hR.2.2.1.2.1, show (8 : Int32) = nI 8 from rfl, nI_leI (by decide) (by omega)] at h_99
      have hn : no < 8 := by omega
      have hx : x.1 < n := tk_n (T := T) (by rw [h_90.1]; decide)
      refine q_aload_n 103 dX6_part0_102 rfl rfl ?_
      refine q_dup 104 dX6_part0_103 rfl rfl ?_
      refine q_getI 107 dX6_part0_104 rfl fl_X6_285 (by decide) rfl (by decide) ?_
      refine q_iconst (v := 1) 108 dX6_part0_107 rfl rfl ?_
      refine q_iadd 109 dX6_part0_108 rfl ?_
      refine q_putI 112 dX6_part0_109 rfl fl_X6_285 fp_6_21 (by decide) rfl (by decide) rfl rfl ?_
      refine q_aload_n 113 dX6_part0_112 rfl rfl ?_
      refine q_callV 116 dX6_part0_113 rfl (c6_next G (hR.f21 (no + 1) (by show N 6 0 21 + 1 = _; rw [hR.2.2.1.2.1]; exact nI_1 no))) cw_X6_260 (by decide) rfl rfl (rm_ok (by omega) (by decide)) ⟨Nat.zero_le _, Nat.zero_le _⟩ (Nat.le_of_ble_eq_true rfl) ?_
      rintro _ N1 ⟨rfl, hR1⟩
      refine q_aload_n 117 dX6_part0_116 rfl rfl ?_
      refine q_iload_n 118 dX6_part0_117 rfl rfl ?_
      refine q_callV 121 dX6_part0_118 rfl (hN hn (ad x) N1 hR1 (show x.2.1 ≤ x.1 + 1 by omega) (show x.1 + 1 ≤ n from hx)) cw_X6_276 (by decide) rfl rfl (rm_ok (by omega) (by decide)) ⟨Nat.zero_le _, Nat.zero_le _⟩ (Nat.le_of_ble_eq_true rfl) ?_
      rintro _ N2 ⟨rfl, q1, q2, q3⟩
      refine q_if_ne 126 124 dX6_part0_121 rfl rfl (fun h_121 => ?_) (fun h_121 => ?_)
      · skip
        simp only [bI_0, Classical.not_not] at h_121
        have hmm := hGN.m1 h_121 hm hx
        refine q_aload_n 127 dX6_part0_126 rfl rfl ?_
        refine q_dup 128 dX6_part0_127 rfl rfl ?_
        refine q_getI 131 dX6_part0_128 rfl fl_X6_285 (by decide) rfl (by decide) ?_
        refine q_iconst (v := 1) 132 dX6_part0_131 rfl rfl ?_
        refine q_isub 133 dX6_part0_132 rfl ?_
        refine q_putI 136 dX6_part0_133 rfl fl_X6_285 fp_6_21 (by decide) rfl (by decide) rfl rfl ?_
        refine q_aload_n 137 dX6_part0_136 rfl rfl ?_
        refine q_iconst (v := 2) 138 dX6_part0_137 rfl rfl ?_
        refine q_bipush (v := 33) 140 dX6_part0_138 rfl rfl ?_
        refine q_callV 143 dX6_part0_140 rfl (c6_stp G ((q2 h_121).f21 no (by show N2 6 0 21 - 1 = _; rw [(q2 h_121).2.2.1.2.1]; exact nI_pred no)) (by omega) _) cw_X6_263 (by decide) rfl rfl (rm_ok (by omega) (by decide)) ⟨Nat.zero_le _, Nat.zero_le _⟩ (Nat.le_of_ble_eq_true rfl) ?_
        rintro _ N3 ⟨rfl, hR3⟩
        refine q_iconst (v := 1) 144 dX6_part0_143 rfl rfl ?_
        refine q_zret dX6_part0_144 rfl ?_
        unfold paB
        rw [if_neg h1, if_neg h2, if_pos ⟨h_90, hn⟩, if_pos h_121]
        exact Q6.t hR3
      · skip
        simp only [bI_0, Classical.not_not] at h_121
        refine q_iconst (v := 0) 125 dX6_part0_124 rfl rfl ?_
        refine q_zret dX6_part0_125 rfl ?_
        unfold paB
        rw [if_neg h1, if_neg h2, if_pos ⟨h_90, hn⟩, if_neg h_121]
        exact Q6.b (r := some (.int (bI ((f dp (no + 1) (ad x)).1 = true)))) ⟨rfl, q1, q2, q3⟩ h_121
set_option maxRecDepth 100000 in
set_option maxHeartbeats 4000000 in
theorem w6_part0 {g : GT} {T : Nat → Int32} {n b : Nat} {M : TM} {dp no d : Nat} {key : Int32} {f : Nat → Nat → PS → Bool × PS} (G : G6 T n b M) (h2d : 2 ≤ d) (hd8 : dp ≤ 8) (hn8 : no ≤ 8) (hGN : Gp T n key (f dp (no + 1))) (hGL : Gp T n key (lv T n (f (dp + 1) no) 5)) (hN : no < 8 → C6 g T n b M dp (no + 1) key yX6_part0 cX6_part0 2 d (f dp (no + 1))) (hL : dp < 8 → C6 g T n b M (dp + 1) no key yX6_either cX6_either 2 (d + 5) (lv T n (f (dp + 1) no) 5)) (x : PS) (N : TM) (hR : R6 T n b M dp no (lc x.2.2 x.2.1) x N) (hm : x.2.1 ≤ x.1) (hi : x.1 ≤ n) : Cn g yX6_part0 cX6_part0 2 (some .boolean) (d + 6) [.ref (gad g 6 0), .int key] N (Q6 T n b M dp no (paB T n key f dp no x)) := by
  refine Cn.ofTR (by decide +kernel) (Nat.le_of_ble_eq_true rfl) ?_
  obtain ⟨w1, w2, w3⟩ := tk_W T n x.1
  have h96 := G.2.2.1
  have hb := G.2.2.2
  refine q_aload_n 1 dX6_part0_0 rfl rfl ?_
  refine q_getI 4 dX6_part0_1 rfl fl_X6_226 (by decide) rfl (by decide) ?_
  refine q_iconst (v := 2) 5 dX6_part0_4 rfl rfl ?_
  refine q_icmp_ne 33 8 dX6_part0_5 rfl rfl (fun h_5 => ?_) (fun h_5 => ?_)
  · skip
    rw [hR.2.1.2.2.1, nI_e2 (by omega)] at h_5
    refine q_aload_n 34 dX6_part0_33 rfl rfl ?_
    refine q_getI 37 dX6_part0_34 rfl fl_X6_226 (by decide) rfl (by decide) ?_
    refine q_iconst (v := 1) 38 dX6_part0_37 rfl rfl ?_
    refine q_icmp_ne 84 41 dX6_part0_38 rfl rfl (fun h_38 => ?_) (fun h_38 => ?_)
    · skip
      rw [hR.2.1.2.2.1, nI_e1 (by omega)] at h_38
      have h2 : ¬ ((tk T n x.1).2.2 = 1 ∧ (tk T n x.1).2.1 - (tk T n x.1).1 = 1 ∧ nmQ key (ch T n x) = true) := fun z => h_38 z.1
      exact q_fg (t6_p84 G h2d hd8 hn8 hGN hGL hN hL x N hR hm hi h_5 h2) ⟨rfl, rfl, trivial⟩
    · skip
      rw [hR.2.1.2.2.1, nI_e1 (by omega)] at h_38
      have e19 := hR.2.1.2.2.2.1 h_38
      have hx : x.1 < n := tk_n (T := T) (by rw [h_38]; decide)
      have hm95 : x.2.1 ≤ 95 := by omega
      have hl : isLt (ch T n x) := by
        rw [h_38] at w3
        rcases w3 with ⟨q, -⟩ | ⟨-, -, q⟩ | ⟨q, -⟩ | ⟨q, -⟩ | ⟨q, -⟩ <;> first | exact absurd q (by decide) | exact q
      refine q_aload_n 42 dX6_part0_41 rfl rfl ?_
      refine q_getI 45 dX6_part0_42 rfl fl_X6_235 (by decide) rfl (by decide) ?_
      refine q_if_eq 84 48 dX6_part0_45 rfl rfl (fun h_45 => ?_) (fun h_45 => ?_)
      · skip
        have h2 : ¬ ((tk T n x.1).2.2 = 1 ∧ (tk T n x.1).2.1 - (tk T n x.1).1 = 1 ∧ nmQ key (ch T n x) = true) := fun z => by
          rw [if_pos z.2.1] at e19
          have e0 : ch T n x = 0 := e19.symm.trans h_45
          rw [e0] at hl
          exact absurd hl.1 (by decide)
        exact q_fg (t6_p84 G h2d hd8 hn8 hGN hGL hN hL x N hR hm hi h_5 h2) ⟨rfl, rfl, trivial⟩
      · skip
        have h11 : (tk T n x.1).2.1 - (tk T n x.1).1 = 1 := Classical.byContradiction (fun z => by rw [if_neg z] at e19; exact h_45 e19)
        rw [if_pos h11] at e19
        have e19 : N 6 0 19 = ch T n x := e19
        refine q_iload_n 49 dX6_part0_48 rfl rfl ?_
        refine q_aload_n 50 dX6_part0_49 rfl rfl ?_
        refine q_getI 53 dX6_part0_50 rfl fl_X6_235 (by decide) rfl (by decide) ?_
        refine q_callSt 56 dX6_part0_53 rfl (c6_isName _ _ _) cw_X6_282 rfl rfl (rm_ok (by omega) (by decide)) ⟨Nat.zero_le _, Nat.zero_le _⟩ (Nat.le_of_ble_eq_true rfl) ?_
        refine q_if_eq 84 59 dX6_part0_56 rfl rfl (fun h_56 => ?_) (fun h_56 => ?_)
        · skip
          simp only [bI_0, Classical.not_not] at h_56
          rw [e19] at h_56
          have h2 : ¬ ((tk T n x.1).2.2 = 1 ∧ (tk T n x.1).2.1 - (tk T n x.1).1 = 1 ∧ nmQ key (ch T n x) = true) := fun z => h_56 z.2.2
          exact q_fg (t6_p84 G h2d hd8 hn8 hGN hGL hN hL x N hR hm hi h_5 h2) ⟨rfl, rfl, trivial⟩
        · skip
          simp only [bI_0, Classical.not_not] at h_56
          rw [e19] at h_56
          refine q_aload_n 60 dX6_part0_59 rfl rfl ?_
          refine q_iconst (v := 1) 61 dX6_part0_60 rfl rfl ?_
          refine q_aload_n 62 dX6_part0_61 rfl rfl ?_
          refine q_getI 65 dX6_part0_62 rfl fl_X6_235 (by decide) rfl (by decide) ?_
          refine q_callVv 68 dX6_part0_65 rfl (c6_step N 1 _ b x.2.1 hR.2.2.1.2.2.2.1 hR.2.2.1.2.2.1 (by omega)) cw_X6_263 (by decide) rfl rfl (rm_ok (by omega) (by decide)) ⟨Nat.zero_le _, Nat.zero_le _⟩ (Nat.le_of_ble_eq_true rfl) ?_
          refine q_aload_n 69 dX6_part0_68 rfl rfl ?_
          refine q_dup 70 dX6_part0_69 rfl rfl ?_
          refine q_getI 73 dX6_part0_70 rfl fl_X6_279 (by decide) rfl (by decide) ?_
          refine q_iconst (v := 1) 74 dX6_part0_73 rfl rfl ?_
          refine q_iadd 75 dX6_part0_74 rfl ?_
          refine q_putI 78 dX6_part0_75 rfl fl_X6_279 fp_6_24 (by decide) rfl (by decide) rfl rfl ?_
          refine q_aload_n 79 dX6_part0_78 rfl rfl ?_
          refine q_callV 82 dX6_part0_79 rfl (c6_next G ((hR.st hm95 1 _).f24)) cw_X6_260 (by decide) rfl rfl (rm_ok (by omega) (by decide)) ⟨Nat.zero_le _, Nat.zero_le _⟩ (Nat.le_of_ble_eq_true rfl) ?_
          rintro _ N1 ⟨rfl, hR1⟩
          rw [e19] at hR1
          refine q_iconst (v := 1) 83 dX6_part0_82 rfl rfl ?_
          refine q_zret dX6_part0_83 rfl ?_
          unfold paB
          rw [if_neg h_5, if_pos ⟨h_38, h11, h_56⟩]
          exact Q6.t (hR1.leaf (by decide))
  · skip
    rw [hR.2.1.2.2.1, nI_e2 (by omega)] at h_5
    have hx : x.1 < n := tk_n (T := T) (by rw [h_5]; decide)
    have hm95 : x.2.1 ≤ 95 := by omega
    have e18 : N 6 0 18 = nuF T (tk T n x.1).1 ((tk T n x.1).2.1 - (tk T n x.1).1) := hR.2.1.2.2.2.2.2 h_5
    refine q_aload_n 9 dX6_part0_8 rfl rfl ?_
    refine q_iconst (v := 0) 10 dX6_part0_9 rfl rfl ?_
    refine q_aload_n 11 dX6_part0_10 rfl rfl ?_
    refine q_getI 14 dX6_part0_11 rfl fl_X6_241 (by decide) rfl (by decide) ?_
    refine q_callVv 17 dX6_part0_14 rfl (c6_step N 0 _ b x.2.1 hR.2.2.1.2.2.2.1 hR.2.2.1.2.2.1 (by omega)) cw_X6_263 (by decide) rfl rfl (rm_ok (by omega) (by decide)) ⟨Nat.zero_le _, Nat.zero_le _⟩ (Nat.le_of_ble_eq_true rfl) ?_
    refine q_aload_n 18 dX6_part0_17 rfl rfl ?_
    refine q_dup 19 dX6_part0_18 rfl rfl ?_
    refine q_getI 22 dX6_part0_19 rfl fl_X6_279 (by decide) rfl (by decide) ?_
    refine q_iconst (v := 1) 23 dX6_part0_22 rfl rfl ?_
    refine q_iadd 24 dX6_part0_23 rfl ?_
    refine q_putI 27 dX6_part0_24 rfl fl_X6_279 fp_6_24 (by decide) rfl (by decide) rfl rfl ?_
    refine q_aload_n 28 dX6_part0_27 rfl rfl ?_
    refine q_callV 31 dX6_part0_28 rfl (c6_next G ((hR.st hm95 0 _).f24)) cw_X6_260 (by decide) rfl rfl (rm_ok (by omega) (by decide)) ⟨Nat.zero_le _, Nat.zero_le _⟩ (Nat.le_of_ble_eq_true rfl) ?_
    rintro _ N1 ⟨rfl, hR1⟩
    rw [e18] at hR1
    refine q_iconst (v := 1) 32 dX6_part0_31 rfl rfl ?_
    refine q_zret dX6_part0_32 rfl ?_
    unfold paB
    rw [if_pos h_5]
    exact Q6.t (hR1.leaf (by decide))
theorem c6_part0 {g : GT} {T : Nat → Int32} {n b : Nat} {M : TM} {key : Int32} (G : G6 T n b M) : ∀ (B dp no : Nat), 17 ≤ B + dp + no → dp ≤ 8 → no ≤ 8 → C6 g T n b M dp no key yX6_part0 cX6_part0 2 (6 * B + 3) (pa T n key B dp no)
  | 0, dp, no, h, h1, h2 => by omega
  | B + 1, dp, no, h, h1, h2 => fun x N hR hm hi => by
    have hL : dp < 8 → C6 g T n b M (dp + 1) no key yX6_either cX6_either 2 (6 * B + 3 + 5) (lv T n (pa T n key B (dp + 1) no) 5) := fun hd => by
      have c0 := c6_part0 (g := g) (key := key) G B (dp + 1) no (by omega) (by omega) h2
      have gg := fun j => lv_G (pa_G (T := T) (n := n) (key := key) B (dp + 1) no) j
      have c1 : C6 g T n b M (dp + 1) no key yX6_term cX6_term 3 (6 * B + 3 + 1) (lv T n (pa T n key B (dp + 1) no) 1) := fun x N a1 a2 a3 => w6_term G (by omega) (gg 0) c0 x N a1 a2 a3
      have c2 : C6 g T n b M (dp + 1) no key yX6_sum cX6_sum 3 (6 * B + 3 + 1 + 1) (lv T n (pa T n key B (dp + 1) no) 2) := fun x N a1 a2 a3 => w6_sum G (by omega) (gg 1) c1 x N a1 a2 a3
      have c3 : C6 g T n b M (dp + 1) no key yX6_test cX6_test 3 (6 * B + 3 + 1 + 1 + 1) (lv T n (pa T n key B (dp + 1) no) 3) := fun x N a1 a2 a3 => w6_test G (by omega) (gg 2) c2 x N a1 a2 a3
      have c4 : C6 g T n b M (dp + 1) no key yX6_both cX6_both 2 (6 * B + 3 + 1 + 1 + 1 + 1) (lv T n (pa T n key B (dp + 1) no) 4) := fun x N a1 a2 a3 => w6_both G (by omega) (gg 3) c3 x N a1 a2 a3
      exact fun x N a1 a2 a3 => w6_either G (by omega) (gg 4) c4 x N a1 a2 a3
    exact w6_part0 (f := pa T n key B) G (by omega) h1 h2 (pa_G B dp (no + 1)) (lv_G (pa_G B (dp + 1) no) 5) (fun hn => c6_part0 G B dp (no + 1) (by omega) h1 (by omega)) hL x N hR hm hi
theorem c6_either {g : GT} {T : Nat → Int32} {n b : Nat} {M : TM} {key : Int32} (G : G6 T n b M) : C6 g T n b M 0 0 key yX6_either cX6_either 2 110 (lv T n (pa T n key 17 0 0) 5) := by
  have c0 := c6_part0 (g := g) (key := key) G 17 0 0 (by omega) (by omega) (by omega)
  have gg := fun j => lv_G (pa_G (T := T) (n := n) (key := key) 17 0 0) j
  have c1 : C6 g T n b M 0 0 key yX6_term cX6_term 3 106 (lv T n (pa T n key 17 0 0) 1) := fun x N a1 a2 a3 => w6_term G (by omega) (gg 0) c0 x N a1 a2 a3
  have c2 : C6 g T n b M 0 0 key yX6_sum cX6_sum 3 107 (lv T n (pa T n key 17 0 0) 2) := fun x N a1 a2 a3 => w6_sum G (by omega) (gg 1) c1 x N a1 a2 a3
  have c3 : C6 g T n b M 0 0 key yX6_test cX6_test 3 108 (lv T n (pa T n key 17 0 0) 3) := fun x N a1 a2 a3 => w6_test G (by omega) (gg 2) c2 x N a1 a2 a3
  have c4 : C6 g T n b M 0 0 key yX6_both cX6_both 2 109 (lv T n (pa T n key 17 0 0) 4) := fun x N a1 a2 a3 => w6_both G (by omega) (gg 3) c3 x N a1 a2 a3
  exact fun x N a1 a2 a3 => w6_either G (by omega) (gg 4) c4 x N a1 a2 a3
