/-! THE REFERENCE'S PARSER: the relation between its cells and the pure state -/
theorem rm_ok {a D nL : Nat} (h : a + 1 ≤ D) (hn : nL ≤ 21) : a + 1 ≤ (rmD D).frames ∧ 8 + (nL + 11) + 40 * a ≤ (rmD D).locals := ⟨h, by show _ ≤ 40 * D; omega⟩
def K6 (b : Nat) (M N : TM) : Prop := (∀ t k, ¬ (t = 6 ∧ k = 0) → ¬ (t = 31 ∧ k = 0) → N t k = M t k) ∧ (∀ j, (j < 15 ∨ 24 < j) → N 6 0 j = M 6 0 j) ∧ ∀ i, (i < b ∨ b + 192 ≤ i) → N 31 0 i = M 31 0 i
def G6 (T : Nat → Int32) (n b : Nat) (M : TM) : Prop := M 43 0 = T ∧ M 6 0 14 = nI n ∧ n ≤ 96 ∧ b + 192 ≤ 3071
def R6 (T : Nat → Int32) (n b : Nat) (M : TM) (dp no l : Nat) (x : PS) (N : TM) : Prop := K6 b M N ∧ TK6 T (tk T n x.1) N ∧ (N 6 0 20 = nI dp ∧ N 6 0 21 = nI no ∧ N 6 0 22 = nI x.2.1 ∧ N 6 0 23 = nI b ∧ N 6 0 24 = nI l) ∧ ∀ j, j < 2 * x.2.1 → N 31 0 (b + j) = x.2.2 j
theorem K6.kf {b : Nat} {M N N' : TM} (h : K6 b M N) (k : KF N N') : K6 b M N' :=
  ⟨fun t q h1 h2 => (k.1 t q h1).trans (h.1 t q h1 h2), fun j hj => (k.2 j (by omega)).trans (h.2.1 j hj), fun i hi => (congrArg (fun f => f i) (k.1 31 0 (by decide))).trans (h.2.2 i hi)⟩
theorem K6.fm {b : Nat} {M N : TM} (h : K6 b M N) {j : Nat} (v : Int32) (h1 : 15 ≤ j) (h2 : j ≤ 24) : K6 b M (putA N 6 0 (upd (N 6 0) j v)) :=
  ⟨fun t k q1 q2 => (putA_n _ _ _ _ q1).trans (h.1 t k q1 q2), fun i hi => by rw [putA_s, upd_n (by omega)]; exact h.2.1 i hi, h.2.2⟩
theorem R6.adv {T : Nat → Int32} {n b : Nat} {M N N' : TM} {dp no l : Nat} {x : PS} (h : R6 T n b M dp no l x N) (k : KF N N') (ht : TK6 T (tk T n (x.1 + 1)) N') : R6 T n b M dp no l (ad x) N' := by
  obtain ⟨h1, h2, ⟨h20, h21, h22, h23, h24⟩, h4⟩ := h
  exact ⟨h1.kf k, ht, ⟨(k.2 20 (by decide)).trans h20, (k.2 21 (by decide)).trans h21, (k.2 22 (by decide)).trans h22, (k.2 23 (by decide)).trans h23, (k.2 24 (by decide)).trans h24⟩, fun j hj => (congrArg (fun f => f (b + j)) (k.1 31 0 (by decide))).trans (h4 j hj)⟩
theorem R6.st {T : Nat → Int32} {n b : Nat} {M N : TM} {dp no l : Nat} {x : PS} (h : R6 T n b M dp no l x N) (hm : x.2.1 ≤ 95) (w v : Int32) : R6 T n b M dp no l (sp x w v) (stM N b x.2.1 w v) := by
  obtain ⟨h1, h2, ⟨h20, h21, h22, h23, h24⟩, h4⟩ := h
  refine ⟨⟨fun t k q1 q2 => ?_, fun j hj => ?_, fun i hi => ?_⟩, h2, ⟨h20, h21, rfl, h23, h24⟩, fun j hj => ?_⟩
  · unfold stM
    rw [putA_n _ _ _ _ q1, putA_n _ _ _ _ q2]; exact h1.1 t k q1 q2
  · unfold stM
    rw [putA_s, upd_n (by omega)]; exact h1.2.1 j hj
  · show upd (upd (N 31 0) (b + 2 * x.2.1) w) (b + 2 * x.2.1 + 1) v i = _
    rw [upd_n (by omega), upd_n (by omega)]; exact h1.2.2 i hi
  · show upd (upd (N 31 0) (b + 2 * x.2.1) w) (b + 2 * x.2.1 + 1) v (b + j) = _
    have hj : j < 2 * (x.2.1 + 1) := hj
    by_cases e1 : j = 2 * x.2.1
    · subst e1; rw [sp_w, upd_n (by omega), upd_s]
    · by_cases e2 : j = 2 * x.2.1 + 1
      · subst e2; rw [sp_v, ← Nat.add_assoc, upd_s]
      · rw [sp_lo x w v (by omega), upd_n (by omega), upd_n (by omega)]; exact h4 j (by omega)
theorem R6.f20 {T : Nat → Int32} {n b : Nat} {M N : TM} {dp no l : Nat} {x : PS} (h : R6 T n b M dp no l x N) {v : Int32} (dp' : Nat) (hv : v = nI dp') : R6 T n b M dp' no l x (putA N 6 0 (upd (N 6 0) 20 v)) :=
  ⟨h.1.fm _ (by decide) (by decide), h.2.1, ⟨hv, h.2.2.1.2⟩, h.2.2.2⟩
theorem R6.f21 {T : Nat → Int32} {n b : Nat} {M N : TM} {dp no l : Nat} {x : PS} (h : R6 T n b M dp no l x N) {v : Int32} (no' : Nat) (hv : v = nI no') : R6 T n b M dp no' l x (putA N 6 0 (upd (N 6 0) 21 v)) :=
  ⟨h.1.fm _ (by decide) (by decide), h.2.1, ⟨h.2.2.1.1, hv, h.2.2.1.2.2⟩, h.2.2.2⟩
theorem R6.f24 {T : Nat → Int32} {n b : Nat} {M N : TM} {dp no l : Nat} {x : PS} (h : R6 T n b M dp no l x N) : R6 T n b M dp no (l + 1) x (putA N 6 0 (upd (N 6 0) 24 (N 6 0 24 + 1))) :=
  ⟨h.1.fm _ (by decide) (by decide), h.2.1, ⟨h.2.2.1.1, h.2.2.1.2.1, h.2.2.1.2.2.1, h.2.2.1.2.2.2.1, (congrArg (· + 1) h.2.2.1.2.2.2.2).trans (nI_1 l)⟩, h.2.2.2⟩
theorem R6.leaf {T : Nat → Int32} {n b : Nat} {M N : TM} {dp no : Nat} {x : PS} {w v : Int32} (h : R6 T n b M dp no (lc x.2.2 x.2.1 + 1) (ad (sp x w v)) N) (hw : w ≠ 2) : R6 T n b M dp no (lc (ad (sp x w v)).2.2 (ad (sp x w v)).2.1) (ad (sp x w v)) N := by
  rw [show lc (ad (sp x w v)).2.2 (ad (sp x w v)).2.1 = lc x.2.2 x.2.1 + 1 from lc_l x v hw]; exact h
theorem c6_next {g : GT} {T : Nat → Int32} {n b : Nat} {M N : TM} {dp no l : Nat} {x : PS} (G : G6 T n b M) (h : R6 T n b M dp no l x N) : Cn g yX6_nextToken cX6_nextToken 3 none 2 [.ref (gad g 6 0)] N (fun r N' => r = none ∧ R6 T n b M dp no l (ad x) N') := by
  obtain ⟨w1, w2, w3⟩ := tk_W T n x.1
  refine Cn.mono (c6_nextToken N T n ((h.1.1 43 0 (by decide) (by decide)).trans G.1) ((h.1.2.1 14 (by decide)).trans G.2.1) G.2.2.1 (tk T n x.1).2.1 (tk T n x.1).2.2 w2 (by omega) h.2.1.2.1 h.2.1.2.2.1 (by omega)) ?_
  rintro r N' ⟨rfl, k, ht⟩
  exact ⟨rfl, h.adv k ht⟩
theorem c6_stp {g : GT} {T : Nat → Int32} {n b : Nat} {M N : TM} {dp no : Nat} {x : PS} (G : G6 T n b M) (h : R6 T n b M dp no (lc x.2.2 x.2.1) x N) (hm : x.2.1 ≤ 95) (c : Int32) : Cn g yX6_step cX6_step 3 none 0 [.ref (gad g 6 0), .int 2, .int c] N (fun r N' => r = none ∧ R6 T n b M dp no (lc (sp x 2 c).2.2 (sp x 2 c).2.1) (sp x 2 c) N') := by
  have hb := G.2.2.2
  refine Cn.mono (c6_step N 2 c b x.2.1 h.2.2.1.2.2.2.1 h.2.2.1.2.2.1 (by omega)) ?_
  rintro r N' ⟨rfl, rfl⟩
  refine ⟨rfl, ?_⟩
  rw [show lc (sp x 2 c).2.2 (sp x 2 c).2.1 = lc x.2.2 x.2.1 from lc_2 x c]
  exact h.st hm 2 c
theorem sg6 {T : Nat → Int32} {n b : Nat} {M N : TM} {dp no l : Nat} {x : PS} (h : R6 T n b M dp no l x N) (c : Int32) : (N 6 0 17 = 3 ∧ N 6 0 19 = c) ↔ ((tk T n x.1).2.2 = 3 ∧ ch T n x = c) := by
  obtain ⟨w1, w2, w3⟩ := tk_W T n x.1
  rw [h.2.1.2.2.1, nI_e3 (by omega)]
  constructor
  · rintro ⟨a, e⟩; exact ⟨a, (h.2.1.2.2.2.2.1 a).symm.trans e⟩
  · rintro ⟨a, e⟩; exact ⟨a, (h.2.1.2.2.2.2.1 a).trans e⟩
def Q6 (T : Nat → Int32) (n b : Nat) (M : TM) (dp no : Nat) (res : Bool × PS) : Option Value → TM → Prop := fun r N => r = some (.int (bI (res.1 = true))) ∧ K6 b M N ∧ (res.1 = true → R6 T n b M dp no (lc res.2.2.2 res.2.2.1) res.2 N) ∧ (¬ res.1 = true → N 6 0 15 = nI (tk T n res.2.1).1)
theorem Q6.t {T : Nat → Int32} {n b : Nat} {M N : TM} {dp no : Nat} {x : PS} (h : R6 T n b M dp no (lc x.2.2 x.2.1) x N) : Q6 T n b M dp no (true, x) (some (.int 1)) N := ⟨rfl, h.1, fun _ => h, fun z => absurd rfl z⟩
theorem Q6.f {T : Nat → Int32} {n b : Nat} {M N : TM} {dp no dp' no' l : Nat} {x : PS} (h : R6 T n b M dp' no' l x N) : Q6 T n b M dp no (false, x) (some (.int 0)) N := ⟨rfl, h.1, fun z => absurd z Bool.false_ne_true, fun _ => h.2.1.1⟩
theorem Q6.b {T : Nat → Int32} {n b : Nat} {M N : TM} {dp no dp' no' : Nat} {res : Bool × PS} {r : Option Value} (h : Q6 T n b M dp' no' res r N) (hf : ¬ res.1 = true) : Q6 T n b M dp no res (some (.int 0)) N := ⟨congrArg (fun x => some (Value.int x)) (bI_f hf).symm, h.2.1, fun z => absurd z hf, h.2.2.2⟩
def C6 (g : GT) (T : Nat → Int32) (n b : Nat) (M : TM) (dp no : Nat) (key : Int32) (y : MethodName) (cc : ByteArray) (nL d : Nat) (p : PS → Bool × PS) : Prop :=
  ∀ (x : PS) (N : TM), R6 T n b M dp no (lc x.2.2 x.2.1) x N → x.2.1 ≤ x.1 → x.1 ≤ n → Cn g y cc nL (some .boolean) d [.ref (gad g 6 0), .int key] N (Q6 T n b M dp no (p x))
theorem lv_b {T : Nat → Int32} {n : Nat} {p : PS → Bool × PS} {j : Nat} {x : PS} (h : ¬ (lv T n p j x).1 = true) : lv T n p (j + 1) x = lv T n p j x := by rw [lv, if_neg h]
theorem lv_t {T : Nat → Int32} {n : Nat} {p : PS → Bool × PS} {j : Nat} {x : PS} (h : (lv T n p j x).1 = true) : lv T n p (j + 1) x = lo T n (lv T n p j) (sgL (4 - j)) (fuL (4 - j)) (lv T n p j x).2 := by rw [lv, if_pos h]
theorem Gp.m {T : Nat → Int32} {n : Nat} {key : Int32} {p : PS → Bool × PS} (h : Gp T n key p) {x : PS} (hp : (p x).1 = true) (hm : x.2.1 ≤ x.1) (hx : x.1 ≤ n) : (p x).2.2.1 ≤ (p x).2.1 ∧ (p x).2.1 ≤ n ∧ x.1 ≤ (p x).2.1 := by
  obtain ⟨a1, a2, a3, -⟩ := (h x).1 hp
  have := (h x).2 hx
  exact ⟨by omega, this, a1⟩
theorem Gp.m1 {T : Nat → Int32} {n : Nat} {key : Int32} {p : PS → Bool × PS} (h : Gp T n key p) {x : PS} (hp : (p (ad x)).1 = true) (hm : x.2.1 ≤ x.1) (hx : x.1 < n) : (p (ad x)).2.2.1 + 1 ≤ (p (ad x)).2.1 ∧ (p (ad x)).2.1 ≤ n ∧ x.1 < (p (ad x)).2.1 := by
  obtain ⟨a1, a2, a3, -⟩ := (h (ad x)).1 hp
  have := (h (ad x)).2 (show x.1 + 1 ≤ n by omega)
  have a1 : x.1 + 1 ≤ (p (ad x)).2.1 := a1
  have a3 : (p (ad x)).2.2.1 + (x.1 + 1) ≤ x.2.1 + (p (ad x)).2.1 := a3
  exact ⟨by omega, this, by omega⟩
set_option maxRecDepth 100000 in
set_option maxHeartbeats 4000000 in
theorem t6_termB {g : GT} {T : Nat → Int32} {n b : Nat} {M : TM} {dp no d : Nat} {key : Int32} {p : PS → Bool × PS} (G : G6 T n b M) (h2d : 2 ≤ d) (hG : Gp T n key (lv T n p 0)) (hC : C6 g T n b M dp no key yX6_part0 cX6_part0 2 d (lv T n p 0)) (f : Nat) (x : PS) (N : TM) (hR : R6 T n b M dp no (lc x.2.2 x.2.1) x N) (hm : x.2.1 ≤ x.1) (hi : x.1 ≤ n) (hs : sgB T n (sgL 4) x = true) (hih : ∀ (x' : PS) (N' : TM), R6 T n b M dp no (lc x'.2.2 x'.2.1) x' N' → x'.2.1 ≤ x'.1 → x'.1 ≤ n → x.1 < x'.1 → TR g (rmD (d + 1)) RX6 cX6_term 3 (some .boolean) 0 0 (Zm g (Q6 T n b M dp no (lo T n (lv T n p 0) (sgL 4) f x'))) 10 [some (.ref (gad g 6 0)), some (.int key), none] [] N') : TR g (rmD (d + 1)) RX6 cX6_term 3 (some .boolean) 0 0 (Zm g (Q6 T n b M dp no (lo T n (lv T n p 0) (sgL 4) (f + 1) x))) 28 [some (.ref (gad g 6 0)), some (.int key), none] [] N := by
  obtain ⟨s1, s2⟩ := sgB_t.mp hs
  have hx : x.1 < n := tk_n (T := T) (by rw [s1]; decide)
  have h96 := G.2.2.1
  have e19 : N 6 0 19 = ch T n x := hR.2.1.2.2.2.2.1 s1
  refine q_aload_n 29 dX6_term_28 rfl rfl ?_
  refine q_getI 32 dX6_term_29 rfl fl_X6_235 (by decide) rfl (by decide) ?_
  rw [e19]
  refine q_istore_n 33 dX6_term_32 rfl (by decide) rfl ?_
  refine q_aload_n 34 dX6_term_33 rfl rfl ?_
  refine q_callV 37 dX6_term_34 rfl (c6_next G hR) cw_X6_260 (by decide) rfl rfl (rm_ok (by omega) (by decide)) ⟨Nat.zero_le _, Nat.zero_le _⟩ (Nat.le_of_ble_eq_true rfl) ?_
  rintro _ N1 ⟨rfl, hR1⟩
  refine q_aload_n 38 dX6_term_37 rfl rfl ?_
  refine q_iload_n 39 dX6_term_38 rfl rfl ?_
  refine q_callV 42 dX6_term_39 rfl (hC (ad x) N1 hR1 (show x.2.1 ≤ x.1 + 1 by omega) (show x.1 + 1 ≤ n from hx)) cw_X6_276 (by decide) rfl rfl (rm_ok (by omega) (by decide)) ⟨Nat.zero_le _, Nat.zero_le _⟩ (Nat.le_of_ble_eq_true rfl) ?_
  rintro _ N2 ⟨rfl, q1, q2, q3⟩
  refine q_if_ne 47 45 dX6_term_42 rfl rfl (fun h_42 => ?_) (fun h_42 => ?_)
  · skip
    simp only [bI_0, Classical.not_not] at h_42
    have hmm := hG.m1 h_42 hm hx
    refine q_aload_n 48 dX6_term_47 rfl rfl ?_
    refine q_iconst (v := 2) 49 dX6_term_48 rfl rfl ?_
    refine q_iload_n 50 dX6_term_49 rfl rfl ?_
    refine q_callV 53 dX6_term_50 rfl (c6_stp G (q2 h_42) (by omega) _) cw_X6_263 (by decide) rfl rfl (rm_ok (by omega) (by decide)) ⟨Nat.zero_le _, Nat.zero_le _⟩ (Nat.le_of_ble_eq_true rfl) ?_
    rintro _ N3 ⟨rfl, hR3⟩
    refine q_goto 10 dX6_term_53 rfl ?_
    rw [lo_t hs h_42]
    exact q_fg (hih _ N3 hR3 hmm.1 hmm.2.1 hmm.2.2) ⟨rfl, rfl, trivial⟩
  · skip
    simp only [bI_0, Classical.not_not] at h_42
    refine q_iconst (v := 0) 46 dX6_term_45 rfl rfl ?_
    refine q_zret dX6_term_46 rfl ?_
    rw [lo_b hs h_42]
    exact Q6.b (r := some (.int (bI ((lv T n p 0 (ad x)).1 = true)))) ⟨rfl, q1, q2, q3⟩ h_42
set_option maxRecDepth 100000 in
set_option maxHeartbeats 4000000 in
theorem l6_term {g : GT} {T : Nat → Int32} {n b : Nat} {M : TM} {dp no d : Nat} {key : Int32} {p : PS → Bool × PS} (G : G6 T n b M) (h2d : 2 ≤ d) (hG : Gp T n key (lv T n p 0)) (hC : C6 g T n b M dp no key yX6_part0 cX6_part0 2 d (lv T n p 0)) : ∀ (j : Nat) (f : Nat) (x : PS) (N : TM), R6 T n b M dp no (lc x.2.2 x.2.1) x N → x.2.1 ≤ x.1 → x.1 ≤ n → n ≤ x.1 + f → n - x.1 < j → TR g (rmD (d + 1)) RX6 cX6_term 3 (some .boolean) 0 0 (Zm g (Q6 T n b M dp no (lo T n (lv T n p 0) (sgL 4) f x))) 10 [some (.ref (gad g 6 0)), some (.int key), none] [] N := by
  intro j
  induction j with
  | zero => intro f x N hR hm hi hf hj; exact absurd hj (by omega)
  | succ j ih =>
    intro f x N hR hm hi hf hj
    refine q_aload_n 11 dX6_term_10 rfl rfl ?_
    refine q_bipush (v := 42) 13 dX6_term_11 rfl rfl ?_
    refine q_callVt 16 dX6_term_13 rfl (c6_isSign _ _) cw_X6_257 (by decide) rfl rfl (rm_ok (by omega) (by decide)) ⟨Nat.zero_le _, Nat.zero_le _⟩ (Nat.le_of_ble_eq_true rfl) ?_
    refine q_if_ne 28 19 dX6_term_16 rfl rfl (fun h_16 => ?_) (fun h_16 => ?_)
    · skip
      simp only [bI_0, Classical.not_not] at h_16
      rw [sg6 hR 42] at h_16
      have hs : sgB T n (sgL 4) x = true := sgB_t.mpr ⟨h_16.1, decide_eq_true (Or.inl h_16.2)⟩
      have hx : x.1 < n := tk_n (T := T) (by rw [(sgB_t.mp hs).1]; decide)
      obtain ⟨f', rfl⟩ : ∃ f', f = f' + 1 := ⟨f - 1, by omega⟩
      exact q_fg (t6_termB G h2d hG hC f' x N hR hm hi hs (fun x' N' a1 a2 a3 a4 => ih f' x' N' a1 a2 a3 (by omega) (by omega))) ⟨rfl, rfl, trivial⟩
    · skip
      simp only [bI_0, Classical.not_not] at h_16
      rw [sg6 hR 42] at h_16
      refine q_aload_n 20 dX6_term_19 rfl rfl ?_
      refine q_bipush (v := 47) 22 dX6_term_20 rfl rfl ?_
      refine q_callVt 25 dX6_term_22 rfl (c6_isSign _ _) cw_X6_257 (by decide) rfl rfl (rm_ok (by omega) (by decide)) ⟨Nat.zero_le _, Nat.zero_le _⟩ (Nat.le_of_ble_eq_true rfl) ?_
      refine q_if_eq 56 28 dX6_term_25 rfl rfl (fun h_25 => ?_) (fun h_25 => ?_)
      · skip
        simp only [bI_0, Classical.not_not] at h_25
        rw [sg6 hR 47] at h_25
        have hs : ¬ sgB T n (sgL 4) x = true := fun z => by
          obtain ⟨z1, z2⟩ := sgB_t.mp z
          have z2 := of_decide_eq_true z2
          exact z2.elim (fun e => h_16 ⟨z1, e⟩) (fun e => h_25 ⟨z1, e⟩)
        refine q_iconst (v := 1) 57 dX6_term_56 rfl rfl ?_
        refine q_zret dX6_term_57 rfl ?_
        rw [lo_f hs]
        exact Q6.t hR
      · skip
        simp only [bI_0, Classical.not_not] at h_25
        rw [sg6 hR 47] at h_25
        have hs : sgB T n (sgL 4) x = true := sgB_t.mpr ⟨h_25.1, decide_eq_true (Or.inr h_25.2)⟩
        have hx : x.1 < n := tk_n (T := T) (by rw [(sgB_t.mp hs).1]; decide)
        obtain ⟨f', rfl⟩ : ∃ f', f = f' + 1 := ⟨f - 1, by omega⟩
        exact q_fg (t6_termB G h2d hG hC f' x N hR hm hi hs (fun x' N' a1 a2 a3 a4 => ih f' x' N' a1 a2 a3 (by omega) (by omega))) ⟨rfl, rfl, trivial⟩
set_option maxRecDepth 100000 in
set_option maxHeartbeats 4000000 in
theorem w6_term {g : GT} {T : Nat → Int32} {n b : Nat} {M : TM} {dp no d : Nat} {key : Int32} {p : PS → Bool × PS} (G : G6 T n b M) (h2d : 2 ≤ d) (hG : Gp T n key (lv T n p 0)) (hC : C6 g T n b M dp no key yX6_part0 cX6_part0 2 d (lv T n p 0)) (x : PS) (N : TM) (hR : R6 T n b M dp no (lc x.2.2 x.2.1) x N) (hm : x.2.1 ≤ x.1) (hi : x.1 ≤ n) : Cn g yX6_term cX6_term 3 (some .boolean) (d + 1) [.ref (gad g 6 0), .int key] N (Q6 T n b M dp no (lv T n p 1 x)) := by
  refine Cn.ofTR (by decide +kernel) (Nat.le_of_ble_eq_true rfl) ?_
  have h96 := G.2.2.1
  refine q_aload_n 1 dX6_term_0 rfl rfl ?_
  refine q_iload_n 2 dX6_term_1 rfl rfl ?_
  refine q_callV 5 dX6_term_2 rfl (hC x N hR hm hi) cw_X6_276 (by decide) rfl rfl (rm_ok (by omega) (by decide)) ⟨Nat.zero_le _, Nat.zero_le _⟩ (Nat.le_of_ble_eq_true rfl) ?_
  rintro _ N1 ⟨rfl, q1, q2, q3⟩
  refine q_if_ne 10 8 dX6_term_5 rfl rfl (fun h_5 => ?_) (fun h_5 => ?_)
  · skip
    simp only [bI_0, Classical.not_not] at h_5
    have hmm := hG.m h_5 hm hi
    rw [lv_t h_5]
    exact q_fg (l6_term G h2d hG hC (n - (lv T n p 0 x).2.1 + 1) 96 _ N1 (q2 h_5) hmm.1 hmm.2.1 (by omega) (by omega)) ⟨rfl, rfl, trivial⟩
  · skip
    simp only [bI_0, Classical.not_not] at h_5
    refine q_iconst (v := 0) 9 dX6_term_8 rfl rfl ?_
    refine q_zret dX6_term_9 rfl ?_
    rw [lv_b h_5]
    exact Q6.b (r := some (.int (bI ((lv T n p 0 x).1 = true)))) ⟨rfl, q1, q2, q3⟩ h_5
set_option maxRecDepth 100000 in
set_option maxHeartbeats 4000000 in
theorem t6_sumB {g : GT} {T : Nat → Int32} {n b : Nat} {M : TM} {dp no d : Nat} {key : Int32} {p : PS → Bool × PS} (G : G6 T n b M) (h2d : 2 ≤ d) (hG : Gp T n key (lv T n p 1)) (hC : C6 g T n b M dp no key yX6_term cX6_term 3 d (lv T n p 1)) (f : Nat) (x : PS) (N : TM) (hR : R6 T n b M dp no (lc x.2.2 x.2.1) x N) (hm : x.2.1 ≤ x.1) (hi : x.1 ≤ n) (hs : sgB T n (sgL 3) x = true) (hih : ∀ (x' : PS) (N' : TM), R6 T n b M dp no (lc x'.2.2 x'.2.1) x' N' → x'.2.1 ≤ x'.1 → x'.1 ≤ n → x.1 < x'.1 → TR g (rmD (d + 1)) RX6 cX6_sum 3 (some .boolean) 0 0 (Zm g (Q6 T n b M dp no (lo T n (lv T n p 1) (sgL 3) f x'))) 10 [some (.ref (gad g 6 0)), some (.int key), none] [] N') : TR g (rmD (d + 1)) RX6 cX6_sum 3 (some .boolean) 0 0 (Zm g (Q6 T n b M dp no (lo T n (lv T n p 1) (sgL 3) (f + 1) x))) 28 [some (.ref (gad g 6 0)), some (.int key), none] [] N := by
  obtain ⟨s1, s2⟩ := sgB_t.mp hs
  have hx : x.1 < n := tk_n (T := T) (by rw [s1]; decide)
  have h96 := G.2.2.1
  have e19 : N 6 0 19 = ch T n x := hR.2.1.2.2.2.2.1 s1
  refine q_aload_n 29 dX6_sum_28 rfl rfl ?_
  refine q_getI 32 dX6_sum_29 rfl fl_X6_235 (by decide) rfl (by decide) ?_
  rw [e19]
  refine q_istore_n 33 dX6_sum_32 rfl (by decide) rfl ?_
  refine q_aload_n 34 dX6_sum_33 rfl rfl ?_
  refine q_callV 37 dX6_sum_34 rfl (c6_next G hR) cw_X6_260 (by decide) rfl rfl (rm_ok (by omega) (by decide)) ⟨Nat.zero_le _, Nat.zero_le _⟩ (Nat.le_of_ble_eq_true rfl) ?_
  rintro _ N1 ⟨rfl, hR1⟩
  refine q_aload_n 38 dX6_sum_37 rfl rfl ?_
  refine q_iload_n 39 dX6_sum_38 rfl rfl ?_
  refine q_callV 42 dX6_sum_39 rfl (hC (ad x) N1 hR1 (show x.2.1 ≤ x.1 + 1 by omega) (show x.1 + 1 ≤ n from hx)) cw_X6_273 (by decide) rfl rfl (rm_ok (by omega) (by decide)) ⟨Nat.zero_le _, Nat.zero_le _⟩ (Nat.le_of_ble_eq_true rfl) ?_
  rintro _ N2 ⟨rfl, q1, q2, q3⟩
  refine q_if_ne 47 45 dX6_sum_42 rfl rfl (fun h_42 => ?_) (fun h_42 => ?_)
  · skip
    simp only [bI_0, Classical.not_not] at h_42
    have hmm := hG.m1 h_42 hm hx
    refine q_aload_n 48 dX6_sum_47 rfl rfl ?_
    refine q_iconst (v := 2) 49 dX6_sum_48 rfl rfl ?_
    refine q_iload_n 50 dX6_sum_49 rfl rfl ?_
    refine q_callV 53 dX6_sum_50 rfl (c6_stp G (q2 h_42) (by omega) _) cw_X6_263 (by decide) rfl rfl (rm_ok (by omega) (by decide)) ⟨Nat.zero_le _, Nat.zero_le _⟩ (Nat.le_of_ble_eq_true rfl) ?_
    rintro _ N3 ⟨rfl, hR3⟩
    refine q_goto 10 dX6_sum_53 rfl ?_
    rw [lo_t hs h_42]
    exact q_fg (hih _ N3 hR3 hmm.1 hmm.2.1 hmm.2.2) ⟨rfl, rfl, trivial⟩
  · skip
    simp only [bI_0, Classical.not_not] at h_42
    refine q_iconst (v := 0) 46 dX6_sum_45 rfl rfl ?_
    refine q_zret dX6_sum_46 rfl ?_
    rw [lo_b hs h_42]
    exact Q6.b (r := some (.int (bI ((lv T n p 1 (ad x)).1 = true)))) ⟨rfl, q1, q2, q3⟩ h_42
set_option maxRecDepth 100000 in
set_option maxHeartbeats 4000000 in
theorem l6_sum {g : GT} {T : Nat → Int32} {n b : Nat} {M : TM} {dp no d : Nat} {key : Int32} {p : PS → Bool × PS} (G : G6 T n b M) (h2d : 2 ≤ d) (hG : Gp T n key (lv T n p 1)) (hC : C6 g T n b M dp no key yX6_term cX6_term 3 d (lv T n p 1)) : ∀ (j : Nat) (f : Nat) (x : PS) (N : TM), R6 T n b M dp no (lc x.2.2 x.2.1) x N → x.2.1 ≤ x.1 → x.1 ≤ n → n ≤ x.1 + f → n - x.1 < j → TR g (rmD (d + 1)) RX6 cX6_sum 3 (some .boolean) 0 0 (Zm g (Q6 T n b M dp no (lo T n (lv T n p 1) (sgL 3) f x))) 10 [some (.ref (gad g 6 0)), some (.int key), none] [] N := by
  intro j
  induction j with
  | zero => intro f x N hR hm hi hf hj; exact absurd hj (by omega)
  | succ j ih =>
    intro f x N hR hm hi hf hj
    refine q_aload_n 11 dX6_sum_10 rfl rfl ?_
    refine q_bipush (v := 43) 13 dX6_sum_11 rfl rfl ?_
    refine q_callVt 16 dX6_sum_13 rfl (c6_isSign _ _) cw_X6_257 (by decide) rfl rfl (rm_ok (by omega) (by decide)) ⟨Nat.zero_le _, Nat.zero_le _⟩ (Nat.le_of_ble_eq_true rfl) ?_
    refine q_if_ne 28 19 dX6_sum_16 rfl rfl (fun h_16 => ?_) (fun h_16 => ?_)
    · skip
      simp only [bI_0, Classical.not_not] at h_16
      rw [sg6 hR 43] at h_16
      have hs : sgB T n (sgL 3) x = true := sgB_t.mpr ⟨h_16.1, decide_eq_true (Or.inl h_16.2)⟩
      have hx : x.1 < n := tk_n (T := T) (by rw [(sgB_t.mp hs).1]; decide)
      obtain ⟨f', rfl⟩ : ∃ f', f = f' + 1 := ⟨f - 1, by omega⟩
      exact q_fg (t6_sumB G h2d hG hC f' x N hR hm hi hs (fun x' N' a1 a2 a3 a4 => ih f' x' N' a1 a2 a3 (by omega) (by omega))) ⟨rfl, rfl, trivial⟩
    · skip
      simp only [bI_0, Classical.not_not] at h_16
      rw [sg6 hR 43] at h_16
      refine q_aload_n 20 dX6_sum_19 rfl rfl ?_
      refine q_bipush (v := 45) 22 dX6_sum_20 rfl rfl ?_
      refine q_callVt 25 dX6_sum_22 rfl (c6_isSign _ _) cw_X6_257 (by decide) rfl rfl (rm_ok (by omega) (by decide)) ⟨Nat.zero_le _, Nat.zero_le _⟩ (Nat.le_of_ble_eq_true rfl) ?_
      refine q_if_eq 56 28 dX6_sum_25 rfl rfl (fun h_25 => ?_) (fun h_25 => ?_)
      · skip
        simp only [bI_0, Classical.not_not] at h_25
        rw [sg6 hR 45] at h_25
        have hs : ¬ sgB T n (sgL 3) x = true := fun z => by
          obtain ⟨z1, z2⟩ := sgB_t.mp z
          have z2 := of_decide_eq_true z2
          exact z2.elim (fun e => h_16 ⟨z1, e⟩) (fun e => h_25 ⟨z1, e⟩)
        refine q_iconst (v := 1) 57 dX6_sum_56 rfl rfl ?_
        refine q_zret dX6_sum_57 rfl ?_
        rw [lo_f hs]
        exact Q6.t hR
      · skip
        simp only [bI_0, Classical.not_not] at h_25
        rw [sg6 hR 45] at h_25
        have hs : sgB T n (sgL 3) x = true := sgB_t.mpr ⟨h_25.1, decide_eq_true (Or.inr h_25.2)⟩
        have hx : x.1 < n := tk_n (T := T) (by rw [(sgB_t.mp hs).1]; decide)
        obtain ⟨f', rfl⟩ : ∃ f', f = f' + 1 := ⟨f - 1, by omega⟩
        exact q_fg (t6_sumB G h2d hG hC f' x N hR hm hi hs (fun x' N' a1 a2 a3 a4 => ih f' x' N' a1 a2 a3 (by omega) (by omega))) ⟨rfl, rfl, trivial⟩
set_option maxRecDepth 100000 in
set_option maxHeartbeats 4000000 in
theorem w6_sum {g : GT} {T : Nat → Int32} {n b : Nat} {M : TM} {dp no d : Nat} {key : Int32} {p : PS → Bool × PS} (G : G6 T n b M) (h2d : 2 ≤ d) (hG : Gp T n key (lv T n p 1)) (hC : C6 g T n b M dp no key yX6_term cX6_term 3 d (lv T n p 1)) (x : PS) (N : TM) (hR : R6 T n b M dp no (lc x.2.2 x.2.1) x N) (hm : x.2.1 ≤ x.1) (hi : x.1 ≤ n) : Cn g yX6_sum cX6_sum 3 (some .boolean) (d + 1) [.ref (gad g 6 0), .int key] N (Q6 T n b M dp no (lv T n p 2 x)) := by
  refine Cn.ofTR (by decide +kernel) (Nat.le_of_ble_eq_true rfl) ?_
  have h96 := G.2.2.1
  refine q_aload_n 1 dX6_sum_0 rfl rfl ?_
  refine q_iload_n 2 dX6_sum_1 rfl rfl ?_
  refine q_callV 5 dX6_sum_2 rfl (hC x N hR hm hi) cw_X6_273 (by decide) rfl rfl (rm_ok (by omega) (by decide)) ⟨Nat.zero_le _, Nat.zero_le _⟩ (Nat.le_of_ble_eq_true rfl) ?_
  rintro _ N1 ⟨rfl, q1, q2, q3⟩
  refine q_if_ne 10 8 dX6_sum_5 rfl rfl (fun h_5 => ?_) (fun h_5 => ?_)
  · skip
    simp only [bI_0, Classical.not_not] at h_5
    have hmm := hG.m h_5 hm hi
    rw [lv_t h_5]
    exact q_fg (l6_sum G h2d hG hC (n - (lv T n p 1 x).2.1 + 1) 96 _ N1 (q2 h_5) hmm.1 hmm.2.1 (by omega) (by omega)) ⟨rfl, rfl, trivial⟩
  · skip
    simp only [bI_0, Classical.not_not] at h_5
    refine q_iconst (v := 0) 9 dX6_sum_8 rfl rfl ?_
    refine q_zret dX6_sum_9 rfl ?_
    rw [lv_b h_5]
    exact Q6.b (r := some (.int (bI ((lv T n p 1 x).1 = true)))) ⟨rfl, q1, q2, q3⟩ h_5
set_option maxRecDepth 100000 in
set_option maxHeartbeats 4000000 in
theorem t6_testB {g : GT} {T : Nat → Int32} {n b : Nat} {M : TM} {dp no d : Nat} {key : Int32} {p : PS → Bool × PS} (G : G6 T n b M) (h2d : 2 ≤ d) (hG : Gp T n key (lv T n p 2)) (hC : C6 g T n b M dp no key yX6_sum cX6_sum 3 d (lv T n p 2)) (f : Nat) (x : PS) (N : TM) (hR : R6 T n b M dp no (lc x.2.2 x.2.1) x N) (hm : x.2.1 ≤ x.1) (hi : x.1 ≤ n) (hs : sgB T n (sgL 2) x = true) : TR g (rmD (d + 1)) RX6 cX6_test 3 (some .boolean) 0 0 (Zm g (Q6 T n b M dp no (lo T n (lv T n p 2) (sgL 2) 1 x))) 37 [some (.ref (gad g 6 0)), some (.int key), none] [] N := by
  obtain ⟨s1, s2⟩ := sgB_t.mp hs
  have hx : x.1 < n := tk_n (T := T) (by rw [s1]; decide)
  have h96 := G.2.2.1
  have e19 : N 6 0 19 = ch T n x := hR.2.1.2.2.2.2.1 s1
  refine q_aload_n 38 dX6_test_37 rfl rfl ?_
  refine q_getI 41 dX6_test_38 rfl fl_X6_235 (by decide) rfl (by decide) ?_
  rw [e19]
  refine q_istore_n 42 dX6_test_41 rfl (by decide) rfl ?_
  refine q_aload_n 43 dX6_test_42 rfl rfl ?_
  refine q_callV 46 dX6_test_43 rfl (c6_next G hR) cw_X6_260 (by decide) rfl rfl (rm_ok (by omega) (by decide)) ⟨Nat.zero_le _, Nat.zero_le _⟩ (Nat.le_of_ble_eq_true rfl) ?_
  rintro _ N1 ⟨rfl, hR1⟩
  refine q_aload_n 47 dX6_test_46 rfl rfl ?_
  refine q_iload_n 48 dX6_test_47 rfl rfl ?_
  refine q_callV 51 dX6_test_48 rfl (hC (ad x) N1 hR1 (show x.2.1 ≤ x.1 + 1 by omega) (show x.1 + 1 ≤ n from hx)) cw_X6_270 (by decide) rfl rfl (rm_ok (by omega) (by decide)) ⟨Nat.zero_le _, Nat.zero_le _⟩ (Nat.le_of_ble_eq_true rfl) ?_
  rintro _ N2 ⟨rfl, q1, q2, q3⟩
  refine q_if_ne 56 54 dX6_test_51 rfl rfl (fun h_51 => ?_) (fun h_51 => ?_)
  · skip
    simp only [bI_0, Classical.not_not] at h_51
    have hmm := hG.m1 h_51 hm hx
    refine q_aload_n 57 dX6_test_56 rfl rfl ?_
    refine q_iconst (v := 2) 58 dX6_test_57 rfl rfl ?_
    refine q_iload_n 59 dX6_test_58 rfl rfl ?_
    refine q_callV 62 dX6_test_59 rfl (c6_stp G (q2 h_51) (by omega) _) cw_X6_263 (by decide) rfl rfl (rm_ok (by omega) (by decide)) ⟨Nat.zero_le _, Nat.zero_le _⟩ (Nat.le_of_ble_eq_true rfl) ?_
    rintro _ N3 ⟨rfl, hR3⟩
    refine q_iconst (v := 1) 63 dX6_test_62 rfl rfl ?_
    refine q_zret dX6_test_63 rfl ?_
    rw [show (1 : Nat) = 0 + 1 from rfl, lo_t hs h_51]
    exact Q6.t hR3
  · skip
    simp only [bI_0, Classical.not_not] at h_51
    refine q_iconst (v := 0) 55 dX6_test_54 rfl rfl ?_
    refine q_zret dX6_test_55 rfl ?_
    rw [show (1 : Nat) = 0 + 1 from rfl, lo_b hs h_51]
    exact Q6.b (r := some (.int (bI ((lv T n p 2 (ad x)).1 = true)))) ⟨rfl, q1, q2, q3⟩ h_51
set_option maxRecDepth 100000 in
set_option maxHeartbeats 4000000 in
theorem l6_test {g : GT} {T : Nat → Int32} {n b : Nat} {M : TM} {dp no d : Nat} {key : Int32} {p : PS → Bool × PS} (G : G6 T n b M) (h2d : 2 ≤ d) (hG : Gp T n key (lv T n p 2)) (hC : C6 g T n b M dp no key yX6_sum cX6_sum 3 d (lv T n p 2)) (x : PS) (N : TM) (hR : R6 T n b M dp no (lc x.2.2 x.2.1) x N) (hm : x.2.1 ≤ x.1) (hi : x.1 ≤ n) : TR g (rmD (d + 1)) RX6 cX6_test 3 (some .boolean) 0 0 (Zm g (Q6 T n b M dp no (lo T n (lv T n p 2) (sgL 2) 1 x))) 10 [some (.ref (gad g 6 0)), some (.int key), none] [] N := by
  refine q_aload_n 11 dX6_test_10 rfl rfl ?_
  refine q_bipush (v := 60) 13 dX6_test_11 rfl rfl ?_
  refine q_callVt 16 dX6_test_13 rfl (c6_isSign _ _) cw_X6_257 (by decide) rfl rfl (rm_ok (by omega) (by decide)) ⟨Nat.zero_le _, Nat.zero_le _⟩ (Nat.le_of_ble_eq_true rfl) ?_
  refine q_if_ne 37 19 dX6_test_16 rfl rfl (fun h_16 => ?_) (fun h_16 => ?_)
  · skip
    simp only [bI_0, Classical.not_not] at h_16
    rw [sg6 hR 60] at h_16
    have hs : sgB T n (sgL 2) x = true := sgB_t.mpr ⟨h_16.1, decide_eq_true (Or.inl h_16.2)⟩
    exact q_fg (t6_testB G h2d hG hC 0 x N hR hm hi hs) ⟨rfl, rfl, trivial⟩
  · skip
    simp only [bI_0, Classical.not_not] at h_16
    rw [sg6 hR 60] at h_16
    refine q_aload_n 20 dX6_test_19 rfl rfl ?_
    refine q_bipush (v := 61) 22 dX6_test_20 rfl rfl ?_
    refine q_callVt 25 dX6_test_22 rfl (c6_isSign _ _) cw_X6_257 (by decide) rfl rfl (rm_ok (by omega) (by decide)) ⟨Nat.zero_le _, Nat.zero_le _⟩ (Nat.le_of_ble_eq_true rfl) ?_
    refine q_if_ne 37 28 dX6_test_25 rfl rfl (fun h_25 => ?_) (fun h_25 => ?_)
    · skip
      simp only [bI_0, Classical.not_not] at h_25
      rw [sg6 hR 61] at h_25
      have hs : sgB T n (sgL 2) x = true := sgB_t.mpr ⟨h_25.1, decide_eq_true (Or.inr (Or.inl h_25.2))⟩
      exact q_fg (t6_testB G h2d hG hC 0 x N hR hm hi hs) ⟨rfl, rfl, trivial⟩
    · skip
      simp only [bI_0, Classical.not_not] at h_25
      rw [sg6 hR 61] at h_25
      refine q_aload_n 29 dX6_test_28 rfl rfl ?_
      refine q_bipush (v := 62) 31 dX6_test_29 rfl rfl ?_
      refine q_callVt 34 dX6_test_31 rfl (c6_isSign _ _) cw_X6_257 (by decide) rfl rfl (rm_ok (by omega) (by decide)) ⟨Nat.zero_le _, Nat.zero_le _⟩ (Nat.le_of_ble_eq_true rfl) ?_
      refine q_if_eq 62 37 dX6_test_34 rfl rfl (fun h_34 => ?_) (fun h_34 => ?_)
      · skip
        simp only [bI_0, Classical.not_not] at h_34
        rw [sg6 hR 62] at h_34
        have hs : ¬ sgB T n (sgL 2) x = true := fun z => by
          obtain ⟨z1, z2⟩ := sgB_t.mp z
          have z2 := of_decide_eq_true z2
          exact z2.elim (fun e => h_16 ⟨z1, e⟩) (fun e => e.elim (fun e => h_25 ⟨z1, e⟩) (fun e => h_34 ⟨z1, e⟩))
        refine q_iconst (v := 1) 63 dX6_test_62 rfl rfl ?_
        refine q_zret dX6_test_63 rfl ?_
        rw [lo_f hs]
        exact Q6.t hR
      · skip
        simp only [bI_0, Classical.not_not] at h_34
        rw [sg6 hR 62] at h_34
        have hs : sgB T n (sgL 2) x = true := sgB_t.mpr ⟨h_34.1, decide_eq_true (Or.inr (Or.inr h_34.2))⟩
        exact q_fg (t6_testB G h2d hG hC 0 x N hR hm hi hs) ⟨rfl, rfl, trivial⟩
set_option maxRecDepth 100000 in
set_option maxHeartbeats 4000000 in
theorem w6_test {g : GT} {T : Nat → Int32} {n b : Nat} {M : TM} {dp no d : Nat} {key : Int32} {p : PS → Bool × PS} (G : G6 T n b M) (h2d : 2 ≤ d) (hG : Gp T n key (lv T n p 2)) (hC : C6 g T n b M dp no key yX6_sum cX6_sum 3 d (lv T n p 2)) (x : PS) (N : TM) (hR : R6 T n b M dp no (lc x.2.2 x.2.1) x N) (hm : x.2.1 ≤ x.1) (hi : x.1 ≤ n) : Cn g yX6_test cX6_test 3 (some .boolean) (d + 1) [.ref (gad g 6 0), .int key] N (Q6 T n b M dp no (lv T n p 3 x)) := by
  refine Cn.ofTR (by decide +kernel) (Nat.le_of_ble_eq_true rfl) ?_
  have h96 := G.2.2.1
  refine q_aload_n 1 dX6_test_0 rfl rfl ?_
  refine q_iload_n 2 dX6_test_1 rfl rfl ?_
  refine q_callV 5 dX6_test_2 rfl (hC x N hR hm hi) cw_X6_270 (by decide) rfl rfl (rm_ok (by omega) (by decide)) ⟨Nat.zero_le _, Nat.zero_le _⟩ (Nat.le_of_ble_eq_true rfl) ?_
  rintro _ N1 ⟨rfl, q1, q2, q3⟩
  refine q_if_ne 10 8 dX6_test_5 rfl rfl (fun h_5 => ?_) (fun h_5 => ?_)
  · skip
    simp only [bI_0, Classical.not_not] at h_5
    have hmm := hG.m h_5 hm hi
    rw [lv_t h_5]
    exact q_fg (l6_test G h2d hG hC _ N1 (q2 h_5) hmm.1 hmm.2.1) ⟨rfl, rfl, trivial⟩
  · skip
    simp only [bI_0, Classical.not_not] at h_5
    refine q_iconst (v := 0) 9 dX6_test_8 rfl rfl ?_
    refine q_zret dX6_test_9 rfl ?_
    rw [lv_b h_5]
    exact Q6.b (r := some (.int (bI ((lv T n p 2 x).1 = true)))) ⟨rfl, q1, q2, q3⟩ h_5
set_option maxRecDepth 100000 in
set_option maxHeartbeats 4000000 in
theorem t6_bothB {g : GT} {T : Nat → Int32} {n b : Nat} {M : TM} {dp no d : Nat} {key : Int32} {p : PS → Bool × PS} (G : G6 T n b M) (h2d : 2 ≤ d) (hG : Gp T n key (lv T n p 3)) (hC : C6 g T n b M dp no key yX6_test cX6_test 3 d (lv T n p 3)) (f : Nat) (x : PS) (N : TM) (hR : R6 T n b M dp no (lc x.2.2 x.2.1) x N) (hm : x.2.1 ≤ x.1) (hi : x.1 ≤ n) (hs : sgB T n (sgL 1) x = true) (hih : ∀ (x' : PS) (N' : TM), R6 T n b M dp no (lc x'.2.2 x'.2.1) x' N' → x'.2.1 ≤ x'.1 → x'.1 ≤ n → x.1 < x'.1 → TR g (rmD (d + 1)) RX6 cX6_both 2 (some .boolean) 0 0 (Zm g (Q6 T n b M dp no (lo T n (lv T n p 3) (sgL 1) f x'))) 10 [some (.ref (gad g 6 0)), some (.int key)] [] N') : TR g (rmD (d + 1)) RX6 cX6_both 2 (some .boolean) 0 0 (Zm g (Q6 T n b M dp no (lo T n (lv T n p 3) (sgL 1) (f + 1) x))) 19 [some (.ref (gad g 6 0)), some (.int key)] [] N := by
  obtain ⟨s1, s2⟩ := sgB_t.mp hs
  have hx : x.1 < n := tk_n (T := T) (by rw [s1]; decide)
  have h96 := G.2.2.1
  have ec : ch T n x = 38 := of_decide_eq_true s2
  refine q_aload_n 20 dX6_both_19 rfl rfl ?_
  refine q_callV 23 dX6_both_20 rfl (c6_next G hR) cw_X6_260 (by decide) rfl rfl (rm_ok (by omega) (by decide)) ⟨Nat.zero_le _, Nat.zero_le _⟩ (Nat.le_of_ble_eq_true rfl) ?_
  rintro _ N1 ⟨rfl, hR1⟩
  refine q_aload_n 24 dX6_both_23 rfl rfl ?_
  refine q_iload_n 25 dX6_both_24 rfl rfl ?_
  refine q_callV 28 dX6_both_25 rfl (hC (ad x) N1 hR1 (show x.2.1 ≤ x.1 + 1 by omega) (show x.1 + 1 ≤ n from hx)) cw_X6_267 (by decide) rfl rfl (rm_ok (by omega) (by decide)) ⟨Nat.zero_le _, Nat.zero_le _⟩ (Nat.le_of_ble_eq_true rfl) ?_
  rintro _ N2 ⟨rfl, q1, q2, q3⟩
  refine q_if_ne 33 31 dX6_both_28 rfl rfl (fun h_28 => ?_) (fun h_28 => ?_)
  · skip
    simp only [bI_0, Classical.not_not] at h_28
    have hmm := hG.m1 h_28 hm hx
    refine q_aload_n 34 dX6_both_33 rfl rfl ?_
    refine q_iconst (v := 2) 35 dX6_both_34 rfl rfl ?_
    refine q_bipush (v := 38) 37 dX6_both_35 rfl rfl ?_
    refine q_callV 40 dX6_both_37 rfl (c6_stp G (q2 h_28) (by omega) _) cw_X6_263 (by decide) rfl rfl (rm_ok (by omega) (by decide)) ⟨Nat.zero_le _, Nat.zero_le _⟩ (Nat.le_of_ble_eq_true rfl) ?_
    rintro _ N3 ⟨rfl, hR3⟩
    refine q_goto 10 dX6_both_40 rfl ?_
    rw [lo_t hs h_28, ec]
    exact q_fg (hih _ N3 hR3 hmm.1 hmm.2.1 hmm.2.2) ⟨rfl, rfl, trivial⟩
  · skip
    simp only [bI_0, Classical.not_not] at h_28
    refine q_iconst (v := 0) 32 dX6_both_31 rfl rfl ?_
    refine q_zret dX6_both_32 rfl ?_
    rw [lo_b hs h_28]
    exact Q6.b (r := some (.int (bI ((lv T n p 3 (ad x)).1 = true)))) ⟨rfl, q1, q2, q3⟩ h_28
set_option maxRecDepth 100000 in
set_option maxHeartbeats 4000000 in
theorem l6_both {g : GT} {T : Nat → Int32} {n b : Nat} {M : TM} {dp no d : Nat} {key : Int32} {p : PS → Bool × PS} (G : G6 T n b M) (h2d : 2 ≤ d) (hG : Gp T n key (lv T n p 3)) (hC : C6 g T n b M dp no key yX6_test cX6_test 3 d (lv T n p 3)) : ∀ (j : Nat) (f : Nat) (x : PS) (N : TM), R6 T n b M dp no (lc x.2.2 x.2.1) x N → x.2.1 ≤ x.1 → x.1 ≤ n → n ≤ x.1 + f → n - x.1 < j → TR g (rmD (d + 1)) RX6 cX6_both 2 (some .boolean) 0 0 (Zm g (Q6 T n b M dp no (lo T n (lv T n p 3) (sgL 1) f x))) 10 [some (.ref (gad g 6 0)), some (.int key)] [] N := by
  intro j
  induction j with
  | zero => intro f x N hR hm hi hf hj; exact absurd hj (by omega)
  | succ j ih =>
    intro f x N hR hm hi hf hj
    refine q_aload_n 11 dX6_both_10 rfl rfl ?_
    refine q_bipush (v := 38) 13 dX6_both_11 rfl rfl ?_
    refine q_callVt 16 dX6_both_13 rfl (c6_isSign _ _) cw_X6_257 (by decide) rfl rfl (rm_ok (by omega) (by decide)) ⟨Nat.zero_le _, Nat.zero_le _⟩ (Nat.le_of_ble_eq_true rfl) ?_
    refine q_if_eq 43 19 dX6_both_16 rfl rfl (fun h_16 => ?_) (fun h_16 => ?_)
    · skip
      simp only [bI_0, Classical.not_not] at h_16
      rw [sg6 hR 38] at h_16
      have hs : ¬ sgB T n (sgL 1) x = true := fun z => by
        obtain ⟨z1, z2⟩ := sgB_t.mp z
        have z2 := of_decide_eq_true z2
        exact h_16 ⟨z1, z2⟩
      refine q_iconst (v := 1) 44 dX6_both_43 rfl rfl ?_
      refine q_zret dX6_both_44 rfl ?_
      rw [lo_f hs]
      exact Q6.t hR
    · skip
      simp only [bI_0, Classical.not_not] at h_16
      rw [sg6 hR 38] at h_16
      have hs : sgB T n (sgL 1) x = true := sgB_t.mpr ⟨h_16.1, decide_eq_true h_16.2⟩
      have hx : x.1 < n := tk_n (T := T) (by rw [(sgB_t.mp hs).1]; decide)
      obtain ⟨f', rfl⟩ : ∃ f', f = f' + 1 := ⟨f - 1, by omega⟩
      exact q_fg (t6_bothB G h2d hG hC f' x N hR hm hi hs (fun x' N' a1 a2 a3 a4 => ih f' x' N' a1 a2 a3 (by omega) (by omega))) ⟨rfl, rfl, trivial⟩
set_option maxRecDepth 100000 in
set_option maxHeartbeats 4000000 in
theorem w6_both {g : GT} {T : Nat → Int32} {n b : Nat} {M : TM} {dp no d : Nat} {key : Int32} {p : PS → Bool × PS} (G : G6 T n b M) (h2d : 2 ≤ d) (hG : Gp T n key (lv T n p 3)) (hC : C6 g T n b M dp no key yX6_test cX6_test 3 d (lv T n p 3)) (x : PS) (N : TM) (hR : R6 T n b M dp no (lc x.2.2 x.2.1) x N) (hm : x.2.1 ≤ x.1) (hi : x.1 ≤ n) : Cn g yX6_both cX6_both 2 (some .boolean) (d + 1) [.ref (gad g 6 0), .int key] N (Q6 T n b M dp no (lv T n p 4 x)) := by
  refine Cn.ofTR (by decide +kernel) (Nat.le_of_ble_eq_true rfl) ?_
  have h96 := G.2.2.1
  refine q_aload_n 1 dX6_both_0 rfl rfl ?_
  refine q_iload_n 2 dX6_both_1 rfl rfl ?_
  refine q_callV 5 dX6_both_2 rfl (hC x N hR hm hi) cw_X6_267 (by decide) rfl rfl (rm_ok (by omega) (by decide)) ⟨Nat.zero_le _, Nat.zero_le _⟩ (Nat.le_of_ble_eq_true rfl) ?_
  rintro _ N1 ⟨rfl, q1, q2, q3⟩
  refine q_if_ne 10 8 dX6_both_5 rfl rfl (fun h_5 => ?_) (fun h_5 => ?_)
  · skip
    simp only [bI_0, Classical.not_not] at h_5
    have hmm := hG.m h_5 hm hi
    rw [lv_t h_5]
    exact q_fg (l6_both G h2d hG hC (n - (lv T n p 3 x).2.1 + 1) 96 _ N1 (q2 h_5) hmm.1 hmm.2.1 (by omega) (by omega)) ⟨rfl, rfl, trivial⟩
  · skip
    simp only [bI_0, Classical.not_not] at h_5
    refine q_iconst (v := 0) 9 dX6_both_8 rfl rfl ?_
    refine q_zret dX6_both_9 rfl ?_
    rw [lv_b h_5]
    exact Q6.b (r := some (.int (bI ((lv T n p 3 x).1 = true)))) ⟨rfl, q1, q2, q3⟩ h_5
set_option maxRecDepth 100000 in
set_option maxHeartbeats 4000000 in
theorem t6_eitherB {g : GT} {T : Nat → Int32} {n b : Nat} {M : TM} {dp no d : Nat} {key : Int32} {p : PS → Bool × PS} (G : G6 T n b M) (h2d : 2 ≤ d) (hG : Gp T n key (lv T n p 4)) (hC : C6 g T n b M dp no key yX6_both cX6_both 2 d (lv T n p 4)) (f : Nat) (x : PS) (N : TM) (hR : R6 T n b M dp no (lc x.2.2 x.2.1) x N) (hm : x.2.1 ≤ x.1) (hi : x.1 ≤ n) (hs : sgB T n (sgL 0) x = true) (hih : ∀ (x' : PS) (N' : TM), R6 T n b M dp no (lc x'.2.2 x'.2.1) x' N' → x'.2.1 ≤ x'.1 → x'.1 ≤ n → x.1 < x'.1 → TR g (rmD (d + 1)) RX6 cX6_either 2 (some .boolean) 0 0 (Zm g (Q6 T n b M dp no (lo T n (lv T n p 4) (sgL 0) f x'))) 10 [some (.ref (gad g 6 0)), some (.int key)] [] N') : TR g (rmD (d + 1)) RX6 cX6_either 2 (some .boolean) 0 0 (Zm g (Q6 T n b M dp no (lo T n (lv T n p 4) (sgL 0) (f + 1) x))) 19 [some (.ref (gad g 6 0)), some (.int key)] [] N := by
  obtain ⟨s1, s2⟩ := sgB_t.mp hs
  have hx : x.1 < n := tk_n (T := T) (by rw [s1]; decide)
  have h96 := G.2.2.1
  have ec : ch T n x = 124 := of_decide_eq_true s2
  refine q_aload_n 20 dX6_either_19 rfl rfl ?_
  refine q_callV 23 dX6_either_20 rfl (c6_next G hR) cw_X6_260 (by decide) rfl rfl (rm_ok (by omega) (by decide)) ⟨Nat.zero_le _, Nat.zero_le _⟩ (Nat.le_of_ble_eq_true rfl) ?_
  rintro _ N1 ⟨rfl, hR1⟩
  refine q_aload_n 24 dX6_either_23 rfl rfl ?_
  refine q_iload_n 25 dX6_either_24 rfl rfl ?_
  refine q_callV 28 dX6_either_25 rfl (hC (ad x) N1 hR1 (show x.2.1 ≤ x.1 + 1 by omega) (show x.1 + 1 ≤ n from hx)) cw_X6_254 (by decide) rfl rfl (rm_ok (by omega) (by decide)) ⟨Nat.zero_le _, Nat.zero_le _⟩ (Nat.le_of_ble_eq_true rfl) ?_
  rintro _ N2 ⟨rfl, q1, q2, q3⟩
  refine q_if_ne 33 31 dX6_either_28 rfl rfl (fun h_28 => ?_) (fun h_28 => ?_)
  · skip
    simp only [bI_0, Classical.not_not] at h_28
    have hmm := hG.m1 h_28 hm hx
    refine q_aload_n 34 dX6_either_33 rfl rfl ?_
    refine q_iconst (v := 2) 35 dX6_either_34 rfl rfl ?_
    refine q_bipush (v := 124) 37 dX6_either_35 rfl rfl ?_
    refine q_callV 40 dX6_either_37 rfl (c6_stp G (q2 h_28) (by omega) _) cw_X6_263 (by decide) rfl rfl (rm_ok (by omega) (by decide)) ⟨Nat.zero_le _, Nat.zero_le _⟩ (Nat.le_of_ble_eq_true rfl) ?_
    rintro _ N3 ⟨rfl, hR3⟩
    refine q_goto 10 dX6_either_40 rfl ?_
    rw [lo_t hs h_28, ec]
    exact q_fg (hih _ N3 hR3 hmm.1 hmm.2.1 hmm.2.2) ⟨rfl, rfl, trivial⟩
  · skip
    simp only [bI_0, Classical.not_not] at h_28
    refine q_iconst (v := 0) 32 dX6_either_31 rfl rfl ?_
    refine q_zret dX6_either_32 rfl ?_
    rw [lo_b hs h_28]
    exact Q6.b (r := some (.int (bI ((lv T n p 4 (ad x)).1 = true)))) ⟨rfl, q1, q2, q3⟩ h_28
set_option maxRecDepth 100000 in
set_option maxHeartbeats 4000000 in
theorem l6_either {g : GT} {T : Nat → Int32} {n b : Nat} {M : TM} {dp no d : Nat} {key : Int32} {p : PS → Bool × PS} (G : G6 T n b M) (h2d : 2 ≤ d) (hG : Gp T n key (lv T n p 4)) (hC : C6 g T n b M dp no key yX6_both cX6_both 2 d (lv T n p 4)) : ∀ (j : Nat) (f : Nat) (x : PS) (N : TM), R6 T n b M dp no (lc x.2.2 x.2.1) x N → x.2.1 ≤ x.1 → x.1 ≤ n → n ≤ x.1 + f → n - x.1 < j → TR g (rmD (d + 1)) RX6 cX6_either 2 (some .boolean) 0 0 (Zm g (Q6 T n b M dp no (lo T n (lv T n p 4) (sgL 0) f x))) 10 [some (.ref (gad g 6 0)), some (.int key)] [] N := by
  intro j
  induction j with
  | zero => intro f x N hR hm hi hf hj; exact absurd hj (by omega)
  | succ j ih =>
    intro f x N hR hm hi hf hj
    refine q_aload_n 11 dX6_either_10 rfl rfl ?_
    refine q_bipush (v := 124) 13 dX6_either_11 rfl rfl ?_
    refine q_callVt 16 dX6_either_13 rfl (c6_isSign _ _) cw_X6_257 (by decide) rfl rfl (rm_ok (by omega) (by decide)) ⟨Nat.zero_le _, Nat.zero_le _⟩ (Nat.le_of_ble_eq_true rfl) ?_
    refine q_if_eq 43 19 dX6_either_16 rfl rfl (fun h_16 => ?_) (fun h_16 => ?_)
    · skip
      simp only [bI_0, Classical.not_not] at h_16
      rw [sg6 hR 124] at h_16
      have hs : ¬ sgB T n (sgL 0) x = true := fun z => by
        obtain ⟨z1, z2⟩ := sgB_t.mp z
        have z2 := of_decide_eq_true z2
        exact h_16 ⟨z1, z2⟩
      refine q_iconst (v := 1) 44 dX6_either_43 rfl rfl ?_
      refine q_zret dX6_either_44 rfl ?_
      rw [lo_f hs]
      exact Q6.t hR
    · skip
      simp only [bI_0, Classical.not_not] at h_16
      rw [sg6 hR 124] at h_16
      have hs : sgB T n (sgL 0) x = true := sgB_t.mpr ⟨h_16.1, decide_eq_true h_16.2⟩
      have hx : x.1 < n := tk_n (T := T) (by rw [(sgB_t.mp hs).1]; decide)
      obtain ⟨f', rfl⟩ : ∃ f', f = f' + 1 := ⟨f - 1, by omega⟩
      exact q_fg (t6_eitherB G h2d hG hC f' x N hR hm hi hs (fun x' N' a1 a2 a3 a4 => ih f' x' N' a1 a2 a3 (by omega) (by omega))) ⟨rfl, rfl, trivial⟩
set_option maxRecDepth 100000 in
set_option maxHeartbeats 4000000 in
theorem w6_either {g : GT} {T : Nat → Int32} {n b : Nat} {M : TM} {dp no d : Nat} {key : Int32} {p : PS → Bool × PS} (G : G6 T n b M) (h2d : 2 ≤ d) (hG : Gp T n key (lv T n p 4)) (hC : C6 g T n b M dp no key yX6_both cX6_both 2 d (lv T n p 4)) (x : PS) (N : TM) (hR : R6 T n b M dp no (lc x.2.2 x.2.1) x N) (hm : x.2.1 ≤ x.1) (hi : x.1 ≤ n) : Cn g yX6_either cX6_either 2 (some .boolean) (d + 1) [.ref (gad g 6 0), .int key] N (Q6 T n b M dp no (lv T n p 5 x)) := by
  refine Cn.ofTR (by decide +kernel) (Nat.le_of_ble_eq_true rfl) ?_
  have h96 := G.2.2.1
  refine q_aload_n 1 dX6_either_0 rfl rfl ?_
  refine q_iload_n 2 dX6_either_1 rfl rfl ?_
  refine q_callV 5 dX6_either_2 rfl (hC x N hR hm hi) cw_X6_254 (by decide) rfl rfl (rm_ok (by omega) (by decide)) ⟨Nat.zero_le _, Nat.zero_le _⟩ (Nat.le_of_ble_eq_true rfl) ?_
  rintro _ N1 ⟨rfl, q1, q2, q3⟩
  refine q_if_ne 10 8 dX6_either_5 rfl rfl (fun h_5 => ?_) (fun h_5 => ?_)
  · skip
    simp only [bI_0, Classical.not_not] at h_5
    have hmm := hG.m h_5 hm hi
    rw [lv_t h_5]
    exact q_fg (l6_either G h2d hG hC (n - (lv T n p 4 x).2.1 + 1) 96 _ N1 (q2 h_5) hmm.1 hmm.2.1 (by omega) (by omega)) ⟨rfl, rfl, trivial⟩
  · skip
    simp only [bI_0, Classical.not_not] at h_5
    refine q_iconst (v := 0) 9 dX6_either_8 rfl rfl ?_
    refine q_zret dX6_either_9 rfl ?_
    rw [lv_b h_5]
    exact Q6.b (r := some (.int (bI ((lv T n p 4 x).1 = true)))) ⟨rfl, q1, q2, q3⟩ h_5
