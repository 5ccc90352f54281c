/-! THE MATHEMATICS: what stays well formed -/
theorem hgt_c {s s' : SS} (h : ∀ i, 71 ≤ i → s' i = s i) {b : Nat} (hb : 71 ≤ b) : ∀ k, hgt s' b k = hgt s b k
  | 0 => rfl
  | k + 1 => by unfold hgt; rw [hgt_c h hb k, h (b + 2 * k) (by omega), h (b + 2 * k + 1) (by omega)]
theorem pil_c {nm : Int32 → Int32} {s s' : SS} (h : ∀ i, 71 ≤ i → s' i = s i) {b : Nat} (hb : 71 ≤ b) (p : Nat → Int32) : ∀ k, pil nm s' b p k = pil nm s b p k
  | 0 => rfl
  | k + 1 => by unfold pil; rw [pil_c h hb p k, hgt_c h hb k, h (b + 2 * k) (by omega), h (b + 2 * k + 1) (by omega)]
theorem laF_c {s s' : SS} (h : ∀ i, 71 ≤ i → s' i = s i) (key : Int32) : ∀ n, laF s' key n = laF s key n
  | 0 => rfl
  | n + 1 => by unfold laF; rw [laF_c h key n, h _ (by omega)]
theorem vaT_c {nm : Int32 → Int32} {s s' : SS} (h : ∀ i, 71 ≤ i → s' i = s i) (t : Nat) : vaT nm s' t = vaT nm s t := by
  unfold vaT; rw [pil_c h (by omega), h _ (by omega)]
theorem wfX_c {s s' : SS} (h : ∀ i, 71 ≤ i → s' i = s i) {t : Nat} (hx : wfX s t) : wfX s' t := by
  obtain ⟨h1, m, h2, h3, h4, h5⟩ := hx
  refine ⟨by rw [h _ (by omega)]; exact h1, m, h2, by rw [h _ (by omega)]; exact h3, by rw [hgt_c h (by omega)]; exact h4, ?_⟩
  intro k hk
  rw [hgt_c h (by omega), h (75 + 200 * t + 2 * k) (by omega), h (75 + 200 * t + 2 * k + 1) (by omega), h (71 + 200 * t) (by omega)]
  exact h5 k hk
theorem nT_c {s s' : SS} (h : s' 1 = s 1) : nT s' = nT s := by unfold nT; rw [h]
theorem nN_c {s s' : SS} (h : s' 0 = s 0) : nN s' = nN s := by unfold nN; rw [h]
theorem WFt_c {s s' : SS} (h1 : s' 1 = s 1) (h : ∀ i, 71 ≤ i → s' i = s i) (hw : WFt s) : WFt s' := by
  unfold WFt
  rw [nT_c h1, h1]
  exact ⟨hw.1, hw.2.1, fun t ht => wfX_c h (hw.2.2 t ht)⟩
/-- well formed but for the spring -/
def WK (s : SS) : Prop := (s 0 = nI (nN s) ∧ nN s ≤ 10) ∧ WFr s ∧ WFc s ∧ WFm s ∧ WFt s
theorem WF.k {b : Nat} {s : SS} (h : WF b s) : WK s := ⟨h.1, h.2.2⟩
theorem WK.m {s : SS} (h : WK s) : (s 0 = nI (nN s) ∧ nN s ≤ 10) ∧ WFm s ∧ WFt s := ⟨h.1, h.2.2.2.1, h.2.2.2.2⟩
theorem WK.f {s : SS} (h : WK s) {b sp : Nat} (h1 : sp ≤ b) (h2 : s 2 = nI sp) : WF b s := ⟨h.1, ⟨sp, h1, h2⟩, h.2⟩
theorem WK.t3 {s : SS} (h : WK s) : ∃ a, 1 ≤ a ∧ a ≤ 9 ∧ s 3 = nI a := by
  obtain ⟨h1, h2⟩ := h.2.1.1
  obtain ⟨a, ha, e⟩ := (rg_iff (x := s 3) (b := 9) (by decide)).mp ⟨Int32.le_trans (by decide) h1, h2⟩
  refine ⟨a, ?_, ha, e⟩
  rw [e] at h1
  exact (nI_leI (a := 1) (by decide) (by omega)).mp h1
theorem WK.n3 {s : SS} (h : WK s) : ¬ s 3 = 0 := by
  obtain ⟨a, h1, h2, e⟩ := h.t3
  rw [e]; exact nI_ne0 (by omega) (by omega)
theorem siK_le {k w : Int32} : ∃ a, a ≤ 3 ∧ siK k w = nI a := by
  unfold siK
  split
  · split
    · exact ⟨2, by decide, rfl⟩
    · exact ⟨1, by decide, rfl⟩
  · split
    · exact ⟨2, by decide, rfl⟩
    · split
      · split
        · exact ⟨3, by decide, rfl⟩
        · exact ⟨2, by decide, rfl⟩
      · split
        · exact ⟨0, by decide, rfl⟩
        · exact ⟨1, by decide, rfl⟩
theorem faF_le {k : Int32} : ∃ a, a ≤ 5 ∧ faF k = nI a := by
  unfold faF
  split
  · exact ⟨0, by decide, rfl⟩
  · split
    · exact ⟨3, by decide, rfl⟩
    · split
      · exact ⟨3, by decide, rfl⟩
      · split
        · exact ⟨5, by decide, rfl⟩
        · exact ⟨1, by decide, rfl⟩
theorem cdp_at (s : SS) (c : Nat) {k : Nat} : ∀ n, k < n → cdp s c n (21 + 5 * k + 2) = if mk s k 3 = nI c then leF 9999 (mk s k 2 + siF s k) else mk s k 2
  | 0, h => absurd h (Nat.not_lt_zero _)
  | n + 1, h => by
    rw [cdp_s]
    by_cases e : k = n
    · subst e; rw [upd_s]
    · rw [upd_n (by omega)]; exact cdp_at s c n (by omega)
theorem ddp_at (s : SS) (c d : Int32) {k : Nat} : ∀ n, k < n → ddp s c d n (21 + 5 * k + 2) = if mk s k 3 = c then wiF (mk s k 2 - d) 9999 else mk s k 2
  | 0, h => absurd h (Nat.not_lt_zero _)
  | n + 1, h => by
    rw [ddp_s]
    by_cases e : k = n
    · subst e; rw [upd_s]
    · rw [upd_n (by omega)]; exact ddp_at s c d n (by omega)
theorem bdp_at4 (s : SS) (q : Nat → Bool) {k : Nat} : ∀ n, k < n → bdp s q n (21 + 5 * k + 4) = if q k then leF 9999 (mk s k 4 + 1) else mk s k 4
  | 0, h => absurd h (Nat.not_lt_zero _)
  | n + 1, h => by
    rw [bdp_s]
    by_cases e : k = n
    · subst e
      split
      · rw [upd_n (by omega), upd_s]
      · exact bdp_n s q k _ (fun j hj => by omega)
    · split
      · rw [upd_n (by omega), upd_n (by omega)]; exact bdp_at4 s q n (by omega)
      · exact bdp_at4 s q n (by omega)
theorem bdp_at1 (s : SS) (q : Nat → Bool) {k : Nat} : ∀ n, k < n → bdp s q n (21 + 5 * k + 1) = if q k then wiF (mk s k 1 - faF (mk s k 0)) 99 else mk s k 1
  | 0, h => absurd h (Nat.not_lt_zero _)
  | n + 1, h => by
    rw [bdp_s]
    by_cases e : k = n
    · subst e
      split
      · rw [upd_s]
      · exact bdp_n s q k _ (fun j hj => by omega)
    · split
      · rw [upd_n (by omega), upd_n (by omega)]; exact bdp_at1 s q n (by omega)
      · exact bdp_at1 s q n (by omega)
/-- a coat, place by place -/
theorem coF_o {s : SS} {c i : Nat} (h6 : c < 6) (h1 : i ≠ 9 + c) (h2 : i ≠ 15 + c) (h3 : ∀ j, j < nN s → i ≠ 21 + 5 * j + 2) : coF s c i = s i := by
  unfold coF
  rw [upd_n h1, cdp_n _ _ _ _ h3, upd_n h2]
theorem coF_w {s : SS} {c : Nat} : coF s c (9 + c) = if rmF (leF 9999 (s (15 + c) + 1)) (s 3) = 0 then wiF (s (9 + c) - 1) 99 else s (9 + c) := by unfold coF; rw [upd_s]
theorem coF_c {s : SS} {c : Nat} (h6 : c < 6) : coF s c (15 + c) = leF 9999 (s (15 + c) + 1) := by
  unfold coF; rw [upd_n (by omega), cdp_n _ _ _ _ (fun j _ => by omega), upd_s]
theorem coF_d {s : SS} {c k : Nat} (h6 : c < 6) (hk : k < nN s) (hr : rg (mk s k 3) 0 5) : coF s c (21 + 5 * k + 2) = if mk s k 3 = nI c then leF 9999 (mk s k 2 + siF s k) else mk s k 2 := by
  have e : ∀ w, mk (upd s (15 + c) (leF 9999 (s (15 + c) + 1))) k w = mk s k w := fun w => by unfold mk; rw [upd_n (by omega)]
  unfold coF
  rw [upd_n (by omega), cdp_at _ _ _ hk, e, e, siF_c (s := s) (e 0) (e 3) hr (fun c' h' => by rw [upd_n (by omega)])]
theorem coF_WK {s : SS} (h : WK s) {c : Nat} (h6 : c < 6) : WK (coF s c) := by
  obtain ⟨⟨h0, h10⟩, hr, hc, hm, ht⟩ := h
  have e0 : coF s c 0 = s 0 := coF_o h6 (by omega) (by omega) (fun j _ => by omega)
  refine ⟨?_, ?_, ?_, ?_, WFt_c (coF_o h6 (by omega) (by omega) (fun j _ => by omega)) (fun i hi => coF_o h6 (by omega) (by omega) (fun j hj => by omega)) ht⟩
  · rw [nN_c e0, e0]; exact ⟨h0, h10⟩
  · unfold WFr
    rw [coF_o h6 (i := 3) (by omega) (by omega) (fun j _ => by omega), coF_o h6 (i := 4) (by omega) (by omega) (fun j _ => by omega), coF_o h6 (i := 5) (by omega) (by omega) (fun j _ => by omega), coF_o h6 (i := 6) (by omega) (by omega) (fun j _ => by omega), coF_o h6 (i := 7) (by omega) (by omega) (fun j _ => by omega)]
    exact hr
  · intro d hd
    obtain ⟨w, hw, ew⟩ := (rg_iff (b := 99) (by decide)).mp (hc d hd).1
    obtain ⟨k, hk, ek⟩ := (rg_iff (b := 9999) (by decide)).mp (hc d hd).2
    by_cases e : d = c
    · subst e
      constructor
      · rw [coF_w]
        split
        · rw [ew]; exact rg_of (b := 99) (wiF_sub (b := 1) (c := 99) (by omega) (by decide) (by decide)) (by omega)
        · exact (hc d hd).1
      · rw [coF_c h6, ek, nI_1]; exact rg_of (b := 9999) (leF_nI (a := 9999) (by decide) (by omega)) (by omega)
    · rw [coF_o h6 (i := 9 + d) (by omega) (by omega) (fun j _ => by omega), coF_o h6 (i := 15 + d) (by omega) (by omega) (fun j _ => by omega)]
      exact hc d hd
  · intro k hk
    obtain ⟨g0, g1, g2, g3, g4⟩ := hm k hk
    have e : ∀ w, w < 5 → w ≠ 2 → mk (coF s c) k w = mk s k w := fun w _ _ => coF_o h6 (by omega) (by omega) (fun j _ => by omega)
    rw [e 0 (by decide) (by decide), e 1 (by decide) (by decide), e 3 (by decide) (by decide), e 4 (by decide) (by decide)]
    refine ⟨g0, g1, ?_, g3, g4⟩
    by_cases hkn : k < nN s
    · rw [show mk (coF s c) k 2 = _ from coF_d h6 hkn g3]
      split
      · obtain ⟨d, hd, ed⟩ := (rg_iff (b := 9999) (by decide)).mp g2
        obtain ⟨a, ha, ea⟩ : ∃ a, a ≤ 3 ∧ siF s k = nI a := siK_le
        rw [ed, ea, nI_add]
        exact rg_of (b := 9999) (leF_nI (a := 9999) (by decide) (by omega)) (by omega)
      · exact g2
    · rw [show mk (coF s c) k 2 = mk s k 2 from coF_o h6 (by omega) (by omega) (fun j _ => by omega)]; exact g2
theorem coN_WK {s : SS} (h : WK s) : ∀ c, c ≤ 6 → WK (coN s c)
  | 0, _ => h
  | c + 1, hc => coF_WK (coN_WK h c (by omega)) (by omega)
theorem brF_o {s : SS} {c : Int32} {i : Nat} (h6 : i ≠ 6) (h : ∀ j, j < nN s → i ≠ 21 + 5 * j + 4 ∧ i ≠ 21 + 5 * j + 1) : brF s c i = s i := by
  unfold brF; rw [upd_n h6, bdp_n _ _ _ _ h]
theorem brF_WK {s : SS} (h : WK s) (c : Int32) : WK (brF s c) := by
  obtain ⟨⟨h0, h10⟩, ⟨hr1, hr2, hr3, hr4, hr5⟩, hc, hm, ht⟩ := h
  have e0 : brF s c 0 = s 0 := brF_o (by omega) (fun j _ => by omega)
  refine ⟨?_, ⟨?_, ?_, ?_, ?_, ?_⟩, ?_, ?_, WFt_c (brF_o (by omega) (fun j _ => by omega)) (fun i hi => brF_o (by omega) (fun j hj => by omega)) ht⟩
  · rw [nN_c e0, e0]; exact ⟨h0, h10⟩
  · rw [brF_o (by omega) (fun j _ => by omega)]; exact hr1
  · rw [brF_o (by omega) (fun j _ => by omega)]; exact hr2
  · rw [brF_o (by omega) (fun j _ => by omega)]; exact hr3
  · obtain ⟨a, ha, ea⟩ := (rg_iff (b := 99999) (by decide)).mp hr4
    have hb := cntB_le (brQ s c) (nN s)
    unfold brF brA
    rw [upd_s, ea, nI_add]
    exact rg_of (b := 99999) (leF_nI (a := 99999) (by decide) (by omega)) (by omega)
  · rw [brF_o (by omega) (fun j _ => by omega)]; exact hr5
  · intro d hd
    rw [brF_o (by omega) (fun j _ => by omega), brF_o (by omega) (fun j _ => by omega)]
    exact hc d hd
  · intro k hk
    obtain ⟨g0, g1, g2, g3, g4⟩ := hm k hk
    have e : ∀ w, w < 5 → w ≠ 1 → w ≠ 4 → mk (brF s c) k w = mk s k w := fun w _ _ _ => brF_o (by omega) (fun j _ => by omega)
    rw [e 0 (by decide) (by decide) (by decide), e 2 (by decide) (by decide) (by decide), e 3 (by decide) (by decide) (by decide)]
    by_cases hkn : k < nN s
    · have e1 : mk (brF s c) k 1 = _ := (upd_n (by omega)).trans (bdp_at1 s (brQ s c) _ hkn)
      have e4 : mk (brF s c) k 4 = _ := (upd_n (by omega)).trans (bdp_at4 s (brQ s c) _ hkn)
      rw [e1, e4]
      split
      · obtain ⟨a, ha, ea⟩ := (rg_iff (b := 99) (by decide)).mp g1
        obtain ⟨b, hb, eb⟩ := (rg_iff (b := 9999) (by decide)).mp g4
        obtain ⟨f, hf, ef⟩ := faF_le (k := mk s k 0)
        rw [ea, eb, ef, nI_1]
        exact ⟨g0, rg_of (b := 99) (wiF_sub (c := 99) (by omega) (by omega) (by decide)) (by omega), g2, g3, rg_of (b := 9999) (leF_nI (a := 9999) (by decide) (by omega)) (by omega)⟩
      · exact ⟨g0, g1, g2, g3, g4⟩
    · rw [show mk (brF s c) k 1 = mk s k 1 from brF_o (by omega) (fun j _ => by omega), show mk (brF s c) k 4 = mk s k 4 from brF_o (by omega) (fun j _ => by omega)]
      exact ⟨g0, g1, g2, g3, g4⟩
theorem duF_o {s : SS} {c : Nat} {n : Int32} {i : Nat} (h1 : i ≠ 9 + c) (h2 : i ≠ 15 + c) (h7 : i ≠ 7) (h3 : ∀ j, j < nN s → i ≠ 21 + 5 * j + 2) : duF s c n i = s i := by
  unfold duF du1
  rw [ddp_n _ _ _ _ _ h3, upd_n h1, upd_n h7, upd_n h2]
theorem duF_WK {s : SS} (h : WK s) {c : Nat} (h6 : c < 6) {n : Nat} (hn : n ≤ 99) : WK (duF s c (nI n)) := by
  obtain ⟨th, t1, t2, t3⟩ := h.t3
  obtain ⟨⟨h0, h10⟩, ⟨hr1, hr2, hr3, hr4, hr5⟩, hc, hm, ht⟩ := h
  have e0 : duF s c (nI n) 0 = s 0 := duF_o (by omega) (by omega) (by omega) (fun j _ => by omega)
  obtain ⟨k15, hk15, ek15⟩ := (rg_iff (b := 9999) (by decide)).mp (hc c h6).2
  have eA : duA s c (nI n) = nI (min n k15) := by unfold duA; rw [ek15]; exact leF_nI (by omega) (by omega)
  refine ⟨?_, ⟨?_, ?_, ?_, ?_, ?_⟩, ?_, ?_, WFt_c (duF_o (by omega) (by omega) (by omega) (fun j _ => by omega)) (fun i hi => duF_o (by omega) (by omega) (by omega) (fun j hj => by omega)) ht⟩
  · rw [nN_c e0, e0]; exact ⟨h0, h10⟩
  · rw [duF_o (by omega) (by omega) (by omega) (fun j _ => by omega)]; exact hr1
  · rw [duF_o (by omega) (by omega) (by omega) (fun j _ => by omega)]; exact hr2
  · rw [duF_o (by omega) (by omega) (by omega) (fun j _ => by omega)]; exact hr3
  · rw [duF_o (by omega) (by omega) (by omega) (fun j _ => by omega)]; exact hr4
  · obtain ⟨a, ha, ea⟩ := (rg_iff (b := 99999) (by decide)).mp hr5
    unfold duF du1
    rw [ddp_n _ _ _ _ _ (fun j _ => by omega), upd_n (by omega), upd_s, eA, ea, nI_add]
    exact rg_of (b := 99999) (leF_nI (a := 99999) (by decide) (by omega)) (by omega)
  · intro d hd
    by_cases e : d = c
    · subst e
      obtain ⟨w, hw, ew⟩ := (rg_iff (b := 99) (by decide)).mp (hc d hd).1
      have hq : n / th ≤ n := Nat.div_le_self _ _
      constructor
      · unfold duF du1
        rw [ddp_n _ _ _ _ _ (fun j _ => by omega), upd_s, ew, t3, pk_div (by omega) (by omega) (by omega), nI_add]
        exact rg_of (b := 99) (leF_nI (a := 99) (by decide) (by omega)) (by omega)
      · unfold duF du1
        rw [ddp_n _ _ _ _ _ (fun j _ => by omega), upd_n (by omega), upd_n (by omega), upd_s, eA, ek15, pk_sub (by omega)]
        exact rg_of (b := 9999) rfl (by omega)
    · rw [duF_o (i := 9 + d) (by omega) (by omega) (by omega) (fun j _ => by omega), duF_o (i := 15 + d) (by omega) (by omega) (by omega) (fun j _ => by omega)]
      exact hc d hd
  · intro k hk
    obtain ⟨g0, g1, g2, g3, g4⟩ := hm k hk
    have e : ∀ w, w < 5 → w ≠ 2 → mk (duF s c (nI n)) k w = mk s k w := fun w _ _ => duF_o (by omega) (by omega) (by omega) (fun j _ => by omega)
    rw [e 0 (by decide) (by decide), e 1 (by decide) (by decide), e 3 (by decide) (by decide), e 4 (by decide) (by decide)]
    refine ⟨g0, g1, ?_, g3, g4⟩
    have em : ∀ w, mk (du1 s c (nI n)) k w = mk s k w := fun w => by unfold mk du1; rw [upd_n (by omega), upd_n (by omega), upd_n (by omega)]
    by_cases hkn : k < nN s
    · rw [show mk (duF s c (nI n)) k 2 = _ from ddp_at _ _ _ _ hkn, em, em]
      split
      · obtain ⟨d, hd, ed⟩ := (rg_iff (b := 9999) (by decide)).mp g2
        rw [ed]
        exact rg_of (b := 9999) (wiF_sub (c := 9999) (by omega) (by omega) (by decide)) (by omega)
      · exact g2
    · rw [show mk (duF s c (nI n)) k 2 = mk s k 2 from duF_o (by omega) (by omega) (by omega) (fun j _ => by omega)]; exact g2
theorem upd_WK {s : SS} (h : WK s) {i : Nat} (v : Int32) (hi : i = 2 ∨ i = 8) : WK (upd s i v) := by
  have e : ∀ j, j ≠ 2 → j ≠ 8 → upd s i v j = s j := fun j h2 h8 => upd_n (by omega)
  obtain ⟨⟨h0, h10⟩, hr, hc, hm, ht⟩ := h
  refine ⟨?_, ?_, ?_, ?_, WFt_c (e 1 (by decide) (by decide)) (fun i hi => e i (by omega) (by omega)) ht⟩
  · rw [nN_c (e 0 (by decide) (by decide)), e 0 (by decide) (by decide)]; exact ⟨h0, h10⟩
  · unfold WFr
    rw [e 3 (by decide) (by decide), e 4 (by decide) (by decide), e 5 (by decide) (by decide), e 6 (by decide) (by decide), e 7 (by decide) (by decide)]
    exact hr
  · intro c hc6; rw [e _ (by omega) (by omega), e _ (by omega) (by omega)]; exact hc c hc6
  · intro k hk; unfold mk; rw [e _ (by omega) (by omega), e _ (by omega) (by omega), e _ (by omega) (by omega), e _ (by omega) (by omega), e _ (by omega) (by omega)]; exact hm k hk
theorem drA_6 (s : SS) : ∃ a, a < 6 ∧ rmF (drA s) 6 = nI a := by
  obtain ⟨b, hb, e⟩ := usF_nat (drF (s 8))
  refine ⟨b % 6, Nat.mod_lt _ (by decide), ?_⟩
  unfold drA; rw [e]; exact rmF_nI (d := 6) (by omega) (by decide) (by decide)
theorem drA_10 (s : SS) : ∃ a, a < 10 ∧ rmF (drA s) 10 = nI a := by
  obtain ⟨b, hb, e⟩ := usF_nat (drF (s 8))
  refine ⟨b % 10, Nat.mod_lt _ (by decide), ?_⟩
  unfold drA; rw [e]; exact rmF_nI (d := 10) (by omega) (by decide) (by decide)
theorem spF_WK {s : SS} (h : WK s) : WK (spF s) := by
  unfold spF
  have h1 : WK (drS s) := upd_WK h _ (Or.inr rfl)
  split
  · obtain ⟨a, ha, ea⟩ := drA_6 (drS s)
    obtain ⟨b, hb, eb⟩ := drA_10 (drS (drS s))
    rw [ea, eb, nI_clamp (by omega)]
    exact duF_WK (upd_WK (upd_WK h1 _ (Or.inr rfl)) _ (Or.inr rfl)) ha (by omega)
  · exact h1
theorem goF_WK {s : SS} (h : WK s) : WK (goF s) := upd_WK (spF_WK (brF_WK (coN_WK h 6 (Nat.le_refl _)) _)) _ (Or.inl rfl)
theorem goF_WF {b : Nat} {s : SS} (h : WF b s) : WF (b + 1) (goF s) := by
  obtain ⟨sp, h1, h2⟩ := h.2.1
  exact (goF_WK h.k).f (sp := sp + 1) (by omega) (by unfold goF; rw [upd_s, h2, nI_1])
theorem goN_WF {b : Nat} {s : SS} (h : WF b s) : ∀ n, WF (b + n) (goN s n)
  | 0 => h
  | n + 1 => goF_WF (goN_WF h n)
