/-! THE INVARIANT, PURE: what each act leaves is well formed -/
def Sok (s S : SS) : Prop := WF 9999 S ∧ S 1 = s 1 ∧ ∀ i, 71 ≤ i → S i = s i
theorem Sok.rf {s : SS} (h : WF 9999 s) : Sok s s := ⟨h, rfl, fun _ _ => rfl⟩
theorem WF_m {b : Nat} {s : SS} (h : WF b s) {k w : Nat} (h9 : k < 10) (hw : w < 5) {v : Int32} (h05 : w = 0 ∨ w = 3 → rg v 0 5) (h99 : w = 1 → rg v 0 99) (hbig : w = 2 ∨ w = 4 → rg v 0 9999) : WF b (upd s (21 + 5 * k + w) v) := by
  obtain ⟨⟨h0, h10⟩, ⟨sp, hs1, hs2⟩, hr, hc, hm, ht⟩ := h
  have e : ∀ i, i < 21 ∨ 71 ≤ i → upd s (21 + 5 * k + w) v i = s i := fun i hi => upd_n (by omega)
  refine ⟨by rw [nN_c (e 0 (by omega)), e 0 (by omega)]; exact ⟨h0, h10⟩, ⟨sp, hs1, by rw [e 2 (by omega)]; exact hs2⟩, ?_, ?_, ?_, WFt_c (e 1 (by omega)) (fun i hi => e i (by omega)) ht⟩
  · unfold WFr; rw [e 3 (by omega), e 4 (by omega), e 5 (by omega), e 6 (by omega), e 7 (by omega)]; exact hr
  · intro c hc6; rw [e _ (by omega), e _ (by omega)]; exact hc c hc6
  · intro j hj
    obtain ⟨g0, g1, g2, g3, g4⟩ := hm j hj
    have e2 : ∀ w', w' < 5 → mk (upd s (21 + 5 * k + w) v) j w' = if j = k ∧ w' = w then v else mk s j w' := by
      intro w' hw'
      by_cases q : j = k ∧ w' = w
      · rw [if_pos q, q.1, q.2]; exact upd_s
      · rw [if_neg q]; exact upd_n (by omega)
    refine ⟨?_, ?_, ?_, ?_, ?_⟩
    · rw [e2 0 (by decide)]; split
      · next q => exact h05 (Or.inl q.2.symm)
      · exact g0
    · rw [e2 1 (by decide)]; split
      · next q => exact h99 q.2.symm
      · exact g1
    · rw [e2 2 (by decide)]; split
      · next q => exact hbig (Or.inl q.2.symm)
      · exact g2
    · rw [e2 3 (by decide)]; split
      · next q => exact h05 (Or.inr q.2.symm)
      · exact g3
    · rw [e2 4 (by decide)]; split
      · next q => exact hbig (Or.inr q.2.symm)
      · exact g4
theorem WF_l {b : Nat} {s : SS} (h : WF b s) {i : Nat} {v : Int32} (hi : (9 ≤ i ∧ i < 15 ∧ rg v 0 99) ∨ (15 ≤ i ∧ i < 21 ∧ rg v 0 9999) ∨ (i = 3 ∧ rg v 1 9) ∨ (i = 4 ∧ rg v 0 99) ∨ (i = 5 ∧ rg v 0 100) ∨ i = 8) : WF b (upd s i v) := by
  obtain ⟨⟨h0, h10⟩, ⟨sp, hs1, hs2⟩, ⟨hr3, hr4, hr5, hr6, hr7⟩, hc, hm, ht⟩ := h
  have e : ∀ j, j ≠ i → upd s i v j = s j := fun j hj => upd_n hj
  refine ⟨by rw [nN_c (e 0 (by omega)), e 0 (by omega)]; exact ⟨h0, h10⟩, ⟨sp, hs1, by rw [e 2 (by omega)]; exact hs2⟩, ⟨?_, ?_, ?_, ?_, ?_⟩, ?_, ?_, WFt_c (e 1 (by omega)) (fun j hj => e j (by omega)) ht⟩
  · by_cases q : 3 = i
    · subst q; rw [upd_s]
      rcases hi with h | h | h | h | h | h
      · omega
      · omega
      · exact h.2
      · exact absurd h.1 (by decide)
      · exact absurd h.1 (by decide)
      · exact absurd h (by decide)
    · rw [e 3 q]; exact hr3
  · by_cases q : 4 = i
    · subst q; rw [upd_s]
      rcases hi with h | h | h | h | h | h
      · omega
      · omega
      · exact absurd h.1 (by decide)
      · exact h.2
      · exact absurd h.1 (by decide)
      · exact absurd h (by decide)
    · rw [e 4 q]; exact hr4
  · by_cases q : 5 = i
    · subst q; rw [upd_s]
      rcases hi with h | h | h | h | h | h
      · omega
      · omega
      · exact absurd h.1 (by decide)
      · exact absurd h.1 (by decide)
      · exact h.2
      · exact absurd h (by decide)
    · rw [e 5 q]; exact hr5
  · rw [e 6 (by omega)]; exact hr6
  · rw [e 7 (by omega)]; exact hr7
  · intro c hc6
    constructor
    · by_cases q : 9 + c = i
      · subst q; rw [upd_s]
        rcases hi with h | h | h | h | h | h
        · exact h.2.2
        · omega
        · omega
        · omega
        · omega
        · omega
      · rw [e _ q]; exact (hc c hc6).1
    · by_cases q : 15 + c = i
      · subst q; rw [upd_s]
        rcases hi with h | h | h | h | h | h
        · omega
        · exact h.2.2
        · omega
        · omega
        · omega
        · omega
      · rw [e _ q]; exact (hc c hc6).2
  · intro j hj; unfold mk; rw [e _ (by omega), e _ (by omega), e _ (by omega), e _ (by omega), e _ (by omega)]; exact hm j hj
theorem isM_lt {b : Nat} {s : SS} (h : WF b s) {m : Int32} (hm : isM s m) : tn m < 10 ∧ tn m < nN s := by
  obtain ⟨j, hj, rfl⟩ := nI_of (Int32.not_lt.mpr hm.1)
  have h2 : nI j ≤ s 0 - 1 := hm.2
  have h10 := h.1.2
  have e0 : s 0 = nI (nN s) := h.1.1
  rw [e0] at h2
  rw [show tn (nI j) = j from nI_clamp hj]
  by_cases h0 : nN s = 0
  · rw [h0] at h2
    exact absurd (Int32.le_trans (nI_pos' hj) h2) (by decide)
  · obtain ⟨q, hq⟩ : ∃ q, nN s = q + 1 := ⟨nN s - 1, by omega⟩
    rw [hq, nI_pred, nI_leI hj (by omega)] at h2
    omega
theorem in_nat {x : Int32} {b : Nat} (h : 0 ≤ x ∧ x ≤ nI b) (hb : b < 2 ^ 31) : ∃ a, a ≤ b ∧ x = nI a ∧ tn x = a := by
  obtain ⟨a, ha, e⟩ := (rg_iff hb).mp h
  exact ⟨a, ha, e, by rw [e]; exact nI_clamp (by omega)⟩
theorem k_writes {s : SS} (h : WF 9999 s) (k i d c : Int32) : Sok s (sWrites s k i d c) := by
  unfold sWrites
  split
  · next q =>
    obtain ⟨⟨zq1z, zq2z, zq3z, zq4z⟩, zq5z⟩ := q
    obtain ⟨k', hk, rfl, -⟩ := in_nat (b := 5) zq1z (by decide)
    obtain ⟨i', hi, rfl, -⟩ := in_nat (b := 99) zq2z (by decide)
    obtain ⟨d', hd, rfl, -⟩ := in_nat (b := 9999) zq3z (by decide)
    obtain ⟨c', hc, rfl, -⟩ := in_nat (b := 5) zq4z (by decide)
    have h9 : nN s < 10 := by
      have := h.1.2
      have : nN s ≠ 10 := fun z => zq5z (by rw [h.1.1, z]; rfl)
      omega
    obtain ⟨sp, hs1, hs2⟩ := h.2.1
    have hn := fun j h0 hj => cmF_n (s := s) (k := nI k') (i := nI i') (d := nI d') (c := nI c') (j := j) h0 hj
    exact ⟨(cmF_WK h.k h9 hk hi hd hc).1.f hs1 (by rw [hn 2 (by decide) (by omega)]; exact hs2), hn 1 (by decide) (by omega), fun j hj => hn j (by omega) (by omega)⟩
  · exact Sok.rf h
theorem k_turns {s : SS} (h : WF 9999 s) (m k : Int32) : Sok s (sTurns s m k) := by
  unfold sTurns
  split
  · next q =>
    have hm := (isM_lt h q.1).1
    exact ⟨WF_m h hm (by decide) (fun _ => q.2) (fun z => absurd z (by decide)) (fun z => absurd z (by decide)), upd_n (by omega), fun j hj => upd_n (by omega)⟩
  · exact Sok.rf h
theorem k_set {s : SS} (h : WF 9999 s) (m w v : Int32) : Sok s (sSet s m w v) := by
  unfold sSet
  by_cases qz : (isM s m ∧ (1 ≤ w ∧ w ≤ 4) ∧ (0 ≤ v ∧ v ≤ (if w = 1 then 99 else if w = 3 then 5 else 9999)))
  · rw [if_pos qz]
    obtain ⟨zq1z, zq2z, zq3z⟩ := qz
    have hm := (isM_lt h zq1z).1
    obtain ⟨a, ha, ew, ta⟩ := in_nat (x := w) (b := 4) ⟨Int32.le_trans (by decide) zq2z.1, zq2z.2⟩ (by decide)
    have h1a : 1 ≤ a := by have := zq2z.1; rw [ew] at this; exact (nI_leI (a := 1) (by decide) (by omega)).mp this
    rw [ta]
    subst ew
    refine ⟨WF_m h hm (by omega) (fun z => ?_) (fun z => ?_) (fun z => ?_), upd_n (by omega), fun j hj => upd_n (by omega)⟩
    · obtain rfl : a = 3 := by omega
      exact zq3z
    · subst z; exact zq3z
    · rcases z with rfl | rfl <;> exact zq3z
  · rw [if_neg qz]; exact Sok.rf h
theorem k_cell {s : SS} (h : WF 9999 s) (c w v : Int32) : Sok s (sCell s c w v) := by
  unfold sCell
  by_cases qz : ((0 ≤ c ∧ c ≤ 5) ∧ (0 ≤ w ∧ w ≤ 1) ∧ (0 ≤ v ∧ v ≤ (if w = 0 then 99 else 9999)))
  · rw [if_pos qz]
    obtain ⟨zq1z, zq2z, zq3z⟩ := qz
    obtain ⟨a, ha, ea, ta⟩ := in_nat (x := c) (b := 5) zq1z (by decide)
    rw [ta]
    by_cases hw : w = 0
    · rw [if_pos hw] at zq3z ⊢
      exact ⟨WF_l h (Or.inl ⟨by omega, by omega, zq3z⟩), upd_n (by omega), fun j hj => upd_n (by omega)⟩
    · rw [if_neg hw] at zq3z ⊢
      exact ⟨WF_l h (Or.inr (Or.inl ⟨by omega, by omega, zq3z⟩)), upd_n (by omega), fun j hj => upd_n (by omega)⟩
  · rw [if_neg qz]; exact Sok.rf h
theorem k_rule {s : SS} (h : WF 9999 s) (w v : Int32) : Sok s (sRule s w v) := by
  unfold sRule
  by_cases qz : ((0 ≤ w ∧ w ≤ 2) ∧ ((if w = 0 then 1 else 0) ≤ v ∧ v ≤ (if w = 0 then 9 else if w = 1 then 99 else 100)))
  · rw [if_pos qz]
    obtain ⟨zq1z, zq2z⟩ := qz
    obtain ⟨a, ha, ea, ta⟩ := in_nat (x := w) (b := 2) zq1z (by decide)
    rw [ta]
    subst ea
    refine ⟨WF_l h ?_, upd_n (by omega), fun j hj => upd_n (by omega)⟩
    rcases (show a = 0 ∨ a = 1 ∨ a = 2 by omega) with rfl | rfl | rfl
    · exact Or.inr (Or.inr (Or.inl ⟨rfl, zq2z⟩))
    · exact Or.inr (Or.inr (Or.inr (Or.inl ⟨rfl, zq2z⟩)))
    · exact Or.inr (Or.inr (Or.inr (Or.inr (Or.inl ⟨rfl, zq2z⟩))))
  · rw [if_neg qz]; exact Sok.rf h
theorem k_seed {s : SS} (h : WF 9999 s) (v : Int32) : Sok s (upd s 8 v) := ⟨WF_l h (Or.inr (Or.inr (Or.inr (Or.inr (Or.inr rfl))))), upd_n (by decide), fun j hj => upd_n (by omega)⟩
theorem deN_hi {s : SS} (h : WK s) : ∀ k, nN s + k ≤ 10 → deN s k 1 = s 1 ∧ ∀ i, 71 ≤ i → deN s k i = s i
  | 0, _ => ⟨rfl, fun _ _ => rfl⟩
  | k + 1, hk => by
    obtain ⟨g1, g2⟩ := deN_hi h k (by omega)
    obtain ⟨h1, h2, h3⟩ := deN_ok h k (by omega)
    have en : nN (drS (drS (drS (drS (deN s k))))) = nN (deN s k) := nN_c (by unfold drS; rw [upd_n (by decide), upd_n (by decide), upd_n (by decide), upd_n (by decide)])
    have hd : ∀ i, i ≠ 8 → drS (drS (drS (drS (deN s k)))) i = deN s k i := fun i hi => by unfold drS; rw [upd_n hi, upd_n hi, upd_n hi, upd_n hi]
    refine ⟨?_, fun i hi => ?_⟩
    · show de1 _ 1 = _; unfold de1; rw [cmF_n (by decide) (by omega), hd 1 (by decide)]; exact g1
    · show de1 _ i = _; unfold de1; rw [cmF_n (by omega) (by omega), hd i (by omega)]; exact g2 i hi
theorem k_deal {s : SS} (h : WF 9999 s) (n : Int32) : Sok s (sDeal s n) := by
  unfold sDeal
  split
  · have hn : nN s + deA s n ≤ 10 := by have := h.1.2; unfold deA; omega
    obtain ⟨sp, hs1, hs2⟩ := h.2.1
    obtain ⟨g1, g2, g3⟩ := deN_ok h.k (deA s n) hn
    obtain ⟨e1, e2⟩ := deN_hi h.k (deA s n) hn
    exact ⟨g1.f hs1 (by rw [g3]; exact hs2), e1, e2⟩
  · exact Sok.rf h
theorem k_breathe {s : SS} (h : WF 9999 s) (c : Int32) : Sok s (sBreathe s c) := by
  unfold sBreathe
  split
  · obtain ⟨sp, hs1, hs2⟩ := h.2.1
    have h10 := h.1.2
    have e : ∀ i, i < 6 ∨ 71 ≤ i → brF s c i = s i := fun i hi => brF_o (by omega) (fun j hj => by omega)
    exact ⟨(brF_WK h.k c).f hs1 (by rw [e 2 (by omega)]; exact hs2), e 1 (by omega), fun i hi => e i (by omega)⟩
  · exact Sok.rf h
theorem k_dig {s : SS} (h : WF 9999 s) (c n : Int32) : Sok s (sDig s c n) := by
  unfold sDig
  split
  · next q =>
    obtain ⟨a, ha, -, ta⟩ := in_nat (x := c) (b := 5) q.1 (by decide)
    obtain ⟨b, hb, rfl, -⟩ := in_nat (x := n) (b := 99) q.2 (by decide)
    rw [ta]
    exact ⟨duF_WF h (by omega) hb, duF_o (by omega) (by omega) (by omega) (fun j _ => by omega), fun i hi => duF_hi h.k (by omega) _ hi⟩
  · exact Sok.rf h
theorem k_springs {s : SS} (h : WF 9999 s) (n : Int32) : Sok s (sSprings s n) := by
  unfold sSprings
  split
  · obtain ⟨sp, hs1, hs2⟩ := h.2.1
    have hb : WF sp s := h.k.f (Nat.le_refl sp) hs2
    have q := goN_WF hb (spN s n)
    obtain ⟨sp', h1, h2⟩ := q.2.1
    have hsp : spN s n ≤ 9999 - sp := by unfold spN; rw [hs2]; show _ ≤ 9999 - sp; rw [show tn (nI sp) = sp from nI_clamp (by omega)]; omega
    exact ⟨q.k.f (by omega) h2, goN_o h.k (by omega) _, fun i hi => goN_o h.k (by omega) _⟩
  · exact Sok.rf h
theorem poS_WF {row : Nat → Int32} {s : SS} (h : WF 9999 s) : ∀ k, k ≤ 10 → WF 9999 (poS row s k)
  | 0, _ => h
  | k + 1, hk => by
    show WF 9999 (upd _ _ _)
    refine WF_m (poS_WF h k (by omega)) (by omega) (by decide) (fun z => absurd z (by decide)) (fun _ => ?_) (fun z => absurd z (by decide))
    unfold poV
    split
    · exact (h.2.2.2.2.1 k (by omega)).2.1
    · unfold wiF
      by_cases h1 : row k < 0
      · rw [if_pos h1]; exact ⟨by decide, by decide⟩
      · rw [if_neg h1]
        by_cases h2 : 99 < row k
        · rw [if_pos h2]; exact ⟨by decide, by decide⟩
        · rw [if_neg h2]; exact ⟨Int32.not_lt.mp h1, Int32.not_lt.mp h2⟩
theorem k_pour {s : SS} (h : WF 9999 s) (so : Int32) (z : Nat) (row : Nat → Int32) : Sok s (sPour so z row s) := by
  unfold sPour
  split
  · exact Sok.rf h
  · have h10 := h.1.2
    exact ⟨poS_WF h _ (by omega), poS_n _ _ _ _ (fun j hj => by omega), fun i hi => poS_n _ _ _ _ (fun j hj => by omega)⟩
