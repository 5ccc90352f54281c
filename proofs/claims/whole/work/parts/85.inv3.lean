/-! THE INVARIANT: sheets, slots -/
def KC (M N : TM) : Prop := ∀ t k, fr0 t → t ≠ 34 → t ≠ 35 → t ≠ 36 → ¬ ((t = 1 ∨ t = 12) ∧ k < 4) → N t k = M t k
theorem Iv_KC {M N : TM} (h : Iv M) (k : KC M N) (hC : IvC N) : Iv N := by
  obtain ⟨hA, hB, -, hD, hE, hF⟩ := h
  have e0 : ∀ t k', fr0 t → t ≠ 34 → t ≠ 35 → t ≠ 36 → t ≠ 1 → t ≠ 12 → N t k' = M t k' := fun t k' h1 h2 h3 h4 h5 h6 => k t k' h1 h2 h3 h4 (by omega)
  have e31 : N 31 0 = M 31 0 := e0 31 0 (by decide) (by decide) (by decide) (by decide) (by decide) (by decide)
  have eX : ∀ t k', 13 ≤ t → t ≤ 16 → N t k' = M t k' := fun t k' h1 h2 => e0 t k' (by unfold fr0; omega) (by omega) (by omega) (by omega) (by omega) (by omega)
  have eW : ∀ w t, (t = 4 ∨ (18 ≤ t ∧ t ≤ 27)) → N t w = M t w := fun w t ht => e0 t w (by unfold fr0; omega) (by omega) (by omega) (by omega) (by omega) (by omega)
  have e5 := e0 5 0 (by decide) (by decide) (by decide) (by decide) (by decide) (by decide)
  have e6 := e0 6 0 (by decide) (by decide) (by decide) (by decide) (by decide) (by decide)
  exact ⟨⟨by rw [e31]; exact hA.1, by rw [e31]; exact RW_f (eW 0) hA.2.1, by rw [e31]; exact RT_f eX hA.2.2⟩,
    IvB_f hB (by rw [e5]) (by rw [e6]) (e0 32 0 (by decide) (by decide) (by decide) (by decide) (by decide) (by decide)) (by rw [e31]) (eW 1) eX, hC,
    IvD_f hD (fun j _ => e0 2 j (by decide) (by decide) (by decide) (by decide) (by decide) (by decide)) (fun j _ => k 1 _ (by decide) (by decide) (by decide) (by decide) (by omega)) (fun j _ => k 12 _ (by decide) (by decide) (by decide) (by decide) (by omega)) (e0 37 0 (by decide) (by decide) (by decide) (by decide) (by decide) (by decide)) (e0 38 0 (by decide) (by decide) (by decide) (by decide) (by decide) (by decide)) (e0 39 0 (by decide) (by decide) (by decide) (by decide) (by decide) (by decide)) (e0 40 0 (by decide) (by decide) (by decide) (by decide) (by decide) (by decide)) (e0 41 0 (by decide) (by decide) (by decide) (by decide) (by decide) (by decide)),
    IvE_f hE (e0 28 0 (by decide) (by decide) (by decide) (by decide) (by decide) (by decide)) (e0 43 0 (by decide) (by decide) (by decide) (by decide) (by decide) (by decide)) (by rw [e5]) (by rw [e6]), IvF_f hF (e0 29 0 (by decide) (by decide) (by decide) (by decide) (by decide) (by decide)) (e0 47 0 (by decide) (by decide) (by decide) (by decide) (by decide) (by decide)) (by rw [e5]) (by rw [e6])⟩
def KD (M N : TM) : Prop := ∀ t k, fr0 t → t ≠ 2 → ¬ (37 ≤ t ∧ t ≤ 41) → ¬ ((t = 1 ∨ t = 12) ∧ 4 ≤ k) → N t k = M t k
theorem Iv_KD {M N : TM} (h : Iv M) (k : KD M N) (hD : IvD N) : Iv N := by
  obtain ⟨hA, hB, hC, -, hE, hF⟩ := h
  have e0 : ∀ t k', fr0 t → t ≠ 2 → ¬ (37 ≤ t ∧ t ≤ 41) → t ≠ 1 → t ≠ 12 → N t k' = M t k' := fun t k' h1 h2 h3 h5 h6 => k t k' h1 h2 h3 (by omega)
  have e31 : N 31 0 = M 31 0 := e0 31 0 (by decide) (by decide) (by decide) (by decide) (by decide)
  have eX : ∀ t k', 13 ≤ t → t ≤ 16 → N t k' = M t k' := fun t k' h1 h2 => e0 t k' (by unfold fr0; omega) (by omega) (by omega) (by omega) (by omega)
  have eW : ∀ w t, (t = 4 ∨ (18 ≤ t ∧ t ≤ 27)) → N t w = M t w := fun w t ht => e0 t w (by unfold fr0; omega) (by omega) (by omega) (by omega) (by omega)
  have e5 := e0 5 0 (by decide) (by decide) (by decide) (by decide) (by decide)
  have e6 := e0 6 0 (by decide) (by decide) (by decide) (by decide) (by decide)
  exact ⟨⟨by rw [e31]; exact hA.1, by rw [e31]; exact RW_f (eW 0) hA.2.1, by rw [e31]; exact RT_f eX hA.2.2⟩,
    IvB_f hB (by rw [e5]) (by rw [e6]) (e0 32 0 (by decide) (by decide) (by decide) (by decide) (by decide)) (by rw [e31]) (eW 1) eX,
    IvC_f hC (fun j hj => k 1 j (by decide) (by decide) (by decide) (by omega)) (fun j hj => k 12 j (by decide) (by decide) (by decide) (by omega)) (e0 34 0 (by decide) (by decide) (by decide) (by decide) (by decide)) (e0 35 0 (by decide) (by decide) (by decide) (by decide) (by decide)) (e0 36 0 (by decide) (by decide) (by decide) (by decide) (by decide)), hD,
    IvE_f hE (e0 28 0 (by decide) (by decide) (by decide) (by decide) (by decide)) (e0 43 0 (by decide) (by decide) (by decide) (by decide) (by decide)) (by rw [e5]) (by rw [e6]), IvF_f hF (e0 29 0 (by decide) (by decide) (by decide) (by decide) (by decide)) (e0 47 0 (by decide) (by decide) (by decide) (by decide) (by decide)) (by rw [e5]) (by rw [e6])⟩
theorem isS_lt {k : Int32} (h : isS k) : tn k < 4 := by
  obtain ⟨a, ha, -, ta⟩ := in_nat (x := k) (b := 3) h (by decide)
  omega
theorem isL_lt {k : Int32} (h : isL k) : tn k < 5 := by
  obtain ⟨a, ha, -, ta⟩ := in_nat (x := k) (b := 4) h (by decide)
  omega
theorem IvC.ws6 {M : TM} (h : IvC M) : WS6 M := fun k hk => by
  have e := h.2.1 k hk
  rw [← e.1, ← e.2.1]; exact h.1 k hk
theorem zeR_in (T : Nat → Int32) (a : Nat) : ∀ n i, a ≤ i → i < a + n → zeR T a n i = 0
  | 0, i, h1, h2 => by omega
  | n + 1, i, h1, h2 => by
    show upd (zeR T a n) (a + n) 0 i = 0
    by_cases e : i = a + n
    · rw [e, upd_s]
    · rw [upd_n e]; exact zeR_in T a n i h1 (by omega)
theorem zeR_out (T : Nat → Int32) (a : Nat) : ∀ n i, (i < a ∨ a + n ≤ i) → zeR T a n i = T i
  | 0, _, _ => rfl
  | n + 1, i, h => by
    show upd (zeR T a n) (a + n) 0 i = T i
    rw [upd_n (by omega)]; exact zeR_out T a n i (by omega)
theorem putA_k (M : TM) (t k : Nat) (f : Nat → Int32) {j : Nat} (h : j ≠ k) : putA M t k f t j = M t j := putA_nk M t k f h
theorem Iv_sheet {M : TM} (h : Iv M) {kk : Nat} (hk : kk < 4) {o z : Int32} (ho : o = -1 ∨ o = 0 ∨ o = 1) (hz : ∃ n, n ≤ 24 ∧ z = nI n) : Iv (putA (putA (putA (clM M kk o z) 34 0 (upd (clM M kk o z 34 0) kk o)) 35 0 (upd (clM M kk o z 35 0) kk z)) 36 0 (zeR (clM M kk o z 36 0) (24 * kk) 24)) := by
  have hC := h.2.2.1
  refine Iv_KC h (fun t j h1 h34 h35 h36 h4 => ?_) ⟨fun j hj => ?_, fun j hj => ?_, fun j hj hn => ?_⟩
  · unfold clM
    rw [putA_nt _ _ _ _ h36, putA_nt _ _ _ _ h35, putA_nt _ _ _ _ h34, putA_n _ _ _ _ (fun q => h4 ⟨Or.inl q.1, by omega⟩), putA_n _ _ _ _ (fun q => h4 ⟨Or.inr q.1, by omega⟩)]
  · show ((clM M kk o z) 1 j 1 = -1 ∨ (clM M kk o z) 1 j 1 = 0 ∨ (clM M kk o z) 1 j 1 = 1) ∧ ∃ z', z' ≤ 24 ∧ (clM M kk o z) 1 j 2 = nI z'
    by_cases e : j = kk
    · subst e
      unfold clM; rw [putA_s]
      exact ⟨ho, hz⟩
    · unfold clM; rw [putA_k _ _ _ _ e]; exact hC.1 j hj
  · show (clM M kk o z) 1 j 1 = upd (M 34 0) kk o j ∧ (clM M kk o z) 1 j 2 = upd (M 35 0) kk z j ∧ ∀ i, i < 24 → (clM M kk o z) 12 j i = zeR (M 36 0) (24 * kk) 24 (24 * j + i)
    by_cases e : j = kk
    · subst e
      refine ⟨by unfold clM; rw [putA_s, upd_s]; rfl, by unfold clM; rw [putA_s, upd_s, upd_s], fun i hi => ?_⟩
      rw [zeR_in _ _ _ _ (by omega) (by omega)]
      show putA M 12 j (mixF (fun _ => 0) (M 12 j) 24) 12 j i = 0
      rw [putA_s, mix_lo _ _ hi]
    · rw [upd_n e, upd_n e]
      unfold clM
      rw [putA_k _ _ _ _ e]
      refine ⟨(hC.2.1 j hj).1, (hC.2.1 j hj).2.1, fun i hi => ?_⟩
      rw [zeR_out _ _ _ _ (by omega)]
      show putA M 12 kk _ 12 j i = _
      rw [putA_k _ _ _ _ e]; exact (hC.2.1 j hj).2.2 i hi
  · have hn : ¬ (clM M kk o z) 1 j 1 < 0 := hn
    show rOK ((clM M kk o z) 12 j)
    by_cases e : j = kk
    · subst e
      intro i hi
      right
      rw [show (clM M j o z) 12 j i = 0 from by show putA M 12 j (mixF (fun _ => 0) (M 12 j) 24) 12 j i = 0; rw [putA_s, mix_lo _ _ hi]]
      decide
    · unfold clM at hn ⊢
      rw [putA_k _ _ _ _ e] at hn
      show rOK (putA M 12 kk _ 12 j)
      rw [putA_k _ _ _ _ e]; exact hC.2.2 j hj hn
theorem sh_rg (v : Int32) : -99999 ≤ v.toInt16.toInt32 ∧ v.toInt16.toInt32 ≤ 99999 := by
  have h1 := Int16.le_toInt v.toInt16
  have h2 := Int16.toInt_lt v.toInt16
  constructor
  · rw [Int32.le_iff_toInt_le, Int16.toInt_toInt32]; show (-99999 : Int) ≤ _; omega
  · rw [Int32.le_iff_toInt_le, Int16.toInt_toInt32]; show _ ≤ (99999 : Int); omega
theorem Iv_mark {M : TM} (h : Iv M) {kk ii : Nat} (hk : kk < 4) (hi : ii < 24) {val : Int32} (hv : val = NONEc ∨ (-99999 ≤ val ∧ val ≤ 99999)) : Iv (putA (putA M 12 kk (upd (M 12 kk) ii val)) 36 0 (upd (M 36 0) (24 * kk + ii) val)) := by
  have hC := h.2.2.1
  refine Iv_KC h (fun t j h1 h34 h35 h36 h4 => ?_) ⟨hC.1, fun j hj => ⟨(hC.2.1 j hj).1, (hC.2.1 j hj).2.1, fun i hi2 => ?_⟩, fun j hj hn => ?_⟩
  · rw [putA_nt _ _ _ _ h36, putA_n _ _ _ _ (fun q => h4 ⟨Or.inr q.1, by omega⟩)]
  · show putA M 12 kk (upd (M 12 kk) ii val) 12 j i = upd (M 36 0) (24 * kk + ii) val (24 * j + i)
    by_cases e : j = kk
    · subst e
      rw [putA_s]
      by_cases e2 : i = ii
      · rw [e2, upd_s, upd_s]
      · rw [upd_n e2, upd_n (by omega)]; exact (hC.2.1 j hj).2.2 i hi2
    · rw [putA_k _ _ _ _ e, upd_n (by omega)]; exact (hC.2.1 j hj).2.2 i hi2
  · show rOK (putA M 12 kk (upd (M 12 kk) ii val) 12 j)
    have hn : ¬ M 1 j 1 < 0 := hn
    by_cases e : j = kk
    · subst e
      rw [putA_s]
      intro i hi2
      by_cases e2 : i = ii
      · rw [e2, upd_s]; exact hv
      · rw [upd_n e2]; exact hC.2.2 j hj hn i hi2
    · rw [putA_k _ _ _ _ e]; exact hC.2.2 j hj hn
theorem Iv_copy {M : TM} (h : Iv M) {ff tt pl at_ m : Nat} (hf : ff < 4) (ht : tt < 4) (hp : pl + m ≤ 24) (ha : at_ + m ≤ 24) (hm : ¬ M 1 ff 1 < 0) (c : Nat → Int32) : Iv (putA (putA (putA M 12 tt (va_cpy (M 12 ff) (M 12 tt) pl at_ m)) 46 0 c) 36 0 (va_cpy (M 36 0) (M 36 0) (24 * ff + pl) (24 * tt + at_) m)) := by
  have hC := h.2.2.1
  refine Iv_KC h (fun t j h1 h34 h35 h36 h4 => ?_) ⟨hC.1, fun j hj => ⟨(hC.2.1 j hj).1, (hC.2.1 j hj).2.1, fun i hi2 => ?_⟩, fun j hj hn => ?_⟩
  · rw [putA_nt _ _ _ _ h36, putA_nt _ _ _ _ h1.2.2.2.2.2.2.1, putA_n _ _ _ _ (fun q => h4 ⟨Or.inr q.1, by omega⟩)]
  · show putA M 12 tt (va_cpy (M 12 ff) (M 12 tt) pl at_ m) 12 j i = va_cpy (M 36 0) (M 36 0) (24 * ff + pl) (24 * tt + at_) m (24 * j + i)
    by_cases e : j = tt
    · subst e
      rw [putA_s]
      by_cases e2 : at_ ≤ i ∧ i < at_ + m
      · rw [pk_cpy_in e2.1 e2.2, pk_cpy_in (by omega) (by omega), (hC.2.1 ff hf).2.2 _ (by omega)]
        congr 1; omega
      · rw [pk_cpy_out (by omega), pk_cpy_out (by omega)]; exact (hC.2.1 j hj).2.2 i hi2
    · rw [putA_k _ _ _ _ e, pk_cpy_out (by omega)]; exact (hC.2.1 j hj).2.2 i hi2
  · show rOK (putA M 12 tt (va_cpy (M 12 ff) (M 12 tt) pl at_ m) 12 j)
    have hn : ¬ M 1 j 1 < 0 := hn
    by_cases e : j = tt
    · subst e
      rw [putA_s]
      intro i hi2
      by_cases e2 : at_ ≤ i ∧ i < at_ + m
      · rw [pk_cpy_in e2.1 e2.2]; exact hC.2.2 ff hf hm _ (by omega)
      · rw [pk_cpy_out (by omega)]; exact hC.2.2 j hj hn i hi2
    · rw [putA_k _ _ _ _ e]; exact hC.2.2 j hj hn
/-- slots: one slot is laid anew -/
theorem Iv_slot {M N : TM} (h : Iv M) {ll : Nat} (hl : ll < 5) (k : KD M N) (k2 : ∀ l, l < 5 → l ≠ ll → N 2 l = M 2 l ∧ N 1 (l + 4) = M 1 (l + 4) ∧ N 12 (l + 4) = M 12 (l + 4)) (k3 : ∀ l, l < 5 → l ≠ ll → N 37 0 l = M 37 0 l ∧ N 38 0 l = M 38 0 l ∧ N 39 0 l = M 39 0 l ∧ N 40 0 l = M 40 0 l ∧ ∀ i, i < 24 → N 41 0 (24 * l + i) = M 41 0 (24 * l + i))
    (h1 : N 2 ll 1 = N 37 0 ll) (h2 : N 37 0 ll = 1 → N 2 ll 3 = N 38 0 ll ∧ woF (N 2 ll 3) (N 2 ll 4) (N 2 ll 5) = N 39 0 ll ∧ rg (N 2 ll 3) 0 5) (h3 : N 37 0 ll = 2 → N 1 (ll + 4) 2 = N 40 0 ll ∧ ∀ i, i < 24 → N 12 (ll + 4) i = N 41 0 (24 * ll + i)) (h4 : N 37 0 ll = 3 → N 2 ll 2 = N 38 0 ll) (h5 : ∃ z, z ≤ 24 ∧ N 40 0 ll = nI z) : Iv N := by
  refine Iv_KD h k (fun l hl5 => ?_)
  by_cases e : l = ll
  · subst e; exact ⟨h1, h2, h3, h4, h5⟩
  · obtain ⟨a1, a2, a3⟩ := k2 l hl5 e
    obtain ⟨b1, b2, b3, b4, b5⟩ := k3 l hl5 e
    obtain ⟨d1, d2, d3, d4, d5⟩ := h.2.2.2.1 l hl5
    rw [a1, a2, a3, b1, b2, b3, b4]
    exact ⟨d1, d2, fun z => ⟨(d3 z).1, fun i hi => ((d3 z).2 i hi).trans (b5 i hi).symm⟩, d4, d5⟩
