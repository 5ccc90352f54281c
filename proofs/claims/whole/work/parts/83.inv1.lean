/-! THE INVARIANT of both objects, and what keeps it -/
def IvA (M : TM) : Prop := WF 9999 (M 31 0) ∧ RW M 0 (M 31 0) ∧ RT M (M 31 0)
def IvB (M : TM) : Prop := M 5 0 4 = M 6 0 3 ∧ (¬ M 6 0 3 = 0 → WF 9999 (M 32 0) ∧ RW M 1 (M 32 0) ∧ RT M (M 32 0) ∧ nT (M 32 0) ≤ nT (M 31 0))
def IvC (M : TM) : Prop := WS5 M ∧ (∀ k, k < 4 → M 1 k 1 = M 34 0 k ∧ M 1 k 2 = M 35 0 k ∧ ∀ i, i < 24 → M 12 k i = M 36 0 (24 * k + i)) ∧ ∀ j, j < 4 → ¬ M 1 j 1 < 0 → rOK (M 12 j)
def IvD (M : TM) : Prop := ∀ l, l < 5 → M 2 l 1 = M 37 0 l ∧ (M 37 0 l = 1 → M 2 l 3 = M 38 0 l ∧ woF (M 2 l 3) (M 2 l 4) (M 2 l 5) = M 39 0 l ∧ rg (M 2 l 3) 0 5) ∧ (M 37 0 l = 2 → M 1 (l + 4) 2 = M 40 0 l ∧ ∀ i, i < 24 → M 12 (l + 4) i = M 41 0 (24 * l + i)) ∧ (M 37 0 l = 3 → M 2 l 2 = M 38 0 l) ∧ ∃ z, z ≤ 24 ∧ M 40 0 l = nI z
def IvE (M : TM) : Prop := M 28 0 = M 43 0 ∧ M 5 0 7 = M 6 0 14 ∧ (∃ n, n ≤ 96 ∧ M 6 0 14 = nI n) ∧ ∀ i, ∃ a, a < 256 ∧ M 43 0 i = nI a
def IvF (M : TM) : Prop := M 29 0 = M 47 0 ∧ M 5 0 11 = M 6 0 29 ∧ ∃ w, w ≤ 60 ∧ M 6 0 29 = nI w
def Iv (M : TM) : Prop := IvA M ∧ IvB M ∧ IvC M ∧ IvD M ∧ IvE M ∧ IvF M
theorem RW_f {M N : TM} {w : Nat} {s : SS} (h : ∀ t, (t = 4 ∨ (18 ≤ t ∧ t ≤ 27)) → N t w = M t w) (hR : RW M w s) : RW N w s := by
  have e4 := h 4 (Or.inl rfl)
  have e18 := h 18 (Or.inr ⟨by decide, by decide⟩)
  have e19 := h 19 (Or.inr ⟨by decide, by decide⟩)
  have e20 := h 20 (Or.inr ⟨by decide, by decide⟩)
  have e21 := h 21 (Or.inr ⟨by decide, by decide⟩)
  have e22 := h 22 (Or.inr ⟨by decide, by decide⟩)
  have e23 := h 23 (Or.inr ⟨by decide, by decide⟩)
  have e24 := h 24 (Or.inr ⟨by decide, by decide⟩)
  have e25 := h 25 (Or.inr ⟨by decide, by decide⟩)
  have e26 := h 26 (Or.inr ⟨by decide, by decide⟩)
  have e27 := h 27 (Or.inr ⟨by decide, by decide⟩)
  unfold RW RP RC RM at hR ⊢
  simp only [e4, e18, e19, e20, e21, e22, e23, e24, e25, e26, e27]
  exact hR
theorem RT_f {M N : TM} {s : SS} (h : ∀ t k, 13 ≤ t → t ≤ 16 → N t k = M t k) (hR : RT M s) : RT N s := by
  intro t ht
  rw [h 14 0 (by decide) (by decide), h 15 0 (by decide) (by decide), h 16 0 (by decide) (by decide), h 13 t (by decide) (by decide)]
  exact hR t ht
theorem IvB_f {M N : TM} (h : IvB M) (e54 : N 5 0 4 = M 5 0 4) (e63 : N 6 0 3 = M 6 0 3) (e32 : N 32 0 = M 32 0) (eT : nT (N 31 0) = nT (M 31 0)) (eW : ∀ t, (t = 4 ∨ (18 ≤ t ∧ t ≤ 27)) → N t 1 = M t 1) (eX : ∀ t k, 13 ≤ t → t ≤ 16 → N t k = M t k) : IvB N := by
  unfold IvB
  rw [e54, e63, e32, eT]
  exact ⟨h.1, fun hz => ⟨(h.2 hz).1, RW_f eW (h.2 hz).2.1, RT_f eX (h.2 hz).2.2.1, (h.2 hz).2.2.2⟩⟩
theorem IvC_f {M N : TM} (h : IvC M) (e1 : ∀ k, k < 4 → N 1 k = M 1 k) (e12 : ∀ k, k < 4 → N 12 k = M 12 k) (e34 : N 34 0 = M 34 0) (e35 : N 35 0 = M 35 0) (e36 : N 36 0 = M 36 0) : IvC N := by
  refine ⟨fun k hk => ?_, fun k hk => ?_, fun k hk => ?_⟩
  · rw [e1 k hk]; exact h.1 k hk
  · rw [e1 k hk, e12 k hk, e34, e35, e36]; exact h.2.1 k hk
  · rw [e1 k hk, e12 k hk]; exact h.2.2 k hk
theorem IvD_f {M N : TM} (h : IvD M) (e2 : ∀ l, l < 5 → N 2 l = M 2 l) (e1 : ∀ l, l < 5 → N 1 (l + 4) = M 1 (l + 4)) (e12 : ∀ l, l < 5 → N 12 (l + 4) = M 12 (l + 4)) (e37 : N 37 0 = M 37 0) (e38 : N 38 0 = M 38 0) (e39 : N 39 0 = M 39 0) (e40 : N 40 0 = M 40 0) (e41 : N 41 0 = M 41 0) : IvD N := by
  intro l hl
  rw [e2 l hl, e1 l hl, e12 l hl, e37, e38, e39, e40, e41]
  exact h l hl
theorem IvE_f {M N : TM} (h : IvE M) (e28 : N 28 0 = M 28 0) (e43 : N 43 0 = M 43 0) (e57 : N 5 0 7 = M 5 0 7) (e614 : N 6 0 14 = M 6 0 14) : IvE N := by
  unfold IvE; rw [e28, e43, e57, e614]; exact h
theorem IvF_f {M N : TM} (h : IvF M) (e29 : N 29 0 = M 29 0) (e47 : N 47 0 = M 47 0) (e511 : N 5 0 11 = M 5 0 11) (e629 : N 6 0 29 = M 6 0 29) : IvF N := by
  unfold IvF; rw [e29, e47, e511, e629]; exact h
abbrev fr0 (t : Nat) : Prop := t ≠ 17 ∧ t ≠ 30 ∧ t ≠ 33 ∧ t ≠ 42 ∧ t ≠ 44 ∧ t ≠ 45 ∧ t ≠ 46 ∧ t ≠ 48 ∧ t ≠ 0 ∧ t ≠ 10
def KQ (M N : TM) : Prop := ∀ t k, fr0 t → ¬ ((t = 4 ∨ (18 ≤ t ∧ t ≤ 27)) ∧ k = 2) → N t k = M t k
def KN (M N : TM) : Prop := ∀ t k, fr0 t → t ≠ 31 → ¬ ((t = 4 ∨ (18 ≤ t ∧ t ≤ 27)) ∧ k ≠ 1) → N t k = M t k
theorem Iv_now {M N : TM} (h : Iv M) (k : KN M N) (hS : Sok (M 31 0) (N 31 0)) (hR : RW N 0 (N 31 0)) : Iv N := by
  obtain ⟨hA, hB, hC, hD, hE, hF⟩ := h
  have e : ∀ t k', fr0 t → t ≠ 31 → ¬ (t = 4 ∨ (18 ≤ t ∧ t ≤ 27)) → N t k' = M t k' := fun t k' h1 h2 h3 => k t k' h1 h2 (fun z => h3 z.1)
  have eX : ∀ t k', 13 ≤ t → t ≤ 16 → N t k' = M t k' := fun t k' h1 h2 => e t k' (by unfold fr0; omega) (by omega) (by omega)
  have e5 := e 5 0 (by decide) (by decide) (by decide)
  have e6 := e 6 0 (by decide) (by decide) (by decide)
  exact ⟨⟨hS.1, hR, RT_to (RT_f eX hA.2.2) hS.2.1 hS.2.2⟩,
    IvB_f hB (by rw [e5]) (by rw [e6]) (e 32 0 (by decide) (by decide) (by decide)) (nT_c hS.2.1) (fun t ht => k t 1 (by unfold fr0; omega) (by omega) (fun z => z.2 rfl)) eX,
    IvC_f hC (fun j _ => e 1 j (by decide) (by decide) (by decide)) (fun j _ => e 12 j (by decide) (by decide) (by decide)) (e 34 0 (by decide) (by decide) (by decide)) (e 35 0 (by decide) (by decide) (by decide)) (e 36 0 (by decide) (by decide) (by decide)),
    IvD_f hD (fun j _ => e 2 j (by decide) (by decide) (by decide)) (fun j _ => e 1 _ (by decide) (by decide) (by decide)) (fun j _ => e 12 _ (by decide) (by decide) (by decide)) (e 37 0 (by decide) (by decide) (by decide)) (e 38 0 (by decide) (by decide) (by decide)) (e 39 0 (by decide) (by decide) (by decide)) (e 40 0 (by decide) (by decide) (by decide)) (e 41 0 (by decide) (by decide) (by decide)),
    IvE_f hE (e 28 0 (by decide) (by decide) (by decide)) (e 43 0 (by decide) (by decide) (by decide)) (by rw [e5]) (by rw [e6]),
    IvF_f hF (e 29 0 (by decide) (by decide) (by decide)) (e 47 0 (by decide) (by decide) (by decide)) (by rw [e5]) (by rw [e6])⟩
theorem Iv_KQ {M N : TM} (h : Iv M) (k : KQ M N) : Iv N := by
  have e31 : N 31 0 = M 31 0 := k 31 0 (by decide) (by decide)
  refine Iv_now h (fun t k' h1 h2 h3 => k t k' h1 (fun z => h3 ⟨z.1, by omega⟩)) ?_ ?_
  · rw [e31]; exact Sok.rf h.1.1
  · rw [e31]; exact RW_f (fun t ht => k t 0 (by unfold fr0; omega) (by omega)) h.1.2.1
theorem Kl.rf (M : TM) : Kl M M := fun _ _ _ _ _ => rfl
theorem Kl.s17 (M : TM) (f : Nat → Int32) : Kl M (putA M 17 0 f) := fun t k h1 _ _ => putA_nt _ _ _ _ h1
theorem Kl.s30 {M N : TM} (h : Kl M N) (f : Nat → Int32) : Kl M (putA N 30 0 f) := fun t k h1 h2 h3 => (putA_nt _ _ _ _ h2).trans (h t k h1 h2 h3)
theorem Kl.p2 {M N : TM} (h : Kp 2 M N) : Kl M N := fun t k h1 _ h3 => h t k h1 h3
theorem Kl.q {M N : TM} (h : Kl M N) : KQ M N := fun t k h1 h2 => h t k h1.1 h1.2.1 h2
theorem KQ.sc {M N : TM} (h : KQ M N) (f f2 : Nat → Int32) : KQ M (sc N f f2) := fun t k h1 h2 => by
  show putA (putA N 44 0 f) 45 0 f2 t k = _
  rw [putA_nt _ _ _ _ h1.2.2.2.2.2.1, putA_nt _ _ _ _ h1.2.2.2.2.1]; exact h t k h1 h2
theorem KQ.s42 {M N : TM} (h : KQ M N) (f : Nat → Int32) : KQ M (putA N 42 0 f) := fun t k h1 h2 => by
  rw [putA_nt _ _ _ _ h1.2.2.2.1]; exact h t k h1 h2
theorem KQ.s31 {M N : TM} (h : KQ M N) : KQ M (putA N 31 0 (M 31 0)) := fun t k h1 h2 => by
  by_cases e : t = 31 ∧ k = 0
  · rw [e.1, e.2, putA_s]
  · rw [putA_n _ _ _ _ e]; exact h t k h1 h2
theorem KN.p0 {M N : TM} (h : Kp 0 M N) (S : SS) : KN M (putA N 31 0 S) := fun t k h1 h2 h3 => by
  rw [putA_nt _ _ _ _ h2]; exact h t k h1.1 (fun z => h3 ⟨z.1, by omega⟩)
theorem KN.ps {M N : TM} (h : Kp 0 M N) (S : SS) (f f2 : Nat → Int32) : KN M (putA (sc N f f2) 31 0 S) := fun t k h1 h2 h3 => by
  rw [putA_nt _ _ _ _ h2]; unfold sc; rw [putA_nt _ _ _ _ h1.2.2.2.2.2.1, putA_nt _ _ _ _ h1.2.2.2.2.1]; exact h t k h1.1 (fun z => h3 ⟨z.1, by omega⟩)
theorem RW_31 {N : TM} {S S2 : SS} {f f2 : Nat → Int32} (h : RW N 0 S) : RW (putA (sc N f f2) 31 0 S2) 0 S := RW_f (fun t ht => by rw [putA_nt _ _ _ _ (by omega)]; unfold sc; rw [putA_nt _ _ _ _ (by omega), putA_nt _ _ _ _ (by omega)]) h
theorem RW_31' {N : TM} {S S2 : SS} (h : RW N 0 S) : RW (putA N 31 0 S2) 0 S := RW_f (fun t ht => by rw [putA_nt _ _ _ _ (by omega)]) h
theorem Iv_pa {M N : TM} {S : SS} (h : Iv M) (k : Kp 0 M N) (hR : RW N 0 S) (hS : Sok (M 31 0) S) : Iv (putA N 31 0 S) :=
  Iv_now h (KN.p0 k S) (by rw [putA_s]; exact hS) (by rw [putA_s]; exact RW_31' hR)
theorem Iv_pb {M N : TM} {S : SS} (h : Iv M) (k : Kp 0 M N) (hR : RW N 0 S) (hS : Sok (M 31 0) S) (f f2 : Nat → Int32) : Iv (putA (sc N f f2) 31 0 S) :=
  Iv_now h (KN.ps k S f f2) (by rw [putA_s]; exact hS) (by rw [putA_s]; exact RW_31 hR)
/-- what holds up to 2871 counts -/
theorem laF_c2 {s s' : SS} {key : Int32} {b : Nat} (h : ∀ i, i < 71 + 200 * b → s' i = s i) : ∀ n, n ≤ b → laF s' key n = laF s key n
  | 0, _ => rfl
  | n + 1, hn => by unfold laF; rw [laF_c2 h n (by omega), h _ (by omega)]
theorem RW_c3 {M : TM} {w : Nat} {s s' : SS} (h : ∀ i, i < 71 + 200 * nT s → s' i = s i) (hW : WF 9999 s) (hR : RW M w s) : RW M w s' := by
  have h10 := hW.1.2
  have h14 := hW.2.2.2.2.2.2.1
  have en : nN s' = nN s := nN_c (h 0 (by omega))
  have et : nT s' = nT s := nT_c (h 1 (by omega))
  have em : ∀ k v, k < 10 → v < 5 → mk s' k v = mk s k v := fun k v hk hv => h _ (by omega)
  have ec : ∀ c, ctF s' c = ctF s c := fun c => by
    unfold ctF; rw [en]; exact cntB_congr _ (fun k hk => by unfold inC; rw [em k 3 (by omega) (by decide)])
  have eco : ∀ key, coT s' key = coT s key := fun key => by unfold coT; rw [et, laF_c2 h _ (Nat.le_refl _)]
  obtain ⟨⟨⟨hc1, hc2, hc3, hc4⟩, ⟨hm1, hm2⟩, hm3⟩, h12, h16⟩ := hR
  refine ⟨⟨⟨fun c hc => ?_, ?_, ?_, ?_⟩, ⟨by rw [en]; exact hm1, by rw [en]; exact hm2⟩, fun i hi => ?_⟩, by rw [h 6 (by omega)]; exact h12, by rw [et]; exact h16⟩
  · rw [h _ (by omega), h _ (by omega), ec]; exact hc1 c hc
  · rw [h 3 (by omega), h 4 (by omega), h 5 (by omega)]; exact hc2
  · rw [eco, eco, eco]; exact hc3
  · rw [h 7 (by omega), h 2 (by omega), h 8 (by omega)]; exact hc4
  · rw [en] at hi ⊢
    obtain ⟨a1, a2⟩ := hm3 i hi
    refine ⟨a1, ?_⟩
    unfold RM
    rw [em i 0 (by omega) (by decide), em i 1 (by omega) (by decide), em i 2 (by omega) (by decide), em i 3 (by omega) (by decide), em i 4 (by omega) (by decide)]
    exact a2
theorem RT_c3 {M : TM} {s s' : SS} (h : ∀ i, i < 71 + 200 * nT s → s' i = s i) (hW : WF 9999 s) (hR : RT M s) : RT M s' := by
  have h14 := hW.2.2.2.2.2.2.1
  intro t ht
  rw [nT_c (h 1 (by omega))] at ht
  obtain ⟨-, m, hm, em, -⟩ := hW.2.2.2.2.2.2.2 t ht
  obtain ⟨r1, r2, r3, r4, r5⟩ := hR t ht
  have e73 := h (73 + 200 * t) (by omega)
  have etn : tn (s (73 + 200 * t)) = m := by rw [em]; exact nI_clamp (by omega)
  refine ⟨by rw [e73]; exact r1, by rw [h _ (by omega)]; exact r2, by rw [h _ (by omega)]; exact r3, fun k hk => ?_, fun k hk => ?_⟩
  · rw [e73, etn] at hk
    rw [h (75 + 200 * t + 2 * k) (by omega), h (75 + 200 * t + 2 * k + 1) (by omega)]
    exact r4 k (by rw [etn]; exact hk)
  · rw [e73, etn] at hk
    rw [h (75 + 200 * t + 2 * k) (by omega), h (75 + 200 * t + 2 * k + 1) (by omega), h (71 + 200 * t) (by omega)]
    exact r5 k (by rw [etn]; exact hk)
theorem le_c2 {s s' : SS} (hW : WF 9999 s) (h : ∀ i, i < 2871 → s' i = s i) : ∀ i, i < 71 + 200 * nT s → s' i = s i := fun i hi => h i (by have := hW.2.2.2.2.2.2.1; omega)
theorem RW_c2 {M : TM} {w : Nat} {s s' : SS} (h : ∀ i, i < 2871 → s' i = s i) (hW : WF 9999 s) (hR : RW M w s) : RW M w s' := RW_c3 (le_c2 hW h) hW hR
theorem RT_c2 {M : TM} {s s' : SS} (h : ∀ i, i < 2871 → s' i = s i) (hW : WF 9999 s) (hR : RT M s) : RT M s' := RT_c3 (le_c2 hW h) hW hR
theorem wfX_c3 {s s' : SS} {t b : Nat} (ht : t < b) (h : ∀ i, i ≠ 1 → i < 71 + 200 * b → s' i = s i) (hx : wfX s t) : wfX s' t := by
  obtain ⟨h1, m, h2, h3, h4, h5⟩ := hx
  refine ⟨by rw [h _ (by omega) (by omega)]; exact h1, m, h2, by rw [h _ (by omega) (by omega)]; exact h3, ?_, ?_⟩
  · rw [hgt_e (S := s) (b := 75 + 200 * t) m (fun j hj => h _ (by omega) (by omega))]; exact h4
  · intro k hk
    rw [h (71 + 200 * t) (by omega) (by omega), h (75 + 200 * t + 2 * k) (by omega) (by omega), h (75 + 200 * t + 2 * k + 1) (by omega) (by omega), hgt_e (S := s) (b := 75 + 200 * t) k (fun j hj => h _ (by omega) (by omega))]
    exact h5 k hk
theorem WF_c3 {b : Nat} {s s' : SS} (h : ∀ i, i < 71 + 200 * nT s → s' i = s i) (hW : WF b s) : WF b s' := by
  obtain ⟨⟨h0, h10⟩, ⟨sp, hs1, hs2⟩, hr, hc, hm, ht⟩ := hW
  refine ⟨by rw [nN_c (h 0 (by omega)), h 0 (by omega)]; exact ⟨h0, h10⟩, ⟨sp, hs1, by rw [h 2 (by omega)]; exact hs2⟩, ?_, ?_, ?_, ?_⟩
  · unfold WFr; rw [h 3 (by omega), h 4 (by omega), h 5 (by omega), h 6 (by omega), h 7 (by omega)]; exact hr
  · intro c hc6; rw [h _ (by omega), h _ (by omega)]; exact hc c hc6
  · intro j hj; unfold mk; rw [h _ (by omega), h _ (by omega), h _ (by omega), h _ (by omega), h _ (by omega)]; exact hm j hj
  · unfold WFt
    rw [nT_c (h 1 (by omega)), h 1 (by omega)]
    exact ⟨ht.1, ht.2.1, fun t h2 => wfX_c3 h2 (fun i _ hi => h i hi) (ht.2.2 t h2)⟩
