/-! THE INVARIANT: text -/
theorem tx_nT {s s' : SS} {T : Nat → Int32} {n : Nat} (h : TxO s s' T n) (ht : nT s < 14) : nT s' = nT s + 1 := by
  show (s' 1).toNatClampNeg = _
  rw [h.1, nI_clamp (by omega)]
theorem tx_WF {s s' : SS} {T : Nat → Int32} {n : Nat} (hW : WF 9999 s) (h : TxO s s' T n) (ht : nT s < 14) (hB : prB T n = true) (h96 : n ≤ 96) : WF 9999 s' := by
  obtain ⟨hG, hmn⟩ := prB_G hB
  obtain ⟨kk, hkk, ek⟩ := ky_k (prB_t.mp hB).1
  have ek : kyT T n = nI kk := ek
  have ent := tx_nT h ht
  obtain ⟨t1, t71, t72, t73, tS, tO⟩ := h
  obtain ⟨⟨h0, h10⟩, ⟨sp, hs1, hs2⟩, hr, hc, hm, hT⟩ := hW
  have e : ∀ i, i ≠ 1 → i < 71 → s' i = s i := fun i h1 h2 => tO i h1 (Or.inl (by omega))
  refine ⟨by rw [nN_c (e 0 (by decide) (by decide)), e 0 (by decide) (by decide)]; exact ⟨h0, h10⟩, ⟨sp, hs1, by rw [e 2 (by decide) (by decide)]; exact hs2⟩, ?_, ?_, ?_, ?_⟩
  · unfold WFr; rw [e 3 (by decide) (by decide), e 4 (by decide) (by decide), e 5 (by decide) (by decide), e 6 (by decide) (by decide), e 7 (by decide) (by decide)]; exact hr
  · intro c hc6; rw [e _ (by omega) (by omega), e _ (by omega) (by omega)]; exact hc c hc6
  · intro j hj; unfold mk; rw [e _ (by omega) (by omega), e _ (by omega) (by omega), e _ (by omega) (by omega), e _ (by omega) (by omega), e _ (by omega) (by omega)]; exact hm j hj
  · unfold WFt
    rw [ent]
    refine ⟨t1, by omega, fun t hlt => ?_⟩
    by_cases q : t = nT s
    · subst q
      have eS : ∀ k, k ≤ mm T n → hgt s' (75 + 200 * nT s) k = hgt (mS T n) 0 k := fun k hk => hgt_e k (fun j hj => by rw [Nat.zero_add]; exact tS j (by omega))
      obtain ⟨-, -, -, -, g5, g6⟩ := hG
      refine ⟨?_, mm T n, by omega, t73, ?_, fun k hk => ?_⟩
      · rw [t71, ek]
        rcases (show kk = 0 ∨ kk = 1 ∨ kk = 2 by omega) with rfl | rfl | rfl
        · exact Or.inl rfl
        · exact Or.inr (Or.inl rfl)
        · exact Or.inr (Or.inr rfl)
      · rw [eS _ (Nat.le_refl _)]; exact g5
      · have w1 := g6 k (Nat.zero_le _) hk
        rw [t71, eS k (by omega), tS (2 * k) (by omega), show 75 + 200 * nT s + 2 * k + 1 = 75 + 200 * nT s + (2 * k + 1) by omega, tS (2 * k + 1) (by omega)]
        exact ⟨w1.1, w1.2.1⟩
    · exact wfX_c3 (b := nT s) (by omega) (fun i h1 h2 => tO i h1 (Or.inl h2)) (hT.2.2 t (by omega))
theorem tx_la {s s' : SS} {T : Nat → Int32} {n : Nat} (h : TxO s s' T n) (key : Int32) : laF s' key (nT s + 1) = if kyT T n = key then nI (nT s) else laF s key (nT s) := by
  obtain ⟨t1, t71, t72, t73, tS, tO⟩ := h
  show (if s' (71 + 200 * nT s) = key then nI (nT s) else laF s' key (nT s)) = _
  rw [t71]
  have e1 : laF s' key (nT s) = laF (upd s' 1 (s 1)) key (nT s) := (laF_c (s := s') (s' := upd s' 1 (s 1)) (fun i hi => upd_n (by omega)) key _).symm
  have e2 : laF (upd s' 1 (s 1)) key (nT s) = laF s key (nT s) := laF_c2 (b := nT s) (fun i hi => by
    by_cases q : i = 1
    · rw [q, upd_s]
    · rw [upd_n q]; exact tO i q (Or.inl hi)) _ (Nat.le_refl _)
  rw [e1, e2]
theorem tx_RW {M N : TM} {s s' : SS} {T : Nat → Int32} {n : Nat} (hW : WF 9999 s) (hR : RW M 0 s) (h : TxO s s' T n) (ht : nT s < 14) (hB : prB T n = true) (eW : ∀ t, 18 ≤ t → t ≤ 26 → N t 0 = M t 0) (e27 : N 27 0 = upd (M 27 0) (tn (kyT T n)) (nI (nT s))) (e4 : N 4 0 = upd (M 4 0) 16 (nI (nT s + 1))) : RW N 0 s' := by
  obtain ⟨kk, hkk, ek⟩ := ky_k (prB_t.mp hB).1
  have ek : kyT T n = nI kk := ek
  have etn : tn (kyT T n) = kk := by rw [ek]; exact nI_clamp (by omega)
  have ent := tx_nT h ht
  have hla := tx_la h
  have h10 := hW.1.2
  obtain ⟨-, -, -, -, -, tO⟩ := h
  have e : ∀ i, i ≠ 1 → i < 71 → s' i = s i := fun i h1 h2 => tO i h1 (Or.inl (by omega))
  have en : nN s' = nN s := nN_c (e 0 (by decide) (by decide))
  have em : ∀ k v, k < 10 → v < 5 → mk s' k v = mk s k v := fun k v hk hv => e _ (by omega) (by omega)
  have ec : ∀ c, ctF s' c = ctF s c := fun c => by
    unfold ctF; rw [en]; exact cntB_congr _ (fun k hk => by unfold inC; rw [em k 3 (by omega) (by decide)])
  have eco : ∀ k, k < 3 → upd (M 27 0) kk (nI (nT s)) k = coT s' (nI k) := fun k hk => by
    have old : M 27 0 k = coT s (nI k) := by
      rcases (show k = 0 ∨ k = 1 ∨ k = 2 by omega) with rfl | rfl | rfl
      · exact hR.1.1.2.2.1.1
      · exact hR.1.1.2.2.1.2.1
      · exact hR.1.1.2.2.1.2.2
    unfold coT
    rw [ent, hla, ek]
    by_cases q : k = kk
    · subst q; rw [upd_s, if_pos rfl, if_neg (nI_pos (by omega))]
    · rw [upd_n q, if_neg (fun z => q (nI_inj (by omega) (by omega) z).symm), old]; rfl
  obtain ⟨⟨⟨hc1, hc2, hc3, hc4⟩, ⟨hm1, hm2⟩, hm3⟩, h12, h16⟩ := hR
  refine ⟨⟨⟨fun c hc => ?_, ?_, ?_, ?_⟩, ⟨?_, by rw [en]; exact hm2⟩, fun i hi => ?_⟩, ?_, ?_⟩
  · rw [eW 18 (by decide) (by decide), eW 19 (by decide) (by decide), eW 20 (by decide) (by decide), e _ (by omega) (by omega), e _ (by omega) (by omega), ec]; exact hc1 c hc
  · rw [eW 26 (by decide) (by decide), e 3 (by decide) (by decide), e 4 (by decide) (by decide), e 5 (by decide) (by decide)]; exact hc2
  · rw [e27, etn]; exact ⟨eco 0 (by decide), eco 1 (by decide), eco 2 (by decide)⟩
  · rw [e4, upd_n (by decide), upd_n (by decide), upd_n (by decide), e 7 (by decide) (by decide), e 2 (by decide) (by decide), e 8 (by decide) (by decide)]; exact hc4
  · rw [e4, upd_n (by decide), en]; exact hm1
  · rw [en] at hi
    obtain ⟨a1, a2⟩ := hm3 i hi
    refine ⟨by rw [en]; exact a1, ?_⟩
    unfold RM
    rw [eW 21 (by decide) (by decide), eW 22 (by decide) (by decide), eW 23 (by decide) (by decide), eW 24 (by decide) (by decide), eW 25 (by decide) (by decide), em i 0 (by omega) (by decide), em i 1 (by omega) (by decide), em i 2 (by omega) (by decide), em i 3 (by omega) (by decide), em i 4 (by omega) (by decide)]
    exact a2
  · rw [e4, upd_n (by decide), e 6 (by decide) (by decide)]; exact h12
  · rw [e4, upd_s, ent]
theorem tx_RT {M N : TM} {s s' : SS} {T : Nat → Int32} {n : Nat} (hW : WF 9999 s) (hR : RT M s) (h : TxO s s' T n) (ht : nT s < 14) (hB : prB T n = true) (h96 : n ≤ 96) (e14 : N 14 0 = upd (M 14 0) (nT s) (nI (mm T n))) (e15 : N 15 0 = upd (M 15 0) (nT s) (kyT T n)) (e16 : N 16 0 = upd (M 16 0) (nT s) (nI (lc (mS T n) (mm T n)))) (e13 : ∀ t, t ≠ nT s → N 13 t = M 13 t) (e13t : ∀ k, k < mm T n → N 13 (nT s) k = enF (kyT T n) (mS T n (2 * k)) (mS T n (2 * k + 1))) : RT N s' := by
  obtain ⟨hG, hmn⟩ := prB_G hB
  have ent := tx_nT h ht
  obtain ⟨t1, t71, t72, t73, tS, tO⟩ := h
  intro t hlt
  rw [ent] at hlt
  rw [e14, e15, e16]
  by_cases q : t = nT s
  · subst q
    have etn : tn (s' (73 + 200 * nT s)) = mm T n := by rw [t73]; exact nI_clamp (by omega)
    have ev : ∀ k, k < mm T n → s' (75 + 200 * nT s + 2 * k) = mS T n (2 * k) ∧ s' (75 + 200 * nT s + 2 * k + 1) = mS T n (2 * k + 1) := fun k hk => ⟨tS _ (by omega), by rw [show 75 + 200 * nT s + 2 * k + 1 = 75 + 200 * nT s + (2 * k + 1) by omega]; exact tS _ (by omega)⟩
    refine ⟨by rw [upd_s, t73], by rw [upd_s, t71], by rw [upd_s, t72], fun k hk => ?_, fun k hk => ?_⟩
    · rw [etn] at hk
      have w1 := hG.2.2.2.2.2 k (Nat.zero_le _) hk
      rw [(ev k hk).1, (ev k hk).2]
      exact ⟨w1.2.2.1, w1.2.2.2⟩
    · rw [etn] at hk
      rw [(ev k hk).1, (ev k hk).2, t71]; exact e13t k hk
  · have hlt2 : t < nT s := by omega
    obtain ⟨r1, r2, r3, r4, r5⟩ := hR t hlt2
    have e : ∀ i, i ≠ 1 → i < 71 + 200 * nT s → s' i = s i := fun i h1 h2 => tO i h1 (Or.inl h2)
    obtain ⟨-, m, hm, em, -⟩ := hW.2.2.2.2.2.2.2 t hlt2
    have e73 := e (73 + 200 * t) (by omega) (by omega)
    have etn : tn (s (73 + 200 * t)) = m := by rw [em]; exact nI_clamp (by omega)
    rw [upd_n q, upd_n q, upd_n q, e13 t q]
    refine ⟨by rw [e73]; exact r1, by rw [e _ (by omega) (by omega)]; exact r2, by rw [e _ (by omega) (by omega)]; exact r3, fun k hk => ?_, fun k hk => ?_⟩
    · rw [e73, etn] at hk
      rw [e (75 + 200 * t + 2 * k) (by omega) (by omega), e (75 + 200 * t + 2 * k + 1) (by omega) (by omega)]
      exact r4 k (by rw [etn]; exact hk)
    · rw [e73, etn] at hk
      rw [e (75 + 200 * t + 2 * k) (by omega) (by omega), e (75 + 200 * t + 2 * k + 1) (by omega) (by omega), e (71 + 200 * t) (by omega) (by omega)]
      exact r5 k (by rw [etn]; exact hk)
theorem RT_g {M N : TM} {s : SS} (h : ∀ t, t < nT s → N 14 0 t = M 14 0 t ∧ N 15 0 t = M 15 0 t ∧ N 16 0 t = M 16 0 t ∧ N 13 t = M 13 t) (hR : RT M s) : RT N s := by
  intro t ht
  obtain ⟨a1, a2, a3, a4⟩ := h t ht
  rw [a1, a2, a3, a4]; exact hR t ht
/-- text, behind the class's act N and the reference's act N2 -/
theorem Iv_text {M N N2 : TM} (h : Iv M) {n : Nat} (h96 : n ≤ 96) (r r2 : Option Value) (h5 : QTx5 M (M 31 0) (M 43 0) n r N) (h6 : QTx N (M 31 0) (M 43 0) n r2 N2) : Iv N2 := by
  obtain ⟨hA, hB, hC, hD, hE, hF⟩ := h
  obtain ⟨-, N1, ⟨⟨hK, -⟩, hP⟩, hN⟩ := h5
  obtain ⟨-, g1, g2, g14, g31⟩ := h6
  have hW := hA.1
  by_cases hq : prB (M 43 0) n = true ∧ nT (M 31 0) < 14
  · rw [if_pos hq] at hN g31
    obtain ⟨hb, hlt⟩ := hq
    obtain ⟨p1, p2, p3, p4⟩ := hP hb
    have k1 : ∀ t k, t ≠ 0 → t ≠ 10 → N1 t k = Mz M t k := fun t k q1 q2 => hK t k (fun z => q1 z.1) (fun z => q2 z.1)
    have k2 : ∀ t k, t ≠ 6 → t ≠ 31 → N2 t k = N t k := fun t k q1 q2 => g1 t k (fun z => q1 z.1) (fun z => q2 z.1)
    have k3 : ∀ t k, t ≠ 4 → t ≠ 27 → t ≠ 13 → t ≠ 14 → t ≠ 15 → t ≠ 16 → N t k = N1 t k := fun t k q1 q2 q3 q4 q5 q6 => by
      rw [hN]; unfold txN tkM
      rw [putA_nt _ _ _ _ q1, putA_nt _ _ _ _ q2, putA_nt _ _ _ _ q6, putA_nt _ _ _ _ q5, putA_nt _ _ _ _ q4, putA_nt _ _ _ _ q3]
    have k4 : ∀ t k, t ≠ 0 → t ≠ 10 → t ≠ 6 → t ≠ 31 → t ≠ 4 → t ≠ 27 → t ≠ 13 → t ≠ 14 → t ≠ 15 → t ≠ 16 → N2 t k = Mz M t k := fun t k a0 a10 a6 a31 a4 a27 a13 a14 a15 a16 => (k2 t k a6 a31).trans ((k3 t k a4 a27 a13 a14 a15 a16).trans (k1 t k a0 a10))
    have k5 : ∀ t k, t ≠ 0 → t ≠ 10 → t ≠ 6 → t ≠ 31 → t ≠ 4 → t ≠ 27 → t ≠ 13 → t ≠ 14 → t ≠ 15 → t ≠ 16 → t ≠ 5 → N2 t k = M t k := fun t k a0 a10 a6 a31 a4 a27 a13 a14 a15 a16 a5 => (k4 t k a0 a10 a6 a31 a4 a27 a13 a14 a15 a16).trans (putA_nt _ _ _ _ a5)
    have n4 : N2 4 0 = upd (M 4 0) 16 (nI (nT (M 31 0) + 1)) := by
      rw [k2 4 0 (by decide) (by decide), hN]
      show upd (N1 4 0) 16 _ = _
      rw [k1 4 0 (by decide) (by decide)]; rfl
    have n27 : N2 27 0 = upd (M 27 0) (tn (kyT (M 43 0) n)) (nI (nT (M 31 0))) := by
      rw [k2 27 0 (by decide) (by decide), hN]
      show upd (N1 27 0) _ _ = _
      rw [k1 27 0 (by decide) (by decide)]; rfl
    have n14 : N2 14 0 = upd (M 14 0) (nT (M 31 0)) (nI (mm (M 43 0) n)) := by
      rw [k2 14 0 (by decide) (by decide), hN]
      show upd (N1 14 0) _ _ = _
      rw [k1 14 0 (by decide) (by decide)]; rfl
    have n15 : N2 15 0 = upd (M 15 0) (nT (M 31 0)) (kyT (M 43 0) n) := by
      rw [k2 15 0 (by decide) (by decide), hN]
      show upd (N1 15 0) _ (N1 0 0 2) = _
      rw [k1 15 0 (by decide) (by decide), p2]; rfl
    have n16 : N2 16 0 = upd (M 16 0) (nT (M 31 0)) (nI (lc (mS (M 43 0) n) (mm (M 43 0) n))) := by
      rw [k2 16 0 (by decide) (by decide), hN]
      show upd (N1 16 0) _ (N1 0 0 3) = _
      rw [k1 16 0 (by decide) (by decide), p3]; rfl
    have n13 : ∀ t, t ≠ nT (M 31 0) → N2 13 t = M 13 t := fun t hne => by
      rw [k2 13 t (by decide) (by decide), hN]
      show putA N1 13 (nT (M 31 0)) _ 13 t = _
      rw [putA_k _ _ _ _ hne, k1 13 t (by decide) (by decide)]; rfl
    have n13t : ∀ k, k < mm (M 43 0) n → N2 13 (nT (M 31 0)) k = enF (kyT (M 43 0) n) (mS (M 43 0) n (2 * k)) (mS (M 43 0) n (2 * k + 1)) := fun k hk => by
      rw [k2 13 _ (by decide) (by decide), hN]
      show putA N1 13 (nT (M 31 0)) _ 13 (nT (M 31 0)) k = _
      rw [putA_s, pk_cpy_in (Nat.zero_le _) (by omega), show 0 + (k - 0) = k by omega]; exact p4 k hk
    have n6 : ∀ j, j < 14 ∨ 24 < j → N2 6 0 j = M 6 0 j := fun j hj => by
      rw [g2 j hj, k3 6 0 (by decide) (by decide) (by decide) (by decide) (by decide) (by decide), k1 6 0 (by decide) (by decide)]; rfl
    have n5 : N2 5 0 = upd (M 5 0) 7 0 := k4 5 0 (by decide) (by decide) (by decide) (by decide) (by decide) (by decide) (by decide) (by decide) (by decide) (by decide)
    have nW : ∀ w, w ≠ 0 → ∀ t, (t = 4 ∨ (18 ≤ t ∧ t ≤ 27)) → N2 t w = M t w := fun w hw t ht => by
      rw [k2 t w (by omega) (by omega), hN]
      unfold txN tkM
      rw [putA_nk _ _ _ _ hw, putA_nk _ _ _ _ hw, putA_nt _ _ _ _ (by omega), putA_nt _ _ _ _ (by omega), putA_nt _ _ _ _ (by omega), putA_nt _ _ _ _ (by omega), k1 t w (by omega) (by omega)]
      exact putA_nt _ _ _ _ (by omega)
    refine ⟨⟨tx_WF hW g31 hlt hb h96, tx_RW hW hA.2.1 g31 hlt hb (fun t a1 a2 => k5 t 0 (by omega) (by omega) (by omega) (by omega) (by omega) (by omega) (by omega) (by omega) (by omega) (by omega) (by omega)) n27 n4, tx_RT hW hA.2.2 g31 hlt hb h96 n14 n15 n16 n13 n13t⟩, ⟨?_, fun hz => ?_⟩, IvC_f hC (fun j _ => k5 1 j (by decide) (by decide) (by decide) (by decide) (by decide) (by decide) (by decide) (by decide) (by decide) (by decide) (by decide)) (fun j _ => k5 12 j (by decide) (by decide) (by decide) (by decide) (by decide) (by decide) (by decide) (by decide) (by decide) (by decide) (by decide)) (k5 34 0 (by decide) (by decide) (by decide) (by decide) (by decide) (by decide) (by decide) (by decide) (by decide) (by decide) (by decide)) (k5 35 0 (by decide) (by decide) (by decide) (by decide) (by decide) (by decide) (by decide) (by decide) (by decide) (by decide) (by decide)) (k5 36 0 (by decide) (by decide) (by decide) (by decide) (by decide) (by decide) (by decide) (by decide) (by decide) (by decide) (by decide)), IvD_f hD (fun j _ => k5 2 j (by decide) (by decide) (by decide) (by decide) (by decide) (by decide) (by decide) (by decide) (by decide) (by decide) (by decide)) (fun j _ => k5 1 _ (by decide) (by decide) (by decide) (by decide) (by decide) (by decide) (by decide) (by decide) (by decide) (by decide) (by decide)) (fun j _ => k5 12 _ (by decide) (by decide) (by decide) (by decide) (by decide) (by decide) (by decide) (by decide) (by decide) (by decide) (by decide)) (k5 37 0 (by decide) (by decide) (by decide) (by decide) (by decide) (by decide) (by decide) (by decide) (by decide) (by decide) (by decide)) (k5 38 0 (by decide) (by decide) (by decide) (by decide) (by decide) (by decide) (by decide) (by decide) (by decide) (by decide) (by decide)) (k5 39 0 (by decide) (by decide) (by decide) (by decide) (by decide) (by decide) (by decide) (by decide) (by decide) (by decide) (by decide)) (k5 40 0 (by decide) (by decide) (by decide) (by decide) (by decide) (by decide) (by decide) (by decide) (by decide) (by decide) (by decide)) (k5 41 0 (by decide) (by decide) (by decide) (by decide) (by decide) (by decide) (by decide) (by decide) (by decide) (by decide) (by decide)), ⟨?_, ?_, ⟨0, by decide, g14⟩, ?_⟩, IvF_f hF (k5 29 0 (by decide) (by decide) (by decide) (by decide) (by decide) (by decide) (by decide) (by decide) (by decide) (by decide) (by decide)) (k5 47 0 (by decide) (by decide) (by decide) (by decide) (by decide) (by decide) (by decide) (by decide) (by decide) (by decide) (by decide)) (by rw [n5]; rfl) (n6 29 (by decide))⟩
    · rw [n5, n6 3 (by decide)]; exact hB.1
    · rw [n6 3 (by decide)] at hz
      rw [k5 32 0 (by decide) (by decide) (by decide) (by decide) (by decide) (by decide) (by decide) (by decide) (by decide) (by decide) (by decide)]
      obtain ⟨b1, b2, b3, b4⟩ := hB.2 hz
      refine ⟨b1, RW_f (nW 1 (by decide)) b2, RT_g (fun t ht => ?_) b3, by rw [tx_nT g31 hlt]; omega⟩
      have hne : t ≠ nT (M 31 0) := by omega
      rw [n14, n15, n16]
      exact ⟨upd_n hne, upd_n hne, upd_n hne, n13 t hne⟩
    · rw [k5 28 0 (by decide) (by decide) (by decide) (by decide) (by decide) (by decide) (by decide) (by decide) (by decide) (by decide) (by decide), k5 43 0 (by decide) (by decide) (by decide) (by decide) (by decide) (by decide) (by decide) (by decide) (by decide) (by decide) (by decide)]; exact hE.1
    · rw [n5, g14]; rfl
    · rw [k5 43 0 (by decide) (by decide) (by decide) (by decide) (by decide) (by decide) (by decide) (by decide) (by decide) (by decide) (by decide)]; exact hE.2.2.2
  · rw [if_neg hq] at hN g31
    subst hN
    have k1 : ∀ t k, t ≠ 0 → t ≠ 10 → N t k = Mz M t k := fun t k q1 q2 => hK t k (fun z => q1 z.1) (fun z => q2 z.1)
    have k4 : ∀ t k, t ≠ 0 → t ≠ 10 → t ≠ 6 → t ≠ 31 → N2 t k = Mz M t k := fun t k a0 a10 a6 a31 => (g1 t k (fun z => a6 z.1) (fun z => a31 z.1)).trans (k1 t k a0 a10)
    have k5 : ∀ t k, t ≠ 0 → t ≠ 10 → t ≠ 6 → t ≠ 31 → t ≠ 5 → N2 t k = M t k := fun t k a0 a10 a6 a31 a5 => (k4 t k a0 a10 a6 a31).trans (putA_nt _ _ _ _ a5)
    have n6 : ∀ j, j < 14 ∨ 24 < j → N2 6 0 j = M 6 0 j := fun j hj => by
      rw [g2 j hj, k1 6 0 (by decide) (by decide)]; rfl
    have n5 : N2 5 0 = upd (M 5 0) 7 0 := k4 5 0 (by decide) (by decide) (by decide) (by decide)
    have hc3 : ∀ i, i < 71 + 200 * nT (M 31 0) → N2 31 0 i = M 31 0 i := fun i hi => g31 i (Or.inl (by have := hW.2.2.2.2.2.2.1; unfold b6; split <;> omega))
    have eX : ∀ t k, 13 ≤ t → t ≤ 16 → N2 t k = M t k := fun t k a1 a2 => k5 t k (by omega) (by omega) (by omega) (by omega) (by omega)
    have eW : ∀ w t, (t = 4 ∨ (18 ≤ t ∧ t ≤ 27)) → N2 t w = M t w := fun w t ht => k5 t w (by omega) (by omega) (by omega) (by omega) (by omega)
    refine ⟨⟨WF_c3 hc3 hW, RW_c3 hc3 hW (RW_f (eW 0) hA.2.1), RT_c3 hc3 hW (RT_f eX hA.2.2)⟩, IvB_f hB (by rw [n5]; rfl) (n6 3 (by decide)) (k5 32 0 (by decide) (by decide) (by decide) (by decide) (by decide)) (nT_c (hc3 1 (by omega))) (eW 1) eX, IvC_f hC (fun j _ => k5 1 j (by decide) (by decide) (by decide) (by decide) (by decide)) (fun j _ => k5 12 j (by decide) (by decide) (by decide) (by decide) (by decide)) (k5 34 0 (by decide) (by decide) (by decide) (by decide) (by decide)) (k5 35 0 (by decide) (by decide) (by decide) (by decide) (by decide)) (k5 36 0 (by decide) (by decide) (by decide) (by decide) (by decide)), IvD_f hD (fun j _ => k5 2 j (by decide) (by decide) (by decide) (by decide) (by decide)) (fun j _ => k5 1 _ (by decide) (by decide) (by decide) (by decide) (by decide)) (fun j _ => k5 12 _ (by decide) (by decide) (by decide) (by decide) (by decide)) (k5 37 0 (by decide) (by decide) (by decide) (by decide) (by decide)) (k5 38 0 (by decide) (by decide) (by decide) (by decide) (by decide)) (k5 39 0 (by decide) (by decide) (by decide) (by decide) (by decide)) (k5 40 0 (by decide) (by decide) (by decide) (by decide) (by decide)) (k5 41 0 (by decide) (by decide) (by decide) (by decide) (by decide)), ⟨?_, ?_, ⟨0, by decide, g14⟩, ?_⟩, IvF_f hF (k5 29 0 (by decide) (by decide) (by decide) (by decide) (by decide)) (k5 47 0 (by decide) (by decide) (by decide) (by decide) (by decide)) (by rw [n5]; rfl) (n6 29 (by decide))⟩
    · rw [k5 28 0 (by decide) (by decide) (by decide) (by decide) (by decide), k5 43 0 (by decide) (by decide) (by decide) (by decide) (by decide)]; exact hE.1
    · rw [n5, g14]; rfl
    · rw [k5 43 0 (by decide) (by decide) (by decide) (by decide) (by decide)]; exact hE.2.2.2
