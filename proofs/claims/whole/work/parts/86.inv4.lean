/-! THE INVARIANT: lay, text -/
theorem Iv_lay {M : TM} (h : Iv M) (l t k : Int32) : Iv (mLay (mLay5 M (M 31 0) l t k) l t k) := by
  have hR := h.1.2.1
  have hW := h.1.1
  by_cases hc : cLay (M 31 0) l t k ∧ ¬ (t = 2 ∧ M 1 (tn k) 1 < 0)
  · have hl := isL_lt hc.1.1
    have e34 : t = 2 → M 1 (tn k) 1 = M 34 0 (tn k) := fun z => by
      have hS : isS k := by
        rcases hc.1.2 with q | q | q | q
        · exact absurd (z.symm.trans q) (by decide)
        · exact absurd (z.symm.trans q) (by decide)
        · exact absurd (z.symm.trans q.1) (by decide)
        · exact q.2
      exact (h.2.2.1.2.1 _ (isS_lt hS)).1
    have hc6 : cLay (M 31 0) l t k ∧ ¬ (t = 2 ∧ M 34 0 (tn k) < 0) := ⟨hc.1, fun z => hc.2 ⟨z.1, by rw [e34 z.1]; exact z.2⟩⟩
    have e1 : mLay5 M (M 31 0) l t k = lyM M l t k := by unfold mLay5; rw [if_pos hc]
    rw [e1]
    by_cases t1 : t = 1
    · subst t1
      have hM : isM (M 31 0) k := by
        rcases hc.1.2 with q | q | q | q
        · exact absurd q (by decide)
        · exact absurd q (by decide)
        · exact q.2
        · exact absurd q.1 (by decide)
      obtain ⟨hk10, hkn⟩ := isM_lt hW hM
      have eM := (hR.1.2.2 (tn k) hkn).2
      have eL : lyM M l 1 k = putA M 2 (tn l) (upd (upd (upd (upd (M 2 (tn l)) 1 1) 3 (M 21 0 (tn k))) 4 (M 22 0 (tn k))) 5 (M 25 0 (tn k))) := by unfold lyM; rw [if_pos rfl]
      rw [eL]
      have eN : ∀ M', M' 31 0 = M 31 0 → M' 34 0 = M 34 0 → mLay M' l 1 k = mLay0 M' l 1 k := fun M' q1 q2 => by
        unfold mLay; rw [q1, q2, if_pos hc6, if_neg (by decide)]
      rw [eN (putA M 2 (tn l) (upd (upd (upd (upd (M 2 (tn l)) 1 1) 3 (M 21 0 (tn k))) 4 (M 22 0 (tn k))) 5 (M 25 0 (tn k)))) rfl rfl]
      unfold mLay0
      rw [if_pos rfl, if_pos rfl]
      have f2 : ∀ (x : Nat → Int32), putA M 2 (tn l) x 2 (tn l) = x := fun x => putA_s _ _ _ _
      refine Iv_slot h hl (fun a b q1 q2 q3 q4 => by rw [putA_nt _ _ _ _ (by omega), putA_nt _ _ _ _ (by omega), putA_nt _ _ _ _ (by omega), putA_nt _ _ _ _ q2]) (fun a ha hne => ⟨putA_k _ _ _ _ hne, rfl, rfl⟩) (fun a ha hne => ⟨upd_n hne, upd_n hne, upd_n hne, rfl, fun _ _ => rfl⟩) ?_ (fun _ => ⟨?_, ?_, ?_⟩) (fun q => ?_) (fun q => ?_) (h.2.2.2.1 _ hl).2.2.2.2
      · show putA M 2 (tn l) _ 2 (tn l) 1 = upd (M 37 0) (tn l) 1 (tn l)
        rw [f2, upd_s]; rfl
      · show putA M 2 (tn l) _ 2 (tn l) 3 = upd (M 38 0) (tn l) _ (tn l)
        rw [f2, upd_s]; exact eM.1
      · show woF (putA M 2 (tn l) _ 2 (tn l) 3) (putA M 2 (tn l) _ 2 (tn l) 4) (putA M 2 (tn l) _ 2 (tn l) 5) = upd (M 39 0) (tn l) (woF (mk (M 31 0) (tn k) 0) (mk (M 31 0) (tn k) 1) (mk (M 31 0) (tn k) 4)) (tn l)
        rw [f2]
        show woF (M 21 0 (tn k)) (M 22 0 (tn k)) (M 25 0 (tn k)) = _
        rw [upd_s, eM.1, eM.2.1, eM.2.2.2.2]
      · show rg (putA M 2 (tn l) _ 2 (tn l) 3) 0 5
        rw [f2]
        show rg (M 21 0 (tn k)) 0 5
        rw [eM.1]; exact (hW.2.2.2.2.1 _ hk10).1
      · have q : upd (M 37 0) (tn l) 1 (tn l) = 2 := q
        rw [upd_s] at q; exact absurd q (by decide)
      · have q : upd (M 37 0) (tn l) 1 (tn l) = 3 := q
        rw [upd_s] at q; exact absurd q (by decide)
    · by_cases t2 : t = 2
      · subst t2
        have hS : isS k := by
          rcases hc.1.2 with q | q | q | q
          · exact absurd q (by decide)
          · exact absurd q (by decide)
          · exact absurd q.1 (by decide)
          · exact q.2
        have hk := isS_lt hS
        obtain ⟨c1, c2, c3⟩ := h.2.2.1.2.1 _ hk
        have eL : lyM M l 2 k = sbM (lyM0 M l 2) (tn l + 4) (tn k) := by unfold lyM; rw [if_neg (by decide), if_pos rfl]
        rw [eL]
        have eN : ∀ M', M' 31 0 = M 31 0 → M' 34 0 = M 34 0 → mLay M' l 2 k = putA (putA (mLay0 M' l 2 k) 40 0 (upd (M' 40 0) (tn l) (M' 35 0 (tn k)))) 41 0 (va_cpy (M' 36 0) (M' 41 0) (24 * tn k) (24 * tn l) 24) := fun M' q1 q2 => by
          unfold mLay; rw [q1, q2, if_pos hc6, if_pos rfl]
        have g31 : sbM (lyM0 M l 2) (tn l + 4) (tn k) 31 0 = M 31 0 := rfl
        rw [eN _ g31 rfl]
        unfold mLay0
        rw [if_neg (by decide), if_neg (by decide)]
        have f1 : sbM (lyM0 M l 2) (tn l + 4) (tn k) 1 (tn l + 4) 2 = M 1 (tn k) 2 := by
          unfold sbM; rw [putA_s]; rfl
        have f12 : ∀ i, i < 24 → sbM (lyM0 M l 2) (tn l + 4) (tn k) 12 (tn l + 4) i = M 12 (tn k) i := fun i hi => by
          show putA (lyM0 M l 2) 12 (tn l + 4) (va_cpy (M 12 (tn k)) (M 12 (tn l + 4)) 0 0 24) 12 (tn l + 4) i = _
          rw [putA_s, pk_cpy_in (Nat.zero_le _) (by omega)]; congr 1; omega
        have f2 : sbM (lyM0 M l 2) (tn l + 4) (tn k) 2 (tn l) 1 = 2 := by
          show putA M 2 (tn l) (upd (M 2 (tn l)) 1 2) 2 (tn l) 1 = 2
          rw [putA_s]; rfl
        refine Iv_slot h hl (fun a b q1 q2 q3 q4 => ?_) (fun a ha hne => ⟨?_, ?_, ?_⟩) (fun a ha hne => ⟨upd_n hne, upd_n hne, upd_n hne, upd_n hne, fun i hi => ?_⟩) ?_ (fun q => ?_) (fun _ => ⟨?_, fun i hi => ?_⟩) (fun q => ?_) ?_
        · rw [putA_nt _ _ _ _ (by omega), putA_nt _ _ _ _ (by omega), putA_nt _ _ _ _ (by omega), putA_nt _ _ _ _ (by omega), putA_nt _ _ _ _ (by omega)]
          unfold sbM lyM0
          rw [putA_n _ _ _ _ (fun z => q4 ⟨Or.inl z.1, by omega⟩), putA_n _ _ _ _ (fun z => q4 ⟨Or.inr z.1, by omega⟩), putA_nt _ _ _ _ q2]
        · show putA M 2 (tn l) _ 2 a = M 2 a
          exact putA_k _ _ _ _ hne
        · show putA (putA (lyM0 M l 2) 12 (tn l + 4) _) 1 (tn l + 4) _ 1 (a + 4) = M 1 (a + 4)
          rw [putA_k _ _ _ _ (by omega)]; rfl
        · show putA (lyM0 M l 2) 12 (tn l + 4) _ 12 (a + 4) = M 12 (a + 4)
          rw [putA_k _ _ _ _ (by omega)]; rfl
        · exact pk_cpy_out (by omega)
        · show sbM (lyM0 M l 2) (tn l + 4) (tn k) 2 (tn l) 1 = upd (M 37 0) (tn l) 2 (tn l)
          rw [f2, upd_s]
        · have q : upd (M 37 0) (tn l) 2 (tn l) = 1 := q
          rw [upd_s] at q; exact absurd q (by decide)
        · show sbM (lyM0 M l 2) (tn l + 4) (tn k) 1 (tn l + 4) 2 = upd (M 40 0) (tn l) (M 35 0 (tn k)) (tn l)
          rw [f1, upd_s]; exact c2
        · show sbM (lyM0 M l 2) (tn l + 4) (tn k) 12 (tn l + 4) i = va_cpy (M 36 0) (M 41 0) (24 * tn k) (24 * tn l) 24 (24 * tn l + i)
          rw [f12 i hi, pk_cpy_in (by omega) (by omega), c3 i hi]; congr 1; omega
        · have q : upd (M 37 0) (tn l) 2 (tn l) = 3 := q
          rw [upd_s] at q; exact absurd q (by decide)
        · obtain ⟨zz, hz1, hz2⟩ := (h.2.2.1.1 _ hk).2
          refine ⟨zz, hz1, ?_⟩
          show upd (M 40 0) (tn l) (M 35 0 (tn k)) (tn l) = nI zz
          rw [upd_s, ← c2]; exact hz2
      · have eN : ∀ M', M' 31 0 = M 31 0 → M' 34 0 = M 34 0 → mLay M' l t k = mLay0 M' l t k := fun M' q1 q2 => by
          unfold mLay; rw [q1, q2, if_pos hc6, if_neg t2]
        have eF : ∃ F : Nat → Int32, lyM M l t k = putA M 2 (tn l) F ∧ F 1 = t ∧ (t = 3 → F 2 = k) := by
          unfold lyM lyM0
          rw [if_neg t1, if_neg t2]
          by_cases t3 : t = 3
          · rw [if_pos t3]; exact ⟨_, rfl, rfl, fun _ => rfl⟩
          · rw [if_neg t3]; exact ⟨_, rfl, rfl, fun z => absurd z t3⟩
        obtain ⟨F, eF, eF1, eF2⟩ := eF
        rw [eF, eN (putA M 2 (tn l) F) rfl rfl]
        unfold mLay0
        rw [if_neg t1, if_neg t1]
        refine Iv_slot h hl (fun a b q1 q2 q3 q4 => by rw [putA_nt _ _ _ _ (by omega), putA_nt _ _ _ _ (by omega), putA_nt _ _ _ _ (by omega), putA_nt _ _ _ _ q2]) (fun a ha hne => ⟨putA_k _ _ _ _ hne, rfl, rfl⟩) (fun a ha hne => ⟨upd_n hne, upd_n hne, upd_n hne, rfl, fun _ _ => rfl⟩) ?_ (fun q => ?_) (fun q => ?_) (fun q => ?_) (h.2.2.2.1 _ hl).2.2.2.2
        · show putA M 2 (tn l) F 2 (tn l) 1 = upd (M 37 0) (tn l) t (tn l)
          rw [putA_s, upd_s]; exact eF1
        · have q : upd (M 37 0) (tn l) t (tn l) = 1 := q
          rw [upd_s] at q; exact absurd q t1
        · have q : upd (M 37 0) (tn l) t (tn l) = 2 := q
          rw [upd_s] at q; exact absurd q t2
        · have q : upd (M 37 0) (tn l) t (tn l) = 3 := q
          rw [upd_s] at q
          show putA M 2 (tn l) F 2 (tn l) 2 = upd (M 38 0) (tn l) k (tn l)
          rw [putA_s, upd_s]; exact eF2 q
  · have e1 : mLay5 M (M 31 0) l t k = M := by unfold mLay5; rw [if_neg hc]
    rw [e1]
    have hz : ¬ (cLay (M 31 0) l t k ∧ ¬ (t = 2 ∧ M 34 0 (tn k) < 0)) := fun z => hc ⟨z.1, fun y => z.2 ⟨y.1, by
      have hS : isS k := by
        rcases z.1.2 with q | q | q | q
        · exact absurd (y.1.symm.trans q) (by decide)
        · exact absurd (y.1.symm.trans q) (by decide)
        · exact absurd (y.1.symm.trans q.1) (by decide)
        · exact q.2
      rw [← (h.2.2.1.2.1 _ (isS_lt hS)).1]; exact y.2⟩⟩
    have e2 : mLay M l t k = M := by
      unfold mLay
      rw [if_neg hz]
    rw [e2]; exact h
theorem a_lay {M : TM} (h : Iv M) (l t k : Int32) : aLay5 M (M 31 0) l t k = aLay (mLay5 M (M 31 0) l t k) l t k := by
  have e31 : mLay5 M (M 31 0) l t k 31 0 = M 31 0 ∧ mLay5 M (M 31 0) l t k 34 0 = M 34 0 ∧ mLay5 M (M 31 0) l t k 37 0 = M 37 0 := by
    unfold mLay5 lyM
    split
    · split
      · exact ⟨rfl, rfl, rfl⟩
      · split
        · exact ⟨rfl, rfl, rfl⟩
        · split <;> exact ⟨rfl, rfl, rfl⟩
    · exact ⟨rfl, rfl, rfl⟩
  unfold aLay5 aLay
  rw [e31.1, e31.2.1, e31.2.2]
  by_cases hc : cLay (M 31 0) l t k
  · rw [if_pos hc, if_pos hc, (h.2.2.2.1 _ (isL_lt hc.1)).1]
    have e : (t = 2 ∧ M 1 (tn k) 1 < 0) ↔ (t = 2 ∧ M 34 0 (tn k) < 0) := by
      constructor
      · rintro ⟨y1, y2⟩
        refine ⟨y1, ?_⟩
        have hS : isS k := by
          rcases hc.2 with q | q | q | q
          · exact absurd (y1.symm.trans q) (by decide)
          · exact absurd (y1.symm.trans q) (by decide)
          · exact absurd (y1.symm.trans q.1) (by decide)
          · exact q.2
        rw [← (h.2.2.1.2.1 _ (isS_lt hS)).1]; exact y2
      · rintro ⟨y1, y2⟩
        refine ⟨y1, ?_⟩
        have hS : isS k := by
          rcases hc.2 with q | q | q | q
          · exact absurd (y1.symm.trans q) (by decide)
          · exact absurd (y1.symm.trans q) (by decide)
          · exact absurd (y1.symm.trans q.1) (by decide)
          · exact q.2
        rw [(h.2.2.1.2.1 _ (isS_lt hS)).1]; exact y2
    by_cases hq : t = 2 ∧ M 1 (tn k) 1 < 0
    · rw [if_pos hq, if_pos (e.mp hq)]
    · rw [if_neg hq, if_neg (fun z => hq (e.mpr z))]
  · rw [if_neg hc, if_neg hc]
