/-! THE INVARIANT: tape, numbers that wait, images -/
theorem fm_nt {M : TM} {j : Nat} {v : Int32} {t k : Nat} (h : t ≠ 6) : fm M j v t k = M t k := putA_nt _ _ _ _ h
def KE (M N : TM) : Prop := ∀ t k, fr0 t → t ≠ 5 → t ≠ 6 → t ≠ 28 → t ≠ 29 → t ≠ 43 → t ≠ 47 → ¬ ((t = 4 ∨ (18 ≤ t ∧ t ≤ 27)) ∧ k = 2) → N t k = M t k
theorem Iv_KE {M N : TM} (h : Iv M) (k : KE M N) (hE : IvE N) (hF : IvF N) (e54 : N 5 0 4 = M 5 0 4) (e63 : N 6 0 3 = M 6 0 3) : Iv N := by
  obtain ⟨hA, hB, hC, hD, -, -⟩ := h
  have e31 : N 31 0 = M 31 0 := k 31 0 (by decide) (by decide) (by decide) (by decide) (by decide) (by decide) (by decide) (by decide)
  have eX : ∀ t k', 13 ≤ t → t ≤ 16 → N t k' = M t k' := fun t k' h1 h2 => k t k' (by unfold fr0; omega) (by omega) (by omega) (by omega) (by omega) (by omega) (by omega) (by omega)
  have eW : ∀ w, w ≠ 2 → ∀ t, (t = 4 ∨ (18 ≤ t ∧ t ≤ 27)) → N t w = M t w := fun w hw t ht => k t w (by unfold fr0; omega) (by omega) (by omega) (by omega) (by omega) (by omega) (by omega) (by omega)
  have e1 : ∀ j, N 1 j = M 1 j := fun j => k 1 j (by decide) (by decide) (by decide) (by decide) (by decide) (by decide) (by decide) (by omega)
  have e12 : ∀ j, N 12 j = M 12 j := fun j => k 12 j (by decide) (by decide) (by decide) (by decide) (by decide) (by decide) (by decide) (by omega)
  have e2 : ∀ j, N 2 j = M 2 j := fun j => k 2 j (by decide) (by decide) (by decide) (by decide) (by decide) (by decide) (by decide) (by omega)
  exact ⟨⟨by rw [e31]; exact hA.1, by rw [e31]; exact RW_f (eW 0 (by decide)) hA.2.1, by rw [e31]; exact RT_f eX hA.2.2⟩,
    IvB_f hB e54 e63 (k 32 0 (by decide) (by decide) (by decide) (by decide) (by decide) (by decide) (by decide) (by decide)) (by rw [e31]) (eW 1 (by decide)) eX,
    IvC_f hC (fun j _ => e1 j) (fun j _ => e12 j) (k 34 0 (by decide) (by decide) (by decide) (by decide) (by decide) (by decide) (by decide) (by decide)) (k 35 0 (by decide) (by decide) (by decide) (by decide) (by decide) (by decide) (by decide) (by decide)) (k 36 0 (by decide) (by decide) (by decide) (by decide) (by decide) (by decide) (by decide) (by decide)),
    IvD_f hD (fun j _ => e2 j) (fun j _ => e1 _) (fun j _ => e12 _) (k 37 0 (by decide) (by decide) (by decide) (by decide) (by decide) (by decide) (by decide) (by decide)) (k 38 0 (by decide) (by decide) (by decide) (by decide) (by decide) (by decide) (by decide) (by decide)) (k 39 0 (by decide) (by decide) (by decide) (by decide) (by decide) (by decide) (by decide) (by decide)) (k 40 0 (by decide) (by decide) (by decide) (by decide) (by decide) (by decide) (by decide) (by decide)) (k 41 0 (by decide) (by decide) (by decide) (by decide) (by decide) (by decide) (by decide) (by decide)), hE, hF⟩
theorem Iv_trim {M : TM} (h : Iv M) {n : Int32} (hn : 0 ≤ n ∧ n ≤ M 5 0 7) : Iv (fm (putA M 5 0 (upd (M 5 0) 7 n)) 14 n) := by
  obtain ⟨-, -, -, -, hE, hF⟩ := id h
  refine Iv_KE h (fun t k h1 h5 h6 h28 h29 h43 h47 h2 => by rw [fm_nt h6, putA_nt _ _ _ _ h5]) ⟨hE.1, rfl, ?_, hE.2.2.2⟩ hF rfl rfl
  obtain ⟨m, hm, em⟩ := hE.2.2.1
  rw [hE.2.1, em] at hn
  obtain ⟨a, ha, ea⟩ := (rg_iff (by omega)).mp hn
  exact ⟨a, by omega, ea⟩
theorem fdT_b {T : Nat → Int32} (h : ∀ i, ∃ a, a < 256 ∧ T i = nI a) (tp : Nat) (a b c : Int32) : ∀ k i, ∃ x, x < 256 ∧ fdT T tp a b c k i = nI x
  | 0, i => h i
  | k + 1, i => by
    show ∃ x, x < 256 ∧ upd (fdT T tp a b c k) (tp + k) (fdB a b c k) i = nI x
    by_cases e : i = tp + k
    · subst e; rw [upd_s]
      unfold fdB
      exact pk_andE _ 8 rfl
    · rw [upd_n e]; exact fdT_b h tp a b c k i
theorem Iv_feed {M : TM} (h : Iv M) {tp : Nat} (ht : ¬ 84 < tp) (a b c : Int32) : Iv (mFeed (feM M tp a b c) a b c tp 12) := by
  obtain ⟨-, -, -, -, hE, hF⟩ := id h
  refine Iv_KE h (fun t k h1 h5 h6 h28 h29 h43 h47 h2 => by unfold mFeed feM; rw [putA_nt _ _ _ _ h6, putA_nt _ _ _ _ h43, putA_nt _ _ _ _ h5, putA_nt _ _ _ _ h28]) ⟨?_, rfl, ⟨tp + 12, by omega, rfl⟩, fun i => ?_⟩ hF rfl rfl
  · show fdT (M 28 0) tp a b c 12 = fdT (M 43 0) tp a b c 12
    rw [hE.1]
  · exact fdT_b hE.2.2.2 tp a b c 12 i
theorem Iv_tell {M : TM} (h : Iv M) {w : Nat} (hw : w < 60) (v : Int32) : Iv (fm (putA (putA (putA M 29 0 (upd (M 29 0) w v)) 5 0 (upd (M 5 0) 11 (nI (w + 1)))) 47 0 (upd (M 47 0) w v)) 29 (nI (w + 1))) := by
  obtain ⟨-, -, -, -, hE, hF⟩ := id h
  refine Iv_KE h (fun t k h1 h5 h6 h28 h29 h43 h47 h2 => by rw [fm_nt h6, putA_nt _ _ _ _ h47, putA_nt _ _ _ _ h5, putA_nt _ _ _ _ h29]) hE ⟨?_, rfl, w + 1, by omega, rfl⟩ rfl rfl
  show upd (M 29 0) w v = upd (M 47 0) w v
  rw [hF.1]
theorem Iv_check {M N : TM} (h : Iv M) (k : Kp 2 (wtM M) N) (A f f2 D : Nat → Int32) : Iv (mem6 (putA (fm N 29 0) 33 0 A) f f2 D (M 31 0)) := by
  obtain ⟨-, -, -, -, hE, hF⟩ := id h
  have e5 : N 5 0 = upd (M 5 0) 11 0 := k 5 0 (by decide) (by decide)
  have e6 : N 6 0 = M 6 0 := k 6 0 (by decide) (by decide)
  have e28 : N 28 0 = M 28 0 := k 28 0 (by decide) (by decide)
  have e43 : N 43 0 = M 43 0 := k 43 0 (by decide) (by decide)
  have e29 : N 29 0 = M 29 0 := k 29 0 (by decide) (by decide)
  have e47 : N 47 0 = M 47 0 := k 47 0 (by decide) (by decide)
  refine Iv_KE h ?_ (IvE_f hE e28 e43 (by show N 5 0 7 = _; rw [e5]; rfl) (by show N 6 0 14 = _; rw [e6])) ⟨(e29.trans hF.1).trans e47.symm, (by show N 5 0 11 = 0; rw [e5]; rfl), 0, by decide, rfl⟩ (by show N 5 0 4 = _; rw [e5]; rfl) (by show N 6 0 3 = _; rw [e6])
  intro t k' h1 h5 h6 h28 h29 h43 h47 h2
  unfold mem6 sc
  by_cases q31 : t = 31 ∧ k' = 0
  · rw [q31.1, q31.2, putA_s]
  · rw [putA_n _ _ _ _ q31, putA_nt _ _ _ _ h1.2.2.2.2.2.2.2.1, putA_nt _ _ _ _ h1.2.2.2.2.2.1, putA_nt _ _ _ _ h1.2.2.2.2.1, putA_nt _ _ _ _ h1.2.2.1, fm_nt h6, k t k' h1.1 h2]
    exact putA_nt _ _ _ _ h5
theorem mix_c (I s : SS) : ∀ i, i < 2871 → mixF I s 2871 i = I i := fun i hi => mix_lo _ _ hi
theorem im_I {M : TM} (h : Iv M) (hz : ¬ M 6 0 3 = 0) (s : SS) : RW M 1 (mixF (M 32 0) s 2871) ∧ WF 9999 (mixF (M 32 0) s 2871) ∧ RT M (mixF (M 32 0) s 2871) := by
  obtain ⟨h1, h2, h3, -⟩ := h.2.1.2 hz
  exact ⟨RW_c2 (mix_c _ _) h1 h2, WF_c2 (mix_c _ _) h1, RT_c2 (mix_c _ _) h1 h3⟩
/-- everything but A and B -/
def KI (M N : TM) : Prop := ∀ t k, fr0 t → t ≠ 5 → t ≠ 6 → t ≠ 31 → t ≠ 32 → ¬ (t = 4 ∨ (18 ≤ t ∧ t ≤ 27)) → N t k = M t k
theorem Iv_KI {M N : TM} (h : Iv M) (k : KI M N) (e57 : N 5 0 7 = M 5 0 7) (e511 : N 5 0 11 = M 5 0 11) (e614 : N 6 0 14 = M 6 0 14) (e629 : N 6 0 29 = M 6 0 29) (hA : IvA N) (hB : IvB N) : Iv N := by
  obtain ⟨-, -, hC, hD, hE, hF⟩ := h
  have e1 : ∀ j, N 1 j = M 1 j := fun j => k 1 j (by decide) (by decide) (by decide) (by decide) (by decide) (by decide)
  have e12 : ∀ j, N 12 j = M 12 j := fun j => k 12 j (by decide) (by decide) (by decide) (by decide) (by decide) (by decide)
  have e2 : ∀ j, N 2 j = M 2 j := fun j => k 2 j (by decide) (by decide) (by decide) (by decide) (by decide) (by decide)
  exact ⟨hA, hB, IvC_f hC (fun j _ => e1 j) (fun j _ => e12 j) (k 34 0 (by decide) (by decide) (by decide) (by decide) (by decide) (by decide)) (k 35 0 (by decide) (by decide) (by decide) (by decide) (by decide) (by decide)) (k 36 0 (by decide) (by decide) (by decide) (by decide) (by decide) (by decide)), IvD_f hD (fun j _ => e2 j) (fun j _ => e1 _) (fun j _ => e12 _) (k 37 0 (by decide) (by decide) (by decide) (by decide) (by decide) (by decide)) (k 38 0 (by decide) (by decide) (by decide) (by decide) (by decide) (by decide)) (k 39 0 (by decide) (by decide) (by decide) (by decide) (by decide) (by decide)) (k 40 0 (by decide) (by decide) (by decide) (by decide) (by decide) (by decide)) (k 41 0 (by decide) (by decide) (by decide) (by decide) (by decide) (by decide)), IvE_f hE (k 28 0 (by decide) (by decide) (by decide) (by decide) (by decide) (by decide)) (k 43 0 (by decide) (by decide) (by decide) (by decide) (by decide) (by decide)) e57 e614, IvF_f hF (k 29 0 (by decide) (by decide) (by decide) (by decide) (by decide) (by decide)) (k 47 0 (by decide) (by decide) (by decide) (by decide) (by decide) (by decide)) e511 e629⟩
theorem Iv_keep {M M2 : TM} (h : Iv M) (q : QBc M 1 0 M2) : Iv (putA (fm (putA M2 5 0 (upd (M2 5 0) 4 1)) 3 1) 32 0 (mixF (M2 31 0) (M2 32 0) 2871)) := by
  have hK := q.1
  have e31 : M2 31 0 = M 31 0 := hK 31 0 (by decide) (by decide)
  have e5 : M2 5 0 = M 5 0 := hK 5 0 (by decide) (by decide)
  have e6 : M2 6 0 = M 6 0 := hK 6 0 (by decide) (by decide)
  obtain ⟨hA, -, -, -, -, -⟩ := id h
  have eX : ∀ t k', 13 ≤ t → t ≤ 16 → M2 t k' = M t k' := fun t k' h1 h2 => hK t k' (by omega) (by omega)
  have hR1 : RW M2 1 (M 31 0) := q.rw' hA.2.1
  have hT2 : RT M2 (M 31 0) := RT_f eX hA.2.2
  refine Iv_KI h (fun t k h1 h5 h6 h31 h32 h4 => by rw [putA_nt _ _ _ _ h32, fm_nt h6, putA_nt _ _ _ _ h5]; exact hK t k h1.1 (fun z => h4 z.1)) (by show M2 5 0 7 = _; rw [e5]) (by show M2 5 0 11 = _; rw [e5]) (by show M2 6 0 14 = _; rw [e6]) (by show M2 6 0 29 = _; rw [e6]) ⟨?_, ?_, ?_⟩ ⟨rfl, fun _ => ⟨?_, ?_, ?_, ?_⟩⟩
  · show WF 9999 (M2 31 0); rw [e31]; exact hA.1
  · show RW _ 0 (M2 31 0); rw [e31]
    refine RW_f (M := M) (fun t ht => ?_) hA.2.1
    rw [putA_nt _ _ _ _ (by omega), fm_nt (by omega), putA_nt _ _ _ _ (by omega)]
    exact hK t 0 (by omega) (by omega)
  · show RT _ (M2 31 0); rw [e31]; exact hT2
  · show WF 9999 (mixF (M2 31 0) (M2 32 0) 2871); rw [e31]; exact WF_c2 (mix_c _ _) hA.1
  · show RW _ 1 (mixF (M2 31 0) (M2 32 0) 2871); rw [e31]
    refine RW_f (M := M2) (fun t ht => ?_) (RW_c2 (mix_c _ _) hA.1 hR1)
    rw [putA_nt _ _ _ _ (by omega), fm_nt (by omega), putA_nt _ _ _ _ (by omega)]
  · show RT M2 (mixF (M2 31 0) (M2 32 0) 2871); rw [e31]; exact RT_c2 (mix_c _ _) hA.1 hT2
  · show nT (mixF (M2 31 0) (M2 32 0) 2871) ≤ nT (M2 31 0)
    rw [nT_c (mix_c (M2 31 0) (M2 32 0) 1 (by decide))]; exact Nat.le_refl _
theorem Iv_back {M N : TM} (h : Iv M) (hz : ¬ M 6 0 3 = 0) (q : QBc M 0 1 N) : Iv (putA N 31 0 (mixF (N 32 0) (N 31 0) 2871)) := by
  have hK := q.1
  have e32 : N 32 0 = M 32 0 := hK 32 0 (by decide) (by decide)
  have e5 : N 5 0 = M 5 0 := hK 5 0 (by decide) (by decide)
  have e6 : N 6 0 = M 6 0 := hK 6 0 (by decide) (by decide)
  obtain ⟨h1, h2, h3, h4⟩ := h.2.1.2 hz
  have eX : ∀ t k', 13 ≤ t → t ≤ 16 → N t k' = M t k' := fun t k' h1 h2 => hK t k' (by omega) (by omega)
  have hR0 : RW N 0 (M 32 0) := q.rw' h2
  have hT2 : RT N (M 32 0) := RT_f eX h3
  refine Iv_KI h (fun t k h1 h5 h6 h31 h32 h4 => by rw [putA_nt _ _ _ _ h31]; exact hK t k h1.1 (fun z => h4 z.1)) (by show N 5 0 7 = _; rw [e5]) (by show N 5 0 11 = _; rw [e5]) (by show N 6 0 14 = _; rw [e6]) (by show N 6 0 29 = _; rw [e6]) ⟨?_, ?_, ?_⟩ ⟨(by show N 5 0 4 = N 6 0 3; rw [e5, e6]; exact h.2.1.1), fun _ => ⟨?_, ?_, ?_, ?_⟩⟩
  · show WF 9999 (mixF (N 32 0) (N 31 0) 2871); rw [e32]; exact WF_c2 (mix_c _ _) h1
  · show RW _ 0 (mixF (N 32 0) (N 31 0) 2871); rw [e32]
    exact RW_31' (RW_c2 (mix_c _ _) h1 hR0)
  · show RT N (mixF (N 32 0) (N 31 0) 2871); rw [e32]; exact RT_c2 (mix_c _ _) h1 hT2
  · show WF 9999 (N 32 0); rw [e32]; exact h1
  · show RW _ 1 (N 32 0); rw [e32]
    refine RW_f (M := M) (fun t ht => ?_) h2
    rw [putA_nt _ _ _ _ (by omega)]; exact hK t 1 (by omega) (by omega)
  · show RT N (N 32 0); rw [e32]; exact hT2
  · show nT (N 32 0) ≤ nT (mixF (N 32 0) (N 31 0) 2871)
    rw [nT_c (mix_c (N 32 0) (N 31 0) 1 (by decide))]; exact Nat.le_refl _
