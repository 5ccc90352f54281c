/-! THE INVARIANT: what the law's cases ask of the two objects -/
theorem l_trim {M M1 : TM} {n : Int32} (h : Iv M) (h1 : M1 = if 0 ≤ n ∧ n ≤ M 5 0 7 then putA M 5 0 (upd (M 5 0) 7 n) else M) : M1 6 0 14 = M 5 0 7 ∧ ∀ M2, M2 = (if 0 ≤ n ∧ n ≤ M1 6 0 14 then fm M1 14 n else M1) → Iv M2 := by
  have e := h.2.2.2.2.1.2.1
  by_cases hc : 0 ≤ n ∧ n ≤ M 5 0 7
  · rw [if_pos hc] at h1
    subst h1
    refine ⟨e.symm, fun M2 h2 => ?_⟩
    rw [if_pos (show 0 ≤ n ∧ n ≤ putA M 5 0 (upd (M 5 0) 7 n) 6 0 14 from ⟨hc.1, by show n ≤ M 6 0 14; rw [← e]; exact hc.2⟩)] at h2
    rw [h2]; exact Iv_trim h hc
  · rw [if_neg hc] at h1
    subst h1
    refine ⟨e.symm, fun M2 h2 => ?_⟩
    rw [if_neg (by rw [← e]; exact hc)] at h2
    rw [h2]; exact h
theorem l_feed {M M1 : TM} {a b c : Int32} {tp : Nat} (h : Iv M) (et : M 6 0 14 = nI tp) (h1 : M1 = if 84 < tp then M else feM M tp a b c) : M1 6 0 14 = nI tp ∧ ∀ M2, M2 = (if 84 < tp then M1 else mFeed M1 a b c tp 12) → Iv M2 := by
  by_cases hc : 84 < tp
  · rw [if_pos hc] at h1; subst h1
    exact ⟨et, fun M2 h2 => by rw [if_pos hc] at h2; rw [h2]; exact h⟩
  · rw [if_neg hc] at h1; subst h1
    exact ⟨et, fun M2 h2 => by rw [if_neg hc] at h2; rw [h2]; exact Iv_feed h hc a b c⟩
theorem l_tell {M M1 : TM} {v : Int32} {w : Nat} (h : Iv M) (h60 : w ≤ 60) (ew : M 6 0 29 = nI w) (h1 : M1 = if w = 60 then M else putA (putA M 29 0 (upd (M 29 0) w v)) 5 0 (upd (M 5 0) 11 (nI (w + 1)))) : M1 6 0 29 = nI w ∧ ∀ M2, M2 = (if w = 60 then M1 else fm (putA M1 47 0 (upd (M1 47 0) w v)) 29 (nI (w + 1))) → Iv M2 := by
  by_cases hc : w = 60
  · rw [if_pos hc] at h1; subst h1
    exact ⟨ew, fun M2 h2 => by rw [if_pos hc] at h2; rw [h2]; exact h⟩
  · rw [if_neg hc] at h1; subst h1
    exact ⟨ew, fun M2 h2 => by rw [if_neg hc] at h2; rw [h2]; exact Iv_tell h (by omega) v⟩
theorem l_sheet {M M1 M2 : TM} {k o n : Int32} (h : Iv M) (h1 : M1 = if cSheet k o n ∧ ¬ (0 ≤ o ∧ n < 0) then clM M (tn k) o (if o < 0 then 0 else n) else M) (h2 : M2 = mSheet M1 k o n) : Iv M2 := by
  unfold mSheet at h2
  by_cases hc : cSheet k o n ∧ ¬ (0 ≤ o ∧ n < 0)
  · rw [if_pos hc] at h1 h2
    rw [h2, h1]
    obtain ⟨⟨hS, ⟨ho1, ho2⟩, hn1⟩, hn2⟩ := hc
    have ho : o = -1 ∨ o = 0 ∨ o = 1 := by
      rw [Int32.le_iff_toInt_le] at ho1 ho2
      have a1 : (-1 : Int32).toInt = -1 := rfl
      have a2 : (1 : Int32).toInt = 1 := rfl
      rcases (show o.toInt = -1 ∨ o.toInt = 0 ∨ o.toInt = 1 by omega) with q | q | q
      · exact Or.inl (Int32.toInt_inj.mp q)
      · exact Or.inr (Or.inl (Int32.toInt_inj.mp q))
      · exact Or.inr (Or.inr (Int32.toInt_inj.mp q))
    refine Iv_sheet h (isS_lt hS) ho ?_
    by_cases q : o < 0
    · rw [if_pos q]; exact ⟨0, by decide, rfl⟩
    · rw [if_neg q]
      have q0 : 0 ≤ o := Int32.not_lt.mp q
      obtain ⟨a, ha, ea⟩ := (rg_iff (x := n) (b := 24) (by decide)).mp ⟨Int32.not_lt.mp (fun z => hn2 ⟨q0, z⟩), Int32.not_lt.mp (fun z => hn1 ⟨q0, z⟩)⟩
      exact ⟨a, ha, ea⟩
  · rw [if_neg hc] at h1 h2
    rw [h2, h1]; exact h
theorem cMark_c {M : TM} (h : Iv M) {k : Int32} (hk : isS k) : M 1 (tn k) 1 = M 34 0 (tn k) ∧ M 1 (tn k) 2 = M 35 0 (tn k) := ⟨(h.2.2.1.2.1 _ (isS_lt hk)).1, (h.2.2.1.2.1 _ (isS_lt hk)).2.1⟩
theorem mk5_f {M : TM} {k i v : Int32} : (∀ t j, t ≠ 12 → mkM5 M k i v t j = M t j) := fun t j ht => by
  unfold mkM5; split
  · exact putA_nt _ _ _ _ ht
  · rfl
theorem l_mark {M M1 M2 : TM} {k i v : Int32} (h : Iv M) (h1 : M1 = mkM5 M k i v) (h2 : M2 = mMark M1 k i v) : Iv M2 := by
  have e34 : M1 34 0 = M 34 0 := by rw [h1]; exact mk5_f 34 0 (by decide)
  have e35 : M1 35 0 = M 35 0 := by rw [h1]; exact mk5_f 35 0 (by decide)
  have e36 : M1 36 0 = M 36 0 := by rw [h1]; exact mk5_f 36 0 (by decide)
  unfold mMark at h2
  unfold mkM5 at h1
  rw [e34, e35, e36] at h2
  by_cases hc : isS k ∧ cMark (M 1 (tn k) 1) (M 1 (tn k) 2) i v
  · have hS := hc.1
    obtain ⟨c1, c2⟩ := cMark_c h hS
    rw [if_pos hc] at h1
    rw [← c1, ← c2, if_pos hc] at h2
    rw [h2, h1]
    obtain ⟨-, d1, d2, d3, d4⟩ := hc
    obtain ⟨zz, hz, ez⟩ := (h.2.2.1.1 _ (isS_lt hS)).2
    have hi : tn i < 24 := by
      obtain ⟨j, hj, rfl⟩ := nI_of (Int32.not_lt.mpr d2.1)
      have d3' := d2.2
      rw [ez] at d3'
      rw [show tn (nI j) = j from nI_clamp hj]
      by_cases q0 : zz = 0
      · subst q0; exact absurd (Int32.le_trans (nI_pos' hj) d3') (by decide)
      · obtain ⟨y, rfl⟩ : ∃ y, zz = y + 1 := ⟨zz - 1, by omega⟩
        rw [nI_pred, nI_leI hj (by omega)] at d3'
        omega
    refine Iv_mark h (isS_lt hS) hi ?_
    unfold mkV
    rcases (h.2.2.1.1 _ (isS_lt hS)).1 with q | q | q
    · rw [q] at d1; exact absurd d1 (by decide)
    · rw [if_pos q]
      right
      rw [← sh_16]; exact sh_rg v
    · rw [if_neg (by rw [q]; decide)]
      by_cases q2 : v = NONEc
      · exact Or.inl q2
      · right
        exact Classical.byContradiction (fun z => d4 ⟨q, q2, z⟩)
  · rw [if_neg hc] at h1
    have hc2 : ¬ (isS k ∧ cMark (M 34 0 (tn k)) (M 35 0 (tn k)) i v) := fun z => hc (by
      obtain ⟨c1, c2⟩ := cMark_c h z.1
      rw [c1, c2]; exact z)
    rw [if_neg hc2] at h2
    rw [h2, h1]; exact h
theorem a_mark {M : TM} {k i v : Int32} (h : Iv M) : (if isS k then aMark (M 1 (tn k) 1) (M 1 (tn k) 2) i v else BADc) = (if isS k then aMark (mkM5 M k i v 34 0 (tn k)) (mkM5 M k i v 35 0 (tn k)) i v else BADc) := by
  rw [mk5_f 34 0 (by decide), mk5_f 35 0 (by decide)]
  by_cases hS : isS k
  · rw [if_pos hS, if_pos hS, (cMark_c h hS).1, (cMark_c h hS).2]
  · rw [if_neg hS, if_neg hS]
theorem WS6_f {M N : TM} (h : WS6 M) (e34 : N 34 0 = M 34 0) (e35 : N 35 0 = M 35 0) : WS6 N := by
  intro k hk; rw [e34, e35]; exact h k hk
theorem cp5_f {M : TM} {f pl t at_ m : Int32} : (∀ a j, a ≠ 12 → cpM5 M f pl t at_ m a j = M a j) := fun a j ht => by
  unfold cpM5; split
  · exact putA_nt _ _ _ _ ht
  · rfl
theorem cCopy_c {M : TM} (h : Iv M) (f pl t at_ m : Int32) : cCopy5 M f pl t at_ m ↔ cCopy M f pl t at_ m := by
  constructor
  · intro z
    obtain ⟨⟨s1, s2⟩, z2⟩ := id z
    unfold cCopy5 at z; unfold cCopy
    rw [← (cMark_c h s1).1, ← (cMark_c h s2).1, ← (cMark_c h s1).2, ← (cMark_c h s2).2]; exact z
  · intro z
    obtain ⟨⟨s1, s2⟩, z2⟩ := id z
    unfold cCopy at z; unfold cCopy5
    rw [(cMark_c h s1).1, (cMark_c h s2).1, (cMark_c h s1).2, (cMark_c h s2).2]; exact z
theorem l_copy {M M2 : TM} {f pl t at_ m : Int32} (h : Iv M) (h2 : if cCopy (cpM5 M f pl t at_ m) f pl t at_ m then ∃ c, M2 = putA (putA (cpM5 M f pl t at_ m) 46 0 c) 36 0 (va_cpy (cpM5 M f pl t at_ m 36 0) (cpM5 M f pl t at_ m 36 0) (24 * tn f + tn pl) (24 * tn t + tn at_) (tn m)) else M2 = cpM5 M f pl t at_ m) : Iv M2 := by
  have e34 : cpM5 M f pl t at_ m 34 0 = M 34 0 := cp5_f 34 0 (by decide)
  have e35 : cpM5 M f pl t at_ m 35 0 = M 35 0 := cp5_f 35 0 (by decide)
  have e36 : cpM5 M f pl t at_ m 36 0 = M 36 0 := cp5_f 36 0 (by decide)
  have ec : cCopy (cpM5 M f pl t at_ m) f pl t at_ m ↔ cCopy M f pl t at_ m := by unfold cCopy; rw [e34, e35]
  rw [e36] at h2
  by_cases hc : cCopy M f pl t at_ m
  · rw [if_pos (ec.mpr hc)] at h2
    obtain ⟨c, rfl⟩ := h2
    have hc5 := (cCopy_c h f pl t at_ m).mpr hc
    have e1 : cpM5 M f pl t at_ m = putA M 12 (tn t) (va_cpy (M 12 (tn f)) (M 12 (tn t)) (tn pl) (tn at_) (tn m)) := by unfold cpM5; rw [if_pos hc5]
    rw [e1]
    obtain ⟨⟨s1, s2⟩, d1, d2, d3, d4⟩ := hc5
    obtain ⟨z1, hz1, ez1⟩ := (h.2.2.1.1 _ (isS_lt s1)).2
    obtain ⟨z2, hz2, ez2⟩ := (h.2.2.1.1 _ (isS_lt s2)).2
    have b1 := d3.2.2
    have b2 := d4.2.2
    rw [ez1, show tn (nI z1) = z1 from nI_clamp (by omega)] at b1
    rw [ez2, show tn (nI z2) = z2 from nI_clamp (by omega)] at b2
    exact Iv_copy h (isS_lt s1) (isS_lt s2) (by omega) (by omega) (fun q => d1 (Or.inl q)) c
  · rw [if_neg (fun q => hc (ec.mp q))] at h2
    rw [h2]
    unfold cpM5
    rw [if_neg (fun q => hc ((cCopy_c h f pl t at_ m).mp q))]; exact h
theorem a_copy {M : TM} {f pl t at_ m : Int32} (h : Iv M) : (if isS f ∧ isS t then aCopy (M 1 (tn f) 1) (M 1 (tn t) 1) (tn (M 1 (tn f) 2)) (tn (M 1 (tn t) 2)) pl at_ m else BADc) = (if isS f ∧ isS t then aCopy (cpM5 M f pl t at_ m 34 0 (tn f)) (cpM5 M f pl t at_ m 34 0 (tn t)) (tn (cpM5 M f pl t at_ m 35 0 (tn f))) (tn (cpM5 M f pl t at_ m 35 0 (tn t))) pl at_ m else BADc) := by
  rw [cp5_f 34 0 (by decide), cp5_f 35 0 (by decide)]
  by_cases hS : isS f ∧ isS t
  · rw [if_pos hS, if_pos hS, (cMark_c h hS.1).1, (cMark_c h hS.1).2, (cMark_c h hS.2).1, (cMark_c h hS.2).2]
  · rw [if_neg hS, if_neg hS]
theorem row_c {M : TM} (h : Iv M) {k : Int32} (hk : isS k) {z : Nat} (hz : z ≤ 24) : ∀ j, j < z → M 12 (tn k) j = row6 M (tn k) j := fun j hj => (h.2.2.1.2.1 _ (isS_lt hk)).2.2 j (by omega)
theorem sz_c {M : TM} (h : Iv M) {k : Int32} (hk : isS k) : tn (M 35 0 (tn k)) ≤ 24 := by
  obtain ⟨z, hz, ez⟩ := (h.2.2.1.1 _ (isS_lt hk)).2
  rw [← (cMark_c h hk).2, ez, show tn (nI z) = z from nI_clamp (by omega)]; exact hz
theorem a_reads {M : TM} (h : Iv M) (k : Int32) : (if isS k then aReads (M 1 (tn k) 1) (tn (M 1 (tn k) 2)) (M 12 (tn k)) (M 31 0) else BADc) = (if isS k then aReads (M 34 0 (tn k)) (tn (M 35 0 (tn k))) (row6 M (tn k)) (M 31 0) else BADc) := by
  by_cases hS : isS k
  · rw [if_pos hS, if_pos hS, (cMark_c h hS).1, (cMark_c h hS).2]
    unfold aReads
    rw [rdF_congr (row := M 12 (tn k)) (row' := row6 M (tn k)) _ _ (fun j hj => row_c h hS (sz_c h hS) j (by omega))]
  · rw [if_neg hS, if_neg hS]
theorem a_like {M N : TM} (h : Iv M) (e34 : N 34 0 = M 34 0) (e35 : N 35 0 = M 35 0) (e36 : N 36 0 = M 36 0) (k w : Int32) : (if isS k ∧ (0 ≤ w ∧ w ≤ 1) then aLike (M 1 (tn k) 1) (tn (M 1 (tn k) 2)) (M 12 (tn k)) (M 31 0) w else BADc) = (if isS k ∧ (0 ≤ w ∧ w ≤ 1) then aLike (N 34 0 (tn k)) (tn (N 35 0 (tn k))) (row6 N (tn k)) (M 31 0) w else BADc) := by
  have er : row6 N (tn k) = row6 M (tn k) := by unfold row6; rw [e36]
  rw [e34, e35, er]
  by_cases hS : isS k ∧ (0 ≤ w ∧ w ≤ 1)
  · rw [if_pos hS, if_pos hS, (cMark_c h hS.1).1, (cMark_c h hS.1).2]
    have e : (fun m => ulF (M 12 (tn k)) (M 31 0) m (tn (M 35 0 (tn k)))) = (fun m => ulF (row6 M (tn k)) (M 31 0) m (tn (M 35 0 (tn k)))) := by
      funext m; exact ulF_congr _ (row_c h hS.1 (sz_c h hS.1))
    unfold aLike
    rw [e]
  · rw [if_neg hS, if_neg hS]
theorem a_pour {M N : TM} (h : Iv M) (e34 : N 34 0 = M 34 0) (e35 : N 35 0 = M 35 0) (e36 : N 36 0 = M 36 0) (k : Int32) : (if isS k then aPour (M 1 (tn k) 1) (tn (M 1 (tn k) 2)) (M 12 (tn k)) (M 31 0) else BADc) = (if isS k then aPour (N 34 0 (tn k)) (tn (N 35 0 (tn k))) (row6 N (tn k)) (M 31 0) else BADc) ∧ (if isS k then sPour (M 1 (tn k) 1) (tn (M 1 (tn k) 2)) (M 12 (tn k)) (M 31 0) else M 31 0) = (if isS k then sPour (N 34 0 (tn k)) (tn (N 35 0 (tn k))) (row6 N (tn k)) (M 31 0) else M 31 0) := by
  have er : row6 N (tn k) = row6 M (tn k) := by unfold row6; rw [e36]
  rw [e34, e35, er]
  by_cases hS : isS k
  · rw [if_pos hS, if_pos hS, if_pos hS, if_pos hS, (cMark_c h hS).1, (cMark_c h hS).2]
    have hz := row_c h hS (sz_c h hS)
    unfold aPour sPour
    rw [poC_congr (row := M 12 (tn k)) (row' := row6 M (tn k)) _ (fun j hj => hz j (by omega)), poS_congr (row := M 12 (tn k)) (row' := row6 M (tn k)) _ (fun j hj => hz j (by omega))]
    exact ⟨rfl, rfl⟩
  · rw [if_neg hS, if_neg hS, if_neg hS, if_neg hS]; exact ⟨rfl, rfl⟩
theorem a_ask {M : TM} (h : Iv M) (l k : Int32) : (if isL l ∧ (0 ≤ k ∧ k ≤ 5) then aAsk (M 2 (tn l) 1) (M 2 (tn l) 3) (woF (M 2 (tn l) 3) (M 2 (tn l) 4) (M 2 (tn l) 5)) k else BADc) = (if isL l ∧ (0 ≤ k ∧ k ≤ 5) then aAsk (M 37 0 (tn l)) (M 38 0 (tn l)) (M 39 0 (tn l)) k else BADc) := by
  by_cases hS : isL l ∧ (0 ≤ k ∧ k ≤ 5)
  · rw [if_pos hS, if_pos hS]
    obtain ⟨d1, d2, -⟩ := h.2.2.2.1 _ (isL_lt hS.1)
    rw [d1]
    by_cases q : M 37 0 (tn l) = 1
    · rw [(d2 q).2.1, (d2 q).1]
    · unfold aAsk
      by_cases q0 : M 37 0 (tn l) = 0
      · rw [if_pos q0, if_pos q0]
      · rw [if_neg q0, if_neg (fun z => q z.1), if_neg q0, if_neg (fun z => q z.1)]
  · rw [if_neg hS, if_neg hS]
theorem a_rest {M : TM} (h : Iv M) (l n : Int32) : (if isL l then aRest (M 2 (tn l) 1) (M 2 (tn l) 2) n else BADc) = (if isL l then aRest (M 37 0 (tn l)) (M 38 0 (tn l)) n else BADc) := by
  by_cases hS : isL l
  · rw [if_pos hS, if_pos hS]
    obtain ⟨d1, -, -, d4, -⟩ := h.2.2.2.1 _ (isL_lt hS)
    rw [d1]
    by_cases q : M 37 0 (tn l) = 3
    · rw [d4 q]
    · unfold aRest
      rw [if_neg q, if_neg q]
  · rw [if_neg hS, if_neg hS]
theorem a_item {M : TM} (h : Iv M) (l i : Int32) : (if isL l then aItem (M 2 (tn l) 1) (M 1 (tn l + 4) 2) (fun j => M 12 (tn l + 4) j) i else BADc) = (if isL l then aItem (M 37 0 (tn l)) (M 40 0 (tn l)) (fun j => M 41 0 (24 * tn l + j)) i else BADc) := by
  by_cases hS : isL l
  · rw [if_pos hS, if_pos hS]
    obtain ⟨d1, -, d3, -, zz, hz, ez⟩ := h.2.2.2.1 _ (isL_lt hS)
    rw [d1]
    by_cases q : M 37 0 (tn l) = 2
    · obtain ⟨g1, g2⟩ := d3 q
      unfold aItem
      rw [if_pos q, if_pos q, g1]
      by_cases q2 : 0 ≤ i ∧ i ≤ M 40 0 (tn l) - 1
      · rw [if_pos q2, if_pos q2]
        have hi : tn i < 24 := by
          obtain ⟨j, hj, rfl⟩ := nI_of (Int32.not_lt.mpr q2.1)
          have d3' := q2.2
          rw [ez] at d3'
          rw [show tn (nI j) = j from nI_clamp hj]
          by_cases q0 : zz = 0
          · subst q0; exact absurd (Int32.le_trans (nI_pos' hj) d3') (by decide)
          · obtain ⟨y, rfl⟩ : ∃ y, zz = y + 1 := ⟨zz - 1, by omega⟩
            rw [nI_pred, nI_leI hj (by omega)] at d3'
            omega
        have e := g2 (tn i) hi
        show (if M 12 (tn l + 4) (tn i) = NONEc then KINDc else M 12 (tn l + 4) (tn i)) = (if M 41 0 (24 * tn l + tn i) = NONEc then KINDc else M 41 0 (24 * tn l + tn i))
        rw [e]
      · rw [if_neg q2, if_neg q2]
    · unfold aItem
      rw [if_neg q, if_neg q]
  · rw [if_neg hS, if_neg hS]
theorem tx5_f {M M1 : TM} {s : SS} {T : Nat → Int32} {n : Nat} {r : Option Value} (h : QTx5 M s T n r M1) : M1 43 0 = M 43 0 ∧ M1 6 0 = M 6 0 ∧ M1 31 0 = M 31 0 := by
  obtain ⟨-, N1, ⟨⟨hK, -⟩, -⟩, hN⟩ := h
  have e43 : N1 43 0 = M 43 0 := hK 43 0 (by decide) (by decide)
  have e6 : N1 6 0 = M 6 0 := hK 6 0 (by decide) (by decide)
  have e31 : N1 31 0 = M 31 0 := hK 31 0 (by decide) (by decide)
  by_cases hq : prB T n = true ∧ nT s < 14
  · rw [if_pos hq] at hN; rw [hN]; exact ⟨e43, e6, e31⟩
  · rw [if_neg hq] at hN; rw [hN]; exact ⟨e43, e6, e31⟩
theorem c5_backN {g : GT} (M : TM) (hz : M 5 0 4 = 0) : Cn g yX5_back cX5_back 1 (some .int) 2 [.ref (gad g 5 0)] M (Rt (.int NOc) M) := by
  refine Cn.mono (c5_back M) (fun r M' h => ?_)
  rw [if_pos hz] at h; exact h
theorem c5_backY {g : GT} (M : TM) (hz : ¬ M 5 0 4 = 0) : Cn g yX5_back cX5_back 1 (some .int) 2 [.ref (gad g 5 0)] M (fun r M' => r = some (.int (M 4 1 11)) ∧ QBc M 0 1 M') := by
  refine Cn.mono (c5_back M) (fun r M' h => ?_)
  rw [if_neg hz] at h; exact h
