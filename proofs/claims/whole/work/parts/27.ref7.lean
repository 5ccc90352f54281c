theorem goF_hi {s : SS} (h : WK s) {i : Nat} (hi : 71 ≤ i) : goF s i = s i := by
  have hc : ∀ c, c ≤ 6 → coN s c i = s i := by
    intro c
    induction c with
    | zero => intro _; rfl
    | succ c ih =>
      intro hc
      have hw := (coN_WK h c (by omega)).1.2
      show coF (coN s c) c i = _
      rw [coF_o (by omega) (by omega) (by omega) (fun j hj => by omega)]; exact ih (by omega)
  have h6 := coN_WK h 6 (Nat.le_refl _)
  have hb : brF (coN s 6) (rmF (s 2) 6) i = s i := by rw [brF_o (by omega) (fun j hj => by have := h6.1.2; omega)]; exact hc 6 (Nat.le_refl _)
  have hB := brF_WK h6 (rmF (s 2) 6)
  unfold goF
  rw [upd_n (by omega)]
  generalize brF (coN s 6) (rmF (s 2) 6) = B at hb hB
  have hd : ∀ S : SS, drS S i = S i := fun S => upd_n (by omega)
  unfold spF
  split
  · obtain ⟨a, ha, ea⟩ := drA_6 (drS B)
    have e0 : nN (drS (drS (drS B))) = nN B := nN_c (by unfold drS; rw [upd_n (by decide), upd_n (by decide), upd_n (by decide)])
    rw [ea, nI_clamp (by omega), duF_o (by omega) (by omega) (by omega) (fun j hj => by rw [e0] at hj; have := hB.1.2; omega), hd, hd, hd, hb]
  · rw [hd, hb]
theorem goN_hi {s : SS} {b : Nat} (h : WF b s) {i : Nat} (hi : 71 ≤ i) : ∀ n, goN s n i = s i
  | 0 => rfl
  | n + 1 => by show goF (goN s n) i = _; rw [goF_hi (goN_WF h n).k hi]; exact goN_hi h hi n
theorem mix_back {C S s : SS} (h1 : ∀ i, i < 71 → C i = s i) (h2 : ∀ i, 71 ≤ i → S i = s i) : mixF C S 71 = s := by
  funext i; unfold mixF
  by_cases h : i < 71
  · rw [if_pos h]; exact h1 i h
  · rw [if_neg h]; exact h2 i (by omega)
theorem putA_same {M : TM} {t k : Nat} {f : Nat → Int32} (h : M t k = f := by rfl) : putA M t k f = M := by subst h; exact putA_id M t k
theorem sc31_id (N : TM) : putA (sc N (N 44 0) (N 45 0)) 31 0 (N 31 0) = N := by rw [sc_id, putA_id]
theorem mix_lo (f f2 : Nat → Int32) {k i : Nat} (h : i < k) : mixF f f2 k i = f i := if_pos h
/-- only thought: the row s is as it was -/
abbrev Pt (a : Int32) (M : TM) (s : SS) : Option Value → TM → Prop := fun r M' => r = some (.int a) ∧ ∃ C f f2, M' = putA (sc (putA M 42 0 C) f f2) 31 0 s
/-- laysBack, where only thoughts have changed the row -/
theorem c6_laysBack' {g : GT} (N : TM) (s S : SS) (f f2 : Nat → Int32) (h1 : ∀ i, i < 71 → N 42 0 i = s i) (h2 : ∀ i, 71 ≤ i → S i = s i) : Cn g yX6_laysBack cX6_laysBack 2 none 0 [.ref (gad g 6 0)] (putA (sc N f f2) 31 0 S) (Rv (putA (sc N f f2) 31 0 s)) := by
  have q := c6_laysBack (g := g) (putA (sc N f f2) 31 0 S)
  have e : putA (putA (sc N f f2) 31 0 S) 31 0 (mixF (putA (sc N f f2) 31 0 S 42 0) (putA (sc N f f2) 31 0 S 31 0) 71) = putA (sc N f f2) 31 0 s := by
    rw [putA_pp]; exact putA_cg (mix_back (C := N 42 0) h1 (S := S) h2)
  rw [e] at q
  exact q
def srch (p : Nat → Bool) : Nat → Nat → Nat
  | 0, i => i
  | f + 1, i => if p i then srch p f (i + 1) else i
theorem srch_le (p : Nat → Bool) : ∀ f i, srch p f i ≤ i + f
  | 0, i => Nat.le_refl _
  | f + 1, i => by unfold srch; split
                   · have := srch_le p f (i + 1); omega
                   · omega
def fst1 (q : Nat → Bool) : Nat → Nat → Int32
  | 0, _ => NONEc
  | f + 1, i => if q i then nI i else fst1 q f (i + 1)
def fstD (q : Nat → Bool) : Nat → Int32
  | 0 => NONEc
  | e + 1 => if q e then nI e else fstD q e
def moF (f : Nat → Int32) : Nat → Int32 × Int32
  | 0 => (-1, -1)
  | v + 1 => if (moF f v).2 < f v then (nI v, f v) else moF f v
def aBreathe (s : SS) (c : Int32) : Int32 := if 0 ≤ c ∧ c ≤ 5 then brA s c else BADc
def sBreathe (s : SS) (c : Int32) : SS := if 0 ≤ c ∧ c ≤ 5 then brF s c else s
theorem Pb_id {a b : Int32} {M : TM} {S : SS} (h : a = b) (hS : S = M 31 0) : Pb b M S (some (.int a)) M := ⟨by rw [h], M 44 0, M 45 0, by rw [sc_id, hS, putA_id]⟩
set_option maxRecDepth 100000 in
set_option maxHeartbeats 4000000 in
theorem c6_breathe {g : GT} (M : TM) (c : Int32) (s : SS) (hs : M 31 0 = s) (hW : WF 9999 s) : Cn g yX6_breathe cX6_breathe 2 (some .int) 7 [.ref (gad g 6 0), .int c] M (Pb (aBreathe s c) M (sBreathe s c)) := by
  refine Cn.ofTR (by decide +kernel) (Nat.le_of_ble_eq_true rfl) ?_
  subst hs
  have hW0 := hW
  obtain ⟨⟨hn, hn10⟩, hsp, hr, hc, hm, ht⟩ := hW
  refine q_iload_n 1 dX6_breathe_0 rfl rfl ?_
  refine q_callSt 4 dX6_breathe_1 rfl (c6_isCell _ _) cw_X6_106 rfl rfl ⟨by decide, by decide⟩ ⟨by decide, by decide⟩ (Nat.le_of_ble_eq_true rfl) ?_
  refine q_if_eq 15 7 dX6_breathe_4 rfl rfl (fun h_4 => ?_) (fun h_4 => ?_)
  · skip
    simp only [bI_0, Classical.not_not] at h_4
    refine q_ldc 17 dX6_breathe_15 rfl cs_X6_110 ?_
    refine q_iret dX6_breathe_17 ?_
    unfold aBreathe sBreathe
    first | (rw [if_pos h_4, if_pos h_4]; exact ⟨rfl, f, f2, rfl⟩) | exact Pb_id (by rw [if_neg h_4]) (if_neg h_4)
  · skip
    simp only [bI_0, Classical.not_not] at h_4
    refine q_aload_n 8 dX6_breathe_7 rfl rfl ?_
    refine q_iload_n 9 dX6_breathe_8 rfl rfl ?_
    refine q_callV 12 dX6_breathe_9 rfl (c6_isBreathedOn _ _ (M 31 0) (by rfl) hW0.m) cw_X6_169 (by decide) rfl rfl ⟨by decide, by decide⟩ ⟨by decide, by decide⟩ (Nat.le_of_ble_eq_true rfl) ?_
    rintro _ _ ⟨rfl, f, f2, rfl⟩
    refine q_goto 17 dX6_breathe_12 rfl ?_
    refine q_iret dX6_breathe_17 ?_
    unfold aBreathe sBreathe
    first | (rw [if_pos h_4, if_pos h_4]; exact ⟨rfl, f, f2, rfl⟩) | exact Pb_id (by rw [if_neg h_4]) (if_neg h_4)
def aDig (s : SS) (c n : Int32) : Int32 := if (0 ≤ c ∧ c ≤ 5) ∧ (0 ≤ n ∧ n ≤ 99) then duA s (tn c) n else BADc
def sDig (s : SS) (c n : Int32) : SS := if (0 ≤ c ∧ c ≤ 5) ∧ (0 ≤ n ∧ n ≤ 99) then duF s (tn c) n else s
set_option maxRecDepth 100000 in
set_option maxHeartbeats 4000000 in
theorem c6_dig {g : GT} (M : TM) (c n : Int32) (s : SS) (hs : M 31 0 = s) (hW : WF 9999 s) : Cn g yX6_dig cX6_dig 3 (some .int) 2 [.ref (gad g 6 0), .int c, .int n] M (Pa (aDig s c n) M (sDig s c n)) := by
  refine Cn.ofTR (by decide +kernel) (Nat.le_of_ble_eq_true rfl) ?_
  subst hs
  have hW0 := hW
  obtain ⟨⟨hn, hn10⟩, hsp, hr, hc, hm, ht⟩ := hW
  refine q_iload_n 1 dX6_dig_0 rfl rfl ?_
  refine q_callSt 4 dX6_dig_1 rfl (c6_isCell _ _) cw_X6_106 rfl rfl ⟨by decide, by decide⟩ ⟨by decide, by decide⟩ (Nat.le_of_ble_eq_true rfl) ?_
  refine q_if_eq 28 7 dX6_dig_4 rfl rfl (fun h_4 => ?_) (fun h_4 => ?_)
  · skip
    simp only [bI_0, Classical.not_not] at h_4
    refine q_ldc 30 dX6_dig_28 rfl cs_X6_110 ?_
    refine q_iret dX6_dig_30 ?_
    unfold aDig sDig
    first | (rw [if_pos ⟨h_4, h_16⟩, if_pos ⟨h_4, h_16⟩]; exact ⟨rfl, rfl⟩) | exact Pa_id (by rw [if_neg (fun q => by first | exact h_4 q.1 | exact h_16 q.2)]) (if_neg (fun q => by first | exact h_4 q.1 | exact h_16 q.2))
  · skip
    simp only [bI_0, Classical.not_not] at h_4
    obtain ⟨ec, lc⟩ := rg_tn h_4 (n := 5) rfl
    refine q_iload_n 8 dX6_dig_7 rfl rfl ?_
    refine q_i2l 9 dX6_dig_8 rfl ?_
    refine q_lconst (v := 0) 10 dX6_dig_9 rfl rfl ?_
    refine q_ldc2 13 dX6_dig_10 rfl cl_X6_102 ?_
    refine q_callSt 16 dX6_dig_13 rfl (c6_isIn' _ _ (0) (99) _ _) cw_X6_65 rfl rfl ⟨by decide, by decide⟩ ⟨by decide, by decide⟩ (Nat.le_of_ble_eq_true rfl) ?_
    refine q_if_eq 28 19 dX6_dig_16 rfl rfl (fun h_16 => ?_) (fun h_16 => ?_)
    · skip
      simp only [bI_0, Classical.not_not] at h_16
      refine q_ldc 30 dX6_dig_28 rfl cs_X6_110 ?_
      refine q_iret dX6_dig_30 ?_
      unfold aDig sDig
      first | (rw [if_pos ⟨h_4, h_16⟩, if_pos ⟨h_4, h_16⟩]; exact ⟨rfl, rfl⟩) | exact Pa_id (by rw [if_neg (fun q => by first | exact h_4 q.1 | exact h_16 q.2)]) (if_neg (fun q => by first | exact h_4 q.1 | exact h_16 q.2))
    · skip
      simp only [bI_0, Classical.not_not] at h_16
      refine q_aload_n 20 dX6_dig_19 rfl rfl ?_
      refine q_iload_n 21 dX6_dig_20 rfl rfl ?_
      refine q_iload_n 22 dX6_dig_21 rfl rfl ?_
      refine q_callVt 25 dX6_dig_22 rfl (c6_isDug _ _ _ (tn c) ec (by omega) (M 31 0) (by rfl) hn hn10 hW0.k.n3) cw_X6_172 (by decide) rfl rfl ⟨by decide, by decide⟩ ⟨by decide, by decide⟩ (Nat.le_of_ble_eq_true rfl) ?_
      refine q_goto 30 dX6_dig_25 rfl ?_
      refine q_iret dX6_dig_30 ?_
      unfold aDig sDig
      first | (rw [if_pos ⟨h_4, h_16⟩, if_pos ⟨h_4, h_16⟩]; exact ⟨rfl, rfl⟩) | exact Pa_id (by rw [if_neg (fun q => by first | exact h_4 q.1 | exact h_16 q.2)]) (if_neg (fun q => by first | exact h_4 q.1 | exact h_16 q.2))
def aWalls (s : SS) (w : Int32) : Int32 := if 0 ≤ w ∧ w ≤ 4 then waF s w else if w = 5 then nI (naF s 5) else if w = 6 then nI (setC (lgB s) (nN s)) else BADc
set_option maxRecDepth 100000 in
set_option maxHeartbeats 4000000 in
theorem c6_walls {g : GT} (M : TM) (w : Int32) (s : SS) (hs : M 31 0 = s) (hW : WF 9999 s) : Cn g yX6_walls cX6_walls 2 (some .int) 6 [.ref (gad g 6 0), .int w] M (Rs (.int (aWalls s w)) M) := by
  refine Cn.ofTR (by decide +kernel) (Nat.le_of_ble_eq_true rfl) ?_
  subst hs
  have hW0 := hW
  obtain ⟨⟨hn, hn10⟩, hsp, hr, hc, hm, ht⟩ := hW
  refine q_iload_n 1 dX6_walls_0 rfl rfl ?_
  refine q_i2l 2 dX6_walls_1 rfl ?_
  refine q_lconst (v := 0) 3 dX6_walls_2 rfl rfl ?_
  refine q_ldc2 6 dX6_walls_3 rfl cl_X6_141 ?_
  refine q_callSt 9 dX6_walls_6 rfl (c6_isIn' _ _ (0) (4) _ _) cw_X6_65 rfl rfl ⟨by decide, by decide⟩ ⟨by decide, by decide⟩ (Nat.le_of_ble_eq_true rfl) ?_
  refine q_if_eq 20 12 dX6_walls_9 rfl rfl (fun h_9 => ?_) (fun h_9 => ?_)
  · skip
    simp only [bI_0, Classical.not_not] at h_9
    refine q_iload_n 21 dX6_walls_20 rfl rfl ?_
    refine q_iconst (v := 5) 22 dX6_walls_21 rfl rfl ?_
    refine q_icmp_ne 32 25 dX6_walls_22 rfl rfl (fun h_22 => ?_) (fun h_22 => ?_)
    · skip
      refine q_iload_n 33 dX6_walls_32 rfl rfl ?_
      refine q_bipush (v := 6) 35 dX6_walls_33 rfl rfl ?_
      refine q_icmp_ne 45 38 dX6_walls_35 rfl rfl (fun h_35 => ?_) (fun h_35 => ?_)
      · skip
        refine q_ldc 47 dX6_walls_45 rfl cs_X6_110 ?_
        refine q_iret dX6_walls_47 ?_
        unfold aWalls
        first | (refine ⟨?_, _, _, (sc_id M).symm⟩; rw [if_pos h_9]) | (refine ⟨?_, _, _, (sc_id M).symm⟩; rw [if_neg h_9, if_pos h_22]) | (refine ⟨?_, f, f2, rfl⟩; rw [if_neg h_9, if_neg h_22, if_pos h_35]; rfl) | (refine ⟨?_, _, _, (sc_id M).symm⟩; rw [if_neg h_9, if_neg h_22, if_neg h_35])
      · skip
        refine q_aload_n 39 dX6_walls_38 rfl rfl ?_
        refine q_callV 42 dX6_walls_39 rfl (c6_legible _ (M 31 0) (by rfl) hW0.m) cw_X6_165 (by decide) rfl rfl ⟨by decide, by decide⟩ ⟨by decide, by decide⟩ (Nat.le_of_ble_eq_true rfl) ?_
        rintro _ _ ⟨rfl, f, f2, rfl⟩
        refine q_goto 47 dX6_walls_42 rfl ?_
        refine q_iret dX6_walls_47 ?_
        unfold aWalls
        first | (refine ⟨?_, _, _, (sc_id M).symm⟩; rw [if_pos h_9]) | (refine ⟨?_, _, _, (sc_id M).symm⟩; rw [if_neg h_9, if_pos h_22]) | (refine ⟨?_, f, f2, rfl⟩; rw [if_neg h_9, if_neg h_22, if_pos h_35]; rfl) | (refine ⟨?_, _, _, (sc_id M).symm⟩; rw [if_neg h_9, if_neg h_22, if_neg h_35])
    · skip
      refine q_aload_n 26 dX6_walls_25 rfl rfl ?_
      refine q_callVt 29 dX6_walls_26 rfl (c6_narrowest _ (M 31 0) (by rfl)) cw_X6_191 (by decide) rfl rfl ⟨by decide, by decide⟩ ⟨by decide, by decide⟩ (Nat.le_of_ble_eq_true rfl) ?_
      refine q_goto 47 dX6_walls_29 rfl ?_
      refine q_iret dX6_walls_47 ?_
      unfold aWalls
      first | (refine ⟨?_, _, _, (sc_id M).symm⟩; rw [if_pos h_9]) | (refine ⟨?_, _, _, (sc_id M).symm⟩; rw [if_neg h_9, if_pos h_22]) | (refine ⟨?_, f, f2, rfl⟩; rw [if_neg h_9, if_neg h_22, if_pos h_35]; rfl) | (refine ⟨?_, _, _, (sc_id M).symm⟩; rw [if_neg h_9, if_neg h_22, if_neg h_35])
  · skip
    simp only [bI_0, Classical.not_not] at h_9
    refine q_aload_n 13 dX6_walls_12 rfl rfl ?_
    refine q_iload_n 14 dX6_walls_13 rfl rfl ?_
    refine q_callVt 17 dX6_walls_14 rfl (c6_wallsOf _ _ (M 31 0) (by rfl) hn hn10) cw_X6_188 (by decide) rfl rfl ⟨by decide, by decide⟩ ⟨by decide, by decide⟩ (Nat.le_of_ble_eq_true rfl) ?_
    refine q_goto 47 dX6_walls_17 rfl ?_
    refine q_iret dX6_walls_47 ?_
    unfold aWalls
    first | (refine ⟨?_, _, _, (sc_id M).symm⟩; rw [if_pos h_9]) | (refine ⟨?_, _, _, (sc_id M).symm⟩; rw [if_neg h_9, if_pos h_22]) | (refine ⟨?_, f, f2, rfl⟩; rw [if_neg h_9, if_neg h_22, if_pos h_35]; rfl) | (refine ⟨?_, _, _, (sc_id M).symm⟩; rw [if_neg h_9, if_neg h_22, if_neg h_35])
def spN (s : SS) (n : Int32) : Nat := min (tn n) (9999 - tn (s 2))
def aSprings (s : SS) (n : Int32) : Int32 := if 1 ≤ n ∧ n ≤ 100 then goN s (spN s n) 6 - s 6 else BADc
def sSprings (s : SS) (n : Int32) : SS := if 1 ≤ n ∧ n ≤ 100 then goN s (spN s n) else s
theorem spN_eq {s : SS} (h : WF 9999 s) {n : Int32} (hn : 1 ≤ n ∧ n ≤ 100) : leF n (9999 - s 2) = nI (spN s n) ∧ spN s n ≤ 100 ∧ tn (s 2) + spN s n ≤ 9999 ∧ s 2 = nI (tn (s 2)) := by
  obtain ⟨sp, h1, h2⟩ := h.2.1
  obtain ⟨e, l⟩ := rg_tn (x := n) (hi := 100) (n := 100) ⟨Int32.le_trans (by decide) hn.1, hn.2⟩ rfl
  obtain ⟨j, hj, rfl⟩ : ∃ j, j ≤ 100 ∧ n = nI j := ⟨tn n, l, e⟩
  have e2 : tn (s 2) = sp := by unfold tn; rw [h2, nI_clamp (by omega)]
  have e3 : tn (nI j) = j := nI_clamp (by omega)
  unfold spN
  rw [e2, e3, h2, show (9999 : Int32) = nI 9999 from rfl, pk_sub h1, leF_nI (by omega) (by omega)]
  exact ⟨rfl, by omega, by omega, rfl⟩
set_option maxRecDepth 100000 in
set_option maxHeartbeats 4000000 in
theorem c6_springs {g : GT} (M : TM) (n : Int32) (s : SS) (hs : M 31 0 = s) (hW : WF 9999 s) : Cn g yX6_springs cX6_springs 3 (some .int) 9 [.ref (gad g 6 0), .int n] M (Pb (aSprings s n) M (sSprings s n)) := by
  refine Cn.ofTR (by decide +kernel) (Nat.le_of_ble_eq_true rfl) ?_
  subst hs
  have hW0 := hW
  obtain ⟨⟨hn, hn10⟩, hsp, hr, hc, hm, ht⟩ := hW
  refine q_iload_n 1 dX6_springs_0 rfl rfl ?_
  refine q_i2l 2 dX6_springs_1 rfl ?_
  refine q_lconst (v := 1) 3 dX6_springs_2 rfl rfl ?_
  refine q_ldc2 6 dX6_springs_3 rfl cl_X6_152 ?_
  refine q_callSt 9 dX6_springs_6 rfl (c6_isIn' _ _ (1) (100) _ _) cw_X6_65 rfl rfl ⟨by decide, by decide⟩ ⟨by decide, by decide⟩ (Nat.le_of_ble_eq_true rfl) ?_
  refine q_if_ne 15 12 dX6_springs_9 rfl rfl (fun h_9 => ?_) (fun h_9 => ?_)
  · skip
    simp only [bI_0, Classical.not_not] at h_9
    obtain ⟨es, ls1, ls2, ls3⟩ := spN_eq hW0 h_9
    refine q_aload_n 16 dX6_springs_15 rfl rfl ?_
    refine q_getR 19 dX6_springs_16 rfl fl_X6_7 (by decide) rfl rfl ?_
    refine q_bipush (v := 6) 21 dX6_springs_19 rfl rfl ?_
    refine q_iald 22 dX6_springs_21 rfl (by decide) (by decide) rfl (by decide) ?_
    refine q_istore_n 23 dX6_springs_22 rfl (by decide) rfl ?_
    refine q_aload_n 24 dX6_springs_23 rfl rfl ?_
    refine q_iload_n 25 dX6_springs_24 rfl rfl ?_
    refine q_sipush (v := 9999) 28 dX6_springs_25 rfl rfl ?_
    refine q_aload_n 29 dX6_springs_28 rfl rfl ?_
    refine q_getR 32 dX6_springs_29 rfl fl_X6_7 (by decide) rfl rfl ?_
    refine q_iconst (v := 2) 33 dX6_springs_32 rfl rfl ?_
    refine q_iald 34 dX6_springs_33 rfl (by decide) (by decide) rfl (by decide) ?_
    refine q_isub 35 dX6_springs_34 rfl ?_
    refine q_callSt 38 dX6_springs_35 rfl (c6_least _ _ _) cw_X6_95 rfl rfl ⟨by decide, by decide⟩ ⟨by decide, by decide⟩ (Nat.le_of_ble_eq_true rfl) ?_
    refine q_callV 41 dX6_springs_38 rfl (c6_goesOnMany _ _ _ es (by omega) (M 31 0) (by rfl) 9999 hW0 (by omega)) cw_X6_182 (by decide) rfl rfl ⟨by decide, by decide⟩ ⟨by decide, by decide⟩ (Nat.le_of_ble_eq_true rfl) ?_
    rintro _ _ ⟨rfl, f, f2, rfl⟩
    refine q_aload_n 42 dX6_springs_41 rfl rfl ?_
    refine q_getR 45 dX6_springs_42 rfl fl_X6_7 (by decide) rfl rfl ?_
    refine q_bipush (v := 6) 47 dX6_springs_45 rfl rfl ?_
    refine q_iald 48 dX6_springs_47 rfl (by decide) (by decide) rfl (by decide) ?_
    refine q_iload_n 49 dX6_springs_48 rfl rfl ?_
    refine q_isub 50 dX6_springs_49 rfl ?_
    refine q_iret dX6_springs_50 ?_
    unfold aSprings sSprings
    first | (rw [if_pos h_9, if_pos h_9]; exact ⟨rfl, f, f2, rfl⟩) | exact Pb_id (by rw [if_neg h_9]) (if_neg h_9)
  · skip
    simp only [bI_0, Classical.not_not] at h_9
    refine q_ldc 14 dX6_springs_12 rfl cs_X6_110 ?_
    refine q_iret dX6_springs_14 ?_
    unfold aSprings sSprings
    first | (rw [if_pos h_9, if_pos h_9]; exact ⟨rfl, f, f2, rfl⟩) | exact Pb_id (by rw [if_neg h_9]) (if_neg h_9)
abbrev cBehind (s : SS) (n w : Int32) : Prop := (0 ≤ n ∧ n ≤ 100) ∧ 0 ≤ w ∧ (4 < w → isM s (w - 5))
def aBehind (s : SS) (n w : Int32) : Int32 := if cBehind s n w then (if w < 5 then waF (goN s (tn n)) w else mk (goN s (tn n)) (tn (w - 5)) 2) else BADc
theorem Pt_id {a b : Int32} {M : TM} {S : SS} (h : a = b) (hS : S = M 31 0) : Pt b M S (some (.int a)) M := ⟨by rw [h], M 42 0, M 44 0, M 45 0, by rw [putA_id, sc_id, hS, putA_id]⟩
theorem goF_0 {s : SS} (h : WK s) : goF s 0 = s 0 := by
  have hc : ∀ c, c ≤ 6 → coN s c 0 = s 0 := by
    intro c
    induction c with
    | zero => intro _; rfl
    | succ c ih =>
      intro hc
      show coF (coN s c) c 0 = _
      rw [coF_o (by omega) (by omega) (by omega) (fun j hj => by omega)]; exact ih (by omega)
  have hb : brF (coN s 6) (rmF (s 2) 6) 0 = s 0 := by rw [brF_o (by omega) (fun j hj => by omega)]; exact hc 6 (Nat.le_refl _)
  unfold goF
  rw [upd_n (by omega)]
  generalize brF (coN s 6) (rmF (s 2) 6) = B at hb
  have hd : ∀ S : SS, drS S 0 = S 0 := fun S => upd_n (by omega)
  unfold spF
  split
  · rw [duF_o (by omega) (by omega) (by omega) (fun j hj => by omega), hd, hd, hd, hb]
  · rw [hd, hb]
theorem goN_0 {s : SS} {b : Nat} (h : WF b s) : ∀ n, goN s n 0 = s 0
  | 0 => rfl
  | n + 1 => by show goF (goN s n) 0 = _; rw [goF_0 (goN_WF h n).k]; exact goN_0 h n
set_option maxRecDepth 100000 in
set_option maxHeartbeats 4000000 in
theorem c6_behind {g : GT} (M : TM) (n w : Int32) (s : SS) (hs : M 31 0 = s) (hW : WF 9999 s) : Cn g yX6_behind cX6_behind 4 (some .int) 9 [.ref (gad g 6 0), .int n, .int w] M (Pt (aBehind s n w) M s) := by
  refine Cn.ofTR (by decide +kernel) (Nat.le_of_ble_eq_true rfl) ?_
  subst hs
  have hW0 := hW
  obtain ⟨⟨hn, hn10⟩, hsp, hr, hc, hm, ht⟩ := hW
  have hlo := fun i (h : i < 71) => mix_lo (M 31 0) (M 42 0) h
  refine q_iload_n 1 dX6_behind_0 rfl rfl ?_
  refine q_i2l 2 dX6_behind_1 rfl ?_
  refine q_lconst (v := 0) 3 dX6_behind_2 rfl rfl ?_
  refine q_ldc2 6 dX6_behind_3 rfl cl_X6_152 ?_
  refine q_callSt 9 dX6_behind_6 rfl (c6_isIn' _ _ (0) (100) _ _) cw_X6_65 rfl rfl ⟨by decide, by decide⟩ ⟨by decide, by decide⟩ (Nat.le_of_ble_eq_true rfl) ?_
  refine q_if_eq 31 12 dX6_behind_9 rfl rfl (fun h_9 => ?_) (fun h_9 => ?_)
  · skip
    simp only [bI_0, Classical.not_not] at h_9
    refine q_ldc 33 dX6_behind_31 rfl cs_X6_110 ?_
    refine q_iret dX6_behind_33 ?_
    refine Pt_id ?_ rfl
    unfold aBehind
    rw [if_neg (fun q => by first | exact h_9 q.1 | exact absurd h_13 (Int32.not_lt.mpr q.2.1) | exact h_28 (q.2.2 (Int32.not_le.mp h_18)))]
  · skip
    simp only [bI_0, Classical.not_not] at h_9
    obtain ⟨en, ln⟩ := rg_tn h_9 (n := 100) rfl
    refine q_iload_n 13 dX6_behind_12 rfl rfl ?_
    refine q_if_lt 31 16 dX6_behind_13 rfl rfl (fun h_13 => ?_) (fun h_13 => ?_)
    · skip
      refine q_ldc 33 dX6_behind_31 rfl cs_X6_110 ?_
      refine q_iret dX6_behind_33 ?_
      refine Pt_id ?_ rfl
      unfold aBehind
      rw [if_neg (fun q => by first | exact h_9 q.1 | exact absurd h_13 (Int32.not_lt.mpr q.2.1) | exact h_28 (q.2.2 (Int32.not_le.mp h_18)))]
    · skip
      refine q_iload_n 17 dX6_behind_16 rfl rfl ?_
      refine q_iconst (v := 4) 18 dX6_behind_17 rfl rfl ?_
      refine q_icmp_le 34 21 dX6_behind_18 rfl rfl (fun h_18 => ?_) (fun h_18 => ?_)
      · skip
        refine q_aload_n 35 dX6_behind_34 rfl rfl ?_
        refine q_callVv 38 dX6_behind_35 rfl (c6_laysBy _) cw_X6_194 (by decide) rfl rfl ⟨by decide, by decide⟩ ⟨by decide, by decide⟩ (Nat.le_of_ble_eq_true rfl) ?_
        refine q_aload_n 39 dX6_behind_38 rfl rfl ?_
        refine q_iload_n 40 dX6_behind_39 rfl rfl ?_
        refine q_callV 43 dX6_behind_40 rfl (c6_goesOnMany _ _ _ en (by omega) (M 31 0) (by rfl) 9999 hW0 (by omega)) cw_X6_182 (by decide) rfl rfl ⟨by decide, by decide⟩ ⟨by decide, by decide⟩ (Nat.le_of_ble_eq_true rfl) ?_
        rintro _ _ ⟨rfl, f, f2, rfl⟩
        have hS0 := (goN_WF hW0 (tn n)).1
        have hhi := fun i (h : 71 ≤ i) => goN_hi hW0 h (tn n)
        have eS : goN (M 31 0) (tn n) = goN (M 31 0) (tn n) := rfl
        generalize hSe : goN (M 31 0) (tn n) = S at hS0 hhi
        refine q_iload_n 44 dX6_behind_43 rfl rfl ?_
        refine q_iconst (v := 5) 45 dX6_behind_44 rfl rfl ?_
        refine q_icmp_ge 56 48 dX6_behind_45 rfl rfl (fun h_45 => ?_) (fun h_45 => ?_)
        · skip
          obtain ⟨em, lm⟩ := isM_nat hn hn10 (by first | exact h_28 | exact absurd (Int32.lt_of_lt_of_le (by decide) h_45) (Int32.not_lt.mpr h_18))
          refine q_aload_n 57 dX6_behind_56 rfl rfl ?_
          refine q_iload_n 58 dX6_behind_57 rfl rfl ?_
          refine q_iconst (v := 5) 59 dX6_behind_58 rfl rfl ?_
          refine q_isub 60 dX6_behind_59 rfl ?_
          refine q_iconst (v := 2) 61 dX6_behind_60 rfl rfl ?_
          refine q_callVt 64 dX6_behind_61 rfl (c6_of _ _ _ (tn (w - 5)) 2 em rfl (by omega)) cw_X6_72 (by decide) rfl rfl ⟨by decide, by decide⟩ ⟨by decide, by decide⟩ (Nat.le_of_ble_eq_true rfl) ?_
          refine q_istore_n 65 dX6_behind_64 rfl (by decide) rfl ?_
          refine q_aload_n 66 dX6_behind_65 rfl rfl ?_
          refine q_callVv 69 dX6_behind_66 rfl (c6_laysBack' (putA M 42 0 (mixF (M 31 0) (M 42 0) 71)) (M 31 0) S f f2 hlo hhi) cw_X6_197 (by decide) rfl rfl ⟨by decide, by decide⟩ ⟨by decide, by decide⟩ (Nat.le_of_ble_eq_true rfl) ?_
          refine q_iload_n 70 dX6_behind_69 rfl rfl ?_
          refine q_iret dX6_behind_70 ?_
          refine ⟨congrArg (fun x => some (Value.int x)) ?_, _, f, f2, rfl⟩
          unfold aBehind
          rw [if_pos ⟨h_9, Int32.not_lt.mp h_13, fun q => by first | exact h_28 | exact absurd h_18 (Int32.not_le.mpr q)⟩, hSe]
          first | rw [if_neg (Int32.not_lt.mpr h_45)] <;> rfl | rw [if_pos (Int32.not_le.mp h_45)]
        · skip
          refine q_aload_n 49 dX6_behind_48 rfl rfl ?_
          refine q_iload_n 50 dX6_behind_49 rfl rfl ?_
          refine q_callVt 53 dX6_behind_50 rfl (c6_wallsOf _ _ S (by rfl) hS0.1 hS0.2) cw_X6_188 (by decide) rfl rfl ⟨by decide, by decide⟩ ⟨by decide, by decide⟩ (Nat.le_of_ble_eq_true rfl) ?_
          refine q_goto 64 dX6_behind_53 rfl ?_
          refine q_istore_n 65 dX6_behind_64 rfl (by decide) rfl ?_
          refine q_aload_n 66 dX6_behind_65 rfl rfl ?_
          refine q_callVv 69 dX6_behind_66 rfl (c6_laysBack' (putA M 42 0 (mixF (M 31 0) (M 42 0) 71)) (M 31 0) S f f2 hlo hhi) cw_X6_197 (by decide) rfl rfl ⟨by decide, by decide⟩ ⟨by decide, by decide⟩ (Nat.le_of_ble_eq_true rfl) ?_
          refine q_iload_n 70 dX6_behind_69 rfl rfl ?_
          refine q_iret dX6_behind_70 ?_
          refine ⟨congrArg (fun x => some (Value.int x)) ?_, _, f, f2, rfl⟩
          unfold aBehind
          rw [if_pos ⟨h_9, Int32.not_lt.mp h_13, fun q => by first | exact h_28 | exact absurd h_18 (Int32.not_le.mpr q)⟩, hSe]
          first | rw [if_neg (Int32.not_lt.mpr h_45)] <;> rfl | rw [if_pos (Int32.not_le.mp h_45)]
      · skip
        refine q_aload_n 22 dX6_behind_21 rfl rfl ?_
        refine q_iload_n 23 dX6_behind_22 rfl rfl ?_
        refine q_iconst (v := 5) 24 dX6_behind_23 rfl rfl ?_
        refine q_isub 25 dX6_behind_24 rfl ?_
        refine q_callVt 28 dX6_behind_25 rfl (c6_isMark _ _) cw_X6_116 (by decide) rfl rfl ⟨by decide, by decide⟩ ⟨by decide, by decide⟩ (Nat.le_of_ble_eq_true rfl) ?_
        refine q_if_ne 34 31 dX6_behind_28 rfl rfl (fun h_28 => ?_) (fun h_28 => ?_)
        · skip
          simp only [bI_0, Classical.not_not] at h_28
          refine q_aload_n 35 dX6_behind_34 rfl rfl ?_
          refine q_callVv 38 dX6_behind_35 rfl (c6_laysBy _) cw_X6_194 (by decide) rfl rfl ⟨by decide, by decide⟩ ⟨by decide, by decide⟩ (Nat.le_of_ble_eq_true rfl) ?_
          refine q_aload_n 39 dX6_behind_38 rfl rfl ?_
          refine q_iload_n 40 dX6_behind_39 rfl rfl ?_
          refine q_callV 43 dX6_behind_40 rfl (c6_goesOnMany _ _ _ en (by omega) (M 31 0) (by rfl) 9999 hW0 (by omega)) cw_X6_182 (by decide) rfl rfl ⟨by decide, by decide⟩ ⟨by decide, by decide⟩ (Nat.le_of_ble_eq_true rfl) ?_
          rintro _ _ ⟨rfl, f, f2, rfl⟩
          have hS0 := (goN_WF hW0 (tn n)).1
          have hhi := fun i (h : 71 ≤ i) => goN_hi hW0 h (tn n)
          have eS : goN (M 31 0) (tn n) = goN (M 31 0) (tn n) := rfl
          generalize hSe : goN (M 31 0) (tn n) = S at hS0 hhi
          refine q_iload_n 44 dX6_behind_43 rfl rfl ?_
          refine q_iconst (v := 5) 45 dX6_behind_44 rfl rfl ?_
          refine q_icmp_ge 56 48 dX6_behind_45 rfl rfl (fun h_45 => ?_) (fun h_45 => ?_)
          · skip
            obtain ⟨em, lm⟩ := isM_nat hn hn10 (by first | exact h_28 | exact absurd (Int32.lt_of_lt_of_le (by decide) h_45) (Int32.not_lt.mpr h_18))
            refine q_aload_n 57 dX6_behind_56 rfl rfl ?_
            refine q_iload_n 58 dX6_behind_57 rfl rfl ?_
            refine q_iconst (v := 5) 59 dX6_behind_58 rfl rfl ?_
            refine q_isub 60 dX6_behind_59 rfl ?_
            refine q_iconst (v := 2) 61 dX6_behind_60 rfl rfl ?_
            refine q_callVt 64 dX6_behind_61 rfl (c6_of _ _ _ (tn (w - 5)) 2 em rfl (by omega)) cw_X6_72 (by decide) rfl rfl ⟨by decide, by decide⟩ ⟨by decide, by decide⟩ (Nat.le_of_ble_eq_true rfl) ?_
            refine q_istore_n 65 dX6_behind_64 rfl (by decide) rfl ?_
            refine q_aload_n 66 dX6_behind_65 rfl rfl ?_
            refine q_callVv 69 dX6_behind_66 rfl (c6_laysBack' (putA M 42 0 (mixF (M 31 0) (M 42 0) 71)) (M 31 0) S f f2 hlo hhi) cw_X6_197 (by decide) rfl rfl ⟨by decide, by decide⟩ ⟨by decide, by decide⟩ (Nat.le_of_ble_eq_true rfl) ?_
            refine q_iload_n 70 dX6_behind_69 rfl rfl ?_
            refine q_iret dX6_behind_70 ?_
            refine ⟨congrArg (fun x => some (Value.int x)) ?_, _, f, f2, rfl⟩
            unfold aBehind
            rw [if_pos ⟨h_9, Int32.not_lt.mp h_13, fun q => by first | exact h_28 | exact absurd h_18 (Int32.not_le.mpr q)⟩, hSe]
            first | rw [if_neg (Int32.not_lt.mpr h_45)] <;> rfl | rw [if_pos (Int32.not_le.mp h_45)]
          · skip
            refine q_aload_n 49 dX6_behind_48 rfl rfl ?_
            refine q_iload_n 50 dX6_behind_49 rfl rfl ?_
            refine q_callVt 53 dX6_behind_50 rfl (c6_wallsOf _ _ S (by rfl) hS0.1 hS0.2) cw_X6_188 (by decide) rfl rfl ⟨by decide, by decide⟩ ⟨by decide, by decide⟩ (Nat.le_of_ble_eq_true rfl) ?_
            refine q_goto 64 dX6_behind_53 rfl ?_
            refine q_istore_n 65 dX6_behind_64 rfl (by decide) rfl ?_
            refine q_aload_n 66 dX6_behind_65 rfl rfl ?_
            refine q_callVv 69 dX6_behind_66 rfl (c6_laysBack' (putA M 42 0 (mixF (M 31 0) (M 42 0) 71)) (M 31 0) S f f2 hlo hhi) cw_X6_197 (by decide) rfl rfl ⟨by decide, by decide⟩ ⟨by decide, by decide⟩ (Nat.le_of_ble_eq_true rfl) ?_
            refine q_iload_n 70 dX6_behind_69 rfl rfl ?_
            refine q_iret dX6_behind_70 ?_
            refine ⟨congrArg (fun x => some (Value.int x)) ?_, _, f, f2, rfl⟩
            unfold aBehind
            rw [if_pos ⟨h_9, Int32.not_lt.mp h_13, fun q => by first | exact h_28 | exact absurd h_18 (Int32.not_le.mpr q)⟩, hSe]
            first | rw [if_neg (Int32.not_lt.mpr h_45)] <;> rfl | rw [if_pos (Int32.not_le.mp h_45)]
        · skip
          simp only [bI_0, Classical.not_not] at h_28
          refine q_ldc 33 dX6_behind_31 rfl cs_X6_110 ?_
          refine q_iret dX6_behind_33 ?_
          refine Pt_id ?_ rfl
          unfold aBehind
          rw [if_neg (fun q => by first | exact h_9 q.1 | exact absurd h_13 (Int32.not_lt.mpr q.2.1) | exact h_28 (q.2.2 (Int32.not_le.mp h_18)))]
def aLost (s : SS) (m : Int32) : Int32 := if isM s m then (if srch (fun n => lgB (goN s n) (tn m)) 201 0 ≤ 200 then nI (srch (fun n => lgB (goN s n) (tn m)) 201 0) else NONEc) else BADc
def aSolid (s : SS) (c : Int32) : Int32 := if 0 ≤ c ∧ c ≤ 5 then (if srch (fun n => decide (0 < goN s n (9 + tn c))) 201 0 ≤ 200 then nI (srch (fun n => decide (0 < goN s n (9 + tn c))) 201 0) else NONEc) else BADc
theorem Wgo {s : SS} (h : WF 9999 s) (n : Nat) : Wm (goN s n) := (goN_WF h n).m
set_option maxRecDepth 100000 in
set_option maxHeartbeats 4000000 in
theorem l6_lost {g : GT} (N : TM) (x : Int32) (k : Nat) (hk : x = nI k) (h9 : k < 10) (s : SS) (hW : WF 9999 s) (h1 : ∀ i, i < 71 → N 42 0 i = s i) : ∀ (j : Nat) (n : Nat) (y : Int32) (f f2 : Nat → Int32), n ≤ 201 → n + j = 202 → y = nI n → TR g (rmD 8) RX6 cX6_lost 3 (some .int) 0 0 (Zm g (fun r M' => r = some (.int (if srch (fun n => lgB (goN s n) k) (201 - n) n ≤ 200 then nI (srch (fun n => lgB (goN s n) k) (201 - n) n) else NONEc)) ∧ ∃ f f2, M' = putA (sc N f f2) 31 0 s)) 17 [some (.ref (gad g 6 0)), some (.int x), some (.int y)] [] (putA (sc N f f2) 31 0 (goN s n)) := by
  intro j
  induction j with
  | zero => intro n y f f2 hn2 hj hy; exfalso; omega
  | succ j ih =>
    intro n y f f2 hn2 hj hy
    subst hy
    refine q_iload_n 18 dX6_lost_17 rfl rfl ?_
    refine q_sipush (v := 200) 21 dX6_lost_18 rfl rfl ?_
    refine q_icmp_gt 42 24 dX6_lost_21 rfl rfl (fun h_21 => ?_) (fun h_21 => ?_)
    · skip
      rw [show (200 : Int32) = nI 200 from rfl, nI_ltI (by omega) (by omega)] at h_21
      refine q_aload_n 43 dX6_lost_42 rfl rfl ?_
      refine q_callVv 46 dX6_lost_43 rfl (c6_laysBack' N s (goN s n) _ _ h1 (fun i h => goN_hi hW h n)) cw_X6_197 (by decide) rfl rfl ⟨by decide, by decide⟩ ⟨by decide, by decide⟩ (Nat.le_of_ble_eq_true rfl) ?_
      refine q_iload_n 47 dX6_lost_46 rfl rfl ?_
      refine q_sipush (v := 200) 50 dX6_lost_47 rfl rfl ?_
      refine q_icmp_gt 57 53 dX6_lost_50 rfl rfl (fun h_50 => ?_) (fun h_50 => ?_)
      · skip
        rw [show (200 : Int32) = nI 200 from rfl, nI_ltI (by omega) (by omega)] at h_50
        refine q_ldc 59 dX6_lost_57 rfl cs_X6_64 ?_
        refine q_iret dX6_lost_59 ?_
        refine ⟨congrArg (fun x => some (Value.int x)) ?_, _, _, rfl⟩
        first
        | (exfalso; omega)
        | (rw [show 201 - n = 0 by omega, srch, if_neg (by omega)])
        | (rw [show 201 - n = (200 - n) + 1 by omega, srch, if_neg (show ¬ (fun n => lgB (goN s n) k) n = true from fun z => h_29 (of_decide_eq_true z)), if_pos (by omega)])
      · skip
        rw [show (200 : Int32) = nI 200 from rfl, nI_ltI (by omega) (by omega)] at h_50
        refine q_iload_n 54 dX6_lost_53 rfl rfl ?_
        refine q_goto 59 dX6_lost_54 rfl ?_
        refine q_iret dX6_lost_59 ?_
        refine ⟨congrArg (fun x => some (Value.int x)) ?_, _, _, rfl⟩
        first
        | (exfalso; omega)
        | (rw [show 201 - n = 0 by omega, srch, if_neg (by omega)])
        | (rw [show 201 - n = (200 - n) + 1 by omega, srch, if_neg (show ¬ (fun n => lgB (goN s n) k) n = true from fun z => h_29 (of_decide_eq_true z)), if_pos (by omega)])
    · skip
      rw [show (200 : Int32) = nI 200 from rfl, nI_ltI (by omega) (by omega)] at h_21
      refine q_aload_n 25 dX6_lost_24 rfl rfl ?_
      refine q_iload_n 26 dX6_lost_25 rfl rfl ?_
      refine q_callV 29 dX6_lost_26 rfl (c6_isLegible _ _ (goN s n) (by rfl) (Wgo hW n) k hk h9) cw_X6_162 (by decide) rfl rfl ⟨by decide, by decide⟩ ⟨by decide, by decide⟩ (Nat.le_of_ble_eq_true rfl) ?_
      rintro _ _ ⟨rfl, f3, f4, rfl⟩
      refine q_eqM (M' := putA (sc N f3 f4) 31 0 (goN s n)) (by rw [sc_put, sc_sc]) ?_
      refine q_if_eq 42 32 dX6_lost_29 rfl rfl (fun h_29 => ?_) (fun h_29 => ?_)
      · skip
        simp only [bI_0, Classical.not_not] at h_29
        refine q_aload_n 43 dX6_lost_42 rfl rfl ?_
        refine q_callVv 46 dX6_lost_43 rfl (c6_laysBack' N s (goN s n) _ _ h1 (fun i h => goN_hi hW h n)) cw_X6_197 (by decide) rfl rfl ⟨by decide, by decide⟩ ⟨by decide, by decide⟩ (Nat.le_of_ble_eq_true rfl) ?_
        refine q_iload_n 47 dX6_lost_46 rfl rfl ?_
        refine q_sipush (v := 200) 50 dX6_lost_47 rfl rfl ?_
        refine q_icmp_gt 57 53 dX6_lost_50 rfl rfl (fun h_50 => ?_) (fun h_50 => ?_)
        · skip
          rw [show (200 : Int32) = nI 200 from rfl, nI_ltI (by omega) (by omega)] at h_50
          refine q_ldc 59 dX6_lost_57 rfl cs_X6_64 ?_
          refine q_iret dX6_lost_59 ?_
          refine ⟨congrArg (fun x => some (Value.int x)) ?_, _, _, rfl⟩
          first
          | (exfalso; omega)
          | (rw [show 201 - n = 0 by omega, srch, if_neg (by omega)])
          | (rw [show 201 - n = (200 - n) + 1 by omega, srch, if_neg (show ¬ (fun n => lgB (goN s n) k) n = true from fun z => h_29 (of_decide_eq_true z)), if_pos (by omega)])
        · skip
          rw [show (200 : Int32) = nI 200 from rfl, nI_ltI (by omega) (by omega)] at h_50
          refine q_iload_n 54 dX6_lost_53 rfl rfl ?_
          refine q_goto 59 dX6_lost_54 rfl ?_
          refine q_iret dX6_lost_59 ?_
          refine ⟨congrArg (fun x => some (Value.int x)) ?_, _, _, rfl⟩
          first
          | (exfalso; omega)
          | (rw [show 201 - n = 0 by omega, srch, if_neg (by omega)])
          | (rw [show 201 - n = (200 - n) + 1 by omega, srch, if_neg (show ¬ (fun n => lgB (goN s n) k) n = true from fun z => h_29 (of_decide_eq_true z)), if_pos (by omega)])
      · skip
        simp only [bI_0, Classical.not_not] at h_29
        refine q_aload_n 33 dX6_lost_32 rfl rfl ?_
        refine q_callV 36 dX6_lost_33 rfl (c6_goesOn _ (goN s n) (by rfl) (9999 + n) (goN_WF hW n) (by omega)) cw_X6_179 (by decide) rfl rfl ⟨by decide, by decide⟩ ⟨by decide, by decide⟩ (Nat.le_of_ble_eq_true rfl) ?_
        rintro _ _ ⟨rfl, f5, f6, rfl⟩
        refine q_eqM (M' := putA (sc N f5 f6) 31 0 (goN s (n + 1))) (by rw [sc_put, putA_pp, sc_sc]; rfl) ?_
        refine q_iinc 39 dX6_lost_36 rfl rfl (by decide) rfl (nI_1 n) ?_
        refine q_goto 17 dX6_lost_39 rfl ?_
        have q := ih (n + 1) _ f5 f6 (by omega) (by omega) rfl
        rw [show 201 - n = (201 - (n + 1)) + 1 by omega, srch, if_pos (show (fun n => lgB (goN s n) k) n = true from decide_eq_true (show _ from h_29))]
        exact q_fg q ⟨rfl, rfl, rfl, trivial⟩
set_option maxRecDepth 100000 in
set_option maxHeartbeats 4000000 in
theorem l6_solid {g : GT} (N : TM) (x : Int32) (k : Nat) (hk : x = nI k) (h9 : k < 6) (s : SS) (hW : WF 9999 s) (h1 : ∀ i, i < 71 → N 42 0 i = s i) : ∀ (j : Nat) (n : Nat) (y : Int32) (f f2 : Nat → Int32), n ≤ 201 → n + j = 202 → y = nI n → TR g (rmD 8) RX6 cX6_solid 3 (some .int) 0 0 (Zm g (fun r M' => r = some (.int (if srch (fun n => decide (0 < goN s n (9 + k))) (201 - n) n ≤ 200 then nI (srch (fun n => decide (0 < goN s n (9 + k))) (201 - n) n) else NONEc)) ∧ ∃ f f2, M' = putA (sc N f f2) 31 0 s)) 16 [some (.ref (gad g 6 0)), some (.int x), some (.int y)] [] (putA (sc N f f2) 31 0 (goN s n)) := by
  intro j
  induction j with
  | zero => intro n y f f2 hn2 hj hy; exfalso; omega
  | succ j ih =>
    intro n y f f2 hn2 hj hy
    subst hy
    refine q_iload_n 17 dX6_solid_16 rfl rfl ?_
    refine q_sipush (v := 200) 20 dX6_solid_17 rfl rfl ?_
    refine q_icmp_gt 45 23 dX6_solid_20 rfl rfl (fun h_20 => ?_) (fun h_20 => ?_)
    · skip
      rw [show (200 : Int32) = nI 200 from rfl, nI_ltI (by omega) (by omega)] at h_20
      refine q_aload_n 46 dX6_solid_45 rfl rfl ?_
      refine q_callVv 49 dX6_solid_46 rfl (c6_laysBack' N s (goN s n) _ _ h1 (fun i h => goN_hi hW h n)) cw_X6_197 (by decide) rfl rfl ⟨by decide, by decide⟩ ⟨by decide, by decide⟩ (Nat.le_of_ble_eq_true rfl) ?_
      refine q_iload_n 50 dX6_solid_49 rfl rfl ?_
      refine q_sipush (v := 200) 53 dX6_solid_50 rfl rfl ?_
      refine q_icmp_gt 60 56 dX6_solid_53 rfl rfl (fun h_53 => ?_) (fun h_53 => ?_)
      · skip
        rw [show (200 : Int32) = nI 200 from rfl, nI_ltI (by omega) (by omega)] at h_53
        refine q_ldc 62 dX6_solid_60 rfl cs_X6_64 ?_
        refine q_iret dX6_solid_62 ?_
        refine ⟨congrArg (fun x => some (Value.int x)) ?_, _, _, rfl⟩
        first
        | (exfalso; omega)
        | (rw [show 201 - n = 0 by omega, srch, if_neg (by omega)])
        | (rw [show 201 - n = (200 - n) + 1 by omega, srch, if_neg (show ¬ (fun n => decide (0 < goN s n (9 + k))) n = true from fun z => (Int32.not_lt.mpr h_32) (of_decide_eq_true z)), if_pos (by omega)])
      · skip
        rw [show (200 : Int32) = nI 200 from rfl, nI_ltI (by omega) (by omega)] at h_53
        refine q_iload_n 57 dX6_solid_56 rfl rfl ?_
        refine q_goto 62 dX6_solid_57 rfl ?_
        refine q_iret dX6_solid_62 ?_
        refine ⟨congrArg (fun x => some (Value.int x)) ?_, _, _, rfl⟩
        first
        | (exfalso; omega)
        | (rw [show 201 - n = 0 by omega, srch, if_neg (by omega)])
        | (rw [show 201 - n = (200 - n) + 1 by omega, srch, if_neg (show ¬ (fun n => decide (0 < goN s n (9 + k))) n = true from fun z => (Int32.not_lt.mpr h_32) (of_decide_eq_true z)), if_pos (by omega)])
    · skip
      rw [show (200 : Int32) = nI 200 from rfl, nI_ltI (by omega) (by omega)] at h_20
      refine q_aload_n 24 dX6_solid_23 rfl rfl ?_
      refine q_getR 27 dX6_solid_24 rfl fl_X6_7 (by decide) rfl rfl ?_
      refine q_bipush (v := 9) 29 dX6_solid_27 rfl rfl ?_
      refine q_iload_n 30 dX6_solid_29 rfl rfl ?_
      refine q_iadd 31 dX6_solid_30 rfl ?_
      refine q_iald 32 dX6_solid_31 rfl (by decide) (by decide) (ix_ad hk) (show 9 + k < 3071 by omega) ?_
      refine q_if_le 45 35 dX6_solid_32 rfl rfl (fun h_32 => ?_) (fun h_32 => ?_)
      · skip
        refine q_aload_n 46 dX6_solid_45 rfl rfl ?_
        refine q_callVv 49 dX6_solid_46 rfl (c6_laysBack' N s (goN s n) _ _ h1 (fun i h => goN_hi hW h n)) cw_X6_197 (by decide) rfl rfl ⟨by decide, by decide⟩ ⟨by decide, by decide⟩ (Nat.le_of_ble_eq_true rfl) ?_
        refine q_iload_n 50 dX6_solid_49 rfl rfl ?_
        refine q_sipush (v := 200) 53 dX6_solid_50 rfl rfl ?_
        refine q_icmp_gt 60 56 dX6_solid_53 rfl rfl (fun h_53 => ?_) (fun h_53 => ?_)
        · skip
          rw [show (200 : Int32) = nI 200 from rfl, nI_ltI (by omega) (by omega)] at h_53
          refine q_ldc 62 dX6_solid_60 rfl cs_X6_64 ?_
          refine q_iret dX6_solid_62 ?_
          refine ⟨congrArg (fun x => some (Value.int x)) ?_, _, _, rfl⟩
          first
          | (exfalso; omega)
          | (rw [show 201 - n = 0 by omega, srch, if_neg (by omega)])
          | (rw [show 201 - n = (200 - n) + 1 by omega, srch, if_neg (show ¬ (fun n => decide (0 < goN s n (9 + k))) n = true from fun z => (Int32.not_lt.mpr h_32) (of_decide_eq_true z)), if_pos (by omega)])
        · skip
          rw [show (200 : Int32) = nI 200 from rfl, nI_ltI (by omega) (by omega)] at h_53
          refine q_iload_n 57 dX6_solid_56 rfl rfl ?_
          refine q_goto 62 dX6_solid_57 rfl ?_
          refine q_iret dX6_solid_62 ?_
          refine ⟨congrArg (fun x => some (Value.int x)) ?_, _, _, rfl⟩
          first
          | (exfalso; omega)
          | (rw [show 201 - n = 0 by omega, srch, if_neg (by omega)])
          | (rw [show 201 - n = (200 - n) + 1 by omega, srch, if_neg (show ¬ (fun n => decide (0 < goN s n (9 + k))) n = true from fun z => (Int32.not_lt.mpr h_32) (of_decide_eq_true z)), if_pos (by omega)])
      · skip
        refine q_aload_n 36 dX6_solid_35 rfl rfl ?_
        refine q_callV 39 dX6_solid_36 rfl (c6_goesOn _ (goN s n) (by rfl) (9999 + n) (goN_WF hW n) (by omega)) cw_X6_179 (by decide) rfl rfl ⟨by decide, by decide⟩ ⟨by decide, by decide⟩ (Nat.le_of_ble_eq_true rfl) ?_
        rintro _ _ ⟨rfl, f5, f6, rfl⟩
        refine q_eqM (M' := putA (sc N f5 f6) 31 0 (goN s (n + 1))) (by rw [sc_put, putA_pp, sc_sc]; rfl) ?_
        refine q_iinc 42 dX6_solid_39 rfl rfl (by decide) rfl (nI_1 n) ?_
        refine q_goto 16 dX6_solid_42 rfl ?_
        have q := ih (n + 1) _ f5 f6 (by omega) (by omega) rfl
        rw [show 201 - n = (201 - (n + 1)) + 1 by omega, srch, if_pos (show (fun n => decide (0 < goN s n (9 + k))) n = true from decide_eq_true (show _ from (Int32.not_le.mp h_32)))]
        exact q_fg q ⟨rfl, rfl, rfl, trivial⟩
set_option maxRecDepth 100000 in
set_option maxHeartbeats 4000000 in
theorem c6_lost {g : GT} (M : TM) (m : Int32) (s : SS) (hs : M 31 0 = s) (hW : WF 9999 s) : Cn g yX6_lost cX6_lost 3 (some .int) 8 [.ref (gad g 6 0), .int m] M (Pt (aLost s m) M s) := by
  refine Cn.ofTR (by decide +kernel) (Nat.le_of_ble_eq_true rfl) ?_
  subst hs
  have hW0 := hW
  obtain ⟨⟨hn, hn10⟩, hsp, hr, hc, hm, ht⟩ := hW
  have hlo := fun i (h : i < 71) => mix_lo (M 31 0) (M 42 0) h
  refine q_aload_n 1 dX6_lost_0 rfl rfl ?_
  refine q_iload_n 2 dX6_lost_1 rfl rfl ?_
  refine q_callVt 5 dX6_lost_2 rfl (c6_isMark _ _) cw_X6_116 (by decide) rfl rfl ⟨by decide, by decide⟩ ⟨by decide, by decide⟩ (Nat.le_of_ble_eq_true rfl) ?_
  refine q_if_ne 11 8 dX6_lost_5 rfl rfl (fun h_5 => ?_) (fun h_5 => ?_)
  · skip
    simp only [bI_0, Classical.not_not] at h_5
    obtain ⟨em, lm⟩ := isM_nat hn hn10 h_5
    refine q_aload_n 12 dX6_lost_11 rfl rfl ?_
    refine q_callVv 15 dX6_lost_12 rfl (c6_laysBy _) cw_X6_194 (by decide) rfl rfl ⟨by decide, by decide⟩ ⟨by decide, by decide⟩ (Nat.le_of_ble_eq_true rfl) ?_
    refine q_iconst (v := 0) 16 dX6_lost_15 rfl rfl ?_
    refine q_istore_n 17 dX6_lost_16 rfl (by decide) rfl ?_
    refine q_eqM (M' := putA (sc (putA M 42 0 (mixF (M 31 0) (M 42 0) 71)) (M 44 0) (M 45 0)) 31 0 (M 31 0)) (sc31_id (putA M 42 0 (mixF (M 31 0) (M 42 0) 71))).symm ?_
    refine TR_post (q_fg (l6_lost (putA M 42 0 (mixF (M 31 0) (M 42 0) 71)) m (tn m) em (by omega) (M 31 0) hW0 hlo 202 0 0 _ _ (by omega) (by omega) rfl) ⟨rfl, rfl, rfl, trivial⟩) ?_
    rintro _ _ ⟨rfl, f, f2, rfl⟩
    unfold aLost
    rw [if_pos h_5]
    exact ⟨rfl, _, f, f2, rfl⟩
  · skip
    simp only [bI_0, Classical.not_not] at h_5
    refine q_ldc 10 dX6_lost_8 rfl cs_X6_110 ?_
    refine q_iret dX6_lost_10 ?_
    refine Pt_id ?_ rfl
    unfold aLost
    rw [if_neg h_5]
set_option maxRecDepth 100000 in
set_option maxHeartbeats 4000000 in
theorem c6_solid {g : GT} (M : TM) (c : Int32) (s : SS) (hs : M 31 0 = s) (hW : WF 9999 s) : Cn g yX6_solid cX6_solid 3 (some .int) 8 [.ref (gad g 6 0), .int c] M (Pt (aSolid s c) M s) := by
  refine Cn.ofTR (by decide +kernel) (Nat.le_of_ble_eq_true rfl) ?_
  subst hs
  have hW0 := hW
  obtain ⟨⟨hn, hn10⟩, hsp, hr, hc, hm, ht⟩ := hW
  have hlo := fun i (h : i < 71) => mix_lo (M 31 0) (M 42 0) h
  refine q_iload_n 1 dX6_solid_0 rfl rfl ?_
  refine q_callSt 4 dX6_solid_1 rfl (c6_isCell _ _) cw_X6_106 rfl rfl ⟨by decide, by decide⟩ ⟨by decide, by decide⟩ (Nat.le_of_ble_eq_true rfl) ?_
  refine q_if_ne 10 7 dX6_solid_4 rfl rfl (fun h_4 => ?_) (fun h_4 => ?_)
  · skip
    simp only [bI_0, Classical.not_not] at h_4
    obtain ⟨ec, lc⟩ := rg_tn h_4 (n := 5) rfl
    refine q_aload_n 11 dX6_solid_10 rfl rfl ?_
    refine q_callVv 14 dX6_solid_11 rfl (c6_laysBy _) cw_X6_194 (by decide) rfl rfl ⟨by decide, by decide⟩ ⟨by decide, by decide⟩ (Nat.le_of_ble_eq_true rfl) ?_
    refine q_iconst (v := 0) 15 dX6_solid_14 rfl rfl ?_
    refine q_istore_n 16 dX6_solid_15 rfl (by decide) rfl ?_
    refine q_eqM (M' := putA (sc (putA M 42 0 (mixF (M 31 0) (M 42 0) 71)) (M 44 0) (M 45 0)) 31 0 (M 31 0)) (sc31_id (putA M 42 0 (mixF (M 31 0) (M 42 0) 71))).symm ?_
    refine TR_post (q_fg (l6_solid (putA M 42 0 (mixF (M 31 0) (M 42 0) 71)) c (tn c) ec (by omega) (M 31 0) hW0 hlo 202 0 0 _ _ (by omega) (by omega) rfl) ⟨rfl, rfl, rfl, trivial⟩) ?_
    rintro _ _ ⟨rfl, f, f2, rfl⟩
    unfold aSolid
    rw [if_pos h_4]
    exact ⟨rfl, _, f, f2, rfl⟩
  · skip
    simp only [bI_0, Classical.not_not] at h_4
    refine q_ldc 9 dX6_solid_7 rfl cs_X6_110 ?_
    refine q_iret dX6_solid_9 ?_
    refine Pt_id ?_ rfl
    unfold aSolid
    rw [if_neg h_4]
