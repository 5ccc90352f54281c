/-! THE LOGIC, the heap and calls -/
theorem clsOK : ∀ (c : Nat) (C : String) (T : u_T) (N : Nat), vwCl[c]? = some (C, T, N) → (∀ w ∈ u_ws C T N, w ∈ TB) ∧ (∃ ty : Nat → FieldType, ∀ k, k < N → parseFieldDescriptor (T k).2.2.1 = some (ty k)) ∧ (∀ a, a < N → ∀ b, b < N → a ≠ b → (T a).2.1 ≠ (T b).2.1) ∧ nF c = N ∧ c < 7
  | 0, _, _, _, h => by cases h; exact ⟨by decide +kernel, ⟨_, tyX0_ok⟩, nmX0, rfl, by decide⟩
  | 1, _, _, _, h => by cases h; exact ⟨by decide +kernel, ⟨_, tyX1_ok⟩, nmX1, rfl, by decide⟩
  | 2, _, _, _, h => by cases h; exact ⟨by decide +kernel, ⟨_, tyX2_ok⟩, nmX2, rfl, by decide⟩
  | 3, _, _, _, h => by cases h; exact ⟨by decide +kernel, ⟨_, tyX3_ok⟩, nmX3, rfl, by decide⟩
  | 4, _, _, _, h => by cases h; exact ⟨by decide +kernel, ⟨_, tyX4_ok⟩, nmX4, rfl, by decide⟩
  | 5, _, _, _, h => by cases h; exact ⟨by decide +kernel, ⟨_, tyX5_ok⟩, nmX5, rfl, by decide⟩
  | 6, _, _, _, h => by cases h; exact ⟨by decide +kernel, ⟨_, tyX6_ok⟩, nmX6, rfl, by decide⟩
  | c + 7, _, _, _, h => by simp [vwCl] at h
/-- a field's link: own class, pool entry, class and place of the field -/
def FL (own : String) (idx c j : Nat) : Prop := ∃ (C : String) (T : u_T) (N : Nat), vwCl[c]? = some (C, T, N) ∧ j < N ∧ Cond.fieldLink own idx C (T j).2.1 (T j).2.2.1 ∈ TB ∧ (T j).1 = C
/-- a field that may be written, by its type -/
def FP (c j : Nat) (ty : FieldType) : Prop := ∃ (C : String) (T : u_T) (N : Nat), vwCl[c]? = some (C, T, N) ∧ (T j).2.2.2 = false ∧ parseFieldDescriptor (T j).2.2.1 = some ty
theorem fval_at (g : GT) (M : TM) {c k j : Nat} (h : j < nF c) : ((List.range (nF c)).map (fval g M c k))[j]? = some (fval g M c k j) := by
  rw [List.getElem?_map, List.getElem?_range h]; rfl
section TRH
variable {g : GT} {R : Room} {own : String} {cc : ByteArray} {nL : Nat} {ret : Option FieldType} {kc ks : Nat} {Z : List Frame → Array Value → State → State → Prop} {pc : Nat} {tl : List (Option Value)} {st : List Value} {M : TM}
theorem q_get {idx c j k : Nat} {v : Value} (n : Nat) (hd : decode cc pc = .ok (.getfield idx, 3)) (hn : pc + 3 = n) (fl : FL own idx c j) (hk : k < cnt c) (hv : fval g M c k j = v) (kk : TR g R own cc nL ret kc ks Z n tl (v :: st) M) : TR g R own cc nL ret kc ks Z pc tl (.ref (gad g c k) :: st) M := by
  subst hn
  intro p e s m args below meth c' H locs ls C hP hS hl
  obtain ⟨C0, T, N, h1, h2, h3, h4⟩ := fl
  obtain ⟨o1, o2, o3, o4, o5⟩ := clsOK c C0 T N h1
  obtain ⟨q, hq⟩ := wcells_at hk
  have he := WS_at g M hq
  rw [cellE_obj g M o5] at he
  refine va_get C.1 C.2.1 C.2.2.2.2.2.2.1 o1 C.2.2.2.2.2.1 C.2.2.2.2.2.2.2.1 hP q he h1 j h2 (C.2.2.2.2.2.2.1 _ h3) (fun x hx => by rw [h4] at hx; exact hx) (v := v) ?_ hd (kk p e s m args below meth c' H locs ls C hP hS hl)
  rw [fval_at g M (by rw [o4]; exact h2), hv]
theorem q_getI {idx c j k : Nat} (n : Nat) (hd : decode cc pc = .ok (.getfield idx, 3)) (hn : pc + 3 = n) (fl : FL own idx c j) (hk : k < cnt c) (hf : fldOf c j = none) (h0 : ¬ (c = 0 ∧ j = 4)) (kk : TR g R own cc nL ret kc ks Z n tl (.int (M c k j) :: st) M) : TR g R own cc nL ret kc ks Z pc tl (.ref (gad g c k) :: st) M :=
  q_get n hd hn fl hk (by unfold fval; rw [hf]; exact if_neg h0) kk
theorem q_getR {idx c j k t' k' : Nat} {f : Nat → Nat × Nat} (n : Nat) (hd : decode cc pc = .ok (.getfield idx, 3)) (hn : pc + 3 = n) (fl : FL own idx c j) (hk : k < cnt c) (hf : fldOf c j = some f) (he : f k = (t', k')) (kk : TR g R own cc nL ret kc ks Z n tl (.ref (gad g t' k') :: st) M) : TR g R own cc nL ret kc ks Z pc tl (.ref (gad g c k) :: st) M :=
  q_get n hd hn fl hk (by unfold fval; rw [hf]; show Value.ref (gad g (f k).1 (f k).2) = _; rw [he]) kk
/-- the reader's tape, once it is the object's -/
theorem q_getT {idx k : Nat} (n : Nat) (hd : decode cc pc = .ok (.getfield idx, 3)) (hn : pc + 3 = n) (fl : FL own idx 0 4) (hk : k < cnt 0) (h1 : M 0 k 4 = 1) (kk : TR g R own cc nL ret kc ks Z n tl (.ref (gad g 28 0) :: st) M) : TR g R own cc nL ret kc ks Z pc tl (.ref (gad g 0 k) :: st) M :=
  q_get n hd hn fl hk (by unfold fval; rw [show fldOf 0 4 = none from rfl]; simp [h1]) kk
theorem q_putG {idx c j k : Nat} {ty : FieldType} {v : Value} {f' : Nat → Int32} (n : Nat) (hd : decode cc pc = .ok (.putfield idx, 3)) (hn : pc + 3 = n) (fl : FL own idx c j) (fp : FP c j ty) (hk : k < cnt c) (hw : narrow ty v = v) (hfit : fits ty v = true) (hs : ∀ i, fval g (putA M c k f') c k i = if i = j then v else fval g M c k i) (kk : TR g R own cc nL ret kc ks Z n tl st (putA M c k f')) : TR g R own cc nL ret kc ks Z pc tl (v :: .ref (gad g c k) :: st) M := by
  subst hn
  intro p e s m args below meth c' H locs ls C hP hS hl
  obtain ⟨C0, T, N, h1, h2, h3, h4⟩ := fl
  obtain ⟨C1, T1, N1, g1, g2, g3⟩ := fp
  cases h1.symm.trans g1
  obtain ⟨o1, ⟨ty0, o2⟩, o3, o4, o5⟩ := clsOK c C0 T N h1
  obtain ⟨q, hq⟩ := wcells_at hk
  have he := WS_at g M hq
  rw [cellE_obj g M o5] at he
  refine va_put C.1 C.2.1 C.2.2.2.2.2.2.1 o1 ty0 o2 o3 C.2.2.2.2.2.1 C.2.2.2.2.2.2.2.1 hP (C.2.2.2.2.2.2.2.2.1 M) hS q he h1 j h2 (C.2.2.2.2.2.2.1 _ h3) (fun x hx => by rw [h4] at hx; exact hx) g2 g3 hw hfit ?_ hd (fun H1 locs1 hP1 hD1 hS1 => ?_)
  · rw [List.length_map, List.length_range, o4]; exact h2
  · have hE : ((List.range (nF c)).map (fval g M c k)).set j v = (List.range (nF c)).map (fval g (putA M c k f') c k) := by
      apply List.ext_getElem?
      intro i
      rw [List.getElem?_set, List.getElem?_map, List.getElem?_map, List.length_map, List.length_range]
      by_cases hi : j = i
      · subst hi
        rw [if_pos rfl, if_pos (by rw [o4]; exact h2), List.getElem?_range (by rw [o4]; exact h2)]
        show some v = some _
        rw [hs j, if_pos rfl]
      · rw [if_neg hi]
        by_cases hil : i < nF c
        · rw [List.getElem?_range hil]
          show some _ = some _
          rw [hs i, if_neg (fun q => hi q.symm)]
        · rw [List.getElem?_eq_none (by rw [List.length_range]; omega)]
          rfl
    have hset := WS_set g (M := M) (M' := putA M c k f') hq (fun a b hab => cellE_put g M f' hab)
    rw [cellE_obj g (putA M c k f') o5] at hset
    rw [hE, hset] at hP1
    exact kk p e s m args below meth c' H1 locs1 ls C hP1 hS1 hl
theorem fval_put (g : GT) (M : TM) {c j k : Nat} (x : Int32) (hf : fldOf c j = none) (h0 : ¬ (c = 0 ∧ j = 4)) (i : Nat) : fval g (putA M c k (upd (M c k) j x)) c k i = if i = j then .int x else fval g M c k i := by
  by_cases hi : i = j
  · subst hi
    rw [if_pos rfl]
    unfold fval
    rw [hf]
    simp only [if_neg h0, putA_s, upd, if_true]
  · rw [if_neg hi]
    unfold fval
    cases fldOf c i with
    | some f => rfl
    | none =>
      simp only
      by_cases h4 : c = 0 ∧ i = 4
      · obtain ⟨rfl, rfl⟩ := h4
        rw [putA_s]
        simp only [upd, if_neg hi]
      · rw [if_neg h4, if_neg h4, putA_s]
        simp only [upd, if_neg hi]
theorem q_putI {idx c j k : Nat} {ty : FieldType} {x : Int32} (n : Nat) (hd : decode cc pc = .ok (.putfield idx, 3)) (hn : pc + 3 = n) (fl : FL own idx c j) (fp : FP c j ty) (hk : k < cnt c) (hf : fldOf c j = none) (h0 : ¬ (c = 0 ∧ j = 4)) (hw : narrow ty (.int x) = .int x) (hfit : fits ty (.int x) = true) (kk : TR g R own cc nL ret kc ks Z n tl st (putA M c k (upd (M c k) j x))) : TR g R own cc nL ret kc ks Z pc tl (.int x :: .ref (gad g c k) :: st) M :=
  q_putG n hd hn fl fp hk hw hfit (fval_put g M x hf h0) kk
theorem q_putT {idx k : Nat} (n : Nat) (hd : decode cc pc = .ok (.putfield idx, 3)) (hn : pc + 3 = n) (fl : FL own idx 0 4) (fp : FP 0 4 (.array .int)) (hk : k < cnt 0) (kk : TR g R own cc nL ret kc ks Z n tl st (putA M 0 k (upd (M 0 k) 4 1))) : TR g R own cc nL ret kc ks Z pc tl (.ref (gad g 28 0) :: .ref (gad g 0 k) :: st) M := by
  refine q_putG n hd hn fl fp hk rfl rfl (fun i => ?_) kk
  by_cases hi : i = 4
  · subst hi
    rw [if_pos rfl]
    unfold fval
    rw [show fldOf 0 4 = none from rfl]
    simp [putA_s, upd]
  · rw [if_neg hi]
    unfold fval
    cases fldOf 0 i with
    | some f => rfl
    | none => simp only [putA_s, upd, hi, and_false, if_false]
theorem ix_in {x : Int32} {i n : Nat} (hx : x = nI i) (hi : i < n) (hn : n < 2 ^ 31) : vp_in x n := by subst hx; exact vp_in_nI hi hn
theorem len_lt (t : Nat) : len t < 2 ^ 31 := by
  have h : ∀ x ∈ lenL, x < 2 ^ 31 := by decide
  unfold len
  rw [List.getD_eq_getElem?_getD]
  cases hq : lenL[t]? with
  | none => decide
  | some y => exact h y (List.mem_of_getElem? hq)
theorem q_iald {t k i : Nat} {x : Int32} (n : Nat) (hd : decode cc pc = .ok (.iaload, 1)) (hn : pc + 1 = n) (ht : 9 < t) (hk : k < cnt t) (hx : x = nI i) (hi : i < len t) (kk : TR g R own cc nL ret kc ks Z n tl (.int (M t k i) :: st) M) : TR g R own cc nL ret kc ks Z pc tl (.int x :: .ref (gad g t k) :: st) M := by
  subst hn
  intro p e s m args below meth c' H locs ls C hP hS hl
  obtain ⟨q, hq⟩ := wcells_at hk
  have he := WS_at g M hq
  rw [cellE_arr g M ht] at he
  refine va_iald C.1 C.2.1 C.2.2.2.2.2.2.2.1 hP q 0 he rfl (ix_in hx hi (len_lt t)) hd ?_
  rw [hx, nI_clamp (Nat.lt_trans hi (len_lt t))]
  exact kk p e s m args below meth c' H locs ls C hP hS hl
theorem q_iast {t k i : Nat} {x v : Int32} (n : Nat) (hd : decode cc pc = .ok (.iastore, 1)) (hn : pc + 1 = n) (ht : 9 < t) (hk : k < cnt t) (hx : x = nI i) (hi : i < len t) (kk : TR g R own cc nL ret kc ks Z n tl st (putA M t k (upd (M t k) i v))) : TR g R own cc nL ret kc ks Z pc tl (.int v :: .int x :: .ref (gad g t k) :: st) M := by
  subst hn
  intro p e s m args below meth c' H locs ls C hP hS hl
  obtain ⟨q, hq⟩ := wcells_at hk
  have he := WS_at g M hq
  rw [cellE_arr g M ht] at he
  refine va_iast C.1 C.2.1 C.2.2.2.2.2.2.2.1 hP (C.2.2.2.2.2.2.2.2.1 M) hS q 0 he rfl (ix_in hx hi (len_lt t)) hd (fun H1 locs1 hP1 hD1 hS1 => ?_)
  rw [hx, nI_clamp (Nat.lt_trans hi (len_lt t))] at hP1
  have hset := WS_set g (M := M) (M' := putA M t k (upd (M t k) i v)) hq (fun a b hab => cellE_put g M _ hab)
  rw [cellE_arr g _ ht, putA_s] at hset
  rw [hset] at hP1
  exact kk p e s m args below meth c' H1 locs1 ls C hP1 hS1 hl
theorem q_alen {t k : Nat} {v : Int32} (n : Nat) (hd : decode cc pc = .ok (.arraylength, 1)) (hn : pc + 1 = n) (ht : 9 < t) (hk : k < cnt t) (hv : nI (len t) = v) (kk : TR g R own cc nL ret kc ks Z n tl (.int v :: st) M) : TR g R own cc nL ret kc ks Z pc tl (.ref (gad g t k) :: st) M := by
  subst hn
  intro p e s m args below meth c' H locs ls C hP hS hl
  obtain ⟨q, hq⟩ := wcells_at hk
  have he := WS_at g M hq
  rw [cellE_arr g M ht] at he
  exact va_alen C.1 C.2.1 C.2.2.2.2.2.2.2.1 hP q 0 he rfl hv hd (kk p e s m args below meth c' H locs ls C hP hS hl)
theorem q_aald7 {i : Nat} {x : Int32} (n : Nat) (hd : decode cc pc = .ok (.aaload, 1)) (hn : pc + 1 = n) (hx : x = nI i) (hi : i < 4) (kk : TR g R own cc nL ret kc ks Z n tl (.ref (gad g 1 i) :: st) M) : TR g R own cc nL ret kc ks Z pc tl (.int x :: .ref (gad g 7 0) :: st) M := by
  subst hn
  intro p e s m args below meth c' H locs ls C hP hS hl
  obtain ⟨q, hq⟩ := wcells_at (t := 7) (k := 0) (by decide)
  have he : (WS g M)[q]? = some (gad g 7 0, .inl (gc g 1, 4, .inr (.inr (.inr (.inr (fun i => some (gad g 1 i))))))) := WS_at g M hq
  refine va_aldq C.1 C.2.1 C.2.2.2.2.2.2.2.1 hP q 1 he rfl (ix_in hx hi (by decide)) hd ?_
  rw [hx, nI_clamp (by omega)]
  exact kk p e s m args below meth c' H locs ls C hP hS hl
theorem q_aald8 {i : Nat} {x : Int32} (n : Nat) (hd : decode cc pc = .ok (.aaload, 1)) (hn : pc + 1 = n) (hx : x = nI i) (hi : i < 5) (kk : TR g R own cc nL ret kc ks Z n tl (.ref (gad g 2 i) :: st) M) : TR g R own cc nL ret kc ks Z pc tl (.int x :: .ref (gad g 8 0) :: st) M := by
  subst hn
  intro p e s m args below meth c' H locs ls C hP hS hl
  obtain ⟨q, hq⟩ := wcells_at (t := 8) (k := 0) (by decide)
  have he : (WS g M)[q]? = some (gad g 8 0, .inl (gc g 2, 5, .inr (.inr (.inr (.inr (fun i => some (gad g 2 i))))))) := WS_at g M hq
  refine va_aldq C.1 C.2.1 C.2.2.2.2.2.2.2.1 hP q 2 he rfl (ix_in hx hi (by decide)) hd ?_
  rw [hx, nI_clamp (by omega)]
  exact kk p e s m args below meth c' H locs ls C hP hS hl
theorem q_aald9 {i : Nat} {x : Int32} (n : Nat) (hd : decode cc pc = .ok (.aaload, 1)) (hn : pc + 1 = n) (hx : x = nI i) (hi : i < 14) (kk : TR g R own cc nL ret kc ks Z n tl (.ref (gad g 13 i) :: st) M) : TR g R own cc nL ret kc ks Z pc tl (.int x :: .ref (gad g 9 0) :: st) M := by
  subst hn
  intro p e s m args below meth c' H locs ls C hP hS hl
  obtain ⟨q, hq⟩ := wcells_at (t := 9) (k := 0) (by decide)
  have he : (WS g M)[q]? = some (gad g 9 0, .inl (gc g 3, 14, .inr (.inr (.inr (.inr (fun i => some (gad g 13 i))))))) := WS_at g M hq
  have hin : vp_in x 14 := ix_in hx hi (by decide)
  have hlt : x.toNatClampNeg < 14 := Nat.not_le.mp fun q => hin (Or.inr q)
  refine W.aald (v := va_rf (some (gad g 13 x.toNatClampNeg))) (ty := .array .int) C.1 C.2.1 (hP q _ he) ((C.2.2.2.2.2.2.2.1.2 3 _ rfl).1 14 (fun j => va_rf (some (gad g 13 j)))) rfl (fun q => by cases q) (by show ¬ (x < 0 ∨ (arrV _ _ _).slots.size ≤ _); rw [arrV_size]; exact hin) (by show (arrV _ _ _).slots[_]? = _; rw [arrV_read _ _ hlt]) rfl rfl hd ?_
  rw [hx, nI_clamp (by omega)]
  exact kk p e s m args below meth c' H locs ls C hP hS hl
/-- a table: a static array that nobody writes -/
def tabN (t : Nat) : Nat := if t = 49 then 6 else 3
def tabF (t : Nat) : List Int32 := if t = 49 then raL else if t = 50 then lrL else mrL
theorem Ev.tab {g : GT} {s : State} (h : Ev g s) {t : Nat} (ht : t = 49 ∨ t = 50 ∨ t = 51) : va_T .int (gad g t 0) (tabN t) (fun j => .int ((tabF t).getD j 0)) (gA g) s s.heap := by
  rcases ht with rfl | rfl | rfl
  · exact h.2.2.1.2
  · exact h.2.2.2.1.2
  · exact h.2.2.2.2.1.2
theorem q_tald {t i : Nat} {x v : Int32} (n : Nat) (hd : decode cc pc = .ok (.iaload, 1)) (hn : pc + 1 = n) (ht : t = 49 ∨ t = 50 ∨ t = 51) (hx : x = nI i) (hi : i < tabN t) (hv : (tabF t).getD i 0 = v) (kk : TR g R own cc nL ret kc ks Z n tl (.int v :: st) M) : TR g R own cc nL ret kc ks Z pc tl (.int x :: .ref (gad g t 0) :: st) M := by
  subst hn
  have hT : tabN t < 2 ^ 31 := by unfold tabN; split <;> decide
  intro p e s m args below meth c' H locs ls C hP hS hl
  exact va_ti C.1 C.2.1 (C.2.2.2.2.2.2.2.tab ht) hS (ix_in hx hi hT) (v := .int v) (by show Value.int _ = _; rw [hx, nI_clamp (by omega), hv]) hd (kk p e s m args below meth c' H locs ls C hP hS hl)
theorem q_gets49 {idx : Nat} (n : Nat) (hd : decode cc pc = .ok (.getstatic idx, 3)) (hn : pc + 3 = n) (hw : Cond.fieldLink own idx RX5 "RIGHT_ABOVE" "[I" ∈ TB) (kk : TR g R own cc nL ret kc ks Z n tl (.ref (gad g 49 0) :: st) M) : TR g R own cc nL ret kc ks Z pc tl st M := by
  subst hn
  intro p e s m args below meth c' H locs ls C hP hS hl
  exact va_gets C.1 C.2.1 C.2.2.2.2.2.2.2.2.2.1.1 hS C.2.2.2.2.2.1 (C.2.2.2.2.2.2.1 _ hw) (fun _ h => h) hd (kk p e s m args below meth c' H locs ls C hP hS hl)
theorem q_gets50 {idx : Nat} (n : Nat) (hd : decode cc pc = .ok (.getstatic idx, 3)) (hn : pc + 3 = n) (hw : Cond.fieldLink own idx RX5 "LEAST_RULE" "[I" ∈ TB) (kk : TR g R own cc nL ret kc ks Z n tl (.ref (gad g 50 0) :: st) M) : TR g R own cc nL ret kc ks Z pc tl st M := by
  subst hn
  intro p e s m args below meth c' H locs ls C hP hS hl
  exact va_gets C.1 C.2.1 C.2.2.2.2.2.2.2.2.2.2.1.1 hS C.2.2.2.2.2.1 (C.2.2.2.2.2.2.1 _ hw) (fun _ h => h) hd (kk p e s m args below meth c' H locs ls C hP hS hl)
theorem q_gets51 {idx : Nat} (n : Nat) (hd : decode cc pc = .ok (.getstatic idx, 3)) (hn : pc + 3 = n) (hw : Cond.fieldLink own idx RX5 "MOST_RULE" "[I" ∈ TB) (kk : TR g R own cc nL ret kc ks Z n tl (.ref (gad g 51 0) :: st) M) : TR g R own cc nL ret kc ks Z pc tl st M := by
  subst hn
  intro p e s m args below meth c' H locs ls C hP hS hl
  exact va_gets C.1 C.2.1 C.2.2.2.2.2.2.2.2.2.2.2.1.1 hS C.2.2.2.2.2.1 (C.2.2.2.2.2.2.1 _ hw) (fun _ h => h) hd (kk p e s m args below meth c' H locs ls C hP hS hl)
theorem q_sald {i : Nat} {x : Int32} (n : Nat) (hd : decode cc pc = .ok (.iaload, 1)) (hn : pc + 1 = n) (hx : x = nI i) (hi : i < gN g) (hN : gN g < 2 ^ 31) (kk : TR g R own cc nL ret kc ks Z n tl (.int (gxs g i) :: st) M) : TR g R own cc nL ret kc ks Z pc tl (.int x :: .ref (gad g 52 0) :: st) M := by
  subst hn
  intro p e s m args below meth c' H locs ls C hP hS hl
  exact va_ti C.1 C.2.1 C.2.2.2.2.2.2.2.2.2.2.2.2.1 hS (ix_in hx hi hN) (v := .int (gxs g i)) (by show Value.int _ = _; rw [hx, nI_clamp (by omega)]) hd (kk p e s m args below meth c' H locs ls C hP hS hl)
theorem q_slen (n : Nat) (hd : decode cc pc = .ok (.arraylength, 1)) (hn : pc + 1 = n) (kk : TR g R own cc nL ret kc ks Z n tl (.int (nI (gN g)) :: st) M) : TR g R own cc nL ret kc ks Z pc tl (.ref (gad g 52 0) :: st) M := by
  subst hn
  intro p e s m args below meth c' H locs ls C hP hS hl
  exact va_tlen C.1 C.2.1 C.2.2.2.2.2.2.2.2.2.2.2.2.1 hS rfl hd (kk p e s m args below meth c' H locs ls C hP hS hl)
end TRH
