section TRR
variable {g : GT} {R : Room} {own : String} {cc : ByteArray} {nL : Nat} {ret : Option FieldType} {kc ks : Nat} {Z : List Frame → Array Value → State → State → Prop} {pc : Nat} {tl : List (Option Value)} {st : List Value} {M : TM}
theorem q_iconst {i : Int} {v : Int32} (n : Nat) (hd : decode cc pc = .ok (.iconst i, 1)) (hn : pc + 1 = n) (hv : Int32.ofInt i = v) (k : TR g R own cc nL ret kc ks Z n tl (.int v :: st) M) : TR g R own cc nL ret kc ks Z pc tl (st) M := by
  subst hn
  intro p e s m args below meth c H locs ls C hP hS hl
  exact lv_iconst C.1 C.2.1 hd hv (k p e s m args below meth c H locs ls C hP hS hl)
theorem q_bipush {i : Int} {v : Int32} (n : Nat) (hd : decode cc pc = .ok (.bipush i, 2)) (hn : pc + 2 = n) (hv : (Int8.ofInt i).toInt32 = v) (k : TR g R own cc nL ret kc ks Z n tl (.int v :: st) M) : TR g R own cc nL ret kc ks Z pc tl (st) M := by
  subst hn
  intro p e s m args below meth c H locs ls C hP hS hl
  exact lv_bipush C.1 C.2.1 hd hv (k p e s m args below meth c H locs ls C hP hS hl)
theorem q_sipush {i : Int} {v : Int32} (n : Nat) (hd : decode cc pc = .ok (.sipush i, 3)) (hn : pc + 3 = n) (hv : (Int16.ofInt i).toInt32 = v) (k : TR g R own cc nL ret kc ks Z n tl (.int v :: st) M) : TR g R own cc nL ret kc ks Z pc tl (st) M := by
  subst hn
  intro p e s m args below meth c H locs ls C hP hS hl
  exact lv_sipush C.1 C.2.1 hd hv (k p e s m args below meth c H locs ls C hP hS hl)
theorem q_lconst {i : Fin 2} {v : Int64} (n : Nat) (hd : decode cc pc = .ok (.lconst i, 1)) (hn : pc + 1 = n) (hv : Int64.ofNat (i : Nat) = v) (k : TR g R own cc nL ret kc ks Z n tl (.long v :: st) M) : TR g R own cc nL ret kc ks Z pc tl (st) M := by
  subst hn
  intro p e s m args below meth c H locs ls C hP hS hl
  exact lv_lconst C.1 C.2.1 hd hv (k p e s m args below meth c H locs ls C hP hS hl)
theorem q_ldc {idx : Nat} {v : Int32} (n : Nat) (hd : decode cc pc = .ok (.ldc idx, 2)) (hn : pc + 2 = n) (hw : Cond.constant own idx v ∈ TB) (k : TR g R own cc nL ret kc ks Z n tl (.int v :: st) M) : TR g R own cc nL ret kc ks Z pc tl st M := by
  subst hn
  intro p e s m args below meth c H locs ls C hP hS hl
  exact lv_ldc C.1 C.2.1 C.2.2.2.2.2.1 (C.2.2.2.2.2.2.1 _ hw) hd (k p e s m args below meth c H locs ls C hP hS hl)
theorem q_ldc_w {idx : Nat} {v : Int32} (n : Nat) (hd : decode cc pc = .ok (.ldc_w idx, 3)) (hn : pc + 3 = n) (hw : Cond.constant own idx v ∈ TB) (k : TR g R own cc nL ret kc ks Z n tl (.int v :: st) M) : TR g R own cc nL ret kc ks Z pc tl st M := by
  subst hn
  intro p e s m args below meth c H locs ls C hP hS hl
  exact lv_ldcw C.1 C.2.1 C.2.2.2.2.2.1 (C.2.2.2.2.2.2.1 _ hw) hd (k p e s m args below meth c H locs ls C hP hS hl)
theorem q_ldc2 {idx : Nat} {v : Int64} (n : Nat) (hd : decode cc pc = .ok (.ldc2_w idx, 3)) (hn : pc + 3 = n) (hw : Cond.constantLong own idx v ∈ TB) (k : TR g R own cc nL ret kc ks Z n tl (.long v :: st) M) : TR g R own cc nL ret kc ks Z pc tl st M := by
  subst hn
  intro p e s m args below meth c H locs ls C hP hS hl
  exact lv_ldc2 C.1 C.2.1 C.2.2.2.2.2.1 (C.2.2.2.2.2.2.1 _ hw) hd (k p e s m args below meth c H locs ls C hP hS hl)
theorem q_ldcS {idx i : Nat} (n : Nat) (hd : decode cc pc = .ok (.ldc idx, 2)) (hn : pc + 2 = n) (hi : i < 12) (hs : strI.getD i 0 = idx) (ho : own = RX0) (k : TR g R own cc nL ret kc ks Z n tl (.ref (gad g 53 i) :: st) M) : TR g R own cc nL ret kc ks Z pc tl st M := by
  subst hn; subst hs; subst ho
  intro p e s m args below meth c H locs ls C hP hS hl
  exact va_ldcS C.1 C.2.1 C.2.2.2.2.2.1 (C.2.2.2.2.2.2.2.2.2.2.2.2.2.2.1 i hi) hd (k p e s m args below meth c H locs ls C hP hS hl)
theorem q_iload_n {i : Fin 4} {x : Int32} (n : Nat) (hd : decode cc pc = .ok (.iload_n i, 1)) (hn : pc + 1 = n) (h : tl[(i : Nat)]? = some (some (.int x))) (k : TR g R own cc nL ret kc ks Z n tl (.int x :: st) M) : TR g R own cc nL ret kc ks Z pc tl st M := by
  subst hn
  intro p e s m args below meth c H locs ls C hP hS hl
  exact lv_iload_n C.1 C.2.1 hd rfl (hl.2.2 _ _ h) (k p e s m args below meth c H locs ls C hP hS hl)
theorem q_iload {i : Nat} {x : Int32} (n : Nat) (hd : decode cc pc = .ok (.iload i, 2)) (hn : pc + 2 = n) (h : tl[i]? = some (some (.int x))) (k : TR g R own cc nL ret kc ks Z n tl (.int x :: st) M) : TR g R own cc nL ret kc ks Z pc tl st M := by
  subst hn
  intro p e s m args below meth c H locs ls C hP hS hl
  exact lv_iload C.1 C.2.1 hd (hl.2.2 _ _ h) (k p e s m args below meth c H locs ls C hP hS hl)
theorem q_lload_n {i : Fin 4} {x : Int64} (n : Nat) (hd : decode cc pc = .ok (.lload_n i, 1)) (hn : pc + 1 = n) (h : tl[(i : Nat)]? = some (some (.long x))) (k : TR g R own cc nL ret kc ks Z n tl (.long x :: st) M) : TR g R own cc nL ret kc ks Z pc tl st M := by
  subst hn
  intro p e s m args below meth c H locs ls C hP hS hl
  exact lv_lload_n C.1 C.2.1 hd rfl (hl.2.2 _ _ h) (k p e s m args below meth c H locs ls C hP hS hl)
theorem q_lload {i : Nat} {x : Int64} (n : Nat) (hd : decode cc pc = .ok (.lload i, 2)) (hn : pc + 2 = n) (h : tl[i]? = some (some (.long x))) (k : TR g R own cc nL ret kc ks Z n tl (.long x :: st) M) : TR g R own cc nL ret kc ks Z pc tl st M := by
  subst hn
  intro p e s m args below meth c H locs ls C hP hS hl
  exact lv_lload C.1 C.2.1 hd (hl.2.2 _ _ h) (k p e s m args below meth c H locs ls C hP hS hl)
theorem q_aload_n {i : Fin 4} {x : Nat} (n : Nat) (hd : decode cc pc = .ok (.aload_n i, 1)) (hn : pc + 1 = n) (h : tl[(i : Nat)]? = some (some (.ref x))) (k : TR g R own cc nL ret kc ks Z n tl (.ref x :: st) M) : TR g R own cc nL ret kc ks Z pc tl st M := by
  subst hn
  intro p e s m args below meth c H locs ls C hP hS hl
  exact lv_aload_n C.1 C.2.1 hd rfl (hl.2.2 _ _ h) (k p e s m args below meth c H locs ls C hP hS hl)
theorem q_aload {i : Nat} {x : Nat} (n : Nat) (hd : decode cc pc = .ok (.aload i, 2)) (hn : pc + 2 = n) (h : tl[i]? = some (some (.ref x))) (k : TR g R own cc nL ret kc ks Z n tl (.ref x :: st) M) : TR g R own cc nL ret kc ks Z pc tl st M := by
  subst hn
  intro p e s m args below meth c H locs ls C hP hS hl
  exact lv_aload C.1 C.2.1 hd (hl.2.2 _ _ h) (k p e s m args below meth c H locs ls C hP hS hl)
def lvOf (tl : List (Option Value)) : List (Nat × Value) := (List.range tl.length).filterMap (fun i => match tl[i]? with | some (some v) => some (i, v) | _ => none)
theorem lvOf_mem {tl : List (Option Value)} {i : Nat} {v : Value} : (i, v) ∈ lvOf tl ↔ tl[i]? = some (some v) := by
  unfold lvOf
  rw [List.mem_filterMap]
  constructor
  · rintro ⟨j, -, h⟩
    cases hj : tl[j]? with
    | none => rw [hj] at h; cases h
    | some o =>
      cases o with
      | none => rw [hj] at h; cases h
      | some w => rw [hj] at h; cases h; exact hj
  · intro h
    exact ⟨i, List.mem_range.mpr (List.getElem?_eq_some_iff.mp h).1, by rw [h]⟩
theorem LF.has {ls : Array Slot} {nL : Nat} {tl : List (Option Value)} (h : LF ls nL tl) : lv_has ls nL (lvOf tl) := ⟨h.1, h.2.1, fun q hq => h.2.2 q.1 q.2 (lvOf_mem.mp hq)⟩
/-- no long stands right ahead of the place -/
def okst (tl : List (Option Value)) : Nat → Bool
  | 0 => true
  | i + 1 => match tl[i]? with
    | some (some v) => v.category == 1
    | _ => true
theorem LF.st1 {ls : Array Slot} {nL : Nat} {tl : List (Option Value)} {i : Nat} {v : Value} (h : lv_has ls nL ((i, v) :: (lvOf tl).filter (fun q => !(q.1 == i) && !(q.1 + 1 == i && q.2.category == 2)))) (ho : okst tl i = true) : LF ls nL (tl.set i (some v)) := by
  refine ⟨h.1, h.2.1, fun j w hj => ?_⟩
  rw [List.getElem?_set] at hj
  by_cases hij : i = j
  · subst hij
    rw [if_pos rfl] at hj
    split at hj
    · cases hj; exact h.2.2 (i, v) List.mem_cons_self
    · cases hj
  · rw [if_neg hij] at hj
    refine h.2.2 (j, w) (List.mem_cons_of_mem _ (List.mem_filter.mpr ⟨lvOf_mem.mpr hj, ?_⟩))
    have h1 : ¬ j = i := fun q => hij q.symm
    by_cases h2 : j + 1 = i
    · subst h2
      have ho : (match tl[j]? with | some (some v) => v.category == 1 | _ => true) = true := ho
      rw [hj] at ho
      have : w.category = 1 := by simpa using ho
      simp [this]
    · simp [h1, h2]
theorem LF.st2 {ls : Array Slot} {nL : Nat} {tl : List (Option Value)} {i : Nat} {v : Value} (h : lv_has ls nL ((i, v) :: (lvOf tl).filter (fun q => !(q.1 == i) && (!(q.1 == i + 1) && !(q.1 + 1 == i && q.2.category == 2))))) (ho : okst tl i = true) : LF ls nL ((tl.set i (some v)).set (i + 1) none) := by
  refine ⟨h.1, h.2.1, fun j w hj => ?_⟩
  rw [List.getElem?_set] at hj
  by_cases hij1 : i + 1 = j
  · rw [if_pos hij1] at hj
    split at hj <;> simp at hj
  · rw [if_neg hij1, List.getElem?_set] at hj
    by_cases hij : i = j
    · subst hij
      rw [if_pos rfl] at hj
      split at hj
      · cases hj; exact h.2.2 (i, v) List.mem_cons_self
      · cases hj
    · rw [if_neg hij] at hj
      refine h.2.2 (j, w) (List.mem_cons_of_mem _ (List.mem_filter.mpr ⟨lvOf_mem.mpr hj, ?_⟩))
      have h1 : ¬ j = i := fun q => hij q.symm
      have h3 : ¬ j = i + 1 := fun q => hij1 q.symm
      by_cases h2 : j + 1 = i
      · subst h2
        have ho : (match tl[j]? with | some (some v) => v.category == 1 | _ => true) = true := ho
        rw [hj] at ho
        have : w.category = 1 := by simpa using ho
        simp [this]; omega
      · simp [h1, h2, h3]
theorem LF.forget {ls : Array Slot} {nL : Nat} {tl tl' : List (Option Value)} (h : LF ls nL tl) (hs : ∀ (i : Nat) (v : Value), tl'[i]? = some (some v) → tl[i]? = some (some v)) : LF ls nL tl' := ⟨h.1, h.2.1, fun i v q => h.2.2 i v (hs i v q)⟩
/-- fewer locals are known -/
def lsub : List (Option Value) → List (Option Value) → Prop
  | [], _ => True
  | none :: a, [] => lsub a []
  | none :: a, _ :: b => lsub a b
  | some _ :: _, [] => False
  | some v :: a, w :: b => w = some v ∧ lsub a b
theorem lsub_at : ∀ (a b : List (Option Value)), lsub a b → ∀ (i : Nat) (v : Value), a[i]? = some (some v) → b[i]? = some (some v)
  | [], _, _, i, v, h => by simp at h
  | none :: a, [], hs, i, v, h => by
    match i, h with
    | 0, h => simp at h
    | i + 1, h => exact absurd (lsub_at a [] hs i v (by simpa using h)) (by simp)
  | none :: a, _ :: b, hs, i, v, h => by
    match i, h with
    | 0, h => simp at h
    | i + 1, h => simpa using lsub_at a b hs i v (by simpa using h)
  | some _ :: _, [], hs, _, _, _ => hs.elim
  | some x :: a, w :: b, hs, i, v, h => by
    match i, h with
    | 0, h => simp at h; subst h; simp [hs.1]
    | i + 1, h => simpa using lsub_at a b hs.2 i v (by simpa using h)
theorem q_fgt {tl' : List (Option Value)} (h : lsub tl' tl) (k : TR g R own cc nL ret kc ks Z pc tl' st M) : TR g R own cc nL ret kc ks Z pc tl st M := by
  intro p e s m args below meth c H locs ls C hP hS hl
  exact k p e s m args below meth c H locs ls C hP hS (hl.forget (lsub_at _ _ h))
theorem q_eqM {M' : TM} (h : M = M') (k : TR g R own cc nL ret kc ks Z pc tl st M') : TR g R own cc nL ret kc ks Z pc tl st M := by subst h; exact k
theorem q_eqS {st' : List Value} (h : st = st') (k : TR g R own cc nL ret kc ks Z pc tl st' M) : TR g R own cc nL ret kc ks Z pc tl st M := by subst h; exact k
theorem q_istore_n {i : Fin 4} {x : Int32} (n : Nat) (hd : decode cc pc = .ok (.istore_n i, 1)) (hn : pc + 1 = n) (hb : (i : Nat) < nL) (ho : okst tl (i : Nat) = true) (k : TR g R own cc nL ret kc ks Z n (tl.set (i : Nat) (some (.int x))) st M) : TR g R own cc nL ret kc ks Z pc tl (.int x :: st) M := by
  subst hn
  intro p e s m args below meth c H locs ls C hP hS hl
  exact lv_istore_n C.1 C.2.1 hd rfl hl.has hb rfl (fun ls' h' => k p e s m args below meth c H locs ls' C hP hS (LF.st1 h' ho))
theorem q_istore {i : Nat} {x : Int32} (n : Nat) (hd : decode cc pc = .ok (.istore i, 2)) (hn : pc + 2 = n) (hb : i < nL) (ho : okst tl i = true) (k : TR g R own cc nL ret kc ks Z n (tl.set i (some (.int x))) st M) : TR g R own cc nL ret kc ks Z pc tl (.int x :: st) M := by
  subst hn
  intro p e s m args below meth c H locs ls C hP hS hl
  exact lv_istore C.1 C.2.1 hd hl.has hb rfl (fun ls' h' => k p e s m args below meth c H locs ls' C hP hS (LF.st1 h' ho))
theorem q_astore_n {i : Fin 4} {x : Nat} (n : Nat) (hd : decode cc pc = .ok (.astore_n i, 1)) (hn : pc + 1 = n) (hb : (i : Nat) < nL) (ho : okst tl (i : Nat) = true) (k : TR g R own cc nL ret kc ks Z n (tl.set (i : Nat) (some (.ref x))) st M) : TR g R own cc nL ret kc ks Z pc tl (.ref x :: st) M := by
  subst hn
  intro p e s m args below meth c H locs ls C hP hS hl
  exact lv_astore_n C.1 C.2.1 hd rfl hl.has hb rfl (fun ls' h' => k p e s m args below meth c H locs ls' C hP hS (LF.st1 h' ho))
theorem q_astore {i : Nat} {x : Nat} (n : Nat) (hd : decode cc pc = .ok (.astore i, 2)) (hn : pc + 2 = n) (hb : i < nL) (ho : okst tl i = true) (k : TR g R own cc nL ret kc ks Z n (tl.set i (some (.ref x))) st M) : TR g R own cc nL ret kc ks Z pc tl (.ref x :: st) M := by
  subst hn
  intro p e s m args below meth c H locs ls C hP hS hl
  exact lv_astore C.1 C.2.1 hd hl.has hb rfl (fun ls' h' => k p e s m args below meth c H locs ls' C hP hS (LF.st1 h' ho))
theorem q_lstore_n {i : Fin 4} {x : Int64} (n : Nat) (hd : decode cc pc = .ok (.lstore_n i, 1)) (hn : pc + 1 = n) (hb : (i : Nat) + 1 < nL) (ho : okst tl (i : Nat) = true) (k : TR g R own cc nL ret kc ks Z n ((tl.set (i : Nat) (some (.long x))).set ((i : Nat) + 1) none) st M) : TR g R own cc nL ret kc ks Z pc tl (.long x :: st) M := by
  subst hn
  intro p e s m args below meth c H locs ls C hP hS hl
  exact lv_lstore_n C.1 C.2.1 hd rfl hl.has hb rfl (fun ls' h' => k p e s m args below meth c H locs ls' C hP hS (LF.st2 h' ho))
theorem q_lstore {i : Nat} {x : Int64} (n : Nat) (hd : decode cc pc = .ok (.lstore i, 2)) (hn : pc + 2 = n) (hb : i + 1 < nL) (ho : okst tl i = true) (k : TR g R own cc nL ret kc ks Z n ((tl.set i (some (.long x))).set (i + 1) none) st M) : TR g R own cc nL ret kc ks Z pc tl (.long x :: st) M := by
  subst hn
  intro p e s m args below meth c H locs ls C hP hS hl
  exact lv_lstore C.1 C.2.1 hd hl.has hb rfl (fun ls' h' => k p e s m args below meth c H locs ls' C hP hS (LF.st2 h' ho))
theorem q_iinc {i : Nat} {z : Int} {x v : Int32} (n : Nat) (hd : decode cc pc = .ok (.iinc i z, 3)) (hn : pc + 3 = n) (h : tl[i]? = some (some (.int x))) (hb : i < nL) (ho : okst tl i = true) (hv : x + Int32.ofInt z = v) (k : TR g R own cc nL ret kc ks Z n (tl.set i (some (.int v))) st M) : TR g R own cc nL ret kc ks Z pc tl st M := by
  subst hn
  intro p e s m args below meth c H locs ls C hP hS hl
  obtain ⟨q, hq⟩ := List.getElem?_of_mem (lvOf_mem.mpr h)
  exact lv_iinc C.1 C.2.1 hd hl.has (k := q) hq hv hb rfl (fun ls' h' => k p e s m args below meth c H locs ls' C hP hS (LF.st1 h' ho))
theorem q_iadd {x y : Int32} (n : Nat) (hd : decode cc pc = .ok (.iadd, 1)) (hn : pc + 1 = n)  (k : TR g R own cc nL ret kc ks Z n tl (.int (x + y) :: st) M) : TR g R own cc nL ret kc ks Z pc tl (.int y :: .int x :: st) M := by
  subst hn
  intro p e s m args below meth c H locs ls C hP hS hl
  exact lv_iadd C.1 C.2.1 hd (k p e s m args below meth c H locs ls C hP hS hl)
theorem q_isub {x y : Int32} (n : Nat) (hd : decode cc pc = .ok (.isub, 1)) (hn : pc + 1 = n)  (k : TR g R own cc nL ret kc ks Z n tl (.int (x - y) :: st) M) : TR g R own cc nL ret kc ks Z pc tl (.int y :: .int x :: st) M := by
  subst hn
  intro p e s m args below meth c H locs ls C hP hS hl
  exact lv_isub C.1 C.2.1 hd (k p e s m args below meth c H locs ls C hP hS hl)
theorem q_imul {x y : Int32} (n : Nat) (hd : decode cc pc = .ok (.imul, 1)) (hn : pc + 1 = n)  (k : TR g R own cc nL ret kc ks Z n tl (.int (x * y) :: st) M) : TR g R own cc nL ret kc ks Z pc tl (.int y :: .int x :: st) M := by
  subst hn
  intro p e s m args below meth c H locs ls C hP hS hl
  exact lv_imul C.1 C.2.1 hd (k p e s m args below meth c H locs ls C hP hS hl)
theorem q_iand {x y : Int32} (n : Nat) (hd : decode cc pc = .ok (.iand, 1)) (hn : pc + 1 = n)  (k : TR g R own cc nL ret kc ks Z n tl (.int (x &&& y) :: st) M) : TR g R own cc nL ret kc ks Z pc tl (.int y :: .int x :: st) M := by
  subst hn
  intro p e s m args below meth c H locs ls C hP hS hl
  exact lv_iand C.1 C.2.1 hd (k p e s m args below meth c H locs ls C hP hS hl)
theorem q_ior {x y : Int32} (n : Nat) (hd : decode cc pc = .ok (.ior, 1)) (hn : pc + 1 = n)  (k : TR g R own cc nL ret kc ks Z n tl (.int (x ||| y) :: st) M) : TR g R own cc nL ret kc ks Z pc tl (.int y :: .int x :: st) M := by
  subst hn
  intro p e s m args below meth c H locs ls C hP hS hl
  exact lv_ior C.1 C.2.1 hd (k p e s m args below meth c H locs ls C hP hS hl)
theorem q_ladd {x y : Int64} (n : Nat) (hd : decode cc pc = .ok (.ladd, 1)) (hn : pc + 1 = n)  (k : TR g R own cc nL ret kc ks Z n tl (.long (x + y) :: st) M) : TR g R own cc nL ret kc ks Z pc tl (.long y :: .long x :: st) M := by
  subst hn
  intro p e s m args below meth c H locs ls C hP hS hl
  exact lv_ladd C.1 C.2.1 hd (k p e s m args below meth c H locs ls C hP hS hl)
theorem q_ineg {x : Int32} (n : Nat) (hd : decode cc pc = .ok (.ineg, 1)) (hn : pc + 1 = n)  (k : TR g R own cc nL ret kc ks Z n tl (.int (-x) :: st) M) : TR g R own cc nL ret kc ks Z pc tl (.int x :: st) M := by
  subst hn
  intro p e s m args below meth c H locs ls C hP hS hl
  exact lv_ineg C.1 C.2.1 hd (k p e s m args below meth c H locs ls C hP hS hl)
theorem q_idiv {x y : Int32} (n : Nat) (hd : decode cc pc = .ok (.idiv, 1)) (hn : pc + 1 = n) (hy : ¬ y = 0) (k : TR g R own cc nL ret kc ks Z n tl (.int (x / y) :: st) M) : TR g R own cc nL ret kc ks Z pc tl (.int y :: .int x :: st) M := by
  subst hn
  intro p e s m args below meth c H locs ls C hP hS hl
  exact lv_idiv C.1 C.2.1 hd hy (k p e s m args below meth c H locs ls C hP hS hl)
theorem q_irem {x y : Int32} (n : Nat) (hd : decode cc pc = .ok (.irem, 1)) (hn : pc + 1 = n) (hy : ¬ y = 0) (k : TR g R own cc nL ret kc ks Z n tl (.int (x - x / y * y) :: st) M) : TR g R own cc nL ret kc ks Z pc tl (.int y :: .int x :: st) M := by
  subst hn
  intro p e s m args below meth c H locs ls C hP hS hl
  exact lv_irem C.1 C.2.1 hd hy (k p e s m args below meth c H locs ls C hP hS hl)
theorem q_ishl {x y : Int32} (n : Nat) (hd : decode cc pc = .ok (.ishl, 1)) (hn : pc + 1 = n)  (k : TR g R own cc nL ret kc ks Z n tl (.int (x <<< (y &&& 31)) :: st) M) : TR g R own cc nL ret kc ks Z pc tl (.int y :: .int x :: st) M := by
  subst hn
  intro p e s m args below meth c H locs ls C hP hS hl
  exact lv_ishl C.1 C.2.1 hd (k p e s m args below meth c H locs ls C hP hS hl)
theorem q_ishr {x y : Int32} (n : Nat) (hd : decode cc pc = .ok (.ishr, 1)) (hn : pc + 1 = n)  (k : TR g R own cc nL ret kc ks Z n tl (.int (x >>> (y &&& 31)) :: st) M) : TR g R own cc nL ret kc ks Z pc tl (.int y :: .int x :: st) M := by
  subst hn
  intro p e s m args below meth c H locs ls C hP hS hl
  exact lv_ishr C.1 C.2.1 hd (k p e s m args below meth c H locs ls C hP hS hl)
theorem q_iushr {x y : Int32} (n : Nat) (hd : decode cc pc = .ok (.iushr, 1)) (hn : pc + 1 = n)  (k : TR g R own cc nL ret kc ks Z n tl (.int ((x.toUInt32 >>> (y.toUInt32 &&& Int32.toUInt32 31)).toInt32) :: st) M) : TR g R own cc nL ret kc ks Z pc tl (.int y :: .int x :: st) M := by
  subst hn
  intro p e s m args below meth c H locs ls C hP hS hl
  exact lv_iushr C.1 C.2.1 hd rfl (k p e s m args below meth c H locs ls C hP hS hl)
theorem q_i2l {x : Int32} (n : Nat) (hd : decode cc pc = .ok (.i2l, 1)) (hn : pc + 1 = n)  (k : TR g R own cc nL ret kc ks Z n tl (.long x.toInt64 :: st) M) : TR g R own cc nL ret kc ks Z pc tl (.int x :: st) M := by
  subst hn
  intro p e s m args below meth c H locs ls C hP hS hl
  exact lv_i2l C.1 C.2.1 hd rfl (k p e s m args below meth c H locs ls C hP hS hl)
theorem q_l2i {x : Int64} (n : Nat) (hd : decode cc pc = .ok (.l2i, 1)) (hn : pc + 1 = n)  (k : TR g R own cc nL ret kc ks Z n tl (.int x.toInt32 :: st) M) : TR g R own cc nL ret kc ks Z pc tl (.long x :: st) M := by
  subst hn
  intro p e s m args below meth c H locs ls C hP hS hl
  exact lv_l2i C.1 C.2.1 hd rfl (k p e s m args below meth c H locs ls C hP hS hl)
theorem q_i2s {x : Int32} (n : Nat) (hd : decode cc pc = .ok (.i2s, 1)) (hn : pc + 1 = n)  (k : TR g R own cc nL ret kc ks Z n tl (.int x.toInt16.toInt32 :: st) M) : TR g R own cc nL ret kc ks Z pc tl (.int x :: st) M := by
  subst hn
  intro p e s m args below meth c H locs ls C hP hS hl
  exact lv_i2s C.1 C.2.1 hd rfl (k p e s m args below meth c H locs ls C hP hS hl)
theorem q_i2b {x : Int32} (n : Nat) (hd : decode cc pc = .ok (.i2b, 1)) (hn : pc + 1 = n)  (k : TR g R own cc nL ret kc ks Z n tl (.int x.toInt8.toInt32 :: st) M) : TR g R own cc nL ret kc ks Z pc tl (.int x :: st) M := by
  subst hn
  intro p e s m args below meth c H locs ls C hP hS hl
  exact lv_i2b C.1 C.2.1 hd rfl (k p e s m args below meth c H locs ls C hP hS hl)
theorem q_i2c {x : Int32} (n : Nat) (hd : decode cc pc = .ok (.i2c, 1)) (hn : pc + 1 = n)  (k : TR g R own cc nL ret kc ks Z n tl (.int (x.toUInt32 % 65536).toInt32 :: st) M) : TR g R own cc nL ret kc ks Z pc tl (.int x :: st) M := by
  subst hn
  intro p e s m args below meth c H locs ls C hP hS hl
  exact lv_i2c C.1 C.2.1 hd rfl (k p e s m args below meth c H locs ls C hP hS hl)
theorem q_lcmp {x y : Int64} (n : Nat) (hd : decode cc pc = .ok (.lcmp, 1)) (hn : pc + 1 = n)  (k : TR g R own cc nL ret kc ks Z n tl (.int (lg_cmp x y) :: st) M) : TR g R own cc nL ret kc ks Z pc tl (.long y :: .long x :: st) M := by
  subst hn
  intro p e s m args below meth c H locs ls C hP hS hl
  exact W.lcmp C.1 C.2.1 hd (k p e s m args below meth c H locs ls C hP hS hl)
theorem q_dup {v : Value} (n : Nat) (hd : decode cc pc = .ok (.dup, 1)) (hn : pc + 1 = n) (hc : v.category = 1) (k : TR g R own cc nL ret kc ks Z n tl (v :: v :: st) M) : TR g R own cc nL ret kc ks Z pc tl (v :: st) M := by
  subst hn
  intro p e s m args below meth c H locs ls C hP hS hl
  exact lv_dup C.1 C.2.1 hd hc (k p e s m args below meth c H locs ls C hP hS hl)
theorem q_pop {v : Value} (n : Nat) (hd : decode cc pc = .ok (.pop, 1)) (hn : pc + 1 = n) (hc : v.category = 1) (k : TR g R own cc nL ret kc ks Z n tl (st) M) : TR g R own cc nL ret kc ks Z pc tl (v :: st) M := by
  subst hn
  intro p e s m args below meth c H locs ls C hP hS hl
  exact lv_pop C.1 C.2.1 hd hc (k p e s m args below meth c H locs ls C hP hS hl)
theorem q_dup2 {v w : Value} (n : Nat) (hd : decode cc pc = .ok (.dup2, 1)) (hn : pc + 1 = n) (hc : v.category = 1) (hw : w.category = 1) (k : TR g R own cc nL ret kc ks Z n tl (v :: w :: v :: w :: st) M) : TR g R own cc nL ret kc ks Z pc tl (v :: w :: st) M := by
  subst hn
  intro p e s m args below meth c H locs ls C hP hS hl
  exact lv_dup2_11 C.1 C.2.1 hd hc hw (k p e s m args below meth c H locs ls C hP hS hl)
theorem q_if_eq {x : Int32} {off : Int} (a b : Nat) (hd : decode cc pc = .ok (.ifCond .eq off, 3)) (ha : (pc : Int) + off = (a : Int)) (hb : pc + 3 = b) (kt : x = 0 → TR g R own cc nL ret kc ks Z a tl st M) (kf : ¬ x = 0 → TR g R own cc nL ret kc ks Z b tl st M) : TR g R own cc nL ret kc ks Z pc tl (.int x :: st) M := by
  subst hb
  intro p e s m args below meth c H locs ls C hP hS hl
  exact lv_if_eq C.1 C.2.1 hd ha (fun q => kt q p e s m args below meth c H locs ls C hP hS hl) (fun q => kf q p e s m args below meth c H locs ls C hP hS hl)
theorem q_icmp_eq {x y : Int32} {off : Int} (a b : Nat) (hd : decode cc pc = .ok (.if_icmp .eq off, 3)) (ha : (pc : Int) + off = (a : Int)) (hb : pc + 3 = b) (kt : x = y → TR g R own cc nL ret kc ks Z a tl st M) (kf : ¬ x = y → TR g R own cc nL ret kc ks Z b tl st M) : TR g R own cc nL ret kc ks Z pc tl (.int y :: .int x :: st) M := by
  subst hb
  intro p e s m args below meth c H locs ls C hP hS hl
  exact lv_icmp_eq C.1 C.2.1 hd ha (fun q => kt q p e s m args below meth c H locs ls C hP hS hl) (fun q => kf q p e s m args below meth c H locs ls C hP hS hl)
theorem q_if_ne {x : Int32} {off : Int} (a b : Nat) (hd : decode cc pc = .ok (.ifCond .ne off, 3)) (ha : (pc : Int) + off = (a : Int)) (hb : pc + 3 = b) (kt : ¬ x = 0 → TR g R own cc nL ret kc ks Z a tl st M) (kf : x = 0 → TR g R own cc nL ret kc ks Z b tl st M) : TR g R own cc nL ret kc ks Z pc tl (.int x :: st) M := by
  subst hb
  intro p e s m args below meth c H locs ls C hP hS hl
  exact lv_if_ne C.1 C.2.1 hd ha (fun q => kt q p e s m args below meth c H locs ls C hP hS hl) (fun q => kf q p e s m args below meth c H locs ls C hP hS hl)
theorem q_icmp_ne {x y : Int32} {off : Int} (a b : Nat) (hd : decode cc pc = .ok (.if_icmp .ne off, 3)) (ha : (pc : Int) + off = (a : Int)) (hb : pc + 3 = b) (kt : ¬ x = y → TR g R own cc nL ret kc ks Z a tl st M) (kf : x = y → TR g R own cc nL ret kc ks Z b tl st M) : TR g R own cc nL ret kc ks Z pc tl (.int y :: .int x :: st) M := by
  subst hb
  intro p e s m args below meth c H locs ls C hP hS hl
  exact lv_icmp_ne C.1 C.2.1 hd ha (fun q => kt q p e s m args below meth c H locs ls C hP hS hl) (fun q => kf q p e s m args below meth c H locs ls C hP hS hl)
theorem q_if_lt {x : Int32} {off : Int} (a b : Nat) (hd : decode cc pc = .ok (.ifCond .lt off, 3)) (ha : (pc : Int) + off = (a : Int)) (hb : pc + 3 = b) (kt : x < 0 → TR g R own cc nL ret kc ks Z a tl st M) (kf : ¬ x < 0 → TR g R own cc nL ret kc ks Z b tl st M) : TR g R own cc nL ret kc ks Z pc tl (.int x :: st) M := by
  subst hb
  intro p e s m args below meth c H locs ls C hP hS hl
  exact lv_if_lt C.1 C.2.1 hd ha (fun q => kt q p e s m args below meth c H locs ls C hP hS hl) (fun q => kf q p e s m args below meth c H locs ls C hP hS hl)
theorem q_icmp_lt {x y : Int32} {off : Int} (a b : Nat) (hd : decode cc pc = .ok (.if_icmp .lt off, 3)) (ha : (pc : Int) + off = (a : Int)) (hb : pc + 3 = b) (kt : x < y → TR g R own cc nL ret kc ks Z a tl st M) (kf : ¬ x < y → TR g R own cc nL ret kc ks Z b tl st M) : TR g R own cc nL ret kc ks Z pc tl (.int y :: .int x :: st) M := by
  subst hb
  intro p e s m args below meth c H locs ls C hP hS hl
  exact lv_icmp_lt C.1 C.2.1 hd ha (fun q => kt q p e s m args below meth c H locs ls C hP hS hl) (fun q => kf q p e s m args below meth c H locs ls C hP hS hl)
theorem q_if_ge {x : Int32} {off : Int} (a b : Nat) (hd : decode cc pc = .ok (.ifCond .ge off, 3)) (ha : (pc : Int) + off = (a : Int)) (hb : pc + 3 = b) (kt : 0 ≤ x → TR g R own cc nL ret kc ks Z a tl st M) (kf : ¬ 0 ≤ x → TR g R own cc nL ret kc ks Z b tl st M) : TR g R own cc nL ret kc ks Z pc tl (.int x :: st) M := by
  subst hb
  intro p e s m args below meth c H locs ls C hP hS hl
  exact lv_if_ge C.1 C.2.1 hd ha (fun q => kt q p e s m args below meth c H locs ls C hP hS hl) (fun q => kf q p e s m args below meth c H locs ls C hP hS hl)
theorem q_icmp_ge {x y : Int32} {off : Int} (a b : Nat) (hd : decode cc pc = .ok (.if_icmp .ge off, 3)) (ha : (pc : Int) + off = (a : Int)) (hb : pc + 3 = b) (kt : y ≤ x → TR g R own cc nL ret kc ks Z a tl st M) (kf : ¬ y ≤ x → TR g R own cc nL ret kc ks Z b tl st M) : TR g R own cc nL ret kc ks Z pc tl (.int y :: .int x :: st) M := by
  subst hb
  intro p e s m args below meth c H locs ls C hP hS hl
  exact lv_icmp_ge C.1 C.2.1 hd ha (fun q => kt q p e s m args below meth c H locs ls C hP hS hl) (fun q => kf q p e s m args below meth c H locs ls C hP hS hl)
theorem q_if_gt {x : Int32} {off : Int} (a b : Nat) (hd : decode cc pc = .ok (.ifCond .gt off, 3)) (ha : (pc : Int) + off = (a : Int)) (hb : pc + 3 = b) (kt : 0 < x → TR g R own cc nL ret kc ks Z a tl st M) (kf : ¬ 0 < x → TR g R own cc nL ret kc ks Z b tl st M) : TR g R own cc nL ret kc ks Z pc tl (.int x :: st) M := by
  subst hb
  intro p e s m args below meth c H locs ls C hP hS hl
  exact lv_if_gt C.1 C.2.1 hd ha (fun q => kt q p e s m args below meth c H locs ls C hP hS hl) (fun q => kf q p e s m args below meth c H locs ls C hP hS hl)
theorem q_icmp_gt {x y : Int32} {off : Int} (a b : Nat) (hd : decode cc pc = .ok (.if_icmp .gt off, 3)) (ha : (pc : Int) + off = (a : Int)) (hb : pc + 3 = b) (kt : y < x → TR g R own cc nL ret kc ks Z a tl st M) (kf : ¬ y < x → TR g R own cc nL ret kc ks Z b tl st M) : TR g R own cc nL ret kc ks Z pc tl (.int y :: .int x :: st) M := by
  subst hb
  intro p e s m args below meth c H locs ls C hP hS hl
  exact lv_icmp_gt C.1 C.2.1 hd ha (fun q => kt q p e s m args below meth c H locs ls C hP hS hl) (fun q => kf q p e s m args below meth c H locs ls C hP hS hl)
theorem q_if_le {x : Int32} {off : Int} (a b : Nat) (hd : decode cc pc = .ok (.ifCond .le off, 3)) (ha : (pc : Int) + off = (a : Int)) (hb : pc + 3 = b) (kt : x ≤ 0 → TR g R own cc nL ret kc ks Z a tl st M) (kf : ¬ x ≤ 0 → TR g R own cc nL ret kc ks Z b tl st M) : TR g R own cc nL ret kc ks Z pc tl (.int x :: st) M := by
  subst hb
  intro p e s m args below meth c H locs ls C hP hS hl
  exact lv_if_le C.1 C.2.1 hd ha (fun q => kt q p e s m args below meth c H locs ls C hP hS hl) (fun q => kf q p e s m args below meth c H locs ls C hP hS hl)
theorem q_icmp_le {x y : Int32} {off : Int} (a b : Nat) (hd : decode cc pc = .ok (.if_icmp .le off, 3)) (ha : (pc : Int) + off = (a : Int)) (hb : pc + 3 = b) (kt : x ≤ y → TR g R own cc nL ret kc ks Z a tl st M) (kf : ¬ x ≤ y → TR g R own cc nL ret kc ks Z b tl st M) : TR g R own cc nL ret kc ks Z pc tl (.int y :: .int x :: st) M := by
  subst hb
  intro p e s m args below meth c H locs ls C hP hS hl
  exact lv_icmp_le C.1 C.2.1 hd ha (fun q => kt q p e s m args below meth c H locs ls C hP hS hl) (fun q => kf q p e s m args below meth c H locs ls C hP hS hl)
theorem q_goto {off : Int} (a : Nat) (hd : decode cc pc = .ok (.goto off, 3)) (ha : (pc : Int) + off = (a : Int)) (k : TR g R own cc nL ret kc ks Z a tl st M) : TR g R own cc nL ret kc ks Z pc tl st M := by
  intro p e s m args below meth c H locs ls C hP hS hl
  exact lv_goto C.1 C.2.1 hd ha (k p e s m args below meth c H locs ls C hP hS hl)
theorem q_lookup {dflt : Int} {ps : Array (Int × Int)} {ln : Nat} {x : Int32} {off : Int} (a : Nat) (hd : decode cc pc = .ok (.lookupswitch dflt ps, ln)) (hp : (ps.toList.zip (ps.toList.drop 1)).all (fun (a, next) => a.1 < next.1) = true) (ho : Op.lookupswitch.offset ps.toList dflt x.toInt = off) (ha : (pc : Int) + off = (a : Int)) (k : TR g R own cc nL ret kc ks Z a tl st M) : TR g R own cc nL ret kc ks Z pc tl (.int x :: st) M := by
  intro p e s m args below meth c H locs ls C hP hS hl
  exact lv_lookup C.1 C.2.1 hd hp ho ha (k p e s m args below meth c H locs ls C hP hS hl)
theorem q_tabOut {dflt lo hi : Int} {offs : Array Int} {ln : Nat} {x : Int32} (a : Nat) (hd : decode cc pc = .ok (.tableswitch dflt lo hi offs, ln)) (h : x.toInt < lo ∨ hi < x.toInt) (ha : (pc : Int) + dflt = (a : Int)) (k : TR g R own cc nL ret kc ks Z a tl st M) : TR g R own cc nL ret kc ks Z pc tl (.int x :: st) M := by
  intro p e s m args below meth c H locs ls C hP hS hl
  exact lv_tableOut C.1 C.2.1 hd h ha (k p e s m args below meth c H locs ls C hP hS hl)
theorem q_tabIn {dflt lo hi : Int} {offs : Array Int} {ln : Nat} {x : Int32} {off : Int} (a : Nat) (hd : decode cc pc = .ok (.tableswitch dflt lo hi offs, ln)) (z : Int) (hz : x.toInt = z) (h1 : ¬ z < lo) (h2 : ¬ hi < z) (ho : offs[(z - lo).toNat]? = some off) (ha : (pc : Int) + off = (a : Int)) (k : TR g R own cc nL ret kc ks Z a tl st M) : TR g R own cc nL ret kc ks Z pc tl (.int x :: st) M := by
  subst hz
  intro p e s m args below meth c H locs ls C hP hS hl
  exact lv_tableIn C.1 C.2.1 hd h1 h2 ho ha (k p e s m args below meth c H locs ls C hP hS hl)
theorem q_iret {P : Option Value → TM → Prop} {v : Int32} (hd : decode cc pc = .ok (.ireturn, 1)) (h : P (some (.int v)) M) : TR g R own cc nL (some .int) 0 0 (Zm g P) pc tl [.int v] M := by
  intro p e s m args below meth c H locs ls C hP hS hl
  exact W.iret C.1 C.2.1 C.2.2.2.1 (fun t ht _ => ⟨_, M, rfl, h, by rw [ht]; exact hP, hS.F ht⟩) hS.2.2 hd C.2.2.2.2.1
theorem q_lret {P : Option Value → TM → Prop} {v : Int64} (hd : decode cc pc = .ok (.lreturn, 1)) (h : P (some (.long v)) M) : TR g R own cc nL (some .long) 0 0 (Zm g P) pc tl [.long v] M := by
  intro p e s m args below meth c H locs ls C hP hS hl
  exact W.lret C.1 C.2.1 C.2.2.2.1 (fun t ht _ => ⟨_, M, rfl, h, by rw [ht]; exact hP, hS.F ht⟩) hS.2.2 hd C.2.2.2.2.1
theorem q_zret {P : Option Value → TM → Prop} {v : Int32} (hd : decode cc pc = .ok (.ireturn, 1)) (hv : narrow .boolean (.int v) = .int v) (h : P (some (.int v)) M) : TR g R own cc nL (some .boolean) 0 0 (Zm g P) pc tl [.int v] M := by
  intro p e s m args below meth c H locs ls C hP hS hl
  exact W.zret C.1 C.2.1 C.2.2.2.1 hv (fun t ht _ => ⟨_, M, rfl, h, by rw [ht]; exact hP, hS.F ht⟩) hS.2.2 hd C.2.2.2.2.1
theorem q_cret {P : Option Value → TM → Prop} {v : Int32} {ty : FieldType} (hd : decode cc pc = .ok (.ireturn, 1)) (hv : narrow ty (.int v) = .int v) (h : P (some (.int v)) M) : TR g R own cc nL (some ty) 0 0 (Zm g P) pc tl [.int v] M := by
  intro p e s m args below meth c H locs ls C hP hS hl
  exact W.zret C.1 C.2.1 C.2.2.2.1 hv (fun t ht _ => ⟨_, M, rfl, h, by rw [ht]; exact hP, hS.F ht⟩) hS.2.2 hd C.2.2.2.2.1
theorem q_vret {P : Option Value → TM → Prop} (hd : decode cc pc = .ok (.return_, 1)) (h : P none M) : TR g R own cc nL none 0 0 (Zm g P) pc tl [] M := by
  intro p e s m args below meth c H locs ls C hP hS hl
  exact W.vret C.1 C.2.1 C.2.2.2.1 (fun t ht _ => ⟨_, M, rfl, h, by rw [ht]; exact hP, hS.F ht⟩) hS.2.2 hd C.2.2.2.2.1
theorem q_aret {P : Option Value → TM → Prop} {a : Nat} {rt : FieldType} (hrt : (∃ n, rt = .object n) ∨ ∃ t, rt = .array t) (hd : decode cc pc = .ok (.areturn, 1)) (h : P (some (.ref a)) M) : TR g R own cc nL (some rt) 0 0 (Zm g P) pc tl [.ref a] M := by
  intro p e s m args below meth c H locs ls C hP hS hl
  exact W.aret C.1 C.2.1 C.2.2.2.1 hrt (Or.inr ⟨a, rfl⟩) (fun t ht _ => ⟨_, M, rfl, h, by rw [ht]; exact hP, hS.F ht⟩) hS.2.2 hd C.2.2.2.2.1
end TRR
