/-! CONSTRUCTORS: the world while it grows -/
def n0 (g : GT) : Nat := gad g 5 0
def WE (b : Nat) (E : Nat → va_E) (n : Nat) : va_W := (List.range n).map (fun i => (b + i, E i))
def upE (E : Nat → va_E) (i : Nat) (v : va_E) : Nat → va_E := fun j => if j = i then v else E j
theorem upE_s (E : Nat → va_E) (i : Nat) (v : va_E) : upE E i v i = v := if_pos rfl
theorem upE_n (E : Nat → va_E) {i j : Nat} (v : va_E) (h : j ≠ i) : upE E i v j = E j := if_neg h
theorem WE_at (b : Nat) (E : Nat → va_E) {n i : Nat} (h : i < n) : (WE b E n)[i]? = some (b + i, E i) := by
  unfold WE; rw [List.getElem?_map, List.getElem?_range h]; rfl
theorem WE_some {b : Nat} {E : Nat → va_E} {n k : Nat} {q : Nat × va_E} (h : (WE b E n)[k]? = some q) : k < n ∧ q = (b + k, E k) := by
  have hl : k < (WE b E n).length := (List.getElem?_eq_some_iff.mp h).1
  unfold WE at hl
  rw [List.length_map, List.length_range] at hl
  rw [WE_at b E hl] at h
  exact ⟨hl, (Option.some.inj h).symm⟩
theorem WE_push (b : Nat) (E : Nat → va_E) (n : Nat) (v : va_E) : WE b (upE E n v) (n + 1) = WE b E n ++ [(b + n, v)] := by
  unfold WE
  rw [List.range_succ, List.map_append]
  congr 1
  · apply List.map_congr_left
    intro i hi
    rw [upE_n E v (Nat.ne_of_lt (List.mem_range.mp hi))]
  · show [(b + n, upE E n v n)] = _
    rw [upE_s]
theorem WE_set (b : Nat) (E : Nat → va_E) {n i : Nat} (v : va_E) (h : i < n) : (WE b E n).set i (b + i, v) = WE b (upE E i v) n := by
  apply List.ext_getElem?
  intro k
  rw [List.getElem?_set]
  by_cases hk : i = k
  · subst hk
    rw [if_pos rfl, if_pos (by unfold WE; rw [List.length_map, List.length_range]; exact h), WE_at _ _ h, upE_s]
  · rw [if_neg hk]
    by_cases hl : k < n
    · rw [WE_at _ _ hl, WE_at _ _ hl, upE_n E v (fun z => hk z.symm)]
    · rw [List.getElem?_eq_none (by unfold WE; rw [List.length_map, List.length_range]; omega), List.getElem?_eq_none (by unfold WE; rw [List.length_map, List.length_range]; omega)]
theorem WE_D {A : Nat → Prop} {b : Nat} (h : ∀ q, b ≤ q → A q) (E : Nat → va_E) (n : Nat) : va_D A (WE b E n) :=
  ⟨fun i j p q hp hq e => by
    obtain ⟨-, rfl⟩ := WE_some hp
    obtain ⟨-, rfl⟩ := WE_some hq
    have e : b + i = b + j := e
    omega, fun k q hq => by
    obtain ⟨-, rfl⟩ := WE_some hq
    exact h _ (Nat.le_add_right _ _)⟩
def nestI : List (String × Nat × MethodName) := [(RX5, 9, yX3_init), (RX5, 33, yX0_init), (RX5, 60, yX1_init), (RX5, 61, yX2_init), (RX2, 11, yX1_init)]
def AOA (U : State) : Prop := (Cond.arrayOver (.array .int)).before #[] U = true
theorem AOA.moved {u U : State} (hvm : u.vm.Alike U.vm) (h : AOA u) : AOA U := by
  unfold AOA Cond.before Cond.holds at h
  simp only [Cond.value, beq_iff_eq] at h
  cases hc : u.vm.findClass (FieldType.array FieldType.int).toString with
  | none => simp [hc] at h
  | some comp =>
    simp only [hc, Option.bind_some, Option.bind_eq_some_iff, Option.map_eq_some_iff] at h
    obtain ⟨c, hi0, k, hk, hb⟩ := h
    obtain ⟨k', hk', he⟩ := hvm.2.2 _ _ hk
    have hi : (U.vm.classes.findIdx? fun (x : Class) => match x.kind with | .array component _ => component == comp | _ => false) = some c := by
      have e1 := va_idx_bare U.vm comp
      have e2 := va_idx_bare u.vm comp
      first | rw [hvm.bare_eq] at e1 | rw [← hvm.bare_eq] at e1
      exact e1.symm.trans (e2.trans hi0)
    have hkk : k'.kind = k.kind := by rw [he]
    have f1 : U.vm.findClass (FieldType.array FieldType.int).toString = some comp := by rw [hvm.findClass]; exact hc
    have f2 : U.vm.findClass ("[" ++ (FieldType.array FieldType.int).toString) = u.vm.findClass ("[" ++ (FieldType.array FieldType.int).toString) := hvm.findClass _ _
    unfold AOA Cond.before Cond.holds
    simp only [Cond.value]
    rw [f1, Option.bind_some]
    refine (congrArg (fun o : Option Nat => (o.bind (fun c => (U.vm.classes[c]?).map fun (k : Class) => match k.kind with | .array _ ty => decide (ty = FieldType.array FieldType.int) && decide (U.vm.findClass ("[" ++ (FieldType.array FieldType.int).toString) = some c) | _ => false) == some true)) hi).trans ?_
    simp only [Option.bind_some, hk', Option.map_some, hkk, f2, beq_iff_eq, Option.some.injEq]
    exact hb
def Evi (g : GT) (s : State) : Prop := (∀ q ∈ nestI, va_Nw (.methodLinkNest q.1 q.2.1 q.2.2 RX5) s) ∧ (va_AO RX1 s ∧ va_AO RX2 s ∧ AOA s) ∧ n0 g ≤ s.heap.size ∧ ∀ q, gA g q ↔ n0 g ≤ q
theorem Evi.moved {g : GT} {s U : State} (h : Evi g s) (hW : s.WarmedH U.vm) (hz : n0 g ≤ U.heap.size) : Evi g U :=
  ⟨fun q hm => va_Nw.warmM hW (h.1 q hm), ⟨va_AO.moved hW.alike h.2.1.1, va_AO.moved hW.alike h.2.1.2.1, AOA.moved hW.alike h.2.1.2.2⟩, hz, h.2.2.2⟩
def TI (g : GT) (own : String) (cc : ByteArray) (nL : Nat) (ret : Option FieldType) (p : Program) (s : State) (m : MethodId) (args : Array Value) (meth : Method) (c : Code) : Prop := TC g own cc nL ret p s m args meth c ∧ Evi g s ∧ ((own = RL ∨ own = RJ7) ∨ meth.name = "<init>")
def CR (g : GT) (R : Room) (own : String) (cc : ByteArray) (nL : Nat) (ret : Option FieldType) (kc ks : Nat) (Z : List Frame → Array Value → State → State → Prop) (pc : Nat) (tl : List (Option Value)) (st : List Value) (nw : Nat) (E : Nat → va_E) : Prop :=
  ∀ (p : Program) (e : Env) (s : State) (m : MethodId) (args : Array Value) (below : List Frame) (meth : Method) (c : Code) (H : Heap) (locs : List Loc) (ls : Array Slot),
    TI g own cc nL ret p s m args meth c → va_P (gD g) vwCl (WE (n0 g) E nw) H → (H.size = n0 g + nw ∧ s.heap.size + kc = n0 g + nw) → va_S (gA g) s.heap H locs → LF ls nL tl →
    W p (gl g) e R s m args below meth c H locs kc ks (Z below args s) (F0 m pc ls st)
section CRR
variable {g : GT} {R : Room} {own : String} {cc : ByteArray} {nL : Nat} {ret : Option FieldType} {kc ks : Nat} {Z : List Frame → Array Value → State → State → Prop} {pc : Nat} {tl : List (Option Value)} {st rest : List Value} {nw : Nat} {E : Nat → va_E}
theorem r_aload_n {i : Fin 4} {x : Nat} (n : Nat) (hd : decode cc pc = .ok (.aload_n i, 1)) (hn : pc + 1 = n) (h : tl[(i : Nat)]? = some (some (.ref x))) (k : CR g R own cc nL ret kc ks Z n tl (.ref x :: st) nw E) : CR g R own cc nL ret kc ks Z pc tl st nw E := by
  subst hn
  intro p e s m args below meth c H locs ls C hP hz hS hl
  exact lv_aload_n C.1.1 C.1.2.1 hd rfl (hl.2.2 _ _ h) (k p e s m args below meth c H locs ls C hP hz hS hl)
theorem r_iload_n {i : Fin 4} {x : Int32} (n : Nat) (hd : decode cc pc = .ok (.iload_n i, 1)) (hn : pc + 1 = n) (h : tl[(i : Nat)]? = some (some (.int x))) (k : CR g R own cc nL ret kc ks Z n tl (.int x :: st) nw E) : CR g R own cc nL ret kc ks Z pc tl st nw E := by
  subst hn
  intro p e s m args below meth c H locs ls C hP hz hS hl
  exact lv_iload_n C.1.1 C.1.2.1 hd rfl (hl.2.2 _ _ h) (k p e s m args below meth c H locs ls C hP hz hS hl)
theorem r_istore_n {i : Fin 4} {x : Int32} (n : Nat) (hd : decode cc pc = .ok (.istore_n i, 1)) (hn : pc + 1 = n) (hb : (i : Nat) < nL) (ho : okst tl (i : Nat) = true) (k : CR g R own cc nL ret kc ks Z n (tl.set (i : Nat) (some (.int x))) st nw E) : CR g R own cc nL ret kc ks Z pc tl (.int x :: st) nw E := by
  subst hn
  intro p e s m args below meth c H locs ls C hP hz hS hl
  exact lv_istore_n C.1.1 C.1.2.1 hd rfl hl.has hb rfl (fun ls' h' => k p e s m args below meth c H locs ls' C hP hz hS (LF.st1 h' ho))
theorem r_astore_n {i : Fin 4} {x : Nat} (n : Nat) (hd : decode cc pc = .ok (.astore_n i, 1)) (hn : pc + 1 = n) (hb : (i : Nat) < nL) (ho : okst tl (i : Nat) = true) (k : CR g R own cc nL ret kc ks Z n (tl.set (i : Nat) (some (.ref x))) st nw E) : CR g R own cc nL ret kc ks Z pc tl (.ref x :: st) nw E := by
  subst hn
  intro p e s m args below meth c H locs ls C hP hz hS hl
  exact lv_astore_n C.1.1 C.1.2.1 hd rfl hl.has hb rfl (fun ls' h' => k p e s m args below meth c H locs ls' C hP hz hS (LF.st1 h' ho))
theorem r_iconst {i : Int} {v : Int32} (n : Nat) (hd : decode cc pc = .ok (.iconst i, 1)) (hn : pc + 1 = n) (hv : Int32.ofInt i = v) (k : CR g R own cc nL ret kc ks Z n tl (.int v :: st) nw E) : CR g R own cc nL ret kc ks Z pc tl (st) nw E := by
  subst hn
  intro p e s m args below meth c H locs ls C hP hz hS hl
  exact lv_iconst C.1.1 C.1.2.1 hd hv (k p e s m args below meth c H locs ls C hP hz hS hl)
theorem r_bipush {i : Int} {v : Int32} (n : Nat) (hd : decode cc pc = .ok (.bipush i, 2)) (hn : pc + 2 = n) (hv : (Int8.ofInt i).toInt32 = v) (k : CR g R own cc nL ret kc ks Z n tl (.int v :: st) nw E) : CR g R own cc nL ret kc ks Z pc tl (st) nw E := by
  subst hn
  intro p e s m args below meth c H locs ls C hP hz hS hl
  exact lv_bipush C.1.1 C.1.2.1 hd hv (k p e s m args below meth c H locs ls C hP hz hS hl)
theorem r_sipush {i : Int} {v : Int32} (n : Nat) (hd : decode cc pc = .ok (.sipush i, 3)) (hn : pc + 3 = n) (hv : (Int16.ofInt i).toInt32 = v) (k : CR g R own cc nL ret kc ks Z n tl (.int v :: st) nw E) : CR g R own cc nL ret kc ks Z pc tl (st) nw E := by
  subst hn
  intro p e s m args below meth c H locs ls C hP hz hS hl
  exact lv_sipush C.1.1 C.1.2.1 hd hv (k p e s m args below meth c H locs ls C hP hz hS hl)
theorem r_ldc {idx : Nat} {v : Int32} (n : Nat) (hd : decode cc pc = .ok (.ldc idx, 2)) (hn : pc + 2 = n) (hw : Cond.constant own idx v ∈ TB) (k : CR g R own cc nL ret kc ks Z n tl (.int v :: st) nw E) : CR g R own cc nL ret kc ks Z pc tl st nw E := by
  subst hn
  intro p e s m args below meth c H locs ls C hP hz hS hl
  exact lv_ldc C.1.1 C.1.2.1 C.1.2.2.2.2.2.1 (C.1.2.2.2.2.2.2.1 _ hw) hd (k p e s m args below meth c H locs ls C hP hz hS hl)
theorem r_dup {v : Value} (n : Nat) (hd : decode cc pc = .ok (.dup, 1)) (hn : pc + 1 = n) (hc : v.category = 1) (k : CR g R own cc nL ret kc ks Z n tl (v :: v :: st) nw E) : CR g R own cc nL ret kc ks Z pc tl (v :: st) nw E := by
  subst hn
  intro p e s m args below meth c H locs ls C hP hz hS hl
  exact lv_dup C.1.1 C.1.2.1 hd hc (k p e s m args below meth c H locs ls C hP hz hS hl)
theorem r_iadd {x y : Int32} (n : Nat) (hd : decode cc pc = .ok (.iadd, 1)) (hn : pc + 1 = n)  (k : CR g R own cc nL ret kc ks Z n tl (.int (x + y) :: st) nw E) : CR g R own cc nL ret kc ks Z pc tl (.int y :: .int x :: st) nw E := by
  subst hn
  intro p e s m args below meth c H locs ls C hP hz hS hl
  exact lv_iadd C.1.1 C.1.2.1 hd (k p e s m args below meth c H locs ls C hP hz hS hl)
theorem r_icmp_ge {x y : Int32} {off : Int} (a b : Nat) (hd : decode cc pc = .ok (.if_icmp .ge off, 3)) (ha : (pc : Int) + off = (a : Int)) (hb : pc + 3 = b) (kt : y ≤ x → CR g R own cc nL ret kc ks Z a tl st nw E) (kf : ¬ y ≤ x → CR g R own cc nL ret kc ks Z b tl st nw E) : CR g R own cc nL ret kc ks Z pc tl (.int y :: .int x :: st) nw E := by
  subst hb
  intro p e s m args below meth c H locs ls C hP hz hS hl
  exact lv_icmp_ge C.1.1 C.1.2.1 hd ha (fun q => kt q p e s m args below meth c H locs ls C hP hz hS hl) (fun q => kf q p e s m args below meth c H locs ls C hP hz hS hl)
theorem r_goto {off : Int} (a : Nat) (hd : decode cc pc = .ok (.goto off, 3)) (ha : (pc : Int) + off = (a : Int)) (k : CR g R own cc nL ret kc ks Z a tl st nw E) : CR g R own cc nL ret kc ks Z pc tl st nw E := by
  intro p e s m args below meth c H locs ls C hP hz hS hl
  exact lv_goto C.1.1 C.1.2.1 hd ha (k p e s m args below meth c H locs ls C hP hz hS hl)
theorem r_iinc {i : Nat} {z : Int} {x v : Int32} (n : Nat) (hd : decode cc pc = .ok (.iinc i z, 3)) (hn : pc + 3 = n) (h : tl[i]? = some (some (.int x))) (hb : i < nL) (ho : okst tl i = true) (hv : x + Int32.ofInt z = v) (k : CR g R own cc nL ret kc ks Z n (tl.set i (some (.int v))) st nw E) : CR g R own cc nL ret kc ks Z pc tl st nw E := by
  subst hn
  intro p e s m args below meth c H locs ls C hP hz hS hl
  obtain ⟨q, hq⟩ := List.getElem?_of_mem (lvOf_mem.mpr h)
  exact lv_iinc C.1.1 C.1.2.1 hd hl.has (k := q) hq hv hb rfl (fun ls' h' => k p e s m args below meth c H locs ls' C hP hz hS (LF.st1 h' ho))
theorem r_fgt {tl' : List (Option Value)} (h : lsub tl' tl) (k : CR g R own cc nL ret kc ks Z pc tl' st nw E) : CR g R own cc nL ret kc ks Z pc tl st nw E := by
  intro p e s m args below meth c H locs ls C hP hz hS hl
  exact k p e s m args below meth c H locs ls C hP hz hS (hl.forget (lsub_at _ _ h))
theorem r_eqS {st' : List Value} (h : st = st') (k : CR g R own cc nL ret kc ks Z pc tl st' nw E) : CR g R own cc nL ret kc ks Z pc tl st nw E := by subst h; exact k
theorem r_eqE {E' : Nat → va_E} (h : E = E') (k : CR g R own cc nL ret kc ks Z pc tl st nw E') : CR g R own cc nL ret kc ks Z pc tl st nw E := by subst h; exact k
end CRR
