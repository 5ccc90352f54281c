/-! THE LOGIC: what holds at a start (Ev), the judgement TR over the world, contracts Cn -/
def raL : List Int32 := [-1, 0, 0, 1, 2, 0]
def lrL : List Int32 := [1, 0, 0]
def mrL : List Int32 := [9, 99, 100]
def strI : List Nat := [75, 81, 83, 85, 87, 89, 98, 100, 102, 104, 106, 108]
def strT : List String := ["breath", "fee", "fine", "idcn", "sg", "id", "|", "&", "<=>", "+-", "*/", ""]
def strL : List Nat := [6, 3, 4, 4, 2, 2, 1, 1, 3, 2, 2, 0]
def strB : List (List Int32) := [[98, 114, 101, 97, 116, 104], [102, 101, 101], [102, 105, 110, 101], [105, 100, 99, 110], [115, 103], [105, 100], [124], [38], [60, 61, 62], [43, 45], [42, 47], []]
def nestM : List (String × Nat × MethodName) := [(RX3, 29, yX5_within), (RX4, 89, yX5_held)]
def Ev (g : GT) (s : State) : Prop :=
  va_K (gD g) vwCl (gty g) s ∧ (∀ M, va_D (gA g) (WS g M)) ∧
  (va_Z RX5 "RIGHT_ABOVE" "[I" (.ref (gad g 49 0)) (gA g) s s.heap ∧ va_T .int (gad g 49 0) 6 (fun j => .int (raL.getD j 0)) (gA g) s s.heap) ∧
  (va_Z RX5 "LEAST_RULE" "[I" (.ref (gad g 50 0)) (gA g) s s.heap ∧ va_T .int (gad g 50 0) 3 (fun j => .int (lrL.getD j 0)) (gA g) s s.heap) ∧
  (va_Z RX5 "MOST_RULE" "[I" (.ref (gad g 51 0)) (gA g) s s.heap ∧ va_T .int (gad g 51 0) 3 (fun j => .int (mrL.getD j 0)) (gA g) s s.heap) ∧
  va_T .int (gad g 52 0) (gN g) (fun j => .int (gxs g j)) (gA g) s s.heap ∧
  vk_S 12 strL strB (gad g 53) (gsv g) (gA g) s s.heap ∧
  (∀ i, i < 12 → vk_R RX0 (strI.getD i 0) (strT.getD i "") (gad g 53 i) s) ∧
  (va_Z RJ0 "COMPACT_STRINGS" "Z" (.int 1) (gA g) s s.heap ∧ va_Zq RJ3 "SIOOBE_FORMATTER" "Ljava/util/function/BiFunction;" (gA g) s s.heap) ∧
  (∀ q ∈ nestM, va_Nw (.methodLinkNest q.1 q.2.1 q.2.2 RX5) s)
theorem Ev.moved {g : GT} {s U : State} (h : Ev g s) (hW : s.WarmedH U.vm) (hq : ∀ a : Nat, a < s.heap.size → ¬ gA g a → U.heap[a]? = s.heap[a]?) : Ev g U := by
  obtain ⟨h1, h2, ⟨h3, h4⟩, ⟨h5, h6⟩, ⟨h7, h8⟩, h9, h10, h11, ⟨h12, h14⟩, h13⟩ := h
  have hv := hW.alike
  exact ⟨va_K.moved hv h1, h2, ⟨(va_Z.moved hv h3).kept hq, (va_T.moved hv h4).kept hq⟩, ⟨(va_Z.moved hv h5).kept hq, (va_T.moved hv h6).kept hq⟩, ⟨(va_Z.moved hv h7).kept hq, (va_T.moved hv h8).kept hq⟩, (va_T.moved hv h9).kept hq, (vk_S.moved hv h10).kept hq, fun i hi => vk_R.warm hW (h11 i hi), ⟨(va_Z.moved hv h12).kept hq, (va_Zq.moved hv h14).kept hq⟩, fun q hm => va_Nw.warmM hW (h13 q hm)⟩
def rmD (d : Nat) : Room := { frames := d, cells := 0, slots := 0, locals := 40 * d }
/-- the locals, place by place -/
def LF (ls : Array Slot) (nL : Nat) (tl : List (Option Value)) : Prop := ls.size = nL ∧ lv_wf ls ∧ ∀ (i : Nat) (v : Value), tl[i]? = some (some v) → ls[i]? = some (Slot.val v)
def TC (g : GT) (own : String) (cc : ByteArray) (nL : Nat) (ret : Option FieldType) (p : Program) (s : State) (m : MethodId) (args : Array Value) (meth : Method) (c : Code) : Prop :=
  p.tables.exec = Jvm.exec ∧ c.code = cc ∧ c.maxLocals = nL ∧ meth.sig.returnType = ret ∧ meth.locks = false ∧ s.vm.findClass own = some m.cls ∧ (∀ w ∈ TB, w.before args s = true) ∧ Ev g s
def TR (g : GT) (R : Room) (own : String) (cc : ByteArray) (nL : Nat) (ret : Option FieldType) (kc ks : Nat) (Z : List Frame → Array Value → State → State → Prop) (pc : Nat) (tl : List (Option Value)) (st : List Value) (M : TM) : Prop :=
  ∀ (p : Program) (e : Env) (s : State) (m : MethodId) (args : Array Value) (below : List Frame) (meth : Method) (c : Code) (H : Heap) (locs : List Loc) (ls : Array Slot),
    TC g own cc nL ret p s m args meth c → va_P (gD g) vwCl (WS g M) H → va_S (gA g) s.heap H locs → LF ls nL tl →
    W p (gl g) e R s m args below meth c H locs kc ks (Z below args s) (F0 m pc ls st)
/-- a contract's start and end -/
def Pcn (g : GT) (M : TM) (av : List Value) : Array Value → State → Prop := va_Pc av (fun U => va_P (gD g) vwCl (WS g M) U.heap ∧ Ev g U)
def Qcn (g : GT) (P : Option Value → TM → Prop) : Array Value → State → Outcome → State → Prop := fun _ st oc t => ∃ (r : Option Value) (M' : TM), oc = .returned r ∧ P r M' ∧ va_P (gD g) vwCl (WS g M') t.heap ∧ va_F (gA g) st t
def Cn (g : GT) (y : MethodName) (cc : ByteArray) (nL : Nat) (ret : Option FieldType) (d : Nat) (av : List Value) (M : TM) (P : Option Value → TM → Prop) : Prop :=
  Met (gl g) y (.code y cc nL ret :: TB) (rmD d) (Pcn g M av) (Qcn g P) 0 0 (gA g)
/-- a method's own end -/
def Zm (g : GT) (P : Option Value → TM → Prop) : List Frame → Array Value → State → State → Prop := fun below args s => MQ below (Qcn g P) args s 0 0 (gA g)
theorem Cn.mono {g : GT} {y : MethodName} {cc : ByteArray} {nL : Nat} {ret : Option FieldType} {d : Nat} {av : List Value} {M : TM} {P P' : Option Value → TM → Prop} (h : Cn g y cc nL ret d av M P) (hp : ∀ r M', P r M' → P' r M') : Cn g y cc nL ret d av M P' := by
  have e : ∀ a st o t, Qcn g P a st o t → Qcn g P' a st o t := by
    rintro a st o t ⟨r, M', h1, h2, h3, h4⟩
    exact ⟨r, M', h1, hp _ _ h2, h3, h4⟩
  intro p e' ha hc hk s m args below hf happ hP hK
  obtain ⟨k, o, h1, h2, h3, h4, h5⟩ := h p e' ha hc hk s m args below hf happ hP hK
  exact ⟨k, o, h1, h2, h3, e _ _ _ _ h4, h5⟩
theorem LF.entry (vs : List Value) (n : Nat) (h : (lg_sl vs).length ≤ n) (tl : List (Option Value)) (htl : ∀ (i : Nat) (v : Value), tl[i]? = some (some v) → (i, v) ∈ lv_args 0 vs) : LF ((lg_sl vs ++ List.replicate (n - (lg_sl vs).length) Slot.unset).toArray) n tl := by
  obtain ⟨h1, h2, h3⟩ := lv_entry vs h
  exact ⟨h1, h2, fun i v hi => h3 (i, v) (htl i v hi)⟩
/-- the positional list out of the argument list -/
def tlA : List Value → List (Option Value)
  | [] => []
  | v :: vs => if v.category = 2 then some v :: none :: tlA vs else some v :: tlA vs
theorem tlA_mem : ∀ (vs : List Value) (k i : Nat) (v : Value), (tlA vs)[i]? = some (some v) → (k + i, v) ∈ lv_args k vs
  | [], _, _, _, h => by simp [tlA] at h
  | x :: vs, k, i, v, h => by
    unfold tlA at h
    by_cases hc : x.category = 2
    · rw [if_pos hc] at h
      match i, h with
      | 0, h => simp at h; subst h; simp [lv_args]
      | 1, h => simp at h
      | i + 2, h =>
        have h' : (tlA vs)[i]? = some (some v) := by simpa using h
        have := tlA_mem vs (k + 2) i v h'
        simp only [lv_args, hc]
        rw [show k + (i + 2) = k + 2 + i by omega]
        exact List.mem_cons_of_mem _ this
    · rw [if_neg hc] at h
      have hc1 : x.category = 1 := (lv_cat x).resolve_right hc
      match i, h with
      | 0, h => simp at h; subst h; simp [lv_args]
      | i + 1, h =>
        have h' : (tlA vs)[i]? = some (some v) := by simpa using h
        have := tlA_mem vs (k + 1) i v h'
        simp only [lv_args, hc1]
        rw [show k + (i + 1) = k + 1 + i by omega]
        exact List.mem_cons_of_mem _ this
/-- a contract out of a walk of the body -/
theorem Cn.ofTR {g : GT} {y : MethodName} {cc : ByteArray} {nL : Nat} {ret : Option FieldType} {d : Nat} {av : List Value} {M : TM} {P : Option Value → TM → Prop} (hy : plainName y.cls = true) (ha : (lg_sl av).length ≤ nL) (k : TR g (rmD d) y.cls cc nL ret 0 0 (Zm g P) 0 (tlA av ++ List.replicate nL none) [] M) : Cn g y cc nL ret d av M P := by
  refine Met.ofW (cc := cc) (maxL := nL) (ret := ret) hy rfl ?_
  intro p e s m args below meth c s₁ B hml hv
  obtain ⟨rfl, hP, hE⟩ := hv
  have hts : ∀ w ∈ TB, w.before av.toArray s = true := fun w hw => atoms_spec (ws := .code y cc nL ret :: TB) B.pre w (List.mem_cons_of_mem _ hw)
  rw [lg_entry_eq]
  refine k p e s m av.toArray below meth c s.heap [] _ ⟨B.exec, B.bytes, hml, B.returns, B.notSynchronized, findClass_of_methodNamed B.named, hts, hE⟩ hP va_S.rf (LF.entry av nL ha _ ?_)
  intro i v hi
  by_cases hl : i < (tlA av).length
  · rw [List.getElem?_append_left hl] at hi
    have := tlA_mem av 0 i v hi
    rwa [Nat.zero_add] at this
  · rw [List.getElem?_append_right (by omega), List.getElem?_replicate] at hi
    split at hi <;> simp at hi
