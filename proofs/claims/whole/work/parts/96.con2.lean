/-! CONSTRUCTORS: arrays of references, calls -/
theorem vr_outer (c : ClassId) (N h0 : Nat) : ∀ i : Nat, Jvm.Free.Multi.outerC c N h0 i = arrV c N (fun j => va_rf (if j < i then some (h0 + 1 + j) else none))
  | 0 => by
    show ({ cls := c, slots := Array.replicate N .null, vm := .none } : Cell) = _
    rw [arrV_new]
    refine congrArg (arrV c N) (funext fun j => ?_)
    simp [va_rf]
  | i + 1 => by
    show (Jvm.Free.Multi.outerC c N h0 i).setSlot i (.ref (h0 + 1 + i)) = _
    rw [vr_outer c N h0 i, arrV_store]
    refine congrArg (arrV c N) (funext fun j => ?_)
    by_cases e : j = i
    · subst e
      simp [updV, va_rf]
    · by_cases h : j < i
      · simp [updV, e, h, Nat.lt_succ_of_lt h]
      · simp [updV, e, h, show ¬ j < i + 1 by omega]
abbrev rfs (f : Nat → Option Nat) : (Nat → Int32) ⊕ (Nat → Int64) ⊕ (Nat → UInt32) ⊕ (Nat → UInt64) ⊕ (Nat → Option Nat) := .inr (.inr (.inr (.inr f)))
def mnE (E : Nat → va_E) (i N : Nat) (o r : va_E) : Nat → va_E := fun j => if j = i then o else if i < j ∧ j ≤ i + N then r else E j
theorem WE_mn (b : Nat) (E : Nat → va_E) (n N : Nat) (o r : va_E) : WE b (mnE E n N o r) (n + 1 + N) = (WE b E n ++ [(b + n, o)]) ++ (List.range N).map (fun i => (b + n + 1 + i, r)) := by
  induction N with
  | zero =>
    show WE b (mnE E n 0 o r) (n + 1) = (WE b E n ++ [(b + n, o)]) ++ []
    rw [List.append_nil, ← WE_push]
    unfold WE
    apply List.map_congr_left
    intro i hi
    have hi := List.mem_range.mp hi
    congr 1
    unfold mnE upE
    by_cases e : i = n
    · rw [if_pos e, if_pos e]
    · rw [if_neg e, if_neg e, if_neg (by omega)]
  | succ N ih =>
    rw [List.range_succ, List.map_append, ← List.append_assoc, ← ih]
    show WE b (mnE E n (N + 1) o r) (n + 1 + N + 1) = _
    have e : mnE E n (N + 1) o r = upE (mnE E n N o r) (n + 1 + N) r := by
      funext j
      unfold upE
      by_cases q : j = n + 1 + N
      · rw [if_pos q]; unfold mnE; rw [if_neg (by omega), if_pos (by omega)]
      · rw [if_neg q]; unfold mnE
        by_cases q2 : j = n
        · rw [if_pos q2, if_pos q2]
        · rw [if_neg q2, if_neg q2]
          by_cases q3 : n < j ∧ j ≤ n + N
          · rw [if_pos q3, if_pos (by omega)]
          · rw [if_neg q3, if_neg (by omega)]
    rw [e, WE_push]
    congr 1
    show [(b + (n + 1 + N), r)] = [(b + n + 1 + N, r)]
    rw [show b + (n + 1 + N) = b + n + 1 + N by omega]
section CRQ
variable {g : GT} {R : Room} {own : String} {cc : ByteArray} {nL : Nat} {ret : Option FieldType} {kc ks : Nat} {Z : List Frame → Array Value → State → State → Prop} {pc : Nat} {tl : List (Option Value)} {st rest : List Value} {nw : Nat} {E : Nat → va_E}
theorem r_newq {idx t L : Nat} {C0 : String} {x : Int32} (n : Nat) (hd : decode cc pc = .ok (.anewarray idx, 3)) (hn : pc + 3 = n) (w1 : Cond.classLink own idx C0 ∈ TB) (hov : ∀ s, Evi g s → va_AO C0 s) (hty : (gty g)[t]? = some (gc g t, .object C0)) (hx : x = nI L) (hL : L < 1000) (hR : kc + 1 ≤ R.cells ∧ ks + L ≤ R.slots) (kk : CR g R own cc nL ret (kc + 1) (ks + L) Z n tl (.ref (n0 g + nw) :: st) (nw + 1) (upE E nw (.inl (gc g t, L, rfs (fun _ => none))))) : CR g R own cc nL ret kc ks Z pc tl (.int x :: st) nw E := by
  subst hn
  intro p e s m args below meth c' H locs ls C hP hz hS hl
  have ht : ∀ w ∈ TB, w.before args s = true := C.1.2.2.2.2.2.2.1
  have hcl : x.toNatClampNeg = L := by rw [hx]; exact nI_clamp (by omega)
  refine W.anew C.1.1 C.1.2.1 C.1.2.2.2.2.2.1 (ht _ w1) (va_AO.use (hov s C.2.1)) rfl hd rfl (by rw [hx]; exact nI_pos (by omega)) (by rw [hcl]; omega) hR.1 (by rw [hcl]; exact hR.2) (fun cA kA comp f1 f2 f3 f4 => ?_)
  obtain ⟨kA', comp', -, -, -, hc⟩ := (C.1.2.2.2.2.2.2.2.1.2 t _ hty).2
  cases hc.symm.trans f1
  rw [hcl]
  generalize hH1 : H.push ({ cls := gc g t, slots := Array.replicate L .null, vm := .none } : Cell) = H1
  have z1 : H1.size = H.size + 1 := by rw [← hH1, Array.size_push]
  have e1 : H1[H.size]? = some (arrV (gc g t) L (fun _ => .null)) := by rw [← hH1, Array.getElem?_push_size, ← arrV_new]
  have o1 : ∀ q : Nat, q < H.size → H1[q]? = H[q]? := fun q hq => by rw [← hH1, Array.getElem?_push, if_neg (Nat.ne_of_lt hq)]
  have hz1 := hz.1
  refine (?_ : W p (gl g) e R s m args below meth c' H1 locs (kc + 1) (ks + L) (Z below args s) (F0 m (pc + 3) ls (.ref H.size :: st)))
  rw [hz1]
  refine kk p e s m args below meth c' H1 locs ls C ?_ ⟨by omega, by omega⟩ ⟨Nat.le_trans hS.1 (by omega), fun q h1 h2 => (o1 q (by have := hS.1; omega)).trans (hS.2.1 q h1 h2), hS.2.2⟩ hl
  rw [WE_push]
  refine (hP.kept (fun k q hq => o1 q.1 (hP k q hq).lt)).app (fun k q hq => ?_)
  have hk0 : k < 1 := (List.getElem?_eq_some_iff.mp hq).1
  rw [show k = 0 by omega] at hq
  cases hq
  show H1[n0 g + nw]? = some (vp_cell _ _)
  rw [vp_cell_q, ← hz1]
  exact e1
theorem r_aast {i i2 L y t ci : Nat} {r : vw_C} {f : Nat → Option Nat} {vs : List Value} {x : Int32} (n : Nat) (hd : decode cc pc = .ok (.aastore, 1)) (hn : pc + 1 = n) (hi : i < nw) (hE : E i = .inl (gc g t, L, rfs f)) (hty : (gty g)[t]? = some (gc g t, .object r.1)) (hi2 : i2 < nw) (hE2 : E i2 = .inr (ci, vs)) (hc : vwCl[ci]? = some r) (hx : x = nI y) (hy : y < L) (hL : L < 1000) (kk : CR g R own cc nL ret kc ks Z n tl st nw (upE E i (.inl (gc g t, L, rfs (va_up f y (some (n0 g + i2))))))) : CR g R own cc nL ret kc ks Z pc tl (.ref (n0 g + i2) :: .int x :: .ref (n0 g + i) :: st) nw E := by
  subst hn
  intro p e s m args below meth c' H locs ls C hP hz hS hl
  have he := WE_at (n0 g) E hi
  rw [hE] at he
  have he2 := WE_at (n0 g) E hi2
  rw [hE2] at he2
  have hA : ∀ q, n0 g ≤ q → gA g q := fun q hq => (C.2.1.2.2.2 q).mpr hq
  have hcl : x.toNatClampNeg = y := by rw [hx]; exact nI_clamp (by omega)
  refine va_astq C.1.1 C.1.2.1 C.1.2.2.2.2.2.2.2.1 hP (WE_D hA E nw) hS i t i2 ci he hty he2 hc (ix_in hx hy (by omega)) hd (fun H1 locs1 hP1 _ hS1 => ?_)
  rw [hcl, WE_set _ _ _ hi] at hP1
  exact W_sz (WE_lo hP1 (by omega)) (by omega) (fun hsz => kk p e s m args below meth c' H1 locs1 ls C hP1 ⟨hsz, hz.2⟩ hS1 hl)
theorem r_mna {N K : Nat} {x y : Int32} (n : Nat) (hd : decode cc pc = .ok (.multianewarray 9 2, 4)) (hn : pc + 4 = n) (ho : own = RX3) (hx : x = nI N) (hy : y = nI K) (hN : N < 1000) (hK : K < 1000) (hR : kc + (1 + N) ≤ R.cells ∧ ks + (N + N * K) ≤ R.slots) (kk : CR g R own cc nL ret (kc + 1 + N) (ks + N + N * K) Z n tl (.ref (n0 g + nw) :: st) (nw + 1 + N) (mnE E nw N (.inl (gc g 3, N, rfs (fun i => if i < N then some (n0 g + nw + 1 + i) else none))) (.inl (gc g 0, K, .inl (fun _ => 0))))) : CR g R own cc nL ret kc ks Z pc tl (.int y :: .int x :: st) nw E := by
  subst hn; subst ho
  intro p e s m args below meth c' H locs ls C hP hz hS hl
  have ht : ∀ w ∈ TB, w.before args s = true := C.1.2.2.2.2.2.2.1
  have hcN : x.toNatClampNeg = N := by rw [hx]; exact nI_clamp (by omega)
  have hcK : y.toNatClampNeg = K := by rw [hy]; exact nI_clamp (by omega)
  intro T hT Xs
  have hb := C.1.2.1
  obtain ⟨vm₁, cA, comp, -, fA, fC, hO, -, X', step⟩ := Xs.multianewarray2F C.1.1 (ty := .int) C.1.2.2.2.2.2.1 (ht _ kl_X3_9) C.2.1.2.1.2.2 (ht _ ka_int) (g := F0 m pc ls (.int y :: .int x :: st)) rfl (by rw [hb]; exact hd) rfl (by rw [hx]; exact nI_pos (by omega)) (by rw [hy]; exact nI_pos (by omega)) (by rw [hcN]; omega) (by rw [hcK]; show K * 4 ≤ _; omega) (by rw [hcK]; omega) rfl rfl (by rw [hcN]; exact hR.1) (by rw [hcN, hcK]; exact hR.2)
  have hc3 : s.vm.findClass ("[" ++ (FieldType.array .int).toString) = some (gc g 3) := (C.1.2.2.2.2.2.2.2.1.2 3 _ rfl).2
  have hc0 : s.vm.findClass ("[" ++ FieldType.int.toString) = some (gc g 0) := (C.1.2.2.2.2.2.2.2.1.2 0 _ rfl).2
  cases hc3.symm.trans fA
  cases (show s.vm.findClass (FieldType.array .int).toString = some (gc g 0) from hc0).symm.trans fC
  rw [hcN, hcK] at X' step
  generalize hF : Jvm.Free.Multi.fill (T.setVm vm₁) (gc g 3) (gc g 0) N K (defaultValue .int) N = F at X' step
  have hTh : (T.setVm vm₁).heap = H := hT
  obtain ⟨f1, f2, -, -⟩ := Jvm.Free.Multi.fill_facts (T.setVm vm₁) (gc g 3) (gc g 0) N K (defaultValue .int) N
  rw [hF, hTh] at f1 f2
  have hold : ∀ q : Nat, q < H.size → F.heap[q]? = H[q]? := fun q hq => by
    have h := Jvm.Free.Multi.fill_old (T.setVm vm₁) (gc g 3) (gc g 0) N K (defaultValue .int) (a := q) (by rw [hTh]; exact hq) N
    rw [hF, hTh] at h
    exact h
  have hrow : ∀ j : Nat, j < N → F.heap[H.size + 1 + j]? = some (vp_cell (gc g 0) (K, .inl (fun _ => 0))) := fun j hj => by
    have h := Jvm.Free.Multi.fill_inner (T.setVm vm₁) (gc g 3) (gc g 0) N K (defaultValue .int) N j hj
    rw [hF, hTh] at h
    rw [h, vp_cell_i, ← arrV_new]; rfl
  have hout : F.heap[H.size]? = some (vp_cell (gc g 3) (N, rfs (fun i => if i < N then some (H.size + 1 + i) else none))) := by
    rw [f2, vp_cell_q]
    exact congrArg some (vr_outer (gc g 3) N H.size N)
  have hz1 := hz.1
  rw [hz1] at f1 hrow hout
  have hP1 : va_P (gD g) vwCl (WE (n0 g) (mnE E nw N (.inl (gc g 3, N, rfs (fun i => if i < N then some (n0 g + nw + 1 + i) else none))) (.inl (gc g 0, K, .inl (fun _ => 0)))) (nw + 1 + N)) F.heap := by
    rw [WE_mn]
    refine ((hP.kept (fun k q hq => hold q.1 (hP k q hq).lt)).app (fun k q hq => ?_)).app (fun k q hq => ?_)
    · have hk0 : k < 1 := (List.getElem?_eq_some_iff.mp hq).1
      rw [show k = 0 by omega] at hq
      cases hq
      exact hout
    · obtain ⟨i, hi, rfl⟩ := List.mem_map.mp (List.mem_of_getElem? hq)
      exact hrow i (List.mem_range.mp hi)
  have hTs : T.heap.size = n0 g + nw := by rw [hT]; exact hz1
  rw [hTs] at step
  obtain ⟨t, a1, b1⟩ := kk p e s m args below meth c' F.heap locs ls C hP1 ⟨by rw [f1]; omega, by omega⟩ ⟨Nat.le_trans hS.1 (by rw [f1]; omega), fun q h1 h2 => (hold q (by have := hS.1; omega)).trans (hS.2.1 q h1 h2), hS.2.2⟩ hl F rfl X'
  exact ⟨t, step t a1, b1⟩
end CRQ
def rmC (d mc ms : Nat) : Room := { frames := d, cells := mc, slots := ms, locals := 40 * d }
def Pci (g : GT) (av : List Value) (n : Nat) (E : Nat → va_E) : Array Value → State → Prop := va_Pc av (fun U => va_P (gD g) vwCl (WE (n0 g) E n) U.heap ∧ U.heap.size = n0 g + n ∧ Ev g U ∧ Evi g U)
def Qci (g : GT) (n : Nat) (E : Nat → va_E) : Array Value → State → Outcome → State → Prop := fun _ st oc t => oc = .returned none ∧ va_P (gD g) vwCl (WE (n0 g) E n) t.heap ∧ t.heap.size = n0 g + n ∧ va_F (gA g) st t
def Ci (g : GT) (y : MethodName) (cc : ByteArray) (nL d mc ms : Nat) (av : List Value) (n : Nat) (E : Nat → va_E) (n' : Nat) (E' : Nat → va_E) : Prop := Met (gl g) y (.code y cc nL none :: TB) (rmC d mc ms) (Pci g av n E) (Qci g n' E') mc ms (gA g)
theorem Ci.of {g : GT} {y : MethodName} {cc : ByteArray} {nL d mc ms : Nat} {av : List Value} {n : Nat} {E : Nat → va_E} {n' : Nat} {E' : Nat → va_E} (hy : plainName y.cls = true) (hnm : y.cls = RJ7 ∨ y.name = "<init>") (ha : (lg_sl av).length ≤ nL) (k : CR g (rmC d mc ms) y.cls cc nL none 0 0 (fun below args s => MQ below (Qci g n' E') args s mc ms (gA g)) 0 (tlA av ++ List.replicate nL none) [] n E) : Ci g y cc nL d mc ms av n E n' E' := by
  refine Met.ofW (cc := cc) (maxL := nL) (ret := none) hy rfl ?_
  intro p e s m args below meth c s₁ B hml hv
  obtain ⟨rfl, hP, hz, hE, hI⟩ := hv
  have hts : ∀ w ∈ TB, w.before av.toArray s = true := fun w hw => atoms_spec (ws := .code y cc nL none :: TB) B.pre w (List.mem_cons_of_mem _ hw)
  rw [lg_entry_eq]
  refine k p e s m av.toArray below meth c s.heap [] _ ⟨⟨B.exec, B.bytes, hml, B.returns, B.notSynchronized, findClass_of_methodNamed B.named, hts, hE⟩, hI, ?_⟩ hP ⟨hz, by rw [hz]; rfl⟩ va_S.rf (LF.entry av nL ha _ ?_)
  · rcases hnm with q | q
    · exact Or.inl (Or.inr q)
    · exact Or.inr ((name_of_methodNamed B.named B.method).1.trans q)
  · intro i v hi
    by_cases hl : i < (tlA av).length
    · rw [List.getElem?_append_left hl] at hi
      have := tlA_mem av 0 i v hi
      rwa [Nat.zero_add] at this
    · rw [List.getElem?_append_right (by omega), List.getElem?_replicate] at hi
      split at hi <;> simp at hi
theorem Pci_blind {g : GT} {av : List Value} {n : Nat} {E : Nat → va_E} : FrameBlind (Pci g av n E) := fun a U gf mk q => by
  obtain ⟨q0, q1, q2, q3, q4⟩ := q
  exact ⟨q0, q1, q2, q3.moved (U := U.calling gf mk a) (State.WarmedH.refl U) (fun _ _ _ => rfl), q4.moved (U := U.calling gf mk a) (State.WarmedH.refl U) q4.2.2.1⟩
theorem Pci_at {g : GT} {av : List Value} {n : Nat} {E : Nat → va_E} {s U : State} {H : Heap} {locs : List Loc} (hE : Ev g s) (hI : Evi g s) (hP : va_P (gD g) vwCl (WE (n0 g) E n) H) (hz : H.size = n0 g + n) (hS : va_S (gA g) s.heap H locs) (hU : U.heap = H) (hW : s.WarmedH U.vm) : Pci g av n E av.toArray U :=
  ⟨rfl, by rw [hU]; exact hP, by rw [hU]; exact hz, hE.moved hW (fun a h1 h2 => by rw [hU]; exact hS.2.1 a h1 h2), hI.moved hW (by rw [hU, hz]; omega)⟩
section CRC
variable {g : GT} {R : Room} {own : String} {cc : ByteArray} {nL : Nat} {ret : Option FieldType} {kc ks : Nat} {Z : List Frame → Array Value → State → State → Prop} {pc : Nat} {tl : List (Option Value)} {st rest : List Value} {nw : Nat} {E : Nat → va_E}
variable {y : MethodName} {cc' : ByteArray} {nL' : Nat} {d mc ms idx N : Nat} {As : List Value} {n' : Nat} {E' : Nat → va_E}
theorem r_back {p : Program} {e : Env} {s : State} {m : MethodId} {args : Array Value} {below : List Frame} {meth : Method} {c : Code} {H : Heap} {locs : List Loc} {ls : Array Slot} {a : Array Value}
    (hr : va_Run p (gl g) e R s m args below meth c H locs kc ks mc ms (F0 m pc ls st) rest (Qci g n' E' a) (gA g)) (C : TI g own cc nL ret p s m args meth c) (hz : s.heap.size + kc = n0 g + nw) (hn : nw + mc = n') (hS : va_S (gA g) s.heap H locs) (hl : LF ls nL tl)
    (kk : CR g R own cc nL ret (kc + mc) (ks + ms) Z (pc + 3) tl rest n' E') : W p (gl g) e R s m args below meth c H locs kc ks (Z below args s) (F0 m pc ls st) := by
  intro T hT X
  obtain ⟨v, st₀, t, T', L, h0, X', hL, e1, e2, ⟨hv, hp, hsz, hF⟩, stp⟩ := hr T hT X
  cases hv
  obtain ⟨f1, f2⟩ := hF
  rw [h0] at f1 f2
  have hS1 : va_S (gA g) s.heap T'.heap (locs ++ L) := ⟨Nat.le_trans hS.1 (by rw [e1]; exact f1), fun q h1 h2 => by rw [e1, f2 q (Nat.lt_of_lt_of_le h1 hS.1) h2]; exact hS.2.1 q h1 h2, fun q hq => by
      rcases List.mem_append.mp hq with h | h
      · exact hS.2.2 q h
      · exact hL q h⟩
  obtain ⟨t2, a1, b1⟩ := kk p e s m args below meth c T'.heap (locs ++ L) ls C (by rw [e1]; exact hp) ⟨by rw [e1]; exact hsz, by omega⟩ hS1 hl T' rfl X'
  exact ⟨t2, stp t2 a1, b1⟩
/-- a constructor by a plain link -/
theorem r_ini {a : Nat} (n : Nat) (hd : decode cc pc = .ok (.invokespecial idx, 3)) (hn : pc + 3 = n) (hC : Ci g y cc' nL' d mc ms (.ref a :: As) nw E n' E') (w1 : Cond.methodLink own idx y ∈ TB) (w2 : Cond.initialized y.cls ∈ TB) (w3 : Cond.code y cc' nL' none ∈ TB) (w4 : y.cls ≠ "java/lang/invoke/MethodHandle" ∧ y.cls ≠ "java/lang/invoke/VarHandle" ∧ (parseMethodDescriptor y.desc).map (fun d => d.parameters.length) = some N) (w5 : Cond.instanceMethod y ∈ TB) (hy : y.name = "<init>") (hN : As.length = N) (hst : st = As.reverse ++ .ref a :: rest) (hroom : d + 1 ≤ R.frames ∧ 8 + (nL' + 11) + 40 * d ≤ R.locals) (hcs : kc + mc ≤ R.cells ∧ ks + ms ≤ R.slots) (hr : (rest.map fun v => v.category).sum ≤ 8) (hnn : nw + mc = n')
    (kk : CR g R own cc nL ret (kc + mc) (ks + ms) Z n tl rest n' E') : CR g R own cc nL ret kc ks Z pc tl st nw E := by
  subst hn
  intro p e s m args below meth c H locs ls C hP hz hS hl
  have ht : ∀ w ∈ TB, w.before args s = true := C.1.2.2.2.2.2.2.1
  exact r_back (va_runI (As := As) (rest := rest) ⟨C.1.1, C.1.2.1, C.1.2.2.1, C.1.2.2.2.2.2.1, ht⟩ hC ⟨callB_of N ht (goodTB w3) rfl rfl rfl (ht _ w2) (ht _ w1) w4 ⟨hroom.1, hroom.2⟩, hy, ht _ w5⟩ ⟨Pci_blind, fun U hU hW => Pci_at C.1.2.2.2.2.2.2.2 C.2.1 hP hz.1 hS hU hW⟩ rfl hN hl.1 hst (lv_room hr) hd hcs) C hz.2 hnn hS hl kk
/-- a constructor of a nest mate -/
theorem r_inN {a : Nat} (n : Nat) (hd : decode cc pc = .ok (.invokespecial idx, 3)) (hn : pc + 3 = n) (hC : Ci g y cc' nL' d mc ms (.ref a :: As) nw E n' E') (w1 : (own, idx, y) ∈ nestI) (w2 : Cond.initialized y.cls ∈ TB) (w3 : Cond.code y cc' nL' none ∈ TB) (w4 : y.cls ≠ "java/lang/invoke/MethodHandle" ∧ y.cls ≠ "java/lang/invoke/VarHandle" ∧ (parseMethodDescriptor y.desc).map (fun d => d.parameters.length) = some N) (w5 : Cond.instanceMethod y ∈ TB) (hy : y.name = "<init>") (hN : As.length = N) (hst : st = As.reverse ++ .ref a :: rest) (hroom : d + 1 ≤ R.frames ∧ 8 + (nL' + 11) + 40 * d ≤ R.locals) (hcs : kc + mc ≤ R.cells ∧ ks + ms ≤ R.slots) (hr : (rest.map fun v => v.category).sum ≤ 8) (hnn : nw + mc = n')
    (kk : CR g R own cc nL ret (kc + mc) (ks + ms) Z n tl rest n' E') : CR g R own cc nL ret kc ks Z pc tl st nw E := by
  subst hn
  intro p e s m args below meth c H locs ls C hP hz hS hl
  have ht : ∀ w ∈ TB, w.before args s = true := C.1.2.2.2.2.2.2.1
  exact r_back (va_runIN (As := As) (rest := rest) ⟨C.1.1, C.1.2.1, C.1.2.2.1, C.1.2.2.2.2.2.1, ht⟩ hC ⟨va_cnB N ht (goodTB w3) rfl rfl rfl (C.2.1.1 _ w1) (ht _ w2) w4 ⟨hroom.1, hroom.2⟩, hy, ht _ w5⟩ ⟨Pci_blind, fun U hU hW => Pci_at C.1.2.2.2.2.2.2.2 C.2.1 hP hz.1 hS hU hW⟩ rfl hN hl.1 hst (lv_room hr) hd hcs) C hz.2 hnn hS hl kk
theorem r_callS (n : Nat) (hd : decode cc pc = .ok (.invokestatic idx, 3)) (hn : pc + 3 = n) (hC : Ci g y cc' nL' d mc ms As nw E n' E') (cw : CWS own idx y cc' nL' none N) (hN : As.length = N) (hst : st = As.reverse ++ rest) (hroom : d + 1 ≤ R.frames ∧ 8 + (nL' + 11) + 40 * d ≤ R.locals) (hcs : kc + mc ≤ R.cells ∧ ks + ms ≤ R.slots) (hr : (rest.map fun v => v.category).sum ≤ 8) (hnn : nw + mc = n')
    (kk : CR g R own cc nL ret (kc + mc) (ks + ms) Z n tl rest n' E') : CR g R own cc nL ret kc ks Z pc tl st nw E := by
  subst hn
  intro p e s m args below meth c H locs ls C hP hz hS hl
  obtain ⟨⟨w1, w2, w3, w4⟩, w5⟩ := cw
  have ht : ∀ w ∈ TB, w.before args s = true := C.1.2.2.2.2.2.2.1
  exact r_back (va_runS (As := As) (rest := rest) ⟨C.1.1, C.1.2.1, C.1.2.2.1, C.1.2.2.2.2.2.1, ht⟩ hC ⟨callB_of N ht (goodTB w3) rfl rfl rfl (ht _ w2) (ht _ w1) w4 ⟨hroom.1, hroom.2⟩, ht _ w5⟩ ⟨Pci_blind, fun U hU hW => Pci_at C.1.2.2.2.2.2.2.2 C.2.1 hP hz.1 hS hU hW⟩ rfl hN hl.1 hst (lv_room hr) hd hcs) C hz.2 hnn hS hl kk
theorem r_alen {i L : Nat} {f : Nat → Int32} (n : Nat) (hd : decode cc pc = .ok (.arraylength, 1)) (hn : pc + 1 = n) (hi : i < nw) (hE : E i = .inl (gc g 0, L, .inl f)) (kk : CR g R own cc nL ret kc ks Z n tl (.int (nI L) :: st) nw E) : CR g R own cc nL ret kc ks Z pc tl (.ref (n0 g + i) :: st) nw E := by
  subst hn
  intro p e s m args below meth c' H locs ls C hP hz hS hl
  have he := WE_at (n0 g) E hi
  rw [hE] at he
  exact va_alen C.1.1 C.1.2.1 C.1.2.2.2.2.2.2.2.1 hP i 0 he rfl rfl hd (kk p e s m args below meth c' H locs ls C hP hz hS hl)
end CRC
