/-! CONSTRUCTORS: words, and rules over the heap -/
theorem kl_L_7 : Cond.classLink RL 7 RX5 ∈ TB := TB_of (List.mem_append_right _ (List.mem_of_getElem? (i := 17) (by decide +kernel))) rfl
theorem kl_X5_7 : Cond.classLink RX5 7 RX3 ∈ TB := TB_of (List.mem_append_right _ (List.mem_of_getElem? (i := 25) (by decide +kernel))) rfl
theorem kl_X5_16 : Cond.classLink RX5 16 RX4 ∈ TB := TB_of (List.mem_append_right _ (List.mem_of_getElem? (i := 52) (by decide +kernel))) rfl
theorem kl_X5_31 : Cond.classLink RX5 31 RX0 ∈ TB := TB_of (List.mem_append_right _ (List.mem_of_getElem? (i := 133) (by decide +kernel))) rfl
theorem kl_X5_42 : Cond.classLink RX5 42 RX1 ∈ TB := TB_of (List.mem_append_right _ (List.mem_of_getElem? (i := 175) (by decide +kernel))) rfl
theorem kl_X5_48 : Cond.classLink RX5 48 RX2 ∈ TB := TB_of (List.mem_append_right _ (List.mem_of_getElem? (i := 177) (by decide +kernel))) rfl
theorem kl_X2_9 : Cond.classLink RX2 9 RX1 ∈ TB := TB_of (List.mem_append_right _ (List.mem_of_getElem? (i := 202) (by decide +kernel))) rfl
theorem kl_L_10 : Cond.classLink RL 10 RX6 ∈ TB := TB_of (List.mem_append_right _ (List.mem_of_getElem? (i := 836) (by decide +kernel))) rfl
theorem ki_X5 : Cond.instantiable RX5 13 ∈ TB := TB_of (List.mem_append_right _ (List.mem_of_getElem? (i := 18) (by decide +kernel))) rfl
theorem kt_X5 : Cond.initialized RX5 ∈ TB := TB_of (List.mem_append_right _ (List.mem_of_getElem? (i := 1) (by decide +kernel))) rfl
theorem kc_X5 : Cond.code yX5_init cX5_init 2 none ∈ TB := TB_of (List.mem_append_right _ (List.mem_of_getElem? (i := 21) (by decide +kernel))) rfl
theorem kn_X5 : Cond.instanceMethod yX5_init ∈ TB := TB_of (List.mem_append_right _ (List.mem_of_getElem? (i := 20) (by decide +kernel))) rfl
theorem ko_X5 : Cond.methodLink RX5 1 objectInit ∈ TB := TB_of (List.mem_append_right _ (List.mem_of_getElem? (i := 22) (by decide +kernel))) rfl
theorem ki_X3 : Cond.instantiable RX3 5 ∈ TB := TB_of (List.mem_append_right _ (List.mem_of_getElem? (i := 26) (by decide +kernel))) rfl
theorem kt_X3 : Cond.initialized RX3 ∈ TB := TB_of (List.mem_append_right _ (List.mem_of_getElem? (i := 2) (by decide +kernel))) rfl
theorem kc_X3 : Cond.code yX3_init cX3_init 1 none ∈ TB := TB_of (List.mem_append_right _ (List.mem_of_getElem? (i := 29) (by decide +kernel))) rfl
theorem kn_X3 : Cond.instanceMethod yX3_init ∈ TB := TB_of (List.mem_append_right _ (List.mem_of_getElem? (i := 28) (by decide +kernel))) rfl
theorem ko_X3 : Cond.methodLink RX3 3 objectInit ∈ TB := TB_of (List.mem_append_right _ (List.mem_of_getElem? (i := 30) (by decide +kernel))) rfl
theorem ki_X4 : Cond.instantiable RX4 18 ∈ TB := TB_of (List.mem_append_right _ (List.mem_of_getElem? (i := 53) (by decide +kernel))) rfl
theorem kt_X4 : Cond.initialized RX4 ∈ TB := TB_of (List.mem_append_right _ (List.mem_of_getElem? (i := 3) (by decide +kernel))) rfl
theorem kc_X4 : Cond.code yX4_init cX4_init 2 none ∈ TB := TB_of (List.mem_append_right _ (List.mem_of_getElem? (i := 56) (by decide +kernel))) rfl
theorem kn_X4 : Cond.instanceMethod yX4_init ∈ TB := TB_of (List.mem_append_right _ (List.mem_of_getElem? (i := 55) (by decide +kernel))) rfl
theorem ko_X4 : Cond.methodLink RX4 3 objectInit ∈ TB := TB_of (List.mem_append_right _ (List.mem_of_getElem? (i := 57) (by decide +kernel))) rfl
theorem ki_X0 : Cond.instantiable RX0 10 ∈ TB := TB_of (List.mem_append_right _ (List.mem_of_getElem? (i := 134) (by decide +kernel))) rfl
theorem kt_X0 : Cond.initialized RX0 ∈ TB := TB_of (List.mem_append_right _ (List.mem_of_getElem? (i := 5) (by decide +kernel))) rfl
theorem kc_X0 : Cond.code yX0_init cX0_init 1 none ∈ TB := TB_of (List.mem_append_right _ (List.mem_of_getElem? (i := 137) (by decide +kernel))) rfl
theorem kn_X0 : Cond.instanceMethod yX0_init ∈ TB := TB_of (List.mem_append_right _ (List.mem_of_getElem? (i := 136) (by decide +kernel))) rfl
theorem ko_X0 : Cond.methodLink RX0 3 objectInit ∈ TB := TB_of (List.mem_append_right _ (List.mem_of_getElem? (i := 138) (by decide +kernel))) rfl
theorem ki_X1 : Cond.instantiable RX1 3 ∈ TB := TB_of (List.mem_append_right _ (List.mem_of_getElem? (i := 179) (by decide +kernel))) rfl
theorem kt_X1 : Cond.initialized RX1 ∈ TB := TB_of (List.mem_append_right _ (List.mem_of_getElem? (i := 6) (by decide +kernel))) rfl
theorem kc_X1 : Cond.code yX1_init cX1_init 1 none ∈ TB := TB_of (List.mem_append_right _ (List.mem_of_getElem? (i := 182) (by decide +kernel))) rfl
theorem kn_X1 : Cond.instanceMethod yX1_init ∈ TB := TB_of (List.mem_append_right _ (List.mem_of_getElem? (i := 181) (by decide +kernel))) rfl
theorem ko_X1 : Cond.methodLink RX1 3 objectInit ∈ TB := TB_of (List.mem_append_right _ (List.mem_of_getElem? (i := 183) (by decide +kernel))) rfl
theorem ki_X2 : Cond.instantiable RX2 6 ∈ TB := TB_of (List.mem_append_right _ (List.mem_of_getElem? (i := 197) (by decide +kernel))) rfl
theorem kt_X2 : Cond.initialized RX2 ∈ TB := TB_of (List.mem_append_right _ (List.mem_of_getElem? (i := 7) (by decide +kernel))) rfl
theorem kc_X2 : Cond.code yX2_init cX2_init 1 none ∈ TB := TB_of (List.mem_append_right _ (List.mem_of_getElem? (i := 200) (by decide +kernel))) rfl
theorem kn_X2 : Cond.instanceMethod yX2_init ∈ TB := TB_of (List.mem_append_right _ (List.mem_of_getElem? (i := 199) (by decide +kernel))) rfl
theorem ko_X2 : Cond.methodLink RX2 3 objectInit ∈ TB := TB_of (List.mem_append_right _ (List.mem_of_getElem? (i := 201) (by decide +kernel))) rfl
theorem ki_X6 : Cond.instantiable RX6 31 ∈ TB := TB_of (List.mem_append_right _ (List.mem_of_getElem? (i := 837) (by decide +kernel))) rfl
theorem kt_X6 : Cond.initialized RX6 ∈ TB := TB_of (List.mem_append_right _ (List.mem_of_getElem? (i := 8) (by decide +kernel))) rfl
theorem kc_X6 : Cond.code yX6_init cX6_init 2 none ∈ TB := TB_of (List.mem_append_right _ (List.mem_of_getElem? (i := 840) (by decide +kernel))) rfl
theorem kn_X6 : Cond.instanceMethod yX6_init ∈ TB := TB_of (List.mem_append_right _ (List.mem_of_getElem? (i := 839) (by decide +kernel))) rfl
theorem ko_X6 : Cond.methodLink RX6 1 objectInit ∈ TB := TB_of (List.mem_append_right _ (List.mem_of_getElem? (i := 841) (by decide +kernel))) rfl
theorem km_L_9 : Cond.methodLink RL 9 yX5_init ∈ TB := TB_of (List.mem_append_right _ (List.mem_of_getElem? (i := 19) (by decide +kernel))) rfl
theorem km_L_12 : Cond.methodLink RL 12 yX6_init ∈ TB := TB_of (List.mem_append_right _ (List.mem_of_getElem? (i := 838) (by decide +kernel))) rfl
theorem km_X5_18 : Cond.methodLink RX5 18 yX4_init ∈ TB := TB_of (List.mem_append_right _ (List.mem_of_getElem? (i := 54) (by decide +kernel))) rfl
theorem ko_n : Cond.instanceMethod objectInit ∈ TB := TB_of (List.mem_append_right _ (List.mem_of_getElem? (i := 23) (by decide +kernel))) rfl
theorem ko_c : Cond.code objectInit ⟨#[0xb1]⟩ 1 none ∈ TB := TB_of (List.mem_append_right _ (List.mem_of_getElem? (i := 24) (by decide +kernel))) rfl
theorem ka_int : Cond.arrayClass .int ∈ TB := TB_of (List.mem_append_right _ (List.mem_of_getElem? (i := 51) (by decide +kernel))) rfl
theorem kl_X3_9 : Cond.classLink RX3 9 "[[I" ∈ TB := TB_of (List.mem_append_right _ (List.mem_of_getElem? (i := 31) (by decide +kernel))) rfl
theorem W_sz {p : Program} {l : Launch} {e : Env} {R : Room} {s : State} {m : MethodId} {args : Array Value} {below : List Frame} {meth : Method} {c : Code} {H : Heap} {locs : List Loc} {cells slots : Nat} {Q : State → Prop} {g : JFrame} {n : Nat} (hlo : n ≤ H.size) (hhi : s.heap.size + cells ≤ n) (h : H.size = n → W p l e R s m args below meth c H locs cells slots Q g) : W p l e R s m args below meth c H locs cells slots Q g := fun T hT X => h (by have := X.heapSize; rw [hT] at this; omega) T hT X
theorem WE_lo {D : va_G} {b nw : Nat} {E : Nat → va_E} {H : Heap} (h : va_P D vwCl (WE b E nw) H) (hn : 0 < nw) : b + nw ≤ H.size := by
  have q : b + (nw - 1) < H.size := (h (nw - 1) _ (WE_at b E (by omega))).lt
  omega
section CRH
variable {g : GT} {R : Room} {own : String} {cc : ByteArray} {nL : Nat} {ret : Option FieldType} {kc ks : Nat} {Z : List Frame → Array Value → State → State → Prop} {pc : Nat} {tl : List (Option Value)} {st rest : List Value} {nw : Nat} {E : Nat → va_E}
theorem r_get {idx c j i : Nat} {fs : List Value} {v : Value} (n : Nat) (hd : decode cc pc = .ok (.getfield idx, 3)) (hn : pc + 3 = n) (fl : FL own idx c j) (hi : i < nw) (hE : E i = .inr (c, fs)) (hv : fs[j]? = some v) (kk : CR g R own cc nL ret kc ks Z n tl (v :: st) nw E) : CR g R own cc nL ret kc ks Z pc tl (.ref (n0 g + i) :: st) nw E := by
  subst hn
  intro p e s m args below meth c' H locs ls C hP hz hS hl
  obtain ⟨C0, T, N, h1, h2, h3, h4⟩ := fl
  obtain ⟨o1, o2, o3, o4, o5⟩ := clsOK c C0 T N h1
  have he := WE_at (n0 g) E hi
  rw [hE] at he
  exact va_get C.1.1 C.1.2.1 C.1.2.2.2.2.2.2.1 o1 C.1.2.2.2.2.2.1 C.1.2.2.2.2.2.2.2.1 hP i he h1 j h2 (C.1.2.2.2.2.2.2.1 _ h3) (fun x hx => by rw [h4] at hx; exact hx) hv hd (kk p e s m args below meth c' H locs ls C hP hz hS hl)
theorem r_put {idx c j i : Nat} {fs : List Value} {v : Value} {ty : FieldType} (n : Nat) (hd : decode cc pc = .ok (.putfield idx, 3)) (hn : pc + 3 = n) (fl : FL own idx c j) (hco : ∃ (T : u_T) (N : Nat), vwCl[c]? = some (own, T, N) ∧ parseFieldDescriptor (T j).2.2.1 = some ty) (hi : i < nw) (hE : E i = .inr (c, fs)) (hlf : j < fs.length) (hw : narrow ty v = v) (hfit : fits ty v = true) (ho : own ≠ RL ∧ own ≠ RJ7) (kk : CR g R own cc nL ret kc ks Z n tl st nw (upE E i (.inr (c, fs.set j v)))) : CR g R own cc nL ret kc ks Z pc tl (v :: .ref (n0 g + i) :: st) nw E := by
  subst hn
  intro p e s m args below meth c' H locs ls C hP hz hS hl
  obtain ⟨C0, T, N, h1, h2, h3, h4⟩ := fl
  obtain ⟨T1, N1, g1, g3⟩ := hco
  cases h1.symm.trans g1
  obtain ⟨o1, ⟨ty0, o2⟩, o3, o4, o5⟩ := clsOK c own T N h1
  have he := WE_at (n0 g) E hi
  rw [hE] at he
  have hA : ∀ q, n0 g ≤ q → gA g q := fun q hq => (C.2.1.2.2.2 q).mpr hq
  have go : ∀ (H1 : Heap) (locs1 : List Loc), va_P (gD g) vwCl ((WE (n0 g) E nw).set i (n0 g + i, .inr (c, fs.set j v))) H1 → va_S (gA g) s.heap H1 locs1 → W p (gl g) e R s m args below meth c' H1 locs1 kc ks (Z below args s) (F0 m (pc + 3) ls st) := fun H1 locs1 hP1 hS1 => by
    rw [WE_set _ _ _ hi] at hP1
    exact W_sz (WE_lo hP1 (by omega)) (by omega) (fun hsz => kk p e s m args below meth c' H1 locs1 ls C hP1 ⟨hsz, hz.2⟩ hS1 hl)
  cases hfl : (T j).2.2.2 with
  | false => exact va_put C.1.1 C.1.2.1 C.1.2.2.2.2.2.2.1 o1 ty0 o2 o3 C.1.2.2.2.2.2.1 C.1.2.2.2.2.2.2.2.1 hP (WE_D hA E nw) hS i he h1 j h2 (C.1.2.2.2.2.2.2.1 _ h3) (fun x hx => by rw [h4] at hx; exact hx) hfl g3 hw hfit hlf hd (fun H1 locs1 hP1 _ hS1 => go H1 locs1 hP1 hS1)
  | true => exact va_putF C.1.1 C.1.2.1 C.1.2.2.2.2.2.2.1 o1 ty0 o2 o3 C.1.2.2.2.2.2.1 C.1.2.2.2.2.2.2.2.1 hP (WE_D hA E nw) hS i he h1 j h2 (C.1.2.2.2.2.2.2.1 _ h3) (fun x hx => by rw [h4] at hx; exact hx) hfl (C.2.2.resolve_left (fun q => q.elim ho.1 ho.2)) h4 g3 hw hfit hlf hd (fun H1 locs1 hP1 _ hS1 => go H1 locs1 hP1 hS1)
theorem r_newa {L : Nat} {x : Int32} (n : Nat) (hd : decode cc pc = .ok (.newarray .int, 2)) (hn : pc + 2 = n) (hx : x = nI L) (hL : L < 100000) (hR : kc + 1 ≤ R.cells ∧ ks + L ≤ R.slots) (kk : CR g R own cc nL ret (kc + 1) (ks + L) Z n tl (.ref (n0 g + nw) :: st) (nw + 1) (upE E nw (.inl (gc g 0, L, .inl (fun _ => 0))))) : CR g R own cc nL ret kc ks Z pc tl (.int x :: st) nw E := by
  subst hn
  intro p e s m args below meth c' H locs ls C hP hz hS hl
  refine va_newaK (atype := .int) C.1.1 C.1.2.1 (C.1.2.2.2.2.2.2.1 _ ka_int) rfl hd rfl (by rw [hx]; exact nI_pos (by omega)) (by rw [hx]; exact nI_clamp (by omega)) (by show L * 4 ≤ _; omega) hR.1 hR.2 hz.1 (fun H1 cA e1 z1 o1 hAr hNm => ?_)
  have hc : s.vm.findClass ("[" ++ FieldType.int.toString) = some (gc g 0) := (C.1.2.2.2.2.2.2.2.1.2 0 _ rfl).2
  cases hc.symm.trans hNm
  refine kk p e s m args below meth c' H1 locs ls C ?_ ⟨by rw [z1]; omega, by omega⟩ ⟨Nat.le_trans hS.1 (by omega), fun q h1 h2 => (o1 q (by have := hS.1; omega)).trans (hS.2.1 q h1 h2), hS.2.2⟩ hl
  rw [WE_push]
  refine (hP.kept (fun k q hq => o1 q.1 (by have := (hP k q hq).lt; omega))).app (fun k q hq => ?_)
  have hk0 : k < 1 := (List.getElem?_eq_some_iff.mp hq).1
  rw [show k = 0 by omega] at hq
  cases hq
  exact e1
theorem r_new {idx ci : Nat} {C0 : String} {T : u_T} {N : Nat} {fs : List Value} (n : Nat) (hd : decode cc pc = .ok (.new idx, 3)) (hn : pc + 3 = n) (w1 : Cond.classLink own idx C0 ∈ TB) (w2 : Cond.instantiable C0 N ∈ TB) (w3 : Cond.initialized C0 ∈ TB) (hc : vwCl[ci]? = some (C0, T, N)) (hfs : ∀ (ty : Nat → FieldType), (∀ k, k < N → parseFieldDescriptor (T k).2.2.1 = some (ty k)) → ∀ j, j < N → defaultValue (ty j) = vp_V fs j) (hR : kc + 1 ≤ R.cells ∧ ks + N ≤ R.slots) (kk : CR g R own cc nL ret (kc + 1) (ks + N) Z n tl (.ref (n0 g + nw) :: st) (nw + 1) (upE E nw (.inr (ci, fs)))) : CR g R own cc nL ret kc ks Z pc tl st nw E := by
  subst hn
  intro p e s m args below meth c' H locs ls C hP hz hS hl
  obtain ⟨o1, ⟨ty, o2⟩, o3, o4, o5⟩ := clsOK ci C0 T N hc
  have ht : ∀ w ∈ TB, w.before args s = true := C.1.2.2.2.2.2.2.1
  have hKn := C.1.2.2.2.2.2.2.2.1.1 ci _ hc
  refine W.newcK C.1.1 C.1.2.1 C.1.2.2.2.2.2.1 (ht _ w1) (ht _ w2) (ht _ w3) rfl hd hR.1 hR.2 hKn.2.1 hz.1 (fun H1 kC hkC e1 z1 o1' => ?_)
  refine kk p e s m args below meth c' H1 locs ls C ?_ ⟨by rw [z1]; omega, by omega⟩ ⟨Nat.le_trans hS.1 (by omega), fun q h1 h2 => (o1' q (by have := hS.1; omega)).trans (hS.2.1 q h1 h2), hS.2.2⟩ hl
  rw [WE_push]
  refine (hP.kept (fun k q hq => o1' q.1 (by have := (hP k q hq).lt; omega))).app (fun k q hq => ?_)
  have hk0 : k < 1 := (List.getElem?_eq_some_iff.mp hq).1
  rw [show k = 0 by omega] at hq
  cases hq
  exact ⟨_, hc, (u_born ty ht o1 hKn hkC e1 o2).to (hfs ty o2)⟩
theorem r_iast {i L y : Nat} {f : Nat → Int32} {x v : Int32} (n : Nat) (hd : decode cc pc = .ok (.iastore, 1)) (hn : pc + 1 = n) (hi : i < nw) (hE : E i = .inl (gc g 0, L, .inl f)) (hx : x = nI y) (hy : y < L) (hL : L < 100000) (kk : CR g R own cc nL ret kc ks Z n tl st nw (upE E i (.inl (gc g 0, L, .inl (upd f y v))))) : CR g R own cc nL ret kc ks Z pc tl (.int v :: .int x :: .ref (n0 g + i) :: st) nw E := by
  subst hn
  intro p e s m args below meth c' H locs ls C hP hz hS hl
  have he := WE_at (n0 g) E hi
  rw [hE] at he
  have hA : ∀ q, n0 g ≤ q → gA g q := fun q hq => (C.2.1.2.2.2 q).mpr hq
  have hcl : x.toNatClampNeg = y := by rw [hx]; exact nI_clamp (by omega)
  refine va_iast C.1.1 C.1.2.1 C.1.2.2.2.2.2.2.2.1 hP (WE_D hA E nw) hS i 0 he rfl (ix_in hx hy (by omega)) hd (fun H1 locs1 hP1 _ hS1 => ?_)
  rw [hcl, WE_set _ _ _ hi] at hP1
  exact W_sz (WE_lo hP1 (by omega)) (by omega) (fun hsz => kk p e s m args below meth c' H1 locs1 ls C hP1 ⟨hsz, hz.2⟩ hS1 hl)
theorem r_obj {idx : Nat} {a : Nat} (n : Nat) (hd : decode cc pc = .ok (.invokespecial idx, 3)) (hn : pc + 3 = n) (w : Cond.methodLink own idx objectInit ∈ TB) (hR : 1 ≤ R.frames ∧ (st.map fun v => v.category).sum + 12 ≤ R.locals) (kk : CR g R own cc nL ret kc ks Z n tl st nw E) : CR g R own cc nL ret kc ks Z pc tl (.ref a :: st) nw E := by
  subst hn
  intro p e s m args below meth c' H locs ls C hP hz hS hl
  have ht : ∀ w ∈ TB, w.before args s = true := C.1.2.2.2.2.2.2.1
  refine W.objInit C.1.1 C.1.2.1 C.1.2.2.2.2.2.1 (ht _ w) (ht _ ko_n) (ht _ ko_c) rfl (by show ls.size = _; rw [hl.1]; exact C.1.2.2.1.symm) rfl hd hR.1 (by show 2 * 0 + _ + 12 ≤ _; omega) ?_
  exact kk p e s m args below meth c' H locs ls C hP hz hS hl
theorem r_vret {P : Nat → Prop} {Qc : Array Value → State → Outcome → State → Prop} {mc ms : Nat} (hd : decode cc pc = .ok (.return_, 1)) (hmc : kc = mc ∧ ks = ms) (h : ∀ (args : Array Value) (s t : State), va_P (gD g) vwCl (WE (n0 g) E nw) t.heap → t.heap.size = n0 g + nw → va_F (gA g) s t → Qc args s (.returned none) t) : CR g R own cc nL none kc ks (fun below args s => MQ below Qc args s mc ms (gA g)) pc tl [] nw E := by
  obtain ⟨rfl, rfl⟩ := hmc
  intro p e s m args below meth c' H locs ls C hP hz hS hl
  exact W.vret C.1.1 C.1.2.1 C.1.2.2.2.1 (fun t ht _ => h args s t (by rw [ht]; exact hP) (by rw [ht]; exact hz.1) (hS.F ht)) hS.2.2 hd C.1.2.2.2.2.1
end CRH
