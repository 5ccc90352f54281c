/-! THE LOGIC, calls -/
theorem goodTB {y : MethodName} {cc : ByteArray} {nL : Nat} {ret : Option FieldType} (h : Cond.code y cc nL ret ∈ TB) : GoodIn TB (.code y cc nL ret :: TB) := fun w hw => by
  have hm : w ∈ TB := (List.mem_cons.mp hw).elim (fun e => e ▸ h) id
  exact ⟨hm, good_of_word (TB_good hm)⟩
/-- a call's words: the link, the method, its code; n parameters -/
def CW (own : String) (idx : Nat) (y : MethodName) (cc : ByteArray) (nL : Nat) (ret : Option FieldType) (n : Nat) : Prop :=
  Cond.methodLink own idx y ∈ TB ∧ Cond.initialized y.cls ∈ TB ∧ Cond.code y cc nL ret ∈ TB ∧ (y.cls ≠ "java/lang/invoke/MethodHandle" ∧ y.cls ≠ "java/lang/invoke/VarHandle" ∧ (parseMethodDescriptor y.desc).map (fun d => d.parameters.length) = some n)
def CNW (y : MethodName) (cc : ByteArray) (nL : Nat) (ret : Option FieldType) (n : Nat) : Prop :=
  Cond.initialized y.cls ∈ TB ∧ Cond.code y cc nL ret ∈ TB ∧ (y.cls ≠ "java/lang/invoke/MethodHandle" ∧ y.cls ≠ "java/lang/invoke/VarHandle" ∧ (parseMethodDescriptor y.desc).map (fun d => d.parameters.length) = some n)
def CWV (own : String) (idx c : Nat) (y : MethodName) (cc : ByteArray) (nL : Nat) (ret : Option FieldType) (n : Nat) : Prop :=
  CW own idx y cc nL ret n ∧ Cond.instanceMethod y ∈ TB ∧ Cond.selects y.cls y y ∈ TB ∧ ∃ (T : u_T) (N : Nat), vwCl[c]? = some (y.cls, T, N)
def CWS (own : String) (idx : Nat) (y : MethodName) (cc : ByteArray) (nL : Nat) (ret : Option FieldType) (n : Nat) : Prop :=
  CW own idx y cc nL ret n ∧ Cond.static y ∈ TB
theorem Pcn_blind {g : GT} {M : TM} {av : List Value} : FrameBlind (Pcn g M av) := fun a U gf mk q => by
  obtain ⟨q0, q1, q2⟩ := q
  exact ⟨q0, q1, q2.moved (U := U.calling gf mk a) (State.WarmedH.refl U) (fun _ _ _ => rfl)⟩
theorem Pcn_at {g : GT} {M : TM} {av : List Value} {s U : State} {H : Heap} {locs : List Loc} (hE : Ev g s) (hP : va_P (gD g) vwCl (WS g M) H) (hS : va_S (gA g) s.heap H locs) (hU : U.heap = H) (hW : s.WarmedH U.vm) : Pcn g M av av.toArray U :=
  ⟨rfl, by rw [hU]; exact hP, hE.moved hW (fun a h1 h2 => by rw [hU]; exact hS.2.1 a h1 h2)⟩
section TRK
variable {g : GT} {R : Room} {own : String} {cc : ByteArray} {nL : Nat} {ret : Option FieldType} {kc ks : Nat} {Z : List Frame → Array Value → State → State → Prop} {pc : Nat} {tl : List (Option Value)} {st rest : List Value} {M : TM}
variable {y : MethodName} {cc' : ByteArray} {nL' : Nat} {ret' : Option FieldType} {d idx N : Nat} {P : Option Value → TM → Prop} {As : List Value}
/-- what goes on behind a call -/
theorem q_back {p : Program} {e : Env} {s : State} {m : MethodId} {args : Array Value} {below : List Frame} {meth : Method} {c : Code} {H : Heap} {locs : List Loc} {ls : Array Slot} {a : Array Value}
    (hr : va_Run p (gl g) e R s m args below meth c H locs kc ks 0 0 (F0 m pc ls st) rest (Qcn g P a) (gA g)) (C : TC g own cc nL ret p s m args meth c) (hS : va_S (gA g) s.heap H locs) (hl : LF ls nL tl)
    (kk : ∀ (r : Option Value) (M' : TM), P r M' → TR g R own cc nL ret kc ks Z (pc + 3) tl (r.toList ++ rest) M') : W p (gl g) e R s m args below meth c H locs kc ks (Z below args s) (F0 m pc ls st) := by
  intro T hT X
  obtain ⟨v, st₀, t, T', L, h0, X', hL, e1, e2, ⟨r, M', hv, hp, hb, hz, hk⟩, stp⟩ := hr T hT X
  cases hv
  rw [h0] at hz hk
  have hS1 : va_S (gA g) s.heap T'.heap (locs ++ L) := ⟨Nat.le_trans hS.1 (by rw [e1]; exact hz), fun q h1 h2 => by rw [e1, hk q (Nat.lt_of_lt_of_le h1 hS.1) h2]; exact hS.2.1 q h1 h2, fun q hq => by
      rcases List.mem_append.mp hq with h | h
      · exact hS.2.2 q h
      · exact hL q h⟩
  obtain ⟨t2, a1, b1⟩ := kk v M' hp p e s m args below meth c T'.heap (locs ++ L) ls C (by rw [e1]; exact hb) hS1 hl T' rfl X'
  exact ⟨t2, stp t2 a1, b1⟩
theorem q_callV {t k : Nat} (n : Nat) (hd : decode cc pc = .ok (.invokevirtual idx, 3)) (hn : pc + 3 = n) (hC : Cn g y cc' nL' ret' d (.ref (gad g t k) :: As) M P) (cw : CWV own idx t y cc' nL' ret' N) (hk : k < cnt t) (hN : As.length = N) (hst : st = As.reverse ++ .ref (gad g t k) :: rest) (hroom : d + 1 ≤ R.frames ∧ 8 + (nL' + 11) + 40 * d ≤ R.locals) (hcs : kc ≤ R.cells ∧ ks ≤ R.slots) (hr : (rest.map fun v => v.category).sum ≤ 8)
    (kk : ∀ (r : Option Value) (M' : TM), P r M' → TR g R own cc nL ret kc ks Z n tl (r.toList ++ rest) M') : TR g R own cc nL ret kc ks Z pc tl st M := by
  subst hn
  intro p e s m args below meth c H locs ls C hP hS hl
  obtain ⟨⟨w1, w2, w3, w4⟩, w5, w6, T, NN, w7⟩ := cw
  have ht : ∀ w ∈ TB, w.before args s = true := C.2.2.2.2.2.2.1
  obtain ⟨q, hq⟩ := wcells_at hk
  have he := WS_at g M hq
  obtain ⟨o1, o2, o3, o4, o5⟩ := clsOK t _ T NN w7
  rw [cellE_obj g M o5] at he
  refine q_back (va_runV (As := As) (rest := rest) ⟨C.1, C.2.1, C.2.2.1, C.2.2.2.2.2.1, ht⟩ hC ⟨callB_of N ht (goodTB w3) rfl rfl rfl (ht _ w2) (ht _ w1) w4 ⟨hroom.1, hroom.2⟩, ht _ w5, ht _ w6⟩ ⟨Pcn_blind, va_recv C.2.2.2.2.2.2.2.1 hP w7 he, fun U hU hW => Pcn_at C.2.2.2.2.2.2.2 hP hS hU hW⟩ rfl hN hl.1 hst (lv_room hr) hd ⟨by simpa using hcs.1, by simpa using hcs.2⟩) C hS hl kk
theorem q_callS (n : Nat) (hd : decode cc pc = .ok (.invokestatic idx, 3)) (hn : pc + 3 = n) (hC : Cn g y cc' nL' ret' d As M P) (cw : CWS own idx y cc' nL' ret' N) (hN : As.length = N) (hst : st = As.reverse ++ rest) (hroom : d + 1 ≤ R.frames ∧ 8 + (nL' + 11) + 40 * d ≤ R.locals) (hcs : kc ≤ R.cells ∧ ks ≤ R.slots) (hr : (rest.map fun v => v.category).sum ≤ 8)
    (kk : ∀ (r : Option Value) (M' : TM), P r M' → TR g R own cc nL ret kc ks Z n tl (r.toList ++ rest) M') : TR g R own cc nL ret kc ks Z pc tl st M := by
  subst hn
  intro p e s m args below meth c H locs ls C hP hS hl
  obtain ⟨⟨w1, w2, w3, w4⟩, w5⟩ := cw
  have ht : ∀ w ∈ TB, w.before args s = true := C.2.2.2.2.2.2.1
  refine q_back (va_runS (As := As) (rest := rest) ⟨C.1, C.2.1, C.2.2.1, C.2.2.2.2.2.1, ht⟩ hC ⟨callB_of N ht (goodTB w3) rfl rfl rfl (ht _ w2) (ht _ w1) w4 ⟨hroom.1, hroom.2⟩, ht _ w5⟩ ⟨Pcn_blind, fun U hU hW => Pcn_at C.2.2.2.2.2.2.2 hP hS hU hW⟩ rfl hN hl.1 hst (lv_room hr) hd ⟨by simpa using hcs.1, by simpa using hcs.2⟩) C hS hl kk
/-- a nest mate's static method -/
theorem q_callN (n : Nat) (hd : decode cc pc = .ok (.invokestatic idx, 3)) (hn : pc + 3 = n) (hC : Cn g y cc' nL' ret' d As M P) (cw : CNW y cc' nL' ret' N) (cs : Cond.static y ∈ TB) (hm : (own, idx, y) ∈ nestM) (hN : As.length = N) (hst : st = As.reverse ++ rest) (hroom : d + 1 ≤ R.frames ∧ 8 + (nL' + 11) + 40 * d ≤ R.locals) (hcs : kc ≤ R.cells ∧ ks ≤ R.slots) (hr : (rest.map fun v => v.category).sum ≤ 8)
    (kk : ∀ (r : Option Value) (M' : TM), P r M' → TR g R own cc nL ret kc ks Z n tl (r.toList ++ rest) M') : TR g R own cc nL ret kc ks Z pc tl st M := by
  subst hn
  intro p e s m args below meth c H locs ls C hP hS hl
  obtain ⟨w2, w3, w4⟩ := cw
  have ht : ∀ w ∈ TB, w.before args s = true := C.2.2.2.2.2.2.1
  have hnest := C.2.2.2.2.2.2.2.2.2.2.2.2.2.2.2.2 _ hm
  refine q_back (va_runSN (As := As) (rest := rest) ⟨C.1, C.2.1, C.2.2.1, C.2.2.2.2.2.1, ht⟩ hC ⟨va_cnB N ht (goodTB w3) rfl rfl rfl hnest (ht _ w2) w4 ⟨hroom.1, hroom.2⟩, ht _ cs, trivial⟩ ⟨Pcn_blind, fun U hU hW => Pcn_at C.2.2.2.2.2.2.2 hP hS hU hW⟩ rfl hN hl.1 hst (lv_room hr) hd ⟨by simpa using hcs.1, by simpa using hcs.2⟩) C hS hl kk
/-- System.arraycopy of rows of ints -/
theorem q_acopy {t k t2 k2 i j c : Nat} {x z w : Int32} (n : Nat) (hd : decode cc pc = .ok (.invokestatic idx, 3)) (hn : pc + 3 = n) (w1 : Cond.methodLink own idx arraycopyName ∈ TB) (w2 : Cond.native arraycopyName ∈ TB ∧ Cond.static arraycopyName ∈ TB ∧ Cond.initialized "java/lang/System" ∈ TB) (ht : 9 < t) (ht2 : 9 < t2) (hk : k < cnt t) (hk2 : k2 < cnt t2) (hx : x = nI i) (hz : z = nI j) (hw : w = nI c) (h1 : i + c ≤ len t) (h2 : j + c ≤ len t2) (hR : 1 ≤ R.frames ∧ (st.map fun v => v.category).sum + (nativeFrameWords "java/lang/System" "arraycopy" 5 + 11) ≤ R.locals)
    (kk : TR g R own cc nL ret kc ks Z n tl st (putA M t2 k2 (va_cpy (M t k) (M t2 k2) i j c))) : TR g R own cc nL ret kc ks Z pc tl (.int w :: .int z :: .ref (gad g t2 k2) :: .int x :: .ref (gad g t k) :: st) M := by
  subst hn
  intro p e s m args below meth c' H locs ls C hP hS hl
  have hts : ∀ w ∈ TB, w.before args s = true := C.2.2.2.2.2.2.1
  obtain ⟨q, hq⟩ := wcells_at hk
  have he := WS_at g M hq
  rw [cellE_arr g M ht] at he
  obtain ⟨q2, hq2⟩ := wcells_at hk2
  have he2 := WS_at g M hq2
  rw [cellE_arr g M ht2] at he2
  have l1 := len_lt t
  have l2 := len_lt t2
  have ei : x.toNatClampNeg = i := by rw [hx, nI_clamp (by omega)]
  have ej : z.toNatClampNeg = j := by rw [hz, nI_clamp (by omega)]
  have ec : w.toNatClampNeg = c := by rw [hw, nI_clamp (by omega)]
  refine va_copyi C.1 C.2.1 (C.2.2.1.trans hl.1.symm) C.2.2.2.2.2.1 (hts _ w1) (hts _ w2.1) (hts _ w2.2.1) (hts _ w2.2.2) C.2.2.2.2.2.2.2.1 hP (C.2.2.2.2.2.2.2.2.1 M) hS q q2 0 0 he he2 rfl rfl rfl (by rw [hx]; exact nI_pos (by omega)) (by rw [hz]; exact nI_pos (by omega)) (by rw [hw]; exact nI_pos (by omega)) (by rw [ei, ec]; exact h1) (by rw [ej, ec]; exact h2) (fun _ _ => rfl) hR.1 hR.2 hd (fun H1 locs1 hP1 hD1 hS1 => ?_)
  rw [ei, ej, ec] at hP1
  have hset := WS_set g (M := M) (M' := putA M t2 k2 (va_cpy (M t k) (M t2 k2) i j c)) hq2 (fun a b hab => cellE_put g M _ hab)
  rw [cellE_arr g _ ht2, putA_s] at hset
  rw [hset] at hP1
  exact kk p e s m args below meth c' H1 locs1 ls C hP1 hS1 hl
end TRK
/-- an answer and what is behind it, both told -/
def Rt (v : Value) (M1 : TM) : Option Value → TM → Prop := fun r M' => r = some v ∧ M' = M1
def Rv (M1 : TM) : Option Value → TM → Prop := fun r M' => r = none ∧ M' = M1
theorem Rt.k {v : Value} {M1 : TM} {rest : List Value} {K : List Value → TM → Prop} (h : K (v :: rest) M1) : ∀ (r : Option Value) (M' : TM), Rt v M1 r M' → K (r.toList ++ rest) M' := by
  rintro _ _ ⟨rfl, rfl⟩; exact h
theorem Rv.k {M1 : TM} {rest : List Value} {K : List Value → TM → Prop} (h : K rest M1) : ∀ (r : Option Value) (M' : TM), Rv M1 r M' → K (r.toList ++ rest) M' := by
  rintro _ _ ⟨rfl, rfl⟩; exact h
section TRK2
variable {g : GT} {R : Room} {own : String} {cc : ByteArray} {nL : Nat} {ret : Option FieldType} {kc ks : Nat} {Z : List Frame → Array Value → State → State → Prop} {pc : Nat} {tl : List (Option Value)} {st rest : List Value} {M M1 : TM} {v : Value}
variable {y : MethodName} {cc' : ByteArray} {nL' : Nat} {ret' : Option FieldType} {d idx N : Nat} {As : List Value}
theorem q_callVt {t k : Nat} (n : Nat) (hd : decode cc pc = .ok (.invokevirtual idx, 3)) (hn : pc + 3 = n) (hC : Cn g y cc' nL' ret' d (.ref (gad g t k) :: As) M (Rt v M1)) (cw : CWV own idx t y cc' nL' ret' N) (hk : k < cnt t) (hN : As.length = N) (hst : st = As.reverse ++ .ref (gad g t k) :: rest) (hroom : d + 1 ≤ R.frames ∧ 8 + (nL' + 11) + 40 * d ≤ R.locals) (hcs : kc ≤ R.cells ∧ ks ≤ R.slots) (hr : (rest.map fun v => v.category).sum ≤ 8) (kk : TR g R own cc nL ret kc ks Z n tl (v :: rest) M1) : TR g R own cc nL ret kc ks Z pc tl st M :=
  q_callV n hd hn hC cw hk hN hst hroom hcs hr (by rintro _ _ ⟨rfl, rfl⟩; exact kk)
theorem q_callVv {t k : Nat} (n : Nat) (hd : decode cc pc = .ok (.invokevirtual idx, 3)) (hn : pc + 3 = n) (hC : Cn g y cc' nL' ret' d (.ref (gad g t k) :: As) M (Rv M1)) (cw : CWV own idx t y cc' nL' ret' N) (hk : k < cnt t) (hN : As.length = N) (hst : st = As.reverse ++ .ref (gad g t k) :: rest) (hroom : d + 1 ≤ R.frames ∧ 8 + (nL' + 11) + 40 * d ≤ R.locals) (hcs : kc ≤ R.cells ∧ ks ≤ R.slots) (hr : (rest.map fun v => v.category).sum ≤ 8) (kk : TR g R own cc nL ret kc ks Z n tl rest M1) : TR g R own cc nL ret kc ks Z pc tl st M :=
  q_callV n hd hn hC cw hk hN hst hroom hcs hr (by rintro _ _ ⟨rfl, rfl⟩; exact kk)
theorem q_callSt (n : Nat) (hd : decode cc pc = .ok (.invokestatic idx, 3)) (hn : pc + 3 = n) (hC : Cn g y cc' nL' ret' d As M (Rt v M1)) (cw : CWS own idx y cc' nL' ret' N) (hN : As.length = N) (hst : st = As.reverse ++ rest) (hroom : d + 1 ≤ R.frames ∧ 8 + (nL' + 11) + 40 * d ≤ R.locals) (hcs : kc ≤ R.cells ∧ ks ≤ R.slots) (hr : (rest.map fun v => v.category).sum ≤ 8) (kk : TR g R own cc nL ret kc ks Z n tl (v :: rest) M1) : TR g R own cc nL ret kc ks Z pc tl st M :=
  q_callS n hd hn hC cw hN hst hroom hcs hr (by rintro _ _ ⟨rfl, rfl⟩; exact kk)
theorem q_callSv (n : Nat) (hd : decode cc pc = .ok (.invokestatic idx, 3)) (hn : pc + 3 = n) (hC : Cn g y cc' nL' ret' d As M (Rv M1)) (cw : CWS own idx y cc' nL' ret' N) (hN : As.length = N) (hst : st = As.reverse ++ rest) (hroom : d + 1 ≤ R.frames ∧ 8 + (nL' + 11) + 40 * d ≤ R.locals) (hcs : kc ≤ R.cells ∧ ks ≤ R.slots) (hr : (rest.map fun v => v.category).sum ≤ 8) (kk : TR g R own cc nL ret kc ks Z n tl rest M1) : TR g R own cc nL ret kc ks Z pc tl st M :=
  q_callS n hd hn hC cw hN hst hroom hcs hr (by rintro _ _ ⟨rfl, rfl⟩; exact kk)
theorem q_callNt (n : Nat) (hd : decode cc pc = .ok (.invokestatic idx, 3)) (hn : pc + 3 = n) (hC : Cn g y cc' nL' ret' d As M (Rt v M1)) (cw : CNW y cc' nL' ret' N) (cs : Cond.static y ∈ TB) (hm : (own, idx, y) ∈ nestM) (hN : As.length = N) (hst : st = As.reverse ++ rest) (hroom : d + 1 ≤ R.frames ∧ 8 + (nL' + 11) + 40 * d ≤ R.locals) (hcs : kc ≤ R.cells ∧ ks ≤ R.slots) (hr : (rest.map fun v => v.category).sum ≤ 8) (kk : TR g R own cc nL ret kc ks Z n tl (v :: rest) M1) : TR g R own cc nL ret kc ks Z pc tl st M :=
  q_callN n hd hn hC cw cs hm hN hst hroom hcs hr (by rintro _ _ ⟨rfl, rfl⟩; exact kk)
end TRK2
/-- 1 or 0 -/
def bI (p : Prop) [Decidable p] : Int32 := if p then 1 else 0
theorem bI_0 {p : Prop} [Decidable p] : bI p = 0 ↔ ¬ p := by unfold bI; split <;> simp_all
theorem bI_1 {p : Prop} [Decidable p] : bI p = 1 ↔ p := by unfold bI; split <;> simp_all
theorem bI_n {p : Prop} [Decidable p] : narrow .boolean (.int (bI p)) = .int (bI p) := by unfold bI; split <;> rfl
theorem bI_t {p : Prop} [Decidable p] (h : p) : bI p = 1 := if_pos h
theorem bI_f {p : Prop} [Decidable p] (h : ¬ p) : bI p = 0 := if_neg h
theorem bI_c {p q : Prop} [Decidable p] [Decidable q] (h : p ↔ q) : bI p = bI q := by unfold bI; by_cases hp : p <;> simp [hp, h.symm]
