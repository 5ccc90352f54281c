/-! CONSTRUCTORS: java/util/Arrays.fill, and the cells that one constructor makes -/
theorem upE_pp (E : Nat → va_E) (i : Nat) (v w : va_E) : upE (upE E i v) i w = upE E i w := by
  funext j; unfold upE; split <;> rfl
theorem upE_id (E : Nat → va_E) (i : Nat) : upE E i (E i) = E := by
  funext j; unfold upE; split
  · next h => rw [h]
  · rfl
theorem r_fg {g : GT} {R : Room} {own : String} {cc : ByteArray} {nL : Nat} {ret : Option FieldType} {kc ks : Nat} {Z : List Frame → Array Value → State → State → Prop} {pc : Nat} {tl : List (Option Value)} {st : List Value} {nw : Nat} {E : Nat → va_E} {tl' : List (Option Value)} (k : CR g R own cc nL ret kc ks Z pc tl' st nw E) (h : lsub tl' tl) : CR g R own cc nL ret kc ks Z pc tl st nw E := r_fgt h k
theorem lE_fill {g : GT} (d n a Len : Nat) (v : Int32) (f : Nat → Int32) (E : Nat → va_E) (ha : a < n) (hL : Len < 1000) : ∀ (j : Nat) (i : Nat) (y : Int32), Len - i < j → i ≤ Len → y = nI i → CR g (rmC d 0 0) RJ7 cJ7_fill_53178 4 none 0 0 (fun below args s => MQ below (Qci g n (upE E a (.inl (gc g 0, Len, .inl (mixF (fun _ => v) f Len))))) args s 0 0 (gA g)) 5 [some (.ref (n0 g + a)), some (.int v), some (.int y), some (.int (nI Len))] [] n (upE E a (.inl (gc g 0, Len, .inl (mixF (fun _ => v) f i)))) := by
  intro j
  induction j with
  | zero => intro i y hj hi hy; exact absurd hj (by omega)
  | succ j ih =>
    intro i y hj hi hy
    subst hy
    refine r_iload_n 6 dJ7_fill_53178_5 rfl rfl ?_
    refine r_iload_n 7 dJ7_fill_53178_6 rfl rfl ?_
    refine r_icmp_ge 20 10 dJ7_fill_53178_7 rfl rfl (fun h_7 => ?_) (fun h_7 => ?_)
    · rw [nI_leI (by omega) (by omega)] at h_7
      rw [show i = Len by omega]
      exact r_vret (P := fun _ => True) dJ7_fill_53178_20 ⟨rfl, rfl⟩ (fun args s t hp hz hF => ⟨rfl, hp, hz, hF⟩)
    · rw [nI_leI (by omega) (by omega)] at h_7
      refine r_aload_n 11 dJ7_fill_53178_10 rfl rfl ?_
      refine r_iload_n 12 dJ7_fill_53178_11 rfl rfl ?_
      refine r_iload_n 13 dJ7_fill_53178_12 rfl rfl ?_
      refine r_iast 14 dJ7_fill_53178_13 rfl ha (upE_s _ _ _) rfl (show i < Len by omega) (by omega) ?_
      refine r_iinc 17 dJ7_fill_53178_14 rfl rfl (by decide) rfl (nI_1 i) ?_
      refine r_goto 5 dJ7_fill_53178_17 rfl ?_
      refine r_eqE (E' := upE E a (.inl (gc g 0, Len, .inl (mixF (fun _ => v) f (i + 1))))) (by rw [upE_pp, ← mixF_s]) (r_fg (ih (i + 1) _ (by omega) (by omega) rfl) ⟨rfl, rfl, rfl, rfl, trivial⟩)
theorem cE_fill {g : GT} (d n a Len : Nat) (v : Int32) (f : Nat → Int32) (E : Nat → va_E) (ha : a < n) (hL : Len < 1000) (hE : E a = .inl (gc g 0, Len, .inl f)) : Ci g yJ7_fill_53178 cJ7_fill_53178 4 d 0 0 [.ref (n0 g + a), .int v] n E n (upE E a (.inl (gc g 0, Len, .inl (mixF (fun _ => v) f Len)))) := by
  refine Ci.of (by decide +kernel) (Or.inl rfl) (Nat.le_of_ble_eq_true rfl) ?_
  refine r_iconst (v := 0) 1 dJ7_fill_53178_0 rfl rfl ?_
  refine r_istore_n 2 dJ7_fill_53178_1 rfl (by decide) rfl ?_
  refine r_aload_n 3 dJ7_fill_53178_2 rfl rfl ?_
  refine r_alen 4 dJ7_fill_53178_3 rfl ha hE ?_
  refine r_istore_n 5 dJ7_fill_53178_4 rfl (by decide) rfl ?_
  exact r_eqE (show E = upE E a (.inl (gc g 0, Len, .inl (mixF (fun _ => v) f 0))) by rw [mixF_0, ← hE, upE_id]) (r_fg (lE_fill d n a Len v f E ha hL (Len + 1) 0 0 (by omega) (by omega) rfl) ⟨rfl, rfl, rfl, rfl, trivial⟩)
/-- the cells that a constructor makes behind n, and its own object at i -/
def zE : va_E := .inr (0, [])
def AP (E : Nat → va_E) (i : Nat) (o : va_E) (n : Nat) (L : List va_E) : Nat → va_E := fun j => if j = i then o else if j < n then E j else L.getD (j - n) zE
theorem AP_i (E : Nat → va_E) (i : Nat) (o : va_E) (n : Nat) (L : List va_E) : AP E i o n L i = o := if_pos rfl
theorem AP_k {E : Nat → va_E} {i : Nat} {o : va_E} {n : Nat} {L : List va_E} {k m : Nat} {v : va_E} (hi : i < n) (hm : m = n + k) (h : L[k]? = some v) : AP E i o n L m = v := by
  unfold AP; rw [if_neg (by omega), if_neg (by omega), List.getD_eq_getElem?_getD, show m - n = k by omega, h]; rfl
theorem AP_own (E : Nat → va_E) (i : Nat) (o o' : va_E) (n : Nat) (L : List va_E) : upE (AP E i o n L) i o' = AP E i o' n L := by
  funext j; unfold upE AP
  by_cases h : j = i
  · rw [if_pos h, if_pos h]
  · rw [if_neg h, if_neg h, if_neg h]
theorem AP_new {E : Nat → va_E} {i : Nat} {o : va_E} {n : Nat} {L : List va_E} {m : Nat} (v : va_E) (hi : i < n) (hm : m = n + L.length) : upE (AP E i o n L) m v = AP E i o n (L ++ [v]) := by
  funext j; unfold upE AP
  by_cases h : j = m
  · rw [if_pos h, if_neg (by omega), if_neg (by omega), List.getD_eq_getElem?_getD, show j - n = L.length by omega, List.getElem?_append_right (Nat.le_refl _), Nat.sub_self]; rfl
  · rw [if_neg h]
    by_cases h1 : j = i
    · rw [if_pos h1, if_pos h1]
    · rw [if_neg h1, if_neg h1]
      by_cases h2 : j < n
      · rw [if_pos h2, if_pos h2]
      · rw [if_neg h2, if_neg h2, List.getD_eq_getElem?_getD, List.getD_eq_getElem?_getD]
        by_cases h3 : j - n < L.length
        · rw [List.getElem?_append_left h3]
        · rw [List.getElem?_eq_none (by omega), List.getElem?_eq_none (by rw [List.length_append]; show L.length + 1 ≤ _; omega)]
theorem AP_set {E : Nat → va_E} {i : Nat} {o : va_E} {n : Nat} {L : List va_E} {k m : Nat} (v : va_E) (hi : i < n) (hm : m = n + k) (hk : k < L.length) : upE (AP E i o n L) m v = AP E i o n (L.set k v) := by
  funext j; unfold upE AP
  by_cases h : j = m
  · rw [if_pos h, if_neg (by omega), if_neg (by omega), List.getD_eq_getElem?_getD, show j - n = k by omega, List.getElem?_set_self hk]; rfl
  · rw [if_neg h]
    by_cases h1 : j = i
    · rw [if_pos h1, if_pos h1]
    · rw [if_neg h1, if_neg h1]
      by_cases h2 : j < n
      · rw [if_pos h2, if_pos h2]
      · rw [if_neg h2, if_neg h2, List.getD_eq_getElem?_getD, List.getD_eq_getElem?_getD, List.getElem?_set_ne (by omega)]
/-- another constructor's cells, behind this one's -/
theorem AP_sub {E : Nat → va_E} {i : Nat} {o o1 : va_E} {n : Nat} {L : List va_E} {k m m1 : Nat} (L1 : List va_E) (hi : i < n) (hm : m = n + k) (hk : k < L.length) (hm1 : m1 = n + L.length) : AP (AP E i o n L) m o1 m1 L1 = AP E i o n (L.set k o1 ++ L1) := by
  rw [← AP_own (AP E i o n L) m zE o1 m1 L1]
  have q : AP (AP E i o n L) m zE m1 L1 = upE (AP E i o n (L ++ L1)) m zE := by
    funext j; unfold upE
    by_cases h : j = m
    · rw [if_pos h, h, AP_i]
    · rw [if_neg h]
      show (if j = m then zE else if j < m1 then AP E i o n L j else L1.getD (j - m1) zE) = _
      rw [if_neg h]
      unfold AP
      by_cases h1 : j = i
      · rw [if_pos (by omega), if_pos h1, if_pos h1]
      · by_cases h2 : j < n
        · rw [if_pos (by omega), if_neg h1, if_pos h2, if_neg h1, if_pos h2]
        · rw [if_neg h1, if_neg h2, if_neg h1, if_neg h2, List.getD_eq_getElem?_getD, List.getD_eq_getElem?_getD, List.getD_eq_getElem?_getD]
          by_cases h3 : j < m1
          · rw [if_pos h3, List.getElem?_append_left (by omega)]
          · rw [if_neg h3, List.getElem?_append_right (by omega), show j - n - L.length = j - m1 by omega]
  rw [q, upE_pp, AP_set o1 hi hm (by rw [List.length_append]; omega), List.set_append_left _ _ hk]
theorem AP_mn {E : Nat → va_E} {i : Nat} {o : va_E} {n N : Nat} {L : List va_E} {m : Nat} (v w : va_E) (hi : i < n) (hm : m = n + L.length) : mnE (AP E i o n L) m N v w = AP E i o n (L ++ (v :: List.replicate N w)) := by
  funext j; unfold mnE AP
  by_cases h : j = m
  · rw [if_pos h, if_neg (by omega), if_neg (by omega), List.getD_eq_getElem?_getD, show j - n = L.length by omega, List.getElem?_append_right (Nat.le_refl _), Nat.sub_self]; rfl
  · rw [if_neg h]
    by_cases h0 : m < j ∧ j ≤ m + N
    · rw [if_pos h0, if_neg (by omega), if_neg (by omega), List.getD_eq_getElem?_getD, List.getElem?_append_right (by omega), show j - n - L.length = (j - m - 1) + 1 by omega, List.getElem?_cons_succ, List.getElem?_replicate, if_pos (by omega)]; rfl
    · rw [if_neg h0]
      by_cases h1 : j = i
      · rw [if_pos h1, if_pos h1]
      · rw [if_neg h1, if_neg h1]
        by_cases h2 : j < n
        · rw [if_pos h2, if_pos h2]
        · rw [if_neg h2, if_neg h2, List.getD_eq_getElem?_getD, List.getD_eq_getElem?_getD]
          by_cases h3 : j - n < L.length
          · rw [List.getElem?_append_left h3]
          · rw [List.getElem?_eq_none (by omega), List.getElem?_eq_none (by rw [List.length_append, List.length_cons, List.length_replicate]; omega)]
def dfv (c j : Nat) : Value := match fldOf c j with
  | some _ => .null
  | none => if c = 0 ∧ j = 4 then .null else .int 0
def dfs (c : Nat) : List Value := (List.range (nF c)).map (dfv c)
section CRA
variable {g : GT} {R : Room} {own : String} {cc : ByteArray} {nL : Nat} {ret : Option FieldType} {kc ks : Nat} {Z : List Frame → Array Value → State → State → Prop} {pc : Nat} {tl : List (Option Value)} {st rest : List Value} {nw : Nat} {E : Nat → va_E} {i n : Nat} {o : va_E} {L : List va_E}
theorem s_get {idx c j : Nat} {fs : List Value} {v : Value} (pn : Nat) (hd : decode cc pc = .ok (.getfield idx, 3)) (hn : pc + 3 = pn) (fl : FL own idx c j) (hi : i < n) (hw : n ≤ nw) (hv : fs[j]? = some v) (kk : CR g R own cc nL ret kc ks Z pn tl (v :: st) nw (AP E i (.inr (c, fs)) n L)) : CR g R own cc nL ret kc ks Z pc tl (.ref (n0 g + i) :: st) nw (AP E i (.inr (c, fs)) n L) :=
  r_get pn hd hn fl (by omega) (AP_i _ _ _ _ _) hv kk
theorem s_put {idx c j : Nat} {fs : List Value} {v : Value} {ty : FieldType} (pn : Nat) (hd : decode cc pc = .ok (.putfield idx, 3)) (hn : pc + 3 = pn) (fl : FL own idx c j) (hco : ∃ (T : u_T) (N : Nat), vwCl[c]? = some (own, T, N) ∧ parseFieldDescriptor (T j).2.2.1 = some ty) (hi : i < n) (hw : n ≤ nw) (hlf : j < fs.length) (hnw : narrow ty v = v) (hfit : fits ty v = true) (ho : own ≠ RL ∧ own ≠ RJ7) (kk : CR g R own cc nL ret kc ks Z pn tl st nw (AP E i (.inr (c, fs.set j v)) n L)) : CR g R own cc nL ret kc ks Z pc tl (v :: .ref (n0 g + i) :: st) nw (AP E i (.inr (c, fs)) n L) :=
  r_put pn hd hn fl hco (by omega) (AP_i _ _ _ _ _) hlf hnw hfit ho (r_eqE (AP_own _ _ _ _ _ _) kk)
theorem s_newa {Len : Nat} {x : Int32} (pn nw' kc' ks' : Nat) (hd : decode cc pc = .ok (.newarray .int, 2)) (hn : pc + 2 = pn) (hi : i < n) (hw : nw = n + L.length) (h' : nw + 1 = nw' ∧ kc + 1 = kc' ∧ ks + Len = ks') (hx : x = nI Len) (hL : Len < 100000) (hR : kc' ≤ R.cells ∧ ks' ≤ R.slots) (kk : CR g R own cc nL ret kc' ks' Z pn tl (.ref (n0 g + nw) :: st) nw' (AP E i o n (L ++ [.inl (gc g 0, Len, .inl (fun _ => 0))]))) : CR g R own cc nL ret kc ks Z pc tl (.int x :: st) nw (AP E i o n L) := by
  obtain ⟨rfl, rfl, rfl⟩ := h'
  exact r_newa pn hd hn hx hL hR (r_eqE (AP_new _ hi hw) kk)
theorem s_new {idx ci : Nat} {C0 : String} {T : u_T} {N : Nat} (pn nw' kc' ks' : Nat) (hd : decode cc pc = .ok (.new idx, 3)) (hn : pc + 3 = pn) (w1 : Cond.classLink own idx C0 ∈ TB) (w2 : Cond.instantiable C0 N ∈ TB) (w3 : Cond.initialized C0 ∈ TB) (hc : vwCl[ci]? = some (C0, T, N)) (hfs : ∀ j, j < N → (parseFieldDescriptor (T j).2.2.1).map defaultValue = some (vp_V (dfs ci) j)) (hi : i < n) (hw : nw = n + L.length) (h' : nw + 1 = nw' ∧ kc + 1 = kc' ∧ ks + N = ks') (hR : kc' ≤ R.cells ∧ ks' ≤ R.slots) (kk : CR g R own cc nL ret kc' ks' Z pn tl (.ref (n0 g + nw) :: st) nw' (AP E i o n (L ++ [.inr (ci, dfs ci)]))) : CR g R own cc nL ret kc ks Z pc tl st nw (AP E i o n L) := by
  obtain ⟨rfl, rfl, rfl⟩ := h'
  refine r_new pn hd hn w1 w2 w3 hc (fun ty h j hj => ?_) hR (r_eqE (AP_new _ hi hw) kk)
  have q := hfs j hj
  rw [h j hj] at q
  exact Option.some.inj q
theorem s_newq {idx t Len : Nat} {C0 : String} {x : Int32} (pn nw' kc' ks' : Nat) (hd : decode cc pc = .ok (.anewarray idx, 3)) (hn : pc + 3 = pn) (w1 : Cond.classLink own idx C0 ∈ TB) (hov : ∀ s, Evi g s → va_AO C0 s) (hty : (gty g)[t]? = some (gc g t, .object C0)) (hi : i < n) (hw : nw = n + L.length) (h' : nw + 1 = nw' ∧ kc + 1 = kc' ∧ ks + Len = ks') (hx : x = nI Len) (hL : Len < 1000) (hR : kc' ≤ R.cells ∧ ks' ≤ R.slots) (kk : CR g R own cc nL ret kc' ks' Z pn tl (.ref (n0 g + nw) :: st) nw' (AP E i o n (L ++ [.inl (gc g t, Len, rfs (fun _ => none))]))) : CR g R own cc nL ret kc ks Z pc tl (.int x :: st) nw (AP E i o n L) := by
  obtain ⟨rfl, rfl, rfl⟩ := h'
  exact r_newq pn hd hn w1 hov hty hx hL hR (r_eqE (AP_new _ hi hw) kk)
theorem s_mna {N K : Nat} {x y : Int32} (pn nw' kc' ks' : Nat) (hd : decode cc pc = .ok (.multianewarray 9 2, 4)) (hn : pc + 4 = pn) (ho : own = RX3) (hi : i < n) (hw : nw = n + L.length) (h' : nw + 1 + N = nw' ∧ kc + 1 + N = kc' ∧ ks + N + N * K = ks') (hx : x = nI N) (hy : y = nI K) (hN : N < 1000) (hK : K < 1000) (hR : kc' ≤ R.cells ∧ ks' ≤ R.slots) (kk : CR g R own cc nL ret kc' ks' Z pn tl (.ref (n0 g + nw) :: st) nw' (AP E i o n (L ++ (.inl (gc g 3, N, rfs (fun q => if q < N then some (n0 g + nw + 1 + q) else none)) :: List.replicate N (.inl (gc g 0, K, .inl (fun _ => 0))))))) : CR g R own cc nL ret kc ks Z pc tl (.int y :: .int x :: st) nw (AP E i o n L) := by
  obtain ⟨rfl, rfl, rfl⟩ := h'
  exact r_mna pn hd hn ho hx hy hN hK ⟨by omega, by omega⟩ (r_eqE (AP_mn _ _ hi hw) kk)
theorem s_iast {k a y Len : Nat} {f : Nat → Int32} {x v : Int32} (pn : Nat) (hd : decode cc pc = .ok (.iastore, 1)) (hn : pc + 1 = pn) (hi : i < n) (hw : nw = n + L.length) (ha : a = n + k) (hk : L[k]? = some (.inl (gc g 0, Len, .inl f))) (hx : x = nI y) (hy : y < Len) (hL : Len < 100000) (kk : CR g R own cc nL ret kc ks Z pn tl st nw (AP E i o n (L.set k (.inl (gc g 0, Len, .inl (upd f y v)))))) : CR g R own cc nL ret kc ks Z pc tl (.int v :: .int x :: .ref (n0 g + a) :: st) nw (AP E i o n L) := by
  have hl : k < L.length := (List.getElem?_eq_some_iff.mp hk).1
  exact r_iast pn hd hn (by omega) (AP_k hi ha hk) hx hy hL (r_eqE (AP_set _ hi ha hl) kk)
theorem s_aast {k k2 a a2 y Len t ci : Nat} {r : vw_C} {f : Nat → Option Nat} {vs : List Value} {x : Int32} (pn : Nat) (hd : decode cc pc = .ok (.aastore, 1)) (hn : pc + 1 = pn) (hi : i < n) (hw : nw = n + L.length) (ha : a = n + k) (hk : L[k]? = some (.inl (gc g t, Len, rfs f))) (hty : (gty g)[t]? = some (gc g t, .object r.1)) (ha2 : a2 = n + k2) (hk2 : L[k2]? = some (.inr (ci, vs))) (hc : vwCl[ci]? = some r) (hx : x = nI y) (hy : y < Len) (hL : Len < 1000) (kk : CR g R own cc nL ret kc ks Z pn tl st nw (AP E i o n (L.set k (.inl (gc g t, Len, rfs (va_up f y (some (n0 g + a2)))))))) : CR g R own cc nL ret kc ks Z pc tl (.ref (n0 g + a2) :: .int x :: .ref (n0 g + a) :: st) nw (AP E i o n L) := by
  have hl : k < L.length := (List.getElem?_eq_some_iff.mp hk).1
  have hl2 : k2 < L.length := (List.getElem?_eq_some_iff.mp hk2).1
  exact r_aast pn hd hn (by omega) (AP_k hi ha hk) hty (by omega) (AP_k hi ha2 hk2) hc hx hy hL (r_eqE (AP_set _ hi ha hl) kk)
theorem s_fill {k a Len d : Nat} {f : Nat → Int32} {v : Int32} {idx : Nat} (pn : Nat) (hd : decode cc pc = .ok (.invokestatic idx, 3)) (hn : pc + 3 = pn) (cw : CWS own idx yJ7_fill_53178 cJ7_fill_53178 4 none 2) (hi : i < n) (hw : nw = n + L.length) (ha : a = n + k) (hk : L[k]? = some (.inl (gc g 0, Len, .inl f))) (hL : Len < 1000) (hroom : 1 ≤ R.frames ∧ 23 ≤ R.locals) (hcs : kc ≤ R.cells ∧ ks ≤ R.slots) (kk : CR g R own cc nL ret kc ks Z pn tl [] nw (AP E i o n (L.set k (.inl (gc g 0, Len, .inl (mixF (fun _ => v) f Len)))))) : CR g R own cc nL ret kc ks Z pc tl [.int v, .ref (n0 g + a)] nw (AP E i o n L) := by
  have hl : k < L.length := (List.getElem?_eq_some_iff.mp hk).1
  exact r_callS (d := 0) pn hd hn (cE_fill 0 nw a Len v f _ (by omega) hL (AP_k hi ha hk)) cw rfl rfl ⟨hroom.1, hroom.2⟩ hcs (by decide) (Nat.add_zero _) (r_eqE (AP_set _ hi ha hl) kk)
end CRA
/-- a constructor's contract: object i of class ci, with the fields of birth, in the world E of n cells -/
def Cc (y : MethodName) (cc : ByteArray) (nL d ci : Nat) (As : GT → List Value) (fs : GT → Nat → List Value) (L1 : GT → Nat → List va_E) (mc ms : Nat) : Prop := ∀ (g : GT) (E : Nat → va_E) (i n : Nat), i < n → Ci g y cc nL d mc ms (.ref (n0 g + i) :: As g) n (AP E i (.inr (ci, dfs ci)) n []) (n + mc) (AP E i (.inr (ci, fs g n)) n (L1 g n))
section CRS
variable {g : GT} {R : Room} {own : String} {cc : ByteArray} {nL : Nat} {ret : Option FieldType} {kc ks : Nat} {Z : List Frame → Array Value → State → State → Prop} {pc : Nat} {tl : List (Option Value)} {st rest : List Value} {nw : Nat} {E : Nat → va_E} {i n : Nat} {o : va_E} {L : List va_E}
variable {y : MethodName} {cc' : ByteArray} {nL' : Nat} {d mc ms idx N ci : Nat} {As : GT → List Value} {fs : GT → Nat → List Value} {L1 : GT → Nat → List va_E}
theorem AP_nil {k a : Nat} {o1 : va_E} (hi : i < n) (hw : nw = n + L.length) (ha : a = n + k) (hk : L[k]? = some o1) : AP E i o n L = AP (AP E i o n L) a o1 nw [] := by
  have hl : k < L.length := (List.getElem?_eq_some_iff.mp hk).1
  rw [AP_sub [] hi ha hl hw, List.append_nil]
  congr 1
  apply List.ext_getElem?
  intro q
  by_cases e : k = q
  · subst e; rw [List.getElem?_set_self hl, hk]
  · rw [List.getElem?_set_ne e]
theorem s_inN {k a : Nat} (pn nw' kc' ks' : Nat) (hd : decode cc pc = .ok (.invokespecial idx, 3)) (hn : pc + 3 = pn) (hC : Cc y cc' nL' d ci As fs L1 mc ms) (w1 : (own, idx, y) ∈ nestI) (w2 : Cond.initialized y.cls ∈ TB) (w3 : Cond.code y cc' nL' none ∈ TB) (w4 : y.cls ≠ "java/lang/invoke/MethodHandle" ∧ y.cls ≠ "java/lang/invoke/VarHandle" ∧ (parseMethodDescriptor y.desc).map (fun d => d.parameters.length) = some N) (w5 : Cond.instanceMethod y ∈ TB) (hy : y.name = "<init>") (hN : (As g).length = N) (hst : st = (As g).reverse ++ .ref (n0 g + a) :: rest) (hroom : d + 1 ≤ R.frames ∧ 8 + (nL' + 11) + 40 * d ≤ R.locals) (h' : nw + mc = nw' ∧ kc + mc = kc' ∧ ks + ms = ks') (hcs : kc' ≤ R.cells ∧ ks' ≤ R.slots) (hr : (rest.map fun v => v.category).sum ≤ 8)
    (hi : i < n) (hw : nw = n + L.length) (ha : a = n + k) (hk : L[k]? = some (.inr (ci, dfs ci)))
    (kk : CR g R own cc nL ret kc' ks' Z pn tl rest nw' (AP E i o n (L.set k (.inr (ci, fs g nw)) ++ L1 g nw))) : CR g R own cc nL ret kc ks Z pc tl st nw (AP E i o n L) := by
  have hl : k < L.length := (List.getElem?_eq_some_iff.mp hk).1
  obtain ⟨rfl, rfl, rfl⟩ := h'
  exact r_eqE (AP_nil hi hw ha hk) (r_inN pn hd hn (hC g (AP E i o n L) a nw (by omega)) w1 w2 w3 w4 w5 hy hN hst hroom hcs hr rfl (r_eqE (AP_sub _ hi ha hl hw) kk))
theorem s_ini {k a : Nat} (pn nw' kc' ks' : Nat) (hd : decode cc pc = .ok (.invokespecial idx, 3)) (hn : pc + 3 = pn) (hC : Cc y cc' nL' d ci As fs L1 mc ms) (w1 : Cond.methodLink own idx y ∈ TB) (w2 : Cond.initialized y.cls ∈ TB) (w3 : Cond.code y cc' nL' none ∈ TB) (w4 : y.cls ≠ "java/lang/invoke/MethodHandle" ∧ y.cls ≠ "java/lang/invoke/VarHandle" ∧ (parseMethodDescriptor y.desc).map (fun d => d.parameters.length) = some N) (w5 : Cond.instanceMethod y ∈ TB) (hy : y.name = "<init>") (hN : (As g).length = N) (hst : st = (As g).reverse ++ .ref (n0 g + a) :: rest) (hroom : d + 1 ≤ R.frames ∧ 8 + (nL' + 11) + 40 * d ≤ R.locals) (h' : nw + mc = nw' ∧ kc + mc = kc' ∧ ks + ms = ks') (hcs : kc' ≤ R.cells ∧ ks' ≤ R.slots) (hr : (rest.map fun v => v.category).sum ≤ 8)
    (hi : i < n) (hw : nw = n + L.length) (ha : a = n + k) (hk : L[k]? = some (.inr (ci, dfs ci)))
    (kk : CR g R own cc nL ret kc' ks' Z pn tl rest nw' (AP E i o n (L.set k (.inr (ci, fs g nw)) ++ L1 g nw))) : CR g R own cc nL ret kc ks Z pc tl st nw (AP E i o n L) := by
  have hl : k < L.length := (List.getElem?_eq_some_iff.mp hk).1
  obtain ⟨rfl, rfl, rfl⟩ := h'
  exact r_eqE (AP_nil hi hw ha hk) (r_ini pn hd hn (hC g (AP E i o n L) a nw (by omega)) w1 w2 w3 w4 w5 hy hN hst hroom hcs hr rfl (r_eqE (AP_sub _ hi ha hl hw) kk))
end CRS
