/-! THE ENTRY: the world's addresses, and what holds of statics, strings and tables -/
theorem AOA_spec {U : State} (h : AOA U) : ∃ c : ClassId, ArrOfT U c (.array .int) ∧ va_RA U c (.array .int) := by
  unfold AOA Cond.before Cond.holds at h
  simp only [Cond.value, beq_iff_eq] at h
  cases hc : U.vm.findClass (FieldType.array FieldType.int).toString with
  | none => simp [hc] at h
  | some comp =>
    simp only [hc, Option.bind_some, Option.bind_eq_some_iff, Option.map_eq_some_iff] at h
    obtain ⟨c, hi0, k, hk, hb⟩ := h
    cases hkd : k.kind with
    | array comp2 ty =>
      rw [hkd] at hb
      simp only [Bool.and_eq_true, decide_eq_true_eq] at hb
      obtain ⟨rfl, hb2⟩ := hb
      exact ⟨c, fun n z => ⟨fun k h => (by cases h), k, hk, comp2, hkd⟩, hb2⟩
    | _ => rw [hkd] at hb; simp at hb
theorem AO_spec {U : State} {A : Array Value} {C : String} (h : (Cond.arrayOver (.object C)).before A U = true) : ∃ c : ClassId, ArrOfT U c (.object C) ∧ va_RA U c (.object C) := by
  obtain ⟨comp, c, k, h1, h2, h3, h4, h5⟩ := Cond.arrayOver_spec h
  exact ⟨c, fun n z => ⟨fun k h => (by cases h), k, h3, comp, h4⟩, k, comp, h3, h4, h1, h5⟩
theorem AC_spec {U : State} {A : Array Value} (h : (Cond.arrayClass .int).before A U = true) : ∃ c : ClassId, ArrOfT U c .int ∧ va_RA U c .int := by
  obtain ⟨c, k, comp, h1, h2, h3⟩ := Cond.arrayClass_spec h
  exact ⟨c, fun n z => ⟨fun k h => (by cases h), k, h2, comp, h3⟩, h1⟩
theorem ent_K {s : State} {args : Array Value} (hts : ∀ w ∈ TB, w.before args s = true) (h0 : (Cond.arrayClass .int).before args s = true) (h1 : (Cond.arrayOver (.object RX1)).before args s = true) (h2 : (Cond.arrayOver (.object RX2)).before args s = true) (h3 : AOA s) :
    ∃ (D : va_G) (cs : Nat → ClassId), va_K D vwCl [(cs 0, .int), (cs 1, .object "UnderWhitewash$Sheet"), (cs 2, .object "UnderWhitewash$Slot"), (cs 3, .array .int)] s := by
  obtain ⟨c0, a0, b0⟩ := AC_spec h0
  obtain ⟨c1, a1, b1⟩ := AO_spec h1
  obtain ⟨c2, a2, b2⟩ := AO_spec h2
  obtain ⟨c3, a3, b3⟩ := AOA_spec h3
  have hh : ∀ c : Nat, ∃ q : ClassId × (Nat → Nat), ∀ r : vw_C, vwCl[c]? = some r → u_Kn s r.1 r.2.1 r.2.2 q.1 q.2 := by
    intro c
    match c with
    | 0 => obtain ⟨cc, ii, h⟩ := u_known (n := 10) hts (clsOK 0 RX0 TX0 10 rfl).1 (hts _ ki_X0); exact ⟨(cc, ii), fun r hr => by cases hr; exact h⟩
    | 1 => obtain ⟨cc, ii, h⟩ := u_known (n := 3) hts (clsOK 1 RX1 TX1 3 rfl).1 (hts _ ki_X1); exact ⟨(cc, ii), fun r hr => by cases hr; exact h⟩
    | 2 => obtain ⟨cc, ii, h⟩ := u_known (n := 6) hts (clsOK 2 RX2 TX2 6 rfl).1 (hts _ ki_X2); exact ⟨(cc, ii), fun r hr => by cases hr; exact h⟩
    | 3 => obtain ⟨cc, ii, h⟩ := u_known (n := 5) hts (clsOK 3 RX3 TX3 5 rfl).1 (hts _ ki_X3); exact ⟨(cc, ii), fun r hr => by cases hr; exact h⟩
    | 4 => obtain ⟨cc, ii, h⟩ := u_known (n := 18) hts (clsOK 4 RX4 TX4 18 rfl).1 (hts _ ki_X4); exact ⟨(cc, ii), fun r hr => by cases hr; exact h⟩
    | 5 => obtain ⟨cc, ii, h⟩ := u_known (n := 13) hts (clsOK 5 RX5 TX5 13 rfl).1 (hts _ ki_X5); exact ⟨(cc, ii), fun r hr => by cases hr; exact h⟩
    | 6 => obtain ⟨cc, ii, h⟩ := u_known (n := 31) hts (clsOK 6 RX6 TX6 31 rfl).1 (hts _ ki_X6); exact ⟨(cc, ii), fun r hr => by cases hr; exact h⟩
    | c + 7 => exact ⟨(c0, fun _ => 0), fun r hr => by simp [vwCl] at hr⟩
  obtain ⟨f, hf⟩ := Classical.axiomOfChoice hh
  refine ⟨(fun c => (f c).1, fun c => (f c).2), fun k => if k = 0 then c0 else if k = 1 then c1 else if k = 2 then c2 else c3, fun c q hq => hf c q hq, ?_⟩
  intro k q hk
  match k, hk with
  | 0, hk => cases hk; exact ⟨a0, b0⟩
  | 1, hk => cases hk; exact ⟨a1, b1⟩
  | 2, hk => cases hk; exact ⟨a2, b2⟩
  | 3, hk => cases hk; exact ⟨a3, b3⟩
  | k + 4, hk => simp at hk
theorem WS_some {g : GT} {M : TM} {i : Nat} {q : Nat × va_E} (h : (WS g M)[i]? = some q) : ∃ t k, wcells[i]? = some (t, k) ∧ q.1 = gad g t k := by
  unfold WS at h
  rw [List.getElem?_map] at h
  cases hw : wcells[i]? with
  | none => rw [hw] at h; cases h
  | some w => rw [hw] at h; cases h; exact ⟨w.1, w.2, rfl, rfl⟩
theorem WS_D {g : GT} {b : Nat} {A : Nat → Prop} (hg : ∀ t k, t < 49 → gad g t k = b + off t k) (hA : ∀ q, b ≤ q → A q) (M : TM) : va_D A (WS g M) := by
  refine ⟨fun i j p q hp hq e => ?_, fun k q hq => ?_⟩
  · obtain ⟨t, k, w1, e1⟩ := WS_some hp
    obtain ⟨t2, k2, w2, e2⟩ := WS_some hq
    rw [e1, e2, hg t k (wcells_lt _ (List.mem_of_getElem? w1)), hg t2 k2 (wcells_lt _ (List.mem_of_getElem? w2))] at e
    have e : off t k = off t2 k2 := by omega
    have l1 : i < (wcells.map (fun q => off q.1 q.2)).length := by rw [List.length_map]; exact (List.getElem?_eq_some_iff.mp w1).1
    refine (List.getElem?_inj l1 off_nd).mp ?_
    rw [List.getElem?_map, List.getElem?_map, w1, w2]
    show some (off t k) = some (off t2 k2)
    rw [e]
  · obtain ⟨t, k2, w1, e1⟩ := WS_some hq
    rw [e1, hg t k2 (wcells_lt _ (List.mem_of_getElem? w1))]
    exact hA _ (Nat.le_add_right _ _)
theorem ent_T {s : State} {args : Array Value} {A : Nat → Prop} (hs : ∀ w ∈ LW, w.before args s = true) (ht : ∀ w ∈ tables_1, w.before args s = true) (hA : ∀ a : Nat, a < s.heap.size → ¬ A a) {f : String} {n ia il ie is : Nat} {L : List Int32} (hn : n < 1000) (ha : LW[ia]? = some (.arrayOf (.static RX5 f "[I") .int)) (hl : LW[il]? = some (.eq (.length (.static RX5 f "[I")) (.int (Int32.ofNat n)))) (he : ∀ j, j < n → LW[ie + j]? = some (.eq (.elem (.static RX5 f "[I") (.int (Int32.ofNat j))) (.int (L.getD j 0)))) (hy : tables_1[is]? = some (.laysStatic RX5 f "[I")) :
    ∃ t : Nat, va_Z RX5 f "[I" (.ref t) A s s.heap ∧ va_T .int t n (fun j => .int (L.getD j 0)) A s s.heap := by
  obtain ⟨t, h1, h2⟩ := va_Tof (args := args) (s := s) (tm := .static RX5 f "[I") (ty := .int) (N := n) (f := fun j => .int (L.getD j 0)) (A := A) (by omega) (hs _ (List.mem_of_getElem? ha)) (va_eqt (hs _ (List.mem_of_getElem? hl))) (fun j hj => va_eqt (hs _ (List.mem_of_getElem? (he j hj)))) hA
  exact ⟨t, va_Zof (ht _ (List.mem_of_getElem? hy)) (ht _ (List.mem_of_getElem? lw_i_x5)) h1 hA, h2⟩
theorem ent_S {s : State} {args : Array Value} {A : Nat → Prop} (hs : ∀ w ∈ LW, w.before args s = true) (hA : ∀ a : Nat, a < s.heap.size → ¬ A a) :
    ∃ adK adV : Nat → Nat, vk_S 12 strL strB adK adV A s s.heap ∧ ∀ i : Nat, i < 12 → (Term.string RX0 (strI.getD i 0)).eval args s none [] s = some (.ref (adK i)) := by
  refine vk_Sof (args := args) (s := s) (N := 12) (tm := fun i => .string RX0 (strI.getD i 0)) (len := strL) (byt := strB) (A := A) (by decide) (fun i hi => hs _ (List.mem_of_getElem? (lw_sx i hi))) (fun i hi => hs _ (List.mem_of_getElem? (lw_sc i hi))) (fun i hi => hs _ (List.mem_of_getElem? (lw_sa i hi))) (fun i hi => hs _ (List.mem_of_getElem? (lw_sl i hi))) (fun i hi j hj => hs _ (List.mem_of_getElem? (lw_se i hi j hj))) (fun i j hi hj hij => ?_) hA
  rcases Nat.lt_or_gt_of_ne hij with h | h
  · exact Or.inl (hs _ (List.mem_of_getElem? (lw_sn i hi j hj h)))
  · exact Or.inr (hs _ (List.mem_of_getElem? (lw_sn j hj i hi h)))
theorem ent_N {s : State} {args : Array Value} (ht : ∀ w ∈ tables_1, w.before args s = true) {ps : List Nat} {nl : List (String × Nat × MethodName)} {n : Nat} (hn : nl.length = n) (h : ∀ i, i < n → tables_1[ps.getD i 0]? = (nl[i]?).map (fun q => .methodLinkNest q.1 q.2.1 q.2.2 RX5)) : ∀ q ∈ nl, va_Nw (.methodLinkNest q.1 q.2.1 q.2.2 RX5) s := by
  intro q hq
  obtain ⟨i, hi, he⟩ := List.getElem_of_mem hq
  have h1 := h i (by omega)
  rw [List.getElem?_eq_getElem hi, he] at h1
  exact va_Nw.of rfl (ht _ (List.mem_of_getElem? h1))
theorem whole_ent {p : Program} {s : State} {m : MethodId} {meth : Method} {c : Code} (l : Launch) {b L : Nat} {xs : Nat → Int32} (C0 : lw_At p s m meth c b L xs) : ∃ g : GT, GH g ∧ gl g = l ∧ gN g = L ∧ gad g 52 0 = b ∧ n0 g = s.heap.size ∧ (∀ q, gA g q ↔ s.heap.size ≤ q) ∧ Ev g s ∧ Evi g s := by
  obtain ⟨hx, hb, hr, hml, hown, hts, hX, hbl, hlocks, hgv⟩ := C0
  have hs : ∀ w ∈ LW, w.before #[Value.ref b] s = true := flat_of_before _ hgv
  have ht : ∀ w ∈ tables_1, w.before #[Value.ref b] s = true := fun w hw => hts w (List.mem_append_right _ hw)
  have hB : ∀ w ∈ TB, w.before #[Value.ref b] s = true := fun w hw => hts w (TB_tbl hw)
  have hA : ∀ a : Nat, a < s.heap.size → ¬ (fun q : Nat => s.heap.size ≤ q) a := fun a h => Nat.not_le.mpr h
  have o1 := ht _ (List.mem_of_getElem? lw_ao1)
  have o2 := ht _ (List.mem_of_getElem? lw_ao2)
  have o3 : AOA s := ht _ (List.mem_of_getElem? lw_ao3)
  obtain ⟨D, cs, hK⟩ := ent_K hB (ht _ (List.mem_of_getElem? lw_ac)) o1 o2 o3
  obtain ⟨t49, z49, v49⟩ := ent_T (A := fun q : Nat => s.heap.size ≤ q) hs ht hA (by decide) lw_ra_a lw_ra_l lw_ra_e lw_ra_s
  obtain ⟨t50, z50, v50⟩ := ent_T (A := fun q : Nat => s.heap.size ≤ q) hs ht hA (by decide) lw_lr_a lw_lr_l lw_lr_e lw_lr_s
  obtain ⟨t51, z51, v51⟩ := ent_T (A := fun q : Nat => s.heap.size ≤ q) hs ht hA (by decide) lw_mr_a lw_mr_l lw_mr_e lw_mr_s
  obtain ⟨adK, adV, hS, hSe⟩ := ent_S (A := fun q : Nat => s.heap.size ≤ q) hs hA
  have hT : va_T .int b L (fun j => .int (xs j)) (fun q : Nat => s.heap.size ≤ q) s s.heap := by
    obtain ⟨scr, h1, h2, h3, h4, h5⟩ := hX
    exact ⟨scr, h1, h2, h3, Nat.le_of_eq h4.symm, congrArg Int32.ofNat h4, h5, hA b hbl⟩
  have hZ1 : va_Z RJ0 "COMPACT_STRINGS" "Z" (.int 1) (fun q : Nat => s.heap.size ≤ q) s s.heap := va_Zof (ht _ (List.mem_of_getElem? lw_cs_s)) (ht _ (List.mem_of_getElem? lw_i_j0)) (va_eqi (hs _ (List.mem_of_getElem? lw_cs))) hA
  have hZ2 : va_Zq RJ3 "SIOOBE_FORMATTER" "Ljava/util/function/BiFunction;" (fun q : Nat => s.heap.size ≤ q) s s.heap := va_Zqof (ht _ (List.mem_of_getElem? lw_si_s)) (ht _ (List.mem_of_getElem? lw_i_j3)) (hs _ (List.mem_of_getElem? lw_si)) hA
  have hR : ∀ i, i < 12 → vk_R RX0 (strI.getD i 0) (strT.getD i "") (adK i) s := fun i hi => vk_R.of (ht _ (List.mem_of_getElem? (lw_sr i hi))) (hSe i hi)
  have hM := ent_N (nl := nestM) ht rfl lw_nm
  have hI := ent_N (nl := nestI) ht rfl lw_ni
  obtain ⟨ad, had⟩ : ∃ ad : Nat → Nat → Nat, ad = fun t k => if t < 49 then s.heap.size + off t k else if t = 49 then t49 else if t = 50 then t50 else if t = 51 then t51 else if t = 52 then b else adK k := ⟨_, rfl⟩
  have e49 : ad 49 0 = t49 := by rw [had]; rfl
  have e50 : ad 50 0 = t50 := by rw [had]; rfl
  have e51 : ad 51 0 = t51 := by rw [had]; rfl
  have e52 : ad 52 0 = b := by rw [had]; rfl
  have e53 : ad 53 = adK := by rw [had]; rfl
  have e5 : ad 5 0 = s.heap.size := by rw [had]; rfl
  have eo : ∀ t k, t < 49 → ad t k = s.heap.size + off t k := fun t k h => by rw [had]; exact if_pos h
  refine ⟨(l, D, ad, cs, fun q => s.heap.size ≤ q, L, xs, adV), ⟨ad, ?_⟩, rfl, rfl, e52, e5, fun q => Iff.rfl, ?_, ?_⟩
  · funext t k
    show ad t k = if t < 49 then ad 5 0 + off t k else ad t k
    by_cases h : t < 49
    · rw [if_pos h, e5, eo t k h]
    · rw [if_neg h]
  · refine ⟨hK, fun M => WS_D (g := (l, D, ad, cs, fun q => s.heap.size ≤ q, L, xs, adV)) (b := s.heap.size) (A := fun q => s.heap.size ≤ q) eo (fun q h => h) M, ?_, ?_, ?_, ?_, ?_, ?_, ⟨hZ1, hZ2⟩, hM⟩
    · show va_Z RX5 "RIGHT_ABOVE" "[I" (.ref (ad 49 0)) _ s s.heap ∧ va_T .int (ad 49 0) 6 _ _ s s.heap
      rw [e49]; exact ⟨z49, v49⟩
    · show va_Z RX5 "LEAST_RULE" "[I" (.ref (ad 50 0)) _ s s.heap ∧ va_T .int (ad 50 0) 3 _ _ s s.heap
      rw [e50]; exact ⟨z50, v50⟩
    · show va_Z RX5 "MOST_RULE" "[I" (.ref (ad 51 0)) _ s s.heap ∧ va_T .int (ad 51 0) 3 _ _ s s.heap
      rw [e51]; exact ⟨z51, v51⟩
    · show va_T .int (ad 52 0) L _ _ s s.heap
      rw [e52]; exact hT
    · show vk_S 12 strL strB (ad 53) adV _ s s.heap
      rw [e53]; exact hS
    · intro i hi
      show vk_R RX0 (strI.getD i 0) (strT.getD i "") (ad 53 i) s
      rw [e53]; exact hR i hi
  · refine ⟨hI, ⟨va_AO.of o1, va_AO.of o2, o3⟩, ?_, ?_⟩
    · show ad 5 0 ≤ s.heap.size
      rw [e5]; exact Nat.le_refl _
    · intro q
      show s.heap.size ≤ q ↔ ad 5 0 ≤ q
      rw [e5]
theorem whole_start {p : Program} {e : Env} {s : State} {m : MethodId} {below : List Frame} {meth : Method} {c : Code} (l : Launch) {b L : Nat} {xs : Nat → Int32} (hL : L ≤ 3072) (C0 : lw_At p s m meth c b L xs) : W p l e room_1 s m #[Value.ref b] below meth c s.heap [] 0 0 (lw_Z below #[Value.ref b] s) (entryFrame m ([Value.ref b] : List Value).toArray 4) := by
  obtain ⟨g, hg, hgl, hgN, hgb, hn0, hgA, hEv, hEvi⟩ := whole_ent l C0
  obtain ⟨hx, hb, hr, hml, hown, hts, hX, hbl, hlocks, hgv⟩ := id C0
  have hl : LF ((lg_sl [Value.ref b] ++ List.replicate (4 - (lg_sl [Value.ref b]).length) Slot.unset).toArray) 4 [some (.ref b), none, none, none] := LF.entry [Value.ref b] 4 (Nat.le_of_ble_eq_true rfl) _ (fun i v hi => by
    match i, hi with
    | 0, hi => cases hi; exact List.mem_cons_self
    | 1, hi => cases hi
    | 2, hi => cases hi
    | 3, hi => cases hi
    | i + 4, hi => simp at hi)
  rw [lg_entry_eq]
  subst hgl
  have K := law_all hg (by rw [hgN]; exact hL) p e s m #[Value.ref b] below meth c s.heap [] _ ⟨⟨hx, hb, hml, hr, hlocks, hown, fun w hw => hts w (TB_tbl hw), hEv⟩, hEvi, Or.inl (Or.inl rfl)⟩ (fun k q h => by simp [WE] at h) ⟨by rw [hn0]; rfl, by rw [hn0]⟩ va_S.rf (by rw [hgb]; exact hl)
  intro T hT X
  obtain ⟨t, a1, b1⟩ := K T hT X
  exact ⟨t, a1, b1 (fun q h => (hgA q).mp h)⟩
