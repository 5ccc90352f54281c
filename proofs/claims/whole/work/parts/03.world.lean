/-! THE WORLD: every cell that the two objects hold, by a tag and a number; M is what the whole numbers in them are -/
def TB : List Cond := lw_tbl.filter goodWord
theorem TB_tbl {w : Cond} (h : w ∈ TB) : w ∈ lw_tbl := (List.mem_filter.mp h).1
theorem TB_good {w : Cond} (h : w ∈ TB) : goodWord w = true := (List.mem_filter.mp h).2
theorem TB_of {w : Cond} (h : w ∈ lw_tbl) (g : goodWord w = true) : w ∈ TB := List.mem_filter.mpr ⟨h, g⟩
abbrev TM : Type := Nat → Nat → Nat → Int32
/-- a row (of a tag, of a number) becomes f -/
def putA (M : TM) (t k : Nat) (f : Nat → Int32) : TM := fun a b => if a = t ∧ b = k then f else M a b
theorem putA_s (M : TM) (t k : Nat) (f : Nat → Int32) : putA M t k f t k = f := if_pos ⟨rfl, rfl⟩
theorem putA_n (M : TM) (t k : Nat) (f : Nat → Int32) {a b : Nat} (h : ¬ (a = t ∧ b = k)) : putA M t k f a b = M a b := if_neg h
theorem putA_nt (M : TM) (t k : Nat) (f : Nat → Int32) {a b : Nat} (h : a ≠ t) : putA M t k f a b = M a b := if_neg (fun q => h q.1)
theorem putA_nk (M : TM) (t k : Nat) (f : Nat → Int32) {a b : Nat} (h : b ≠ k) : putA M t k f a b = M a b := if_neg (fun q => h q.2)
theorem putA_pp (M : TM) (t k : Nat) (f f2 : Nat → Int32) : putA (putA M t k f) t k f2 = putA M t k f2 := by
  funext a b; unfold putA; split <;> rfl
theorem putA_id (M : TM) (t k : Nat) : putA M t k (M t k) = M := by
  funext a b; unfold putA; split
  · next h => rw [h.1, h.2]
  · rfl
theorem putA_cm (M : TM) {t k t2 k2 : Nat} (f f2 : Nat → Int32) (h : ¬ (t = t2 ∧ k = k2)) : putA (putA M t k f) t2 k2 f2 = putA (putA M t2 k2 f2) t k f := by
  funext a b; unfold putA
  by_cases h1 : a = t2 ∧ b = k2
  · rw [if_pos h1]
    by_cases h2 : a = t ∧ b = k
    · exact absurd ⟨h2.1.symm.trans h1.1, h2.2.symm.trans h1.2⟩ h
    · rw [if_neg h2, if_pos h1]
  · rw [if_neg h1, if_neg h1]
def cntL : List Nat := [1, 9, 5, 1, 3, 1, 1, 1, 1, 1, 1, 1, 9, 14, 1, 1, 1, 1, 3, 3, 3, 3, 3, 3, 3, 3, 3, 3, 1, 1, 1, 1, 1, 1, 1, 1, 1, 1, 1, 1, 1, 1, 1, 1, 1, 1, 1, 1, 1]
def lenL : List Nat := [0, 0, 0, 0, 0, 0, 0, 4, 5, 14, 96, 0, 24, 96, 14, 14, 14, 96, 6, 6, 6, 10, 10, 10, 10, 10, 3, 3, 96, 60, 10, 3071, 3071, 3071, 4, 4, 96, 5, 5, 5, 5, 120, 71, 96, 128, 100, 24, 60, 60]
def cnt (t : Nat) : Nat := cntL.getD t 0
def len (t : Nat) : Nat := lenL.getD t 0
/-- where a field of references leads -/
def fldL : List (List (Option (Nat → Nat × Nat))) := [
  [some (fun _ => (10, 0)), none, none, none, none, none, none, none, none, none],
  [some (fun k => (12, k)), none, none],
  [some (fun k => (1, k + 4)), none, none, none, none, none],
  [some (fun _ => (9, 0)), some (fun _ => (14, 0)), some (fun _ => (15, 0)), some (fun _ => (16, 0)), some (fun _ => (17, 0))],
  [some (fun _ => (3, 0)), some (fun k => (18, k)), some (fun k => (19, k)), some (fun k => (20, k)), some (fun k => (21, k)), some (fun k => (22, k)), some (fun k => (23, k)), some (fun k => (24, k)), some (fun k => (25, k)), some (fun k => (26, k)), some (fun k => (27, k)), none, none, none, none, none, none, none],
  [some (fun _ => (3, 0)), some (fun _ => (4, 0)), some (fun _ => (4, 1)), some (fun _ => (4, 2)), none, some (fun _ => (0, 0)), some (fun _ => (28, 0)), none, some (fun _ => (7, 0)), some (fun _ => (8, 0)), some (fun _ => (29, 0)), none, some (fun _ => (30, 0))],
  [some (fun _ => (31, 0)), some (fun _ => (32, 0)), some (fun _ => (33, 0)), none, some (fun _ => (34, 0)), some (fun _ => (35, 0)), some (fun _ => (36, 0)), some (fun _ => (37, 0)), some (fun _ => (38, 0)), some (fun _ => (39, 0)), some (fun _ => (40, 0)), some (fun _ => (41, 0)), some (fun _ => (42, 0)), some (fun _ => (43, 0)), none, none, none, none, none, none, none, none, none, none, none, some (fun _ => (44, 0)), some (fun _ => (45, 0)), some (fun _ => (46, 0)), some (fun _ => (47, 0)), none, some (fun _ => (48, 0))]]
def fldOf (c j : Nat) : Option (Nat → Nat × Nat) := (fldL.getD c []).getD j none
def nF (c : Nat) : Nat := (fldL.getD c []).length
/-- launch, tables, addresses by tag and number, classes of arrays (0 int, 1 Sheet, 2 Slot, 3 int[]), what is ours, the script's length and ints, the addresses of the bytes of the String constants -/
abbrev GT : Type := Launch × va_G × (Nat → Nat → Nat) × (Nat → ClassId) × (Nat → Prop) × Nat × (Nat → Int32) × (Nat → Nat)
def gl (g : GT) : Launch := g.1
def gD (g : GT) : va_G := g.2.1
def gad (g : GT) : Nat → Nat → Nat := g.2.2.1
def gc (g : GT) : Nat → ClassId := g.2.2.2.1
def gA (g : GT) : Nat → Prop := g.2.2.2.2.1
def gN (g : GT) : Nat := g.2.2.2.2.2.1
def gxs (g : GT) : Nat → Int32 := g.2.2.2.2.2.2.1
def gsv (g : GT) : Nat → Nat := g.2.2.2.2.2.2.2
def gty (g : GT) : List (ClassId × FieldType) := [(gc g 0, .int), (gc g 1, .object "UnderWhitewash$Sheet"), (gc g 2, .object "UnderWhitewash$Slot"), (gc g 3, .array .int)]
def fval (g : GT) (M : TM) (c k j : Nat) : Value := match fldOf c j with
  | some f => .ref (gad g (f k).1 (f k).2)
  | none => if c = 0 ∧ j = 4 then .ref (if M 0 k 4 = 1 then gad g 28 0 else gad g 11 0) else .int (M c k j)
def cellE (g : GT) (M : TM) (t k : Nat) : va_E :=
  if t < 7 then .inr (t, (List.range (nF t)).map (fval g M t k))
  else if t = 7 then .inl (gc g 1, 4, .inr (.inr (.inr (.inr (fun i => some (gad g 1 i))))))
  else if t = 8 then .inl (gc g 2, 5, .inr (.inr (.inr (.inr (fun i => some (gad g 2 i))))))
  else if t = 9 then .inl (gc g 3, 14, .inr (.inr (.inr (.inr (fun i => some (gad g 13 i))))))
  else .inl (gc g 0, len t, .inl (M t k))
def wcells : List (Nat × Nat) := (List.range 49).flatMap (fun t => (List.range (cnt t)).map (fun k => (t, k)))
def WS (g : GT) (M : TM) : va_W := wcells.map (fun q => (gad g q.1 q.2, cellE g M q.1 q.2))
theorem wcells_mem {t k : Nat} (h : k < cnt t) : (t, k) ∈ wcells := by
  have ht : t < 49 := by
    by_cases h1 : t < 49
    · exact h1
    · have h2 : cntL[t]? = none := List.getElem?_eq_none (by show 49 ≤ t; omega)
      have h3 : cnt t = 0 := by unfold cnt; rw [List.getD_eq_getElem?_getD, h2]; rfl
      omega
  exact List.mem_flatMap.mpr ⟨t, List.mem_range.mpr ht, List.mem_map.mpr ⟨k, List.mem_range.mpr h, rfl⟩⟩
theorem wcells_nd : wcells.Nodup := by decide +kernel
theorem wcells_at {t k : Nat} (h : k < cnt t) : ∃ q : Nat, wcells[q]? = some (t, k) := List.getElem?_of_mem (wcells_mem h)
theorem WS_at (g : GT) (M : TM) {q t k : Nat} (h : wcells[q]? = some (t, k)) : (WS g M)[q]? = some (gad g t k, cellE g M t k) := by
  unfold WS; rw [List.getElem?_map, h]; rfl
/-- one cell changes: the world is another -/
theorem WS_set (g : GT) {M M' : TM} {q t k : Nat} (h : wcells[q]? = some (t, k)) (hs : ∀ a b, ¬ (a = t ∧ b = k) → cellE g M' a b = cellE g M a b) : (WS g M).set q (gad g t k, cellE g M' t k) = WS g M' := by
  apply List.ext_getElem?
  intro i
  unfold WS
  rw [List.getElem?_set, List.getElem?_map, List.getElem?_map, List.length_map]
  by_cases hi : q = i
  · subst hi
    have hl : q < wcells.length := (List.getElem?_eq_some_iff.mp h).1
    rw [if_pos rfl, if_pos hl, h]; rfl
  · rw [if_neg hi]
    cases hc : wcells[i]? with
    | none => rfl
    | some p =>
      obtain ⟨a, b⟩ := p
      have : ¬ (a = t ∧ b = k) := by
        rintro ⟨rfl, rfl⟩
        obtain ⟨h1, h2⟩ := List.getElem?_eq_some_iff.mp h
        obtain ⟨h3, h4⟩ := List.getElem?_eq_some_iff.mp hc
        exact hi ((List.getElem_inj wcells_nd).mp (h2.trans h4.symm))
      simp only [Option.map_some]
      rw [hs a b this]
theorem nF_le (c : Nat) : ∀ j, nF c ≤ j → fldOf c j = none := fun j h => by
  unfold fldOf; rw [List.getD_eq_getElem?_getD, List.getElem?_eq_none h]; rfl
theorem cellE_arr (g : GT) (M : TM) {t k : Nat} (h : 9 < t) : cellE g M t k = .inl (gc g 0, len t, .inl (M t k)) := by
  unfold cellE; rw [if_neg (by omega), if_neg (by omega), if_neg (by omega), if_neg (by omega)]
theorem cellE_obj (g : GT) (M : TM) {t k : Nat} (h : t < 7) : cellE g M t k = .inr (t, (List.range (nF t)).map (fval g M t k)) := by
  unfold cellE; rw [if_pos h]
theorem cellE_put (g : GT) (M : TM) {t k a b : Nat} (f : Nat → Int32) (h : ¬ (a = t ∧ b = k)) : cellE g (putA M t k f) a b = cellE g M a b := by
  have e : putA M t k f a b = M a b := putA_n M t k f h
  by_cases h7 : a < 7
  · rw [cellE_obj _ _ h7, cellE_obj _ _ h7]
    congr 2
    apply List.map_congr_left
    intro j _
    unfold fval
    cases fldOf a j with
    | some f => rfl
    | none =>
      simp only
      by_cases h0 : a = 0 ∧ j = 4
      · rw [if_pos h0, if_pos h0]
        obtain ⟨rfl, rfl⟩ := h0
        rw [e]
      · rw [if_neg h0, if_neg h0, e]
  · unfold cellE; rw [e, if_neg h7, if_neg h7]
