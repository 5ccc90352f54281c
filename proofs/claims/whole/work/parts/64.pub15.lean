/-! THE CLASS: the sums of differences, as the reference has them in longs -/
theorem sub_toInt {a b : Int32} (h1 : -1000000 ≤ a.toInt - b.toInt) (h2 : a.toInt - b.toInt ≤ 1000000) : (a - b).toInt = a.toInt - b.toInt := by
  rw [Int32.toInt_sub]
  exact Int.bmod_eq_of_le_mul_two (by omega) (by omega)
def dN (a b : Int32) : Nat := (a.toInt - b.toInt).natAbs
theorem dN_ab {a b : Int32} (ha : 0 ≤ a ∧ a ≤ 9999) (hb : -99999 ≤ b ∧ b ≤ 99999) : abF (a - b) = nI (dN a b) ∧ of1 b a = nI (dN a b) ∧ dN a b ≤ 109998 := by
  obtain ⟨a1, a2⟩ := ha
  obtain ⟨b1, b2⟩ := hb
  rw [Int32.le_iff_toInt_le] at a1 a2 b1 b2
  have e0 : (0 : Int32).toInt = 0 := rfl
  have e1 : (9999 : Int32).toInt = 9999 := rfl
  have e2 : (-99999 : Int32).toInt = -99999 := rfl
  have e3 : (99999 : Int32).toInt = 99999 := rfl
  have s1 := sub_toInt (a := a) (b := b) (by omega) (by omega)
  have s2 := sub_toInt (a := b) (b := a) (by omega) (by omega)
  have hd : dN a b ≤ 109998 := by unfold dN; omega
  refine ⟨?_, ?_, hd⟩
  · unfold abF
    by_cases h : (0 : Int32) ≤ a - b
    · rw [if_pos h]
      rw [Int32.le_iff_toInt_le, s1] at h
      apply Int32.toInt_inj.mp
      rw [s1, nI_toInt (by omega)]; unfold dN; omega
    · rw [if_neg h]
      rw [Int32.le_iff_toInt_le, s1] at h
      apply Int32.toInt_inj.mp
      rw [sub_toInt (by rw [s1]; omega) (by rw [s1]; omega), s1, nI_toInt (by omega)]; unfold dN; omega
  · unfold of1
    by_cases h : b < a
    · rw [if_pos h]
      rw [Int32.lt_iff_toInt_lt] at h
      apply Int32.toInt_inj.mp
      rw [s1, nI_toInt (by omega)]; unfold dN; omega
    · rw [if_neg h]
      rw [Int32.lt_iff_toInt_lt] at h
      apply Int32.toInt_inj.mp
      rw [s2, nI_toInt (by omega)]; unfold dN; omega
def uN (row : Nat → Int32) (s : SS) (one : Nat) : Nat → Nat
  | 0 => 0
  | k + 1 => uN row s one k + (if row k = NONEc then 0 else dN (mk (goN s k) one 2) (row k))
def rOK (row : Nat → Int32) : Prop := ∀ i, i < 24 → row i = NONEc ∨ (-99999 ≤ row i ∧ row i ≤ 99999)
theorem uN_le {row : Nat → Int32} {s : SS} (h : WK s) (hr : rOK row) {one : Nat} (h1 : one < 10) : ∀ k, k ≤ 24 → uN row s one k ≤ 109998 * k
  | 0, _ => Nat.le_refl _
  | k + 1, hk => by
    have ih := uN_le h hr h1 k (by omega)
    show uN row s one k + _ ≤ _
    split
    · omega
    · have := (dN_ab (goN_WK h k |>.2.2.2.1 one h1).2.2.1 ((hr k (by omega)).resolve_left (by assumption))).2.2
      omega
theorem i64_add {a b : Nat} (ha : a < 2 ^ 30) (hb : b < 2 ^ 30) : (nI a).toInt64 + (nI b).toInt64 = (nI (a + b)).toInt64 := by
  apply Int64.toInt_inj.mp
  rw [Int64.toInt_add, Int32.toInt_toInt64, Int32.toInt_toInt64, Int32.toInt_toInt64, nI_toInt (by omega), nI_toInt (by omega), nI_toInt (by omega)]
  exact Int.bmod_eq_of_le_mul_two (by omega) (by omega)
theorem ulF_N {row : Nat → Int32} {s : SS} (h : WK s) (hr : rOK row) {one : Nat} (h1 : one < 10) : ∀ k, k ≤ 24 → ulF row s one k = (nI (uN row s one k)).toInt64
  | 0, _ => rfl
  | k + 1, hk => by
    have ih := ulF_N h hr h1 k (by omega)
    have hl := uN_le h hr h1 k (by omega)
    show ulF row s one k + _ = (nI (uN row s one k + _)).toInt64
    rw [ih]
    by_cases e : row k = NONEc
    · rw [if_pos e, if_pos e, Nat.add_zero]; exact Int64.add_zero _
    · obtain ⟨-, d2, d3⟩ := dN_ab (goN_WK h k |>.2.2.2.1 one h1).2.2.1 ((hr k (by omega)).resolve_left e)
      rw [if_neg e, if_neg e, d2, i64_add (by omega) (by omega)]
theorem i64_lt {a b : Nat} (ha : a < 2 ^ 31) (hb : b < 2 ^ 31) : (nI a).toInt64 < (nI b).toInt64 ↔ a < b := by
  rw [Int64.lt_iff_toInt_lt, Int32.toInt_toInt64, Int32.toInt_toInt64, nI_toInt ha, nI_toInt hb]; omega
/-- the first of the least -/
def lsN (u : Nat → Nat) : Nat → Nat
  | 0 => 0
  | k + 1 => if u (k + 1) < u (lsN u k) then k + 1 else lsN u k
theorem lsN_le (u : Nat → Nat) : ∀ k, lsN u k ≤ k
  | 0 => Nat.le_refl _
  | k + 1 => by
    have h := lsN_le u k
    by_cases e : u (k + 1) < u (lsN u k)
    · rw [show lsN u (k + 1) = k + 1 from if_pos e]; exact Nat.le_refl _
    · rw [show lsN u (k + 1) = lsN u k from if_neg e]; omega
theorem liF_N {u : Nat → Int64} {v : Nat → Nat} {n : Nat} (hn : n ≤ 10) (h : ∀ k, k < n → u k = (nI (v k)).toInt64 ∧ v k < 2 ^ 31) : ∀ k, k + 1 ≤ n → liF u (k + 1) = (nI (lsN v k), (nI (v (lsN v k))).toInt64)
  | 0, hk => by
    have e : liF u 1 = (nI 0, u 0) := if_pos (Or.inl (show (liF u 0).1 < 0 from (by decide : (-1 : Int32) < 0)))
    rw [e, (h 0 (by omega)).1]; rfl
  | k + 1, hk => by
    have ih := liF_N hn h k (by omega)
    have hl := lsN_le v k
    show (if (liF u (k + 1)).1 < 0 ∨ u (k + 1) < (liF u (k + 1)).2 then (nI (k + 1), u (k + 1)) else liF u (k + 1)) = _
    rw [ih, (h (k + 1) (by omega)).1]
    have st : ∀ {e : Nat}, lsN v (k + 1) = e → (nI (lsN v (k + 1)), (nI (v (lsN v (k + 1)))).toInt64) = (nI e, (nI (v e)).toInt64) := fun q => by rw [q]
    by_cases e : v (k + 1) < v (lsN v k)
    · rw [st (show lsN v (k + 1) = k + 1 from if_pos e)]
      exact if_pos (Or.inr ((i64_lt (h _ (by omega)).2 (h _ (by omega)).2).mpr e))
    · rw [st (show lsN v (k + 1) = lsN v k from if_neg e)]
      exact if_neg (fun q => q.elim (nI_pos (by omega)) (fun z => e ((i64_lt (h _ (by omega)).2 (h _ (by omega)).2).mp z)))
