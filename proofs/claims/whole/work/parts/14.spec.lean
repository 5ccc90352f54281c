/-! THE MATHEMATICS: sets, counts -/
def cntB (p : Nat → Bool) : Nat → Nat
  | 0 => 0
  | k + 1 => cntB p k + (if p k then 1 else 0)
def setC (p : Nat → Bool) : Nat → Nat
  | 0 => 0
  | k + 1 => setC p k + (if p k then 2 ^ k else 0)
theorem setC_lt (p : Nat → Bool) : ∀ n, setC p n < 2 ^ n
  | 0 => Nat.zero_lt_one
  | n + 1 => by
    have := setC_lt p n
    unfold setC
    rw [Nat.pow_succ]
    split <;> omega
theorem setC_le (p : Nat → Bool) {n : Nat} (h : n ≤ 10) : setC p n < 1024 := Nat.lt_of_lt_of_le (setC_lt p n) (Nat.pow_le_pow_right (by decide) h)
theorem setC_congr {p q : Nat → Bool} : ∀ n, (∀ k, k < n → p k = q k) → setC p n = setC q n
  | 0, _ => rfl
  | n + 1, h => by unfold setC; rw [setC_congr n (fun k hk => h k (by omega)), h n (by omega)]
theorem cntB_congr {p q : Nat → Bool} : ∀ n, (∀ k, k < n → p k = q k) → cntB p n = cntB q n
  | 0, _ => rfl
  | n + 1, h => by unfold cntB; rw [cntB_congr n (fun k hk => h k (by omega)), h n (by omega)]
theorem cntB_le (p : Nat → Bool) : ∀ n, cntB p n ≤ n
  | 0 => Nat.le_refl _
  | n + 1 => by have := cntB_le p n; unfold cntB; split <;> omega
theorem setC_bit (p : Nat → Bool) : ∀ n k, (setC p n).testBit k = (decide (k < n) && p k)
  | 0, k => by simp [setC]
  | n + 1, k => by
    have ih := setC_bit p n
    have hl := setC_lt p n
    unfold setC
    by_cases hp : p n = true
    · rw [if_pos hp, Nat.add_comm]
      rcases Nat.lt_trichotomy k n with h | h | h
      · rw [Nat.testBit_two_pow_add_gt h, ih]
        simp [h, Nat.lt_succ_of_lt h]
      · subst h
        rw [Nat.testBit_two_pow_add_eq, ih]
        simp [hp]
      · have : 2 ^ n + setC p n < 2 ^ k := by
          have h1 : 2 ^ (n + 1) ≤ 2 ^ k := Nat.pow_le_pow_right (by decide) h
          rw [Nat.pow_succ] at h1
          omega
        rw [Nat.testBit_lt_two_pow this]
        simp; omega
    · rw [if_neg hp, Nat.add_zero, ih]
      by_cases h : k = n
      · subst h
        simp [hp]
      · have e : (k < n + 1) ↔ k < n := by omega
        simp [e]
/-- how many bits, of ten -/
def popc (a : Nat) : Nat := cntB (fun k => a.testBit k) 10
theorem popc_step : ∀ a, a < 1024 → a ≠ 0 → popc (a &&& (a - 1)) + 1 = popc a ∧ a &&& (a - 1) < a := by decide +kernel
theorem popc_set (p : Nat → Bool) {n : Nat} (h : n ≤ 10) : popc (setC p n) = cntB p n := by
  unfold popc
  rw [cntB_congr (p := fun k => (setC p n).testBit k) (q := fun k => decide (k < n) && p k) 10 (fun k _ => setC_bit p n k)]
  have : ∀ m, n ≤ m → cntB (fun k => decide (k < n) && p k) m = cntB p n := by
    intro m hm
    induction m with
    | zero => rw [Nat.le_zero.mp hm]; rfl
    | succ m ih =>
      by_cases hq : n ≤ m
      · show cntB _ m + _ = _
        rw [ih hq]
        simp [show ¬ m < n by omega]
      · have : n = m + 1 := by omega
        subst this
        exact cntB_congr _ (fun k hk => by simp [hk])
  exact this 10 h
theorem popc_le (a : Nat) : popc a ≤ 10 := cntB_le _ 10
theorem sh_amt : ∀ n, n < 32 → ((nI n &&& 31).toBitVec.smod 32).toNat = n := by decide +kernel
theorem one_shl : ∀ k, k < 31 → (1 : Int32) <<< (nI k &&& 31) = nI (2 ^ k) := by decide +kernel
theorem nI_or_pow {a k : Nat} (h : a < 2 ^ k) (hk : k < 31) : nI a ||| nI (2 ^ k) = nI (a + 2 ^ k) := by
  have e : (nI a ||| nI (2 ^ k)) = nI (a ||| 2 ^ k) := by
    apply Int32.toBitVec_inj.mp
    rw [Int32.toBitVec_or]
    apply BitVec.eq_of_toNat_eq
    have h1 : a < 2 ^ 32 := Nat.lt_trans h (Nat.pow_lt_pow_right (by decide) (by omega))
    have h2 : 2 ^ k < 2 ^ 32 := Nat.pow_lt_pow_right (by decide) (by omega)
    have h3 : a ||| 2 ^ k < 2 ^ 32 := Nat.or_lt_two_pow h1 h2
    rw [BitVec.toNat_or, pk_tn h1, pk_tn h2, pk_tn h3]
  rw [e]
  congr 1
  rw [Nat.or_comm, Nat.add_comm]
  have q := Nat.two_pow_add_eq_or_of_lt h 1
  rw [Nat.mul_one] at q
  exact q.symm
theorem nI_or_0 (x : Int32) : x ||| 0 = x := by
  apply Int32.toBitVec_inj.mp
  rw [Int32.toBitVec_or]
  simp
theorem nI_and1 {a : Nat} (ha : a < 1024) (h0 : a ≠ 0) : nI a &&& (nI a - 1) = nI (a &&& (a - 1)) := by
  obtain ⟨b, rfl⟩ : ∃ b, a = b + 1 := ⟨a - 1, by omega⟩
  rw [nI_pred, Nat.add_sub_cancel]
  apply Int32.toBitVec_inj.mp
  rw [Int32.toBitVec_and]
  apply BitVec.eq_of_toNat_eq
  rw [BitVec.toNat_and, pk_tn (by omega), pk_tn (by omega), pk_tn (Nat.lt_of_le_of_lt Nat.and_le_left (by omega))]
theorem bit_at {a k : Nat} (ha : a < 2 ^ 31) (hk : k < 31) : (nI a >>> (nI k &&& 31)) &&& 1 = bI (a.testBit k = true) := by
  rw [pk_shrN ha _ k (sh_amt k (by omega)), pk_andN (n := a / 2 ^ k) (m := 1) (Nat.lt_of_le_of_lt (Nat.div_le_self _ _) (by omega)) 1 rfl]
  rw [Nat.testBit_eq_decide_div_mod_eq]
  rcases Nat.mod_two_eq_zero_or_one (a / 2 ^ k) with h | h
  · rw [show a / 2 ^ k % 2 ^ 1 = 0 from h]; rfl
  · rw [show a / 2 ^ k % 2 ^ 1 = 1 from h]; rfl
theorem upd_s {f : Nat → Int32} {i : Nat} {v : Int32} : upd f i v i = v := if_pos rfl
theorem upd_n {f : Nat → Int32} {i j : Nat} {v : Int32} (h : j ≠ i) : upd f i v j = f j := if_neg h
theorem upd_id (f : Nat → Int32) (i : Nat) : upd f i (f i) = f := by funext j; unfold upd; split <;> simp_all
theorem putA_upd {M : TM} {t k i : Nat} {v : Int32} : putA M t k (upd (M t k) i v) t k i = v := by rw [putA_s, upd_s]
