/-! THE MATHEMATICS: a spring, on the row s -/
def rmF (x y : Int32) : Int32 := x - x / y * y
def cmF (s : SS) (kind ink depth cell : Int32) : SS := upd (upd (upd (upd (upd (upd s 0 (s 0 + 1)) (21 + 5 * nN s + 0) kind) (21 + 5 * nN s + 1) ink) (21 + 5 * nN s + 2) depth) (21 + 5 * nN s + 3) cell) (21 + 5 * nN s + 4) 0
/-- a coat: what the first k marks sink -/
def cdp (s : SS) (c : Nat) : Nat → SS
  | 0 => s
  | k + 1 => upd (cdp s c k) (21 + 5 * k + 2) (if mk s k 3 = nI c then leF 9999 (mk s k 2 + siF s k) else mk s k 2)
def coF (s : SS) (c : Nat) : SS :=
  upd (cdp (upd s (15 + c) (leF 9999 (s (15 + c) + 1))) c (nN s)) (9 + c) (if rmF (leF 9999 (s (15 + c) + 1)) (s 3) = 0 then wiF (s (9 + c) - 1) 99 else s (9 + c))
def coN (s : SS) : Nat → SS
  | 0 => s
  | c + 1 => coF (coN s c) c
/-- a breath: what becomes of the first k marks, those of q -/
def bdp (s : SS) (q : Nat → Bool) : Nat → SS
  | 0 => s
  | k + 1 => if q k then upd (upd (bdp s q k) (21 + 5 * k + 4) (leF 9999 (mk s k 4 + 1))) (21 + 5 * k + 1) (wiF (mk s k 1 - faF (mk s k 0)) 99) else bdp s q k
def lgB (s : SS) (k : Nat) : Bool := decide (s 4 ≤ shF s k)
def brQ (s : SS) (c : Int32) (k : Nat) : Bool := lgB s k && inC s c k
def brA (s : SS) (c : Int32) : Int32 := nI (cntB (brQ s c) (nN s))
def brF (s : SS) (c : Int32) : SS := upd (bdp s (brQ s c) (nN s)) 6 (leF 99999 (s 6 + brA s c))
/-- digging -/
def ddp (s : SS) (c n : Int32) : Nat → SS
  | 0 => s
  | k + 1 => upd (ddp s c n k) (21 + 5 * k + 2) (if mk s k 3 = c then wiF (mk s k 2 - n) 9999 else mk s k 2)
def duA (s : SS) (c : Nat) (n : Int32) : Int32 := leF n (s (15 + c))
def du1 (s : SS) (c : Nat) (n : Int32) : SS := upd (upd (upd s (15 + c) (s (15 + c) - duA s c n)) 7 (leF 99999 (s 7 + duA s c n))) (9 + c) (leF 99 (s (9 + c) + n / s 3))
def duF (s : SS) (c : Nat) (n : Int32) : SS := ddp (du1 s c n) (nI c) n (nN s)
def drS (s : SS) : SS := upd s 8 (drF (s 8))
def drA (s : SS) : Int32 := usF (drF (s 8))
/-- spoons by chance -/
def spF (s : SS) : SS := if rmF (drA s) 100 < s 5 then duF (drS (drS (drS s))) (rmF (drA (drS s)) 6).toNatClampNeg (rmF (drA (drS (drS s))) 10) else drS s
def goF (s : SS) : SS := upd (spF (brF (coN s 6) (rmF (s 2) 6))) 2 (s 2 + 1)
def goN (s : SS) : Nat → SS
  | 0 => s
  | n + 1 => goF (goN s n)
/-- the sum of a thing of all -/
def suF (s : SS) (w : Nat) : Nat → Int32
  | 0 => 0
  | k + 1 => suF s w k + mk s k w
def naF (s : SS) : Nat → Nat
  | 0 => 0
  | c + 1 => if s (9 + (c + 1)) < s (9 + naF s c) then c + 1 else naF s c
theorem cdp_s (s : SS) (c k : Nat) : cdp s c (k + 1) = upd (cdp s c k) (21 + 5 * k + 2) (if mk s k 3 = nI c then leF 9999 (mk s k 2 + siF s k) else mk s k 2) := rfl
theorem ddp_s (s : SS) (c n : Int32) (k : Nat) : ddp s c n (k + 1) = upd (ddp s c n k) (21 + 5 * k + 2) (if mk s k 3 = c then wiF (mk s k 2 - n) 9999 else mk s k 2) := rfl
theorem bdp_s (s : SS) (q : Nat → Bool) (k : Nat) : bdp s q (k + 1) = if q k then upd (upd (bdp s q k) (21 + 5 * k + 4) (leF 9999 (mk s k 4 + 1))) (21 + 5 * k + 1) (wiF (mk s k 1 - faF (mk s k 0)) 99) else bdp s q k := rfl
theorem cdp_n (s : SS) (c : Nat) : ∀ (k i : Nat), (∀ j, j < k → i ≠ 21 + 5 * j + 2) → cdp s c k i = s i
  | 0, _, _ => rfl
  | k + 1, i, h => by rw [cdp_s, upd_n (h k (by omega))]; exact cdp_n s c k i (fun j hj => h j (by omega))
theorem ddp_n (s : SS) (c n : Int32) : ∀ (k i : Nat), (∀ j, j < k → i ≠ 21 + 5 * j + 2) → ddp s c n k i = s i
  | 0, _, _ => rfl
  | k + 1, i, h => by rw [ddp_s, upd_n (h k (by omega))]; exact ddp_n s c n k i (fun j hj => h j (by omega))
theorem bdp_n (s : SS) (q : Nat → Bool) : ∀ (k i : Nat), (∀ j, j < k → i ≠ 21 + 5 * j + 4 ∧ i ≠ 21 + 5 * j + 1) → bdp s q k i = s i
  | 0, _, _ => rfl
  | k + 1, i, h => by
    rw [bdp_s]
    split
    · rw [upd_n (h k (by omega)).2, upd_n (h k (by omega)).1]; exact bdp_n s q k i (fun j hj => h j (by omega))
    · exact bdp_n s q k i (fun j hj => h j (by omega))
/-- places that a coat's marks don't touch -/
theorem siF_c {s s' : SS} {k : Nat} (h0 : mk s' k 0 = mk s k 0) (h3 : mk s' k 3 = mk s k 3) (hr : rg (mk s k 3) 0 5) (hw : ∀ c, c < 6 → s' (9 + c) = s (9 + c)) : siF s' k = siF s k := by unfold siF; rw [h0, h3, hw _ (Nat.lt_succ_of_le (rg_nat hr (n := 5) rfl).2)]
theorem leF_nI {a b : Nat} (ha : a < 2 ^ 31) (hb : b < 2 ^ 31) : leF (nI a) (nI b) = nI (min a b) := by
  unfold leF
  by_cases h : a < b
  · rw [if_pos ((nI_ltI ha hb).mpr h), Nat.min_eq_left (by omega)]
  · rw [if_neg (fun q => h ((nI_ltI ha hb).mp q)), Nat.min_eq_right (by omega)]
theorem wiF_nI {a c : Nat} (ha : a < 2 ^ 31) (hc : c < 2 ^ 31) : wiF (nI a) (nI c) = nI (min a c) := by
  unfold wiF
  rw [if_neg (nI_pos ha)]
  by_cases h : c < a
  · rw [if_pos ((nI_ltI hc ha).mpr h), Nat.min_eq_right (by omega)]
  · rw [if_neg (fun q => h ((nI_ltI hc ha).mp q)), Nat.min_eq_left (by omega)]
theorem wiF_sub {a b c : Nat} (ha : a < 2 ^ 30) (hb : b < 2 ^ 30) (hc : c < 2 ^ 31) : wiF (nI a - nI b) (nI c) = nI (min (a - b) c) := by
  by_cases h : b ≤ a
  · rw [pk_sub h, wiF_nI (by omega) hc]
  · unfold wiF
    rw [if_pos (pk_sneg hb (by omega)), show a - b = 0 by omega, Nat.zero_min]; rfl
theorem rg_iff {x : Int32} {b : Nat} (hb : b < 2 ^ 31) : rg x 0 (nI b) ↔ ∃ a, a ≤ b ∧ x = nI a := by
  constructor
  · intro h
    obtain ⟨h1, h2⟩ := rg_nat h (nI_toInt hb)
    exact ⟨_, h2, h1⟩
  · rintro ⟨a, h, rfl⟩
    exact ⟨nI_pos' (by omega), nI_le h hb⟩
theorem rg_of {x : Int32} {a b : Nat} (e : x = nI a) (h : a ≤ b) (hb : b < 2 ^ 31 := by decide) : rg x 0 (nI b) := (rg_iff hb).mpr ⟨a, h, e⟩
theorem setC_and (p q : Nat → Bool) (n : Nat) : setC p n &&& setC q n = setC (fun k => p k && q k) n := by
  apply Nat.eq_of_testBit_eq
  intro i
  rw [Nat.testBit_and, setC_bit, setC_bit, setC_bit]
  cases decide (i < n) <;> cases p i <;> cases q i <;> rfl
theorem nI_and {a b : Nat} (ha : a < 2 ^ 31) (hb : b < 2 ^ 31) : nI a &&& nI b = nI (a &&& b) := by
  apply Int32.toBitVec_inj.mp
  rw [Int32.toBitVec_and]
  apply BitVec.eq_of_toNat_eq
  rw [BitVec.toNat_and, pk_tn (by omega), pk_tn (by omega), pk_tn (Nat.lt_of_le_of_lt Nat.and_le_left (by omega))]
theorem rmF_nI {a d : Nat} (ha : a < 2 ^ 31) (h0 : 0 < d) (hd : d < 2 ^ 31) : rmF (nI a) (nI d) = nI (a % d) := pk_rem ha h0 hd
theorem usF_nat (z : Int32) : ∃ a, a < 2 ^ 24 ∧ usF z = nI a := by
  have h := pk_ushr z 8 8 (by decide)
  have hl : z.toBitVec.toNat < 2 ^ 32 := z.toBitVec.isLt
  refine ⟨z.toBitVec.toNat / 2 ^ 8, by omega, ?_⟩
  apply Int32.toBitVec_inj.mp
  apply BitVec.eq_of_toNat_eq
  rw [pk_tn (by omega)]
  exact h
