/-! THE MATHEMATICS: the state as the reference lays it in one row s; texts -/
abbrev SS : Type := Nat → Int32
def wiF (v most : Int32) : Int32 := if v < 0 then 0 else if most < v then most else v
def leF (a b : Int32) : Int32 := if a < b then a else b
def drF (z : Int32) : Int32 := z * 1103515245 + 12345
def usF (z : Int32) : Int32 := (z.toUInt32 >>> ((8 : Int32).toUInt32 &&& Int32.toUInt32 31)).toInt32
def woF (k i s : Int32) : Int32 := if k = 1 then i + s else if k = 2 then 99 - i else if k = 3 then (i + s) / 2 else if k = 4 then 99 - i + 7 else if k = 5 then s else i
def faF (k : Int32) : Int32 := if k = 2 then 0 else if k = 3 then 3 else if k = 4 then 3 else if k = 5 then 5 else 1
def joF (c x y : Int32) : Int32 := if c = 43 then x + y else if c = 45 then x - y else if c = 42 then x * y else if c = 47 then (if y = 0 then 0 else if y = -1 then -x else x / y) else if c = 60 then bI (x < y) else if c = 62 then bI (y < x) else if c = 61 then bI (x = y) else if c = 38 then bI (x ≠ 0 ∧ y ≠ 0) else bI (x ≠ 0 ∨ y ≠ 0)
def mk (s : SS) (k w : Nat) : Int32 := s (21 + 5 * k + w)
def nN (s : SS) : Nat := (s 0).toNatClampNeg
def nT (s : SS) : Nat := (s 1).toNatClampNeg
def inC (s : SS) (c : Int32) : Nat → Bool := fun k => decide (mk s k 3 = c)
/-- how many marks are in a cell -/
def ctF (s : SS) (c : Int32) : Nat := cntB (inC s c) (nN s)
/-- the text that counts for a key: the last of the first t, or -1 -/
def laF (s : SS) (key : Int32) : Nat → Int32
  | 0 => -1
  | t + 1 => if s (71 + 200 * t) = key then nI t else laF s key t
/-- how high the pile is behind k steps of a text whose steps begin at b -/
def hgt (s : SS) (b : Nat) : Nat → Nat
  | 0 => 0
  | k + 1 => if s (b + 2 * k) = 2 then (if s (b + 2 * k + 1) = 33 then hgt s b k else hgt s b k - 1) else hgt s b k + 1
/-- the pile behind k steps -/
def pil (nm : Int32 → Int32) (s : SS) (b : Nat) (p0 : Nat → Int32) : Nat → Nat → Int32
  | 0 => p0
  | k + 1 => if s (b + 2 * k) = 2 then (if s (b + 2 * k + 1) = 33 then upd (pil nm s b p0 k) (hgt s b k - 1) (if pil nm s b p0 k (hgt s b k - 1) = 0 then 1 else 0)
      else upd (pil nm s b p0 k) (hgt s b k - 2) (joF (s (b + 2 * k + 1)) (pil nm s b p0 k (hgt s b k - 2)) (pil nm s b p0 k (hgt s b k - 1))))
    else upd (pil nm s b p0 k) (hgt s b k) (if s (b + 2 * k) = 0 then s (b + 2 * k + 1) else nm (s (b + 2 * k + 1)))
def okN (key : Int32) (c : Nat) : Prop := if key = 0 then c = 105 ∨ c = 100 ∨ c = 99 ∨ c = 110 else if key = 1 then c = 115 ∨ c = 103 else c = 105 ∨ c = 100
/-- steps that a pile can go through -/
def wfS (s : SS) (key : Int32) (b m : Nat) : Prop := ∀ k, k < m → (s (b + 2 * k) = 2 → (if s (b + 2 * k + 1) = 33 then 1 else 2) ≤ hgt s b k) ∧ (s (b + 2 * k) ≠ 2 → s (b + 2 * k) ≠ 0 → ∃ c, c < 128 ∧ s (b + 2 * k + 1) = nI c ∧ okN key c)
def wfX (s : SS) (t : Nat) : Prop := (s (71 + 200 * t) = 0 ∨ s (71 + 200 * t) = 1 ∨ s (71 + 200 * t) = 2) ∧ ∃ m, m ≤ 96 ∧ s (73 + 200 * t) = nI m ∧ hgt s (75 + 200 * t) m = 1 ∧ wfS s (s (71 + 200 * t)) (75 + 200 * t) m
theorem hgt_le (s : SS) (b : Nat) : ∀ k, hgt s b k ≤ k
  | 0 => Nat.le_refl _
  | k + 1 => by
    have := hgt_le s b k
    unfold hgt
    split
    · split <;> omega
    · omega
/-- what a text gives -/
def vaT (nm : Int32 → Int32) (s : SS) (t : Nat) : Int32 := pil nm s (75 + 200 * t) (fun _ => 0) (s (73 + 200 * t)).toNatClampNeg 0
/-- the pile's start, and names that no step has, don't matter -/
theorem pil_eq {nm nm' : Int32 → Int32} {s : SS} {key : Int32} {b m : Nat} {p p' : Nat → Int32} (hw : wfS s key b m) (hn : ∀ c, okN key c → nm (nI c) = nm' (nI c)) : ∀ k, k ≤ m → ∀ i, i < hgt s b k → pil nm s b p k i = pil nm' s b p' k i := by
  intro k
  induction k with
  | zero => intro _ i hi; exact absurd hi (Nat.not_lt_zero _)
  | succ k ih =>
    intro hk i hi
    have ih := ih (by omega)
    obtain ⟨h1, h2⟩ := hw k (by omega)
    unfold hgt at hi
    unfold pil
    by_cases e2 : s (b + 2 * k) = 2
    · rw [if_pos e2] at hi ⊢
      rw [if_pos e2]
      have h1 := h1 e2
      by_cases e3 : s (b + 2 * k + 1) = 33
      · rw [if_pos e3] at hi h1 ⊢
        rw [if_pos e3]
        unfold upd
        by_cases hi1 : i = hgt s b k - 1
        · rw [if_pos hi1, if_pos hi1, ih _ (by omega)]
        · rw [if_neg hi1, if_neg hi1]; exact ih i hi
      · rw [if_neg e3] at hi h1 ⊢
        rw [if_neg e3]
        unfold upd
        by_cases hi1 : i = hgt s b k - 2
        · rw [if_pos hi1, if_pos hi1, ih _ (by omega), ih _ (by omega)]
        · rw [if_neg hi1, if_neg hi1]; exact ih i (by omega)
    · rw [if_neg e2] at hi ⊢
      rw [if_neg e2]
      unfold upd
      by_cases hi1 : i = hgt s b k
      · rw [if_pos hi1, if_pos hi1]
        by_cases e0 : s (b + 2 * k) = 0
        · rw [if_pos e0, if_pos e0]
        · rw [if_neg e0, if_neg e0]
          obtain ⟨c, -, hc, ho⟩ := h2 e2 e0
          rw [hc]; exact hn c ho
      · rw [if_neg hi1, if_neg hi1]; exact ih i (by omega)
def nmB (i d c n v : Int32) : Int32 := if v = 105 then i else if v = 100 then d else if v = 99 then c else if v = 110 then n else 0
def nmF (s g v : Int32) : Int32 := if v = 115 then s else if v = 103 then g else 0
def nmI (i d v : Int32) : Int32 := if v = 105 then i else if v = 100 then d else 0
/-- plain, shows, sinks -/
def plF (s : SS) (k : Nat) : Int32 :=
  if laF s 0 (nT s) < 0 then wiF (mk s k 1 - mk s k 2) 99
  else wiF (vaT (nmB (mk s k 1) (mk s k 2) (s (15 + (mk s k 3).toNatClampNeg)) (nI (ctF s (mk s k 3)))) s (laF s 0 (nT s)).toNatClampNeg) 99
def shK (kind v ct : Int32) : Int32 := if kind = 1 then leF 99 (v + 5) else if kind = 2 then leF 99 (v + 2 * (ct - 1)) else if kind = 3 then leF 99 (v + 5) / 2 else if kind = 4 then wiF (leF 99 (v + 2 * (ct - 1)) - 10) 99 else if kind = 5 then 20 else v
def shF (s : SS) (k : Nat) : Int32 := shK (mk s k 0) (plF s k) (nI (ctF s (mk s k 3)))
def siK (kind wide : Int32) : Int32 := if kind = 2 then (if wide < 30 then 2 else 1) else if kind = 3 then 2 else if kind = 4 then (if wide < 30 then 2 else 1) + 1 else if kind = 5 then 0 else 1
def siF (s : SS) (k : Nat) : Int32 := siK (mk s k 0) (s (9 + (mk s k 3).toNatClampNeg))
/-- ranges -/
def rg (x lo hi : Int32) : Prop := lo ≤ x ∧ x ≤ hi
def WFm (s : SS) : Prop := ∀ k, k < 10 → rg (mk s k 0) 0 5 ∧ rg (mk s k 1) 0 99 ∧ rg (mk s k 2) 0 9999 ∧ rg (mk s k 3) 0 5 ∧ rg (mk s k 4) 0 9999
def WFc (s : SS) : Prop := ∀ c, c < 6 → rg (s (9 + c)) 0 99 ∧ rg (s (15 + c)) 0 9999
def WFr (s : SS) : Prop := rg (s 3) 1 9 ∧ rg (s 4) 0 99 ∧ rg (s 5) 0 100 ∧ rg (s 6) 0 99999 ∧ rg (s 7) 0 99999
def WFt (s : SS) : Prop := s 1 = nI (nT s) ∧ nT s ≤ 14 ∧ ∀ t, t < nT s → wfX s t
/-- well formed; the spring is at most b -/
def WF (b : Nat) (s : SS) : Prop := (s 0 = nI (nN s) ∧ nN s ≤ 10) ∧ (∃ sp, sp ≤ b ∧ s 2 = nI sp) ∧ WFr s ∧ WFc s ∧ WFm s ∧ WFt s
theorem rg_nat {x hi : Int32} {n : Nat} (h : rg x 0 hi) (hh : hi.toInt = n) : x = nI x.toNatClampNeg ∧ x.toNatClampNeg ≤ n := by
  obtain ⟨j, hj, rfl⟩ := nI_of2 hh (Int32.not_lt.mpr h.1) h.2
  have hn : n < 2 ^ 31 := by have := Int32.toInt_lt hi; omega
  rw [nI_clamp (by omega)]
  exact ⟨rfl, hj⟩
theorem nI_inj {a b : Nat} (ha : a < 2 ^ 31) (hb : b < 2 ^ 31) (h : nI a = nI b) : a = b := (nI_eq ha hb).mp h
