/-! THE PARSER, PURE: tokens -/
abbrev Tk : Type := Nat × Nat × Nat
abbrev isLt (c : Int32) : Prop := 97 ≤ c ∧ c ≤ 122
abbrev isDg (c : Int32) : Prop := 48 ≤ c ∧ c ≤ 57
def blB (T : Nat → Int32) (n p : Nat) : Bool := decide (p < n ∧ T p = 32)
def ltB (T : Nat → Int32) (n p : Nat) : Bool := decide (p < n ∧ isLt (T p))
def dgB (T : Nat → Int32) (n p : Nat) : Bool := decide (p < n ∧ isDg (T p))
def en (q : Nat → Bool) (n p : Nat) : Nat := srch q (n - p) p
theorem en_t {q : Nat → Bool} {n p : Nat} (hn : p < n) (h : q p = true) : en q n p = en q n (p + 1) := by
  unfold en
  rw [show n - p = (n - (p + 1)) + 1 by omega, srch, if_pos h]
theorem en_f {q : Nat → Bool} {n p : Nat} (h : ¬ q p = true) : en q n p = p := by
  unfold en
  cases n - p with
  | zero => rfl
  | succ f => rw [srch, if_neg h]
theorem srch_ge (q : Nat → Bool) : ∀ f i, i ≤ srch q f i
  | 0, i => Nat.le_refl _
  | f + 1, i => by
    unfold srch; split
    · have := srch_ge q f (i + 1); omega
    · exact Nat.le_refl _
theorem srch_in (q : Nat → Bool) : ∀ f i j, i ≤ j → j < srch q f i → q j = true
  | 0, i, j, h1, h2 => by simp only [srch] at h2; omega
  | f + 1, i, j, h1, h2 => by
    unfold srch at h2
    by_cases h : q i = true
    · rw [if_pos h] at h2
      by_cases e : i = j
      · subst e; exact h
      · exact srch_in q f (i + 1) j (by omega) h2
    · rw [if_neg h] at h2; omega
theorem en_ge (q : Nat → Bool) (n p : Nat) : p ≤ en q n p := srch_ge _ _ _
theorem en_le {q : Nat → Bool} {n p : Nat} (h : p ≤ n) : en q n p ≤ n := by have := srch_le q (n - p) p; unfold en; omega
theorem en_in {q : Nat → Bool} {n p j : Nat} (h1 : p ≤ j) (h2 : j < en q n p) : q j = true := srch_in q _ _ _ h1 h2
def nxA (T : Nat → Int32) (n p : Nat) (ti : Bool) : Tk :=
  if p < n then
    if isLt (T p) then (p, en (ltB T n) n p, if ti = true then 4 else 1)
    else if isDg (T p) then (p, en (dgB T n) n p, if ti = true ∨ 4 < en (dgB T n) n p - p then 4 else 2)
    else (p, p + 1, 3)
  else (p, p, 0)
def nxP (T : Nat → Int32) (n bh : Nat) : Nat := en (blB T n) n bh
def nx (T : Nat → Int32) (n bh so : Nat) : Tk := nxA T n (nxP T n bh) (decide ((so = 1 ∨ so = 2) ∧ bh = nxP T n bh))
def tk (T : Nat → Int32) (n : Nat) : Nat → Tk
  | 0 => nx T n 0 3
  | i + 1 => nx T n (tk T n i).2.1 (tk T n i).2.2
/-- what holds of a token -/
def tkW (T : Nat → Int32) (n : Nat) (t : Tk) : Prop := t.1 ≤ t.2.1 ∧ t.2.1 ≤ n ∧ ((t.2.2 = 0 ∧ t.1 = n) ∨ (t.2.2 = 1 ∧ t.1 < t.2.1 ∧ isLt (T t.1)) ∨ (t.2.2 = 2 ∧ t.1 < t.2.1 ∧ t.2.1 - t.1 ≤ 4 ∧ ∀ j, t.1 ≤ j → j < t.2.1 → isDg (T j)) ∨ (t.2.2 = 3 ∧ t.1 < t.2.1) ∨ (t.2.2 = 4 ∧ t.1 < t.2.1))
theorem nxA_W {T : Nat → Int32} {n p : Nat} (ti : Bool) (h : p ≤ n) : tkW T n (nxA T n p ti) := by
  unfold nxA
  by_cases h1 : p < n
  · rw [if_pos h1]
    by_cases h2 : isLt (T p)
    · have hq : ltB T n p = true := decide_eq_true ⟨h1, h2⟩
      have e1 := en_t h1 hq
      have e2 := en_ge (ltB T n) n (p + 1)
      have e3 : en (ltB T n) n p ≤ n := en_le h
      rw [if_pos h2]
      refine ⟨by show p ≤ en _ _ _; omega, e3, ?_⟩
      by_cases h3 : ti = true
      · rw [if_pos h3]; exact Or.inr (Or.inr (Or.inr (Or.inr ⟨rfl, by show p < en _ _ _; omega⟩)))
      · rw [if_neg h3]; exact Or.inr (Or.inl ⟨rfl, by show p < en _ _ _; omega, h2⟩)
    · rw [if_neg h2]
      by_cases h3 : isDg (T p)
      · have hq : dgB T n p = true := decide_eq_true ⟨h1, h3⟩
        have e1 := en_t h1 hq
        have e2 := en_ge (dgB T n) n (p + 1)
        have e3 : en (dgB T n) n p ≤ n := en_le h
        rw [if_pos h3]
        refine ⟨by show p ≤ en _ _ _; omega, e3, ?_⟩
        by_cases h4 : ti = true ∨ 4 < en (dgB T n) n p - p
        · rw [if_pos h4]; exact Or.inr (Or.inr (Or.inr (Or.inr ⟨rfl, by show p < en _ _ _; omega⟩)))
        · rw [if_neg h4]
          refine Or.inr (Or.inr (Or.inl ⟨rfl, by show p < en _ _ _; omega, by show en _ _ _ - p ≤ 4; have := fun q => h4 (Or.inr q); omega, ?_⟩))
          intro j hj1 hj2
          exact (of_decide_eq_true (en_in (q := dgB T n) hj1 hj2)).2
      · rw [if_neg h3]
        exact ⟨by show p ≤ p + 1; omega, by show p + 1 ≤ n; omega, Or.inr (Or.inr (Or.inr (Or.inl ⟨rfl, by show p < p + 1; omega⟩)))⟩
  · rw [if_neg h1]
    exact ⟨Nat.le_refl p, h, Or.inl ⟨rfl, by show p = n; omega⟩⟩
theorem nxA_1 (T : Nat → Int32) (n p : Nat) (ti : Bool) : (nxA T n p ti).1 = p := by
  unfold nxA
  split
  · split
    · rfl
    · split <;> rfl
  · rfl
theorem nx_W {T : Nat → Int32} {n bh so : Nat} (h : bh ≤ n) : tkW T n (nx T n bh so) := nxA_W _ (en_le h)
theorem tk_W (T : Nat → Int32) (n : Nat) : ∀ i, tkW T n (tk T n i)
  | 0 => nx_W (Nat.zero_le n)
  | i + 1 => nx_W (tk_W T n i).2.1
/-- a token that is not the end: its number is below n -/
theorem tk_lt (T : Nat → Int32) (n : Nat) : ∀ i, (tk T n i).2.2 ≠ 0 → i < (tk T n i).2.1
  | 0, h => by
    obtain ⟨h1, h2, h3⟩ := tk_W T n 0
    omega
  | i + 1, h => by
    obtain ⟨h1, h2, h3⟩ := tk_W T n (i + 1)
    obtain ⟨g1, g2, g3⟩ := tk_W T n i
    have e1 : (tk T n (i + 1)).1 = nxP T n (tk T n i).2.1 := nxA_1 _ _ _ _
    have e2 : (tk T n i).2.1 ≤ nxP T n (tk T n i).2.1 := en_ge _ _ _
    have ih := tk_lt T n i
    by_cases e : (tk T n i).2.2 = 0
    · omega
    · have := ih e; omega
theorem tk_n {T : Nat → Int32} {n i : Nat} (h : (tk T n i).2.2 ≠ 0) : i < n := by
  have h1 := tk_lt T n i h
  have h2 := (tk_W T n i).2.1
  omega
/-! the parser: (the token's number, how many steps, the steps) -/
abbrev PS : Type := Nat × Nat × (Nat → Int32)
def ad (x : PS) : PS := (x.1 + 1, x.2.1, x.2.2)
def sp (x : PS) (w v : Int32) : PS := (x.1, x.2.1 + 1, upd (upd x.2.2 (2 * x.2.1) w) (2 * x.2.1 + 1) v)
def ch (T : Nat → Int32) (n : Nat) (x : PS) : Int32 := T (tk T n x.1).1
def sgB (T : Nat → Int32) (n : Nat) (q : Int32 → Bool) (x : PS) : Bool := decide ((tk T n x.1).2.2 = 3) && q (ch T n x)
theorem sgB_t {T : Nat → Int32} {n : Nat} {q : Int32 → Bool} {x : PS} : sgB T n q x = true ↔ (tk T n x.1).2.2 = 3 ∧ q (ch T n x) = true := by
  unfold sgB; rw [Bool.and_eq_true, decide_eq_true_eq]
def lo (T : Nat → Int32) (n : Nat) (p : PS → Bool × PS) (q : Int32 → Bool) : Nat → PS → Bool × PS
  | 0, x => (true, x)
  | f + 1, x => if sgB T n q x = true then (if (p (ad x)).1 = true then lo T n p q f (sp (p (ad x)).2 2 (ch T n x)) else p (ad x)) else (true, x)
theorem lo_f {T : Nat → Int32} {n : Nat} {p : PS → Bool × PS} {q : Int32 → Bool} {f : Nat} {x : PS} (h : ¬ sgB T n q x = true) : lo T n p q f x = (true, x) := by
  cases f with
  | zero => rfl
  | succ f => rw [lo, if_neg h]
theorem lo_t {T : Nat → Int32} {n : Nat} {p : PS → Bool × PS} {q : Int32 → Bool} {f : Nat} {x : PS} (h : sgB T n q x = true) (h2 : (p (ad x)).1 = true) : lo T n p q (f + 1) x = lo T n p q f (sp (p (ad x)).2 2 (ch T n x)) := by
  rw [lo, if_pos h, if_pos h2]
theorem lo_b {T : Nat → Int32} {n : Nat} {p : PS → Bool × PS} {q : Int32 → Bool} {f : Nat} {x : PS} (h : sgB T n q x = true) (h2 : ¬ (p (ad x)).1 = true) : lo T n p q (f + 1) x = p (ad x) := by
  rw [lo, if_pos h, if_neg h2]
def sgL : Nat → Int32 → Bool
  | 0, c => decide (c = 124)
  | 1, c => decide (c = 38)
  | 2, c => decide (c = 60 ∨ c = 61 ∨ c = 62)
  | 3, c => decide (c = 43 ∨ c = 45)
  | _, c => decide (c = 42 ∨ c = 47)
def fuL (l : Nat) : Nat := if l = 2 then 1 else 96
def lv (T : Nat → Int32) (n : Nat) (p : PS → Bool × PS) : Nat → PS → Bool × PS
  | 0, x => p x
  | j + 1, x => if (lv T n p j x).1 = true then lo T n (lv T n p j) (sgL (4 - j)) (fuL (4 - j)) (lv T n p j x).2 else lv T n p j x
def nmQ (key c : Int32) : Bool := if key = 0 then decide (c = 105 ∨ c = 100 ∨ c = 99 ∨ c = 110) else if key = 1 then decide (c = 115 ∨ c = 103) else decide (c = 105 ∨ c = 100)
def nuF (T : Nat → Int32) (a : Nat) : Nat → Int32
  | 0 => 0
  | k + 1 => nuF T a k * 10 + T (a + k) - 48
def paB (T : Nat → Int32) (n : Nat) (key : Int32) (f : Nat → Nat → PS → Bool × PS) (dp no : Nat) (x : PS) : Bool × PS :=
  if (tk T n x.1).2.2 = 2 then (true, ad (sp x 0 (nuF T (tk T n x.1).1 ((tk T n x.1).2.1 - (tk T n x.1).1))))
  else if (tk T n x.1).2.2 = 1 ∧ (tk T n x.1).2.1 - (tk T n x.1).1 = 1 ∧ nmQ key (ch T n x) = true then (true, ad (sp x 1 (ch T n x)))
  else if ((tk T n x.1).2.2 = 3 ∧ ch T n x = 33) ∧ no < 8 then (if (f dp (no + 1) (ad x)).1 = true then (true, sp (f dp (no + 1) (ad x)).2 2 33) else f dp (no + 1) (ad x))
  else if ((tk T n x.1).2.2 = 3 ∧ ch T n x = 40) ∧ dp < 8 then
    (if (lv T n (f (dp + 1) no) 5 (ad x)).1 = true then
      (if (tk T n (lv T n (f (dp + 1) no) 5 (ad x)).2.1).2.2 = 3 ∧ ch T n (lv T n (f (dp + 1) no) 5 (ad x)).2 = 41 then (true, ad (lv T n (f (dp + 1) no) 5 (ad x)).2) else (false, (lv T n (f (dp + 1) no) 5 (ad x)).2))
    else lv T n (f (dp + 1) no) 5 (ad x))
  else (false, x)
def pa (T : Nat → Int32) (n : Nat) (key : Int32) : Nat → Nat → Nat → PS → Bool × PS
  | 0 => fun _ _ x => (false, x)
  | b + 1 => paB T n key (pa T n key b)
/-! what a good part is -/
def W1 (key : Int32) (S : Nat → Int32) (k : Nat) : Prop := (S (2 * k) = 2 → (if S (2 * k + 1) = 33 then 1 else 2) ≤ hgt S 0 k) ∧ (S (2 * k) ≠ 2 → S (2 * k) ≠ 0 → ∃ c, c < 128 ∧ S (2 * k + 1) = nI c ∧ okN key c) ∧ (S (2 * k) = 2 → S (2 * k + 1) ≠ 33 → okS (S (2 * k + 1))) ∧ (S (2 * k) = 0 → 0 ≤ S (2 * k + 1))
theorem hgt_e {S S' : Nat → Int32} {b b' : Nat} : ∀ k, (∀ j, j < 2 * k → S' (b' + j) = S (b + j)) → hgt S' b' k = hgt S b k
  | 0, _ => rfl
  | k + 1, h => by
    have h1 := h (2 * k) (by omega)
    have h2 := h (2 * k + 1) (by omega)
    rw [← Nat.add_assoc, ← Nat.add_assoc] at h2
    unfold hgt
    rw [h1, h2, hgt_e k (fun j hj => h j (by omega))]
theorem hgt_0 (S : Nat → Int32) (k : Nat) : hgt S 0 (k + 1) = if S (2 * k) = 2 then (if S (2 * k + 1) = 33 then hgt S 0 k else hgt S 0 k - 1) else hgt S 0 k + 1 := by
  show (if S (0 + 2 * k) = 2 then (if S (0 + 2 * k + 1) = 33 then hgt S 0 k else hgt S 0 k - 1) else hgt S 0 k + 1) = _
  rw [Nat.zero_add]
theorem hgt_p {S S' : Nat → Int32} {k : Nat} (h : ∀ j, j < 2 * k → S' j = S j) : hgt S' 0 k = hgt S 0 k := hgt_e k (fun j hj => by rw [Nat.zero_add]; exact h j hj)
theorem W1_p {key : Int32} {S S' : Nat → Int32} {k m : Nat} (hk : k < m) (h : ∀ j, j < 2 * m → S' j = S j) (w : W1 key S k) : W1 key S' k := by
  unfold W1
  rw [h (2 * k) (by omega), h (2 * k + 1) (by omega), hgt_p (S := S) (fun j hj => h j (by omega))]
  exact w
theorem sp_lo (x : PS) (w v : Int32) {j : Nat} (h : j < 2 * x.2.1) : (sp x w v).2.2 j = x.2.2 j := by
  show upd (upd x.2.2 _ _) _ _ j = _
  rw [upd_n (by omega), upd_n (by omega)]
theorem sp_w (x : PS) (w v : Int32) : (sp x w v).2.2 (2 * x.2.1) = w := by
  show upd (upd x.2.2 _ _) _ _ _ = _
  rw [upd_n (by omega), upd_s]
theorem sp_v (x : PS) (w v : Int32) : (sp x w v).2.2 (2 * x.2.1 + 1) = v := upd_s
def Gd (key : Int32) (x y : PS) : Prop := x.1 ≤ y.1 ∧ x.2.1 ≤ y.2.1 ∧ y.2.1 + x.1 ≤ x.2.1 + y.1 ∧ (∀ j, j < 2 * x.2.1 → y.2.2 j = x.2.2 j) ∧ hgt y.2.2 0 y.2.1 = hgt x.2.2 0 x.2.1 + 1 ∧ ∀ k, x.2.1 ≤ k → k < y.2.1 → W1 key y.2.2 k
theorem Gd_leaf {key : Int32} {x : PS} {w v : Int32} (h2 : w ≠ 2) (h1 : w ≠ 0 → ∃ c, c < 128 ∧ v = nI c ∧ okN key c) (h0 : w = 0 → 0 ≤ v) : Gd key x (ad (sp x w v)) := by
  refine ⟨Nat.le_succ _, Nat.le_succ _, by show x.2.1 + 1 + x.1 ≤ x.2.1 + (x.1 + 1); omega, fun j hj => sp_lo x w v hj, ?_, ?_⟩
  · show hgt (sp x w v).2.2 0 (x.2.1 + 1) = _
    rw [hgt_0, sp_w, if_neg h2, hgt_p (S := x.2.2) (fun j hj => sp_lo x w v hj)]
  · intro k h3 h4
    have e : k = x.2.1 := by have : k < x.2.1 + 1 := h4; omega
    subst e
    show W1 key (sp x w v).2.2 x.2.1
    unfold W1
    rw [sp_w, sp_v]
    exact ⟨fun q => absurd q h2, fun _ q => h1 q, fun q => absurd q h2, h0⟩
/-- a sign behind a good part z: it takes c of its heights -/
theorem Gd_sign {key : Int32} {x z : PS} {h : Nat} {c : Int32} (h1 : x.1 + 1 ≤ z.1) (h2 : x.2.1 ≤ z.2.1) (h3 : z.2.1 + x.1 + 1 ≤ x.2.1 + z.1) (h4 : ∀ j, j < 2 * x.2.1 → z.2.2 j = x.2.2 j) (h5 : hgt z.2.2 0 z.2.1 = h) (h6 : ∀ k, x.2.1 ≤ k → k < z.2.1 → W1 key z.2.2 k) (hc : c = 33 ∧ h = hgt x.2.2 0 x.2.1 + 1 ∨ c ≠ 33 ∧ okS c ∧ h = hgt x.2.2 0 x.2.1 + 2) : Gd key x (sp z 2 c) := by
  have e : hgt (sp z 2 c).2.2 0 z.2.1 = h := (hgt_p (S := z.2.2) (fun j hj => sp_lo z 2 c hj)).trans h5
  refine ⟨by show x.1 ≤ z.1; omega, by show x.2.1 ≤ z.2.1 + 1; omega, by show z.2.1 + 1 + x.1 ≤ x.2.1 + z.1; omega, fun j hj => (sp_lo z 2 c (by omega)).trans (h4 j hj), ?_, ?_⟩
  · show hgt (sp z 2 c).2.2 0 (z.2.1 + 1) = _
    rw [hgt_0, sp_w, sp_v, if_pos rfl, e]
    rcases hc with ⟨a, b⟩ | ⟨a, b, d⟩
    · rw [if_pos a, b]
    · rw [if_neg a, d]; rfl
  · intro k k1 k2
    by_cases ek : k = z.2.1
    · subst ek
      show W1 key (sp z 2 c).2.2 z.2.1
      unfold W1
      rw [sp_w, sp_v, e]
      refine ⟨fun _ => ?_, fun q => absurd rfl q, fun _ q => ?_, fun q => absurd q (by decide)⟩
      · rcases hc with ⟨a, b⟩ | ⟨a, b, d⟩
        · rw [if_pos a]; omega
        · rw [if_neg a]; omega
      · rcases hc with ⟨a, b⟩ | ⟨a, b, d⟩
        · exact absurd a q
        · exact b
    · have : k < z.2.1 + 1 := k2
      exact W1_p (m := z.2.1) (by omega) (fun j hj => sp_lo z 2 c hj) (h6 k k1 (by omega))
theorem Gd_bin {key : Int32} {x y z : PS} {c : Int32} (h : Gd key x y) (h2 : Gd key (ad y) z) (hc : okS c) (h33 : c ≠ 33) : Gd key x (sp z 2 c) := by
  obtain ⟨a1, a2, a3, a4, a5, a6⟩ := h
  obtain ⟨b1, b2, b3, b4, b5, b6⟩ := h2
  have b1 : y.1 + 1 ≤ z.1 := b1
  have b2 : y.2.1 ≤ z.2.1 := b2
  have b3 : z.2.1 + (y.1 + 1) ≤ y.2.1 + z.1 := b3
  have b4 : ∀ j, j < 2 * y.2.1 → z.2.2 j = y.2.2 j := b4
  have b5 : hgt z.2.2 0 z.2.1 = hgt y.2.2 0 y.2.1 + 1 := b5
  have b6 : ∀ k, y.2.1 ≤ k → k < z.2.1 → W1 key z.2.2 k := b6
  refine Gd_sign (z := z) (h := hgt x.2.2 0 x.2.1 + 2) (by omega) (by omega) (by omega) (fun j hj => (b4 j (by omega)).trans (a4 j hj)) (by rw [b5, a5]) ?_ (Or.inr ⟨h33, hc, rfl⟩)
  intro k k1 k2
  by_cases hk : k < y.2.1
  · exact W1_p (m := y.2.1) hk b4 (a6 k k1 hk)
  · exact b6 k (by omega) k2
theorem Gd_not {key : Int32} {x z : PS} (h : Gd key (ad x) z) : Gd key x (sp z 2 33) := by
  obtain ⟨b1, b2, b3, b4, b5, b6⟩ := h
  have b1 : x.1 + 1 ≤ z.1 := b1
  have b3 : z.2.1 + (x.1 + 1) ≤ x.2.1 + z.1 := b3
  exact Gd_sign (z := z) b1 b2 (by omega) b4 b5 b6 (Or.inl ⟨rfl, rfl⟩)
theorem Gd_par {key : Int32} {x z : PS} (h : Gd key (ad x) z) : Gd key x (ad z) := by
  obtain ⟨b1, b2, b3, b4, b5, b6⟩ := h
  have b1 : x.1 + 1 ≤ z.1 := b1
  have b3 : z.2.1 + (x.1 + 1) ≤ x.2.1 + z.1 := b3
  exact ⟨by show x.1 ≤ z.1 + 1; omega, b2, by show z.2.1 + x.1 ≤ x.2.1 + (z.1 + 1); omega, b4, b5, b6⟩
/-- a reader that is good where it answers, and stays on the tape -/
def Gp (T : Nat → Int32) (n : Nat) (key : Int32) (p : PS → Bool × PS) : Prop := ∀ x, ((p x).1 = true → Gd key x (p x).2) ∧ (x.1 ≤ n → (p x).2.1 ≤ n)
theorem lo_G {T : Nat → Int32} {n : Nat} {key : Int32} {p : PS → Bool × PS} {q : Int32 → Bool} (hp : Gp T n key p) (hq : ∀ c, q c = true → okS c ∧ c ≠ 33) : ∀ f x, (∀ x0, Gd key x0 x → (lo T n p q f x).1 = true → Gd key x0 (lo T n p q f x).2) ∧ (x.1 ≤ n → (lo T n p q f x).2.1 ≤ n)
  | 0, x => ⟨fun _ h _ => h, fun h => h⟩
  | f + 1, x => by
    by_cases h1 : sgB T n q x = true
    · obtain ⟨s1, s2⟩ := sgB_t.mp h1
      have hx : x.1 < n := tk_n (T := T) (by rw [s1]; decide)
      obtain ⟨g1, g2⟩ := hp (ad x)
      have g2 := g2 (show x.1 + 1 ≤ n by omega)
      by_cases h2 : (p (ad x)).1 = true
      · rw [lo_t h1 h2]
        obtain ⟨i1, i2⟩ := lo_G hp hq f (sp (p (ad x)).2 2 (ch T n x))
        exact ⟨fun x0 h h3 => i1 x0 (Gd_bin h (g1 h2) (hq _ s2).1 (hq _ s2).2) h3, fun _ => i2 g2⟩
      · rw [lo_b h1 h2]
        exact ⟨fun _ _ h => absurd h h2, fun _ => g2⟩
    · rw [lo_f h1]; exact ⟨fun _ h _ => h, fun h => h⟩
theorem sgL_ok : ∀ (l : Nat) (c : Int32), sgL l c = true → okS c ∧ c ≠ 33 := by
  intro l c h
  have hc : c = 124 ∨ c = 38 ∨ c = 60 ∨ c = 61 ∨ c = 62 ∨ c = 43 ∨ c = 45 ∨ c = 42 ∨ c = 47 := by
    match l, h with
    | 0, h => have := of_decide_eq_true h; exact Or.inl this
    | 1, h => have := of_decide_eq_true h; exact Or.inr (Or.inl this)
    | 2, h => rcases of_decide_eq_true h with h | h | h <;> simp [h]
    | 3, h => rcases of_decide_eq_true h with h | h <;> simp [h]
    | l + 4, h => rcases of_decide_eq_true (show decide (c = 42 ∨ c = 47) = true from h) with h | h <;> simp [h]
  unfold okS
  rcases hc with rfl | rfl | rfl | rfl | rfl | rfl | rfl | rfl | rfl <;> decide
theorem lv_G {T : Nat → Int32} {n : Nat} {key : Int32} {p : PS → Bool × PS} (hp : Gp T n key p) : ∀ j, Gp T n key (lv T n p j)
  | 0 => hp
  | j + 1 => fun x => by
    have ih := lv_G hp j
    have l1 := lo_G ih (sgL_ok (4 - j)) (fuL (4 - j)) (lv T n p j x).2
    by_cases h : (lv T n p j x).1 = true
    · rw [lv, if_pos h]
      exact ⟨l1.1 x ((ih x).1 h), fun hx => l1.2 ((ih x).2 hx)⟩
    · rw [lv, if_neg h]
      exact ih x
theorem nmQ_ok {key c : Int32} (h : nmQ key c = true) : ∃ a, a < 128 ∧ c = nI a ∧ okN key a := by
  unfold nmQ at h
  unfold okN
  by_cases h0 : key = 0
  · rw [if_pos h0] at h
    rcases of_decide_eq_true h with h | h | h | h
    · exact ⟨105, by decide, h, by rw [if_pos h0]; decide⟩
    · exact ⟨100, by decide, h, by rw [if_pos h0]; decide⟩
    · exact ⟨99, by decide, h, by rw [if_pos h0]; decide⟩
    · exact ⟨110, by decide, h, by rw [if_pos h0]; decide⟩
  · rw [if_neg h0] at h
    by_cases h1 : key = 1
    · rw [if_pos h1] at h
      rcases of_decide_eq_true h with h | h
      · exact ⟨115, by decide, h, by rw [if_neg h0, if_pos h1]; decide⟩
      · exact ⟨103, by decide, h, by rw [if_neg h0, if_pos h1]; decide⟩
    · rw [if_neg h1] at h
      rcases of_decide_eq_true h with h | h
      · exact ⟨105, by decide, h, by rw [if_neg h0, if_neg h1]; decide⟩
      · exact ⟨100, by decide, h, by rw [if_neg h0, if_neg h1]; decide⟩
theorem nuF_ok {T : Nat → Int32} {a : Nat} : ∀ k, k ≤ 4 → (∀ j, a ≤ j → j < a + k → isDg (T j)) → ∃ v, v < 10 ^ k ∧ nuF T a k = nI v
  | 0, _, _ => ⟨0, by decide, rfl⟩
  | k + 1, hk, h => by
    obtain ⟨v, hv, e⟩ := nuF_ok k (by omega) (fun j h1 h2 => h j h1 (by omega))
    obtain ⟨d1, d2⟩ := h (a + k) (by omega) (by omega)
    obtain ⟨d, hd, ed⟩ := nI_of2 (x := T (a + k)) (M := 57) (n := 57) rfl (Int32.not_lt.mpr (Int32.le_trans (by decide) d1)) d2
    rw [ed] at d1
    have hd1 : 48 ≤ d := (nI_leI (a := 48) (by decide) (by omega)).mp d1
    refine ⟨v * 10 + (d - 48), ?_, ?_⟩
    · rw [Nat.pow_succ]; omega
    · show nuF T a k * 10 + T (a + k) - 48 = _
      rw [e, ed, show (10 : Int32) = nI 10 from rfl, pk_mul, nI_add, show (48 : Int32) = nI 48 from rfl, pk_sub (by omega)]
      congr 1; omega
theorem pa_G {T : Nat → Int32} {n : Nat} {key : Int32} : ∀ b dp no, Gp T n key (pa T n key b dp no)
  | 0, dp, no => fun x => ⟨fun h => absurd h Bool.false_ne_true, fun h => h⟩
  | b + 1, dp, no => fun x => by
    have iN := pa_G (T := T) (n := n) (key := key) b dp (no + 1) (ad x)
    have iL := lv_G (pa_G (T := T) (n := n) (key := key) b (dp + 1) no) 5 (ad x)
    rw [show pa T n key (b + 1) dp no x = paB T n key (pa T n key b) dp no x from rfl]
    unfold paB
    by_cases h1 : (tk T n x.1).2.2 = 2
    · rw [if_pos h1]
      have hx : x.1 < n := tk_n (T := T) (by rw [h1]; decide)
      refine ⟨fun _ => Gd_leaf (by decide) (fun q => absurd rfl q) (fun _ => ?_), fun _ => hx⟩
      obtain ⟨w1, w2, w3⟩ := tk_W T n x.1
      rw [h1] at w3
      rcases w3 with ⟨q, -⟩ | ⟨q, -⟩ | ⟨-, w4, w5, w6⟩ | ⟨q, -⟩ | ⟨q, -⟩ <;> first | exact absurd q (by decide) | skip
      obtain ⟨v, hv, e⟩ := nuF_ok (T := T) (a := (tk T n x.1).1) ((tk T n x.1).2.1 - (tk T n x.1).1) w5 (fun j j1 j2 => w6 j j1 (by omega))
      rw [e]
      have : (10 : Nat) ^ ((tk T n x.1).2.1 - (tk T n x.1).1) ≤ 10 ^ 4 := Nat.pow_le_pow_right (by decide) w5
      exact nI_pos' (by omega)
    · rw [if_neg h1]
      by_cases h2 : (tk T n x.1).2.2 = 1 ∧ (tk T n x.1).2.1 - (tk T n x.1).1 = 1 ∧ nmQ key (ch T n x) = true
      · rw [if_pos h2]
        have hx : x.1 < n := tk_n (T := T) (by rw [h2.1]; decide)
        exact ⟨fun _ => Gd_leaf (by decide) (fun _ => nmQ_ok h2.2.2) (fun q => absurd q (by decide)), fun _ => hx⟩
      · rw [if_neg h2]
        by_cases h3 : ((tk T n x.1).2.2 = 3 ∧ ch T n x = 33) ∧ no < 8
        · rw [if_pos h3]
          have hx : x.1 < n := tk_n (T := T) (by rw [h3.1.1]; decide)
          by_cases h4 : (pa T n key b dp (no + 1) (ad x)).1 = true
          · rw [if_pos h4]; exact ⟨fun _ => Gd_not (iN.1 h4), fun _ => iN.2 hx⟩
          · rw [if_neg h4]; exact ⟨fun q => absurd q h4, fun _ => iN.2 hx⟩
        · rw [if_neg h3]
          by_cases h5 : ((tk T n x.1).2.2 = 3 ∧ ch T n x = 40) ∧ dp < 8
          · rw [if_pos h5]
            have hx : x.1 < n := tk_n (T := T) (by rw [h5.1.1]; decide)
            generalize lv T n (pa T n key b (dp + 1) no) 5 (ad x) = r at iL ⊢
            by_cases h6 : r.1 = true
            · rw [if_pos h6]
              by_cases h7 : (tk T n r.2.1).2.2 = 3 ∧ ch T n r.2 = 41
              · rw [if_pos h7]
                have hr : r.2.1 < n := tk_n (T := T) (by rw [h7.1]; decide)
                exact ⟨fun _ => Gd_par (iL.1 h6), fun _ => hr⟩
              · rw [if_neg h7]; exact ⟨fun q => absurd q Bool.false_ne_true, fun _ => iL.2 hx⟩
            · rw [if_neg h6]; exact ⟨fun q => absurd q h6, fun _ => iL.2 hx⟩
          · rw [if_neg h5]; exact ⟨fun q => absurd q Bool.false_ne_true, fun h => h⟩
/-- how many leaves the first k steps are -/
def lc (S : Nat → Int32) : Nat → Nat
  | 0 => 0
  | k + 1 => lc S k + (if S (2 * k) = 2 then 0 else 1)
theorem lc_le (S : Nat → Int32) : ∀ k, lc S k ≤ k
  | 0 => Nat.le_refl _
  | k + 1 => by have := lc_le S k; unfold lc; split <;> omega
theorem lc_p {S S' : Nat → Int32} : ∀ k, (∀ j, j < 2 * k → S' j = S j) → lc S' k = lc S k
  | 0, _ => rfl
  | k + 1, h => by unfold lc; rw [lc_p k (fun j hj => h j (by omega)), h _ (by omega)]
theorem lc_2 (x : PS) (v : Int32) : lc (sp x 2 v).2.2 (x.2.1 + 1) = lc x.2.2 x.2.1 := by
  show lc (sp x 2 v).2.2 x.2.1 + _ = _
  rw [sp_w, if_pos rfl, lc_p _ (fun j hj => sp_lo x 2 v hj)]; rfl
theorem lc_l (x : PS) {w : Int32} (v : Int32) (h : w ≠ 2) : lc (sp x w v).2.2 (x.2.1 + 1) = lc x.2.2 x.2.1 + 1 := by
  show lc (sp x w v).2.2 x.2.1 + _ = _
  rw [sp_w, if_neg h, lc_p _ (fun j hj => sp_lo x w v hj)]
