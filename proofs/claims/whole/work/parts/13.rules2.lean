/-- where a tableswitch leads -/
def swOff (dflt lo hi : Int) (offs : Array Int) (z : Int) : Int := if z < lo ∨ hi < z then dflt else (offs[(z - lo).toNat]?).getD dflt
theorem q_tab {g : GT} {R : Room} {own : String} {cc : ByteArray} {nL : Nat} {ret : Option FieldType} {kc ks : Nat} {Z : List Frame → Array Value → State → State → Prop} {pc : Nat} {tl : List (Option Value)} {st : List Value} {M : TM} {dflt lo hi : Int} {offs : Array Int} {ln : Nat} {x : Int32} {off : Int} (a : Nat) (hd : decode cc pc = .ok (.tableswitch dflt lo hi offs, ln)) (hs : hi + 1 - lo = offs.size) (ho : swOff dflt lo hi offs x.toInt = off) (ha : (pc : Int) + off = (a : Int)) (k : TR g R own cc nL ret kc ks Z a tl st M) : TR g R own cc nL ret kc ks Z pc tl (.int x :: st) M := by
  unfold swOff at ho
  by_cases h : x.toInt < lo ∨ hi < x.toInt
  · rw [if_pos h] at ho
    subst ho
    exact q_tabOut a hd h ha k
  · rw [if_neg h] at ho
    have hl : (x.toInt - lo).toNat < offs.size := by omega
    have e : offs[(x.toInt - lo).toNat]? = some offs[(x.toInt - lo).toNat] := Array.getElem?_eq_getElem hl
    rw [e] at ho
    exact q_tabIn a hd x.toInt rfl (fun q => h (Or.inl q)) (fun q => h (Or.inr q)) (by rw [e]; exact congrArg some ho) ha k
theorem sw_def {dflt lo hi z : Int} {offs : Array Int} (vals : List Int) (hall : ∀ i, i < offs.size → (lo + i) ∈ vals ∨ (offs[i]?).getD dflt = dflt) (hs : hi + 1 - lo = offs.size) (hz : z ∉ vals) : swOff dflt lo hi offs z = dflt := by
  unfold swOff
  by_cases h : z < lo ∨ hi < z
  · rw [if_pos h]
  · rw [if_neg h]
    rcases hall (z - lo).toNat (by omega) with q | q
    · exact absurd (by rw [show lo + ((z - lo).toNat : Int) = z by omega] at q; exact q) hz
    · exact q
theorem q_fg {g : GT} {R : Room} {own : String} {cc : ByteArray} {nL : Nat} {ret : Option FieldType} {kc ks : Nat} {Z : List Frame → Array Value → State → State → Prop} {pc : Nat} {tl tl' : List (Option Value)} {st : List Value} {M : TM} (k : TR g R own cc nL ret kc ks Z pc tl' st M) (h : lsub tl' tl) : TR g R own cc nL ret kc ks Z pc tl st M := q_fgt h k
theorem sw_eq {dflt lo hi off : Int} {offs : Array Int} {x v : Int32} (h : x = v) (e : swOff dflt lo hi offs v.toInt = off) : swOff dflt lo hi offs x.toInt = off := by rw [h]; exact e
theorem lk_eq {dflt off : Int} {ps : List (Int × Int)} {x v : Int32} (h : x = v) (e : Op.lookupswitch.offset ps dflt v.toInt = off) : Op.lookupswitch.offset ps dflt x.toInt = off := by rw [h]; exact e
theorem Zm_post {g : GT} {P P' : Option Value → TM → Prop} (h : ∀ r M', P r M' → P' r M') {below : List Frame} {args : Array Value} {s t : State} (q : Zm g P below args s t) : Zm g P' below args s t := by
  obtain ⟨o, h1, h2, ⟨r, M', h3, h4, h5⟩, h6⟩ := q
  exact ⟨o, h1, h2, ⟨r, M', h3, h _ _ h4, h5⟩, h6⟩
theorem TR_post {g : GT} {R : Room} {own : String} {cc : ByteArray} {nL : Nat} {ret : Option FieldType} {kc ks : Nat} {P P' : Option Value → TM → Prop} {pc : Nat} {tl : List (Option Value)} {st : List Value} {M : TM} (k : TR g R own cc nL ret kc ks (Zm g P) pc tl st M) (h : ∀ r M', P r M' → P' r M') : TR g R own cc nL ret kc ks (Zm g P') pc tl st M := by
  intro p e s m args below meth c H locs ls C hP hS hl T hT X
  obtain ⟨t, h1, h2⟩ := k p e s m args below meth c H locs ls C hP hS hl T hT X
  exact ⟨t, h1, Zm_post h h2⟩
