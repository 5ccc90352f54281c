def miF (x y : Int32) : Int32 := if y < x then y else x
def maF (x y : Int32) : Int32 := if x < y then y else x
def abF (x : Int32) : Int32 := if 0 ≤ x then x else 0 - x
section TRM
variable {g : GT} {R : Room} {own : String} {cc : ByteArray} {nL : Nat} {ret : Option FieldType} {kc ks : Nat} {Z : List Frame → Array Value → State → State → Prop} {pc : Nat} {tl : List (Option Value)} {rest : List Value} {M : TM} {idx : Nat}
theorem q_mmax {x y : Int32} (n : Nat) (hd : decode cc pc = .ok (.invokestatic idx, 3)) (hn : pc + 3 = n) (cw : CWS own idx yJ9_max_7cf53 cJ9_max_7cf53 2 (some .int) 2) (hroom : 1 ≤ R.frames ∧ 21 ≤ R.locals) (hcs : kc ≤ R.cells ∧ ks ≤ R.slots) (hr : (rest.map fun v => v.category).sum ≤ 8)
    (kk : TR g R own cc nL ret kc ks Z n tl (.int (maF x y) :: rest) M) : TR g R own cc nL ret kc ks Z pc tl (.int y :: .int x :: rest) M := by
  subst hn
  intro p e s m args below meth c H locs ls C hP hS hl
  obtain ⟨⟨w1, w2, w3, w4⟩, w5⟩ := cw
  have ht : ∀ w ∈ TB, w.before args s = true := C.2.2.2.2.2.2.1
  exact va_mmax C.1 C.2.1 (C.2.2.1.trans hl.1.symm) C.2.2.2.2.2.1 (ht _ w1) (ht _ w5) (ht _ w2) (ht _ w3) hroom.1 (by omega) hcs.1 hcs.2 hd (kk p e s m args below meth c H locs ls C hP hS hl)
theorem q_mmin {x y : Int32} (n : Nat) (hd : decode cc pc = .ok (.invokestatic idx, 3)) (hn : pc + 3 = n) (cw : CWS own idx yJ9_min_7cf53 cJ9_min_7cf53 2 (some .int) 2) (hroom : 1 ≤ R.frames ∧ 21 ≤ R.locals) (hcs : kc ≤ R.cells ∧ ks ≤ R.slots) (hr : (rest.map fun v => v.category).sum ≤ 8)
    (kk : TR g R own cc nL ret kc ks Z n tl (.int (miF x y) :: rest) M) : TR g R own cc nL ret kc ks Z pc tl (.int y :: .int x :: rest) M := by
  subst hn
  intro p e s m args below meth c H locs ls C hP hS hl
  obtain ⟨⟨w1, w2, w3, w4⟩, w5⟩ := cw
  have ht : ∀ w ∈ TB, w.before args s = true := C.2.2.2.2.2.2.1
  exact va_mmin C.1 C.2.1 (C.2.2.1.trans hl.1.symm) C.2.2.2.2.2.1 (ht _ w1) (ht _ w5) (ht _ w2) (ht _ w3) hroom.1 (by omega) hcs.1 hcs.2 hd (kk p e s m args below meth c H locs ls C hP hS hl)
theorem q_mabs {x : Int32} (n : Nat) (hd : decode cc pc = .ok (.invokestatic idx, 3)) (hn : pc + 3 = n) (cw : CWS own idx yJ9_abs_0f7a4 cJ9_abs_0f7a4 1 (some .int) 1) (hroom : 1 ≤ R.frames ∧ 21 ≤ R.locals) (hcs : kc ≤ R.cells ∧ ks ≤ R.slots) (hr : (rest.map fun v => v.category).sum ≤ 8)
    (kk : TR g R own cc nL ret kc ks Z n tl (.int (abF x) :: rest) M) : TR g R own cc nL ret kc ks Z pc tl (.int x :: rest) M := by
  subst hn
  intro p e s m args below meth c H locs ls C hP hS hl
  obtain ⟨⟨w1, w2, w3, w4⟩, w5⟩ := cw
  have ht : ∀ w ∈ TB, w.before args s = true := C.2.2.2.2.2.2.1
  exact va_mabs C.1 C.2.1 (C.2.2.1.trans hl.1.symm) C.2.2.2.2.2.1 (ht _ w1) (ht _ w5) (ht _ w2) (ht _ w3) hroom.1 (by omega) hcs.1 hcs.2 hd (kk p e s m args below meth c H locs ls C hP hS hl)
end TRM
def us (x : Int32) (n : Int32) : Int32 := (x.toUInt32 >>> (n.toUInt32 &&& Int32.toUInt32 31)).toInt32
def bc1 (x : Int32) : Int32 := x - (us x 1 &&& 1431655765)
def bc2 (x : Int32) : Int32 := (x &&& 858993459) + (us x 2 &&& 858993459)
def bc3 (x : Int32) : Int32 := (x + us x 4) &&& 252645135
def bc4 (x : Int32) : Int32 := x + us x 8
def bc5 (x : Int32) : Int32 := (x + us x 16) &&& 63
theorem bc_ok : ∀ a, a < 1024 → bc5 (bc4 (bc3 (bc2 (bc1 (nI a))))) = nI (popc a) := by decide +kernel
set_option maxRecDepth 100000 in
set_option maxHeartbeats 4000000 in
theorem cJ_bitCount {g : GT} (M : TM) (x : Int32) (a : Nat) (hx : x = nI a) (ha : a < 1024) : Cn g yJ6_bitCount_0f7a4 cJ6_bitCount_0f7a4 1 (some .int) 0 [.int x] M (Rt (.int (nI (popc a))) M) := by
  refine Cn.ofTR (by decide +kernel) (Nat.le_of_ble_eq_true rfl) ?_
  subst hx
  rw [← bc_ok a ha]
  refine q_iload_n 1 dJ6_bitCount_0f7a4_0 rfl rfl ?_
  refine q_iload_n 2 dJ6_bitCount_0f7a4_1 rfl rfl ?_
  refine q_iconst (v := 1) 3 dJ6_bitCount_0f7a4_2 rfl rfl ?_
  refine q_iushr 4 dJ6_bitCount_0f7a4_3 rfl ?_
  refine q_ldc_w 7 dJ6_bitCount_0f7a4_4 rfl cs_J6_265 ?_
  refine q_iand 8 dJ6_bitCount_0f7a4_7 rfl ?_
  refine q_isub 9 dJ6_bitCount_0f7a4_8 rfl ?_
  refine q_istore_n 10 dJ6_bitCount_0f7a4_9 rfl (by decide) rfl ?_
  refine q_iload_n 11 dJ6_bitCount_0f7a4_10 rfl rfl ?_
  refine q_ldc_w 14 dJ6_bitCount_0f7a4_11 rfl cs_J6_266 ?_
  refine q_iand 15 dJ6_bitCount_0f7a4_14 rfl ?_
  refine q_iload_n 16 dJ6_bitCount_0f7a4_15 rfl rfl ?_
  refine q_iconst (v := 2) 17 dJ6_bitCount_0f7a4_16 rfl rfl ?_
  refine q_iushr 18 dJ6_bitCount_0f7a4_17 rfl ?_
  refine q_ldc_w 21 dJ6_bitCount_0f7a4_18 rfl cs_J6_266 ?_
  refine q_iand 22 dJ6_bitCount_0f7a4_21 rfl ?_
  refine q_iadd 23 dJ6_bitCount_0f7a4_22 rfl ?_
  refine q_istore_n 24 dJ6_bitCount_0f7a4_23 rfl (by decide) rfl ?_
  refine q_iload_n 25 dJ6_bitCount_0f7a4_24 rfl rfl ?_
  refine q_iload_n 26 dJ6_bitCount_0f7a4_25 rfl rfl ?_
  refine q_iconst (v := 4) 27 dJ6_bitCount_0f7a4_26 rfl rfl ?_
  refine q_iushr 28 dJ6_bitCount_0f7a4_27 rfl ?_
  refine q_iadd 29 dJ6_bitCount_0f7a4_28 rfl ?_
  refine q_ldc_w 32 dJ6_bitCount_0f7a4_29 rfl cs_J6_267 ?_
  refine q_iand 33 dJ6_bitCount_0f7a4_32 rfl ?_
  refine q_istore_n 34 dJ6_bitCount_0f7a4_33 rfl (by decide) rfl ?_
  refine q_iload_n 35 dJ6_bitCount_0f7a4_34 rfl rfl ?_
  refine q_iload_n 36 dJ6_bitCount_0f7a4_35 rfl rfl ?_
  refine q_bipush (v := 8) 38 dJ6_bitCount_0f7a4_36 rfl rfl ?_
  refine q_iushr 39 dJ6_bitCount_0f7a4_38 rfl ?_
  refine q_iadd 40 dJ6_bitCount_0f7a4_39 rfl ?_
  refine q_istore_n 41 dJ6_bitCount_0f7a4_40 rfl (by decide) rfl ?_
  refine q_iload_n 42 dJ6_bitCount_0f7a4_41 rfl rfl ?_
  refine q_iload_n 43 dJ6_bitCount_0f7a4_42 rfl rfl ?_
  refine q_bipush (v := 16) 45 dJ6_bitCount_0f7a4_43 rfl rfl ?_
  refine q_iushr 46 dJ6_bitCount_0f7a4_45 rfl ?_
  refine q_iadd 47 dJ6_bitCount_0f7a4_46 rfl ?_
  refine q_istore_n 48 dJ6_bitCount_0f7a4_47 rfl (by decide) rfl ?_
  refine q_iload_n 49 dJ6_bitCount_0f7a4_48 rfl rfl ?_
  refine q_bipush (v := 63) 51 dJ6_bitCount_0f7a4_49 rfl rfl ?_
  refine q_iand 52 dJ6_bitCount_0f7a4_51 rfl ?_
  refine q_iret dJ6_bitCount_0f7a4_52 ?_
  exact ⟨rfl, rfl⟩
set_option maxRecDepth 100000 in
set_option maxHeartbeats 4000000 in
theorem lJ_fill {g : GT} (M : TM) (t k : Nat) (v : Int32) (ht : 9 < t) (hk : k < cnt t) : ∀ (j : Nat) (i : Nat) (y : Int32), len t - i < j → i ≤ len t → y = nI i → TR g (rmD 0) RJ7 cJ7_fill_53178 4 none 0 0 (Zm g (Rv (putA M t k (mixF (fun _ => v) (M t k) (len t))))) 5 [some (.ref (gad g t k)), some (.int v), some (.int y), some (.int (nI (len t)))] [] (putA M t k (mixF (fun _ => v) (M t k) i)) := by
  intro j
  induction j with
  | zero => intro i y hj hi hy; exact absurd hj (by omega)
  | succ j ih =>
    intro i y hj hi hy
    subst hy
    have hl := len_lt t
    refine q_iload_n 6 dJ7_fill_53178_5 rfl rfl ?_
    refine q_iload_n 7 dJ7_fill_53178_6 rfl rfl ?_
    refine q_icmp_ge 20 10 dJ7_fill_53178_7 rfl rfl (fun h_7 => ?_) (fun h_7 => ?_)
    · skip
      rw [nI_leI (by omega) (by omega)] at h_7
      refine q_vret dJ7_fill_53178_20 ?_
      exact ⟨rfl, by rw [show i = len t by omega]⟩
    · skip
      rw [nI_leI (by omega) (by omega)] at h_7
      refine q_aload_n 11 dJ7_fill_53178_10 rfl rfl ?_
      refine q_iload_n 12 dJ7_fill_53178_11 rfl rfl ?_
      refine q_iload_n 13 dJ7_fill_53178_12 rfl rfl ?_
      refine q_iast 14 dJ7_fill_53178_13 rfl ht hk rfl (by omega) ?_
      refine q_iinc 17 dJ7_fill_53178_14 rfl rfl (by decide) rfl (nI_1 i) ?_
      refine q_goto 5 dJ7_fill_53178_17 rfl ?_
      refine q_eqM (M' := putA M t k (mixF (fun _ => v) (M t k) (i + 1))) (by rw [putA_pp, putA_s, ← mixF_s]) (q_fg (ih (i + 1) _ (by omega) (by omega) rfl) ⟨rfl, rfl, rfl, rfl, trivial⟩)
set_option maxRecDepth 100000 in
set_option maxHeartbeats 4000000 in
theorem cJ_fill {g : GT} (M : TM) (t k : Nat) (v : Int32) (ht : 9 < t) (hk : k < cnt t) : Cn g yJ7_fill_53178 cJ7_fill_53178 4 none 0 [.ref (gad g t k), .int v] M (Rv (putA M t k (mixF (fun _ => v) (M t k) (len t)))) := by
  refine Cn.ofTR (by decide +kernel) (Nat.le_of_ble_eq_true rfl) ?_
  refine q_iconst (v := 0) 1 dJ7_fill_53178_0 rfl rfl ?_
  refine q_istore_n 2 dJ7_fill_53178_1 rfl (by decide) rfl ?_
  refine q_aload_n 3 dJ7_fill_53178_2 rfl rfl ?_
  refine q_alen 4 dJ7_fill_53178_3 rfl ht hk rfl ?_
  refine q_istore_n 5 dJ7_fill_53178_4 rfl (by decide) rfl ?_
  exact q_eqM (show M = putA M t k (mixF (fun _ => v) (M t k) 0) by rw [mixF_0, putA_id]) (q_fg (lJ_fill M t k v ht hk (len t + 1) 0 0 (by omega) (by omega) rfl) ⟨rfl, rfl, rfl, rfl, trivial⟩)
set_option maxRecDepth 100000 in
set_option maxHeartbeats 4000000 in
theorem c5_within {g : GT} (M : TM) (v lo hi : Int32) : Cn g yX5_within cX5_within 3 (some .boolean) 0 [.int v, .int lo, .int hi] M (Rt (.int (bI (lo ≤ v ∧ v ≤ hi))) M) := by
  refine Cn.ofTR (by decide +kernel) (Nat.le_of_ble_eq_true rfl) ?_
  refine q_iload_n 1 dX5_within_0 rfl rfl ?_
  refine q_iload_n 2 dX5_within_1 rfl rfl ?_
  refine q_icmp_lt 14 5 dX5_within_2 rfl rfl (fun h_2 => ?_) (fun h_2 => ?_)
  · skip
    refine q_iconst (v := 0) 15 dX5_within_14 rfl rfl ?_
    refine q_zret dX5_within_15 rfl ?_
    refine ⟨congrArg (fun x => some (Value.int x)) ?_, rfl⟩
    try simp only [← Int32.not_lt, ← Int64.not_lt] at *
    simp_all [bI, -Int32.not_lt, -Int64.not_lt, -Int32.not_le, -Int64.not_le]
  · skip
    refine q_iload_n 6 dX5_within_5 rfl rfl ?_
    refine q_iload_n 7 dX5_within_6 rfl rfl ?_
    refine q_icmp_gt 14 10 dX5_within_7 rfl rfl (fun h_7 => ?_) (fun h_7 => ?_)
    · skip
      refine q_iconst (v := 0) 15 dX5_within_14 rfl rfl ?_
      refine q_zret dX5_within_15 rfl ?_
      refine ⟨congrArg (fun x => some (Value.int x)) ?_, rfl⟩
      try simp only [← Int32.not_lt, ← Int64.not_lt] at *
      simp_all [bI, -Int32.not_lt, -Int64.not_lt, -Int32.not_le, -Int64.not_le]
    · skip
      refine q_iconst (v := 1) 11 dX5_within_10 rfl rfl ?_
      refine q_goto 15 dX5_within_11 rfl ?_
      refine q_zret dX5_within_15 rfl ?_
      refine ⟨congrArg (fun x => some (Value.int x)) ?_, rfl⟩
      try simp only [← Int32.not_lt, ← Int64.not_lt] at *
      simp_all [bI, -Int32.not_lt, -Int64.not_lt, -Int32.not_le, -Int64.not_le]
set_option maxRecDepth 100000 in
set_option maxHeartbeats 4000000 in
theorem c5_held {g : GT} (M : TM) (v most : Int32) : Cn g yX5_held cX5_held 2 (some .int) 1 [.int v, .int most] M (Rt (.int (maF 0 (miF most v))) M) := by
  refine Cn.ofTR (by decide +kernel) (Nat.le_of_ble_eq_true rfl) ?_
  refine q_iconst (v := 0) 1 dX5_held_0 rfl rfl ?_
  refine q_iload_n 2 dX5_held_1 rfl rfl ?_
  refine q_iload_n 3 dX5_held_2 rfl rfl ?_
  refine q_mmin 6 dX5_held_3 rfl cw_X5_149 ⟨by decide, by decide⟩ ⟨by decide, by decide⟩ (Nat.le_of_ble_eq_true rfl) ?_
  refine q_mmax 9 dX5_held_6 rfl cw_X5_319 ⟨by decide, by decide⟩ ⟨by decide, by decide⟩ (Nat.le_of_ble_eq_true rfl) ?_
  refine q_iret dX5_held_9 ?_
  exact ⟨rfl, rfl⟩
set_option maxRecDepth 100000 in
set_option maxHeartbeats 4000000 in
theorem c5_isKind {g : GT} (M : TM) (k : Int32) : Cn g yX5_isKind cX5_isKind 1 (some .boolean) 1 [.int k] M (Rt (.int (bI (0 ≤ k ∧ k ≤ 5))) M) := by
  refine Cn.ofTR (by decide +kernel) (Nat.le_of_ble_eq_true rfl) ?_
  refine q_iload_n 1 dX5_isKind_0 rfl rfl ?_
  refine q_iconst (v := 0) 2 dX5_isKind_1 rfl rfl ?_
  refine q_iconst (v := 5) 3 dX5_isKind_2 rfl rfl ?_
  refine q_callSt 6 dX5_isKind_3 rfl (c5_within _ _ _ _) cw_X5_66 rfl rfl ⟨by decide, by decide⟩ ⟨by decide, by decide⟩ (Nat.le_of_ble_eq_true rfl) ?_
  refine q_zret dX5_isKind_6 bI_n ?_
  exact ⟨rfl, rfl⟩
set_option maxRecDepth 100000 in
set_option maxHeartbeats 4000000 in
theorem c5_isCell {g : GT} (M : TM) (k : Int32) : Cn g yX5_isCell cX5_isCell 1 (some .boolean) 1 [.int k] M (Rt (.int (bI (0 ≤ k ∧ k ≤ 5))) M) := by
  refine Cn.ofTR (by decide +kernel) (Nat.le_of_ble_eq_true rfl) ?_
  refine q_iload_n 1 dX5_isCell_0 rfl rfl ?_
  refine q_iconst (v := 0) 2 dX5_isCell_1 rfl rfl ?_
  refine q_iconst (v := 5) 3 dX5_isCell_2 rfl rfl ?_
  refine q_callSt 6 dX5_isCell_3 rfl (c5_within _ _ _ _) cw_X5_66 rfl rfl ⟨by decide, by decide⟩ ⟨by decide, by decide⟩ (Nat.le_of_ble_eq_true rfl) ?_
  refine q_zret dX5_isCell_6 bI_n ?_
  exact ⟨rfl, rfl⟩
set_option maxRecDepth 100000 in
set_option maxHeartbeats 4000000 in
theorem c5_isSlot {g : GT} (M : TM) (k : Int32) : Cn g yX5_isSlot cX5_isSlot 1 (some .boolean) 1 [.int k] M (Rt (.int (bI (0 ≤ k ∧ k ≤ 4))) M) := by
  refine Cn.ofTR (by decide +kernel) (Nat.le_of_ble_eq_true rfl) ?_
  refine q_iload_n 1 dX5_isSlot_0 rfl rfl ?_
  refine q_iconst (v := 0) 2 dX5_isSlot_1 rfl rfl ?_
  refine q_iconst (v := 4) 3 dX5_isSlot_2 rfl rfl ?_
  refine q_callSt 6 dX5_isSlot_3 rfl (c5_within _ _ _ _) cw_X5_66 rfl rfl ⟨by decide, by decide⟩ ⟨by decide, by decide⟩ (Nat.le_of_ble_eq_true rfl) ?_
  refine q_zret dX5_isSlot_6 bI_n ?_
  exact ⟨rfl, rfl⟩
set_option maxRecDepth 100000 in
set_option maxHeartbeats 4000000 in
theorem c5_isSheet {g : GT} (M : TM) (k : Int32) : Cn g yX5_isSheet cX5_isSheet 1 (some .boolean) 1 [.int k] M (Rt (.int (bI (0 ≤ k ∧ k ≤ 3))) M) := by
  refine Cn.ofTR (by decide +kernel) (Nat.le_of_ble_eq_true rfl) ?_
  refine q_iload_n 1 dX5_isSheet_0 rfl rfl ?_
  refine q_iconst (v := 0) 2 dX5_isSheet_1 rfl rfl ?_
  refine q_iconst (v := 3) 3 dX5_isSheet_2 rfl rfl ?_
  refine q_callSt 6 dX5_isSheet_3 rfl (c5_within _ _ _ _) cw_X5_66 rfl rfl ⟨by decide, by decide⟩ ⟨by decide, by decide⟩ (Nat.le_of_ble_eq_true rfl) ?_
  refine q_zret dX5_isSheet_6 bI_n ?_
  exact ⟨rfl, rfl⟩
set_option maxRecDepth 100000 in
set_option maxHeartbeats 4000000 in
theorem c5_isMark {g : GT} (M : TM) (k : Int32) : Cn g yX5_isMark cX5_isMark 2 (some .boolean) 1 [.ref (gad g 5 0), .int k] M (Rt (.int (bI (0 ≤ k ∧ k ≤ M 4 0 11 - 1))) M) := by
  refine Cn.ofTR (by decide +kernel) (Nat.le_of_ble_eq_true rfl) ?_
  refine q_iload_n 1 dX5_isMark_0 rfl rfl ?_
  refine q_iconst (v := 0) 2 dX5_isMark_1 rfl rfl ?_
  refine q_aload_n 3 dX5_isMark_2 rfl rfl ?_
  refine q_getR 6 dX5_isMark_3 rfl fl_X5_21 (by decide) rfl rfl ?_
  refine q_getI 9 dX5_isMark_6 rfl fl_X5_74 (by decide) rfl (by decide) ?_
  refine q_iconst (v := 1) 10 dX5_isMark_9 rfl rfl ?_
  refine q_isub 11 dX5_isMark_10 rfl ?_
  refine q_callSt 14 dX5_isMark_11 rfl (c5_within _ _ _ _) cw_X5_66 rfl rfl ⟨by decide, by decide⟩ ⟨by decide, by decide⟩ (Nat.le_of_ble_eq_true rfl) ?_
  refine q_zret dX5_isMark_14 bI_n ?_
  exact ⟨rfl, rfl⟩
set_option maxRecDepth 100000 in
set_option maxHeartbeats 4000000 in
theorem c5_isMissing {g : GT} (M : TM) (x : Int32) (k : Nat) (hx : x = nI k) (h4 : k < 4) : Cn g yX5_isMissing cX5_isMissing 2 (some .boolean) 0 [.ref (gad g 5 0), .int x] M (Rt (.int (bI (M 1 k 1 = -1))) M) := by
  refine Cn.ofTR (by decide +kernel) (Nat.le_of_ble_eq_true rfl) ?_
  refine q_aload_n 1 dX5_isMissing_0 rfl rfl ?_
  refine q_getR 4 dX5_isMissing_1 rfl fl_X5_44 (by decide) rfl rfl ?_
  refine q_iload_n 5 dX5_isMissing_4 rfl rfl ?_
  refine q_aald7 6 dX5_isMissing_5 rfl hx h4 ?_
  refine q_getI 9 dX5_isMissing_6 rfl fl_X5_267 (show k < 9 by omega) rfl (by decide) ?_
  refine q_iconst (v := (-1)) 10 dX5_isMissing_9 rfl rfl ?_
  refine q_icmp_ne 17 13 dX5_isMissing_10 rfl rfl (fun h_10 => ?_) (fun h_10 => ?_)
  · skip
    refine q_iconst (v := 0) 18 dX5_isMissing_17 rfl rfl ?_
    refine q_zret dX5_isMissing_18 rfl ?_
    refine ⟨congrArg (fun x => some (Value.int x)) ?_, rfl⟩
    try simp only [← Int32.not_lt, ← Int64.not_lt] at *
    simp_all [bI, -Int32.not_lt, -Int64.not_lt, -Int32.not_le, -Int64.not_le]
  · skip
    refine q_iconst (v := 1) 14 dX5_isMissing_13 rfl rfl ?_
    refine q_goto 18 dX5_isMissing_14 rfl ?_
    refine q_zret dX5_isMissing_18 rfl ?_
    refine ⟨congrArg (fun x => some (Value.int x)) ?_, rfl⟩
    try simp only [← Int32.not_lt, ← Int64.not_lt] at *
    simp_all [bI, -Int32.not_lt, -Int64.not_lt, -Int32.not_le, -Int64.not_le]
set_option maxRecDepth 100000 in
set_option maxHeartbeats 4000000 in
theorem c5_worthOf {g : GT} (M : TM) (k i s : Int32) : Cn g yX5_worthOf cX5_worthOf 3 (some .int) 0 [.int k, .int i, .int s] M (Rt (.int (woF k i s)) M) := by
  refine Cn.ofTR (by decide +kernel) (Nat.le_of_ble_eq_true rfl) ?_
  refine q_iload_n 1 dX5_worthOf_0 rfl rfl ?_
  by_cases hs_1_1 : k = (1 : Int32)
  · skip
    refine q_tab 36 dX5_worthOf_1 rfl (sw_eq hs_1_1 rfl) rfl ?_
    refine q_iload_n 37 dX5_worthOf_36 rfl rfl ?_
    refine q_iload_n 38 dX5_worthOf_37 rfl rfl ?_
    refine q_iadd 39 dX5_worthOf_38 rfl ?_
    refine q_iret dX5_worthOf_39 ?_
    refine ⟨congrArg (fun x => some (Value.int x)) ?_, rfl⟩
    unfold woF
    simp_all [-Int32.not_lt, -Int64.not_lt, -Int32.not_le, -Int64.not_le]
  by_cases hs_1_2 : k = (2 : Int32)
  · skip
    refine q_tab 46 dX5_worthOf_1 rfl (sw_eq hs_1_2 rfl) rfl ?_
    refine q_bipush (v := 99) 48 dX5_worthOf_46 rfl rfl ?_
    refine q_iload_n 49 dX5_worthOf_48 rfl rfl ?_
    refine q_isub 50 dX5_worthOf_49 rfl ?_
    refine q_iret dX5_worthOf_50 ?_
    refine ⟨congrArg (fun x => some (Value.int x)) ?_, rfl⟩
    unfold woF
    simp_all [-Int32.not_lt, -Int64.not_lt, -Int32.not_le, -Int64.not_le]
  by_cases hs_1_3 : k = (3 : Int32)
  · skip
    refine q_tab 40 dX5_worthOf_1 rfl (sw_eq hs_1_3 rfl) rfl ?_
    refine q_iload_n 41 dX5_worthOf_40 rfl rfl ?_
    refine q_iload_n 42 dX5_worthOf_41 rfl rfl ?_
    refine q_iadd 43 dX5_worthOf_42 rfl ?_
    refine q_iconst (v := 2) 44 dX5_worthOf_43 rfl rfl ?_
    refine q_idiv 45 dX5_worthOf_44 rfl (by decide) ?_
    refine q_iret dX5_worthOf_45 ?_
    refine ⟨congrArg (fun x => some (Value.int x)) ?_, rfl⟩
    unfold woF
    simp_all [-Int32.not_lt, -Int64.not_lt, -Int32.not_le, -Int64.not_le]
  by_cases hs_1_4 : k = (4 : Int32)
  · skip
    refine q_tab 51 dX5_worthOf_1 rfl (sw_eq hs_1_4 rfl) rfl ?_
    refine q_bipush (v := 99) 53 dX5_worthOf_51 rfl rfl ?_
    refine q_iload_n 54 dX5_worthOf_53 rfl rfl ?_
    refine q_isub 55 dX5_worthOf_54 rfl ?_
    refine q_bipush (v := 7) 57 dX5_worthOf_55 rfl rfl ?_
    refine q_iadd 58 dX5_worthOf_57 rfl ?_
    refine q_iret dX5_worthOf_58 ?_
    refine ⟨congrArg (fun x => some (Value.int x)) ?_, rfl⟩
    unfold woF
    simp_all [-Int32.not_lt, -Int64.not_lt, -Int32.not_le, -Int64.not_le]
  by_cases hs_1_5 : k = (5 : Int32)
  · skip
    refine q_tab 59 dX5_worthOf_1 rfl (sw_eq hs_1_5 rfl) rfl ?_
    refine q_iload_n 60 dX5_worthOf_59 rfl rfl ?_
    refine q_iret dX5_worthOf_60 ?_
    refine ⟨congrArg (fun x => some (Value.int x)) ?_, rfl⟩
    unfold woF
    simp_all [-Int32.not_lt, -Int64.not_lt, -Int32.not_le, -Int64.not_le]
  refine q_tab 61 dX5_worthOf_1 rfl (sw_def [1, 2, 3, 4, 5] (by decide) rfl (by simp only [List.mem_cons, List.not_mem_nil, or_false, not_or]; exact ⟨lv_neT hs_1_1 rfl, lv_neT hs_1_2 rfl, lv_neT hs_1_3 rfl, lv_neT hs_1_4 rfl, lv_neT hs_1_5 rfl⟩)) rfl ?_
  refine q_iload_n 62 dX5_worthOf_61 rfl rfl ?_
  refine q_iret dX5_worthOf_62 ?_
  refine ⟨congrArg (fun x => some (Value.int x)) ?_, rfl⟩
  unfold woF
  simp_all [-Int32.not_lt, -Int64.not_lt, -Int32.not_le, -Int64.not_le]
/-- up the kinds -/
def rch (w : Int32) : Nat → Int32 → Prop
  | 0, _ => False
  | f + 1, k => (0 ≤ k ∧ k ≤ 5) ∧ (k = w ∨ rch w f (raL.getD (tn k) 0))
theorem rch_ok : ∀ a, a < 6 → ∀ w, rch w 6 (nI a) ↔ (nI a = w ∨ w = 0 ∨ (w = 1 ∧ nI a = 3) ∨ (w = 2 ∧ nI a = 4)) := by
  have r0 : ∀ w f, ¬ rch w f (-1) := fun w f => by cases f with | zero => exact id | succ f => exact fun q => absurd q.1 (by decide)
  have k0 : ∀ w f, rch w (f + 1) 0 ↔ (0 : Int32) = w := fun w f => ⟨fun q => q.2.elim id (fun z => absurd z (r0 w f)), fun q => ⟨by decide, Or.inl q⟩⟩
  have k1 : ∀ w f, rch w (f + 2) 1 ↔ ((1 : Int32) = w ∨ (0 : Int32) = w) := fun w f => ⟨fun q => q.2.imp id (fun z => (k0 w f).mp z), fun q => ⟨by decide, q.imp id (fun z => (k0 w f).mpr z)⟩⟩
  have k2 : ∀ w f, rch w (f + 2) 2 ↔ ((2 : Int32) = w ∨ (0 : Int32) = w) := fun w f => ⟨fun q => q.2.imp id (fun z => (k0 w f).mp z), fun q => ⟨by decide, q.imp id (fun z => (k0 w f).mpr z)⟩⟩
  have k5 : ∀ w f, rch w (f + 2) 5 ↔ ((5 : Int32) = w ∨ (0 : Int32) = w) := fun w f => ⟨fun q => q.2.imp id (fun z => (k0 w f).mp z), fun q => ⟨by decide, q.imp id (fun z => (k0 w f).mpr z)⟩⟩
  have k3 : ∀ w f, rch w (f + 3) 3 ↔ ((3 : Int32) = w ∨ (1 : Int32) = w ∨ (0 : Int32) = w) := fun w f => ⟨fun q => q.2.imp id (fun z => (k1 w f).mp z), fun q => ⟨by decide, q.imp id (fun z => (k1 w f).mpr z)⟩⟩
  have k4 : ∀ w f, rch w (f + 3) 4 ↔ ((4 : Int32) = w ∨ (2 : Int32) = w ∨ (0 : Int32) = w) := fun w f => ⟨fun q => q.2.imp id (fun z => (k2 w f).mp z), fun q => ⟨by decide, q.imp id (fun z => (k2 w f).mpr z)⟩⟩
  have e : ∀ x w : Int32, x = w ↔ w = x := fun x w => ⟨Eq.symm, Eq.symm⟩
  intro a ha w
  match a, ha with
  | 0, _ => exact (k0 w 5).trans ⟨fun q => Or.inl q, fun q => by rcases q with q | q | q | q; exact q; exact q.symm; exact absurd q.2 (by decide); exact absurd q.2 (by decide)⟩
  | 1, _ => exact (k1 w 4).trans ⟨fun q => q.imp id (fun z => Or.inl z.symm), fun q => by rcases q with q | q | q | q; exact Or.inl q; exact Or.inr q.symm; exact absurd q.2 (by decide); exact absurd q.2 (by decide)⟩
  | 2, _ => exact (k2 w 4).trans ⟨fun q => q.imp id (fun z => Or.inl z.symm), fun q => by rcases q with q | q | q | q; exact Or.inl q; exact Or.inr q.symm; exact absurd q.2 (by decide); exact absurd q.2 (by decide)⟩
  | 3, _ => exact (k3 w 3).trans ⟨fun q => by rcases q with q | q | q; exact Or.inl q; exact Or.inr (Or.inr (Or.inl ⟨q.symm, rfl⟩)); exact Or.inr (Or.inl q.symm), fun q => by rcases q with q | q | q | q; exact Or.inl q; exact Or.inr (Or.inr q.symm); exact Or.inr (Or.inl q.1.symm); exact absurd q.2 (by decide)⟩
  | 4, _ => exact (k4 w 3).trans ⟨fun q => by rcases q with q | q | q; exact Or.inl q; exact Or.inr (Or.inr (Or.inr ⟨q.symm, rfl⟩)); exact Or.inr (Or.inl q.symm), fun q => by rcases q with q | q | q | q; exact Or.inl q; exact Or.inr (Or.inr q.symm); exact absurd q.2 (by decide); exact Or.inr (Or.inl q.1.symm)⟩
  | 5, _ => exact (k5 w 4).trans ⟨fun q => q.imp id (fun z => Or.inl z.symm), fun q => by rcases q with q | q | q | q; exact Or.inl q; exact Or.inr q.symm; exact absurd q.2 (by decide); exact absurd q.2 (by decide)⟩
noncomputable def bP (p : Prop) : Int32 := @bI p (Classical.propDecidable p)
theorem bP_c {p q : Prop} [Decidable q] (h : p ↔ q) : bP p = bI q := by unfold bP bI; by_cases hq : q <;> simp [hq, h]
theorem bP_t {p : Prop} (h : p) : bP p = 1 := by unfold bP bI; simp [h]
theorem bP_f {p : Prop} (h : ¬ p) : bP p = 0 := by unfold bP bI; simp [h]
set_option maxRecDepth 100000 in
set_option maxHeartbeats 4000000 in
theorem l5_isOf {g : GT} (M : TM) (a w : Int32) : ∀ (j : Nat) (l : Nat) (k y : Int32), l ≤ 6 → l + j = 7 → y = nI l → TR g (rmD 2) RX5 cX5_isOf 4 (some .boolean) 0 0 (Zm g (Rt (.int (bP (rch w (6 - l) k))) M)) 4 [some (.int a), some (.int w), some (.int k), some (.int y)] [] M := by
  intro j
  induction j with
  | zero => intro l k y hl hj hy; exfalso; omega
  | succ j ih =>
    intro l k y hl hj hy
    subst hy
    refine q_iload_n 5 dX5_isOf_4 rfl rfl ?_
    refine q_iconst (v := 5) 6 dX5_isOf_5 rfl rfl ?_
    refine q_icmp_gt 35 9 dX5_isOf_6 rfl rfl (fun h_6 => ?_) (fun h_6 => ?_)
    · skip
      rw [show (5 : Int32) = nI 5 from rfl, nI_ltI (by omega) (by omega)] at h_6
      refine q_iconst (v := 0) 36 dX5_isOf_35 rfl rfl ?_
      refine q_zret dX5_isOf_36 rfl ?_
      refine ⟨congrArg (fun x => some (Value.int x)) ?_, rfl⟩
      refine (bP_f ?_).symm
      first | (rw [show 6 - l = 0 by omega]; exact id) | (rw [show 6 - l = (5 - l) + 1 by omega]; exact fun z => h_13 z.1)
    · skip
      rw [show (5 : Int32) = nI 5 from rfl, nI_ltI (by omega) (by omega)] at h_6
      refine q_iload_n 10 dX5_isOf_9 rfl rfl ?_
      refine q_callSt 13 dX5_isOf_10 rfl (c5_isKind _ _) cw_X5_62 rfl rfl ⟨by decide, by decide⟩ ⟨by decide, by decide⟩ (Nat.le_of_ble_eq_true rfl) ?_
      refine q_if_eq 35 16 dX5_isOf_13 rfl rfl (fun h_13 => ?_) (fun h_13 => ?_)
      · skip
        simp only [bI_0, Classical.not_not] at h_13
        refine q_iconst (v := 0) 36 dX5_isOf_35 rfl rfl ?_
        refine q_zret dX5_isOf_36 rfl ?_
        refine ⟨congrArg (fun x => some (Value.int x)) ?_, rfl⟩
        refine (bP_f ?_).symm
        first | (rw [show 6 - l = 0 by omega]; exact id) | (rw [show 6 - l = (5 - l) + 1 by omega]; exact fun z => h_13 z.1)
      · skip
        simp only [bI_0, Classical.not_not] at h_13
        obtain ⟨ek, lk⟩ := rg_tn h_13 (n := 5) rfl
        refine q_iload_n 17 dX5_isOf_16 rfl rfl ?_
        refine q_iload_n 18 dX5_isOf_17 rfl rfl ?_
        refine q_icmp_ne 23 21 dX5_isOf_18 rfl rfl (fun h_18 => ?_) (fun h_18 => ?_)
        · skip
          refine q_gets49 26 dX5_isOf_23 rfl gs_X5_322 ?_
          refine q_iload_n 27 dX5_isOf_26 rfl rfl ?_
          refine q_tald 28 dX5_isOf_27 rfl (by decide) ek (show tn k < 6 by omega) rfl ?_
          refine q_istore_n 29 dX5_isOf_28 rfl (by decide) rfl ?_
          refine q_iinc 32 dX5_isOf_29 rfl rfl (by decide) rfl (nI_1 l) ?_
          refine q_goto 4 dX5_isOf_32 rfl ?_
          have q := ih (l + 1) (raL.getD (tn k) 0) _ (by omega) (by omega) rfl
          rw [show rch w (6 - l) k = rch w (6 - (l + 1)) (raL.getD (tn k) 0) from propext (by rw [show 6 - l = (6 - (l + 1)) + 1 by omega]; exact ⟨fun z => z.2.elim (fun e => absurd e h_18) id, fun z => ⟨h_13, Or.inr z⟩⟩)]
          exact q_fg q ⟨rfl, rfl, rfl, rfl, trivial⟩
        · skip
          refine q_iconst (v := 1) 22 dX5_isOf_21 rfl rfl ?_
          refine q_zret dX5_isOf_22 rfl ?_
          refine ⟨congrArg (fun x => some (Value.int x)) ?_, rfl⟩
          refine (bP_t ?_).symm
          rw [show 6 - l = (5 - l) + 1 by omega]
          exact ⟨h_13, Or.inl h_18⟩
set_option maxRecDepth 100000 in
set_option maxHeartbeats 4000000 in
theorem c5_isOf {g : GT} (M : TM) (x w : Int32) (a : Nat) (hx : x = nI a) (h6 : a < 6) : Cn g yX5_isOf cX5_isOf 4 (some .boolean) 2 [.int x, .int w] M (Rt (.int (bI (x = w ∨ w = 0 ∨ (w = 1 ∧ x = 3) ∨ (w = 2 ∧ x = 4)))) M) := by
  refine Cn.ofTR (by decide +kernel) (Nat.le_of_ble_eq_true rfl) ?_
  subst hx
  rw [← bP_c (rch_ok a h6 w)]
  refine q_iload_n 1 dX5_isOf_0 rfl rfl ?_
  refine q_istore_n 2 dX5_isOf_1 rfl (by decide) rfl ?_
  refine q_iconst (v := 0) 3 dX5_isOf_2 rfl rfl ?_
  refine q_istore_n 4 dX5_isOf_3 rfl (by decide) rfl ?_
  exact q_fg (l5_isOf M (nI a) w 7 0 (nI a) 0 (by omega) (by omega) rfl) ⟨rfl, rfl, rfl, rfl, trivial⟩
set_option maxRecDepth 100000 in
set_option maxHeartbeats 4000000 in
theorem c5_replaced {g : GT} (M : TM) (t k i : Nat) (x v most : Int32) (ht : 9 < t) (hk : k < cnt t) (hx : x = nI i) (hi : i < len t) : Cn g yX5_replaced cX5_replaced 5 (some .int) 1 [.ref (gad g t k), .int x, .int v, .int most] M (Pi (0 ≤ v ∧ v ≤ most) (M t k i) BADc (putA M t k (upd (M t k) i v)) M) := by
  refine Cn.ofTR (by decide +kernel) (Nat.le_of_ble_eq_true rfl) ?_
  have hl := len_lt t
  have hin : 0 ≤ x ∧ x ≤ nI (len t) - 1 := by
    rw [hx, ix_pre (by omega)]; exact ⟨nI_pos' (by omega), nI_le (by omega) (by omega)⟩
  refine q_iload_n 1 dX5_replaced_0 rfl rfl ?_
  refine q_iconst (v := 0) 2 dX5_replaced_1 rfl rfl ?_
  refine q_aload_n 3 dX5_replaced_2 rfl rfl ?_
  refine q_alen 4 dX5_replaced_3 rfl ht hk rfl ?_
  refine q_iconst (v := 1) 5 dX5_replaced_4 rfl rfl ?_
  refine q_isub 6 dX5_replaced_5 rfl ?_
  refine q_callSt 9 dX5_replaced_6 rfl (c5_within _ _ _ _) cw_X5_66 rfl rfl ⟨by decide, by decide⟩ ⟨by decide, by decide⟩ (Nat.le_of_ble_eq_true rfl) ?_
  refine q_if_eq 21 12 dX5_replaced_9 rfl rfl (fun h_9 => absurd hin (by simpa only [bI_0] using h_9)) (fun _ => ?_)
  refine q_iload_n 13 dX5_replaced_12 rfl rfl ?_
  refine q_iconst (v := 0) 14 dX5_replaced_13 rfl rfl ?_
  refine q_iload_n 15 dX5_replaced_14 rfl rfl ?_
  refine q_callSt 18 dX5_replaced_15 rfl (c5_within _ _ _ _) cw_X5_66 rfl rfl ⟨by decide, by decide⟩ ⟨by decide, by decide⟩ (Nat.le_of_ble_eq_true rfl) ?_
  refine q_if_ne 24 21 dX5_replaced_18 rfl rfl (fun h_18 => ?_) (fun h_18 => ?_)
  · skip
    simp only [bI_0, Classical.not_not] at h_18
    refine q_aload_n 25 dX5_replaced_24 rfl rfl ?_
    refine q_iload_n 26 dX5_replaced_25 rfl rfl ?_
    refine q_iald 27 dX5_replaced_26 rfl ht hk hx hi ?_
    refine q_istore 29 dX5_replaced_27 rfl (by decide) rfl ?_
    refine q_aload_n 30 dX5_replaced_29 rfl rfl ?_
    refine q_iload_n 31 dX5_replaced_30 rfl rfl ?_
    refine q_iload_n 32 dX5_replaced_31 rfl rfl ?_
    refine q_iast 33 dX5_replaced_32 rfl ht hk hx hi ?_
    refine q_iload 35 dX5_replaced_33 rfl rfl ?_
    refine q_iret dX5_replaced_35 ?_
    exact Pi_t h_18
  · skip
    simp only [bI_0, Classical.not_not] at h_18
    refine q_ldc 23 dX5_replaced_21 rfl cs_X5_73 ?_
    refine q_iret dX5_replaced_23 ?_
    exact Pi_f h_18
