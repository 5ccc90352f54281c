/-! STRINGS: the constants of the class's reader -/
section TRS
variable {g : GT} {R : Room} {own : String} {cc : ByteArray} {nL : Nat} {ret : Option FieldType} {kc ks : Nat} {Z : List Frame → Array Value → State → State → Prop} {pc : Nat} {tl : List (Option Value)} {st rest : List Value} {M : TM}
variable {y : MethodName} {cc' : ByteArray} {nL' : Nat} {ret' : Option FieldType} {d idx N : Nat} {P : Option Value → TM → Prop} {As : List Value} {v : Value} {M1 : TM}
theorem q_getV {i : Nat} (n : Nat) (hd : decode cc pc = .ok (.getfield 9, 3)) (hn : pc + 3 = n) (ho : own = RJ0) (hi : i < 12) (kk : TR g R own cc nL ret kc ks Z n tl (.ref (gsv g i) :: st) M) : TR g R own cc nL ret kc ks Z pc tl (.ref (gad g 53 i) :: st) M := by
  subst hn; subst ho
  intro p e s m args below meth c' H locs ls C hP hS hl
  exact vk_getf C.1 C.2.1 (C.2.2.2.2.2.2.2.2.2.2.2.2.2.1.1 i hi).2.2.1 hS C.2.2.2.2.2.1 (C.2.2.2.2.2.2.1 _ fl_J0_9) (fun _ h => h) hd (kk p e s m args below meth c' H locs ls C hP hS hl)
theorem q_getC {i : Nat} (n : Nat) (hd : decode cc pc = .ok (.getfield 15, 3)) (hn : pc + 3 = n) (ho : own = RJ0) (hi : i < 12) (kk : TR g R own cc nL ret kc ks Z n tl (.int 0 :: st) M) : TR g R own cc nL ret kc ks Z pc tl (.ref (gad g 53 i) :: st) M := by
  subst hn; subst ho
  intro p e s m args below meth c' H locs ls C hP hS hl
  exact vk_getf C.1 C.2.1 (C.2.2.2.2.2.2.2.2.2.2.2.2.2.1.1 i hi).2.1 hS C.2.2.2.2.2.1 (C.2.2.2.2.2.2.1 _ fl_J0_15) (fun _ h => h) hd (kk p e s m args below meth c' H locs ls C hP hS hl)
theorem q_getCS (n : Nat) (hd : decode cc pc = .ok (.getstatic 38, 3)) (hn : pc + 3 = n) (ho : own = RJ0) (kk : TR g R own cc nL ret kc ks Z n tl (.int 1 :: st) M) : TR g R own cc nL ret kc ks Z pc tl st M := by
  subst hn; subst ho
  intro p e s m args below meth c' H locs ls C hP hS hl
  exact va_gets C.1 C.2.1 C.2.2.2.2.2.2.2.2.2.2.2.2.2.2.2.1.1 hS C.2.2.2.2.2.1 (C.2.2.2.2.2.2.1 _ gs_J0_38) (fun _ h => h) hd (kk p e s m args below meth c' H locs ls C hP hS hl)
theorem q_getSF (n : Nat) (hd : decode cc pc = .ok (.getstatic 1053, 3)) (hn : pc + 3 = n) (ho : own = RJ0) (k0 : TR g R own cc nL ret kc ks Z n tl (.null :: st) M) (kk : ∀ a : Nat, TR g R own cc nL ret kc ks Z n tl (.ref a :: st) M) : TR g R own cc nL ret kc ks Z pc tl st M := by
  subst hn; subst ho
  intro p e s m args below meth c' H locs ls C hP hS hl
  rcases C.2.2.2.2.2.2.2.2.2.2.2.2.2.2.2.1.2 with h | ⟨a, h⟩
  · exact va_gets C.1 C.2.1 h hS C.2.2.2.2.2.1 (C.2.2.2.2.2.2.1 _ gs_J0_1053) (fun _ h => h) hd (k0 p e s m args below meth c' H locs ls C hP hS hl)
  · exact va_gets C.1 C.2.1 h hS C.2.2.2.2.2.1 (C.2.2.2.2.2.2.1 _ gs_J0_1053) (fun _ h => h) hd (kk a p e s m args below meth c' H locs ls C hP hS hl)
theorem q_alenV {i : Nat} (n : Nat) (hd : decode cc pc = .ok (.arraylength, 1)) (hn : pc + 1 = n) (hi : i < 12) (kk : TR g R own cc nL ret kc ks Z n tl (.int (nI (strL.getD i 0)) :: st) M) : TR g R own cc nL ret kc ks Z pc tl (.ref (gsv g i) :: st) M := by
  subst hn
  intro p e s m args below meth c' H locs ls C hP hS hl
  exact va_tlen C.1 C.2.1 (C.2.2.2.2.2.2.2.2.2.2.2.2.2.1.1 i hi).2.2.2 hS rfl hd (kk p e s m args below meth c' H locs ls C hP hS hl)
theorem strL_lt : ∀ i, i < 12 → strL.getD i 0 < 7 := by decide
theorem q_baldV {i j : Nat} {x : Int32} (n : Nat) (hd : decode cc pc = .ok (.baload, 1)) (hn : pc + 1 = n) (hi : i < 12) (hx : x = nI j) (hj : j < strL.getD i 0) (kk : TR g R own cc nL ret kc ks Z n tl (.int ((strB.getD i []).getD j 0) :: st) M) : TR g R own cc nL ret kc ks Z pc tl (.int x :: .ref (gsv g i) :: st) M := by
  subst hn
  have hT : strL.getD i 0 < 2 ^ 31 := Nat.lt_trans (strL_lt i hi) (by decide)
  intro p e s m args below meth c' H locs ls C hP hS hl
  exact va_tb C.1 C.2.1 (C.2.2.2.2.2.2.2.2.2.2.2.2.2.1.1 i hi).2.2.2 hS (ix_in hx hj hT) (v := .int ((strB.getD i []).getD j 0)) (by show Value.int _ = _; rw [hx, nI_clamp (by omega)]) hd (kk p e s m args below meth c' H locs ls C hP hS hl)
theorem q_callO {i : Nat} (n : Nat) (hd : decode cc pc = .ok (.invokevirtual idx, 3)) (hn : pc + 3 = n) (hC : Cn g y cc' nL' ret' d (.ref (gad g 53 i) :: As) M P) (cw : CW own idx y cc' nL' ret' N) (w5 : Cond.instanceMethod y ∈ TB) (w6 : Cond.selects y.cls y y ∈ TB) (hy : y.cls = RJ0) (hi : i < 12) (hN : As.length = N) (hst : st = As.reverse ++ .ref (gad g 53 i) :: rest) (hroom : d + 1 ≤ R.frames ∧ 8 + (nL' + 11) + 40 * d ≤ R.locals) (hcs : kc ≤ R.cells ∧ ks ≤ R.slots) (hr : (rest.map fun v => v.category).sum ≤ 8)
    (kk : ∀ (r : Option Value) (M' : TM), P r M' → TR g R own cc nL ret kc ks Z n tl (r.toList ++ rest) M') : TR g R own cc nL ret kc ks Z pc tl st M := by
  subst hn
  intro p e s m args below meth c H locs ls C hP hS hl
  obtain ⟨w1, w2, w3, w4⟩ := cw
  have ht : ∀ w ∈ TB, w.before args s = true := C.2.2.2.2.2.2.1
  refine q_back (va_runV (As := As) (rest := rest) ⟨C.1, C.2.1, C.2.2.1, C.2.2.2.2.2.1, ht⟩ hC ⟨callB_of N ht (goodTB w3) rfl rfl rfl (ht _ w2) (ht _ w1) w4 ⟨hroom.1, hroom.2⟩, ht _ w5, ht _ w6⟩ ⟨Pcn_blind, (by rw [hy]; exact vk_recv C.2.2.2.2.2.2.2.2.2.2.2.2.2.1 hi hS), fun U hU hW => Pcn_at C.2.2.2.2.2.2.2 hP hS hU hW⟩ rfl hN hl.1 hst (lv_room hr) hd ⟨by simpa using hcs.1, by simpa using hcs.2⟩) C hS hl kk
theorem q_callOt {i : Nat} (n : Nat) (hd : decode cc pc = .ok (.invokevirtual idx, 3)) (hn : pc + 3 = n) (hC : Cn g y cc' nL' ret' d (.ref (gad g 53 i) :: As) M (Rt v M1)) (cw : CW own idx y cc' nL' ret' N) (w5 : Cond.instanceMethod y ∈ TB) (w6 : Cond.selects y.cls y y ∈ TB) (hy : y.cls = RJ0) (hi : i < 12) (hN : As.length = N) (hst : st = As.reverse ++ .ref (gad g 53 i) :: rest) (hroom : d + 1 ≤ R.frames ∧ 8 + (nL' + 11) + 40 * d ≤ R.locals) (hcs : kc ≤ R.cells ∧ ks ≤ R.slots) (hr : (rest.map fun v => v.category).sum ≤ 8)
    (kk : TR g R own cc nL ret kc ks Z n tl (v :: rest) M1) : TR g R own cc nL ret kc ks Z pc tl st M := q_callO n hd hn hC cw w5 w6 hy hi hN hst hroom hcs hr (Rt.k kk)
end TRS
theorem cJ_coder {g : GT} (M : TM) (i : Nat) (hi : i < 12) : Cn g yJ0_coder_7d493 cJ0_coder_7d493 1 (some .byte) 0 [.ref (gad g 53 i)] M (Rt (.int 0) M) := by
  refine Cn.ofTR (by decide +kernel) (Nat.le_of_ble_eq_true rfl) ?_
  refine q_getCS 3 dJ0_coder_7d493_0 rfl rfl ?_
  refine q_if_eq 13 6 dJ0_coder_7d493_3 rfl rfl (fun h_3 => absurd h_3 (by decide)) (fun _ => ?_)
  refine q_aload_n 7 dJ0_coder_7d493_6 rfl rfl ?_
  refine q_getC 10 dJ0_coder_7d493_7 rfl rfl hi ?_
  refine q_goto 14 dJ0_coder_7d493_10 rfl ?_
  refine q_cret dJ0_coder_7d493_14 rfl ?_
  exact ⟨rfl, rfl⟩
set_option maxRecDepth 100000 in
set_option maxHeartbeats 4000000 in
theorem cJ_isLatin1 {g : GT} (M : TM) (i : Nat) (hi : i < 12) : Cn g yJ0_isLatin1_aae02 cJ0_isLatin1_aae02 1 (some .boolean) 0 [.ref (gad g 53 i)] M (Rt (.int 1) M) := by
  refine Cn.ofTR (by decide +kernel) (Nat.le_of_ble_eq_true rfl) ?_
  refine q_getCS 3 dJ0_isLatin1_aae02_0 rfl rfl ?_
  refine q_if_eq 17 6 dJ0_isLatin1_aae02_3 rfl rfl (fun h_3 => absurd h_3 (by decide)) (fun _ => ?_)
  refine q_aload_n 7 dJ0_isLatin1_aae02_6 rfl rfl ?_
  refine q_getC 10 dJ0_isLatin1_aae02_7 rfl rfl hi ?_
  refine q_if_ne 17 13 dJ0_isLatin1_aae02_10 rfl rfl (fun h_10 => absurd rfl h_10) (fun _ => ?_)
  refine q_iconst (v := 1) 14 dJ0_isLatin1_aae02_13 rfl rfl ?_
  refine q_goto 18 dJ0_isLatin1_aae02_14 rfl ?_
  refine q_zret dJ0_isLatin1_aae02_18 rfl ?_
  exact ⟨rfl, rfl⟩
theorem str_sh : ∀ i, i < 12 → nI (strL.getD i 0) >>> ((0 : Int32) &&& 31) = nI (strL.getD i 0) := by decide +kernel
set_option maxRecDepth 100000 in
set_option maxHeartbeats 4000000 in
theorem cJ_length {g : GT} (M : TM) (i : Nat) (hi : i < 12) : Cn g yJ0_length_8abf5 cJ0_length_8abf5 1 (some .int) 1 [.ref (gad g 53 i)] M (Rt (.int (nI (strL.getD i 0))) M) := by
  refine Cn.ofTR (by decide +kernel) (Nat.le_of_ble_eq_true rfl) ?_
  refine q_aload_n 1 dJ0_length_8abf5_0 rfl rfl ?_
  refine q_getV 4 dJ0_length_8abf5_1 rfl rfl hi ?_
  refine q_alenV 5 dJ0_length_8abf5_4 rfl hi ?_
  refine q_aload_n 6 dJ0_length_8abf5_5 rfl rfl ?_
  refine q_callOt 9 dJ0_length_8abf5_6 rfl (cJ_coder _ i hi) cw_J0_335 mJ0_coder_7d493_n mJ0_coder_7d493_v rfl hi rfl rfl ⟨by decide, by decide⟩ ⟨by decide, by decide⟩ (Nat.le_of_ble_eq_true rfl) ?_
  refine q_ishr 10 dJ0_length_8abf5_9 rfl ?_
  refine q_iret dJ0_length_8abf5_10 ?_
  exact ⟨congrArg (fun x => some (Value.int x)) (str_sh i hi), rfl⟩
set_option maxRecDepth 100000 in
set_option maxHeartbeats 4000000 in
theorem cJ_ci0 {g : GT} (M : TM) (k n : Nat) (hk : k < n) (hn : n < 2 ^ 31) : Cn g yJ3_checkIndex_8e157 cJ3_checkIndex_8e157 3 (some .int) 0 [.int (nI k), .int (nI n), .null] M (Rt (.int (nI k)) M) := by
  refine Cn.ofTR (by decide +kernel) (Nat.le_of_ble_eq_true rfl) ?_
  refine q_iload_n 1 dJ3_checkIndex_8e157_0 rfl rfl ?_
  refine q_if_lt 9 4 dJ3_checkIndex_8e157_1 rfl rfl (fun h_1 => absurd h_1 (nI_pos (by omega))) (fun _ => ?_)
  refine q_iload_n 5 dJ3_checkIndex_8e157_4 rfl rfl ?_
  refine q_iload_n 6 dJ3_checkIndex_8e157_5 rfl rfl ?_
  refine q_icmp_lt 16 9 dJ3_checkIndex_8e157_6 rfl rfl (fun _ => ?_) (fun h_6 => absurd ((nI_ltI (by omega) hn).mpr hk) h_6)
  refine q_iload_n 17 dJ3_checkIndex_8e157_16 rfl rfl ?_
  refine q_iret dJ3_checkIndex_8e157_17 ?_
  exact ⟨rfl, rfl⟩
set_option maxRecDepth 100000 in
set_option maxHeartbeats 4000000 in
theorem cJ_ci1 {g : GT} (M : TM) (k n : Nat) (a : Nat) (hk : k < n) (hn : n < 2 ^ 31) : Cn g yJ3_checkIndex_8e157 cJ3_checkIndex_8e157 3 (some .int) 0 [.int (nI k), .int (nI n), .ref a] M (Rt (.int (nI k)) M) := by
  refine Cn.ofTR (by decide +kernel) (Nat.le_of_ble_eq_true rfl) ?_
  refine q_iload_n 1 dJ3_checkIndex_8e157_0 rfl rfl ?_
  refine q_if_lt 9 4 dJ3_checkIndex_8e157_1 rfl rfl (fun h_1 => absurd h_1 (nI_pos (by omega))) (fun _ => ?_)
  refine q_iload_n 5 dJ3_checkIndex_8e157_4 rfl rfl ?_
  refine q_iload_n 6 dJ3_checkIndex_8e157_5 rfl rfl ?_
  refine q_icmp_lt 16 9 dJ3_checkIndex_8e157_6 rfl rfl (fun _ => ?_) (fun h_6 => absurd ((nI_ltI (by omega) hn).mpr hk) h_6)
  refine q_iload_n 17 dJ3_checkIndex_8e157_16 rfl rfl ?_
  refine q_iret dJ3_checkIndex_8e157_17 ?_
  exact ⟨rfl, rfl⟩
theorem cJ_chk {g : GT} (M : TM) (k n : Nat) (hk : k < n) (hn : n < 2 ^ 31) : Cn g yJ0_checkIndex_df160 cJ0_checkIndex_df160 2 none 1 [.int (nI k), .int (nI n)] M (Rv M) := by
  refine Cn.ofTR (by decide +kernel) (Nat.le_of_ble_eq_true rfl) ?_
  refine q_iload_n 1 dJ0_checkIndex_df160_0 rfl rfl ?_
  refine q_iload_n 2 dJ0_checkIndex_df160_1 rfl rfl ?_
  refine q_getSF 5 dJ0_checkIndex_df160_2 rfl rfl ?_ (fun a => ?_)
  · refine q_callSt 8 dJ0_checkIndex_df160_5 rfl (cJ_ci0 M k n hk hn) cw_J0_1059 rfl rfl ⟨by decide, by decide⟩ ⟨by decide, by decide⟩ (Nat.le_of_ble_eq_true rfl) ?_
    refine q_pop 9 dJ0_checkIndex_df160_8 rfl rfl ?_
    refine q_vret dJ0_checkIndex_df160_9 ?_
    exact ⟨rfl, rfl⟩
  · refine q_callSt 8 dJ0_checkIndex_df160_5 rfl (cJ_ci1 M k n a hk hn) cw_J0_1059 rfl rfl ⟨by decide, by decide⟩ ⟨by decide, by decide⟩ (Nat.le_of_ble_eq_true rfl) ?_
    refine q_pop 9 dJ0_checkIndex_df160_8 rfl rfl ?_
    refine q_vret dJ0_checkIndex_df160_9 ?_
    exact ⟨rfl, rfl⟩
theorem str_ch : ∀ i, i < 12 → ∀ k, k < strL.getD i 0 → (((strB.getD i []).getD k 0 &&& 255).toUInt32 % 65536).toInt32 = (strB.getD i []).getD k 0 ∧ narrow .char (.int ((strB.getD i []).getD k 0)) = .int ((strB.getD i []).getD k 0) := by decide +kernel
theorem cJ1_charAt {g : GT} (M : TM) (i k : Nat) (hi : i < 12) (hk : k < strL.getD i 0) : Cn g yJ1_charAt_3b067 cJ1_charAt_3b067 2 (some .char) 2 [.ref (gsv g i), .int (nI k)] M (Rt (.int ((strB.getD i []).getD k 0)) M) := by
  have h7 := strL_lt i hi
  refine Cn.ofTR (by decide +kernel) (Nat.le_of_ble_eq_true rfl) ?_
  refine q_iload_n 1 dJ1_charAt_3b067_0 rfl rfl ?_
  refine q_aload_n 2 dJ1_charAt_3b067_1 rfl rfl ?_
  refine q_alenV 3 dJ1_charAt_3b067_2 rfl hi ?_
  refine q_callSv 6 dJ1_charAt_3b067_3 rfl (cJ_chk M k _ hk (by omega)) cw_J1_9 rfl rfl ⟨by decide, by decide⟩ ⟨by decide, by decide⟩ (Nat.le_of_ble_eq_true rfl) ?_
  refine q_aload_n 7 dJ1_charAt_3b067_6 rfl rfl ?_
  refine q_iload_n 8 dJ1_charAt_3b067_7 rfl rfl ?_
  refine q_baldV 9 dJ1_charAt_3b067_8 rfl hi rfl hk ?_
  refine q_sipush (v := 255) 12 dJ1_charAt_3b067_9 rfl rfl ?_
  refine q_iand 13 dJ1_charAt_3b067_12 rfl ?_
  refine q_i2c 14 dJ1_charAt_3b067_13 rfl ?_
  rw [(str_ch i hi k hk).1]
  refine q_cret dJ1_charAt_3b067_14 (str_ch i hi k hk).2 ?_
  exact ⟨rfl, rfl⟩
set_option maxRecDepth 100000 in
set_option maxHeartbeats 4000000 in
theorem cJ_charAt {g : GT} (M : TM) (i k : Nat) (hi : i < 12) (hk : k < strL.getD i 0) : Cn g yJ0_charAt_5068e cJ0_charAt_5068e 2 (some .char) 3 [.ref (gad g 53 i), .int (nI k)] M (Rt (.int ((strB.getD i []).getD k 0)) M) := by
  refine Cn.ofTR (by decide +kernel) (Nat.le_of_ble_eq_true rfl) ?_
  refine q_aload_n 1 dJ0_charAt_5068e_0 rfl rfl ?_
  refine q_callOt 4 dJ0_charAt_5068e_1 rfl (cJ_isLatin1 _ i hi) cw_J0_492 mJ0_isLatin1_aae02_n mJ0_isLatin1_aae02_v rfl hi rfl rfl ⟨by decide, by decide⟩ ⟨by decide, by decide⟩ (Nat.le_of_ble_eq_true rfl) ?_
  refine q_if_eq 16 7 dJ0_charAt_5068e_4 rfl rfl (fun h_4 => absurd h_4 (by decide)) (fun _ => ?_)
  refine q_aload_n 8 dJ0_charAt_5068e_7 rfl rfl ?_
  refine q_getV 11 dJ0_charAt_5068e_8 rfl rfl hi ?_
  refine q_iload_n 12 dJ0_charAt_5068e_11 rfl rfl ?_
  refine q_callSt 15 dJ0_charAt_5068e_12 rfl (cJ1_charAt _ i k hi hk) cw_J0_495 rfl rfl ⟨by decide, by decide⟩ ⟨by decide, by decide⟩ (Nat.le_of_ble_eq_true rfl) ?_
  refine q_cret dJ0_charAt_5068e_15 (str_ch i hi k hk).2 ?_
  exact ⟨rfl, rfl⟩
/-- the first place of a sign, or -1 -/
def ixP (i : Nat) (c : Int32) (k : Nat) : Bool := decide (k < strL.getD i 0 ∧ ¬ (strB.getD i []).getD k 0 = c)
def ixF (i : Nat) (c : Int32) (k : Nat) : Int32 := if en (ixP i c) (strL.getD i 0) k < strL.getD i 0 then nI (en (ixP i c) (strL.getD i 0) k) else -1
def ixS (i : Nat) (c : Int32) : Int32 := ixF i c 0
theorem str_b : ∀ i, i < 12 → ∀ k, k < strL.getD i 0 → ∃ b, b < 128 ∧ (strB.getD i []).getD k 0 = nI b := by
  intro i hi k hk
  have h : ∀ i, i < 12 → ∀ k, k < strL.getD i 0 → tn ((strB.getD i []).getD k 0) < 128 ∧ (strB.getD i []).getD k 0 = nI (tn ((strB.getD i []).getD k 0)) := by decide +kernel
  exact ⟨_, (h i hi k hk).1, (h i hi k hk).2⟩
theorem by_eq : ∀ a, a < 256 → ∀ b, b < 128 → (nI b = (nI a).toInt8.toInt32 ↔ nI b = nI a) := by decide +kernel
set_option maxRecDepth 100000 in
set_option maxHeartbeats 4000000 in
theorem lJ_ioc {g : GT} (M : TM) (i a : Nat) (hi : i < 12) (ha : a < 256) : ∀ (j : Nat) (k : Nat) (z : Int32), k ≤ strL.getD i 0 → strL.getD i 0 - k < j → z = nI k → TR g (rmD 0) RJ1 cJ1_indexOfChar_4cfef 6 (some .int) 0 0 (Zm g (Rt (.int (ixF i (nI a) k)) M)) 7 [some (.ref (gsv g i)), none, none, some (.int (nI (strL.getD i 0))), some (.int (nI a).toInt8.toInt32), some (.int z)] [] M := by
  intro j
  induction j with
  | zero => intro k z hk hj hz; exact absurd hj (by omega)
  | succ j ih =>
    intro k z hk hj hz
    subst hz
    have h7 := strL_lt i hi
    refine q_iload 9 dJ1_indexOfChar_4cfef_7 rfl rfl ?_
    refine q_iload_n 10 dJ1_indexOfChar_4cfef_9 rfl rfl ?_
    refine q_icmp_ge 31 13 dJ1_indexOfChar_4cfef_10 rfl rfl (fun h_10 => ?_) (fun h_10 => ?_)
    · skip
      rw [nI_leI (by omega) (by omega)] at h_10
      refine q_iconst (v := (-1)) 32 dJ1_indexOfChar_4cfef_31 rfl rfl ?_
      refine q_iret dJ1_indexOfChar_4cfef_32 ?_
      refine ⟨congrArg (fun x => some (Value.int x)) ?_, rfl⟩
      unfold ixF
      rw [en_f (q := ixP i (nI a)) (p := k) (fun z => absurd (of_decide_eq_true z).1 (by omega)), if_neg (by omega)]
    · skip
      rw [nI_leI (by omega) (by omega)] at h_10
      refine q_aload_n 14 dJ1_indexOfChar_4cfef_13 rfl rfl ?_
      refine q_iload 16 dJ1_indexOfChar_4cfef_14 rfl rfl ?_
      refine q_baldV 17 dJ1_indexOfChar_4cfef_16 rfl hi rfl (by omega) ?_
      refine q_iload 19 dJ1_indexOfChar_4cfef_17 rfl rfl ?_
      refine q_icmp_ne 25 22 dJ1_indexOfChar_4cfef_19 rfl rfl (fun h_19 => ?_) (fun h_19 => ?_)
      · skip
        obtain ⟨b, hb, eb⟩ := str_b i hi k (by omega)
        rw [eb, by_eq a ha b hb, ← eb] at h_19
        refine q_iinc 28 dJ1_indexOfChar_4cfef_25 rfl rfl (by decide) rfl (nI_1 k) ?_
        refine q_goto 7 dJ1_indexOfChar_4cfef_28 rfl ?_
        unfold ixF
        rw [en_t (q := ixP i (nI a)) (p := k) (by omega) (decide_eq_true ⟨by omega, h_19⟩)]
        exact q_fg (ih (k + 1) _ (by omega) (by omega) rfl) ⟨rfl, rfl, rfl, rfl, trivial⟩
      · skip
        obtain ⟨b, hb, eb⟩ := str_b i hi k (by omega)
        rw [eb, by_eq a ha b hb, ← eb] at h_19
        refine q_iload 24 dJ1_indexOfChar_4cfef_22 rfl rfl ?_
        refine q_iret dJ1_indexOfChar_4cfef_24 ?_
        refine ⟨congrArg (fun x => some (Value.int x)) ?_, rfl⟩
        unfold ixF
        rw [en_f (q := ixP i (nI a)) (p := k) (fun z => (of_decide_eq_true z).2 h_19), if_pos (by omega)]
set_option maxRecDepth 100000 in
set_option maxHeartbeats 4000000 in
theorem cJ_ioc {g : GT} (M : TM) (i a : Nat) (hi : i < 12) (ha : a < 256) : Cn g yJ1_indexOfChar_4cfef cJ1_indexOfChar_4cfef 6 (some .int) 0 [.ref (gsv g i), .int (nI a), .int 0, .int (nI (strL.getD i 0))] M (Rt (.int (ixS i (nI a))) M) := by
  refine Cn.ofTR (by decide +kernel) (Nat.le_of_ble_eq_true rfl) ?_
  refine q_iload_n 1 dJ1_indexOfChar_4cfef_0 rfl rfl ?_
  refine q_i2b 2 dJ1_indexOfChar_4cfef_1 rfl ?_
  refine q_istore 4 dJ1_indexOfChar_4cfef_2 rfl (by decide) rfl ?_
  refine q_iload_n 5 dJ1_indexOfChar_4cfef_4 rfl rfl ?_
  refine q_istore 7 dJ1_indexOfChar_4cfef_5 rfl (by decide) rfl ?_
  exact q_fg (lJ_ioc M i a hi ha (strL.getD i 0 + 1) 0 0 (Nat.zero_le _) (by omega) rfl) ⟨rfl, rfl, rfl, rfl, trivial⟩
set_option maxRecDepth 100000 in
set_option maxHeartbeats 4000000 in
theorem cJ_can {g : GT} (M : TM) (a : Nat) (ha : a < 256) : Cn g yJ1_canEncode_9a6ad cJ1_canEncode_9a6ad 1 (some .boolean) 0 [.int (nI a)] M (Rt (.int 1) M) := by
  refine Cn.ofTR (by decide +kernel) (Nat.le_of_ble_eq_true rfl) ?_
  refine q_iload_n 1 dJ1_canEncode_9a6ad_0 rfl rfl ?_
  refine q_if_lt 15 4 dJ1_canEncode_9a6ad_1 rfl rfl (fun h_1 => absurd h_1 (nI_pos (by omega))) (fun _ => ?_)
  refine q_iload_n 5 dJ1_canEncode_9a6ad_4 rfl rfl ?_
  refine q_sipush (v := 255) 8 dJ1_canEncode_9a6ad_5 rfl rfl ?_
  refine q_icmp_gt 15 11 dJ1_canEncode_9a6ad_8 rfl rfl (fun h_8 => absurd ((nI_ltI (a := 255) (by decide) (by omega)).mp h_8) (by omega)) (fun _ => ?_)
  refine q_iconst (v := 1) 12 dJ1_canEncode_9a6ad_11 rfl rfl ?_
  refine q_goto 16 dJ1_canEncode_9a6ad_12 rfl ?_
  refine q_zret dJ1_canEncode_9a6ad_16 rfl ?_
  exact ⟨rfl, rfl⟩
theorem ix_0 {i : Nat} {c : Int32} (h : ¬ (0 : Int32) < nI (strL.getD i 0)) (hi : i < 12) : ixS i c = -1 := by
  have h7 := strL_lt i hi
  have h0 : ¬ 0 < strL.getD i 0 := fun z => h ((nI_ltI (a := 0) (by decide) (by omega)).mpr z)
  unfold ixS ixF
  rw [if_neg (by omega)]
theorem mi_s (x : Int32) : miF x x = x := by unfold miF; split <;> rfl
theorem ma_0 : maF 0 0 = 0 := rfl
set_option maxRecDepth 100000 in
set_option maxHeartbeats 4000000 in
theorem cJ1_indexOf {g : GT} (M : TM) (i a : Nat) (hi : i < 12) (ha : a < 256) : Cn g yJ1_indexOf_4cfef cJ1_indexOf_4cfef 4 (some .int) 1 [.ref (gsv g i), .int (nI a), .int 0, .int (nI (strL.getD i 0))] M (Rt (.int (ixS i (nI a))) M) := by
  refine Cn.ofTR (by decide +kernel) (Nat.le_of_ble_eq_true rfl) ?_
  refine q_iload_n 1 dJ1_indexOf_4cfef_0 rfl rfl ?_
  refine q_callSt 4 dJ1_indexOf_4cfef_1 rfl (cJ_can _ a ha) cw_J1_88 rfl rfl ⟨by decide, by decide⟩ ⟨by decide, by decide⟩ (Nat.le_of_ble_eq_true rfl) ?_
  refine q_if_ne 9 7 dJ1_indexOf_4cfef_4 rfl rfl (fun _ => ?_) (fun h_4 => absurd h_4 (by decide))
  refine q_iload_n 10 dJ1_indexOf_4cfef_9 rfl rfl ?_
  refine q_iconst (v := 0) 11 dJ1_indexOf_4cfef_10 rfl rfl ?_
  refine q_mmax 14 dJ1_indexOf_4cfef_11 rfl cw_J1_92 ⟨by decide, by decide⟩ ⟨by decide, by decide⟩ (Nat.le_of_ble_eq_true rfl) ?_
  rw [ma_0]
  refine q_istore_n 15 dJ1_indexOf_4cfef_14 rfl (by decide) rfl ?_
  refine q_iload_n 16 dJ1_indexOf_4cfef_15 rfl rfl ?_
  refine q_aload_n 17 dJ1_indexOf_4cfef_16 rfl rfl ?_
  refine q_alenV 18 dJ1_indexOf_4cfef_17 rfl hi ?_
  refine q_mmin 21 dJ1_indexOf_4cfef_18 rfl cw_J1_38 ⟨by decide, by decide⟩ ⟨by decide, by decide⟩ (Nat.le_of_ble_eq_true rfl) ?_
  rw [mi_s]
  refine q_istore_n 22 dJ1_indexOf_4cfef_21 rfl (by decide) rfl ?_
  refine q_iload_n 23 dJ1_indexOf_4cfef_22 rfl rfl ?_
  refine q_iload_n 24 dJ1_indexOf_4cfef_23 rfl rfl ?_
  refine q_icmp_lt 29 27 dJ1_indexOf_4cfef_24 rfl rfl (fun h_24 => ?_) (fun h_24 => ?_)
  · skip
    refine q_aload_n 30 dJ1_indexOf_4cfef_29 rfl rfl ?_
    refine q_iload_n 31 dJ1_indexOf_4cfef_30 rfl rfl ?_
    refine q_iload_n 32 dJ1_indexOf_4cfef_31 rfl rfl ?_
    refine q_iload_n 33 dJ1_indexOf_4cfef_32 rfl rfl ?_
    refine q_callSt 36 dJ1_indexOf_4cfef_33 rfl (cJ_ioc _ i a hi ha) cw_J1_95 rfl rfl ⟨by decide, by decide⟩ ⟨by decide, by decide⟩ (Nat.le_of_ble_eq_true rfl) ?_
    refine q_iret dJ1_indexOf_4cfef_36 ?_
    exact ⟨rfl, rfl⟩
  · skip
    refine q_iconst (v := (-1)) 28 dJ1_indexOf_4cfef_27 rfl rfl ?_
    refine q_iret dJ1_indexOf_4cfef_28 ?_
    refine ⟨congrArg (fun x => some (Value.int x)) ?_, rfl⟩
    exact (ix_0 h_24 hi).symm
set_option maxRecDepth 100000 in
set_option maxHeartbeats 4000000 in
theorem cJ_indexOf2 {g : GT} (M : TM) (i a : Nat) (hi : i < 12) (ha : a < 256) : Cn g yJ0_indexOf_7cf53 cJ0_indexOf_7cf53 3 (some .int) 2 [.ref (gad g 53 i), .int (nI a), .int 0] M (Rt (.int (ixS i (nI a))) M) := by
  refine Cn.ofTR (by decide +kernel) (Nat.le_of_ble_eq_true rfl) ?_
  refine q_aload_n 1 dJ0_indexOf_7cf53_0 rfl rfl ?_
  refine q_callOt 4 dJ0_indexOf_7cf53_1 rfl (cJ_isLatin1 _ i hi) cw_J0_492 mJ0_isLatin1_aae02_n mJ0_isLatin1_aae02_v rfl hi rfl rfl ⟨by decide, by decide⟩ ⟨by decide, by decide⟩ (Nat.le_of_ble_eq_true rfl) ?_
  refine q_if_eq 23 7 dJ0_indexOf_7cf53_4 rfl rfl (fun h_4 => absurd h_4 (by decide)) (fun _ => ?_)
  refine q_aload_n 8 dJ0_indexOf_7cf53_7 rfl rfl ?_
  refine q_getV 11 dJ0_indexOf_7cf53_8 rfl rfl hi ?_
  refine q_iload_n 12 dJ0_indexOf_7cf53_11 rfl rfl ?_
  refine q_iload_n 13 dJ0_indexOf_7cf53_12 rfl rfl ?_
  refine q_aload_n 14 dJ0_indexOf_7cf53_13 rfl rfl ?_
  refine q_callOt 17 dJ0_indexOf_7cf53_14 rfl (cJ_length _ i hi) cw_J0_505 mJ0_length_8abf5_n mJ0_length_8abf5_v rfl hi rfl rfl ⟨by decide, by decide⟩ ⟨by decide, by decide⟩ (Nat.le_of_ble_eq_true rfl) ?_
  refine q_callSt 20 dJ0_indexOf_7cf53_17 rfl (cJ1_indexOf _ i a hi ha) cw_J0_637 rfl rfl ⟨by decide, by decide⟩ ⟨by decide, by decide⟩ (Nat.le_of_ble_eq_true rfl) ?_
  refine q_goto 36 dJ0_indexOf_7cf53_20 rfl ?_
  refine q_iret dJ0_indexOf_7cf53_36 ?_
  exact ⟨rfl, rfl⟩
set_option maxRecDepth 100000 in
set_option maxHeartbeats 4000000 in
theorem cJ_indexOf {g : GT} (M : TM) (i a : Nat) (hi : i < 12) (ha : a < 256) : Cn g yJ0_indexOf_0f7a4 cJ0_indexOf_0f7a4 2 (some .int) 3 [.ref (gad g 53 i), .int (nI a)] M (Rt (.int (ixS i (nI a))) M) := by
  refine Cn.ofTR (by decide +kernel) (Nat.le_of_ble_eq_true rfl) ?_
  refine q_aload_n 1 dJ0_indexOf_0f7a4_0 rfl rfl ?_
  refine q_iload_n 2 dJ0_indexOf_0f7a4_1 rfl rfl ?_
  refine q_iconst (v := 0) 3 dJ0_indexOf_0f7a4_2 rfl rfl ?_
  refine q_callOt 6 dJ0_indexOf_0f7a4_3 rfl (cJ_indexOf2 _ i a hi ha) cw_J0_633 mJ0_indexOf_7cf53_n mJ0_indexOf_7cf53_v rfl hi rfl rfl ⟨by decide, by decide⟩ ⟨by decide, by decide⟩ (Nat.le_of_ble_eq_true rfl) ?_
  refine q_iret dJ0_indexOf_0f7a4_6 ?_
  exact ⟨rfl, rfl⟩
theorem ix_nm : ∀ a, a < 256 → ∀ k, k < 3 → ((0 ≤ ixS (3 + k) (nI a)) ↔ nmQ (nI k) (nI a) = true) ∧ (nmQ (nI k) (nI a) = true → -1 - ixS (3 + k) (nI a) = nmE (nI k) (nI a)) := by decide +kernel
theorem ix_sg : ∀ a, a < 256 → ∀ l, l < 5 → ((0 ≤ ixS (6 + l) (nI a)) ↔ sgL l (nI a) = true) := by decide +kernel
theorem c_char : ∀ a, a < 256 → ((nI a).toUInt32 % 65536).toInt32 = nI a := by decide +kernel
