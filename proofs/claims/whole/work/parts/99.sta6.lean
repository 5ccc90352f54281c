/-! THE ENTRY: what the Statement gives at the start, word by word -/
def LW : List Cond := flatC (Jvm.Cond.and given_1 narrow_1)
def pX : List Nat := [44, 54, 62, 72, 83, 93, 104, 115, 127, 142, 157, 173]
def pS : List Nat := [581, 634, 635, 648, 649, 650, 733, 734, 735, 736, 737, 738]
def pN : List Nat := [0, 61, 70, 80, 89, 99, 109, 120, 134, 148, 163, 177, 0, 0, 71, 81, 90, 100, 110, 121, 135, 149, 164, 178, 0, 0, 0, 82, 91, 101, 111, 122, 136, 150, 165, 179, 0, 0, 0, 0, 92, 102, 112, 123, 137, 151, 166, 180, 0, 0, 0, 0, 0, 103, 113, 124, 138, 152, 167, 181, 0, 0, 0, 0, 0, 0, 114, 125, 139, 153, 168, 182, 0, 0, 0, 0, 0, 0, 0, 126, 140, 154, 169, 183, 0, 0, 0, 0, 0, 0, 0, 0, 141, 155, 170, 184, 0, 0, 0, 0, 0, 0, 0, 0, 0, 156, 171, 185, 0, 0, 0, 0, 0, 0, 0, 0, 0, 0, 172, 186, 0, 0, 0, 0, 0, 0, 0, 0, 0, 0, 0, 187, 0, 0, 0, 0, 0, 0, 0, 0, 0, 0, 0, 0]
theorem lw_sx : ∀ i, i < 12 → LW[pX.getD i 0]? = some (.exactly (.string RX0 (strI.getD i 0)) "java/lang/String") := by decide +kernel
theorem lw_sc : ∀ i, i < 12 → LW[pX.getD i 0 + 1]? = some (.eq (.field (.string RX0 (strI.getD i 0)) "java/lang/String" "coder" "B") (.int 0)) := by decide +kernel
theorem lw_sa : ∀ i, i < 12 → LW[pX.getD i 0 + 2]? = some (.arrayOf (.field (.string RX0 (strI.getD i 0)) "java/lang/String" "value" "[B") .byte) := by decide +kernel
theorem lw_sl : ∀ i, i < 12 → LW[pX.getD i 0 + 3]? = some (.eq (.length (.field (.string RX0 (strI.getD i 0)) "java/lang/String" "value" "[B")) (.int (Int32.ofNat (strL.getD i 0)))) := by decide +kernel
theorem lw_se : ∀ i, i < 12 → ∀ j, j < strL.getD i 0 → LW[pX.getD i 0 + 4 + j]? = some (.eq (.elem (.field (.string RX0 (strI.getD i 0)) "java/lang/String" "value" "[B") (.int (Int32.ofNat j))) (.int ((strB.getD i []).getD j 0))) := by decide +kernel
theorem lw_sn : ∀ i, i < 12 → ∀ j, j < 12 → i < j → LW[pN.getD (12 * i + j) 0]? = some (.not (.eq (.string RX0 (strI.getD i 0)) (.string RX0 (strI.getD j 0)))) := by decide +kernel
theorem lw_sr : ∀ i, i < 12 → tables_1[pS.getD i 0]? = some (.stringRef RX0 (strI.getD i 0) (strT.getD i "")) := by decide +kernel
theorem lw_ra_a : LW[5]? = some (.arrayOf (.static RX5 "RIGHT_ABOVE" "[I") .int) := by decide +kernel
theorem lw_ra_l : LW[6]? = some (.eq (.length (.static RX5 "RIGHT_ABOVE" "[I")) (.int (Int32.ofNat 6))) := by decide +kernel
theorem lw_ra_e : ∀ j, j < 6 → LW[7 + j]? = some (.eq (.elem (.static RX5 "RIGHT_ABOVE" "[I") (.int (Int32.ofNat j))) (.int (raL.getD j 0))) := by decide +kernel
theorem lw_ra_s : tables_1[342]? = some (.laysStatic RX5 "RIGHT_ABOVE" "[I") := by decide +kernel
theorem lw_lr_a : LW[14]? = some (.arrayOf (.static RX5 "LEAST_RULE" "[I") .int) := by decide +kernel
theorem lw_lr_l : LW[15]? = some (.eq (.length (.static RX5 "LEAST_RULE" "[I")) (.int (Int32.ofNat 3))) := by decide +kernel
theorem lw_lr_e : ∀ j, j < 3 → LW[16 + j]? = some (.eq (.elem (.static RX5 "LEAST_RULE" "[I") (.int (Int32.ofNat j))) (.int (lrL.getD j 0))) := by decide +kernel
theorem lw_lr_s : tables_1[381]? = some (.laysStatic RX5 "LEAST_RULE" "[I") := by decide +kernel
theorem lw_mr_a : LW[20]? = some (.arrayOf (.static RX5 "MOST_RULE" "[I") .int) := by decide +kernel
theorem lw_mr_l : LW[21]? = some (.eq (.length (.static RX5 "MOST_RULE" "[I")) (.int (Int32.ofNat 3))) := by decide +kernel
theorem lw_mr_e : ∀ j, j < 3 → LW[22 + j]? = some (.eq (.elem (.static RX5 "MOST_RULE" "[I") (.int (Int32.ofNat j))) (.int (mrL.getD j 0))) := by decide +kernel
theorem lw_mr_s : tables_1[383]? = some (.laysStatic RX5 "MOST_RULE" "[I") := by decide +kernel
theorem lw_cs : LW[25]? = some (.eq (.static RJ0 "COMPACT_STRINGS" "Z") (.int 1)) := by decide +kernel
theorem lw_si : LW[26]? = some (.isRef (.static RJ3 "SIOOBE_FORMATTER" "Ljava/util/function/BiFunction;")) := by decide +kernel
theorem lw_cs_s : tables_1[595]? = some (.laysStatic RJ0 "COMPACT_STRINGS" "Z") := by decide +kernel
theorem lw_si_s : tables_1[611]? = some (.laysStatic RJ3 "SIOOBE_FORMATTER" "Ljava/util/function/BiFunction;") := by decide +kernel
theorem lw_i_x5 : tables_1[1]? = some (.initialized RX5) := by decide +kernel
theorem lw_i_j0 : tables_1[12]? = some (.initialized RJ0) := by decide +kernel
theorem lw_i_j3 : tables_1[14]? = some (.initialized RJ3) := by decide +kernel
theorem lw_ac : tables_1[51]? = some (.arrayClass .int) := by decide +kernel
theorem lw_ao3 : tables_1[32]? = some (.arrayOver (.array .int)) := by decide +kernel
theorem lw_ao1 : tables_1[176]? = some (.arrayOver (.object RX1)) := by decide +kernel
theorem lw_ao2 : tables_1[178]? = some (.arrayOver (.object RX2)) := by decide +kernel
def pM : List Nat := [308, 312]
def pI : List Nat := [27, 135, 180, 198, 203]
theorem lw_nm : ∀ i, i < 2 → tables_1[pM.getD i 0]? = (nestM[i]?).map (fun q => .methodLinkNest q.1 q.2.1 q.2.2 RX5) := by decide +kernel
theorem lw_ni : ∀ i, i < 5 → tables_1[pI.getD i 0]? = (nestI[i]?).map (fun q => .methodLinkNest q.1 q.2.1 q.2.2 RX5) := by decide +kernel
theorem off_nd : (wcells.map (fun q => off q.1 q.2)).Nodup := by decide +kernel
theorem wcells_lt : ∀ q ∈ wcells, q.1 < 49 := by decide +kernel
