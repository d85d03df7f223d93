/-! What the statement gives at the law's entry, by places. -/
def FL : List Cond := flatC (Cond.and given_1 narrow_1)
def sO : List (String × Nat) := [("CryptBank", 377), ("CryptBank$County", 60), ("CryptBank$County", 73), ("CryptBank$County", 78), ("CryptBank$Law", 95), ("CryptBank$Law", 104), ("CryptBank$Law", 116), ("CryptBank$Law", 118), ("CryptBank$Law", 120), ("CryptBank$Law", 124), ("CryptBank$Law", 126), ("CryptBank$Law", 128), ("CryptBank$Work", 59), ("CryptBank$Work", 73), ("CryptBank$Work", 75), ("CryptBank$Work", 77), ("CryptBank$Work", 79), ("CryptBank$Work", 83), ("CryptBank", 370)]
def tmS (i : Nat) : Term := .string (sO.getD i ("", 0)).1 (sO.getD i ("", 0)).2
def sP : List Nat := [79, 107, 115, 123, 130, 139, 147, 157, 167, 183, 195, 203, 221, 229, 236, 244, 252, 270, 279]
theorem fl_s : ∀ i, i < 19 → FL[sP.getD i 0]? = some (.exactly (tmS i) "java/lang/String") ∧ FL[sP.getD i 0 + 1]? = some (.eq (.field (tmS i) "java/lang/String" "coder" "B") (.int 0)) ∧ FL[sP.getD i 0 + 2]? = some (.arrayOf (.field (tmS i) "java/lang/String" "value" "[B") .byte) ∧ FL[sP.getD i 0 + 3]? = some (.eq (.length (.field (tmS i) "java/lang/String" "value" "[B")) (.int (Int32.ofNat (mm_tl.getD i 0)))) := by decide +kernel
theorem fl_b : ∀ i, i < 19 → ∀ j, j < mm_tl.getD i 0 → FL[sP.getD i 0 + 4 + j]? = some (.eq (.elem (.field (tmS i) "java/lang/String" "value" "[B") (.int (Int32.ofNat j))) (.int ((mm_tb.getD i []).getD j 0))) := by decide +kernel
def eP : List Nat := [0, 0, 0, 0, 0, 0, 0, 0, 0, 182, 0, 0, 0, 220, 0, 0, 0, 0, 0, 269, 0, 0, 309, 318, 327, 338, 347, 360, 371, 382, 391, 400, 410, 420, 428, 437, 446, 455, 465]
theorem fl_e : ∀ i, i < 39 → ((mm_sr.getD i ("", 0, "", 0)).1, (mm_sr.getD i ("", 0, "", 0)).2.1) = sO.getD (mm_sr.getD i ("", 0, "", 0)).2.2.2 ("", 0) ∨ FL[eP.getD i 0]? = some (.eq (tmS (mm_sr.getD i ("", 0, "", 0)).2.2.2) (.string (mm_sr.getD i ("", 0, "", 0)).1 (mm_sr.getD i ("", 0, "", 0)).2.1)) := by decide +kernel
theorem sr_lt : ∀ i, i < 39 → (mm_sr.getD i ("", 0, "", 0)).2.2.2 < 19 := by decide +kernel
theorem sr_in : mm_sr.map (fun q => Cond.stringRef q.1 q.2.1 q.2.2.1) = ([477, 532, 605, 610, 708, 715, 719, 720, 721, 722, 723, 724, 725, 726, 756, 768, 769, 770, 771, 772, 773, 1002, 1554, 1560, 1561, 1613, 1618, 1623, 1628, 1629, 1630, 1631, 1632, 1645, 1646, 1647, 1648, 1649, 1650] : List Nat).filterMap (fun i => tables_1[i]?) := by decide +kernel
theorem nw_in : mm_nw = ([35, 66, 114, 138, 159, 211, 234, 237, 262, 356, 385, 396, 525, 597, 602, 631, 653, 694, 700, 762, 792, 859, 930, 936, 1126, 1127, 1139, 41, 47, 71, 72, 73, 74, 75, 76, 78, 79, 80, 143, 144, 165, 170, 172, 195, 196, 221, 224, 784] : List Nat).filterMap (fun i => tables_1[i]?) := by decide +kernel
theorem nw_tab : mm_nw.all (fun w => w.onTables) = true := by decide +kernel
theorem xw_in : mm_xw = ([995, 439, 441, 443, 445] : List Nat).filterMap (fun i => tables_1[i]?) := by decide +kernel
theorem xw_tab : mm_xw.all (fun w => w.onTables) = true := by decide +kernel
theorem fl_u : FL[5]? = some (.arrayOf (.static "CryptBank$Law" "UNTOLD" "[I") .int) ∧ FL[6]? = some (.eq (.length (.static "CryptBank$Law" "UNTOLD" "[I")) (.int (Int32.ofNat 9))) ∧ ∀ j, j < 9 → FL[7 + j]? = some (.eq (.elem (.static "CryptBank$Law" "UNTOLD" "[I") (.int (Int32.ofNat j))) (.int (([1000, 1000, 1001, 2002, 10, 2003, 2000, 1, 2000] : List Int32).getD j 0))) := by decide +kernel
theorem fl_cs : FL[18]? = some (.eq (.static "java/lang/String" "COMPACT_STRINGS" "Z") (.int 1)) := by decide +kernel
theorem fl_so : FL[19]? = some (.isRef (.static "jdk/internal/util/Preconditions" "SIOOBE_FORMATTER" "Ljava/util/function/BiFunction;")) := by decide +kernel
theorem fl_us : FL[16]? = some (.isRef (.static Bundle.tN "UNASSIGNED_STACK" Bundle.steD)) := by decide +kernel
theorem fl_ss : FL[17]? = some (.isRef (.static Bundle.tN "SUPPRESSED_SENTINEL" Bundle.listD)) := by decide +kernel
theorem fl_nc : FL[48]? = some (.not (.castable (mm_exc 1) (mm_exc 0))) := by decide +kernel
theorem tb_lu : tables_1[113]? = some (.laysStatic "CryptBank$Law" "UNTOLD" "[I") := by decide +kernel
theorem tb_lc : tables_1[546]? = some (.laysStatic "java/lang/String" "COMPACT_STRINGS" "Z") := by decide +kernel
theorem tb_lo : tables_1[562]? = some (.laysStatic "jdk/internal/util/Preconditions" "SIOOBE_FORMATTER" "Ljava/util/function/BiFunction;") := by decide +kernel
theorem tb_l1 : tables_1[464]? = some (.laysStatic Bundle.tN "UNASSIGNED_STACK" Bundle.steD) := by decide +kernel
theorem tb_l2 : tables_1[466]? = some (.laysStatic Bundle.tN "SUPPRESSED_SENTINEL" Bundle.listD) := by decide +kernel
theorem tb_iu : tables_1[4]? = some (.initialized "CryptBank$Law") := by decide +kernel
theorem tb_ic : tables_1[19]? = some (.initialized "java/lang/String") := by decide +kernel
theorem tb_io : tables_1[21]? = some (.initialized "jdk/internal/util/Preconditions") := by decide +kernel
theorem tb_it : tables_1[15]? = some (.initialized Bundle.tN) := by decide +kernel
theorem tb_a3 : tables_1[219]? = some (.arrayOver (.object "CryptBank$State")) := by decide +kernel
theorem tb_a4 : tables_1[232]? = some (.arrayOver (.object "CryptBank$Page")) := by decide +kernel
theorem tb_n0 : tables_1[137]? = some (.instantiable RX0 4) := by decide +kernel
theorem tb_n1 : tables_1[65]? = some (.instantiable RX1 7) := by decide +kernel
theorem tb_n2 : tables_1[103]? = some (.instantiable RX2 4) := by decide +kernel
theorem tb_n3 : tables_1[204]? = some (.instantiable RX3 3) := by decide +kernel
theorem tb_n4 : tables_1[189]? = some (.instantiable RX4 2) := by decide +kernel
theorem tb_n5 : tables_1[236]? = some (.instantiable RX5 6) := by decide +kernel
theorem tb_n6 : tables_1[210]? = some (.instantiable RX6 1) := by decide +kernel
theorem tb_n7 : tables_1[34]? = some (.instantiable RX7 7) := by decide +kernel
theorem tb_n8 : tables_1[261]? = some (.instantiable RX8 1) := by decide +kernel
theorem tb_n9 : tables_1[158]? = some (.instantiable RX9 7) := by decide +kernel
theorem tb_n10 : tables_1[26]? = some (.instantiable RX10 19) := by decide +kernel
theorem tb_n11 : tables_1[1340]? = some (.instantiable RX11 51) := by decide +kernel
/-- no two of the texts are one -/
theorem tx_ne : ∀ i, i < 19 → ∀ j, j < 19 → mm_tl.getD i 0 = mm_tl.getD j 0 → (∀ q, q < mm_tl.getD i 0 → (mm_tb.getD i []).getD q 0 = (mm_tb.getD j []).getD q 0) → i = j := by decide +kernel
theorem tl_lt : ∀ i, i < 19 → mm_tl.getD i 0 < 100 := by decide +kernel
