theorem xi_0 : Cond.instantiable RX0 4 ∈ lw_tbl := tb_2 (List.mem_of_getElem? (i := 1) (by decide +kernel : (tables_1_2)[1]? = some (Cond.instantiable RX0 4)))
theorem xi_1 : Cond.instantiable RX1 3 ∈ lw_tbl := tb_2 (List.mem_of_getElem? (i := 59) (by decide +kernel : (tables_1_2)[59]? = some (Cond.instantiable RX1 3)))
theorem xi_2 : Cond.instantiable RX2 4 ∈ lw_tbl := tb_2 (List.mem_of_getElem? (i := 77) (by decide +kernel : (tables_1_2)[77]? = some (Cond.instantiable RX2 4)))
theorem xi_3 : Cond.instantiable RX3 9 ∈ lw_tbl := tb_2 (List.mem_of_getElem? (i := 20) (by decide +kernel : (tables_1_2)[20]? = some (Cond.instantiable RX3 9)))
theorem xi_4 : Cond.instantiable RX4 3 ∈ lw_tbl := tb_4 (List.mem_of_getElem? (i := 166) (by decide +kernel : (tables_1_4)[166]? = some (Cond.instantiable RX4 3)))
theorem xi_5 : Cond.instantiable RX5 19 ∈ lw_tbl := tb_1 (List.mem_of_getElem? (i := 160) (by decide +kernel : (tables_1_1)[160]? = some (Cond.instantiable RX5 19)))
theorem xi_6 : Cond.instantiable RX6 8 ∈ lw_tbl := tb_1 (List.mem_of_getElem? (i := 37) (by decide +kernel : (tables_1_1)[37]? = some (Cond.instantiable RX6 8)))
theorem xi_7 : Cond.instantiable RX7 16 ∈ lw_tbl := tb_1 (List.mem_of_getElem? (i := 28) (by decide +kernel : (tables_1_1)[28]? = some (Cond.instantiable RX7 16)))
theorem xi_8 : Cond.instantiable RX8 14 ∈ lw_tbl := tb_1 (List.mem_of_getElem? (i := 20) (by decide +kernel : (tables_1_1)[20]? = some (Cond.instantiable RX8 14)))
theorem xi_9 : Cond.instantiable RX9 45 ∈ lw_tbl := tb_5 (List.mem_of_getElem? (i := 110) (by decide +kernel : (tables_1_5)[110]? = some (Cond.instantiable RX9 45)))
theorem xo_1 : Cond.arrayOver (.object RX1) ∈ lw_tbl := tb_2 (List.mem_of_getElem? (i := 56) (by decide +kernel : (tables_1_2)[56]? = some (Cond.arrayOver (.object RX1))))
theorem xo_2 : Cond.arrayOver (.object RX2) ∈ lw_tbl := tb_2 (List.mem_of_getElem? (i := 58) (by decide +kernel : (tables_1_2)[58]? = some (Cond.arrayOver (.object RX2))))
theorem xo_4 : Cond.arrayOver (.object RX4) ∈ lw_tbl := tb_1 (List.mem_of_getElem? (i := 36) (by decide +kernel : (tables_1_1)[36]? = some (Cond.arrayOver (.object RX4))))
theorem xo_6 : Cond.arrayOver (.object RX6) ∈ lw_tbl := tb_1 (List.mem_of_getElem? (i := 34) (by decide +kernel : (tables_1_1)[34]? = some (Cond.arrayOver (.object RX6))))
theorem xs_0 : Cond.stringRef RX3 82 "waits" ∈ lw_tbl := tb_4 (List.mem_of_getElem? (i := 12) (by decide +kernel : (tables_1_4)[12]? = some (Cond.stringRef RX3 82 "waits")))
theorem xs_1 : Cond.stringRef RX3 84 "tide" ∈ lw_tbl := tb_4 (List.mem_of_getElem? (i := 13) (by decide +kernel : (tables_1_4)[13]? = some (Cond.stringRef RX3 84 "tide")))
theorem xs_2 : Cond.stringRef RX3 86 "walk" ∈ lw_tbl := tb_4 (List.mem_of_getElem? (i := 14) (by decide +kernel : (tables_1_4)[14]? = some (Cond.stringRef RX3 86 "walk")))
theorem xs_3 : Cond.stringRef RX3 88 "knd" ∈ lw_tbl := tb_4 (List.mem_of_getElem? (i := 87) (by decide +kernel : (tables_1_4)[87]? = some (Cond.stringRef RX3 88 "knd")))
theorem xs_4 : Cond.stringRef RX3 90 "nd" ∈ lw_tbl := tb_4 (List.mem_of_getElem? (i := 88) (by decide +kernel : (tables_1_4)[88]? = some (Cond.stringRef RX3 90 "nd")))
theorem xs_5 : Cond.stringRef RX3 92 "swd" ∈ lw_tbl := tb_4 (List.mem_of_getElem? (i := 89) (by decide +kernel : (tables_1_4)[89]? = some (Cond.stringRef RX3 92 "swd")))
theorem xs_6 : Cond.stringRef RX3 120 "|" ∈ lw_tbl := tb_4 (List.mem_of_getElem? (i := 160) (by decide +kernel : (tables_1_4)[160]? = some (Cond.stringRef RX3 120 "|")))
theorem xs_7 : Cond.stringRef RX3 122 "&" ∈ lw_tbl := tb_4 (List.mem_of_getElem? (i := 161) (by decide +kernel : (tables_1_4)[161]? = some (Cond.stringRef RX3 122 "&")))
theorem xs_8 : Cond.stringRef RX3 124 "<=>" ∈ lw_tbl := tb_4 (List.mem_of_getElem? (i := 162) (by decide +kernel : (tables_1_4)[162]? = some (Cond.stringRef RX3 124 "<=>")))
theorem xs_9 : Cond.stringRef RX3 126 "+-" ∈ lw_tbl := tb_4 (List.mem_of_getElem? (i := 163) (by decide +kernel : (tables_1_4)[163]? = some (Cond.stringRef RX3 126 "+-")))
theorem xs_10 : Cond.stringRef RX3 128 "*/" ∈ lw_tbl := tb_4 (List.mem_of_getElem? (i := 164) (by decide +kernel : (tables_1_4)[164]? = some (Cond.stringRef RX3 128 "*/")))
theorem xl_a : Cond.laysStatic RX8 "ABOVE" "[I" ∈ lw_tbl := tb_3 (List.mem_of_getElem? (i := 38) (by decide +kernel : (tables_1_3)[38]? = some (Cond.laysStatic RX8 "ABOVE" "[I")))
theorem xl_c : Cond.laysStatic RJ0 "COMPACT_STRINGS" "Z" ∈ lw_tbl := tb_4 (List.mem_of_getElem? (i := 28) (by decide +kernel : (tables_1_4)[28]? = some (Cond.laysStatic RJ0 "COMPACT_STRINGS" "Z")))
theorem xl_s : Cond.laysStatic RJ3 "SIOOBE_FORMATTER" "Ljava/util/function/BiFunction;" ∈ lw_tbl := tb_4 (List.mem_of_getElem? (i := 44) (by decide +kernel : (tables_1_4)[44]? = some (Cond.laysStatic RJ3 "SIOOBE_FORMATTER" "Ljava/util/function/BiFunction;")))
theorem xn_8 : Cond.initialized RX8 ∈ lw_tbl := tb_1 (List.mem_of_getElem? (i := 1) (by decide +kernel : (tables_1_1)[1]? = some (Cond.initialized RX8)))
theorem xn_s : Cond.initialized RJ0 ∈ lw_tbl := tb_1 (List.mem_of_getElem? (i := 13) (by decide +kernel : (tables_1_1)[13]? = some (Cond.initialized RJ0)))
theorem xn_p : Cond.initialized RJ3 ∈ lw_tbl := tb_1 (List.mem_of_getElem? (i := 15) (by decide +kernel : (tables_1_1)[15]? = some (Cond.initialized RJ3)))
set_option maxRecDepth 100000 in
theorem fl_ex : ∀ i, i < 11 → Cond.exactly (Term.string RX3 (sidx.getD i 0)) "java/lang/String" ∈ flatC (Cond.and given_1 narrow_1) := by decide +kernel
set_option maxRecDepth 100000 in
theorem fl_co : ∀ i, i < 11 → Cond.eq (.field (Term.string RX3 (sidx.getD i 0)) "java/lang/String" "coder" "B") (.int 0) ∈ flatC (Cond.and given_1 narrow_1) := by decide +kernel
set_option maxRecDepth 100000 in
theorem fl_ar : ∀ i, i < 11 → Cond.arrayOf (.field (Term.string RX3 (sidx.getD i 0)) "java/lang/String" "value" "[B") .byte ∈ flatC (Cond.and given_1 narrow_1) := by decide +kernel
set_option maxRecDepth 100000 in
theorem fl_le : ∀ i, i < 11 → Cond.eq (.length (.field (Term.string RX3 (sidx.getD i 0)) "java/lang/String" "value" "[B")) (.int (Int32.ofNat (slen.getD i 0))) ∈ flatC (Cond.and given_1 narrow_1) := by decide +kernel
set_option maxRecDepth 100000 in
theorem fl_el : ∀ i, i < 11 → ∀ j, j < slen.getD i 0 → Cond.eq (.elem (.field (Term.string RX3 (sidx.getD i 0)) "java/lang/String" "value" "[B") (.int (Int32.ofNat j))) (.int ((sbyt.getD i []).getD j 0)) ∈ flatC (Cond.and given_1 narrow_1) := by decide +kernel
set_option maxRecDepth 100000 in
theorem fl_ne : ∀ i, i < 11 → ∀ j, j < 11 → i < j → (Cond.not (Cond.eq (Term.string RX3 (sidx.getD i 0)) (Term.string RX3 (sidx.getD j 0))) ∈ flatC (Cond.and given_1 narrow_1) ∨ Cond.not (Cond.eq (Term.string RX3 (sidx.getD j 0)) (Term.string RX3 (sidx.getD i 0))) ∈ flatC (Cond.and given_1 narrow_1)) := by decide +kernel
set_option maxRecDepth 100000 in
theorem fl_aa : Cond.arrayOf (.static RX8 "ABOVE" "[I") .int ∈ flatC (Cond.and given_1 narrow_1) := by decide +kernel
set_option maxRecDepth 100000 in
theorem fl_al : Cond.eq (.length (.static RX8 "ABOVE" "[I")) (.int 6) ∈ flatC (Cond.and given_1 narrow_1) := by decide +kernel
set_option maxRecDepth 100000 in
theorem fl_ae : ∀ j, j < 6 → Cond.eq (.elem (.static RX8 "ABOVE" "[I") (.int (Int32.ofNat j))) (.int (abv.getD j 0)) ∈ flatC (Cond.and given_1 narrow_1) := by decide +kernel
set_option maxRecDepth 100000 in
theorem fl_cs : Cond.eq (.static RJ0 "COMPACT_STRINGS" "Z") (.int 1) ∈ flatC (Cond.and given_1 narrow_1) := by decide +kernel
set_option maxRecDepth 100000 in
theorem fl_si : Cond.isRef (.static RJ3 "SIOOBE_FORMATTER" "Ljava/util/function/BiFunction;") ∈ flatC (Cond.and given_1 narrow_1) := by decide +kernel
