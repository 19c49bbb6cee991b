set_option maxRecDepth 20000 in
theorem lwi_wsX90 : ∀ w ∈ wsX90, w ∈ lw_tbl := lwi_pick [1147, 1149, 1151, 1153, 1155, 1157, 1159, 1161, 1163, 1165, 1167, 1169, 1171, 1173, 1175, 1177, 1179, 1181, 1183, 1185, 1187, 1189, 1191, 1193, 1195, 1197, 1199, 1201, 1203, 1205, 1207, 1209, 1211, 1213, 1215, 1217, 1219, 1221, 1223, 1225, 1227] (by decide +kernel)
set_option maxRecDepth 20000 in
theorem lwi_wsX50 : ∀ w ∈ wsX50, w ∈ lw_tbl := lwi_pick [120, 122, 124] (by decide +kernel)
set_option maxRecDepth 20000 in
theorem lwi_wsX40 : ∀ w ∈ wsX40, w ∈ lw_tbl := lwi_pick [193, 195, 197, 199, 201, 203, 205, 207, 209, 211, 213, 215, 217, 219, 221] (by decide +kernel)
set_option maxRecDepth 20000 in
theorem lwi_wsX10 : ∀ w ∈ wsX10, w ∈ lw_tbl := lwi_pick [236, 238, 240, 242, 244] (by decide +kernel)
set_option maxRecDepth 20000 in
theorem lwi_wsX20 : ∀ w ∈ wsX20, w ∈ lw_tbl := lwi_pick [256, 258] (by decide +kernel)
set_option maxRecDepth 20000 in
theorem lwi_wsX30 : ∀ w ∈ wsX30, w ∈ lw_tbl := lwi_pick [279, 281, 283, 285, 287, 289, 291, 293, 295, 297, 299, 301] (by decide +kernel)
set_option maxRecDepth 20000 in
theorem lwi_wsX00 : ∀ w ∈ wsX00, w ∈ lw_tbl := lwi_pick [312, 314] (by decide +kernel)
set_option maxRecDepth 20000 in
theorem lwi_wsX60 : ∀ w ∈ wsX60, w ∈ lw_tbl := lwi_pick [552, 554, 556, 558] (by decide +kernel)
set_option maxRecDepth 20000 in
theorem lwi_wsX70 : ∀ w ∈ wsX70, w ∈ lw_tbl := lwi_pick [672, 674, 676, 678, 680, 682, 684, 686, 688, 690, 692, 694, 696, 698] (by decide +kernel)
theorem lwi_nil : ∀ w ∈ ([] : List Cond), w ∈ lw_tbl := fun w h => absurd h List.not_mem_nil
theorem lwi_app {a b : List Cond} (ha : ∀ w ∈ a, w ∈ lw_tbl) (hb : ∀ w ∈ b, w ∈ lw_tbl) : ∀ w ∈ a ++ b, w ∈ lw_tbl := fun w h => (List.mem_append.mp h).elim (ha w) (hb w)
theorem wsL_law_in0 : ∀ w ∈ wsL_law0, w ∈ lw_tbl := (lwi_app (lwi_app (lwi_app (lwi_app (lwi_app (lwi_app (lwi_app (lwi_app (lwi_app (lwi_app (lwi_app (lwi_app lwi_wsL_law0_r1 (lwi_app lwi_wsL_law0_r2 (lwi_app lwi_wsL_law0_r3 (lwi_app lwi_wsL_law0_r4 (lwi_app lwi_wsL_law0_r5 (lwi_app lwi_wsL_law0_r6 (lwi_app lwi_wsL_law0_r7 (lwi_app lwi_wsL_law0_r8 (lwi_app lwi_wsL_law0_r9 (lwi_app lwi_wsL_law0_r10 (lwi_app lwi_wsL_law0_r11 (lwi_app lwi_wsL_law0_r12 (lwi_app lwi_wsL_law0_r13 (lwi_app lwi_wsL_law0_r14 (lwi_app lwi_wsL_law0_r15 (lwi_app lwi_wsL_law0_r16 (lwi_app lwi_wsL_law0_r17 (lwi_app lwi_wsL_law0_r18 (lwi_app lwi_wsL_law0_r19 (lwi_app lwi_wsL_law0_r20 (lwi_app lwi_wsL_law0_r21 (lwi_app lwi_wsL_law0_r22 (lwi_app lwi_wsL_law0_r23 (lwi_app lwi_wsL_law0_r24 (lwi_app lwi_wsL_law0_r25 (lwi_app lwi_wsL_law0_r26 (lwi_app lwi_wsL_law0_r27 (lwi_app lwi_wsL_law0_r28 (lwi_app lwi_wsL_law0_r29 (lwi_app lwi_wsL_law0_r30 (lwi_app lwi_wsL_law0_r31 (lwi_app lwi_wsL_law0_r32 (lwi_app lwi_wsL_law0_r33 (lwi_app lwi_wsL_law0_r34 (lwi_app lwi_wsL_law0_r35 (lwi_app lwi_wsL_law0_r36 (lwi_app lwi_wsL_law0_r37 (lwi_app lwi_wsL_law0_r38 (lwi_app lwi_wsL_law0_r39 (lwi_app lwi_wsL_law0_r40 (lwi_app lwi_wsL_law0_r41 (lwi_app lwi_wsL_law0_r42 (lwi_app lwi_wsL_law0_r43 (lwi_app lwi_wsL_law0_r44 (lwi_app lwi_wsL_law0_r45 (lwi_app lwi_wsL_law0_r46 (lwi_app lwi_wsL_law0_r47 (lwi_app lwi_wsL_law0_r48 lwi_wsL_law0_r49)))))))))))))))))))))))))))))))))))))))))))))))) lwi_wsX80) lwi_wsX90) lwi_wsX50) lwi_wsX40) lwi_wsX10) lwi_wsX20) lwi_wsX30) lwi_wsX00) lwi_wsX60) lwi_wsX70) lwi_nil)
set_option maxRecDepth 20000 in
theorem wsL_law_x0 : ∀ w ∈ (vx_at0 RX8 334 "java/util/NoSuchElementException" ["java/lang/RuntimeException", "java/lang/Exception"]).filter goodWord, w ∈ lw_tbl := by decide +kernel
theorem wsL_law_in : ∀ w ∈ wsL_law, w ∈ lw_tbl := fun w h => (List.mem_append.mp h).elim (fun h => wsL_law_in0 w h) (fun h => wsL_law_x0 w h)

