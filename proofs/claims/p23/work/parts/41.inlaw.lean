set_option maxRecDepth 20000 in
theorem wsL_law_i1 : GoodIn lw_tbl wsL_law0_r1 := goodIn_p wsL_law0_r1 [34, 37] (by decide +kernel) (by decide +kernel)
set_option maxRecDepth 20000 in
theorem wsL_law_i2 : GoodIn lw_tbl wsL_law0_r2 := goodIn_p wsL_law0_r2 [228, 277, 280, 285] (by decide +kernel) (by decide +kernel)
set_option maxRecDepth 20000 in
theorem wsL_law_i3 : GoodIn lw_tbl wsL_law0_r3 := goodIn_p wsL_law0_r3 [293, 104, 107, 243, 297] (by decide +kernel) (by decide +kernel)
set_option maxRecDepth 20000 in
theorem wsL_law_i4 : GoodIn lw_tbl wsL_law0_r4 := goodIn_p wsL_law0_r4 [301, 305, 309, 318, 322] (by decide +kernel) (by decide +kernel)
set_option maxRecDepth 20000 in
theorem wsL_law_i5 : GoodIn lw_tbl wsL_law0_r5 := goodIn_p wsL_law0_r5 [205, 342, 349, 353, 357] (by decide +kernel) (by decide +kernel)
set_option maxRecDepth 20000 in
theorem wsL_law_i6 : GoodIn lw_tbl wsL_law0_r6 := goodIn_p wsL_law0_r6 [365, 192, 369, 376] (by decide +kernel) (by decide +kernel)
set_option maxRecDepth 20000 in
theorem wsL_law_i7 : GoodIn lw_tbl wsL_law0_r7 := goodIn_p wsL_law0_r7 [101, 180, 184, 188, 197] (by decide +kernel) (by decide +kernel)
set_option maxRecDepth 20000 in
theorem wsL_law_i8 : GoodIn lw_tbl wsL_law0_r8 := goodIn_p wsL_law0_r8 [208, 201, 212, 216, 382, 386] (by decide +kernel) (by decide +kernel)
set_option maxRecDepth 20000 in
theorem wsL_law_i9 : GoodIn lw_tbl wsL_law0_r9 := goodIn_p wsL_law0_r9 [394, 397, 240, 418] (by decide +kernel) (by decide +kernel)
set_option maxRecDepth 20000 in
theorem wsL_law_i10 : GoodIn lw_tbl wsL_law0_r10 := goodIn_p wsL_law0_r10 [422, 425, 432, 439] (by decide +kernel) (by decide +kernel)
set_option maxRecDepth 20000 in
theorem wsL_law_i11 : GoodIn lw_tbl wsL_law0_r11 := goodIn_p wsL_law0_r11 [236, 274, 263, 267, 271, 442, 446] (by decide +kernel) (by decide +kernel)
set_option maxRecDepth 20000 in
theorem wsL_law_i12 : GoodIn lw_tbl wsL_law0_r12 := goodIn_p wsL_law0_r12 [220, 224] (by decide +kernel) (by decide +kernel)
set_option maxRecDepth 20000 in
theorem wsL_law_iX0 : GoodIn lw_tbl wsX00 := goodIn_p wsX00 [] (by decide +kernel) (by decide +kernel)
set_option maxRecDepth 20000 in
theorem wsL_law_x0 : ∀ w ∈ (vx_atS RX0 175 "java/lang/IllegalArgumentException" ["java/lang/RuntimeException", "java/lang/Exception"]).filter goodWord, w ∈ lw_tbl := by decide +kernel
set_option maxRecDepth 20000 in
theorem wsL_law_x1 : ∀ w ∈ (vx_atS RX0 180 "java/lang/IllegalStateException" ["java/lang/RuntimeException", "java/lang/Exception"]).filter goodWord, w ∈ lw_tbl := by decide +kernel
set_option maxRecDepth 20000 in
theorem wsL_law_x2 : ∀ w ∈ (vx_atS RX0 166 "java/lang/IndexOutOfBoundsException" ["java/lang/RuntimeException", "java/lang/Exception"]).filter goodWord, w ∈ lw_tbl := by decide +kernel
set_option maxRecDepth 20000 in
theorem wsL_law_x3 : ∀ w ∈ (gNSat).filter goodWord, w ∈ lw_tbl := by decide +kernel
theorem wsL_law_in0 : ∀ w ∈ wsL_law0, w ∈ lw_tbl := fun w h => ((goodIn_app (goodIn_app (goodIn_app wsL_law_i1 (goodIn_app wsL_law_i2 (goodIn_app wsL_law_i3 (goodIn_app wsL_law_i4 (goodIn_app wsL_law_i5 (goodIn_app wsL_law_i6 (goodIn_app wsL_law_i7 (goodIn_app wsL_law_i8 (goodIn_app wsL_law_i9 (goodIn_app wsL_law_i10 (goodIn_app wsL_law_i11 wsL_law_i12))))))))))) wsL_law_iX0) (fun _ h => absurd h List.not_mem_nil)) w h).1
theorem wsL_law_in : ∀ w ∈ wsL_law, w ∈ lw_tbl := fun w h => (List.mem_append.mp h).elim (fun h => (List.mem_append.mp h).elim (fun h => (List.mem_append.mp h).elim (fun h => (List.mem_append.mp h).elim (fun h => wsL_law_in0 w h) (fun h => wsL_law_x0 w h)) (fun h => wsL_law_x1 w h)) (fun h => wsL_law_x2 w h)) (fun h => wsL_law_x3 w h)
