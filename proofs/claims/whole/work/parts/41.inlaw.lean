set_option maxRecDepth 20000 in
theorem wsL_law_i1 : GoodIn lw_tbl wsL_law0_r1 := goodIn_p wsL_law0_r1 [48, 51] (by decide +kernel) (by decide +kernel)
set_option maxRecDepth 20000 in
theorem wsL_law_i2 : GoodIn lw_tbl wsL_law0_r2 := goodIn_p wsL_law0_r2 [454] (by decide +kernel) (by decide +kernel)
set_option maxRecDepth 20000 in
theorem wsL_law_i3 : GoodIn lw_tbl wsL_law0_r3 := goodIn_p wsL_law0_r3 [189, 192, 195, 267] (by decide +kernel) (by decide +kernel)
set_option maxRecDepth 20000 in
theorem wsL_law_i4 : GoodIn lw_tbl wsL_law0_r4 := goodIn_p wsL_law0_r4 [287, 291, 295, 299, 521] (by decide +kernel) (by decide +kernel)
set_option maxRecDepth 20000 in
theorem wsL_law_i5 : GoodIn lw_tbl wsL_law0_r5 := goodIn_p wsL_law0_r5 [524, 528, 517, 307, 311] (by decide +kernel) (by decide +kernel)
set_option maxRecDepth 20000 in
theorem wsL_law_i6 : GoodIn lw_tbl wsL_law0_r6 := goodIn_p wsL_law0_r6 [160, 532, 536, 334, 338] (by decide +kernel) (by decide +kernel)
set_option maxRecDepth 20000 in
theorem wsL_law_i7 : GoodIn lw_tbl wsL_law0_r7 := goodIn_p wsL_law0_r7 [342, 540, 544, 350, 147] (by decide +kernel) (by decide +kernel)
set_option maxRecDepth 20000 in
theorem wsL_law_i8 : GoodIn lw_tbl wsL_law0_r8 := goodIn_p wsL_law0_r8 [548, 357, 552, 115, 556] (by decide +kernel) (by decide +kernel)
set_option maxRecDepth 20000 in
theorem wsL_law_i9 : GoodIn lw_tbl wsL_law0_r9 := goodIn_p wsL_law0_r9 [119, 560, 364, 135, 139] (by decide +kernel) (by decide +kernel)
set_option maxRecDepth 20000 in
theorem wsL_law_i10 : GoodIn lw_tbl wsL_law0_r10 := goodIn_p wsL_law0_r10 [143, 152, 163, 156, 167, 127] (by decide +kernel) (by decide +kernel)
set_option maxRecDepth 20000 in
theorem wsL_law_i11 : GoodIn lw_tbl wsL_law0_r11 := goodIn_p wsL_law0_r11 [564, 568, 572, 576, 580] (by decide +kernel) (by decide +kernel)
set_option maxRecDepth 20000 in
theorem wsL_law_i12 : GoodIn lw_tbl wsL_law0_r12 := goodIn_p wsL_law0_r12 [584, 588, 592, 596, 600, 123] (by decide +kernel) (by decide +kernel)
set_option maxRecDepth 20000 in
theorem wsL_law_i13 : GoodIn lw_tbl wsL_law0_r13 := goodIn_p wsL_law0_r13 [131, 604, 171, 608, 371] (by decide +kernel) (by decide +kernel)
set_option maxRecDepth 20000 in
theorem wsL_law_i14 : GoodIn lw_tbl wsL_law0_r14 := goodIn_p wsL_law0_r14 [612, 616, 379, 382, 620] (by decide +kernel) (by decide +kernel)
set_option maxRecDepth 20000 in
theorem wsL_law_i15 : GoodIn lw_tbl wsL_law0_r15 := goodIn_p wsL_law0_r15 [405, 624, 176, 628] (by decide +kernel) (by decide +kernel)
set_option maxRecDepth 20000 in
theorem wsL_law_i16 : GoodIn lw_tbl wsL_law0_r16 := goodIn_p wsL_law0_r16 [412, 632, 419, 636, 180, 640] (by decide +kernel) (by decide +kernel)
set_option maxRecDepth 20000 in
theorem wsL_law_i17 : GoodIn lw_tbl wsL_law0_r17 := goodIn_p wsL_law0_r17 [644, 426, 648, 433] (by decide +kernel) (by decide +kernel)
set_option maxRecDepth 20000 in
theorem wsL_law_i18 : GoodIn lw_tbl wsL_law0_r18 := goodIn_p wsL_law0_r18 [449, 438, 442, 446, 652] (by decide +kernel) (by decide +kernel)
set_option maxRecDepth 20000 in
theorem wsL_law_iX0 : GoodIn lw_tbl wsX00 := goodIn_p wsX00 [] (by decide +kernel) (by decide +kernel)
set_option maxRecDepth 20000 in
theorem wsL_law_iX1 : GoodIn lw_tbl wsX10 := goodIn_p wsX10 [] (by decide +kernel) (by decide +kernel)
theorem wsL_law_in0 : ∀ w ∈ wsL_law0, w ∈ lw_tbl := fun w h => ((goodIn_app (goodIn_app (goodIn_app (goodIn_app wsL_law_i1 (goodIn_app wsL_law_i2 (goodIn_app wsL_law_i3 (goodIn_app wsL_law_i4 (goodIn_app wsL_law_i5 (goodIn_app wsL_law_i6 (goodIn_app wsL_law_i7 (goodIn_app wsL_law_i8 (goodIn_app wsL_law_i9 (goodIn_app wsL_law_i10 (goodIn_app wsL_law_i11 (goodIn_app wsL_law_i12 (goodIn_app wsL_law_i13 (goodIn_app wsL_law_i14 (goodIn_app wsL_law_i15 (goodIn_app wsL_law_i16 (goodIn_app wsL_law_i17 (wsL_law_i18)))))))))))))))))) wsL_law_iX0) wsL_law_iX1) (fun w h => nomatch h) : GoodIn lw_tbl wsL_law0) w h).1
theorem wsL_law_x0 : ∀ w ∈ (vx_atS RX0 175 "java/lang/IllegalArgumentException" ["java/lang/RuntimeException", "java/lang/Exception"]).filter goodWord, w ∈ lw_tbl := by decide +kernel
theorem wsL_law_x1 : ∀ w ∈ (vx_atS RX0 180 "java/lang/IllegalStateException" ["java/lang/RuntimeException", "java/lang/Exception"]).filter goodWord, w ∈ lw_tbl := by decide +kernel
theorem wsL_law_x2 : ∀ w ∈ (vx_atS RX0 166 "java/lang/IndexOutOfBoundsException" ["java/lang/RuntimeException", "java/lang/Exception"]).filter goodWord, w ∈ lw_tbl := by decide +kernel
theorem wsL_law_x3 : ∀ w ∈ (gNSat).filter goodWord, w ∈ lw_tbl := by decide +kernel
theorem wsL_law_in : ∀ w ∈ wsL_law, w ∈ lw_tbl := fun w h => (List.mem_append.mp h).elim (fun h => (List.mem_append.mp h).elim (fun h => (List.mem_append.mp h).elim (fun h => (List.mem_append.mp h).elim (fun h => wsL_law_in0 w h) (fun h => wsL_law_x0 w h)) (fun h => wsL_law_x1 w h)) (fun h => wsL_law_x2 w h)) (fun h => wsL_law_x3 w h)
theorem inlX0 : ∀ w ∈ wsX00, w ∈ wsL_law := fun _ h => List.mem_append_left _ (List.mem_append_left _ (List.mem_append_left _ (List.mem_append_left _ (List.mem_append_left _ (List.mem_append_left _ (List.mem_append_right _ h))))))
theorem inX0 : ∀ w ∈ wsX00, w ∈ lw_tbl := fun w h => wsL_law_in w (inlX0 w h)
theorem inlX1 : ∀ w ∈ wsX10, w ∈ wsL_law := fun _ h => List.mem_append_left _ (List.mem_append_left _ (List.mem_append_left _ (List.mem_append_left _ (List.mem_append_left _ (List.mem_append_right _ h)))))
theorem inX1 : ∀ w ∈ wsX10, w ∈ lw_tbl := fun w h => wsL_law_in w (inlX1 w h)
