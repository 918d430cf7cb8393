set_option maxRecDepth 20000 in
theorem zq_1 : ∀ w ∈ wsL_law0_r1, w ∈ lw_tbl := fun w h => (goodIn_p wsL_law0_r1 [139, 142] (by decide +kernel) (by decide +kernel) w h).1
set_option maxRecDepth 20000 in
theorem zq_2 : ∀ w ∈ wsL_law0_r2, w ∈ lw_tbl := fun w h => (goodIn_p wsL_law0_r2 [] (by decide +kernel) (by decide +kernel) w h).1
set_option maxRecDepth 20000 in
theorem zq_3 : ∀ w ∈ wsL_law0_r3, w ∈ lw_tbl := fun w h => (goodIn_p wsL_law0_r3 [147, 169] (by decide +kernel) (by decide +kernel) w h).1
set_option maxRecDepth 20000 in
theorem zq_4 : ∀ w ∈ wsL_law0_r4, w ∈ lw_tbl := fun w h => (goodIn_p wsL_law0_r4 [176, 195] (by decide +kernel) (by decide +kernel) w h).1
set_option maxRecDepth 20000 in
theorem zq_5 : ∀ w ∈ wsL_law0_r5, w ∈ lw_tbl := fun w h => (goodIn_p wsL_law0_r5 [218, 288] (by decide +kernel) (by decide +kernel) w h).1
set_option maxRecDepth 20000 in
theorem zq_6 : ∀ w ∈ wsL_law0_r6, w ∈ lw_tbl := fun w h => (goodIn_p wsL_law0_r6 [331, 399] (by decide +kernel) (by decide +kernel) w h).1
set_option maxRecDepth 20000 in
theorem zq_7 : ∀ w ∈ wsL_law0_r7, w ∈ lw_tbl := fun w h => (goodIn_p wsL_law0_r7 [423, 450, 476] (by decide +kernel) (by decide +kernel) w h).1
set_option maxRecDepth 20000 in
theorem zq_8 : ∀ w ∈ wsL_law0_r8, w ∈ lw_tbl := fun w h => (goodIn_p wsL_law0_r8 [1287] (by decide +kernel) (by decide +kernel) w h).1
set_option maxRecDepth 20000 in
theorem zq_9 : ∀ w ∈ wsL_law0_r9, w ∈ lw_tbl := fun w h => (goodIn_p wsL_law0_r9 [] (by decide +kernel) (by decide +kernel) w h).1
set_option maxRecDepth 20000 in
theorem zq_10 : ∀ w ∈ wsL_law0_r10, w ∈ lw_tbl := fun w h => (goodIn_p wsL_law0_r10 [547, 550, 554, 1510, 1513, 558, 1517] (by decide +kernel) (by decide +kernel) w h).1
set_option maxRecDepth 20000 in
theorem zq_11 : ∀ w ∈ wsL_law0_r11, w ∈ lw_tbl := fun w h => (goodIn_p wsL_law0_r11 [562, 566, 570, 573, 577, 581] (by decide +kernel) (by decide +kernel) w h).1
set_option maxRecDepth 20000 in
theorem zq_12 : ∀ w ∈ wsL_law0_r12, w ∈ lw_tbl := fun w h => (goodIn_p wsL_law0_r12 [585, 589, 596, 600, 604] (by decide +kernel) (by decide +kernel) w h).1
set_option maxRecDepth 20000 in
theorem zq_13 : ∀ w ∈ wsL_law0_r13, w ∈ lw_tbl := fun w h => (goodIn_p wsL_law0_r13 [610, 614, 618, 622, 626, 631] (by decide +kernel) (by decide +kernel) w h).1
set_option maxRecDepth 20000 in
theorem zq_14 : ∀ w ∈ wsL_law0_r14, w ∈ lw_tbl := fun w h => (goodIn_p wsL_law0_r14 [635, 639, 643, 648, 654] (by decide +kernel) (by decide +kernel) w h).1
set_option maxRecDepth 20000 in
theorem zq_15 : ∀ w ∈ wsL_law0_r15, w ∈ lw_tbl := fun w h => (goodIn_p wsL_law0_r15 [676, 662, 666, 672, 679, 658] (by decide +kernel) (by decide +kernel) w h).1
