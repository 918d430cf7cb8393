set_option maxRecDepth 20000 in
theorem zq_46 : ∀ w ∈ wsL_law0_r46, w ∈ lw_tbl := fun w h => (goodIn_p wsL_law0_r46 [1039, 1828, 1044, 1048, 1052] (by decide +kernel) (by decide +kernel) w h).1
set_option maxRecDepth 20000 in
theorem zq_47 : ∀ w ∈ wsL_law0_r47, w ∈ lw_tbl := fun w h => (goodIn_p wsL_law0_r47 [1833, 1837, 1057, 1061, 1067, 1071] (by decide +kernel) (by decide +kernel) w h).1
set_option maxRecDepth 20000 in
theorem zq_48 : ∀ w ∈ wsL_law0_r48, w ∈ lw_tbl := fun w h => (goodIn_p wsL_law0_r48 [1841, 1088, 1092, 1845, 1849] (by decide +kernel) (by decide +kernel) w h).1
set_option maxRecDepth 20000 in
theorem zq_49 : ∀ w ∈ wsL_law0_r49, w ∈ lw_tbl := fun w h => (goodIn_p wsL_law0_r49 [1097, 1101, 1105, 1109, 1115, 1120] (by decide +kernel) (by decide +kernel) w h).1
set_option maxRecDepth 20000 in
theorem zq_50 : ∀ w ∈ wsL_law0_r50, w ∈ lw_tbl := fun w h => (goodIn_p wsL_law0_r50 [1124, 1128, 1134, 1138, 1853] (by decide +kernel) (by decide +kernel) w h).1
set_option maxRecDepth 20000 in
theorem zq_51 : ∀ w ∈ wsL_law0_r51, w ∈ lw_tbl := fun w h => (goodIn_p wsL_law0_r51 [1857, 1861, 1142, 1146, 1150, 1155] (by decide +kernel) (by decide +kernel) w h).1
set_option maxRecDepth 20000 in
theorem zq_52 : ∀ w ∈ wsL_law0_r52, w ∈ lw_tbl := fun w h => (goodIn_p wsL_law0_r52 [1159, 1165, 1169, 1176] (by decide +kernel) (by decide +kernel) w h).1
set_option maxRecDepth 20000 in
theorem zq_53 : ∀ w ∈ wsL_law0_r53, w ∈ lw_tbl := fun w h => (goodIn_p wsL_law0_r53 [1180, 1187, 1194, 1865] (by decide +kernel) (by decide +kernel) w h).1
set_option maxRecDepth 20000 in
theorem zq_54 : ∀ w ∈ wsL_law0_r54, w ∈ lw_tbl := fun w h => (goodIn_p wsL_law0_r54 [1869, 1873, 1877, 1881, 1885] (by decide +kernel) (by decide +kernel) w h).1
set_option maxRecDepth 20000 in
theorem zq_55 : ∀ w ∈ wsL_law0_r55, w ∈ lw_tbl := fun w h => (goodIn_p wsL_law0_r55 [1891, 1200, 1895, 1075, 1079, 1084] (by decide +kernel) (by decide +kernel) w h).1
set_option maxRecDepth 20000 in
theorem zq_56 : ∀ w ∈ wsL_law0_r56, w ∈ lw_tbl := fun w h => (goodIn_p wsL_law0_r56 [1899, 1204, 1903, 1208, 1907] (by decide +kernel) (by decide +kernel) w h).1
set_option maxRecDepth 20000 in
theorem zq_57 : ∀ w ∈ wsL_law0_r57, w ∈ lw_tbl := fun w h => (goodIn_p wsL_law0_r57 [1212, 1911] (by decide +kernel) (by decide +kernel) w h).1
