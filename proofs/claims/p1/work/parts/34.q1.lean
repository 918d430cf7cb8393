set_option maxRecDepth 20000 in
theorem zq_16 : ∀ w ∈ wsL_law0_r16, w ∈ lw_tbl := fun w h => (goodIn_p wsL_law0_r16 [682, 686, 690, 694, 700] (by decide +kernel) (by decide +kernel) w h).1
set_option maxRecDepth 20000 in
theorem zq_17 : ∀ w ∈ wsL_law0_r17, w ∈ lw_tbl := fun w h => (goodIn_p wsL_law0_r17 [705, 708, 712, 1521, 1525] (by decide +kernel) (by decide +kernel) w h).1
set_option maxRecDepth 20000 in
theorem zq_18 : ∀ w ∈ wsL_law0_r18, w ∈ lw_tbl := fun w h => (goodIn_p wsL_law0_r18 [1529, 1533, 1537, 1541, 1545] (by decide +kernel) (by decide +kernel) w h).1
set_option maxRecDepth 20000 in
theorem zq_19 : ∀ w ∈ wsL_law0_r19, w ∈ lw_tbl := fun w h => (goodIn_p wsL_law0_r19 [1549, 1552, 1555, 1559, 1562, 1566] (by decide +kernel) (by decide +kernel) w h).1
set_option maxRecDepth 20000 in
theorem zq_20 : ∀ w ∈ wsL_law0_r20, w ∈ lw_tbl := fun w h => (goodIn_p wsL_law0_r20 [1570, 1574, 1578, 1582] (by decide +kernel) (by decide +kernel) w h).1
set_option maxRecDepth 20000 in
theorem zq_21 : ∀ w ∈ wsL_law0_r21, w ∈ lw_tbl := fun w h => (goodIn_p wsL_law0_r21 [1631, 1594, 1635, 1586, 1590, 1598, 1602, 1610] (by decide +kernel) (by decide +kernel) w h).1
set_option maxRecDepth 20000 in
theorem zq_22 : ∀ w ∈ wsL_law0_r22, w ∈ lw_tbl := fun w h => (goodIn_p wsL_law0_r22 [1613, 1617, 1620, 1606, 1624, 1627, 1639] (by decide +kernel) (by decide +kernel) w h).1
set_option maxRecDepth 20000 in
theorem zq_23 : ∀ w ∈ wsL_law0_r23, w ∈ lw_tbl := fun w h => (goodIn_p wsL_law0_r23 [1643, 721, 725, 729, 733] (by decide +kernel) (by decide +kernel) w h).1
set_option maxRecDepth 20000 in
theorem zq_24 : ∀ w ∈ wsL_law0_r24, w ∈ lw_tbl := fun w h => (goodIn_p wsL_law0_r24 [737, 741, 745, 749, 1647] (by decide +kernel) (by decide +kernel) w h).1
set_option maxRecDepth 20000 in
theorem zq_25 : ∀ w ∈ wsL_law0_r25, w ∈ lw_tbl := fun w h => (goodIn_p wsL_law0_r25 [1651, 753, 1655] (by decide +kernel) (by decide +kernel) w h).1
set_option maxRecDepth 20000 in
theorem zq_26 : ∀ w ∈ wsL_law0_r26, w ∈ lw_tbl := fun w h => (goodIn_p wsL_law0_r26 [1220, 1659, 1663, 1506] (by decide +kernel) (by decide +kernel) w h).1
set_option maxRecDepth 20000 in
theorem zq_27 : ∀ w ∈ wsL_law0_r27, w ∈ lw_tbl := fun w h => (goodIn_p wsL_law0_r27 [757, 761, 765, 1667, 1671, 1675] (by decide +kernel) (by decide +kernel) w h).1
set_option maxRecDepth 20000 in
theorem zq_28 : ∀ w ∈ wsL_law0_r28, w ∈ lw_tbl := fun w h => (goodIn_p wsL_law0_r28 [769, 1679, 773, 777, 781] (by decide +kernel) (by decide +kernel) w h).1
set_option maxRecDepth 20000 in
theorem zq_29 : ∀ w ∈ wsL_law0_r29, w ∈ lw_tbl := fun w h => (goodIn_p wsL_law0_r29 [785, 789, 793, 797, 801, 805] (by decide +kernel) (by decide +kernel) w h).1
set_option maxRecDepth 20000 in
theorem zq_30 : ∀ w ∈ wsL_law0_r30, w ∈ lw_tbl := fun w h => (goodIn_p wsL_law0_r30 [1683, 1687, 1691, 809, 813, 817] (by decide +kernel) (by decide +kernel) w h).1
