theorem zt_X0 : Cond.instantiable RX0 7 ∈ lw_tbl := by decide +kernel
theorem zt_X1 : Cond.instantiable RX1 4 ∈ lw_tbl := by decide +kernel
theorem zt_X2 : Cond.instantiable RX2 4 ∈ lw_tbl := by decide +kernel
theorem zt_X3 : Cond.instantiable RX3 3 ∈ lw_tbl := by decide +kernel
theorem zt_X4 : Cond.instantiable RX4 8 ∈ lw_tbl := by decide +kernel
theorem zt_X5 : Cond.instantiable RX5 6 ∈ lw_tbl := by decide +kernel
theorem zt_X6 : Cond.instantiable RX6 7 ∈ lw_tbl := by decide +kernel
theorem zt_X7 : Cond.instantiable RX7 3 ∈ lw_tbl := by decide +kernel
theorem zt_X8 : Cond.instantiable RX8 4 ∈ lw_tbl := by decide +kernel
theorem zt_X9 : Cond.instantiable RX9 5 ∈ lw_tbl := by decide +kernel
theorem zt_X10 : Cond.instantiable RX10 19 ∈ lw_tbl := by decide +kernel
theorem zt_X11 : Cond.instantiable RX11 16 ∈ lw_tbl := by decide +kernel
theorem zt_X12 : Cond.instantiable RX12 70 ∈ lw_tbl := by decide +kernel
theorem zi_L_law_X11 : ∀ w ∈ wsX110, w ∈ wsL_law := inlX11
theorem zi_L_law_X12 : ∀ w ∈ wsX120, w ∈ wsL_law := inlX12
theorem dL_at_0 : decode cL_at 0 = .ok (.aload_n 2, 1) := by decide +kernel
theorem dL_at_1 : decode cL_at 1 = .ok (.iconst 0, 1) := by decide +kernel
theorem dL_at_2 : decode cL_at 2 = .ok (.aload_n 0, 1) := by decide +kernel
theorem dL_at_3 : decode cL_at 3 = .ok (.iload_n 1, 1) := by decide +kernel
theorem dL_at_4 : decode cL_at 4 = .ok (.invokevirtual 7, 3) := by decide +kernel
theorem dL_at_7 : decode cL_at 7 = .ok (.i2l, 1) := by decide +kernel
theorem dL_at_8 : decode cL_at 8 = .ok (.lastore, 1) := by decide +kernel
theorem dL_at_9 : decode cL_at 9 = .ok (.goto 6, 3) := by decide +kernel
theorem dL_at_12 : decode cL_at 12 = .ok (.astore_n 3, 1) := by decide +kernel
theorem dL_at_13 : decode cL_at 13 = .ok (.iconst 1, 1) := by decide +kernel
theorem dL_at_14 : decode cL_at 14 = .ok (.ireturn, 1) := by decide +kernel
theorem dL_at_15 : decode cL_at 15 = .ok (.iconst 0, 1) := by decide +kernel
theorem dL_at_16 : decode cL_at 16 = .ok (.ireturn, 1) := by decide +kernel
