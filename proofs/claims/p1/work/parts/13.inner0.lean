theorem zi_X2_readFrom_X2 : ∀ w ∈ wsX20, w ∈ wsX2_readFrom := by decide +kernel
theorem zi_X8_rewind_X8 : ∀ w ∈ wsX80, w ∈ wsX8_rewind := by decide +kernel
theorem zi_X2_readTurn_X2 : ∀ w ∈ wsX20, w ∈ wsX2_readTurn := by decide +kernel
theorem zi_X8_peek_X8 : ∀ w ∈ wsX80, w ∈ wsX8_peek := by decide +kernel
theorem zi_X8_fail_X8 : ∀ w ∈ wsX80, w ∈ wsX8_fail := by decide +kernel
theorem zi_X8_endsWell_X8 : ∀ w ∈ wsX80, w ∈ wsX8_endsWell := by decide +kernel
theorem dX8_rewind_0 : decode cX8_rewind 0 = .ok (.aload_n 0, 1) := by decide +kernel
theorem dX8_rewind_1 : decode cX8_rewind 1 = .ok (.iconst 0, 1) := by decide +kernel
theorem dX8_rewind_2 : decode cX8_rewind 2 = .ok (.putfield 19, 3) := by decide +kernel
theorem dX8_rewind_5 : decode cX8_rewind 5 = .ok (.aload_n 0, 1) := by decide +kernel
theorem dX8_rewind_6 : decode cX8_rewind 6 = .ok (.iconst (-1), 1) := by decide +kernel
theorem dX8_rewind_7 : decode cX8_rewind 7 = .ok (.putfield 22, 3) := by decide +kernel
theorem dX8_rewind_10 : decode cX8_rewind 10 = .ok (.return_, 1) := by decide +kernel
theorem dX8_peek_0 : decode cX8_peek 0 = .ok (.aload_n 0, 1) := by decide +kernel
theorem dX8_peek_1 : decode cX8_peek 1 = .ok (.getfield 22, 3) := by decide +kernel
theorem dX8_peek_4 : decode cX8_peek 4 = .ok (.iconst (-1), 1) := by decide +kernel
theorem dX8_peek_5 : decode cX8_peek 5 = .ok (.if_icmp .eq 5, 3) := by decide +kernel
theorem dX8_peek_8 : decode cX8_peek 8 = .ok (.iconst (-1), 1) := by decide +kernel
theorem dX8_peek_9 : decode cX8_peek 9 = .ok (.ireturn, 1) := by decide +kernel
theorem dX8_peek_10 : decode cX8_peek 10 = .ok (.aload_n 0, 1) := by decide +kernel
theorem dX8_peek_11 : decode cX8_peek 11 = .ok (.getfield 19, 3) := by decide +kernel
theorem dX8_peek_14 : decode cX8_peek 14 = .ok (.aload_n 0, 1) := by decide +kernel
theorem dX8_peek_15 : decode cX8_peek 15 = .ok (.getfield 15, 3) := by decide +kernel
theorem dX8_peek_18 : decode cX8_peek 18 = .ok (.if_icmp .ge 40, 3) := by decide +kernel
theorem dX8_peek_21 : decode cX8_peek 21 = .ok (.aload_n 0, 1) := by decide +kernel
theorem dX8_peek_22 : decode cX8_peek 22 = .ok (.getfield 19, 3) := by decide +kernel
theorem dX8_peek_25 : decode cX8_peek 25 = .ok (.sipush 160, 3) := by decide +kernel
theorem dX8_peek_28 : decode cX8_peek 28 = .ok (.if_icmp .ge 30, 3) := by decide +kernel
theorem dX8_peek_31 : decode cX8_peek 31 = .ok (.aload_n 0, 1) := by decide +kernel
theorem dX8_peek_32 : decode cX8_peek 32 = .ok (.getfield 9, 3) := by decide +kernel
theorem dX8_peek_35 : decode cX8_peek 35 = .ok (.aload_n 0, 1) := by decide +kernel
theorem dX8_peek_36 : decode cX8_peek 36 = .ok (.getfield 19, 3) := by decide +kernel
theorem dX8_peek_39 : decode cX8_peek 39 = .ok (.iaload, 1) := by decide +kernel
theorem dX8_peek_40 : decode cX8_peek 40 = .ok (.bipush 32, 2) := by decide +kernel
theorem dX8_peek_42 : decode cX8_peek 42 = .ok (.if_icmp .ne 16, 3) := by decide +kernel
theorem dX8_peek_45 : decode cX8_peek 45 = .ok (.aload_n 0, 1) := by decide +kernel
theorem dX8_peek_46 : decode cX8_peek 46 = .ok (.dup, 1) := by decide +kernel
theorem dX8_peek_47 : decode cX8_peek 47 = .ok (.getfield 19, 3) := by decide +kernel
theorem dX8_peek_50 : decode cX8_peek 50 = .ok (.iconst 1, 1) := by decide +kernel
theorem dX8_peek_51 : decode cX8_peek 51 = .ok (.iadd, 1) := by decide +kernel
theorem dX8_peek_52 : decode cX8_peek 52 = .ok (.putfield 19, 3) := by decide +kernel
theorem dX8_peek_55 : decode cX8_peek 55 = .ok (.goto (-45), 3) := by decide +kernel
theorem dX8_peek_58 : decode cX8_peek 58 = .ok (.aload_n 0, 1) := by decide +kernel
theorem dX8_peek_59 : decode cX8_peek 59 = .ok (.getfield 19, 3) := by decide +kernel
theorem dX8_peek_62 : decode cX8_peek 62 = .ok (.aload_n 0, 1) := by decide +kernel
theorem dX8_peek_63 : decode cX8_peek 63 = .ok (.getfield 15, 3) := by decide +kernel
theorem dX8_peek_66 : decode cX8_peek 66 = .ok (.if_icmp .ge 25, 3) := by decide +kernel
theorem dX8_peek_69 : decode cX8_peek 69 = .ok (.aload_n 0, 1) := by decide +kernel
theorem dX8_peek_70 : decode cX8_peek 70 = .ok (.getfield 19, 3) := by decide +kernel
theorem dX8_peek_73 : decode cX8_peek 73 = .ok (.sipush 160, 3) := by decide +kernel
theorem dX8_peek_76 : decode cX8_peek 76 = .ok (.if_icmp .ge 15, 3) := by decide +kernel
theorem dX8_peek_79 : decode cX8_peek 79 = .ok (.aload_n 0, 1) := by decide +kernel
theorem dX8_peek_80 : decode cX8_peek 80 = .ok (.getfield 9, 3) := by decide +kernel
theorem dX8_peek_83 : decode cX8_peek 83 = .ok (.aload_n 0, 1) := by decide +kernel
theorem dX8_peek_84 : decode cX8_peek 84 = .ok (.getfield 19, 3) := by decide +kernel
theorem dX8_peek_87 : decode cX8_peek 87 = .ok (.iaload, 1) := by decide +kernel
theorem dX8_peek_88 : decode cX8_peek 88 = .ok (.goto 4, 3) := by decide +kernel
theorem dX8_peek_91 : decode cX8_peek 91 = .ok (.iconst (-1), 1) := by decide +kernel
theorem dX8_peek_92 : decode cX8_peek 92 = .ok (.ireturn, 1) := by decide +kernel
theorem dX8_takes_0 : decode cX8_takes 0 = .ok (.aload_n 0, 1) := by decide +kernel
theorem dX8_takes_1 : decode cX8_takes 1 = .ok (.invokevirtual 25, 3) := by decide +kernel
theorem dX8_takes_4 : decode cX8_takes 4 = .ok (.iload_n 1, 1) := by decide +kernel
theorem dX8_takes_5 : decode cX8_takes 5 = .ok (.if_icmp .eq 5, 3) := by decide +kernel
theorem dX8_takes_8 : decode cX8_takes 8 = .ok (.iconst 0, 1) := by decide +kernel
theorem dX8_takes_9 : decode cX8_takes 9 = .ok (.ireturn, 1) := by decide +kernel
theorem dX8_takes_10 : decode cX8_takes 10 = .ok (.aload_n 0, 1) := by decide +kernel
theorem dX8_takes_11 : decode cX8_takes 11 = .ok (.invokevirtual 29, 3) := by decide +kernel
theorem dX8_takes_14 : decode cX8_takes 14 = .ok (.iconst 1, 1) := by decide +kernel
theorem dX8_takes_15 : decode cX8_takes 15 = .ok (.ireturn, 1) := by decide +kernel
theorem dX8_placeAhead_0 : decode cX8_placeAhead 0 = .ok (.aload_n 0, 1) := by decide +kernel
theorem dX8_placeAhead_1 : decode cX8_placeAhead 1 = .ok (.invokevirtual 25, 3) := by decide +kernel
theorem dX8_placeAhead_4 : decode cX8_placeAhead 4 = .ok (.bipush 97, 2) := by decide +kernel
theorem dX8_placeAhead_6 : decode cX8_placeAhead 6 = .ok (.isub, 1) := by decide +kernel
theorem dX8_placeAhead_7 : decode cX8_placeAhead 7 = .ok (.istore_n 2, 1) := by decide +kernel
theorem dX8_placeAhead_8 : decode cX8_placeAhead 8 = .ok (.iload_n 2, 1) := by decide +kernel
theorem dX8_placeAhead_9 : decode cX8_placeAhead 9 = .ok (.ifCond .lt 12, 3) := by decide +kernel
theorem dX8_placeAhead_12 : decode cX8_placeAhead 12 = .ok (.iload_n 2, 1) := by decide +kernel
theorem dX8_placeAhead_13 : decode cX8_placeAhead 13 = .ok (.iload_n 1, 1) := by decide +kernel
theorem dX8_placeAhead_14 : decode cX8_placeAhead 14 = .ok (.if_icmp .ge 7, 3) := by decide +kernel
theorem dX8_placeAhead_17 : decode cX8_placeAhead 17 = .ok (.iload_n 2, 1) := by decide +kernel
theorem dX8_placeAhead_18 : decode cX8_placeAhead 18 = .ok (.goto 4, 3) := by decide +kernel
theorem dX8_placeAhead_21 : decode cX8_placeAhead 21 = .ok (.iconst (-1), 1) := by decide +kernel
theorem dX8_placeAhead_22 : decode cX8_placeAhead 22 = .ok (.ireturn, 1) := by decide +kernel
theorem dX8_fail_0 : decode cX8_fail 0 = .ok (.aload_n 0, 1) := by decide +kernel
theorem dX8_fail_1 : decode cX8_fail 1 = .ok (.getfield 22, 3) := by decide +kernel
theorem dX8_fail_4 : decode cX8_fail 4 = .ok (.iconst (-1), 1) := by decide +kernel
theorem dX8_fail_5 : decode cX8_fail 5 = .ok (.if_icmp .ne 16, 3) := by decide +kernel
theorem dX8_fail_8 : decode cX8_fail 8 = .ok (.aload_n 0, 1) := by decide +kernel
theorem dX8_fail_9 : decode cX8_fail 9 = .ok (.invokevirtual 25, 3) := by decide +kernel
theorem dX8_fail_12 : decode cX8_fail 12 = .ok (.pop, 1) := by decide +kernel
theorem dX8_fail_13 : decode cX8_fail 13 = .ok (.aload_n 0, 1) := by decide +kernel
theorem dX8_fail_14 : decode cX8_fail 14 = .ok (.aload_n 0, 1) := by decide +kernel
theorem dX8_fail_15 : decode cX8_fail 15 = .ok (.getfield 19, 3) := by decide +kernel
theorem dX8_fail_18 : decode cX8_fail 18 = .ok (.putfield 22, 3) := by decide +kernel
theorem dX8_fail_21 : decode cX8_fail 21 = .ok (.return_, 1) := by decide +kernel
theorem dX2_readPlace_0 : decode cX2_readPlace 0 = .ok (.aload_n 0, 1) := by decide +kernel
theorem dX2_readPlace_1 : decode cX2_readPlace 1 = .ok (.bipush 9, 2) := by decide +kernel
theorem dX2_readPlace_3 : decode cX2_readPlace 3 = .ok (.invokevirtual 53, 3) := by decide +kernel
theorem dX2_readPlace_6 : decode cX2_readPlace 6 = .ok (.istore_n 1, 1) := by decide +kernel
theorem dX2_readPlace_7 : decode cX2_readPlace 7 = .ok (.iload_n 1, 1) := by decide +kernel
theorem dX2_readPlace_8 : decode cX2_readPlace 8 = .ok (.iconst (-1), 1) := by decide +kernel
theorem dX2_readPlace_9 : decode cX2_readPlace 9 = .ok (.if_icmp .ne 9, 3) := by decide +kernel
theorem dX2_readPlace_12 : decode cX2_readPlace 12 = .ok (.aload_n 0, 1) := by decide +kernel
theorem dX2_readPlace_13 : decode cX2_readPlace 13 = .ok (.invokevirtual 57, 3) := by decide +kernel
theorem dX2_readPlace_16 : decode cX2_readPlace 16 = .ok (.iconst 0, 1) := by decide +kernel
theorem dX2_readPlace_17 : decode cX2_readPlace 17 = .ok (.ireturn, 1) := by decide +kernel
theorem dX2_readPlace_18 : decode cX2_readPlace 18 = .ok (.aload_n 0, 1) := by decide +kernel
theorem dX2_readPlace_19 : decode cX2_readPlace 19 = .ok (.invokevirtual 60, 3) := by decide +kernel
theorem dX2_readPlace_22 : decode cX2_readPlace 22 = .ok (.iload_n 1, 1) := by decide +kernel
theorem dX2_readPlace_23 : decode cX2_readPlace 23 = .ok (.ireturn, 1) := by decide +kernel
theorem dX2_readMove_0 : decode cX2_readMove 0 = .ok (.aload_n 0, 1) := by decide +kernel
theorem dX2_readMove_1 : decode cX2_readMove 1 = .ok (.bipush 45, 2) := by decide +kernel
theorem dX2_readMove_3 : decode cX2_readMove 3 = .ok (.invokevirtual 34, 3) := by decide +kernel
theorem dX2_readMove_6 : decode cX2_readMove 6 = .ok (.ifCond .eq 6, 3) := by decide +kernel
theorem dX2_readMove_9 : decode cX2_readMove 9 = .ok (.bipush 99, 2) := by decide +kernel
theorem dX2_readMove_11 : decode cX2_readMove 11 = .ok (.ireturn, 1) := by decide +kernel
theorem dX2_readMove_12 : decode cX2_readMove 12 = .ok (.aload_n 0, 1) := by decide +kernel
theorem dX2_readMove_13 : decode cX2_readMove 13 = .ok (.invokestatic 50, 3) := by decide +kernel
theorem dX2_readMove_16 : decode cX2_readMove 16 = .ok (.istore_n 1, 1) := by decide +kernel
theorem dX2_readMove_17 : decode cX2_readMove 17 = .ok (.bipush 10, 2) := by decide +kernel
theorem dX2_readMove_19 : decode cX2_readMove 19 = .ok (.iload_n 1, 1) := by decide +kernel
theorem dX2_readMove_20 : decode cX2_readMove 20 = .ok (.imul, 1) := by decide +kernel
theorem dX2_readMove_21 : decode cX2_readMove 21 = .ok (.aload_n 0, 1) := by decide +kernel
theorem dX2_readMove_22 : decode cX2_readMove 22 = .ok (.invokestatic 50, 3) := by decide +kernel
theorem dX2_readMove_25 : decode cX2_readMove 25 = .ok (.iadd, 1) := by decide +kernel
theorem dX2_readMove_26 : decode cX2_readMove 26 = .ok (.ireturn, 1) := by decide +kernel
theorem dX2_readTurn_0 : decode cX2_readTurn 0 = .ok (.iload_n 2, 1) := by decide +kernel
theorem dX2_readTurn_1 : decode cX2_readTurn 1 = .ok (.ifCond .lt 9, 3) := by decide +kernel
theorem dX2_readTurn_4 : decode cX2_readTurn 4 = .ok (.iload_n 2, 1) := by decide +kernel
theorem dX2_readTurn_5 : decode cX2_readTurn 5 = .ok (.bipush 30, 2) := by decide +kernel
theorem dX2_readTurn_7 : decode cX2_readTurn 7 = .ok (.if_icmp .lt 4, 3) := by decide +kernel
theorem dX2_readTurn_10 : decode cX2_readTurn 10 = .ok (.return_, 1) := by decide +kernel
theorem dX2_readTurn_11 : decode cX2_readTurn 11 = .ok (.aload_n 0, 1) := by decide +kernel
theorem dX2_readTurn_12 : decode cX2_readTurn 12 = .ok (.getfield 9, 3) := by decide +kernel
theorem dX2_readTurn_15 : decode cX2_readTurn 15 = .ok (.iload_n 2, 1) := by decide +kernel
theorem dX2_readTurn_16 : decode cX2_readTurn 16 = .ok (.aload_n 1, 1) := by decide +kernel
theorem dX2_readTurn_17 : decode cX2_readTurn 17 = .ok (.invokestatic 42, 3) := by decide +kernel
theorem dX2_readTurn_20 : decode cX2_readTurn 20 = .ok (.iastore, 1) := by decide +kernel
theorem dX2_readTurn_21 : decode cX2_readTurn 21 = .ok (.aload_n 0, 1) := by decide +kernel
theorem dX2_readTurn_22 : decode cX2_readTurn 22 = .ok (.getfield 15, 3) := by decide +kernel
theorem dX2_readTurn_25 : decode cX2_readTurn 25 = .ok (.iload_n 2, 1) := by decide +kernel
theorem dX2_readTurn_26 : decode cX2_readTurn 26 = .ok (.iconst (-1), 1) := by decide +kernel
theorem dX2_readTurn_27 : decode cX2_readTurn 27 = .ok (.iastore, 1) := by decide +kernel
theorem dX2_readTurn_28 : decode cX2_readTurn 28 = .ok (.aload_n 0, 1) := by decide +kernel
theorem dX2_readTurn_29 : decode cX2_readTurn 29 = .ok (.getfield 18, 3) := by decide +kernel
theorem dX2_readTurn_32 : decode cX2_readTurn 32 = .ok (.iload_n 2, 1) := by decide +kernel
theorem dX2_readTurn_33 : decode cX2_readTurn 33 = .ok (.iconst 0, 1) := by decide +kernel
theorem dX2_readTurn_34 : decode cX2_readTurn 34 = .ok (.iastore, 1) := by decide +kernel
theorem dX2_readTurn_35 : decode cX2_readTurn 35 = .ok (.aload_n 1, 1) := by decide +kernel
theorem dX2_readTurn_36 : decode cX2_readTurn 36 = .ok (.bipush 44, 2) := by decide +kernel
theorem dX2_readTurn_38 : decode cX2_readTurn 38 = .ok (.invokevirtual 34, 3) := by decide +kernel
theorem dX2_readTurn_41 : decode cX2_readTurn 41 = .ok (.ifCond .ne 4, 3) := by decide +kernel
theorem dX2_readTurn_44 : decode cX2_readTurn 44 = .ok (.return_, 1) := by decide +kernel
theorem dX2_readTurn_45 : decode cX2_readTurn 45 = .ok (.aload_n 0, 1) := by decide +kernel
theorem dX2_readTurn_46 : decode cX2_readTurn 46 = .ok (.getfield 15, 3) := by decide +kernel
theorem dX2_readTurn_49 : decode cX2_readTurn 49 = .ok (.iload_n 2, 1) := by decide +kernel
theorem dX2_readTurn_50 : decode cX2_readTurn 50 = .ok (.aload_n 1, 1) := by decide +kernel
theorem dX2_readTurn_51 : decode cX2_readTurn 51 = .ok (.invokestatic 42, 3) := by decide +kernel
theorem dX2_readTurn_54 : decode cX2_readTurn 54 = .ok (.iastore, 1) := by decide +kernel
theorem dX2_readTurn_55 : decode cX2_readTurn 55 = .ok (.aload_n 1, 1) := by decide +kernel
theorem dX2_readTurn_56 : decode cX2_readTurn 56 = .ok (.bipush 50, 2) := by decide +kernel
theorem dX2_readTurn_58 : decode cX2_readTurn 58 = .ok (.invokevirtual 34, 3) := by decide +kernel
theorem dX2_readTurn_61 : decode cX2_readTurn 61 = .ok (.ifCond .eq 13, 3) := by decide +kernel
theorem dX2_readTurn_64 : decode cX2_readTurn 64 = .ok (.aload_n 0, 1) := by decide +kernel
theorem dX2_readTurn_65 : decode cX2_readTurn 65 = .ok (.getfield 18, 3) := by decide +kernel
theorem dX2_readTurn_68 : decode cX2_readTurn 68 = .ok (.iload_n 2, 1) := by decide +kernel
theorem dX2_readTurn_69 : decode cX2_readTurn 69 = .ok (.iconst 1, 1) := by decide +kernel
theorem dX2_readTurn_70 : decode cX2_readTurn 70 = .ok (.iastore, 1) := by decide +kernel
theorem dX2_readTurn_71 : decode cX2_readTurn 71 = .ok (.goto 9, 3) := by decide +kernel
theorem dX2_readTurn_74 : decode cX2_readTurn 74 = .ok (.aload_n 1, 1) := by decide +kernel
theorem dX2_readTurn_75 : decode cX2_readTurn 75 = .ok (.bipush 49, 2) := by decide +kernel
theorem dX2_readTurn_77 : decode cX2_readTurn 77 = .ok (.invokevirtual 46, 3) := by decide +kernel
theorem dX2_readTurn_80 : decode cX2_readTurn 80 = .ok (.return_, 1) := by decide +kernel
theorem dX8_endsWell_0 : decode cX8_endsWell 0 = .ok (.aload_n 0, 1) := by decide +kernel
theorem dX8_endsWell_1 : decode cX8_endsWell 1 = .ok (.invokevirtual 25, 3) := by decide +kernel
theorem dX8_endsWell_4 : decode cX8_endsWell 4 = .ok (.iconst (-1), 1) := by decide +kernel
theorem dX8_endsWell_5 : decode cX8_endsWell 5 = .ok (.if_icmp .eq 7, 3) := by decide +kernel
theorem dX8_endsWell_8 : decode cX8_endsWell 8 = .ok (.aload_n 0, 1) := by decide +kernel
theorem dX8_endsWell_9 : decode cX8_endsWell 9 = .ok (.invokevirtual 36, 3) := by decide +kernel
theorem dX8_endsWell_12 : decode cX8_endsWell 12 = .ok (.aload_n 0, 1) := by decide +kernel
theorem dX8_endsWell_13 : decode cX8_endsWell 13 = .ok (.getfield 22, 3) := by decide +kernel
theorem dX8_endsWell_16 : decode cX8_endsWell 16 = .ok (.iconst (-1), 1) := by decide +kernel
theorem dX8_endsWell_17 : decode cX8_endsWell 17 = .ok (.if_icmp .ne 7, 3) := by decide +kernel
theorem dX8_endsWell_20 : decode cX8_endsWell 20 = .ok (.iconst 1, 1) := by decide +kernel
theorem dX8_endsWell_21 : decode cX8_endsWell 21 = .ok (.goto 4, 3) := by decide +kernel
theorem dX8_endsWell_24 : decode cX8_endsWell 24 = .ok (.iconst 0, 1) := by decide +kernel
theorem dX8_endsWell_25 : decode cX8_endsWell 25 = .ok (.ireturn, 1) := by decide +kernel
theorem dX2_readFrom_0 : decode cX2_readFrom 0 = .ok (.aload_n 0, 1) := by decide +kernel
theorem dX2_readFrom_1 : decode cX2_readFrom 1 = .ok (.iconst 0, 1) := by decide +kernel
theorem dX2_readFrom_2 : decode cX2_readFrom 2 = .ok (.putfield 21, 3) := by decide +kernel
theorem dX2_readFrom_5 : decode cX2_readFrom 5 = .ok (.aload_n 1, 1) := by decide +kernel
theorem dX2_readFrom_6 : decode cX2_readFrom 6 = .ok (.invokevirtual 25, 3) := by decide +kernel
theorem dX2_readFrom_9 : decode cX2_readFrom 9 = .ok (.iconst 0, 1) := by decide +kernel
theorem dX2_readFrom_10 : decode cX2_readFrom 10 = .ok (.istore_n 2, 1) := by decide +kernel
theorem dX2_readFrom_11 : decode cX2_readFrom 11 = .ok (.iload_n 2, 1) := by decide +kernel
theorem dX2_readFrom_12 : decode cX2_readFrom 12 = .ok (.bipush 30, 2) := by decide +kernel
theorem dX2_readFrom_14 : decode cX2_readFrom 14 = .ok (.if_icmp .ge 43, 3) := by decide +kernel
theorem dX2_readFrom_17 : decode cX2_readFrom 17 = .ok (.aload_n 0, 1) := by decide +kernel
theorem dX2_readFrom_18 : decode cX2_readFrom 18 = .ok (.aload_n 1, 1) := by decide +kernel
theorem dX2_readFrom_19 : decode cX2_readFrom 19 = .ok (.iload_n 2, 1) := by decide +kernel
theorem dX2_readFrom_20 : decode cX2_readFrom 20 = .ok (.invokevirtual 30, 3) := by decide +kernel
theorem dX2_readFrom_23 : decode cX2_readFrom 23 = .ok (.aload_n 0, 1) := by decide +kernel
theorem dX2_readFrom_24 : decode cX2_readFrom 24 = .ok (.iload_n 2, 1) := by decide +kernel
theorem dX2_readFrom_25 : decode cX2_readFrom 25 = .ok (.iconst 1, 1) := by decide +kernel
theorem dX2_readFrom_26 : decode cX2_readFrom 26 = .ok (.iadd, 1) := by decide +kernel
theorem dX2_readFrom_27 : decode cX2_readFrom 27 = .ok (.putfield 21, 3) := by decide +kernel
theorem dX2_readFrom_30 : decode cX2_readFrom 30 = .ok (.aload_n 0, 1) := by decide +kernel
theorem dX2_readFrom_31 : decode cX2_readFrom 31 = .ok (.getfield 21, 3) := by decide +kernel
theorem dX2_readFrom_34 : decode cX2_readFrom 34 = .ok (.bipush 30, 2) := by decide +kernel
theorem dX2_readFrom_36 : decode cX2_readFrom 36 = .ok (.if_icmp .eq 21, 3) := by decide +kernel
theorem dX2_readFrom_39 : decode cX2_readFrom 39 = .ok (.aload_n 1, 1) := by decide +kernel
theorem dX2_readFrom_40 : decode cX2_readFrom 40 = .ok (.bipush 59, 2) := by decide +kernel
theorem dX2_readFrom_42 : decode cX2_readFrom 42 = .ok (.invokevirtual 34, 3) := by decide +kernel
theorem dX2_readFrom_45 : decode cX2_readFrom 45 = .ok (.ifCond .ne 6, 3) := by decide +kernel
theorem dX2_readFrom_48 : decode cX2_readFrom 48 = .ok (.goto 9, 3) := by decide +kernel
theorem dX2_readFrom_51 : decode cX2_readFrom 51 = .ok (.iinc 2 1, 3) := by decide +kernel
theorem dX2_readFrom_54 : decode cX2_readFrom 54 = .ok (.goto (-43), 3) := by decide +kernel
theorem dX2_readFrom_57 : decode cX2_readFrom 57 = .ok (.aload_n 1, 1) := by decide +kernel
theorem dX2_readFrom_58 : decode cX2_readFrom 58 = .ok (.invokevirtual 38, 3) := by decide +kernel
theorem dX2_readFrom_61 : decode cX2_readFrom 61 = .ok (.ireturn, 1) := by decide +kernel
theorem dX8_need_0 : decode cX8_need 0 = .ok (.aload_n 0, 1) := by decide +kernel
theorem dX8_need_1 : decode cX8_need 1 = .ok (.iload_n 1, 1) := by decide +kernel
theorem dX8_need_2 : decode cX8_need 2 = .ok (.invokevirtual 32, 3) := by decide +kernel
theorem dX8_need_5 : decode cX8_need 5 = .ok (.ifCond .ne 7, 3) := by decide +kernel
theorem dX8_need_8 : decode cX8_need 8 = .ok (.aload_n 0, 1) := by decide +kernel
theorem dX8_need_9 : decode cX8_need 9 = .ok (.invokevirtual 36, 3) := by decide +kernel
theorem dX8_need_12 : decode cX8_need 12 = .ok (.return_, 1) := by decide +kernel
set_option maxRecDepth 20000 in
theorem ggX2_readFrom_X8_rewind : GoodIn wsX2_readFrom wsX8_rewind := goodIn_r _ [6, 7, 8, 60, 61, 62, 63] (by decide +kernel) (by decide +kernel)
set_option maxRecDepth 20000 in
theorem gX2_readFrom_X8_rewind : GoodIn wsX2_readFrom (wsV RX2 25 RX8 yX8_rewind wsX8_rewind) := goodIn_app (goodIn_of _ (by decide +kernel)) ggX2_readFrom_X8_rewind
set_option maxRecDepth 20000 in
theorem ggX8_takes_X8_peek : GoodIn wsX8_takes wsX8_peek := goodIn_r _ [5, 6, 7, 8, 9, 14, 15, 16, 17] (by decide +kernel) (by decide +kernel)
set_option maxRecDepth 20000 in
theorem gX8_takes_X8_peek : GoodIn wsX8_takes (wsV RX8 25 RX8 yX8_peek wsX8_peek) := goodIn_app (goodIn_of _ (by decide +kernel)) ggX8_takes_X8_peek
set_option maxRecDepth 20000 in
theorem ggX2_readMove_X8_takes : GoodIn wsX2_readMove wsX8_takes := goodIn_r _ [5, 6, 7, 8, 4, 9, 10, 11, 12, 13, 14, 15, 16, 17, 31, 32, 33, 34] (by decide +kernel) (by decide +kernel)
set_option maxRecDepth 20000 in
theorem gX2_readMove_X8_takes : GoodIn wsX2_readMove (wsV RX2 34 RX8 yX8_takes wsX8_takes) := goodIn_app (goodIn_of _ (by decide +kernel)) ggX2_readMove_X8_takes
set_option maxRecDepth 20000 in
theorem ggX8_placeAhead_X8_peek : GoodIn wsX8_placeAhead wsX8_peek := goodIn_r _ [5, 6, 7, 8, 9, 10, 11, 12, 13] (by decide +kernel) (by decide +kernel)
set_option maxRecDepth 20000 in
theorem gX8_placeAhead_X8_peek : GoodIn wsX8_placeAhead (wsV RX8 25 RX8 yX8_peek wsX8_peek) := goodIn_app (goodIn_of _ (by decide +kernel)) ggX8_placeAhead_X8_peek
set_option maxRecDepth 20000 in
theorem ggX2_readPlace_X8_placeAhead : GoodIn wsX2_readPlace wsX8_placeAhead := goodIn_r _ [5, 6, 7, 8, 4, 9, 10, 11, 12, 13, 22, 23, 24, 25] (by decide +kernel) (by decide +kernel)
set_option maxRecDepth 20000 in
theorem gX2_readPlace_X8_placeAhead : GoodIn wsX2_readPlace (wsV RX2 53 RX8 yX8_placeAhead wsX8_placeAhead) := goodIn_app (goodIn_of _ (by decide +kernel)) ggX2_readPlace_X8_placeAhead
set_option maxRecDepth 20000 in
theorem ggX8_fail_X8_peek : GoodIn wsX8_fail wsX8_peek := goodIn_r _ [7, 1, 2, 8, 9, 10, 11, 12, 13] (by decide +kernel) (by decide +kernel)
set_option maxRecDepth 20000 in
theorem gX8_fail_X8_peek : GoodIn wsX8_fail (wsV RX8 25 RX8 yX8_peek wsX8_peek) := goodIn_app (goodIn_of _ (by decide +kernel)) ggX8_fail_X8_peek
set_option maxRecDepth 20000 in
theorem ggX2_readPlace_X8_fail : GoodIn wsX2_readPlace wsX8_fail := goodIn_r _ [17, 10, 11, 6, 7, 8, 4, 9, 12, 13, 22, 23, 24, 25] (by decide +kernel) (by decide +kernel)
set_option maxRecDepth 20000 in
theorem gX2_readPlace_X8_fail : GoodIn wsX2_readPlace (wsV RX2 57 RX8 yX8_fail wsX8_fail) := goodIn_app (goodIn_of _ (by decide +kernel)) ggX2_readPlace_X8_fail
set_option maxRecDepth 20000 in
theorem ggX2_readMove_X2_readPlace : GoodIn wsX2_readMove wsX2_readPlace := goodIn_r _ [21, 22, 23, 24, 4, 25, 6, 7, 8, 9, 10, 11, 12, 13, 26, 27, 28, 29, 30, 15, 16, 17, 31, 32, 33, 34] (by decide +kernel) (by decide +kernel)
set_option maxRecDepth 20000 in
theorem gX2_readMove_X2_readPlace : GoodIn wsX2_readMove (va_wsS RX2 50 yX2_readPlace wsX2_readPlace) := goodIn_app (goodIn_of _ (by decide +kernel)) ggX2_readMove_X2_readPlace
set_option maxRecDepth 20000 in
theorem ggX2_readTurn_X2_readMove : GoodIn wsX2_readTurn wsX2_readMove := goodIn_r _ [7, 8, 9, 10, 11, 12, 13, 14, 15, 16, 17, 18, 19, 20, 21, 22, 23, 24, 25, 26, 6, 27, 28, 29, 30, 31, 32, 33, 34, 35, 36, 47, 48, 49, 50] (by decide +kernel) (by decide +kernel)
set_option maxRecDepth 20000 in
theorem gX2_readTurn_X2_readMove : GoodIn wsX2_readTurn (va_wsS RX2 42 yX2_readMove wsX2_readMove) := goodIn_app (goodIn_of _ (by decide +kernel)) ggX2_readTurn_X2_readMove
set_option maxRecDepth 20000 in
theorem ggX2_readTurn_X8_takes : GoodIn wsX2_readTurn wsX8_takes := goodIn_r _ [12, 13, 14, 15, 11, 16, 17, 18, 19, 20, 21, 22, 23, 24, 47, 48, 49, 50] (by decide +kernel) (by decide +kernel)
set_option maxRecDepth 20000 in
theorem gX2_readTurn_X8_takes : GoodIn wsX2_readTurn (wsV RX2 34 RX8 yX8_takes wsX8_takes) := goodIn_app (goodIn_of _ (by decide +kernel)) ggX2_readTurn_X8_takes
set_option maxRecDepth 20000 in
theorem ggX2_readFrom_X2_readTurn : GoodIn wsX2_readFrom wsX2_readTurn := goodIn_r _ [13, 14, 15, 16, 17, 18, 12, 19, 20, 21, 22, 5, 23, 24, 25, 26, 27, 8, 7, 28, 29, 30, 31, 32, 33, 34, 35, 36, 37, 38, 39, 40, 41, 42, 43, 44, 45, 46, 47, 48, 49, 50, 51, 56, 57, 58, 59, 60, 61, 62, 63] (by decide +kernel) (by decide +kernel)
set_option maxRecDepth 20000 in
theorem gX2_readFrom_X2_readTurn : GoodIn wsX2_readFrom (wsV RX2 30 RX2 yX2_readTurn wsX2_readTurn) := goodIn_app (goodIn_of _ (by decide +kernel)) ggX2_readFrom_X2_readTurn
set_option maxRecDepth 20000 in
theorem ggX2_readFrom_X8_takes : GoodIn wsX2_readFrom wsX8_takes := goodIn_r _ [23, 24, 25, 26, 5, 27, 8, 7, 28, 29, 30, 31, 32, 33, 60, 61, 62, 63] (by decide +kernel) (by decide +kernel)
set_option maxRecDepth 20000 in
theorem gX2_readFrom_X8_takes : GoodIn wsX2_readFrom (wsV RX2 34 RX8 yX8_takes wsX8_takes) := goodIn_app (goodIn_of _ (by decide +kernel)) ggX2_readFrom_X8_takes
set_option maxRecDepth 20000 in
theorem ggX8_endsWell_X8_peek : GoodIn wsX8_endsWell wsX8_peek := goodIn_r _ [6, 1, 7, 8, 9, 14, 15, 16, 17] (by decide +kernel) (by decide +kernel)
set_option maxRecDepth 20000 in
theorem gX8_endsWell_X8_peek : GoodIn wsX8_endsWell (wsV RX8 25 RX8 yX8_peek wsX8_peek) := goodIn_app (goodIn_of _ (by decide +kernel)) ggX8_endsWell_X8_peek
set_option maxRecDepth 20000 in
theorem ggX2_readFrom_X8_endsWell : GoodIn wsX2_readFrom wsX8_endsWell := goodIn_r _ [55, 8, 24, 25, 26, 5, 27, 7, 28, 29, 51, 42, 43, 44, 60, 61, 62, 63] (by decide +kernel) (by decide +kernel)
set_option maxRecDepth 20000 in
theorem gX2_readFrom_X8_endsWell : GoodIn wsX2_readFrom (wsV RX2 38 RX8 yX8_endsWell wsX8_endsWell) := goodIn_app (goodIn_of _ (by decide +kernel)) ggX2_readFrom_X8_endsWell
set_option maxRecDepth 20000 in
theorem ggX8_need_X8_takes : GoodIn wsX8_need wsX8_takes := goodIn_r _ [5, 6, 7, 8, 4, 9, 10, 11, 12, 13, 14, 15, 16, 17, 22, 23, 24, 25] (by decide +kernel) (by decide +kernel)
set_option maxRecDepth 20000 in
theorem gX8_need_X8_takes : GoodIn wsX8_need (wsV RX8 32 RX8 yX8_takes wsX8_takes) := goodIn_app (goodIn_of _ (by decide +kernel)) ggX8_need_X8_takes
set_option maxRecDepth 20000 in
theorem ggX8_need_X8_fail : GoodIn wsX8_need wsX8_fail := goodIn_r _ [21, 10, 11, 6, 7, 8, 4, 9, 12, 13, 22, 23, 24, 25] (by decide +kernel) (by decide +kernel)
set_option maxRecDepth 20000 in
theorem gX8_need_X8_fail : GoodIn wsX8_need (wsV RX8 36 RX8 yX8_fail wsX8_fail) := goodIn_app (goodIn_of _ (by decide +kernel)) ggX8_need_X8_fail
set_option maxHeartbeats 8000000 in
set_option maxRecDepth 100000 in
theorem zk_X8_rewind (l : Launch) (dC : Nat → ClassId) (dI : Nat → Nat → Nat) (h0 : Nat) (h1 : Nat) (sz : Nat) : Met l yX8_rewind wsX8_rewind ({ frames := 0, cells := 0, slots := 0, locals := 0 }) (va_Pc [.ref h0] (zw_P dC dI sz [] [(h0, .inr (8, [.ref h1, .int 0, .int 0, .int (-1)]))])) (va_Qv (fun (_ : Unit) => True) (fun (_ : Unit) (t : State) => zw_Q dC dI (va_A [(h0, .inr (8, [.ref h1, .int 0, .int 0, .int (-1)]))] sz) [] [(h0, .inr (8, [.ref h1, .int 0, .int 0, .int (-1)]))] t) (va_A [(h0, .inr (8, [.ref h1, .int 0, .int 0, .int (-1)]))] sz)) 0 0 (va_A [(h0, .inr (8, [.ref h1, .int 0, .int 0, .int (-1)]))] sz) := by
  refine Met.ofW (cc := cX8_rewind) (maxL := 1) (ret := none) (by decide) rfl ?_
  intro p e s m args below meth c s₁ B hml hv
  obtain ⟨rfl, hsz, hP, hK, hD0, hN⟩ := hv
  have hx := B.exec
  have hb := B.bytes
  have hr := B.returns
  have hts := atoms_spec (ws := wsX8_rewind) B.pre
  have hown : s.vm.findClass RX8 = some m.cls := findClass_of_methodNamed B.named
  have hlocks := B.notSynchronized
  subst hsz
  have hD := hD0.self (sz := s.heap.size)
  generalize hAe : va_A [(h0, .inr (8, [.ref h1, .int 0, .int 0, .int (-1)]))] s.heap.size = A at hD ⊢
  have hA : ∀ q : Nat, s.heap.size ≤ q → A q := fun q h => by rw [← hAe]; exact Or.inr h
  have hP : va_P (dC, dI) classes [(h0, .inr (8, [.ref h1, .int 0, .int 0, .int (-1)]))] s.heap := hP
  have hl := lv_entry ([.ref h0]) (n := 1) (Nat.le_of_ble_eq_true rfl)
  rw [lg_entry_eq]
  generalize (lg_sl ([.ref h0]) ++ List.replicate (1 - (lg_sl ([.ref h0])).length) Slot.unset).toArray = ls at hl ⊢
  have hl : lv_has ls 1 [(0, .ref h0)] := hl
  refine zw_start (fun H eH => ?_)
  have hP : va_P (dC, dI) classes [(h0, .inr (8, [.ref h1, .int 0, .int 0, .int (-1)]))] H := by rw [eH]; exact hP
  have hS : va_S A s.heap H [] := by rw [eH]; exact va_S.rf
  refine lv_aload_n hx hb dX8_rewind_0 rfl (lv_at hl 0 rfl) ?_
  refine lv_iconst (v := 0) hx hb dX8_rewind_1 (by decide) ?_
  refine va_put (D := (dC, dI)) (ci := 8) (v := .int 0) (ty := .int) (C := RX8) (T := TX8) (N := 4) hx hb hts zi_X8_rewind_X8 tyX8 tyX8_ok nmX8 hown hK hP hD hS 0 rfl rfl 2 (by decide) (hts (.fieldLink RX8 19 "HoldTwo$Tape" "cursor" "I") (by decide +kernel)) (fun _ h9 => h9) rfl (by decide +kernel) rfl rfl (Nat.le_of_ble_eq_true rfl) dX8_rewind_2 (fun H locs hP hD hS => ?_)
  have hP : va_P (dC, dI) classes [(h0, .inr (8, [.ref h1, .int 0, .int 0, .int (-1)]))] H := hP
  have hD : va_D A [(h0, .inr (8, [.ref h1, .int 0, .int 0, .int (-1)]))] := hD
  refine lv_aload_n hx hb dX8_rewind_5 rfl (lv_at hl 0 rfl) ?_
  refine lv_iconst (v := (-1)) hx hb dX8_rewind_6 (by decide) ?_
  refine va_put (D := (dC, dI)) (ci := 8) (v := .int (-1)) (ty := .int) (C := RX8) (T := TX8) (N := 4) hx hb hts zi_X8_rewind_X8 tyX8 tyX8_ok nmX8 hown hK hP hD hS 0 rfl rfl 3 (by decide) (hts (.fieldLink RX8 22 "HoldTwo$Tape" "wrong" "I") (by decide +kernel)) (fun _ h9 => h9) rfl (by decide +kernel) rfl rfl (Nat.le_of_ble_eq_true rfl) dX8_rewind_7 (fun H locs hP hD hS => ?_)
  have hP : va_P (dC, dI) classes [(h0, .inr (8, [.ref h1, .int 0, .int 0, .int (-1)]))] H := hP
  have hD : va_D A [(h0, .inr (8, [.ref h1, .int 0, .int 0, .int (-1)]))] := hD
  have hP9 := hP.sub (ws' := [(h0, .inr (8, [.ref h1, .int 0, .int 0, .int (-1)]))]) [0] rfl
  have hD9 := hD.sub (ws' := [(h0, .inr (8, [.ref h1, .int 0, .int 0, .int (-1)]))]) [0] (by decide) rfl
  have hK9 := hK.sub (tys' := []) [] rfl
  refine W.widen (k := 0) (n := 0) (Nat.le_of_ble_eq_true rfl) (Nat.le_of_ble_eq_true rfl) ?_
  exact W.vret hx hb hr (fun t ht hW => ⟨⟨(), rfl, trivial, by rw [ht]; exact hP9, va_K.moved hW.alike hK9, hD9⟩, hS.F ht⟩) hS.2.2 dX8_rewind_10
set_option maxHeartbeats 8000000 in
set_option maxRecDepth 100000 in
theorem zk_X8_peek (l : Launch) (dC : Nat → ClassId) (dI : Nat → Nat → Nat) (h0 : Nat) (h1 : Nat) (sz : Nat) : Met l yX8_peek wsX8_peek ({ frames := 0, cells := 0, slots := 0, locals := 0 }) (va_Pc [.ref h0] (zw_P dC dI sz [] [(h0, .inr (8, [.ref h1, .int 0, .int 0, .int (-1)]))])) (va_Qi (fun (r : Int32) (_ : Unit) => r = (-1)) (fun (_ : Unit) (t : State) => zw_Q dC dI (va_A [(h0, .inr (8, [.ref h1, .int 0, .int 0, .int (-1)]))] sz) [] [(h0, .inr (8, [.ref h1, .int 0, .int 0, .int (-1)]))] t) (va_A [(h0, .inr (8, [.ref h1, .int 0, .int 0, .int (-1)]))] sz)) 0 0 (va_A [(h0, .inr (8, [.ref h1, .int 0, .int 0, .int (-1)]))] sz) := by
  refine Met.ofW (cc := cX8_peek) (maxL := 1) (ret := (some .int)) (by decide) rfl ?_
  intro p e s m args below meth c s₁ B hml hv
  obtain ⟨rfl, hsz, hP, hK, hD0, hN⟩ := hv
  have hx := B.exec
  have hb := B.bytes
  have hr := B.returns
  have hts := atoms_spec (ws := wsX8_peek) B.pre
  have hown : s.vm.findClass RX8 = some m.cls := findClass_of_methodNamed B.named
  have hlocks := B.notSynchronized
  subst hsz
  have hD := hD0.self (sz := s.heap.size)
  generalize hAe : va_A [(h0, .inr (8, [.ref h1, .int 0, .int 0, .int (-1)]))] s.heap.size = A at hD ⊢
  have hA : ∀ q : Nat, s.heap.size ≤ q → A q := fun q h => by rw [← hAe]; exact Or.inr h
  have hP : va_P (dC, dI) classes [(h0, .inr (8, [.ref h1, .int 0, .int 0, .int (-1)]))] s.heap := hP
  have hl := lv_entry ([.ref h0]) (n := 1) (Nat.le_of_ble_eq_true rfl)
  rw [lg_entry_eq]
  generalize (lg_sl ([.ref h0]) ++ List.replicate (1 - (lg_sl ([.ref h0])).length) Slot.unset).toArray = ls at hl ⊢
  have hl : lv_has ls 1 [(0, .ref h0)] := hl
  refine zw_start (fun H eH => ?_)
  have hP : va_P (dC, dI) classes [(h0, .inr (8, [.ref h1, .int 0, .int 0, .int (-1)]))] H := by rw [eH]; exact hP
  have hS : va_S A s.heap H [] := by rw [eH]; exact va_S.rf
  refine lv_aload_n hx hb dX8_peek_0 rfl (lv_at hl 0 rfl) ?_
  refine va_get (D := (dC, dI)) (ci := 8) (v := .int (-1)) (C := RX8) (T := TX8) (N := 4) hx hb hts zi_X8_peek_X8 hown hK hP 0 rfl rfl 3 (by decide) (hts (.fieldLink RX8 22 "HoldTwo$Tape" "wrong" "I") (by decide +kernel)) (fun _ h9 => h9) rfl dX8_peek_1 ?_
  refine lv_iconst (v := (-1)) hx hb dX8_peek_4 (by decide) ?_
  refine lv_icmp_eq (tgt := 10) hx hb dX8_peek_5 (by decide) (fun _ => ?_) (fun c9 => absurd (by decide) c9)
  refine lv_aload_n hx hb dX8_peek_10 rfl (lv_at hl 0 rfl) ?_
  refine va_get (D := (dC, dI)) (ci := 8) (v := .int 0) (C := RX8) (T := TX8) (N := 4) hx hb hts zi_X8_peek_X8 hown hK hP 0 rfl rfl 2 (by decide) (hts (.fieldLink RX8 19 "HoldTwo$Tape" "cursor" "I") (by decide +kernel)) (fun _ h9 => h9) rfl dX8_peek_11 ?_
  refine lv_aload_n hx hb dX8_peek_14 rfl (lv_at hl 0 rfl) ?_
  refine va_get (D := (dC, dI)) (ci := 8) (v := .int 0) (C := RX8) (T := TX8) (N := 4) hx hb hts zi_X8_peek_X8 hown hK hP 0 rfl rfl 1 (by decide) (hts (.fieldLink RX8 15 "HoldTwo$Tape" "length" "I") (by decide +kernel)) (fun _ h9 => h9) rfl dX8_peek_15 ?_
  refine lv_icmp_ge (tgt := 58) hx hb dX8_peek_18 (by decide) (fun _ => ?_) (fun c9 => absurd (by decide) c9)
  refine lv_aload_n hx hb dX8_peek_58 rfl (lv_at hl 0 rfl) ?_
  refine va_get (D := (dC, dI)) (ci := 8) (v := .int 0) (C := RX8) (T := TX8) (N := 4) hx hb hts zi_X8_peek_X8 hown hK hP 0 rfl rfl 2 (by decide) (hts (.fieldLink RX8 19 "HoldTwo$Tape" "cursor" "I") (by decide +kernel)) (fun _ h9 => h9) rfl dX8_peek_59 ?_
  refine lv_aload_n hx hb dX8_peek_62 rfl (lv_at hl 0 rfl) ?_
  refine va_get (D := (dC, dI)) (ci := 8) (v := .int 0) (C := RX8) (T := TX8) (N := 4) hx hb hts zi_X8_peek_X8 hown hK hP 0 rfl rfl 1 (by decide) (hts (.fieldLink RX8 15 "HoldTwo$Tape" "length" "I") (by decide +kernel)) (fun _ h9 => h9) rfl dX8_peek_63 ?_
  refine lv_icmp_ge (tgt := 91) hx hb dX8_peek_66 (by decide) (fun _ => ?_) (fun c9 => absurd (by decide) c9)
  refine lv_iconst (v := (-1)) hx hb dX8_peek_91 (by decide) ?_
  have hP9 := hP.sub (ws' := [(h0, .inr (8, [.ref h1, .int 0, .int 0, .int (-1)]))]) [0] rfl
  have hD9 := hD.sub (ws' := [(h0, .inr (8, [.ref h1, .int 0, .int 0, .int (-1)]))]) [0] (by decide) rfl
  have hK9 := hK.sub (tys' := []) [] rfl
  refine W.widen (k := 0) (n := 0) (Nat.le_of_ble_eq_true rfl) (Nat.le_of_ble_eq_true rfl) ?_
  exact W.iret (v := (-1)) hx hb hr (fun t ht hW => ⟨⟨(-1), (), rfl, rfl, by rw [ht]; exact hP9, va_K.moved hW.alike hK9, hD9⟩, hS.F ht⟩) hS.2.2 dX8_peek_92
set_option maxHeartbeats 8000000 in
set_option maxRecDepth 100000 in
theorem zk_X8_takes (l : Launch) (dC : Nat → ClassId) (dI : Nat → Nat → Nat) (h0 : Nat) (h1 : Nat) (sz : Nat) : Met l yX8_takes wsX8_takes ({ frames := 1, cells := 0, slots := 0, locals := 20 }) (va_Pc [.ref h0, .int 45] (zw_P dC dI sz [] [(h0, .inr (8, [.ref h1, .int 0, .int 0, .int (-1)]))])) (va_Qi (fun (r : Int32) (_ : Unit) => r = 0) (fun (_ : Unit) (t : State) => zw_Q dC dI (va_A [(h0, .inr (8, [.ref h1, .int 0, .int 0, .int (-1)]))] sz) [] [(h0, .inr (8, [.ref h1, .int 0, .int 0, .int (-1)]))] t) (va_A [(h0, .inr (8, [.ref h1, .int 0, .int 0, .int (-1)]))] sz)) 0 0 (va_A [(h0, .inr (8, [.ref h1, .int 0, .int 0, .int (-1)]))] sz) := by
  refine Met.ofW (cc := cX8_takes) (maxL := 2) (ret := (some .boolean)) (by decide) rfl ?_
  intro p e s m args below meth c s₁ B hml hv
  obtain ⟨rfl, hsz, hP, hK, hD0, hN⟩ := hv
  have hx := B.exec
  have hb := B.bytes
  have hr := B.returns
  have hts := atoms_spec (ws := wsX8_takes) B.pre
  have hown : s.vm.findClass RX8 = some m.cls := findClass_of_methodNamed B.named
  have hlocks := B.notSynchronized
  subst hsz
  have hD := hD0.self (sz := s.heap.size)
  generalize hAe : va_A [(h0, .inr (8, [.ref h1, .int 0, .int 0, .int (-1)]))] s.heap.size = A at hD ⊢
  have hA : ∀ q : Nat, s.heap.size ≤ q → A q := fun q h => by rw [← hAe]; exact Or.inr h
  have hP : va_P (dC, dI) classes [(h0, .inr (8, [.ref h1, .int 0, .int 0, .int (-1)]))] s.heap := hP
  have hl := lv_entry ([.ref h0, .int 45]) (n := 2) (Nat.le_of_ble_eq_true rfl)
  rw [lg_entry_eq]
  generalize (lg_sl ([.ref h0, .int 45]) ++ List.replicate (2 - (lg_sl ([.ref h0, .int 45])).length) Slot.unset).toArray = ls at hl ⊢
  have hl : lv_has ls 2 [(0, .ref h0), (1, .int 45)] := hl
  refine zw_start (fun H eH => ?_)
  have hP : va_P (dC, dI) classes [(h0, .inr (8, [.ref h1, .int 0, .int 0, .int (-1)]))] H := by rw [eH]; exact hP
  have hS : va_S A s.heap H [] := by rw [eH]; exact va_S.rf
  refine lv_aload_n hx hb dX8_takes_0 rfl (lv_at hl 0 rfl) ?_
  have hPc := hP.sub (ws' := [(h0, .inr (8, [.ref h1, .int 0, .int 0, .int (-1)]))]) [0] rfl
  have hDc := hD.sub (ws' := [(h0, .inr (8, [.ref h1, .int 0, .int 0, .int (-1)]))]) [0] (by decide) rfl
  have hKc := hK.sub (tys' := []) [] rfl
  have hFc := va_free (wc := [(h0, .inr (8, [.ref h1, .int 0, .int 0, .int (-1)]))]) hD hS hA [0] rfl
  refine va_calli (va_runV (As := []) (rest := []) ⟨hx, hb, hml, hown, hts⟩ (zk_X8_peek l dC dI (h0) (h1) H.size) (cwV 0 hts gX8_takes_X8_peek rfl rfl rfl (by decide +kernel) ⟨Nat.le_of_ble_eq_true rfl, Nat.le_of_ble_eq_true rfl⟩) ⟨zw_blind, va_recv hK hP (ci := 8) (q0 := 0) rfl rfl, fun U hU hW => ⟨rfl, zw_P.of hPc hKc hDc hN U hU hW⟩⟩ rfl rfl hl.1 rfl (lv_room (Nat.le_of_ble_eq_true rfl)) dX8_takes_1 ⟨Nat.le_of_ble_eq_true rfl, Nat.le_of_ble_eq_true rfl⟩) hS (fun q _ h => hFc q h) hFc (fun r_1 u t H1 locs ht hvm hw hB hz1 hk1 hS => ?_)
  obtain ⟨hP1, hK1, hD1⟩ := hB
  rw [ht] at hP1
  obtain ⟨hP, hD⟩ := va_join (wr := []) (w1 := [(h0, .inr (8, [.ref h1, .int 0, .int 0, .int (-1)]))]) hP hD [0] [] rfl rfl (by decide) (by decide) hk1 hFc hP1 hD1
  generalize H1 = H at hP hS ⊢
  have hP : va_P (dC, dI) classes [(h0, .inr (8, [.ref h1, .int 0, .int 0, .int (-1)]))] H := hP
  have hD : va_D A [(h0, .inr (8, [.ref h1, .int 0, .int 0, .int (-1)]))] := hD
  obtain rfl : r_1 = (-1) := hw
  refine lv_iload_n hx hb dX8_takes_4 rfl (lv_at hl 1 rfl) ?_
  refine lv_icmp_eq (tgt := 10) hx hb dX8_takes_5 (by decide) (fun c9 => absurd c9 (by decide)) (fun _ => ?_)
  refine lv_iconst (v := 0) hx hb dX8_takes_8 (by decide) ?_
  have hP9 := hP.sub (ws' := [(h0, .inr (8, [.ref h1, .int 0, .int 0, .int (-1)]))]) [0] rfl
  have hD9 := hD.sub (ws' := [(h0, .inr (8, [.ref h1, .int 0, .int 0, .int (-1)]))]) [0] (by decide) rfl
  have hK9 := hK.sub (tys' := []) [] rfl
  refine W.widen (k := 0) (n := 0) (Nat.le_of_ble_eq_true rfl) (Nat.le_of_ble_eq_true rfl) ?_
  exact W.zret (v := 0) hx hb hr rfl (fun t ht hW => ⟨⟨0, (), rfl, rfl, by rw [ht]; exact hP9, va_K.moved hW.alike hK9, hD9⟩, hS.F ht⟩) hS.2.2 dX8_takes_9
set_option maxHeartbeats 8000000 in
set_option maxRecDepth 100000 in
theorem zk_X8_placeAhead (l : Launch) (dC : Nat → ClassId) (dI : Nat → Nat → Nat) (h0 : Nat) (h1 : Nat) (sz : Nat) : Met l yX8_placeAhead wsX8_placeAhead ({ frames := 1, cells := 0, slots := 0, locals := 20 }) (va_Pc [.ref h0, .int 9] (zw_P dC dI sz [] [(h0, .inr (8, [.ref h1, .int 0, .int 0, .int (-1)]))])) (va_Qi (fun (r : Int32) (_ : Unit) => r = (-1)) (fun (_ : Unit) (t : State) => zw_Q dC dI (va_A [(h0, .inr (8, [.ref h1, .int 0, .int 0, .int (-1)]))] sz) [] [(h0, .inr (8, [.ref h1, .int 0, .int 0, .int (-1)]))] t) (va_A [(h0, .inr (8, [.ref h1, .int 0, .int 0, .int (-1)]))] sz)) 0 0 (va_A [(h0, .inr (8, [.ref h1, .int 0, .int 0, .int (-1)]))] sz) := by
  refine Met.ofW (cc := cX8_placeAhead) (maxL := 3) (ret := (some .int)) (by decide) rfl ?_
  intro p e s m args below meth c s₁ B hml hv
  obtain ⟨rfl, hsz, hP, hK, hD0, hN⟩ := hv
  have hx := B.exec
  have hb := B.bytes
  have hr := B.returns
  have hts := atoms_spec (ws := wsX8_placeAhead) B.pre
  have hown : s.vm.findClass RX8 = some m.cls := findClass_of_methodNamed B.named
  have hlocks := B.notSynchronized
  subst hsz
  have hD := hD0.self (sz := s.heap.size)
  generalize hAe : va_A [(h0, .inr (8, [.ref h1, .int 0, .int 0, .int (-1)]))] s.heap.size = A at hD ⊢
  have hA : ∀ q : Nat, s.heap.size ≤ q → A q := fun q h => by rw [← hAe]; exact Or.inr h
  have hP : va_P (dC, dI) classes [(h0, .inr (8, [.ref h1, .int 0, .int 0, .int (-1)]))] s.heap := hP
  have hl := lv_entry ([.ref h0, .int 9]) (n := 3) (Nat.le_of_ble_eq_true rfl)
  rw [lg_entry_eq]
  generalize (lg_sl ([.ref h0, .int 9]) ++ List.replicate (3 - (lg_sl ([.ref h0, .int 9])).length) Slot.unset).toArray = ls at hl ⊢
  have hl : lv_has ls 3 [(0, .ref h0), (1, .int 9)] := hl
  refine zw_start (fun H eH => ?_)
  have hP : va_P (dC, dI) classes [(h0, .inr (8, [.ref h1, .int 0, .int 0, .int (-1)]))] H := by rw [eH]; exact hP
  have hS : va_S A s.heap H [] := by rw [eH]; exact va_S.rf
  refine lv_aload_n hx hb dX8_placeAhead_0 rfl (lv_at hl 0 rfl) ?_
  have hPc := hP.sub (ws' := [(h0, .inr (8, [.ref h1, .int 0, .int 0, .int (-1)]))]) [0] rfl
  have hDc := hD.sub (ws' := [(h0, .inr (8, [.ref h1, .int 0, .int 0, .int (-1)]))]) [0] (by decide) rfl
  have hKc := hK.sub (tys' := []) [] rfl
  have hFc := va_free (wc := [(h0, .inr (8, [.ref h1, .int 0, .int 0, .int (-1)]))]) hD hS hA [0] rfl
  refine va_calli (va_runV (As := []) (rest := []) ⟨hx, hb, hml, hown, hts⟩ (zk_X8_peek l dC dI (h0) (h1) H.size) (cwV 0 hts gX8_placeAhead_X8_peek rfl rfl rfl (by decide +kernel) ⟨Nat.le_of_ble_eq_true rfl, Nat.le_of_ble_eq_true rfl⟩) ⟨zw_blind, va_recv hK hP (ci := 8) (q0 := 0) rfl rfl, fun U hU hW => ⟨rfl, zw_P.of hPc hKc hDc hN U hU hW⟩⟩ rfl rfl hl.1 rfl (lv_room (Nat.le_of_ble_eq_true rfl)) dX8_placeAhead_1 ⟨Nat.le_of_ble_eq_true rfl, Nat.le_of_ble_eq_true rfl⟩) hS (fun q _ h => hFc q h) hFc (fun r_1 u t H1 locs ht hvm hw hB hz1 hk1 hS => ?_)
  obtain ⟨hP1, hK1, hD1⟩ := hB
  rw [ht] at hP1
  obtain ⟨hP, hD⟩ := va_join (wr := []) (w1 := [(h0, .inr (8, [.ref h1, .int 0, .int 0, .int (-1)]))]) hP hD [0] [] rfl rfl (by decide) (by decide) hk1 hFc hP1 hD1
  generalize H1 = H at hP hS ⊢
  have hP : va_P (dC, dI) classes [(h0, .inr (8, [.ref h1, .int 0, .int 0, .int (-1)]))] H := hP
  have hD : va_D A [(h0, .inr (8, [.ref h1, .int 0, .int 0, .int (-1)]))] := hD
  obtain rfl : r_1 = (-1) := hw
  refine lv_bipush (v := 97) hx hb dX8_placeAhead_4 (by decide) ?_
  refine lv_isub hx hb dX8_placeAhead_6 ?_
  refine lv_topi (fun x_2 ex_2 => ?_)
  have ex_2 : x_2 = (-98) := ex_2.trans (by decide)
  subst ex_2
  refine lv_istore_n (lv' := [(2, .int (-98)), (0, .ref h0), (1, .int 9)]) hx hb dX8_placeAhead_7 rfl hl (by decide) rfl (fun ls hl => ?_)
  refine lv_iload_n hx hb dX8_placeAhead_8 rfl (lv_at hl 0 rfl) ?_
  refine lv_if_lt (tgt := 21) hx hb dX8_placeAhead_9 (by decide) (fun _ => ?_) (fun c9 => absurd (by decide) c9)
  refine lv_iconst (v := (-1)) hx hb dX8_placeAhead_21 (by decide) ?_
  have hP9 := hP.sub (ws' := [(h0, .inr (8, [.ref h1, .int 0, .int 0, .int (-1)]))]) [0] rfl
  have hD9 := hD.sub (ws' := [(h0, .inr (8, [.ref h1, .int 0, .int 0, .int (-1)]))]) [0] (by decide) rfl
  have hK9 := hK.sub (tys' := []) [] rfl
  refine W.widen (k := 0) (n := 0) (Nat.le_of_ble_eq_true rfl) (Nat.le_of_ble_eq_true rfl) ?_
  exact W.iret (v := (-1)) hx hb hr (fun t ht hW => ⟨⟨(-1), (), rfl, rfl, by rw [ht]; exact hP9, va_K.moved hW.alike hK9, hD9⟩, hS.F ht⟩) hS.2.2 dX8_placeAhead_22
set_option maxHeartbeats 8000000 in
set_option maxRecDepth 100000 in
theorem zk_X8_fail (l : Launch) (dC : Nat → ClassId) (dI : Nat → Nat → Nat) (h0 : Nat) (h1 : Nat) (sz : Nat) : Met l yX8_fail wsX8_fail ({ frames := 1, cells := 0, slots := 0, locals := 20 }) (va_Pc [.ref h0] (zw_P dC dI sz [] [(h0, .inr (8, [.ref h1, .int 0, .int 0, .int (-1)]))])) (va_Qv (fun (_ : Unit) => True) (fun (_ : Unit) (t : State) => zw_Q dC dI (va_A [(h0, .inr (8, [.ref h1, .int 0, .int 0, .int (-1)]))] sz) [] [(h0, .inr (8, [.ref h1, .int 0, .int 0, .int 0]))] t) (va_A [(h0, .inr (8, [.ref h1, .int 0, .int 0, .int (-1)]))] sz)) 0 0 (va_A [(h0, .inr (8, [.ref h1, .int 0, .int 0, .int (-1)]))] sz) := by
  refine Met.ofW (cc := cX8_fail) (maxL := 1) (ret := none) (by decide) rfl ?_
  intro p e s m args below meth c s₁ B hml hv
  obtain ⟨rfl, hsz, hP, hK, hD0, hN⟩ := hv
  have hx := B.exec
  have hb := B.bytes
  have hr := B.returns
  have hts := atoms_spec (ws := wsX8_fail) B.pre
  have hown : s.vm.findClass RX8 = some m.cls := findClass_of_methodNamed B.named
  have hlocks := B.notSynchronized
  subst hsz
  have hD := hD0.self (sz := s.heap.size)
  generalize hAe : va_A [(h0, .inr (8, [.ref h1, .int 0, .int 0, .int (-1)]))] s.heap.size = A at hD ⊢
  have hA : ∀ q : Nat, s.heap.size ≤ q → A q := fun q h => by rw [← hAe]; exact Or.inr h
  have hP : va_P (dC, dI) classes [(h0, .inr (8, [.ref h1, .int 0, .int 0, .int (-1)]))] s.heap := hP
  have hl := lv_entry ([.ref h0]) (n := 1) (Nat.le_of_ble_eq_true rfl)
  rw [lg_entry_eq]
  generalize (lg_sl ([.ref h0]) ++ List.replicate (1 - (lg_sl ([.ref h0])).length) Slot.unset).toArray = ls at hl ⊢
  have hl : lv_has ls 1 [(0, .ref h0)] := hl
  refine zw_start (fun H eH => ?_)
  have hP : va_P (dC, dI) classes [(h0, .inr (8, [.ref h1, .int 0, .int 0, .int (-1)]))] H := by rw [eH]; exact hP
  have hS : va_S A s.heap H [] := by rw [eH]; exact va_S.rf
  refine lv_aload_n hx hb dX8_fail_0 rfl (lv_at hl 0 rfl) ?_
  refine va_get (D := (dC, dI)) (ci := 8) (v := .int (-1)) (C := RX8) (T := TX8) (N := 4) hx hb hts zi_X8_fail_X8 hown hK hP 0 rfl rfl 3 (by decide) (hts (.fieldLink RX8 22 "HoldTwo$Tape" "wrong" "I") (by decide +kernel)) (fun _ h9 => h9) rfl dX8_fail_1 ?_
  refine lv_iconst (v := (-1)) hx hb dX8_fail_4 (by decide) ?_
  refine lv_icmp_ne (tgt := 21) hx hb dX8_fail_5 (by decide) (fun c9 => absurd (by decide) c9) (fun _ => ?_)
  refine lv_aload_n hx hb dX8_fail_8 rfl (lv_at hl 0 rfl) ?_
  have hPc := hP.sub (ws' := [(h0, .inr (8, [.ref h1, .int 0, .int 0, .int (-1)]))]) [0] rfl
  have hDc := hD.sub (ws' := [(h0, .inr (8, [.ref h1, .int 0, .int 0, .int (-1)]))]) [0] (by decide) rfl
  have hKc := hK.sub (tys' := []) [] rfl
  have hFc := va_free (wc := [(h0, .inr (8, [.ref h1, .int 0, .int 0, .int (-1)]))]) hD hS hA [0] rfl
  refine va_calli (va_runV (As := []) (rest := []) ⟨hx, hb, hml, hown, hts⟩ (zk_X8_peek l dC dI (h0) (h1) H.size) (cwV 0 hts gX8_fail_X8_peek rfl rfl rfl (by decide +kernel) ⟨Nat.le_of_ble_eq_true rfl, Nat.le_of_ble_eq_true rfl⟩) ⟨zw_blind, va_recv hK hP (ci := 8) (q0 := 0) rfl rfl, fun U hU hW => ⟨rfl, zw_P.of hPc hKc hDc hN U hU hW⟩⟩ rfl rfl hl.1 rfl (lv_room (Nat.le_of_ble_eq_true rfl)) dX8_fail_9 ⟨Nat.le_of_ble_eq_true rfl, Nat.le_of_ble_eq_true rfl⟩) hS (fun q _ h => hFc q h) hFc (fun r_1 u t H1 locs ht hvm hw hB hz1 hk1 hS => ?_)
  obtain ⟨hP1, hK1, hD1⟩ := hB
  rw [ht] at hP1
  obtain ⟨hP, hD⟩ := va_join (wr := []) (w1 := [(h0, .inr (8, [.ref h1, .int 0, .int 0, .int (-1)]))]) hP hD [0] [] rfl rfl (by decide) (by decide) hk1 hFc hP1 hD1
  generalize H1 = H at hP hS ⊢
  have hP : va_P (dC, dI) classes [(h0, .inr (8, [.ref h1, .int 0, .int 0, .int (-1)]))] H := hP
  have hD : va_D A [(h0, .inr (8, [.ref h1, .int 0, .int 0, .int (-1)]))] := hD
  obtain rfl : r_1 = (-1) := hw
  refine lv_pop hx hb dX8_fail_12 rfl ?_
  refine lv_aload_n hx hb dX8_fail_13 rfl (lv_at hl 0 rfl) ?_
  refine lv_aload_n hx hb dX8_fail_14 rfl (lv_at hl 0 rfl) ?_
  refine va_get (D := (dC, dI)) (ci := 8) (v := .int 0) (C := RX8) (T := TX8) (N := 4) hx hb hts zi_X8_fail_X8 hown hK hP 0 rfl rfl 2 (by decide) (hts (.fieldLink RX8 19 "HoldTwo$Tape" "cursor" "I") (by decide +kernel)) (fun _ h9 => h9) rfl dX8_fail_15 ?_
  refine va_put (D := (dC, dI)) (ci := 8) (v := .int 0) (ty := .int) (C := RX8) (T := TX8) (N := 4) hx hb hts zi_X8_fail_X8 tyX8 tyX8_ok nmX8 hown hK hP hD hS 0 rfl rfl 3 (by decide) (hts (.fieldLink RX8 22 "HoldTwo$Tape" "wrong" "I") (by decide +kernel)) (fun _ h9 => h9) rfl (by decide +kernel) rfl rfl (Nat.le_of_ble_eq_true rfl) dX8_fail_18 (fun H locs hP hD hS => ?_)
  have hP : va_P (dC, dI) classes [(h0, .inr (8, [.ref h1, .int 0, .int 0, .int 0]))] H := hP
  have hD : va_D A [(h0, .inr (8, [.ref h1, .int 0, .int 0, .int 0]))] := hD
  have hP9 := hP.sub (ws' := [(h0, .inr (8, [.ref h1, .int 0, .int 0, .int 0]))]) [0] rfl
  have hD9 := hD.sub (ws' := [(h0, .inr (8, [.ref h1, .int 0, .int 0, .int 0]))]) [0] (by decide) rfl
  have hK9 := hK.sub (tys' := []) [] rfl
  refine W.widen (k := 0) (n := 0) (Nat.le_of_ble_eq_true rfl) (Nat.le_of_ble_eq_true rfl) ?_
  exact W.vret hx hb hr (fun t ht hW => ⟨⟨(), rfl, trivial, by rw [ht]; exact hP9, va_K.moved hW.alike hK9, hD9⟩, hS.F ht⟩) hS.2.2 dX8_fail_21
set_option maxHeartbeats 8000000 in
set_option maxRecDepth 100000 in
theorem zk_X2_readPlace (l : Launch) (dC : Nat → ClassId) (dI : Nat → Nat → Nat) (h0 : Nat) (h1 : Nat) (sz : Nat) : Met l yX2_readPlace wsX2_readPlace ({ frames := 2, cells := 0, slots := 0, locals := 42 }) (va_Pc [.ref h0] (zw_P dC dI sz [] [(h0, .inr (8, [.ref h1, .int 0, .int 0, .int (-1)]))])) (va_Qi (fun (r : Int32) (_ : Unit) => r = 0) (fun (_ : Unit) (t : State) => zw_Q dC dI (va_A [(h0, .inr (8, [.ref h1, .int 0, .int 0, .int (-1)]))] sz) [] [(h0, .inr (8, [.ref h1, .int 0, .int 0, .int 0]))] t) (va_A [(h0, .inr (8, [.ref h1, .int 0, .int 0, .int (-1)]))] sz)) 0 0 (va_A [(h0, .inr (8, [.ref h1, .int 0, .int 0, .int (-1)]))] sz) := by
  refine Met.ofW (cc := cX2_readPlace) (maxL := 2) (ret := (some .int)) (by decide) rfl ?_
  intro p e s m args below meth c s₁ B hml hv
  obtain ⟨rfl, hsz, hP, hK, hD0, hN⟩ := hv
  have hx := B.exec
  have hb := B.bytes
  have hr := B.returns
  have hts := atoms_spec (ws := wsX2_readPlace) B.pre
  have hown : s.vm.findClass RX2 = some m.cls := findClass_of_methodNamed B.named
  have hlocks := B.notSynchronized
  subst hsz
  have hD := hD0.self (sz := s.heap.size)
  generalize hAe : va_A [(h0, .inr (8, [.ref h1, .int 0, .int 0, .int (-1)]))] s.heap.size = A at hD ⊢
  have hA : ∀ q : Nat, s.heap.size ≤ q → A q := fun q h => by rw [← hAe]; exact Or.inr h
  have hP : va_P (dC, dI) classes [(h0, .inr (8, [.ref h1, .int 0, .int 0, .int (-1)]))] s.heap := hP
  have hl := lv_entry ([.ref h0]) (n := 2) (Nat.le_of_ble_eq_true rfl)
  rw [lg_entry_eq]
  generalize (lg_sl ([.ref h0]) ++ List.replicate (2 - (lg_sl ([.ref h0])).length) Slot.unset).toArray = ls at hl ⊢
  have hl : lv_has ls 2 [(0, .ref h0)] := hl
  refine zw_start (fun H eH => ?_)
  have hP : va_P (dC, dI) classes [(h0, .inr (8, [.ref h1, .int 0, .int 0, .int (-1)]))] H := by rw [eH]; exact hP
  have hS : va_S A s.heap H [] := by rw [eH]; exact va_S.rf
  refine lv_aload_n hx hb dX2_readPlace_0 rfl (lv_at hl 0 rfl) ?_
  refine lv_bipush (v := 9) hx hb dX2_readPlace_1 (by decide) ?_
  have hPc := hP.sub (ws' := [(h0, .inr (8, [.ref h1, .int 0, .int 0, .int (-1)]))]) [0] rfl
  have hDc := hD.sub (ws' := [(h0, .inr (8, [.ref h1, .int 0, .int 0, .int (-1)]))]) [0] (by decide) rfl
  have hKc := hK.sub (tys' := []) [] rfl
  have hFc := va_free (wc := [(h0, .inr (8, [.ref h1, .int 0, .int 0, .int (-1)]))]) hD hS hA [0] rfl
  refine va_calli (va_runV (As := [.int 9]) (rest := []) ⟨hx, hb, hml, hown, hts⟩ (zk_X8_placeAhead l dC dI (h0) (h1) H.size) (cwV 1 hts gX2_readPlace_X8_placeAhead rfl rfl rfl (by decide +kernel) ⟨Nat.le_of_ble_eq_true rfl, Nat.le_of_ble_eq_true rfl⟩) ⟨zw_blind, va_recv hK hP (ci := 8) (q0 := 0) rfl rfl, fun U hU hW => ⟨rfl, zw_P.of hPc hKc hDc hN U hU hW⟩⟩ rfl rfl hl.1 rfl (lv_room (Nat.le_of_ble_eq_true rfl)) dX2_readPlace_3 ⟨Nat.le_of_ble_eq_true rfl, Nat.le_of_ble_eq_true rfl⟩) hS (fun q _ h => hFc q h) hFc (fun r_1 u t H1 locs ht hvm hw hB hz1 hk1 hS => ?_)
  obtain ⟨hP1, hK1, hD1⟩ := hB
  rw [ht] at hP1
  obtain ⟨hP, hD⟩ := va_join (wr := []) (w1 := [(h0, .inr (8, [.ref h1, .int 0, .int 0, .int (-1)]))]) hP hD [0] [] rfl rfl (by decide) (by decide) hk1 hFc hP1 hD1
  generalize H1 = H at hP hS ⊢
  have hP : va_P (dC, dI) classes [(h0, .inr (8, [.ref h1, .int 0, .int 0, .int (-1)]))] H := hP
  have hD : va_D A [(h0, .inr (8, [.ref h1, .int 0, .int 0, .int (-1)]))] := hD
  obtain rfl : r_1 = (-1) := hw
  refine lv_istore_n (lv' := [(1, .int (-1)), (0, .ref h0)]) hx hb dX2_readPlace_6 rfl hl (by decide) rfl (fun ls hl => ?_)
  refine lv_iload_n hx hb dX2_readPlace_7 rfl (lv_at hl 0 rfl) ?_
  refine lv_iconst (v := (-1)) hx hb dX2_readPlace_8 (by decide) ?_
  refine lv_icmp_ne (tgt := 18) hx hb dX2_readPlace_9 (by decide) (fun c9 => absurd (by decide) c9) (fun _ => ?_)
  refine lv_aload_n hx hb dX2_readPlace_12 rfl (lv_at hl 1 rfl) ?_
  have hPc := hP.sub (ws' := [(h0, .inr (8, [.ref h1, .int 0, .int 0, .int (-1)]))]) [0] rfl
  have hDc := hD.sub (ws' := [(h0, .inr (8, [.ref h1, .int 0, .int 0, .int (-1)]))]) [0] (by decide) rfl
  have hKc := hK.sub (tys' := []) [] rfl
  have hFc := va_free (wc := [(h0, .inr (8, [.ref h1, .int 0, .int 0, .int (-1)]))]) hD hS hA [0] rfl
  refine va_callv (va_runV (As := []) (rest := []) ⟨hx, hb, hml, hown, hts⟩ (zk_X8_fail l dC dI (h0) (h1) H.size) (cwV 0 hts gX2_readPlace_X8_fail rfl rfl rfl (by decide +kernel) ⟨Nat.le_of_ble_eq_true rfl, Nat.le_of_ble_eq_true rfl⟩) ⟨zw_blind, va_recv hK hP (ci := 8) (q0 := 0) rfl rfl, fun U hU hW => ⟨rfl, zw_P.of hPc hKc hDc hN U hU hW⟩⟩ rfl rfl hl.1 rfl (lv_room (Nat.le_of_ble_eq_true rfl)) dX2_readPlace_13 ⟨Nat.le_of_ble_eq_true rfl, Nat.le_of_ble_eq_true rfl⟩) hS (fun q _ h => hFc q h) hFc (fun u t H1 locs ht hvm hw hB hz1 hk1 hS => ?_)
  obtain ⟨hP1, hK1, hD1⟩ := hB
  rw [ht] at hP1
  obtain ⟨hP, hD⟩ := va_join (wr := []) (w1 := [(h0, .inr (8, [.ref h1, .int 0, .int 0, .int 0]))]) hP hD [0] [] rfl rfl (by decide) (by decide) hk1 hFc hP1 hD1
  generalize H1 = H at hP hS ⊢
  have hP : va_P (dC, dI) classes [(h0, .inr (8, [.ref h1, .int 0, .int 0, .int 0]))] H := hP
  have hD : va_D A [(h0, .inr (8, [.ref h1, .int 0, .int 0, .int 0]))] := hD
  refine lv_iconst (v := 0) hx hb dX2_readPlace_16 (by decide) ?_
  have hP9 := hP.sub (ws' := [(h0, .inr (8, [.ref h1, .int 0, .int 0, .int 0]))]) [0] rfl
  have hD9 := hD.sub (ws' := [(h0, .inr (8, [.ref h1, .int 0, .int 0, .int 0]))]) [0] (by decide) rfl
  have hK9 := hK.sub (tys' := []) [] rfl
  refine W.widen (k := 0) (n := 0) (Nat.le_of_ble_eq_true rfl) (Nat.le_of_ble_eq_true rfl) ?_
  exact W.iret (v := 0) hx hb hr (fun t ht hW => ⟨⟨0, (), rfl, rfl, by rw [ht]; exact hP9, va_K.moved hW.alike hK9, hD9⟩, hS.F ht⟩) hS.2.2 dX2_readPlace_17
set_option maxHeartbeats 8000000 in
set_option maxRecDepth 100000 in
theorem zk_X8_peek_1 (l : Launch) (dC : Nat → ClassId) (dI : Nat → Nat → Nat) (h0 : Nat) (h1 : Nat) (sz : Nat) : Met l yX8_peek wsX8_peek ({ frames := 0, cells := 0, slots := 0, locals := 0 }) (va_Pc [.ref h0] (zw_P dC dI sz [] [(h0, .inr (8, [.ref h1, .int 0, .int 0, .int 0]))])) (va_Qi (fun (r : Int32) (_ : Unit) => r = (-1)) (fun (_ : Unit) (t : State) => zw_Q dC dI (va_A [(h0, .inr (8, [.ref h1, .int 0, .int 0, .int 0]))] sz) [] [(h0, .inr (8, [.ref h1, .int 0, .int 0, .int 0]))] t) (va_A [(h0, .inr (8, [.ref h1, .int 0, .int 0, .int 0]))] sz)) 0 0 (va_A [(h0, .inr (8, [.ref h1, .int 0, .int 0, .int 0]))] sz) := by
  refine Met.ofW (cc := cX8_peek) (maxL := 1) (ret := (some .int)) (by decide) rfl ?_
  intro p e s m args below meth c s₁ B hml hv
  obtain ⟨rfl, hsz, hP, hK, hD0, hN⟩ := hv
  have hx := B.exec
  have hb := B.bytes
  have hr := B.returns
  have hts := atoms_spec (ws := wsX8_peek) B.pre
  have hown : s.vm.findClass RX8 = some m.cls := findClass_of_methodNamed B.named
  have hlocks := B.notSynchronized
  subst hsz
  have hD := hD0.self (sz := s.heap.size)
  generalize hAe : va_A [(h0, .inr (8, [.ref h1, .int 0, .int 0, .int 0]))] s.heap.size = A at hD ⊢
  have hA : ∀ q : Nat, s.heap.size ≤ q → A q := fun q h => by rw [← hAe]; exact Or.inr h
  have hP : va_P (dC, dI) classes [(h0, .inr (8, [.ref h1, .int 0, .int 0, .int 0]))] s.heap := hP
  have hl := lv_entry ([.ref h0]) (n := 1) (Nat.le_of_ble_eq_true rfl)
  rw [lg_entry_eq]
  generalize (lg_sl ([.ref h0]) ++ List.replicate (1 - (lg_sl ([.ref h0])).length) Slot.unset).toArray = ls at hl ⊢
  have hl : lv_has ls 1 [(0, .ref h0)] := hl
  refine zw_start (fun H eH => ?_)
  have hP : va_P (dC, dI) classes [(h0, .inr (8, [.ref h1, .int 0, .int 0, .int 0]))] H := by rw [eH]; exact hP
  have hS : va_S A s.heap H [] := by rw [eH]; exact va_S.rf
  refine lv_aload_n hx hb dX8_peek_0 rfl (lv_at hl 0 rfl) ?_
  refine va_get (D := (dC, dI)) (ci := 8) (v := .int 0) (C := RX8) (T := TX8) (N := 4) hx hb hts zi_X8_peek_X8 hown hK hP 0 rfl rfl 3 (by decide) (hts (.fieldLink RX8 22 "HoldTwo$Tape" "wrong" "I") (by decide +kernel)) (fun _ h9 => h9) rfl dX8_peek_1 ?_
  refine lv_iconst (v := (-1)) hx hb dX8_peek_4 (by decide) ?_
  refine lv_icmp_eq (tgt := 10) hx hb dX8_peek_5 (by decide) (fun c9 => absurd c9 (by decide)) (fun _ => ?_)
  refine lv_iconst (v := (-1)) hx hb dX8_peek_8 (by decide) ?_
  have hP9 := hP.sub (ws' := [(h0, .inr (8, [.ref h1, .int 0, .int 0, .int 0]))]) [0] rfl
  have hD9 := hD.sub (ws' := [(h0, .inr (8, [.ref h1, .int 0, .int 0, .int 0]))]) [0] (by decide) rfl
  have hK9 := hK.sub (tys' := []) [] rfl
  refine W.widen (k := 0) (n := 0) (Nat.le_of_ble_eq_true rfl) (Nat.le_of_ble_eq_true rfl) ?_
  exact W.iret (v := (-1)) hx hb hr (fun t ht hW => ⟨⟨(-1), (), rfl, rfl, by rw [ht]; exact hP9, va_K.moved hW.alike hK9, hD9⟩, hS.F ht⟩) hS.2.2 dX8_peek_9
set_option maxHeartbeats 8000000 in
set_option maxRecDepth 100000 in
theorem zk_X8_placeAhead_1 (l : Launch) (dC : Nat → ClassId) (dI : Nat → Nat → Nat) (h0 : Nat) (h1 : Nat) (sz : Nat) : Met l yX8_placeAhead wsX8_placeAhead ({ frames := 1, cells := 0, slots := 0, locals := 20 }) (va_Pc [.ref h0, .int 9] (zw_P dC dI sz [] [(h0, .inr (8, [.ref h1, .int 0, .int 0, .int 0]))])) (va_Qi (fun (r : Int32) (_ : Unit) => r = (-1)) (fun (_ : Unit) (t : State) => zw_Q dC dI (va_A [(h0, .inr (8, [.ref h1, .int 0, .int 0, .int 0]))] sz) [] [(h0, .inr (8, [.ref h1, .int 0, .int 0, .int 0]))] t) (va_A [(h0, .inr (8, [.ref h1, .int 0, .int 0, .int 0]))] sz)) 0 0 (va_A [(h0, .inr (8, [.ref h1, .int 0, .int 0, .int 0]))] sz) := by
  refine Met.ofW (cc := cX8_placeAhead) (maxL := 3) (ret := (some .int)) (by decide) rfl ?_
  intro p e s m args below meth c s₁ B hml hv
  obtain ⟨rfl, hsz, hP, hK, hD0, hN⟩ := hv
  have hx := B.exec
  have hb := B.bytes
  have hr := B.returns
  have hts := atoms_spec (ws := wsX8_placeAhead) B.pre
  have hown : s.vm.findClass RX8 = some m.cls := findClass_of_methodNamed B.named
  have hlocks := B.notSynchronized
  subst hsz
  have hD := hD0.self (sz := s.heap.size)
  generalize hAe : va_A [(h0, .inr (8, [.ref h1, .int 0, .int 0, .int 0]))] s.heap.size = A at hD ⊢
  have hA : ∀ q : Nat, s.heap.size ≤ q → A q := fun q h => by rw [← hAe]; exact Or.inr h
  have hP : va_P (dC, dI) classes [(h0, .inr (8, [.ref h1, .int 0, .int 0, .int 0]))] s.heap := hP
  have hl := lv_entry ([.ref h0, .int 9]) (n := 3) (Nat.le_of_ble_eq_true rfl)
  rw [lg_entry_eq]
  generalize (lg_sl ([.ref h0, .int 9]) ++ List.replicate (3 - (lg_sl ([.ref h0, .int 9])).length) Slot.unset).toArray = ls at hl ⊢
  have hl : lv_has ls 3 [(0, .ref h0), (1, .int 9)] := hl
  refine zw_start (fun H eH => ?_)
  have hP : va_P (dC, dI) classes [(h0, .inr (8, [.ref h1, .int 0, .int 0, .int 0]))] H := by rw [eH]; exact hP
  have hS : va_S A s.heap H [] := by rw [eH]; exact va_S.rf
  refine lv_aload_n hx hb dX8_placeAhead_0 rfl (lv_at hl 0 rfl) ?_
  have hPc := hP.sub (ws' := [(h0, .inr (8, [.ref h1, .int 0, .int 0, .int 0]))]) [0] rfl
  have hDc := hD.sub (ws' := [(h0, .inr (8, [.ref h1, .int 0, .int 0, .int 0]))]) [0] (by decide) rfl
  have hKc := hK.sub (tys' := []) [] rfl
  have hFc := va_free (wc := [(h0, .inr (8, [.ref h1, .int 0, .int 0, .int 0]))]) hD hS hA [0] rfl
  refine va_calli (va_runV (As := []) (rest := []) ⟨hx, hb, hml, hown, hts⟩ (zk_X8_peek_1 l dC dI (h0) (h1) H.size) (cwV 0 hts gX8_placeAhead_X8_peek rfl rfl rfl (by decide +kernel) ⟨Nat.le_of_ble_eq_true rfl, Nat.le_of_ble_eq_true rfl⟩) ⟨zw_blind, va_recv hK hP (ci := 8) (q0 := 0) rfl rfl, fun U hU hW => ⟨rfl, zw_P.of hPc hKc hDc hN U hU hW⟩⟩ rfl rfl hl.1 rfl (lv_room (Nat.le_of_ble_eq_true rfl)) dX8_placeAhead_1 ⟨Nat.le_of_ble_eq_true rfl, Nat.le_of_ble_eq_true rfl⟩) hS (fun q _ h => hFc q h) hFc (fun r_1 u t H1 locs ht hvm hw hB hz1 hk1 hS => ?_)
  obtain ⟨hP1, hK1, hD1⟩ := hB
  rw [ht] at hP1
  obtain ⟨hP, hD⟩ := va_join (wr := []) (w1 := [(h0, .inr (8, [.ref h1, .int 0, .int 0, .int 0]))]) hP hD [0] [] rfl rfl (by decide) (by decide) hk1 hFc hP1 hD1
  generalize H1 = H at hP hS ⊢
  have hP : va_P (dC, dI) classes [(h0, .inr (8, [.ref h1, .int 0, .int 0, .int 0]))] H := hP
  have hD : va_D A [(h0, .inr (8, [.ref h1, .int 0, .int 0, .int 0]))] := hD
  obtain rfl : r_1 = (-1) := hw
  refine lv_bipush (v := 97) hx hb dX8_placeAhead_4 (by decide) ?_
  refine lv_isub hx hb dX8_placeAhead_6 ?_
  refine lv_topi (fun x_2 ex_2 => ?_)
  have ex_2 : x_2 = (-98) := ex_2.trans (by decide)
  subst ex_2
  refine lv_istore_n (lv' := [(2, .int (-98)), (0, .ref h0), (1, .int 9)]) hx hb dX8_placeAhead_7 rfl hl (by decide) rfl (fun ls hl => ?_)
  refine lv_iload_n hx hb dX8_placeAhead_8 rfl (lv_at hl 0 rfl) ?_
  refine lv_if_lt (tgt := 21) hx hb dX8_placeAhead_9 (by decide) (fun _ => ?_) (fun c9 => absurd (by decide) c9)
  refine lv_iconst (v := (-1)) hx hb dX8_placeAhead_21 (by decide) ?_
  have hP9 := hP.sub (ws' := [(h0, .inr (8, [.ref h1, .int 0, .int 0, .int 0]))]) [0] rfl
  have hD9 := hD.sub (ws' := [(h0, .inr (8, [.ref h1, .int 0, .int 0, .int 0]))]) [0] (by decide) rfl
  have hK9 := hK.sub (tys' := []) [] rfl
  refine W.widen (k := 0) (n := 0) (Nat.le_of_ble_eq_true rfl) (Nat.le_of_ble_eq_true rfl) ?_
  exact W.iret (v := (-1)) hx hb hr (fun t ht hW => ⟨⟨(-1), (), rfl, rfl, by rw [ht]; exact hP9, va_K.moved hW.alike hK9, hD9⟩, hS.F ht⟩) hS.2.2 dX8_placeAhead_22
set_option maxHeartbeats 8000000 in
set_option maxRecDepth 100000 in
theorem zk_X8_fail_1 (l : Launch) (dC : Nat → ClassId) (dI : Nat → Nat → Nat) (h0 : Nat) (h1 : Nat) (sz : Nat) : Met l yX8_fail wsX8_fail ({ frames := 0, cells := 0, slots := 0, locals := 0 }) (va_Pc [.ref h0] (zw_P dC dI sz [] [(h0, .inr (8, [.ref h1, .int 0, .int 0, .int 0]))])) (va_Qv (fun (_ : Unit) => True) (fun (_ : Unit) (t : State) => zw_Q dC dI (va_A [(h0, .inr (8, [.ref h1, .int 0, .int 0, .int 0]))] sz) [] [(h0, .inr (8, [.ref h1, .int 0, .int 0, .int 0]))] t) (va_A [(h0, .inr (8, [.ref h1, .int 0, .int 0, .int 0]))] sz)) 0 0 (va_A [(h0, .inr (8, [.ref h1, .int 0, .int 0, .int 0]))] sz) := by
  refine Met.ofW (cc := cX8_fail) (maxL := 1) (ret := none) (by decide) rfl ?_
  intro p e s m args below meth c s₁ B hml hv
  obtain ⟨rfl, hsz, hP, hK, hD0, hN⟩ := hv
  have hx := B.exec
  have hb := B.bytes
  have hr := B.returns
  have hts := atoms_spec (ws := wsX8_fail) B.pre
  have hown : s.vm.findClass RX8 = some m.cls := findClass_of_methodNamed B.named
  have hlocks := B.notSynchronized
  subst hsz
  have hD := hD0.self (sz := s.heap.size)
  generalize hAe : va_A [(h0, .inr (8, [.ref h1, .int 0, .int 0, .int 0]))] s.heap.size = A at hD ⊢
  have hA : ∀ q : Nat, s.heap.size ≤ q → A q := fun q h => by rw [← hAe]; exact Or.inr h
  have hP : va_P (dC, dI) classes [(h0, .inr (8, [.ref h1, .int 0, .int 0, .int 0]))] s.heap := hP
  have hl := lv_entry ([.ref h0]) (n := 1) (Nat.le_of_ble_eq_true rfl)
  rw [lg_entry_eq]
  generalize (lg_sl ([.ref h0]) ++ List.replicate (1 - (lg_sl ([.ref h0])).length) Slot.unset).toArray = ls at hl ⊢
  have hl : lv_has ls 1 [(0, .ref h0)] := hl
  refine zw_start (fun H eH => ?_)
  have hP : va_P (dC, dI) classes [(h0, .inr (8, [.ref h1, .int 0, .int 0, .int 0]))] H := by rw [eH]; exact hP
  have hS : va_S A s.heap H [] := by rw [eH]; exact va_S.rf
  refine lv_aload_n hx hb dX8_fail_0 rfl (lv_at hl 0 rfl) ?_
  refine va_get (D := (dC, dI)) (ci := 8) (v := .int 0) (C := RX8) (T := TX8) (N := 4) hx hb hts zi_X8_fail_X8 hown hK hP 0 rfl rfl 3 (by decide) (hts (.fieldLink RX8 22 "HoldTwo$Tape" "wrong" "I") (by decide +kernel)) (fun _ h9 => h9) rfl dX8_fail_1 ?_
  refine lv_iconst (v := (-1)) hx hb dX8_fail_4 (by decide) ?_
  refine lv_icmp_ne (tgt := 21) hx hb dX8_fail_5 (by decide) (fun _ => ?_) (fun c9 => absurd c9 (by decide))
  have hP9 := hP.sub (ws' := [(h0, .inr (8, [.ref h1, .int 0, .int 0, .int 0]))]) [0] rfl
  have hD9 := hD.sub (ws' := [(h0, .inr (8, [.ref h1, .int 0, .int 0, .int 0]))]) [0] (by decide) rfl
  have hK9 := hK.sub (tys' := []) [] rfl
  refine W.widen (k := 0) (n := 0) (Nat.le_of_ble_eq_true rfl) (Nat.le_of_ble_eq_true rfl) ?_
  exact W.vret hx hb hr (fun t ht hW => ⟨⟨(), rfl, trivial, by rw [ht]; exact hP9, va_K.moved hW.alike hK9, hD9⟩, hS.F ht⟩) hS.2.2 dX8_fail_21
set_option maxHeartbeats 8000000 in
set_option maxRecDepth 100000 in
theorem zk_X2_readPlace_1 (l : Launch) (dC : Nat → ClassId) (dI : Nat → Nat → Nat) (h0 : Nat) (h1 : Nat) (sz : Nat) : Met l yX2_readPlace wsX2_readPlace ({ frames := 2, cells := 0, slots := 0, locals := 42 }) (va_Pc [.ref h0] (zw_P dC dI sz [] [(h0, .inr (8, [.ref h1, .int 0, .int 0, .int 0]))])) (va_Qi (fun (r : Int32) (_ : Unit) => r = 0) (fun (_ : Unit) (t : State) => zw_Q dC dI (va_A [(h0, .inr (8, [.ref h1, .int 0, .int 0, .int 0]))] sz) [] [(h0, .inr (8, [.ref h1, .int 0, .int 0, .int 0]))] t) (va_A [(h0, .inr (8, [.ref h1, .int 0, .int 0, .int 0]))] sz)) 0 0 (va_A [(h0, .inr (8, [.ref h1, .int 0, .int 0, .int 0]))] sz) := by
  refine Met.ofW (cc := cX2_readPlace) (maxL := 2) (ret := (some .int)) (by decide) rfl ?_
  intro p e s m args below meth c s₁ B hml hv
  obtain ⟨rfl, hsz, hP, hK, hD0, hN⟩ := hv
  have hx := B.exec
  have hb := B.bytes
  have hr := B.returns
  have hts := atoms_spec (ws := wsX2_readPlace) B.pre
  have hown : s.vm.findClass RX2 = some m.cls := findClass_of_methodNamed B.named
  have hlocks := B.notSynchronized
  subst hsz
  have hD := hD0.self (sz := s.heap.size)
  generalize hAe : va_A [(h0, .inr (8, [.ref h1, .int 0, .int 0, .int 0]))] s.heap.size = A at hD ⊢
  have hA : ∀ q : Nat, s.heap.size ≤ q → A q := fun q h => by rw [← hAe]; exact Or.inr h
  have hP : va_P (dC, dI) classes [(h0, .inr (8, [.ref h1, .int 0, .int 0, .int 0]))] s.heap := hP
  have hl := lv_entry ([.ref h0]) (n := 2) (Nat.le_of_ble_eq_true rfl)
  rw [lg_entry_eq]
  generalize (lg_sl ([.ref h0]) ++ List.replicate (2 - (lg_sl ([.ref h0])).length) Slot.unset).toArray = ls at hl ⊢
  have hl : lv_has ls 2 [(0, .ref h0)] := hl
  refine zw_start (fun H eH => ?_)
  have hP : va_P (dC, dI) classes [(h0, .inr (8, [.ref h1, .int 0, .int 0, .int 0]))] H := by rw [eH]; exact hP
  have hS : va_S A s.heap H [] := by rw [eH]; exact va_S.rf
  refine lv_aload_n hx hb dX2_readPlace_0 rfl (lv_at hl 0 rfl) ?_
  refine lv_bipush (v := 9) hx hb dX2_readPlace_1 (by decide) ?_
  have hPc := hP.sub (ws' := [(h0, .inr (8, [.ref h1, .int 0, .int 0, .int 0]))]) [0] rfl
  have hDc := hD.sub (ws' := [(h0, .inr (8, [.ref h1, .int 0, .int 0, .int 0]))]) [0] (by decide) rfl
  have hKc := hK.sub (tys' := []) [] rfl
  have hFc := va_free (wc := [(h0, .inr (8, [.ref h1, .int 0, .int 0, .int 0]))]) hD hS hA [0] rfl
  refine va_calli (va_runV (As := [.int 9]) (rest := []) ⟨hx, hb, hml, hown, hts⟩ (zk_X8_placeAhead_1 l dC dI (h0) (h1) H.size) (cwV 1 hts gX2_readPlace_X8_placeAhead rfl rfl rfl (by decide +kernel) ⟨Nat.le_of_ble_eq_true rfl, Nat.le_of_ble_eq_true rfl⟩) ⟨zw_blind, va_recv hK hP (ci := 8) (q0 := 0) rfl rfl, fun U hU hW => ⟨rfl, zw_P.of hPc hKc hDc hN U hU hW⟩⟩ rfl rfl hl.1 rfl (lv_room (Nat.le_of_ble_eq_true rfl)) dX2_readPlace_3 ⟨Nat.le_of_ble_eq_true rfl, Nat.le_of_ble_eq_true rfl⟩) hS (fun q _ h => hFc q h) hFc (fun r_1 u t H1 locs ht hvm hw hB hz1 hk1 hS => ?_)
  obtain ⟨hP1, hK1, hD1⟩ := hB
  rw [ht] at hP1
  obtain ⟨hP, hD⟩ := va_join (wr := []) (w1 := [(h0, .inr (8, [.ref h1, .int 0, .int 0, .int 0]))]) hP hD [0] [] rfl rfl (by decide) (by decide) hk1 hFc hP1 hD1
  generalize H1 = H at hP hS ⊢
  have hP : va_P (dC, dI) classes [(h0, .inr (8, [.ref h1, .int 0, .int 0, .int 0]))] H := hP
  have hD : va_D A [(h0, .inr (8, [.ref h1, .int 0, .int 0, .int 0]))] := hD
  obtain rfl : r_1 = (-1) := hw
  refine lv_istore_n (lv' := [(1, .int (-1)), (0, .ref h0)]) hx hb dX2_readPlace_6 rfl hl (by decide) rfl (fun ls hl => ?_)
  refine lv_iload_n hx hb dX2_readPlace_7 rfl (lv_at hl 0 rfl) ?_
  refine lv_iconst (v := (-1)) hx hb dX2_readPlace_8 (by decide) ?_
  refine lv_icmp_ne (tgt := 18) hx hb dX2_readPlace_9 (by decide) (fun c9 => absurd (by decide) c9) (fun _ => ?_)
  refine lv_aload_n hx hb dX2_readPlace_12 rfl (lv_at hl 1 rfl) ?_
  have hPc := hP.sub (ws' := [(h0, .inr (8, [.ref h1, .int 0, .int 0, .int 0]))]) [0] rfl
  have hDc := hD.sub (ws' := [(h0, .inr (8, [.ref h1, .int 0, .int 0, .int 0]))]) [0] (by decide) rfl
  have hKc := hK.sub (tys' := []) [] rfl
  have hFc := va_free (wc := [(h0, .inr (8, [.ref h1, .int 0, .int 0, .int 0]))]) hD hS hA [0] rfl
  refine va_callv (va_runV (As := []) (rest := []) ⟨hx, hb, hml, hown, hts⟩ (zk_X8_fail_1 l dC dI (h0) (h1) H.size) (cwV 0 hts gX2_readPlace_X8_fail rfl rfl rfl (by decide +kernel) ⟨Nat.le_of_ble_eq_true rfl, Nat.le_of_ble_eq_true rfl⟩) ⟨zw_blind, va_recv hK hP (ci := 8) (q0 := 0) rfl rfl, fun U hU hW => ⟨rfl, zw_P.of hPc hKc hDc hN U hU hW⟩⟩ rfl rfl hl.1 rfl (lv_room (Nat.le_of_ble_eq_true rfl)) dX2_readPlace_13 ⟨Nat.le_of_ble_eq_true rfl, Nat.le_of_ble_eq_true rfl⟩) hS (fun q _ h => hFc q h) hFc (fun u t H1 locs ht hvm hw hB hz1 hk1 hS => ?_)
  obtain ⟨hP1, hK1, hD1⟩ := hB
  rw [ht] at hP1
  obtain ⟨hP, hD⟩ := va_join (wr := []) (w1 := [(h0, .inr (8, [.ref h1, .int 0, .int 0, .int 0]))]) hP hD [0] [] rfl rfl (by decide) (by decide) hk1 hFc hP1 hD1
  generalize H1 = H at hP hS ⊢
  have hP : va_P (dC, dI) classes [(h0, .inr (8, [.ref h1, .int 0, .int 0, .int 0]))] H := hP
  have hD : va_D A [(h0, .inr (8, [.ref h1, .int 0, .int 0, .int 0]))] := hD
  refine lv_iconst (v := 0) hx hb dX2_readPlace_16 (by decide) ?_
  have hP9 := hP.sub (ws' := [(h0, .inr (8, [.ref h1, .int 0, .int 0, .int 0]))]) [0] rfl
  have hD9 := hD.sub (ws' := [(h0, .inr (8, [.ref h1, .int 0, .int 0, .int 0]))]) [0] (by decide) rfl
  have hK9 := hK.sub (tys' := []) [] rfl
  refine W.widen (k := 0) (n := 0) (Nat.le_of_ble_eq_true rfl) (Nat.le_of_ble_eq_true rfl) ?_
  exact W.iret (v := 0) hx hb hr (fun t ht hW => ⟨⟨0, (), rfl, rfl, by rw [ht]; exact hP9, va_K.moved hW.alike hK9, hD9⟩, hS.F ht⟩) hS.2.2 dX2_readPlace_17
set_option maxHeartbeats 8000000 in
set_option maxRecDepth 100000 in
theorem zk_X2_readMove (l : Launch) (dC : Nat → ClassId) (dI : Nat → Nat → Nat) (h0 : Nat) (h1 : Nat) (sz : Nat) : Met l yX2_readMove wsX2_readMove ({ frames := 3, cells := 0, slots := 0, locals := 63 }) (va_Pc [.ref h0] (zw_P dC dI sz [] [(h0, .inr (8, [.ref h1, .int 0, .int 0, .int (-1)]))])) (va_Qi (fun (r : Int32) (_ : Unit) => r = 0) (fun (_ : Unit) (t : State) => zw_Q dC dI (va_A [(h0, .inr (8, [.ref h1, .int 0, .int 0, .int (-1)]))] sz) [] [(h0, .inr (8, [.ref h1, .int 0, .int 0, .int 0]))] t) (va_A [(h0, .inr (8, [.ref h1, .int 0, .int 0, .int (-1)]))] sz)) 0 0 (va_A [(h0, .inr (8, [.ref h1, .int 0, .int 0, .int (-1)]))] sz) := by
  refine Met.ofW (cc := cX2_readMove) (maxL := 2) (ret := (some .int)) (by decide) rfl ?_
  intro p e s m args below meth c s₁ B hml hv
  obtain ⟨rfl, hsz, hP, hK, hD0, hN⟩ := hv
  have hx := B.exec
  have hb := B.bytes
  have hr := B.returns
  have hts := atoms_spec (ws := wsX2_readMove) B.pre
  have hown : s.vm.findClass RX2 = some m.cls := findClass_of_methodNamed B.named
  have hlocks := B.notSynchronized
  subst hsz
  have hD := hD0.self (sz := s.heap.size)
  generalize hAe : va_A [(h0, .inr (8, [.ref h1, .int 0, .int 0, .int (-1)]))] s.heap.size = A at hD ⊢
  have hA : ∀ q : Nat, s.heap.size ≤ q → A q := fun q h => by rw [← hAe]; exact Or.inr h
  have hP : va_P (dC, dI) classes [(h0, .inr (8, [.ref h1, .int 0, .int 0, .int (-1)]))] s.heap := hP
  have hl := lv_entry ([.ref h0]) (n := 2) (Nat.le_of_ble_eq_true rfl)
  rw [lg_entry_eq]
  generalize (lg_sl ([.ref h0]) ++ List.replicate (2 - (lg_sl ([.ref h0])).length) Slot.unset).toArray = ls at hl ⊢
  have hl : lv_has ls 2 [(0, .ref h0)] := hl
  refine zw_start (fun H eH => ?_)
  have hP : va_P (dC, dI) classes [(h0, .inr (8, [.ref h1, .int 0, .int 0, .int (-1)]))] H := by rw [eH]; exact hP
  have hS : va_S A s.heap H [] := by rw [eH]; exact va_S.rf
  refine lv_aload_n hx hb dX2_readMove_0 rfl (lv_at hl 0 rfl) ?_
  refine lv_bipush (v := 45) hx hb dX2_readMove_1 (by decide) ?_
  have hPc := hP.sub (ws' := [(h0, .inr (8, [.ref h1, .int 0, .int 0, .int (-1)]))]) [0] rfl
  have hDc := hD.sub (ws' := [(h0, .inr (8, [.ref h1, .int 0, .int 0, .int (-1)]))]) [0] (by decide) rfl
  have hKc := hK.sub (tys' := []) [] rfl
  have hFc := va_free (wc := [(h0, .inr (8, [.ref h1, .int 0, .int 0, .int (-1)]))]) hD hS hA [0] rfl
  refine va_calli (va_runV (As := [.int 45]) (rest := []) ⟨hx, hb, hml, hown, hts⟩ (zk_X8_takes l dC dI (h0) (h1) H.size) (cwV 1 hts gX2_readMove_X8_takes rfl rfl rfl (by decide +kernel) ⟨Nat.le_of_ble_eq_true rfl, Nat.le_of_ble_eq_true rfl⟩) ⟨zw_blind, va_recv hK hP (ci := 8) (q0 := 0) rfl rfl, fun U hU hW => ⟨rfl, zw_P.of hPc hKc hDc hN U hU hW⟩⟩ rfl rfl hl.1 rfl (lv_room (Nat.le_of_ble_eq_true rfl)) dX2_readMove_3 ⟨Nat.le_of_ble_eq_true rfl, Nat.le_of_ble_eq_true rfl⟩) hS (fun q _ h => hFc q h) hFc (fun r_1 u t H1 locs ht hvm hw hB hz1 hk1 hS => ?_)
  obtain ⟨hP1, hK1, hD1⟩ := hB
  rw [ht] at hP1
  obtain ⟨hP, hD⟩ := va_join (wr := []) (w1 := [(h0, .inr (8, [.ref h1, .int 0, .int 0, .int (-1)]))]) hP hD [0] [] rfl rfl (by decide) (by decide) hk1 hFc hP1 hD1
  generalize H1 = H at hP hS ⊢
  have hP : va_P (dC, dI) classes [(h0, .inr (8, [.ref h1, .int 0, .int 0, .int (-1)]))] H := hP
  have hD : va_D A [(h0, .inr (8, [.ref h1, .int 0, .int 0, .int (-1)]))] := hD
  obtain rfl : r_1 = 0 := hw
  refine lv_if_eq (tgt := 12) hx hb dX2_readMove_6 (by decide) (fun _ => ?_) (fun c9 => absurd (by decide) c9)
  refine lv_aload_n hx hb dX2_readMove_12 rfl (lv_at hl 0 rfl) ?_
  have hPc := hP.sub (ws' := [(h0, .inr (8, [.ref h1, .int 0, .int 0, .int (-1)]))]) [0] rfl
  have hDc := hD.sub (ws' := [(h0, .inr (8, [.ref h1, .int 0, .int 0, .int (-1)]))]) [0] (by decide) rfl
  have hKc := hK.sub (tys' := []) [] rfl
  have hFc := va_free (wc := [(h0, .inr (8, [.ref h1, .int 0, .int 0, .int (-1)]))]) hD hS hA [0] rfl
  refine va_calli (va_runS (As := [.ref h0]) (rest := []) ⟨hx, hb, hml, hown, hts⟩ (zk_X2_readPlace l dC dI (h0) (h1) H.size) (va_cwS 1 hts gX2_readMove_X2_readPlace rfl rfl rfl (by decide +kernel) ⟨Nat.le_of_ble_eq_true rfl, Nat.le_of_ble_eq_true rfl⟩) ⟨zw_blind, fun U hU hW => ⟨rfl, zw_P.of hPc hKc hDc hN U hU hW⟩⟩ rfl rfl hl.1 rfl (lv_room (Nat.le_of_ble_eq_true rfl)) dX2_readMove_13 ⟨Nat.le_of_ble_eq_true rfl, Nat.le_of_ble_eq_true rfl⟩) hS (fun q _ h => hFc q h) hFc (fun r_2 u t H1 locs ht hvm hw hB hz1 hk1 hS => ?_)
  obtain ⟨hP1, hK1, hD1⟩ := hB
  rw [ht] at hP1
  obtain ⟨hP, hD⟩ := va_join (wr := []) (w1 := [(h0, .inr (8, [.ref h1, .int 0, .int 0, .int 0]))]) hP hD [0] [] rfl rfl (by decide) (by decide) hk1 hFc hP1 hD1
  generalize H1 = H at hP hS ⊢
  have hP : va_P (dC, dI) classes [(h0, .inr (8, [.ref h1, .int 0, .int 0, .int 0]))] H := hP
  have hD : va_D A [(h0, .inr (8, [.ref h1, .int 0, .int 0, .int 0]))] := hD
  obtain rfl : r_2 = 0 := hw
  refine lv_istore_n (lv' := [(1, .int 0), (0, .ref h0)]) hx hb dX2_readMove_16 rfl hl (by decide) rfl (fun ls hl => ?_)
  refine lv_bipush (v := 10) hx hb dX2_readMove_17 (by decide) ?_
  refine lv_iload_n hx hb dX2_readMove_19 rfl (lv_at hl 0 rfl) ?_
  refine lv_imul hx hb dX2_readMove_20 ?_
  refine lv_topi (fun x_3 ex_3 => ?_)
  have ex_3 : x_3 = 0 := ex_3.trans (by decide)
  subst ex_3
  refine lv_aload_n hx hb dX2_readMove_21 rfl (lv_at hl 1 rfl) ?_
  have hPc := hP.sub (ws' := [(h0, .inr (8, [.ref h1, .int 0, .int 0, .int 0]))]) [0] rfl
  have hDc := hD.sub (ws' := [(h0, .inr (8, [.ref h1, .int 0, .int 0, .int 0]))]) [0] (by decide) rfl
  have hKc := hK.sub (tys' := []) [] rfl
  have hFc := va_free (wc := [(h0, .inr (8, [.ref h1, .int 0, .int 0, .int 0]))]) hD hS hA [0] rfl
  refine va_calli (va_runS (As := [.ref h0]) (rest := [.int 0]) ⟨hx, hb, hml, hown, hts⟩ (zk_X2_readPlace_1 l dC dI (h0) (h1) H.size) (va_cwS 1 hts gX2_readMove_X2_readPlace rfl rfl rfl (by decide +kernel) ⟨Nat.le_of_ble_eq_true rfl, Nat.le_of_ble_eq_true rfl⟩) ⟨zw_blind, fun U hU hW => ⟨rfl, zw_P.of hPc hKc hDc hN U hU hW⟩⟩ rfl rfl hl.1 rfl (lv_room (Nat.le_of_ble_eq_true rfl)) dX2_readMove_22 ⟨Nat.le_of_ble_eq_true rfl, Nat.le_of_ble_eq_true rfl⟩) hS (fun q _ h => hFc q h) hFc (fun r_4 u t H1 locs ht hvm hw hB hz1 hk1 hS => ?_)
  obtain ⟨hP1, hK1, hD1⟩ := hB
  rw [ht] at hP1
  obtain ⟨hP, hD⟩ := va_join (wr := []) (w1 := [(h0, .inr (8, [.ref h1, .int 0, .int 0, .int 0]))]) hP hD [0] [] rfl rfl (by decide) (by decide) hk1 hFc hP1 hD1
  generalize H1 = H at hP hS ⊢
  have hP : va_P (dC, dI) classes [(h0, .inr (8, [.ref h1, .int 0, .int 0, .int 0]))] H := hP
  have hD : va_D A [(h0, .inr (8, [.ref h1, .int 0, .int 0, .int 0]))] := hD
  obtain rfl : r_4 = 0 := hw
  refine lv_iadd hx hb dX2_readMove_25 ?_
  refine lv_topi (fun x_5 ex_5 => ?_)
  have ex_5 : x_5 = 0 := ex_5.trans (by decide)
  subst ex_5
  have hP9 := hP.sub (ws' := [(h0, .inr (8, [.ref h1, .int 0, .int 0, .int 0]))]) [0] rfl
  have hD9 := hD.sub (ws' := [(h0, .inr (8, [.ref h1, .int 0, .int 0, .int 0]))]) [0] (by decide) rfl
  have hK9 := hK.sub (tys' := []) [] rfl
  refine W.widen (k := 0) (n := 0) (Nat.le_of_ble_eq_true rfl) (Nat.le_of_ble_eq_true rfl) ?_
  exact W.iret (v := 0) hx hb hr (fun t ht hW => ⟨⟨0, (), rfl, rfl, by rw [ht]; exact hP9, va_K.moved hW.alike hK9, hD9⟩, hS.F ht⟩) hS.2.2 dX2_readMove_26
set_option maxHeartbeats 8000000 in
set_option maxRecDepth 100000 in
theorem zk_X8_takes_1 (l : Launch) (dC : Nat → ClassId) (dI : Nat → Nat → Nat) (h0 : Nat) (h1 : Nat) (sz : Nat) : Met l yX8_takes wsX8_takes ({ frames := 1, cells := 0, slots := 0, locals := 20 }) (va_Pc [.ref h0, .int 44] (zw_P dC dI sz [] [(h0, .inr (8, [.ref h1, .int 0, .int 0, .int 0]))])) (va_Qi (fun (r : Int32) (_ : Unit) => r = 0) (fun (_ : Unit) (t : State) => zw_Q dC dI (va_A [(h0, .inr (8, [.ref h1, .int 0, .int 0, .int 0]))] sz) [] [(h0, .inr (8, [.ref h1, .int 0, .int 0, .int 0]))] t) (va_A [(h0, .inr (8, [.ref h1, .int 0, .int 0, .int 0]))] sz)) 0 0 (va_A [(h0, .inr (8, [.ref h1, .int 0, .int 0, .int 0]))] sz) := by
  refine Met.ofW (cc := cX8_takes) (maxL := 2) (ret := (some .boolean)) (by decide) rfl ?_
  intro p e s m args below meth c s₁ B hml hv
  obtain ⟨rfl, hsz, hP, hK, hD0, hN⟩ := hv
  have hx := B.exec
  have hb := B.bytes
  have hr := B.returns
  have hts := atoms_spec (ws := wsX8_takes) B.pre
  have hown : s.vm.findClass RX8 = some m.cls := findClass_of_methodNamed B.named
  have hlocks := B.notSynchronized
  subst hsz
  have hD := hD0.self (sz := s.heap.size)
  generalize hAe : va_A [(h0, .inr (8, [.ref h1, .int 0, .int 0, .int 0]))] s.heap.size = A at hD ⊢
  have hA : ∀ q : Nat, s.heap.size ≤ q → A q := fun q h => by rw [← hAe]; exact Or.inr h
  have hP : va_P (dC, dI) classes [(h0, .inr (8, [.ref h1, .int 0, .int 0, .int 0]))] s.heap := hP
  have hl := lv_entry ([.ref h0, .int 44]) (n := 2) (Nat.le_of_ble_eq_true rfl)
  rw [lg_entry_eq]
  generalize (lg_sl ([.ref h0, .int 44]) ++ List.replicate (2 - (lg_sl ([.ref h0, .int 44])).length) Slot.unset).toArray = ls at hl ⊢
  have hl : lv_has ls 2 [(0, .ref h0), (1, .int 44)] := hl
  refine zw_start (fun H eH => ?_)
  have hP : va_P (dC, dI) classes [(h0, .inr (8, [.ref h1, .int 0, .int 0, .int 0]))] H := by rw [eH]; exact hP
  have hS : va_S A s.heap H [] := by rw [eH]; exact va_S.rf
  refine lv_aload_n hx hb dX8_takes_0 rfl (lv_at hl 0 rfl) ?_
  have hPc := hP.sub (ws' := [(h0, .inr (8, [.ref h1, .int 0, .int 0, .int 0]))]) [0] rfl
  have hDc := hD.sub (ws' := [(h0, .inr (8, [.ref h1, .int 0, .int 0, .int 0]))]) [0] (by decide) rfl
  have hKc := hK.sub (tys' := []) [] rfl
  have hFc := va_free (wc := [(h0, .inr (8, [.ref h1, .int 0, .int 0, .int 0]))]) hD hS hA [0] rfl
  refine va_calli (va_runV (As := []) (rest := []) ⟨hx, hb, hml, hown, hts⟩ (zk_X8_peek_1 l dC dI (h0) (h1) H.size) (cwV 0 hts gX8_takes_X8_peek rfl rfl rfl (by decide +kernel) ⟨Nat.le_of_ble_eq_true rfl, Nat.le_of_ble_eq_true rfl⟩) ⟨zw_blind, va_recv hK hP (ci := 8) (q0 := 0) rfl rfl, fun U hU hW => ⟨rfl, zw_P.of hPc hKc hDc hN U hU hW⟩⟩ rfl rfl hl.1 rfl (lv_room (Nat.le_of_ble_eq_true rfl)) dX8_takes_1 ⟨Nat.le_of_ble_eq_true rfl, Nat.le_of_ble_eq_true rfl⟩) hS (fun q _ h => hFc q h) hFc (fun r_1 u t H1 locs ht hvm hw hB hz1 hk1 hS => ?_)
  obtain ⟨hP1, hK1, hD1⟩ := hB
  rw [ht] at hP1
  obtain ⟨hP, hD⟩ := va_join (wr := []) (w1 := [(h0, .inr (8, [.ref h1, .int 0, .int 0, .int 0]))]) hP hD [0] [] rfl rfl (by decide) (by decide) hk1 hFc hP1 hD1
  generalize H1 = H at hP hS ⊢
  have hP : va_P (dC, dI) classes [(h0, .inr (8, [.ref h1, .int 0, .int 0, .int 0]))] H := hP
  have hD : va_D A [(h0, .inr (8, [.ref h1, .int 0, .int 0, .int 0]))] := hD
  obtain rfl : r_1 = (-1) := hw
  refine lv_iload_n hx hb dX8_takes_4 rfl (lv_at hl 1 rfl) ?_
  refine lv_icmp_eq (tgt := 10) hx hb dX8_takes_5 (by decide) (fun c9 => absurd c9 (by decide)) (fun _ => ?_)
  refine lv_iconst (v := 0) hx hb dX8_takes_8 (by decide) ?_
  have hP9 := hP.sub (ws' := [(h0, .inr (8, [.ref h1, .int 0, .int 0, .int 0]))]) [0] rfl
  have hD9 := hD.sub (ws' := [(h0, .inr (8, [.ref h1, .int 0, .int 0, .int 0]))]) [0] (by decide) rfl
  have hK9 := hK.sub (tys' := []) [] rfl
  refine W.widen (k := 0) (n := 0) (Nat.le_of_ble_eq_true rfl) (Nat.le_of_ble_eq_true rfl) ?_
  exact W.zret (v := 0) hx hb hr rfl (fun t ht hW => ⟨⟨0, (), rfl, rfl, by rw [ht]; exact hP9, va_K.moved hW.alike hK9, hD9⟩, hS.F ht⟩) hS.2.2 dX8_takes_9
set_option maxHeartbeats 8000000 in
set_option maxRecDepth 100000 in
theorem zk_X2_readTurn (l : Launch) (dC : Nat → ClassId) (dI : Nat → Nat → Nat) (h0 : Nat) (h1 : Nat) (h2 : Nat) (h3 : Nat) (h4 : Nat) (cA0 : ClassId) (f0 : Nat → Int32) (cA1 : ClassId) (cA2 : ClassId) (h5 : Nat) (sz : Nat) : Met l yX2_readTurn wsX2_readTurn ({ frames := 4, cells := 0, slots := 0, locals := 84 }) (va_Pc [.ref h0, .ref h1, .int 0] (zw_P dC dI sz [(cA0, .int), (cA1, .int), (cA2, .int)] [(h0, .inr (2, [.ref h2, .ref h3, .ref h4, .int 0])), (h2, .inl (cA0, 30, .inl (f0))), (h3, .inl (cA1, 30, .inl (f0))), (h4, .inl (cA2, 30, .inl (f0))), (h1, .inr (8, [.ref h5, .int 0, .int 0, .int (-1)]))])) (va_Qv (fun (_ : Unit) => True) (fun (_ : Unit) (t : State) => ∃ fn0 : Nat → Int32, ∃ fn1 : Nat → Int32, ∃ fn2 : Nat → Int32, zw_Q dC dI (va_A [(h0, .inr (2, [.ref h2, .ref h3, .ref h4, .int 0])), (h2, .inl (cA0, 30, .inl (f0))), (h3, .inl (cA1, 30, .inl (f0))), (h4, .inl (cA2, 30, .inl (f0))), (h1, .inr (8, [.ref h5, .int 0, .int 0, .int (-1)]))] sz) [] [(h0, .inr (2, [.ref h2, .ref h3, .ref h4, .int 0])), (h2, .inl (cA0, 30, .inl (fn0))), (h3, .inl (cA1, 30, .inl (fn1))), (h4, .inl (cA2, 30, .inl (fn2))), (h1, .inr (8, [.ref h5, .int 0, .int 0, .int 0]))] t) (va_A [(h0, .inr (2, [.ref h2, .ref h3, .ref h4, .int 0])), (h2, .inl (cA0, 30, .inl (f0))), (h3, .inl (cA1, 30, .inl (f0))), (h4, .inl (cA2, 30, .inl (f0))), (h1, .inr (8, [.ref h5, .int 0, .int 0, .int (-1)]))] sz)) 0 0 (va_A [(h0, .inr (2, [.ref h2, .ref h3, .ref h4, .int 0])), (h2, .inl (cA0, 30, .inl (f0))), (h3, .inl (cA1, 30, .inl (f0))), (h4, .inl (cA2, 30, .inl (f0))), (h1, .inr (8, [.ref h5, .int 0, .int 0, .int (-1)]))] sz) := by
  refine Met.ofW (cc := cX2_readTurn) (maxL := 3) (ret := none) (by decide) rfl ?_
  intro p e s m args below meth c s₁ B hml hv
  obtain ⟨rfl, hsz, hP, hK, hD0, hN⟩ := hv
  have hx := B.exec
  have hb := B.bytes
  have hr := B.returns
  have hts := atoms_spec (ws := wsX2_readTurn) B.pre
  have hown : s.vm.findClass RX2 = some m.cls := findClass_of_methodNamed B.named
  have hlocks := B.notSynchronized
  subst hsz
  have hD := hD0.self (sz := s.heap.size)
  generalize hAe : va_A [(h0, .inr (2, [.ref h2, .ref h3, .ref h4, .int 0])), (h2, .inl (cA0, 30, .inl (f0))), (h3, .inl (cA1, 30, .inl (f0))), (h4, .inl (cA2, 30, .inl (f0))), (h1, .inr (8, [.ref h5, .int 0, .int 0, .int (-1)]))] s.heap.size = A at hD ⊢
  have hA : ∀ q : Nat, s.heap.size ≤ q → A q := fun q h => by rw [← hAe]; exact Or.inr h
  have hP : va_P (dC, dI) classes [(h0, .inr (2, [.ref h2, .ref h3, .ref h4, .int 0])), (h2, .inl (cA0, 30, .inl (f0))), (h3, .inl (cA1, 30, .inl (f0))), (h4, .inl (cA2, 30, .inl (f0))), (h1, .inr (8, [.ref h5, .int 0, .int 0, .int (-1)]))] s.heap := hP
  have hl := lv_entry ([.ref h0, .ref h1, .int 0]) (n := 3) (Nat.le_of_ble_eq_true rfl)
  rw [lg_entry_eq]
  generalize (lg_sl ([.ref h0, .ref h1, .int 0]) ++ List.replicate (3 - (lg_sl ([.ref h0, .ref h1, .int 0])).length) Slot.unset).toArray = ls at hl ⊢
  have hl : lv_has ls 3 [(0, .ref h0), (1, .ref h1), (2, .int 0)] := hl
  refine zw_start (fun H eH => ?_)
  have hP : va_P (dC, dI) classes [(h0, .inr (2, [.ref h2, .ref h3, .ref h4, .int 0])), (h2, .inl (cA0, 30, .inl (f0))), (h3, .inl (cA1, 30, .inl (f0))), (h4, .inl (cA2, 30, .inl (f0))), (h1, .inr (8, [.ref h5, .int 0, .int 0, .int (-1)]))] H := by rw [eH]; exact hP
  have hS : va_S A s.heap H [] := by rw [eH]; exact va_S.rf
  refine lv_iload_n hx hb dX2_readTurn_0 rfl (lv_at hl 2 rfl) ?_
  refine lv_if_lt (tgt := 10) hx hb dX2_readTurn_1 (by decide) (fun c9 => absurd c9 (by decide)) (fun _ => ?_)
  refine lv_iload_n hx hb dX2_readTurn_4 rfl (lv_at hl 2 rfl) ?_
  refine lv_bipush (v := 30) hx hb dX2_readTurn_5 (by decide) ?_
  refine lv_icmp_lt (tgt := 11) hx hb dX2_readTurn_7 (by decide) (fun _ => ?_) (fun c9 => absurd (by decide) c9)
  refine lv_aload_n hx hb dX2_readTurn_11 rfl (lv_at hl 0 rfl) ?_
  refine va_get (D := (dC, dI)) (ci := 2) (v := .ref h2) (C := RX2) (T := TX2) (N := 4) hx hb hts zi_X2_readTurn_X2 hown hK hP 0 rfl rfl 0 (by decide) (hts (.fieldLink RX2 9 "HoldTwo$Line" "one" "[I") (by decide +kernel)) (fun _ h9 => h9) rfl dX2_readTurn_12 ?_
  refine lv_iload_n hx hb dX2_readTurn_15 rfl (lv_at hl 2 rfl) ?_
  refine lv_aload_n hx hb dX2_readTurn_16 rfl (lv_at hl 1 rfl) ?_
  have hPc := hP.sub (ws' := [(h1, .inr (8, [.ref h5, .int 0, .int 0, .int (-1)]))]) [4] rfl
  have hDc := hD.sub (ws' := [(h1, .inr (8, [.ref h5, .int 0, .int 0, .int (-1)]))]) [4] (by decide) rfl
  have hKc := hK.sub (tys' := []) [] rfl
  have hFc := va_free (wc := [(h1, .inr (8, [.ref h5, .int 0, .int 0, .int (-1)]))]) hD hS hA [4] rfl
  refine va_calli (va_runS (As := [.ref h1]) (rest := [.int 0, .ref h2]) ⟨hx, hb, hml, hown, hts⟩ (zk_X2_readMove l dC dI (h1) (h5) H.size) (va_cwS 1 hts gX2_readTurn_X2_readMove rfl rfl rfl (by decide +kernel) ⟨Nat.le_of_ble_eq_true rfl, Nat.le_of_ble_eq_true rfl⟩) ⟨zw_blind, fun U hU hW => ⟨rfl, zw_P.of hPc hKc hDc hN U hU hW⟩⟩ rfl rfl hl.1 rfl (lv_room (Nat.le_of_ble_eq_true rfl)) dX2_readTurn_17 ⟨Nat.le_of_ble_eq_true rfl, Nat.le_of_ble_eq_true rfl⟩) hS (fun q _ h => hFc q h) hFc (fun r_1 u t H1 locs ht hvm hw hB hz1 hk1 hS => ?_)
  obtain ⟨hP1, hK1, hD1⟩ := hB
  rw [ht] at hP1
  obtain ⟨hP, hD⟩ := va_join (wr := [(h0, .inr (2, [.ref h2, .ref h3, .ref h4, .int 0])), (h2, .inl (cA0, 30, .inl (f0))), (h3, .inl (cA1, 30, .inl (f0))), (h4, .inl (cA2, 30, .inl (f0)))]) (w1 := [(h1, .inr (8, [.ref h5, .int 0, .int 0, .int 0]))]) hP hD [4] [0, 1, 2, 3] rfl rfl (by decide) (by decide) hk1 hFc hP1 hD1
  generalize H1 = H at hP hS ⊢
  have hP : va_P (dC, dI) classes [(h0, .inr (2, [.ref h2, .ref h3, .ref h4, .int 0])), (h2, .inl (cA0, 30, .inl (f0))), (h3, .inl (cA1, 30, .inl (f0))), (h4, .inl (cA2, 30, .inl (f0))), (h1, .inr (8, [.ref h5, .int 0, .int 0, .int 0]))] H := hP
  have hD : va_D A [(h0, .inr (2, [.ref h2, .ref h3, .ref h4, .int 0])), (h2, .inl (cA0, 30, .inl (f0))), (h3, .inl (cA1, 30, .inl (f0))), (h4, .inl (cA2, 30, .inl (f0))), (h1, .inr (8, [.ref h5, .int 0, .int 0, .int 0]))] := hD
  obtain rfl : r_1 = 0 := hw
  refine va_iast hx hb hK hP hD hS 1 0 rfl rfl (vp_in_iff.mpr ⟨by decide, by decide⟩) dX2_readTurn_20 (fun H locs hP hD hS => ?_)
  obtain ⟨f_2, ef_2⟩ : ∃ f9 : Nat → Int32, f9 = upd (f0) (0 : Int32).toNatClampNeg (0) := ⟨_, rfl⟩
  rw [← ef_2] at hP hD
  have hP : va_P (dC, dI) classes [(h0, .inr (2, [.ref h2, .ref h3, .ref h4, .int 0])), (h2, .inl (cA0, 30, .inl (f_2))), (h3, .inl (cA1, 30, .inl (f0))), (h4, .inl (cA2, 30, .inl (f0))), (h1, .inr (8, [.ref h5, .int 0, .int 0, .int 0]))] H := hP
  have hD : va_D A [(h0, .inr (2, [.ref h2, .ref h3, .ref h4, .int 0])), (h2, .inl (cA0, 30, .inl (f_2))), (h3, .inl (cA1, 30, .inl (f0))), (h4, .inl (cA2, 30, .inl (f0))), (h1, .inr (8, [.ref h5, .int 0, .int 0, .int 0]))] := hD
  refine lv_aload_n hx hb dX2_readTurn_21 rfl (lv_at hl 0 rfl) ?_
  refine va_get (D := (dC, dI)) (ci := 2) (v := .ref h3) (C := RX2) (T := TX2) (N := 4) hx hb hts zi_X2_readTurn_X2 hown hK hP 0 rfl rfl 1 (by decide) (hts (.fieldLink RX2 15 "HoldTwo$Line" "other" "[I") (by decide +kernel)) (fun _ h9 => h9) rfl dX2_readTurn_22 ?_
  refine lv_iload_n hx hb dX2_readTurn_25 rfl (lv_at hl 2 rfl) ?_
  refine lv_iconst (v := (-1)) hx hb dX2_readTurn_26 (by decide) ?_
  refine va_iast hx hb hK hP hD hS 2 1 rfl rfl (vp_in_iff.mpr ⟨by decide, by decide⟩) dX2_readTurn_27 (fun H locs hP hD hS => ?_)
  obtain ⟨f_3, ef_3⟩ : ∃ f9 : Nat → Int32, f9 = upd (f0) (0 : Int32).toNatClampNeg ((-1)) := ⟨_, rfl⟩
  rw [← ef_3] at hP hD
  have hP : va_P (dC, dI) classes [(h0, .inr (2, [.ref h2, .ref h3, .ref h4, .int 0])), (h2, .inl (cA0, 30, .inl (f_2))), (h3, .inl (cA1, 30, .inl (f_3))), (h4, .inl (cA2, 30, .inl (f0))), (h1, .inr (8, [.ref h5, .int 0, .int 0, .int 0]))] H := hP
  have hD : va_D A [(h0, .inr (2, [.ref h2, .ref h3, .ref h4, .int 0])), (h2, .inl (cA0, 30, .inl (f_2))), (h3, .inl (cA1, 30, .inl (f_3))), (h4, .inl (cA2, 30, .inl (f0))), (h1, .inr (8, [.ref h5, .int 0, .int 0, .int 0]))] := hD
  refine lv_aload_n hx hb dX2_readTurn_28 rfl (lv_at hl 0 rfl) ?_
  refine va_get (D := (dC, dI)) (ci := 2) (v := .ref h4) (C := RX2) (T := TX2) (N := 4) hx hb hts zi_X2_readTurn_X2 hown hK hP 0 rfl rfl 2 (by decide) (hts (.fieldLink RX2 18 "HoldTwo$Line" "pick" "[I") (by decide +kernel)) (fun _ h9 => h9) rfl dX2_readTurn_29 ?_
  refine lv_iload_n hx hb dX2_readTurn_32 rfl (lv_at hl 2 rfl) ?_
  refine lv_iconst (v := 0) hx hb dX2_readTurn_33 (by decide) ?_
  refine va_iast hx hb hK hP hD hS 3 2 rfl rfl (vp_in_iff.mpr ⟨by decide, by decide⟩) dX2_readTurn_34 (fun H locs hP hD hS => ?_)
  obtain ⟨f_4, ef_4⟩ : ∃ f9 : Nat → Int32, f9 = upd (f0) (0 : Int32).toNatClampNeg (0) := ⟨_, rfl⟩
  rw [← ef_4] at hP hD
  have hP : va_P (dC, dI) classes [(h0, .inr (2, [.ref h2, .ref h3, .ref h4, .int 0])), (h2, .inl (cA0, 30, .inl (f_2))), (h3, .inl (cA1, 30, .inl (f_3))), (h4, .inl (cA2, 30, .inl (f_4))), (h1, .inr (8, [.ref h5, .int 0, .int 0, .int 0]))] H := hP
  have hD : va_D A [(h0, .inr (2, [.ref h2, .ref h3, .ref h4, .int 0])), (h2, .inl (cA0, 30, .inl (f_2))), (h3, .inl (cA1, 30, .inl (f_3))), (h4, .inl (cA2, 30, .inl (f_4))), (h1, .inr (8, [.ref h5, .int 0, .int 0, .int 0]))] := hD
  refine lv_aload_n hx hb dX2_readTurn_35 rfl (lv_at hl 1 rfl) ?_
  refine lv_bipush (v := 44) hx hb dX2_readTurn_36 (by decide) ?_
  have hPc := hP.sub (ws' := [(h1, .inr (8, [.ref h5, .int 0, .int 0, .int 0]))]) [4] rfl
  have hDc := hD.sub (ws' := [(h1, .inr (8, [.ref h5, .int 0, .int 0, .int 0]))]) [4] (by decide) rfl
  have hKc := hK.sub (tys' := []) [] rfl
  have hFc := va_free (wc := [(h1, .inr (8, [.ref h5, .int 0, .int 0, .int 0]))]) hD hS hA [4] rfl
  refine va_calli (va_runV (As := [.int 44]) (rest := []) ⟨hx, hb, hml, hown, hts⟩ (zk_X8_takes_1 l dC dI (h1) (h5) H.size) (cwV 1 hts gX2_readTurn_X8_takes rfl rfl rfl (by decide +kernel) ⟨Nat.le_of_ble_eq_true rfl, Nat.le_of_ble_eq_true rfl⟩) ⟨zw_blind, va_recv hK hP (ci := 8) (q0 := 4) rfl rfl, fun U hU hW => ⟨rfl, zw_P.of hPc hKc hDc hN U hU hW⟩⟩ rfl rfl hl.1 rfl (lv_room (Nat.le_of_ble_eq_true rfl)) dX2_readTurn_38 ⟨Nat.le_of_ble_eq_true rfl, Nat.le_of_ble_eq_true rfl⟩) hS (fun q _ h => hFc q h) hFc (fun r_5 u t H1 locs ht hvm hw hB hz1 hk1 hS => ?_)
  obtain ⟨hP1, hK1, hD1⟩ := hB
  rw [ht] at hP1
  obtain ⟨hP, hD⟩ := va_join (wr := [(h0, .inr (2, [.ref h2, .ref h3, .ref h4, .int 0])), (h2, .inl (cA0, 30, .inl (f_2))), (h3, .inl (cA1, 30, .inl (f_3))), (h4, .inl (cA2, 30, .inl (f_4)))]) (w1 := [(h1, .inr (8, [.ref h5, .int 0, .int 0, .int 0]))]) hP hD [4] [0, 1, 2, 3] rfl rfl (by decide) (by decide) hk1 hFc hP1 hD1
  generalize H1 = H at hP hS ⊢
  have hP : va_P (dC, dI) classes [(h0, .inr (2, [.ref h2, .ref h3, .ref h4, .int 0])), (h2, .inl (cA0, 30, .inl (f_2))), (h3, .inl (cA1, 30, .inl (f_3))), (h4, .inl (cA2, 30, .inl (f_4))), (h1, .inr (8, [.ref h5, .int 0, .int 0, .int 0]))] H := hP
  have hD : va_D A [(h0, .inr (2, [.ref h2, .ref h3, .ref h4, .int 0])), (h2, .inl (cA0, 30, .inl (f_2))), (h3, .inl (cA1, 30, .inl (f_3))), (h4, .inl (cA2, 30, .inl (f_4))), (h1, .inr (8, [.ref h5, .int 0, .int 0, .int 0]))] := hD
  obtain rfl : r_5 = 0 := hw
  refine lv_if_ne (tgt := 45) hx hb dX2_readTurn_41 (by decide) (fun c9 => absurd (by decide) c9) (fun _ => ?_)
  have hP9 := hP.sub (ws' := [(h0, .inr (2, [.ref h2, .ref h3, .ref h4, .int 0])), (h2, .inl (cA0, 30, .inl (f_2))), (h3, .inl (cA1, 30, .inl (f_3))), (h4, .inl (cA2, 30, .inl (f_4))), (h1, .inr (8, [.ref h5, .int 0, .int 0, .int 0]))]) [0, 1, 2, 3, 4] rfl
  have hD9 := hD.sub (ws' := [(h0, .inr (2, [.ref h2, .ref h3, .ref h4, .int 0])), (h2, .inl (cA0, 30, .inl (f_2))), (h3, .inl (cA1, 30, .inl (f_3))), (h4, .inl (cA2, 30, .inl (f_4))), (h1, .inr (8, [.ref h5, .int 0, .int 0, .int 0]))]) [0, 1, 2, 3, 4] (by decide) rfl
  have hK9 := hK.sub (tys' := []) [] rfl
  refine W.widen (k := 0) (n := 0) (Nat.le_of_ble_eq_true rfl) (Nat.le_of_ble_eq_true rfl) ?_
  exact W.vret hx hb hr (fun t ht hW => ⟨⟨(), rfl, trivial, f_2, f_3, f_4, by rw [ht]; exact hP9, va_K.moved hW.alike hK9, hD9⟩, hS.F ht⟩) hS.2.2 dX2_readTurn_44
set_option maxHeartbeats 8000000 in
set_option maxRecDepth 100000 in
theorem zk_X8_takes_2 (l : Launch) (dC : Nat → ClassId) (dI : Nat → Nat → Nat) (h0 : Nat) (h1 : Nat) (sz : Nat) : Met l yX8_takes wsX8_takes ({ frames := 1, cells := 0, slots := 0, locals := 20 }) (va_Pc [.ref h0, .int 59] (zw_P dC dI sz [] [(h0, .inr (8, [.ref h1, .int 0, .int 0, .int 0]))])) (va_Qi (fun (r : Int32) (_ : Unit) => r = 0) (fun (_ : Unit) (t : State) => zw_Q dC dI (va_A [(h0, .inr (8, [.ref h1, .int 0, .int 0, .int 0]))] sz) [] [(h0, .inr (8, [.ref h1, .int 0, .int 0, .int 0]))] t) (va_A [(h0, .inr (8, [.ref h1, .int 0, .int 0, .int 0]))] sz)) 0 0 (va_A [(h0, .inr (8, [.ref h1, .int 0, .int 0, .int 0]))] sz) := by
  refine Met.ofW (cc := cX8_takes) (maxL := 2) (ret := (some .boolean)) (by decide) rfl ?_
  intro p e s m args below meth c s₁ B hml hv
  obtain ⟨rfl, hsz, hP, hK, hD0, hN⟩ := hv
  have hx := B.exec
  have hb := B.bytes
  have hr := B.returns
  have hts := atoms_spec (ws := wsX8_takes) B.pre
  have hown : s.vm.findClass RX8 = some m.cls := findClass_of_methodNamed B.named
  have hlocks := B.notSynchronized
  subst hsz
  have hD := hD0.self (sz := s.heap.size)
  generalize hAe : va_A [(h0, .inr (8, [.ref h1, .int 0, .int 0, .int 0]))] s.heap.size = A at hD ⊢
  have hA : ∀ q : Nat, s.heap.size ≤ q → A q := fun q h => by rw [← hAe]; exact Or.inr h
  have hP : va_P (dC, dI) classes [(h0, .inr (8, [.ref h1, .int 0, .int 0, .int 0]))] s.heap := hP
  have hl := lv_entry ([.ref h0, .int 59]) (n := 2) (Nat.le_of_ble_eq_true rfl)
  rw [lg_entry_eq]
  generalize (lg_sl ([.ref h0, .int 59]) ++ List.replicate (2 - (lg_sl ([.ref h0, .int 59])).length) Slot.unset).toArray = ls at hl ⊢
  have hl : lv_has ls 2 [(0, .ref h0), (1, .int 59)] := hl
  refine zw_start (fun H eH => ?_)
  have hP : va_P (dC, dI) classes [(h0, .inr (8, [.ref h1, .int 0, .int 0, .int 0]))] H := by rw [eH]; exact hP
  have hS : va_S A s.heap H [] := by rw [eH]; exact va_S.rf
  refine lv_aload_n hx hb dX8_takes_0 rfl (lv_at hl 0 rfl) ?_
  have hPc := hP.sub (ws' := [(h0, .inr (8, [.ref h1, .int 0, .int 0, .int 0]))]) [0] rfl
  have hDc := hD.sub (ws' := [(h0, .inr (8, [.ref h1, .int 0, .int 0, .int 0]))]) [0] (by decide) rfl
  have hKc := hK.sub (tys' := []) [] rfl
  have hFc := va_free (wc := [(h0, .inr (8, [.ref h1, .int 0, .int 0, .int 0]))]) hD hS hA [0] rfl
  refine va_calli (va_runV (As := []) (rest := []) ⟨hx, hb, hml, hown, hts⟩ (zk_X8_peek_1 l dC dI (h0) (h1) H.size) (cwV 0 hts gX8_takes_X8_peek rfl rfl rfl (by decide +kernel) ⟨Nat.le_of_ble_eq_true rfl, Nat.le_of_ble_eq_true rfl⟩) ⟨zw_blind, va_recv hK hP (ci := 8) (q0 := 0) rfl rfl, fun U hU hW => ⟨rfl, zw_P.of hPc hKc hDc hN U hU hW⟩⟩ rfl rfl hl.1 rfl (lv_room (Nat.le_of_ble_eq_true rfl)) dX8_takes_1 ⟨Nat.le_of_ble_eq_true rfl, Nat.le_of_ble_eq_true rfl⟩) hS (fun q _ h => hFc q h) hFc (fun r_1 u t H1 locs ht hvm hw hB hz1 hk1 hS => ?_)
  obtain ⟨hP1, hK1, hD1⟩ := hB
  rw [ht] at hP1
  obtain ⟨hP, hD⟩ := va_join (wr := []) (w1 := [(h0, .inr (8, [.ref h1, .int 0, .int 0, .int 0]))]) hP hD [0] [] rfl rfl (by decide) (by decide) hk1 hFc hP1 hD1
  generalize H1 = H at hP hS ⊢
  have hP : va_P (dC, dI) classes [(h0, .inr (8, [.ref h1, .int 0, .int 0, .int 0]))] H := hP
  have hD : va_D A [(h0, .inr (8, [.ref h1, .int 0, .int 0, .int 0]))] := hD
  obtain rfl : r_1 = (-1) := hw
  refine lv_iload_n hx hb dX8_takes_4 rfl (lv_at hl 1 rfl) ?_
  refine lv_icmp_eq (tgt := 10) hx hb dX8_takes_5 (by decide) (fun c9 => absurd c9 (by decide)) (fun _ => ?_)
  refine lv_iconst (v := 0) hx hb dX8_takes_8 (by decide) ?_
  have hP9 := hP.sub (ws' := [(h0, .inr (8, [.ref h1, .int 0, .int 0, .int 0]))]) [0] rfl
  have hD9 := hD.sub (ws' := [(h0, .inr (8, [.ref h1, .int 0, .int 0, .int 0]))]) [0] (by decide) rfl
  have hK9 := hK.sub (tys' := []) [] rfl
  refine W.widen (k := 0) (n := 0) (Nat.le_of_ble_eq_true rfl) (Nat.le_of_ble_eq_true rfl) ?_
  exact W.zret (v := 0) hx hb hr rfl (fun t ht hW => ⟨⟨0, (), rfl, rfl, by rw [ht]; exact hP9, va_K.moved hW.alike hK9, hD9⟩, hS.F ht⟩) hS.2.2 dX8_takes_9
set_option maxHeartbeats 8000000 in
set_option maxRecDepth 100000 in
theorem zk_X8_endsWell (l : Launch) (dC : Nat → ClassId) (dI : Nat → Nat → Nat) (h0 : Nat) (h1 : Nat) (sz : Nat) : Met l yX8_endsWell wsX8_endsWell ({ frames := 1, cells := 0, slots := 0, locals := 20 }) (va_Pc [.ref h0] (zw_P dC dI sz [] [(h0, .inr (8, [.ref h1, .int 0, .int 0, .int 0]))])) (va_Qi (fun (r : Int32) (_ : Unit) => r = 0) (fun (_ : Unit) (t : State) => zw_Q dC dI (va_A [(h0, .inr (8, [.ref h1, .int 0, .int 0, .int 0]))] sz) [] [(h0, .inr (8, [.ref h1, .int 0, .int 0, .int 0]))] t) (va_A [(h0, .inr (8, [.ref h1, .int 0, .int 0, .int 0]))] sz)) 0 0 (va_A [(h0, .inr (8, [.ref h1, .int 0, .int 0, .int 0]))] sz) := by
  refine Met.ofW (cc := cX8_endsWell) (maxL := 1) (ret := (some .boolean)) (by decide) rfl ?_
  intro p e s m args below meth c s₁ B hml hv
  obtain ⟨rfl, hsz, hP, hK, hD0, hN⟩ := hv
  have hx := B.exec
  have hb := B.bytes
  have hr := B.returns
  have hts := atoms_spec (ws := wsX8_endsWell) B.pre
  have hown : s.vm.findClass RX8 = some m.cls := findClass_of_methodNamed B.named
  have hlocks := B.notSynchronized
  subst hsz
  have hD := hD0.self (sz := s.heap.size)
  generalize hAe : va_A [(h0, .inr (8, [.ref h1, .int 0, .int 0, .int 0]))] s.heap.size = A at hD ⊢
  have hA : ∀ q : Nat, s.heap.size ≤ q → A q := fun q h => by rw [← hAe]; exact Or.inr h
  have hP : va_P (dC, dI) classes [(h0, .inr (8, [.ref h1, .int 0, .int 0, .int 0]))] s.heap := hP
  have hl := lv_entry ([.ref h0]) (n := 1) (Nat.le_of_ble_eq_true rfl)
  rw [lg_entry_eq]
  generalize (lg_sl ([.ref h0]) ++ List.replicate (1 - (lg_sl ([.ref h0])).length) Slot.unset).toArray = ls at hl ⊢
  have hl : lv_has ls 1 [(0, .ref h0)] := hl
  refine zw_start (fun H eH => ?_)
  have hP : va_P (dC, dI) classes [(h0, .inr (8, [.ref h1, .int 0, .int 0, .int 0]))] H := by rw [eH]; exact hP
  have hS : va_S A s.heap H [] := by rw [eH]; exact va_S.rf
  refine lv_aload_n hx hb dX8_endsWell_0 rfl (lv_at hl 0 rfl) ?_
  have hPc := hP.sub (ws' := [(h0, .inr (8, [.ref h1, .int 0, .int 0, .int 0]))]) [0] rfl
  have hDc := hD.sub (ws' := [(h0, .inr (8, [.ref h1, .int 0, .int 0, .int 0]))]) [0] (by decide) rfl
  have hKc := hK.sub (tys' := []) [] rfl
  have hFc := va_free (wc := [(h0, .inr (8, [.ref h1, .int 0, .int 0, .int 0]))]) hD hS hA [0] rfl
  refine va_calli (va_runV (As := []) (rest := []) ⟨hx, hb, hml, hown, hts⟩ (zk_X8_peek_1 l dC dI (h0) (h1) H.size) (cwV 0 hts gX8_endsWell_X8_peek rfl rfl rfl (by decide +kernel) ⟨Nat.le_of_ble_eq_true rfl, Nat.le_of_ble_eq_true rfl⟩) ⟨zw_blind, va_recv hK hP (ci := 8) (q0 := 0) rfl rfl, fun U hU hW => ⟨rfl, zw_P.of hPc hKc hDc hN U hU hW⟩⟩ rfl rfl hl.1 rfl (lv_room (Nat.le_of_ble_eq_true rfl)) dX8_endsWell_1 ⟨Nat.le_of_ble_eq_true rfl, Nat.le_of_ble_eq_true rfl⟩) hS (fun q _ h => hFc q h) hFc (fun r_1 u t H1 locs ht hvm hw hB hz1 hk1 hS => ?_)
  obtain ⟨hP1, hK1, hD1⟩ := hB
  rw [ht] at hP1
  obtain ⟨hP, hD⟩ := va_join (wr := []) (w1 := [(h0, .inr (8, [.ref h1, .int 0, .int 0, .int 0]))]) hP hD [0] [] rfl rfl (by decide) (by decide) hk1 hFc hP1 hD1
  generalize H1 = H at hP hS ⊢
  have hP : va_P (dC, dI) classes [(h0, .inr (8, [.ref h1, .int 0, .int 0, .int 0]))] H := hP
  have hD : va_D A [(h0, .inr (8, [.ref h1, .int 0, .int 0, .int 0]))] := hD
  obtain rfl : r_1 = (-1) := hw
  refine lv_iconst (v := (-1)) hx hb dX8_endsWell_4 (by decide) ?_
  refine lv_icmp_eq (tgt := 12) hx hb dX8_endsWell_5 (by decide) (fun _ => ?_) (fun c9 => absurd (by decide) c9)
  refine lv_aload_n hx hb dX8_endsWell_12 rfl (lv_at hl 0 rfl) ?_
  refine va_get (D := (dC, dI)) (ci := 8) (v := .int 0) (C := RX8) (T := TX8) (N := 4) hx hb hts zi_X8_endsWell_X8 hown hK hP 0 rfl rfl 3 (by decide) (hts (.fieldLink RX8 22 "HoldTwo$Tape" "wrong" "I") (by decide +kernel)) (fun _ h9 => h9) rfl dX8_endsWell_13 ?_
  refine lv_iconst (v := (-1)) hx hb dX8_endsWell_16 (by decide) ?_
  refine lv_icmp_ne (tgt := 24) hx hb dX8_endsWell_17 (by decide) (fun _ => ?_) (fun c9 => absurd c9 (by decide))
  refine lv_iconst (v := 0) hx hb dX8_endsWell_24 (by decide) ?_
  have hP9 := hP.sub (ws' := [(h0, .inr (8, [.ref h1, .int 0, .int 0, .int 0]))]) [0] rfl
  have hD9 := hD.sub (ws' := [(h0, .inr (8, [.ref h1, .int 0, .int 0, .int 0]))]) [0] (by decide) rfl
  have hK9 := hK.sub (tys' := []) [] rfl
  refine W.widen (k := 0) (n := 0) (Nat.le_of_ble_eq_true rfl) (Nat.le_of_ble_eq_true rfl) ?_
  exact W.zret (v := 0) hx hb hr rfl (fun t ht hW => ⟨⟨0, (), rfl, rfl, by rw [ht]; exact hP9, va_K.moved hW.alike hK9, hD9⟩, hS.F ht⟩) hS.2.2 dX8_endsWell_25
set_option maxHeartbeats 8000000 in
set_option maxRecDepth 100000 in
theorem zk_X2_readFrom (l : Launch) (dC : Nat → ClassId) (dI : Nat → Nat → Nat) (h0 : Nat) (h1 : Nat) (h2 : Nat) (h3 : Nat) (h4 : Nat) (h5 : Nat) (cA0 : ClassId) (f0 : Nat → Int32) (cA1 : ClassId) (cA2 : ClassId) (sz : Nat) : Met l yX2_readFrom wsX2_readFrom ({ frames := 5, cells := 0, slots := 0, locals := 106 }) (va_Pc [.ref h0, .ref h1] (zw_P dC dI sz [(cA0, .int), (cA1, .int), (cA2, .int)] [(h1, .inr (8, [.ref h2, .int 0, .int 0, .int (-1)])), (h0, .inr (2, [.ref h3, .ref h4, .ref h5, .int 0])), (h3, .inl (cA0, 30, .inl (f0))), (h4, .inl (cA1, 30, .inl (f0))), (h5, .inl (cA2, 30, .inl (f0)))])) (va_Qi (fun (r : Int32) (_ : Unit) => r = 0) (fun (_ : Unit) (t : State) => ∃ fn0 : Nat → Int32, ∃ fn1 : Nat → Int32, ∃ fn2 : Nat → Int32, zw_Q dC dI (va_A [(h1, .inr (8, [.ref h2, .int 0, .int 0, .int (-1)])), (h0, .inr (2, [.ref h3, .ref h4, .ref h5, .int 0])), (h3, .inl (cA0, 30, .inl (f0))), (h4, .inl (cA1, 30, .inl (f0))), (h5, .inl (cA2, 30, .inl (f0)))] sz) [] [(h1, .inr (8, [.ref h2, .int 0, .int 0, .int 0])), (h0, .inr (2, [.ref h3, .ref h4, .ref h5, .int 1])), (h3, .inl (cA0, 30, .inl (fn0))), (h4, .inl (cA1, 30, .inl (fn1))), (h5, .inl (cA2, 30, .inl (fn2)))] t) (va_A [(h1, .inr (8, [.ref h2, .int 0, .int 0, .int (-1)])), (h0, .inr (2, [.ref h3, .ref h4, .ref h5, .int 0])), (h3, .inl (cA0, 30, .inl (f0))), (h4, .inl (cA1, 30, .inl (f0))), (h5, .inl (cA2, 30, .inl (f0)))] sz)) 0 0 (va_A [(h1, .inr (8, [.ref h2, .int 0, .int 0, .int (-1)])), (h0, .inr (2, [.ref h3, .ref h4, .ref h5, .int 0])), (h3, .inl (cA0, 30, .inl (f0))), (h4, .inl (cA1, 30, .inl (f0))), (h5, .inl (cA2, 30, .inl (f0)))] sz) := by
  refine Met.ofW (cc := cX2_readFrom) (maxL := 3) (ret := (some .boolean)) (by decide) rfl ?_
  intro p e s m args below meth c s₁ B hml hv
  obtain ⟨rfl, hsz, hP, hK, hD0, hN⟩ := hv
  have hx := B.exec
  have hb := B.bytes
  have hr := B.returns
  have hts := atoms_spec (ws := wsX2_readFrom) B.pre
  have hown : s.vm.findClass RX2 = some m.cls := findClass_of_methodNamed B.named
  have hlocks := B.notSynchronized
  subst hsz
  have hD := hD0.self (sz := s.heap.size)
  generalize hAe : va_A [(h1, .inr (8, [.ref h2, .int 0, .int 0, .int (-1)])), (h0, .inr (2, [.ref h3, .ref h4, .ref h5, .int 0])), (h3, .inl (cA0, 30, .inl (f0))), (h4, .inl (cA1, 30, .inl (f0))), (h5, .inl (cA2, 30, .inl (f0)))] s.heap.size = A at hD ⊢
  have hA : ∀ q : Nat, s.heap.size ≤ q → A q := fun q h => by rw [← hAe]; exact Or.inr h
  have hP : va_P (dC, dI) classes [(h1, .inr (8, [.ref h2, .int 0, .int 0, .int (-1)])), (h0, .inr (2, [.ref h3, .ref h4, .ref h5, .int 0])), (h3, .inl (cA0, 30, .inl (f0))), (h4, .inl (cA1, 30, .inl (f0))), (h5, .inl (cA2, 30, .inl (f0)))] s.heap := hP
  have hl := lv_entry ([.ref h0, .ref h1]) (n := 3) (Nat.le_of_ble_eq_true rfl)
  rw [lg_entry_eq]
  generalize (lg_sl ([.ref h0, .ref h1]) ++ List.replicate (3 - (lg_sl ([.ref h0, .ref h1])).length) Slot.unset).toArray = ls at hl ⊢
  have hl : lv_has ls 3 [(0, .ref h0), (1, .ref h1)] := hl
  refine zw_start (fun H eH => ?_)
  have hP : va_P (dC, dI) classes [(h1, .inr (8, [.ref h2, .int 0, .int 0, .int (-1)])), (h0, .inr (2, [.ref h3, .ref h4, .ref h5, .int 0])), (h3, .inl (cA0, 30, .inl (f0))), (h4, .inl (cA1, 30, .inl (f0))), (h5, .inl (cA2, 30, .inl (f0)))] H := by rw [eH]; exact hP
  have hS : va_S A s.heap H [] := by rw [eH]; exact va_S.rf
  refine lv_aload_n hx hb dX2_readFrom_0 rfl (lv_at hl 0 rfl) ?_
  refine lv_iconst (v := 0) hx hb dX2_readFrom_1 (by decide) ?_
  refine va_put (D := (dC, dI)) (ci := 2) (v := .int 0) (ty := .int) (C := RX2) (T := TX2) (N := 4) hx hb hts zi_X2_readFrom_X2 tyX2 tyX2_ok nmX2 hown hK hP hD hS 1 rfl rfl 3 (by decide) (hts (.fieldLink RX2 21 "HoldTwo$Line" "turns" "I") (by decide +kernel)) (fun _ h9 => h9) rfl (by decide +kernel) rfl rfl (Nat.le_of_ble_eq_true rfl) dX2_readFrom_2 (fun H locs hP hD hS => ?_)
  have hP : va_P (dC, dI) classes [(h1, .inr (8, [.ref h2, .int 0, .int 0, .int (-1)])), (h0, .inr (2, [.ref h3, .ref h4, .ref h5, .int 0])), (h3, .inl (cA0, 30, .inl (f0))), (h4, .inl (cA1, 30, .inl (f0))), (h5, .inl (cA2, 30, .inl (f0)))] H := hP
  have hD : va_D A [(h1, .inr (8, [.ref h2, .int 0, .int 0, .int (-1)])), (h0, .inr (2, [.ref h3, .ref h4, .ref h5, .int 0])), (h3, .inl (cA0, 30, .inl (f0))), (h4, .inl (cA1, 30, .inl (f0))), (h5, .inl (cA2, 30, .inl (f0)))] := hD
  refine lv_aload_n hx hb dX2_readFrom_5 rfl (lv_at hl 1 rfl) ?_
  have hPc := hP.sub (ws' := [(h1, .inr (8, [.ref h2, .int 0, .int 0, .int (-1)]))]) [0] rfl
  have hDc := hD.sub (ws' := [(h1, .inr (8, [.ref h2, .int 0, .int 0, .int (-1)]))]) [0] (by decide) rfl
  have hKc := hK.sub (tys' := []) [] rfl
  have hFc := va_free (wc := [(h1, .inr (8, [.ref h2, .int 0, .int 0, .int (-1)]))]) hD hS hA [0] rfl
  refine va_callv (va_runV (As := []) (rest := []) ⟨hx, hb, hml, hown, hts⟩ (zk_X8_rewind l dC dI (h1) (h2) H.size) (cwV 0 hts gX2_readFrom_X8_rewind rfl rfl rfl (by decide +kernel) ⟨Nat.le_of_ble_eq_true rfl, Nat.le_of_ble_eq_true rfl⟩) ⟨zw_blind, va_recv hK hP (ci := 8) (q0 := 0) rfl rfl, fun U hU hW => ⟨rfl, zw_P.of hPc hKc hDc hN U hU hW⟩⟩ rfl rfl hl.1 rfl (lv_room (Nat.le_of_ble_eq_true rfl)) dX2_readFrom_6 ⟨Nat.le_of_ble_eq_true rfl, Nat.le_of_ble_eq_true rfl⟩) hS (fun q _ h => hFc q h) hFc (fun u t H1 locs ht hvm hw hB hz1 hk1 hS => ?_)
  obtain ⟨hP1, hK1, hD1⟩ := hB
  rw [ht] at hP1
  obtain ⟨hP, hD⟩ := va_join (wr := [(h0, .inr (2, [.ref h3, .ref h4, .ref h5, .int 0])), (h3, .inl (cA0, 30, .inl (f0))), (h4, .inl (cA1, 30, .inl (f0))), (h5, .inl (cA2, 30, .inl (f0)))]) (w1 := [(h1, .inr (8, [.ref h2, .int 0, .int 0, .int (-1)]))]) hP hD [0] [1, 2, 3, 4] rfl rfl (by decide) (by decide) hk1 hFc hP1 hD1
  generalize H1 = H at hP hS ⊢
  have hP : va_P (dC, dI) classes [(h0, .inr (2, [.ref h3, .ref h4, .ref h5, .int 0])), (h3, .inl (cA0, 30, .inl (f0))), (h4, .inl (cA1, 30, .inl (f0))), (h5, .inl (cA2, 30, .inl (f0))), (h1, .inr (8, [.ref h2, .int 0, .int 0, .int (-1)]))] H := hP
  have hD : va_D A [(h0, .inr (2, [.ref h3, .ref h4, .ref h5, .int 0])), (h3, .inl (cA0, 30, .inl (f0))), (h4, .inl (cA1, 30, .inl (f0))), (h5, .inl (cA2, 30, .inl (f0))), (h1, .inr (8, [.ref h2, .int 0, .int 0, .int (-1)]))] := hD
  refine lv_iconst (v := 0) hx hb dX2_readFrom_9 (by decide) ?_
  refine lv_istore_n (lv' := [(2, .int 0), (0, .ref h0), (1, .ref h1)]) hx hb dX2_readFrom_10 rfl hl (by decide) rfl (fun ls hl => ?_)
  refine lv_iload_n hx hb dX2_readFrom_11 rfl (lv_at hl 0 rfl) ?_
  refine lv_bipush (v := 30) hx hb dX2_readFrom_12 (by decide) ?_
  refine lv_icmp_ge (tgt := 57) hx hb dX2_readFrom_14 (by decide) (fun c9 => absurd c9 (by decide)) (fun _ => ?_)
  refine lv_aload_n hx hb dX2_readFrom_17 rfl (lv_at hl 1 rfl) ?_
  refine lv_aload_n hx hb dX2_readFrom_18 rfl (lv_at hl 2 rfl) ?_
  refine lv_iload_n hx hb dX2_readFrom_19 rfl (lv_at hl 0 rfl) ?_
  have hPc := hP.sub (ws' := [(h0, .inr (2, [.ref h3, .ref h4, .ref h5, .int 0])), (h3, .inl (cA0, 30, .inl (f0))), (h4, .inl (cA1, 30, .inl (f0))), (h5, .inl (cA2, 30, .inl (f0))), (h1, .inr (8, [.ref h2, .int 0, .int 0, .int (-1)]))]) [0, 1, 2, 3, 4] rfl
  have hDc := hD.sub (ws' := [(h0, .inr (2, [.ref h3, .ref h4, .ref h5, .int 0])), (h3, .inl (cA0, 30, .inl (f0))), (h4, .inl (cA1, 30, .inl (f0))), (h5, .inl (cA2, 30, .inl (f0))), (h1, .inr (8, [.ref h2, .int 0, .int 0, .int (-1)]))]) [0, 1, 2, 3, 4] (by decide) rfl
  have hKc := hK.sub (tys' := [(cA0, .int), (cA1, .int), (cA2, .int)]) [0, 1, 2] rfl
  have hFc := va_free (wc := [(h0, .inr (2, [.ref h3, .ref h4, .ref h5, .int 0])), (h3, .inl (cA0, 30, .inl (f0))), (h4, .inl (cA1, 30, .inl (f0))), (h5, .inl (cA2, 30, .inl (f0))), (h1, .inr (8, [.ref h2, .int 0, .int 0, .int (-1)]))]) hD hS hA [0, 1, 2, 3, 4] rfl
  refine va_callv (va_runV (As := [.ref h1, .int 0]) (rest := []) ⟨hx, hb, hml, hown, hts⟩ (zk_X2_readTurn l dC dI (h0) (h1) (h3) (h4) (h5) (cA0) (f0) (cA1) (cA2) (h2) H.size) (cwV 2 hts gX2_readFrom_X2_readTurn rfl rfl rfl (by decide +kernel) ⟨Nat.le_of_ble_eq_true rfl, Nat.le_of_ble_eq_true rfl⟩) ⟨zw_blind, va_recv hK hP (ci := 2) (q0 := 0) rfl rfl, fun U hU hW => ⟨rfl, zw_P.of hPc hKc hDc hN U hU hW⟩⟩ rfl rfl hl.1 rfl (lv_room (Nat.le_of_ble_eq_true rfl)) dX2_readFrom_20 ⟨Nat.le_of_ble_eq_true rfl, Nat.le_of_ble_eq_true rfl⟩) hS (fun q _ h => hFc q h) hFc (fun u t H1 locs ht hvm hw hB hz1 hk1 hS => ?_)
  obtain ⟨f_3, f_4, f_5, hP1, hK1, hD1⟩ := hB
  rw [ht] at hP1
  obtain ⟨hP, hD⟩ := va_join (wr := []) (w1 := [(h0, .inr (2, [.ref h3, .ref h4, .ref h5, .int 0])), (h3, .inl (cA0, 30, .inl (f_3))), (h4, .inl (cA1, 30, .inl (f_4))), (h5, .inl (cA2, 30, .inl (f_5))), (h1, .inr (8, [.ref h2, .int 0, .int 0, .int 0]))]) hP hD [0, 1, 2, 3, 4] [] rfl rfl (by decide) (by decide) hk1 hFc hP1 hD1
  generalize H1 = H at hP hS ⊢
  have hP : va_P (dC, dI) classes [(h0, .inr (2, [.ref h3, .ref h4, .ref h5, .int 0])), (h3, .inl (cA0, 30, .inl (f_3))), (h4, .inl (cA1, 30, .inl (f_4))), (h5, .inl (cA2, 30, .inl (f_5))), (h1, .inr (8, [.ref h2, .int 0, .int 0, .int 0]))] H := hP
  have hD : va_D A [(h0, .inr (2, [.ref h3, .ref h4, .ref h5, .int 0])), (h3, .inl (cA0, 30, .inl (f_3))), (h4, .inl (cA1, 30, .inl (f_4))), (h5, .inl (cA2, 30, .inl (f_5))), (h1, .inr (8, [.ref h2, .int 0, .int 0, .int 0]))] := hD
  refine lv_aload_n hx hb dX2_readFrom_23 rfl (lv_at hl 1 rfl) ?_
  refine lv_iload_n hx hb dX2_readFrom_24 rfl (lv_at hl 0 rfl) ?_
  refine lv_iconst (v := 1) hx hb dX2_readFrom_25 (by decide) ?_
  refine lv_iadd hx hb dX2_readFrom_26 ?_
  refine lv_topi (fun x_6 ex_6 => ?_)
  have ex_6 : x_6 = 1 := ex_6.trans (by decide)
  subst ex_6
  refine va_put (D := (dC, dI)) (ci := 2) (v := .int 1) (ty := .int) (C := RX2) (T := TX2) (N := 4) hx hb hts zi_X2_readFrom_X2 tyX2 tyX2_ok nmX2 hown hK hP hD hS 0 rfl rfl 3 (by decide) (hts (.fieldLink RX2 21 "HoldTwo$Line" "turns" "I") (by decide +kernel)) (fun _ h9 => h9) rfl (by decide +kernel) rfl rfl (Nat.le_of_ble_eq_true rfl) dX2_readFrom_27 (fun H locs hP hD hS => ?_)
  have hP : va_P (dC, dI) classes [(h0, .inr (2, [.ref h3, .ref h4, .ref h5, .int 1])), (h3, .inl (cA0, 30, .inl (f_3))), (h4, .inl (cA1, 30, .inl (f_4))), (h5, .inl (cA2, 30, .inl (f_5))), (h1, .inr (8, [.ref h2, .int 0, .int 0, .int 0]))] H := hP
  have hD : va_D A [(h0, .inr (2, [.ref h3, .ref h4, .ref h5, .int 1])), (h3, .inl (cA0, 30, .inl (f_3))), (h4, .inl (cA1, 30, .inl (f_4))), (h5, .inl (cA2, 30, .inl (f_5))), (h1, .inr (8, [.ref h2, .int 0, .int 0, .int 0]))] := hD
  refine lv_aload_n hx hb dX2_readFrom_30 rfl (lv_at hl 1 rfl) ?_
  refine va_get (D := (dC, dI)) (ci := 2) (v := .int 1) (C := RX2) (T := TX2) (N := 4) hx hb hts zi_X2_readFrom_X2 hown hK hP 0 rfl rfl 3 (by decide) (hts (.fieldLink RX2 21 "HoldTwo$Line" "turns" "I") (by decide +kernel)) (fun _ h9 => h9) rfl dX2_readFrom_31 ?_
  refine lv_bipush (v := 30) hx hb dX2_readFrom_34 (by decide) ?_
  refine lv_icmp_eq (tgt := 57) hx hb dX2_readFrom_36 (by decide) (fun c9 => absurd c9 (by decide)) (fun _ => ?_)
  refine lv_aload_n hx hb dX2_readFrom_39 rfl (lv_at hl 2 rfl) ?_
  refine lv_bipush (v := 59) hx hb dX2_readFrom_40 (by decide) ?_
  have hPc := hP.sub (ws' := [(h1, .inr (8, [.ref h2, .int 0, .int 0, .int 0]))]) [4] rfl
  have hDc := hD.sub (ws' := [(h1, .inr (8, [.ref h2, .int 0, .int 0, .int 0]))]) [4] (by decide) rfl
  have hKc := hK.sub (tys' := []) [] rfl
  have hFc := va_free (wc := [(h1, .inr (8, [.ref h2, .int 0, .int 0, .int 0]))]) hD hS hA [4] rfl
  refine va_calli (va_runV (As := [.int 59]) (rest := []) ⟨hx, hb, hml, hown, hts⟩ (zk_X8_takes_2 l dC dI (h1) (h2) H.size) (cwV 1 hts gX2_readFrom_X8_takes rfl rfl rfl (by decide +kernel) ⟨Nat.le_of_ble_eq_true rfl, Nat.le_of_ble_eq_true rfl⟩) ⟨zw_blind, va_recv hK hP (ci := 8) (q0 := 4) rfl rfl, fun U hU hW => ⟨rfl, zw_P.of hPc hKc hDc hN U hU hW⟩⟩ rfl rfl hl.1 rfl (lv_room (Nat.le_of_ble_eq_true rfl)) dX2_readFrom_42 ⟨Nat.le_of_ble_eq_true rfl, Nat.le_of_ble_eq_true rfl⟩) hS (fun q _ h => hFc q h) hFc (fun r_7 u t H1 locs ht hvm hw hB hz1 hk1 hS => ?_)
  obtain ⟨hP1, hK1, hD1⟩ := hB
  rw [ht] at hP1
  obtain ⟨hP, hD⟩ := va_join (wr := [(h0, .inr (2, [.ref h3, .ref h4, .ref h5, .int 1])), (h3, .inl (cA0, 30, .inl (f_3))), (h4, .inl (cA1, 30, .inl (f_4))), (h5, .inl (cA2, 30, .inl (f_5)))]) (w1 := [(h1, .inr (8, [.ref h2, .int 0, .int 0, .int 0]))]) hP hD [4] [0, 1, 2, 3] rfl rfl (by decide) (by decide) hk1 hFc hP1 hD1
  generalize H1 = H at hP hS ⊢
  have hP : va_P (dC, dI) classes [(h0, .inr (2, [.ref h3, .ref h4, .ref h5, .int 1])), (h3, .inl (cA0, 30, .inl (f_3))), (h4, .inl (cA1, 30, .inl (f_4))), (h5, .inl (cA2, 30, .inl (f_5))), (h1, .inr (8, [.ref h2, .int 0, .int 0, .int 0]))] H := hP
  have hD : va_D A [(h0, .inr (2, [.ref h3, .ref h4, .ref h5, .int 1])), (h3, .inl (cA0, 30, .inl (f_3))), (h4, .inl (cA1, 30, .inl (f_4))), (h5, .inl (cA2, 30, .inl (f_5))), (h1, .inr (8, [.ref h2, .int 0, .int 0, .int 0]))] := hD
  obtain rfl : r_7 = 0 := hw
  refine lv_if_ne (tgt := 51) hx hb dX2_readFrom_45 (by decide) (fun c9 => absurd (by decide) c9) (fun _ => ?_)
  refine lv_goto (tgt := 57) hx hb dX2_readFrom_48 (by decide) ?_
  refine lv_aload_n hx hb dX2_readFrom_57 rfl (lv_at hl 2 rfl) ?_
  have hPc := hP.sub (ws' := [(h1, .inr (8, [.ref h2, .int 0, .int 0, .int 0]))]) [4] rfl
  have hDc := hD.sub (ws' := [(h1, .inr (8, [.ref h2, .int 0, .int 0, .int 0]))]) [4] (by decide) rfl
  have hKc := hK.sub (tys' := []) [] rfl
  have hFc := va_free (wc := [(h1, .inr (8, [.ref h2, .int 0, .int 0, .int 0]))]) hD hS hA [4] rfl
  refine va_calli (va_runV (As := []) (rest := []) ⟨hx, hb, hml, hown, hts⟩ (zk_X8_endsWell l dC dI (h1) (h2) H.size) (cwV 0 hts gX2_readFrom_X8_endsWell rfl rfl rfl (by decide +kernel) ⟨Nat.le_of_ble_eq_true rfl, Nat.le_of_ble_eq_true rfl⟩) ⟨zw_blind, va_recv hK hP (ci := 8) (q0 := 4) rfl rfl, fun U hU hW => ⟨rfl, zw_P.of hPc hKc hDc hN U hU hW⟩⟩ rfl rfl hl.1 rfl (lv_room (Nat.le_of_ble_eq_true rfl)) dX2_readFrom_58 ⟨Nat.le_of_ble_eq_true rfl, Nat.le_of_ble_eq_true rfl⟩) hS (fun q _ h => hFc q h) hFc (fun r_8 u t H1 locs ht hvm hw hB hz1 hk1 hS => ?_)
  obtain ⟨hP1, hK1, hD1⟩ := hB
  rw [ht] at hP1
  obtain ⟨hP, hD⟩ := va_join (wr := [(h0, .inr (2, [.ref h3, .ref h4, .ref h5, .int 1])), (h3, .inl (cA0, 30, .inl (f_3))), (h4, .inl (cA1, 30, .inl (f_4))), (h5, .inl (cA2, 30, .inl (f_5)))]) (w1 := [(h1, .inr (8, [.ref h2, .int 0, .int 0, .int 0]))]) hP hD [4] [0, 1, 2, 3] rfl rfl (by decide) (by decide) hk1 hFc hP1 hD1
  generalize H1 = H at hP hS ⊢
  have hP : va_P (dC, dI) classes [(h0, .inr (2, [.ref h3, .ref h4, .ref h5, .int 1])), (h3, .inl (cA0, 30, .inl (f_3))), (h4, .inl (cA1, 30, .inl (f_4))), (h5, .inl (cA2, 30, .inl (f_5))), (h1, .inr (8, [.ref h2, .int 0, .int 0, .int 0]))] H := hP
  have hD : va_D A [(h0, .inr (2, [.ref h3, .ref h4, .ref h5, .int 1])), (h3, .inl (cA0, 30, .inl (f_3))), (h4, .inl (cA1, 30, .inl (f_4))), (h5, .inl (cA2, 30, .inl (f_5))), (h1, .inr (8, [.ref h2, .int 0, .int 0, .int 0]))] := hD
  obtain rfl : r_8 = 0 := hw
  have hP9 := hP.sub (ws' := [(h1, .inr (8, [.ref h2, .int 0, .int 0, .int 0])), (h0, .inr (2, [.ref h3, .ref h4, .ref h5, .int 1])), (h3, .inl (cA0, 30, .inl (f_3))), (h4, .inl (cA1, 30, .inl (f_4))), (h5, .inl (cA2, 30, .inl (f_5)))]) [4, 0, 1, 2, 3] rfl
  have hD9 := hD.sub (ws' := [(h1, .inr (8, [.ref h2, .int 0, .int 0, .int 0])), (h0, .inr (2, [.ref h3, .ref h4, .ref h5, .int 1])), (h3, .inl (cA0, 30, .inl (f_3))), (h4, .inl (cA1, 30, .inl (f_4))), (h5, .inl (cA2, 30, .inl (f_5)))]) [4, 0, 1, 2, 3] (by decide) rfl
  have hK9 := hK.sub (tys' := []) [] rfl
  refine W.widen (k := 0) (n := 0) (Nat.le_of_ble_eq_true rfl) (Nat.le_of_ble_eq_true rfl) ?_
  exact W.zret (v := 0) hx hb hr rfl (fun t ht hW => ⟨⟨0, (), rfl, rfl, f_3, f_4, f_5, by rw [ht]; exact hP9, va_K.moved hW.alike hK9, hD9⟩, hS.F ht⟩) hS.2.2 dX2_readFrom_61
set_option maxHeartbeats 8000000 in
set_option maxRecDepth 100000 in
theorem zk_X8_takes_3 (l : Launch) (dC : Nat → ClassId) (dI : Nat → Nat → Nat) (h0 : Nat) (h1 : Nat) (sz : Nat) : Met l yX8_takes wsX8_takes ({ frames := 1, cells := 0, slots := 0, locals := 20 }) (va_Pc [.ref h0, .int 121] (zw_P dC dI sz [] [(h0, .inr (8, [.ref h1, .int 0, .int 0, .int (-1)]))])) (va_Qi (fun (r : Int32) (_ : Unit) => r = 0) (fun (_ : Unit) (t : State) => zw_Q dC dI (va_A [(h0, .inr (8, [.ref h1, .int 0, .int 0, .int (-1)]))] sz) [] [(h0, .inr (8, [.ref h1, .int 0, .int 0, .int (-1)]))] t) (va_A [(h0, .inr (8, [.ref h1, .int 0, .int 0, .int (-1)]))] sz)) 0 0 (va_A [(h0, .inr (8, [.ref h1, .int 0, .int 0, .int (-1)]))] sz) := by
  refine Met.ofW (cc := cX8_takes) (maxL := 2) (ret := (some .boolean)) (by decide) rfl ?_
  intro p e s m args below meth c s₁ B hml hv
  obtain ⟨rfl, hsz, hP, hK, hD0, hN⟩ := hv
  have hx := B.exec
  have hb := B.bytes
  have hr := B.returns
  have hts := atoms_spec (ws := wsX8_takes) B.pre
  have hown : s.vm.findClass RX8 = some m.cls := findClass_of_methodNamed B.named
  have hlocks := B.notSynchronized
  subst hsz
  have hD := hD0.self (sz := s.heap.size)
  generalize hAe : va_A [(h0, .inr (8, [.ref h1, .int 0, .int 0, .int (-1)]))] s.heap.size = A at hD ⊢
  have hA : ∀ q : Nat, s.heap.size ≤ q → A q := fun q h => by rw [← hAe]; exact Or.inr h
  have hP : va_P (dC, dI) classes [(h0, .inr (8, [.ref h1, .int 0, .int 0, .int (-1)]))] s.heap := hP
  have hl := lv_entry ([.ref h0, .int 121]) (n := 2) (Nat.le_of_ble_eq_true rfl)
  rw [lg_entry_eq]
  generalize (lg_sl ([.ref h0, .int 121]) ++ List.replicate (2 - (lg_sl ([.ref h0, .int 121])).length) Slot.unset).toArray = ls at hl ⊢
  have hl : lv_has ls 2 [(0, .ref h0), (1, .int 121)] := hl
  refine zw_start (fun H eH => ?_)
  have hP : va_P (dC, dI) classes [(h0, .inr (8, [.ref h1, .int 0, .int 0, .int (-1)]))] H := by rw [eH]; exact hP
  have hS : va_S A s.heap H [] := by rw [eH]; exact va_S.rf
  refine lv_aload_n hx hb dX8_takes_0 rfl (lv_at hl 0 rfl) ?_
  have hPc := hP.sub (ws' := [(h0, .inr (8, [.ref h1, .int 0, .int 0, .int (-1)]))]) [0] rfl
  have hDc := hD.sub (ws' := [(h0, .inr (8, [.ref h1, .int 0, .int 0, .int (-1)]))]) [0] (by decide) rfl
  have hKc := hK.sub (tys' := []) [] rfl
  have hFc := va_free (wc := [(h0, .inr (8, [.ref h1, .int 0, .int 0, .int (-1)]))]) hD hS hA [0] rfl
  refine va_calli (va_runV (As := []) (rest := []) ⟨hx, hb, hml, hown, hts⟩ (zk_X8_peek l dC dI (h0) (h1) H.size) (cwV 0 hts gX8_takes_X8_peek rfl rfl rfl (by decide +kernel) ⟨Nat.le_of_ble_eq_true rfl, Nat.le_of_ble_eq_true rfl⟩) ⟨zw_blind, va_recv hK hP (ci := 8) (q0 := 0) rfl rfl, fun U hU hW => ⟨rfl, zw_P.of hPc hKc hDc hN U hU hW⟩⟩ rfl rfl hl.1 rfl (lv_room (Nat.le_of_ble_eq_true rfl)) dX8_takes_1 ⟨Nat.le_of_ble_eq_true rfl, Nat.le_of_ble_eq_true rfl⟩) hS (fun q _ h => hFc q h) hFc (fun r_1 u t H1 locs ht hvm hw hB hz1 hk1 hS => ?_)
  obtain ⟨hP1, hK1, hD1⟩ := hB
  rw [ht] at hP1
  obtain ⟨hP, hD⟩ := va_join (wr := []) (w1 := [(h0, .inr (8, [.ref h1, .int 0, .int 0, .int (-1)]))]) hP hD [0] [] rfl rfl (by decide) (by decide) hk1 hFc hP1 hD1
  generalize H1 = H at hP hS ⊢
  have hP : va_P (dC, dI) classes [(h0, .inr (8, [.ref h1, .int 0, .int 0, .int (-1)]))] H := hP
  have hD : va_D A [(h0, .inr (8, [.ref h1, .int 0, .int 0, .int (-1)]))] := hD
  obtain rfl : r_1 = (-1) := hw
  refine lv_iload_n hx hb dX8_takes_4 rfl (lv_at hl 1 rfl) ?_
  refine lv_icmp_eq (tgt := 10) hx hb dX8_takes_5 (by decide) (fun c9 => absurd c9 (by decide)) (fun _ => ?_)
  refine lv_iconst (v := 0) hx hb dX8_takes_8 (by decide) ?_
  have hP9 := hP.sub (ws' := [(h0, .inr (8, [.ref h1, .int 0, .int 0, .int (-1)]))]) [0] rfl
  have hD9 := hD.sub (ws' := [(h0, .inr (8, [.ref h1, .int 0, .int 0, .int (-1)]))]) [0] (by decide) rfl
  have hK9 := hK.sub (tys' := []) [] rfl
  refine W.widen (k := 0) (n := 0) (Nat.le_of_ble_eq_true rfl) (Nat.le_of_ble_eq_true rfl) ?_
  exact W.zret (v := 0) hx hb hr rfl (fun t ht hW => ⟨⟨0, (), rfl, rfl, by rw [ht]; exact hP9, va_K.moved hW.alike hK9, hD9⟩, hS.F ht⟩) hS.2.2 dX8_takes_9
set_option maxHeartbeats 8000000 in
set_option maxRecDepth 100000 in
theorem zk_X8_need (l : Launch) (dC : Nat → ClassId) (dI : Nat → Nat → Nat) (h0 : Nat) (h1 : Nat) (sz : Nat) : Met l yX8_need wsX8_need ({ frames := 2, cells := 0, slots := 0, locals := 41 }) (va_Pc [.ref h0, .int 121] (zw_P dC dI sz [] [(h0, .inr (8, [.ref h1, .int 0, .int 0, .int (-1)]))])) (va_Qv (fun (_ : Unit) => True) (fun (_ : Unit) (t : State) => zw_Q dC dI (va_A [(h0, .inr (8, [.ref h1, .int 0, .int 0, .int (-1)]))] sz) [] [(h0, .inr (8, [.ref h1, .int 0, .int 0, .int 0]))] t) (va_A [(h0, .inr (8, [.ref h1, .int 0, .int 0, .int (-1)]))] sz)) 0 0 (va_A [(h0, .inr (8, [.ref h1, .int 0, .int 0, .int (-1)]))] sz) := by
  refine Met.ofW (cc := cX8_need) (maxL := 2) (ret := none) (by decide) rfl ?_
  intro p e s m args below meth c s₁ B hml hv
  obtain ⟨rfl, hsz, hP, hK, hD0, hN⟩ := hv
  have hx := B.exec
  have hb := B.bytes
  have hr := B.returns
  have hts := atoms_spec (ws := wsX8_need) B.pre
  have hown : s.vm.findClass RX8 = some m.cls := findClass_of_methodNamed B.named
  have hlocks := B.notSynchronized
  subst hsz
  have hD := hD0.self (sz := s.heap.size)
  generalize hAe : va_A [(h0, .inr (8, [.ref h1, .int 0, .int 0, .int (-1)]))] s.heap.size = A at hD ⊢
  have hA : ∀ q : Nat, s.heap.size ≤ q → A q := fun q h => by rw [← hAe]; exact Or.inr h
  have hP : va_P (dC, dI) classes [(h0, .inr (8, [.ref h1, .int 0, .int 0, .int (-1)]))] s.heap := hP
  have hl := lv_entry ([.ref h0, .int 121]) (n := 2) (Nat.le_of_ble_eq_true rfl)
  rw [lg_entry_eq]
  generalize (lg_sl ([.ref h0, .int 121]) ++ List.replicate (2 - (lg_sl ([.ref h0, .int 121])).length) Slot.unset).toArray = ls at hl ⊢
  have hl : lv_has ls 2 [(0, .ref h0), (1, .int 121)] := hl
  refine zw_start (fun H eH => ?_)
  have hP : va_P (dC, dI) classes [(h0, .inr (8, [.ref h1, .int 0, .int 0, .int (-1)]))] H := by rw [eH]; exact hP
  have hS : va_S A s.heap H [] := by rw [eH]; exact va_S.rf
  refine lv_aload_n hx hb dX8_need_0 rfl (lv_at hl 0 rfl) ?_
  refine lv_iload_n hx hb dX8_need_1 rfl (lv_at hl 1 rfl) ?_
  have hPc := hP.sub (ws' := [(h0, .inr (8, [.ref h1, .int 0, .int 0, .int (-1)]))]) [0] rfl
  have hDc := hD.sub (ws' := [(h0, .inr (8, [.ref h1, .int 0, .int 0, .int (-1)]))]) [0] (by decide) rfl
  have hKc := hK.sub (tys' := []) [] rfl
  have hFc := va_free (wc := [(h0, .inr (8, [.ref h1, .int 0, .int 0, .int (-1)]))]) hD hS hA [0] rfl
  refine va_calli (va_runV (As := [.int 121]) (rest := []) ⟨hx, hb, hml, hown, hts⟩ (zk_X8_takes_3 l dC dI (h0) (h1) H.size) (cwV 1 hts gX8_need_X8_takes rfl rfl rfl (by decide +kernel) ⟨Nat.le_of_ble_eq_true rfl, Nat.le_of_ble_eq_true rfl⟩) ⟨zw_blind, va_recv hK hP (ci := 8) (q0 := 0) rfl rfl, fun U hU hW => ⟨rfl, zw_P.of hPc hKc hDc hN U hU hW⟩⟩ rfl rfl hl.1 rfl (lv_room (Nat.le_of_ble_eq_true rfl)) dX8_need_2 ⟨Nat.le_of_ble_eq_true rfl, Nat.le_of_ble_eq_true rfl⟩) hS (fun q _ h => hFc q h) hFc (fun r_1 u t H1 locs ht hvm hw hB hz1 hk1 hS => ?_)
  obtain ⟨hP1, hK1, hD1⟩ := hB
  rw [ht] at hP1
  obtain ⟨hP, hD⟩ := va_join (wr := []) (w1 := [(h0, .inr (8, [.ref h1, .int 0, .int 0, .int (-1)]))]) hP hD [0] [] rfl rfl (by decide) (by decide) hk1 hFc hP1 hD1
  generalize H1 = H at hP hS ⊢
  have hP : va_P (dC, dI) classes [(h0, .inr (8, [.ref h1, .int 0, .int 0, .int (-1)]))] H := hP
  have hD : va_D A [(h0, .inr (8, [.ref h1, .int 0, .int 0, .int (-1)]))] := hD
  obtain rfl : r_1 = 0 := hw
  refine lv_if_ne (tgt := 12) hx hb dX8_need_5 (by decide) (fun c9 => absurd (by decide) c9) (fun _ => ?_)
  refine lv_aload_n hx hb dX8_need_8 rfl (lv_at hl 0 rfl) ?_
  have hPc := hP.sub (ws' := [(h0, .inr (8, [.ref h1, .int 0, .int 0, .int (-1)]))]) [0] rfl
  have hDc := hD.sub (ws' := [(h0, .inr (8, [.ref h1, .int 0, .int 0, .int (-1)]))]) [0] (by decide) rfl
  have hKc := hK.sub (tys' := []) [] rfl
  have hFc := va_free (wc := [(h0, .inr (8, [.ref h1, .int 0, .int 0, .int (-1)]))]) hD hS hA [0] rfl
  refine va_callv (va_runV (As := []) (rest := []) ⟨hx, hb, hml, hown, hts⟩ (zk_X8_fail l dC dI (h0) (h1) H.size) (cwV 0 hts gX8_need_X8_fail rfl rfl rfl (by decide +kernel) ⟨Nat.le_of_ble_eq_true rfl, Nat.le_of_ble_eq_true rfl⟩) ⟨zw_blind, va_recv hK hP (ci := 8) (q0 := 0) rfl rfl, fun U hU hW => ⟨rfl, zw_P.of hPc hKc hDc hN U hU hW⟩⟩ rfl rfl hl.1 rfl (lv_room (Nat.le_of_ble_eq_true rfl)) dX8_need_9 ⟨Nat.le_of_ble_eq_true rfl, Nat.le_of_ble_eq_true rfl⟩) hS (fun q _ h => hFc q h) hFc (fun u t H1 locs ht hvm hw hB hz1 hk1 hS => ?_)
  obtain ⟨hP1, hK1, hD1⟩ := hB
  rw [ht] at hP1
  obtain ⟨hP, hD⟩ := va_join (wr := []) (w1 := [(h0, .inr (8, [.ref h1, .int 0, .int 0, .int 0]))]) hP hD [0] [] rfl rfl (by decide) (by decide) hk1 hFc hP1 hD1
  generalize H1 = H at hP hS ⊢
  have hP : va_P (dC, dI) classes [(h0, .inr (8, [.ref h1, .int 0, .int 0, .int 0]))] H := hP
  have hD : va_D A [(h0, .inr (8, [.ref h1, .int 0, .int 0, .int 0]))] := hD
  have hP9 := hP.sub (ws' := [(h0, .inr (8, [.ref h1, .int 0, .int 0, .int 0]))]) [0] rfl
  have hD9 := hD.sub (ws' := [(h0, .inr (8, [.ref h1, .int 0, .int 0, .int 0]))]) [0] (by decide) rfl
  have hK9 := hK.sub (tys' := []) [] rfl
  refine W.widen (k := 0) (n := 0) (Nat.le_of_ble_eq_true rfl) (Nat.le_of_ble_eq_true rfl) ?_
  exact W.vret hx hb hr (fun t ht hW => ⟨⟨(), rfl, trivial, by rw [ht]; exact hP9, va_K.moved hW.alike hK9, hD9⟩, hS.F ht⟩) hS.2.2 dX8_need_12
set_option maxHeartbeats 8000000 in
set_option maxRecDepth 100000 in
theorem zk_X8_takes_4 (l : Launch) (dC : Nat → ClassId) (dI : Nat → Nat → Nat) (h0 : Nat) (h1 : Nat) (sz : Nat) : Met l yX8_takes wsX8_takes ({ frames := 1, cells := 0, slots := 0, locals := 20 }) (va_Pc [.ref h0, .int 58] (zw_P dC dI sz [] [(h0, .inr (8, [.ref h1, .int 0, .int 0, .int 0]))])) (va_Qi (fun (r : Int32) (_ : Unit) => r = 0) (fun (_ : Unit) (t : State) => zw_Q dC dI (va_A [(h0, .inr (8, [.ref h1, .int 0, .int 0, .int 0]))] sz) [] [(h0, .inr (8, [.ref h1, .int 0, .int 0, .int 0]))] t) (va_A [(h0, .inr (8, [.ref h1, .int 0, .int 0, .int 0]))] sz)) 0 0 (va_A [(h0, .inr (8, [.ref h1, .int 0, .int 0, .int 0]))] sz) := by
  refine Met.ofW (cc := cX8_takes) (maxL := 2) (ret := (some .boolean)) (by decide) rfl ?_
  intro p e s m args below meth c s₁ B hml hv
  obtain ⟨rfl, hsz, hP, hK, hD0, hN⟩ := hv
  have hx := B.exec
  have hb := B.bytes
  have hr := B.returns
  have hts := atoms_spec (ws := wsX8_takes) B.pre
  have hown : s.vm.findClass RX8 = some m.cls := findClass_of_methodNamed B.named
  have hlocks := B.notSynchronized
  subst hsz
  have hD := hD0.self (sz := s.heap.size)
  generalize hAe : va_A [(h0, .inr (8, [.ref h1, .int 0, .int 0, .int 0]))] s.heap.size = A at hD ⊢
  have hA : ∀ q : Nat, s.heap.size ≤ q → A q := fun q h => by rw [← hAe]; exact Or.inr h
  have hP : va_P (dC, dI) classes [(h0, .inr (8, [.ref h1, .int 0, .int 0, .int 0]))] s.heap := hP
  have hl := lv_entry ([.ref h0, .int 58]) (n := 2) (Nat.le_of_ble_eq_true rfl)
  rw [lg_entry_eq]
  generalize (lg_sl ([.ref h0, .int 58]) ++ List.replicate (2 - (lg_sl ([.ref h0, .int 58])).length) Slot.unset).toArray = ls at hl ⊢
  have hl : lv_has ls 2 [(0, .ref h0), (1, .int 58)] := hl
  refine zw_start (fun H eH => ?_)
  have hP : va_P (dC, dI) classes [(h0, .inr (8, [.ref h1, .int 0, .int 0, .int 0]))] H := by rw [eH]; exact hP
  have hS : va_S A s.heap H [] := by rw [eH]; exact va_S.rf
  refine lv_aload_n hx hb dX8_takes_0 rfl (lv_at hl 0 rfl) ?_
  have hPc := hP.sub (ws' := [(h0, .inr (8, [.ref h1, .int 0, .int 0, .int 0]))]) [0] rfl
  have hDc := hD.sub (ws' := [(h0, .inr (8, [.ref h1, .int 0, .int 0, .int 0]))]) [0] (by decide) rfl
  have hKc := hK.sub (tys' := []) [] rfl
  have hFc := va_free (wc := [(h0, .inr (8, [.ref h1, .int 0, .int 0, .int 0]))]) hD hS hA [0] rfl
  refine va_calli (va_runV (As := []) (rest := []) ⟨hx, hb, hml, hown, hts⟩ (zk_X8_peek_1 l dC dI (h0) (h1) H.size) (cwV 0 hts gX8_takes_X8_peek rfl rfl rfl (by decide +kernel) ⟨Nat.le_of_ble_eq_true rfl, Nat.le_of_ble_eq_true rfl⟩) ⟨zw_blind, va_recv hK hP (ci := 8) (q0 := 0) rfl rfl, fun U hU hW => ⟨rfl, zw_P.of hPc hKc hDc hN U hU hW⟩⟩ rfl rfl hl.1 rfl (lv_room (Nat.le_of_ble_eq_true rfl)) dX8_takes_1 ⟨Nat.le_of_ble_eq_true rfl, Nat.le_of_ble_eq_true rfl⟩) hS (fun q _ h => hFc q h) hFc (fun r_1 u t H1 locs ht hvm hw hB hz1 hk1 hS => ?_)
  obtain ⟨hP1, hK1, hD1⟩ := hB
  rw [ht] at hP1
  obtain ⟨hP, hD⟩ := va_join (wr := []) (w1 := [(h0, .inr (8, [.ref h1, .int 0, .int 0, .int 0]))]) hP hD [0] [] rfl rfl (by decide) (by decide) hk1 hFc hP1 hD1
  generalize H1 = H at hP hS ⊢
  have hP : va_P (dC, dI) classes [(h0, .inr (8, [.ref h1, .int 0, .int 0, .int 0]))] H := hP
  have hD : va_D A [(h0, .inr (8, [.ref h1, .int 0, .int 0, .int 0]))] := hD
  obtain rfl : r_1 = (-1) := hw
  refine lv_iload_n hx hb dX8_takes_4 rfl (lv_at hl 1 rfl) ?_
  refine lv_icmp_eq (tgt := 10) hx hb dX8_takes_5 (by decide) (fun c9 => absurd c9 (by decide)) (fun _ => ?_)
  refine lv_iconst (v := 0) hx hb dX8_takes_8 (by decide) ?_
  have hP9 := hP.sub (ws' := [(h0, .inr (8, [.ref h1, .int 0, .int 0, .int 0]))]) [0] rfl
  have hD9 := hD.sub (ws' := [(h0, .inr (8, [.ref h1, .int 0, .int 0, .int 0]))]) [0] (by decide) rfl
  have hK9 := hK.sub (tys' := []) [] rfl
  refine W.widen (k := 0) (n := 0) (Nat.le_of_ble_eq_true rfl) (Nat.le_of_ble_eq_true rfl) ?_
  exact W.zret (v := 0) hx hb hr rfl (fun t ht hW => ⟨⟨0, (), rfl, rfl, by rw [ht]; exact hP9, va_K.moved hW.alike hK9, hD9⟩, hS.F ht⟩) hS.2.2 dX8_takes_9
set_option maxHeartbeats 8000000 in
set_option maxRecDepth 100000 in
theorem zk_X8_need_1 (l : Launch) (dC : Nat → ClassId) (dI : Nat → Nat → Nat) (h0 : Nat) (h1 : Nat) (sz : Nat) : Met l yX8_need wsX8_need ({ frames := 2, cells := 0, slots := 0, locals := 41 }) (va_Pc [.ref h0, .int 58] (zw_P dC dI sz [] [(h0, .inr (8, [.ref h1, .int 0, .int 0, .int 0]))])) (va_Qv (fun (_ : Unit) => True) (fun (_ : Unit) (t : State) => zw_Q dC dI (va_A [(h0, .inr (8, [.ref h1, .int 0, .int 0, .int 0]))] sz) [] [(h0, .inr (8, [.ref h1, .int 0, .int 0, .int 0]))] t) (va_A [(h0, .inr (8, [.ref h1, .int 0, .int 0, .int 0]))] sz)) 0 0 (va_A [(h0, .inr (8, [.ref h1, .int 0, .int 0, .int 0]))] sz) := by
  refine Met.ofW (cc := cX8_need) (maxL := 2) (ret := none) (by decide) rfl ?_
  intro p e s m args below meth c s₁ B hml hv
  obtain ⟨rfl, hsz, hP, hK, hD0, hN⟩ := hv
  have hx := B.exec
  have hb := B.bytes
  have hr := B.returns
  have hts := atoms_spec (ws := wsX8_need) B.pre
  have hown : s.vm.findClass RX8 = some m.cls := findClass_of_methodNamed B.named
  have hlocks := B.notSynchronized
  subst hsz
  have hD := hD0.self (sz := s.heap.size)
  generalize hAe : va_A [(h0, .inr (8, [.ref h1, .int 0, .int 0, .int 0]))] s.heap.size = A at hD ⊢
  have hA : ∀ q : Nat, s.heap.size ≤ q → A q := fun q h => by rw [← hAe]; exact Or.inr h
  have hP : va_P (dC, dI) classes [(h0, .inr (8, [.ref h1, .int 0, .int 0, .int 0]))] s.heap := hP
  have hl := lv_entry ([.ref h0, .int 58]) (n := 2) (Nat.le_of_ble_eq_true rfl)
  rw [lg_entry_eq]
  generalize (lg_sl ([.ref h0, .int 58]) ++ List.replicate (2 - (lg_sl ([.ref h0, .int 58])).length) Slot.unset).toArray = ls at hl ⊢
  have hl : lv_has ls 2 [(0, .ref h0), (1, .int 58)] := hl
  refine zw_start (fun H eH => ?_)
  have hP : va_P (dC, dI) classes [(h0, .inr (8, [.ref h1, .int 0, .int 0, .int 0]))] H := by rw [eH]; exact hP
  have hS : va_S A s.heap H [] := by rw [eH]; exact va_S.rf
  refine lv_aload_n hx hb dX8_need_0 rfl (lv_at hl 0 rfl) ?_
  refine lv_iload_n hx hb dX8_need_1 rfl (lv_at hl 1 rfl) ?_
  have hPc := hP.sub (ws' := [(h0, .inr (8, [.ref h1, .int 0, .int 0, .int 0]))]) [0] rfl
  have hDc := hD.sub (ws' := [(h0, .inr (8, [.ref h1, .int 0, .int 0, .int 0]))]) [0] (by decide) rfl
  have hKc := hK.sub (tys' := []) [] rfl
  have hFc := va_free (wc := [(h0, .inr (8, [.ref h1, .int 0, .int 0, .int 0]))]) hD hS hA [0] rfl
  refine va_calli (va_runV (As := [.int 58]) (rest := []) ⟨hx, hb, hml, hown, hts⟩ (zk_X8_takes_4 l dC dI (h0) (h1) H.size) (cwV 1 hts gX8_need_X8_takes rfl rfl rfl (by decide +kernel) ⟨Nat.le_of_ble_eq_true rfl, Nat.le_of_ble_eq_true rfl⟩) ⟨zw_blind, va_recv hK hP (ci := 8) (q0 := 0) rfl rfl, fun U hU hW => ⟨rfl, zw_P.of hPc hKc hDc hN U hU hW⟩⟩ rfl rfl hl.1 rfl (lv_room (Nat.le_of_ble_eq_true rfl)) dX8_need_2 ⟨Nat.le_of_ble_eq_true rfl, Nat.le_of_ble_eq_true rfl⟩) hS (fun q _ h => hFc q h) hFc (fun r_1 u t H1 locs ht hvm hw hB hz1 hk1 hS => ?_)
  obtain ⟨hP1, hK1, hD1⟩ := hB
  rw [ht] at hP1
  obtain ⟨hP, hD⟩ := va_join (wr := []) (w1 := [(h0, .inr (8, [.ref h1, .int 0, .int 0, .int 0]))]) hP hD [0] [] rfl rfl (by decide) (by decide) hk1 hFc hP1 hD1
  generalize H1 = H at hP hS ⊢
  have hP : va_P (dC, dI) classes [(h0, .inr (8, [.ref h1, .int 0, .int 0, .int 0]))] H := hP
  have hD : va_D A [(h0, .inr (8, [.ref h1, .int 0, .int 0, .int 0]))] := hD
  obtain rfl : r_1 = 0 := hw
  refine lv_if_ne (tgt := 12) hx hb dX8_need_5 (by decide) (fun c9 => absurd (by decide) c9) (fun _ => ?_)
  refine lv_aload_n hx hb dX8_need_8 rfl (lv_at hl 0 rfl) ?_
  have hPc := hP.sub (ws' := [(h0, .inr (8, [.ref h1, .int 0, .int 0, .int 0]))]) [0] rfl
  have hDc := hD.sub (ws' := [(h0, .inr (8, [.ref h1, .int 0, .int 0, .int 0]))]) [0] (by decide) rfl
  have hKc := hK.sub (tys' := []) [] rfl
  have hFc := va_free (wc := [(h0, .inr (8, [.ref h1, .int 0, .int 0, .int 0]))]) hD hS hA [0] rfl
  refine va_callv (va_runV (As := []) (rest := []) ⟨hx, hb, hml, hown, hts⟩ (zk_X8_fail_1 l dC dI (h0) (h1) H.size) (cwV 0 hts gX8_need_X8_fail rfl rfl rfl (by decide +kernel) ⟨Nat.le_of_ble_eq_true rfl, Nat.le_of_ble_eq_true rfl⟩) ⟨zw_blind, va_recv hK hP (ci := 8) (q0 := 0) rfl rfl, fun U hU hW => ⟨rfl, zw_P.of hPc hKc hDc hN U hU hW⟩⟩ rfl rfl hl.1 rfl (lv_room (Nat.le_of_ble_eq_true rfl)) dX8_need_9 ⟨Nat.le_of_ble_eq_true rfl, Nat.le_of_ble_eq_true rfl⟩) hS (fun q _ h => hFc q h) hFc (fun u t H1 locs ht hvm hw hB hz1 hk1 hS => ?_)
  obtain ⟨hP1, hK1, hD1⟩ := hB
  rw [ht] at hP1
  obtain ⟨hP, hD⟩ := va_join (wr := []) (w1 := [(h0, .inr (8, [.ref h1, .int 0, .int 0, .int 0]))]) hP hD [0] [] rfl rfl (by decide) (by decide) hk1 hFc hP1 hD1
  generalize H1 = H at hP hS ⊢
  have hP : va_P (dC, dI) classes [(h0, .inr (8, [.ref h1, .int 0, .int 0, .int 0]))] H := hP
  have hD : va_D A [(h0, .inr (8, [.ref h1, .int 0, .int 0, .int 0]))] := hD
  have hP9 := hP.sub (ws' := [(h0, .inr (8, [.ref h1, .int 0, .int 0, .int 0]))]) [0] rfl
  have hD9 := hD.sub (ws' := [(h0, .inr (8, [.ref h1, .int 0, .int 0, .int 0]))]) [0] (by decide) rfl
  have hK9 := hK.sub (tys' := []) [] rfl
  refine W.widen (k := 0) (n := 0) (Nat.le_of_ble_eq_true rfl) (Nat.le_of_ble_eq_true rfl) ?_
  exact W.vret hx hb hr (fun t ht hW => ⟨⟨(), rfl, trivial, by rw [ht]; exact hP9, va_K.moved hW.alike hK9, hD9⟩, hS.F ht⟩) hS.2.2 dX8_need_12
