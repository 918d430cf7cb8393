theorem zi_X11_init_X8 : ∀ w ∈ wsX80, w ∈ wsX11_init := by decide +kernel
theorem zi_X8_init_X8 : ∀ w ∈ wsX80, w ∈ wsX8_init := by decide +kernel
theorem zi_X11_init_X11 : ∀ w ∈ wsX110, w ∈ wsX11_init := by decide +kernel
theorem zi_X11_init_X6 : ∀ w ∈ wsX60, w ∈ wsX11_init := by decide +kernel
theorem zi_X6_init_X6 : ∀ w ∈ wsX60, w ∈ wsX6_init := by decide +kernel
theorem zi_X6_init_X1 : ∀ w ∈ wsX10, w ∈ wsX6_init := by decide +kernel
theorem zi_X1_init_X1 : ∀ w ∈ wsX10, w ∈ wsX1_init := by decide +kernel
theorem zi_X6_init_X3 : ∀ w ∈ wsX30, w ∈ wsX6_init := by decide +kernel
theorem zi_X6_init_X0 : ∀ w ∈ wsX00, w ∈ wsX6_init := by decide +kernel
theorem zi_X0_init_X0 : ∀ w ∈ wsX00, w ∈ wsX0_init := by decide +kernel
theorem zi_X11_init_X4 : ∀ w ∈ wsX40, w ∈ wsX11_init := by decide +kernel
theorem zi_X4_init_X4 : ∀ w ∈ wsX40, w ∈ wsX4_init := by decide +kernel
theorem zi_X4_init_X3 : ∀ w ∈ wsX30, w ∈ wsX4_init := by decide +kernel
theorem zi_X11_init_X10 : ∀ w ∈ wsX100, w ∈ wsX11_init := by decide +kernel
theorem zi_X10_init_X10 : ∀ w ∈ wsX100, w ∈ wsX10_init := by decide +kernel
theorem zi_X10_init_X3 : ∀ w ∈ wsX30, w ∈ wsX10_init := by decide +kernel
theorem zi_X11_init_X9 : ∀ w ∈ wsX90, w ∈ wsX11_init := by decide +kernel
theorem zi_X9_init_X9 : ∀ w ∈ wsX90, w ∈ wsX9_init := by decide +kernel
theorem zi_X9_init_X0 : ∀ w ∈ wsX00, w ∈ wsX9_init := by decide +kernel
theorem zi_X11_init_X5 : ∀ w ∈ wsX50, w ∈ wsX11_init := by decide +kernel
theorem zi_X5_init_X5 : ∀ w ∈ wsX50, w ∈ wsX5_init := by decide +kernel
theorem zi_X5_init_X4 : ∀ w ∈ wsX40, w ∈ wsX5_init := by decide +kernel
theorem zi_X11_init_X7 : ∀ w ∈ wsX70, w ∈ wsX11_init := by decide +kernel
theorem zi_X11_init_X0 : ∀ w ∈ wsX00, w ∈ wsX11_init := by decide +kernel
theorem zi_X11_init_X1 : ∀ w ∈ wsX10, w ∈ wsX11_init := by decide +kernel
theorem zi_X11_init_X2 : ∀ w ∈ wsX20, w ∈ wsX11_init := by decide +kernel
theorem zi_X2_init_X2 : ∀ w ∈ wsX20, w ∈ wsX2_init := by decide +kernel
theorem dX8_init_0 : decode cX8_init 0 = .ok (.aload_n 0, 1) := by decide +kernel
theorem dX8_init_1 : decode cX8_init 1 = .ok (.invokespecial 3, 3) := by decide +kernel
theorem dX8_init_4 : decode cX8_init 4 = .ok (.aload_n 0, 1) := by decide +kernel
theorem dX8_init_5 : decode cX8_init 5 = .ok (.sipush 160, 3) := by decide +kernel
theorem dX8_init_8 : decode cX8_init 8 = .ok (.newarray .int, 2) := by decide +kernel
theorem dX8_init_10 : decode cX8_init 10 = .ok (.putfield 9, 3) := by decide +kernel
theorem dX8_init_13 : decode cX8_init 13 = .ok (.aload_n 0, 1) := by decide +kernel
theorem dX8_init_14 : decode cX8_init 14 = .ok (.iconst 0, 1) := by decide +kernel
theorem dX8_init_15 : decode cX8_init 15 = .ok (.putfield 15, 3) := by decide +kernel
theorem dX8_init_18 : decode cX8_init 18 = .ok (.aload_n 0, 1) := by decide +kernel
theorem dX8_init_19 : decode cX8_init 19 = .ok (.iconst 0, 1) := by decide +kernel
theorem dX8_init_20 : decode cX8_init 20 = .ok (.putfield 19, 3) := by decide +kernel
theorem dX8_init_23 : decode cX8_init 23 = .ok (.aload_n 0, 1) := by decide +kernel
theorem dX8_init_24 : decode cX8_init 24 = .ok (.iconst (-1), 1) := by decide +kernel
theorem dX8_init_25 : decode cX8_init 25 = .ok (.putfield 22, 3) := by decide +kernel
theorem dX8_init_28 : decode cX8_init 28 = .ok (.return_, 1) := by decide +kernel
theorem dX1_init_0 : decode cX1_init 0 = .ok (.aload_n 0, 1) := by decide +kernel
theorem dX1_init_1 : decode cX1_init 1 = .ok (.invokespecial 3, 3) := by decide +kernel
theorem dX1_init_4 : decode cX1_init 4 = .ok (.aload_n 0, 1) := by decide +kernel
theorem dX1_init_5 : decode cX1_init 5 = .ok (.sipush 160, 3) := by decide +kernel
theorem dX1_init_8 : decode cX1_init 8 = .ok (.newarray .int, 2) := by decide +kernel
theorem dX1_init_10 : decode cX1_init 10 = .ok (.putfield 9, 3) := by decide +kernel
theorem dX1_init_13 : decode cX1_init 13 = .ok (.aload_n 0, 1) := by decide +kernel
theorem dX1_init_14 : decode cX1_init 14 = .ok (.bipush 64, 2) := by decide +kernel
theorem dX1_init_16 : decode cX1_init 16 = .ok (.newarray .int, 2) := by decide +kernel
theorem dX1_init_18 : decode cX1_init 18 = .ok (.putfield 15, 3) := by decide +kernel
theorem dX1_init_21 : decode cX1_init 21 = .ok (.aload_n 0, 1) := by decide +kernel
theorem dX1_init_22 : decode cX1_init 22 = .ok (.iconst 0, 1) := by decide +kernel
theorem dX1_init_23 : decode cX1_init 23 = .ok (.putfield 18, 3) := by decide +kernel
theorem dX1_init_26 : decode cX1_init 26 = .ok (.aload_n 0, 1) := by decide +kernel
theorem dX1_init_27 : decode cX1_init 27 = .ok (.iconst 0, 1) := by decide +kernel
theorem dX1_init_28 : decode cX1_init 28 = .ok (.putfield 22, 3) := by decide +kernel
theorem dX1_init_31 : decode cX1_init 31 = .ok (.return_, 1) := by decide +kernel
theorem dX3_init_0 : decode cX3_init 0 = .ok (.aload_n 0, 1) := by decide +kernel
theorem dX3_init_1 : decode cX3_init 1 = .ok (.invokespecial 3, 3) := by decide +kernel
theorem dX3_init_4 : decode cX3_init 4 = .ok (.return_, 1) := by decide +kernel
theorem dX0_init_0 : decode cX0_init 0 = .ok (.aload_n 0, 1) := by decide +kernel
theorem dX0_init_1 : decode cX0_init 1 = .ok (.invokespecial 3, 3) := by decide +kernel
theorem dX0_init_4 : decode cX0_init 4 = .ok (.aload_n 0, 1) := by decide +kernel
theorem dX0_init_5 : decode cX0_init 5 = .ok (.bipush 9, 2) := by decide +kernel
theorem dX0_init_7 : decode cX0_init 7 = .ok (.newarray .int, 2) := by decide +kernel
theorem dX0_init_9 : decode cX0_init 9 = .ok (.putfield 9, 3) := by decide +kernel
theorem dX0_init_12 : decode cX0_init 12 = .ok (.aload_n 0, 1) := by decide +kernel
theorem dX0_init_13 : decode cX0_init 13 = .ok (.iconst 2, 1) := by decide +kernel
theorem dX0_init_14 : decode cX0_init 14 = .ok (.newarray .int, 2) := by decide +kernel
theorem dX0_init_16 : decode cX0_init 16 = .ok (.putfield 15, 3) := by decide +kernel
theorem dX0_init_19 : decode cX0_init 19 = .ok (.aload_n 0, 1) := by decide +kernel
theorem dX0_init_20 : decode cX0_init 20 = .ok (.iconst 0, 1) := by decide +kernel
theorem dX0_init_21 : decode cX0_init 21 = .ok (.putfield 18, 3) := by decide +kernel
theorem dX0_init_24 : decode cX0_init 24 = .ok (.aload_n 0, 1) := by decide +kernel
theorem dX0_init_25 : decode cX0_init 25 = .ok (.iconst 0, 1) := by decide +kernel
theorem dX0_init_26 : decode cX0_init 26 = .ok (.putfield 22, 3) := by decide +kernel
theorem dX0_init_29 : decode cX0_init 29 = .ok (.aload_n 0, 1) := by decide +kernel
theorem dX0_init_30 : decode cX0_init 30 = .ok (.iconst 0, 1) := by decide +kernel
theorem dX0_init_31 : decode cX0_init 31 = .ok (.putfield 25, 3) := by decide +kernel
theorem dX0_init_34 : decode cX0_init 34 = .ok (.aload_n 0, 1) := by decide +kernel
theorem dX0_init_35 : decode cX0_init 35 = .ok (.iconst 0, 1) := by decide +kernel
theorem dX0_init_36 : decode cX0_init 36 = .ok (.putfield 29, 3) := by decide +kernel
theorem dX0_init_39 : decode cX0_init 39 = .ok (.aload_n 0, 1) := by decide +kernel
theorem dX0_init_40 : decode cX0_init 40 = .ok (.iconst 0, 1) := by decide +kernel
theorem dX0_init_41 : decode cX0_init 41 = .ok (.putfield 32, 3) := by decide +kernel
theorem dX0_init_44 : decode cX0_init 44 = .ok (.return_, 1) := by decide +kernel
theorem dX6_init_0 : decode cX6_init 0 = .ok (.aload_n 0, 1) := by decide +kernel
theorem dX6_init_1 : decode cX6_init 1 = .ok (.invokespecial 3, 3) := by decide +kernel
theorem dX6_init_4 : decode cX6_init 4 = .ok (.aload_n 0, 1) := by decide +kernel
theorem dX6_init_5 : decode cX6_init 5 = .ok (.iconst 4, 1) := by decide +kernel
theorem dX6_init_6 : decode cX6_init 6 = .ok (.anewarray 9, 3) := by decide +kernel
theorem dX6_init_9 : decode cX6_init 9 = .ok (.putfield 11, 3) := by decide +kernel
theorem dX6_init_12 : decode cX6_init 12 = .ok (.iconst 0, 1) := by decide +kernel
theorem dX6_init_13 : decode cX6_init 13 = .ok (.istore_n 1, 1) := by decide +kernel
theorem dX6_init_14 : decode cX6_init 14 = .ok (.iload_n 1, 1) := by decide +kernel
theorem dX6_init_15 : decode cX6_init 15 = .ok (.iconst 4, 1) := by decide +kernel
theorem dX6_init_16 : decode cX6_init 16 = .ok (.if_icmp .ge 22, 3) := by decide +kernel
theorem dX6_init_19 : decode cX6_init 19 = .ok (.aload_n 0, 1) := by decide +kernel
theorem dX6_init_20 : decode cX6_init 20 = .ok (.getfield 11, 3) := by decide +kernel
theorem dX6_init_23 : decode cX6_init 23 = .ok (.iload_n 1, 1) := by decide +kernel
theorem dX6_init_24 : decode cX6_init 24 = .ok (.new 9, 3) := by decide +kernel
theorem dX6_init_27 : decode cX6_init 27 = .ok (.dup, 1) := by decide +kernel
theorem dX6_init_28 : decode cX6_init 28 = .ok (.invokespecial 17, 3) := by decide +kernel
theorem dX6_init_31 : decode cX6_init 31 = .ok (.aastore, 1) := by decide +kernel
theorem dX6_init_32 : decode cX6_init 32 = .ok (.iinc 1 1, 3) := by decide +kernel
theorem dX6_init_35 : decode cX6_init 35 = .ok (.goto (-21), 3) := by decide +kernel
theorem dX6_init_38 : decode cX6_init 38 = .ok (.aload_n 0, 1) := by decide +kernel
theorem dX6_init_39 : decode cX6_init 39 = .ok (.bipush 6, 2) := by decide +kernel
theorem dX6_init_41 : decode cX6_init 41 = .ok (.newarray .int, 2) := by decide +kernel
theorem dX6_init_43 : decode cX6_init 43 = .ok (.putfield 18, 3) := by decide +kernel
theorem dX6_init_46 : decode cX6_init 46 = .ok (.aload_n 0, 1) := by decide +kernel
theorem dX6_init_47 : decode cX6_init 47 = .ok (.new 22, 3) := by decide +kernel
theorem dX6_init_50 : decode cX6_init 50 = .ok (.dup, 1) := by decide +kernel
theorem dX6_init_51 : decode cX6_init 51 = .ok (.invokespecial 24, 3) := by decide +kernel
theorem dX6_init_54 : decode cX6_init 54 = .ok (.putfield 25, 3) := by decide +kernel
theorem dX6_init_57 : decode cX6_init 57 = .ok (.aload_n 0, 1) := by decide +kernel
theorem dX6_init_58 : decode cX6_init 58 = .ok (.new 29, 3) := by decide +kernel
theorem dX6_init_61 : decode cX6_init 61 = .ok (.dup, 1) := by decide +kernel
theorem dX6_init_62 : decode cX6_init 62 = .ok (.invokespecial 31, 3) := by decide +kernel
theorem dX6_init_65 : decode cX6_init 65 = .ok (.putfield 32, 3) := by decide +kernel
theorem dX6_init_68 : decode cX6_init 68 = .ok (.aload_n 0, 1) := by decide +kernel
theorem dX6_init_69 : decode cX6_init 69 = .ok (.iconst 0, 1) := by decide +kernel
theorem dX6_init_70 : decode cX6_init 70 = .ok (.putfield 36, 3) := by decide +kernel
theorem dX6_init_73 : decode cX6_init 73 = .ok (.aload_n 0, 1) := by decide +kernel
theorem dX6_init_74 : decode cX6_init 74 = .ok (.iconst (-1), 1) := by decide +kernel
theorem dX6_init_75 : decode cX6_init 75 = .ok (.putfield 40, 3) := by decide +kernel
theorem dX6_init_78 : decode cX6_init 78 = .ok (.aload_n 0, 1) := by decide +kernel
theorem dX6_init_79 : decode cX6_init 79 = .ok (.iconst (-1), 1) := by decide +kernel
theorem dX6_init_80 : decode cX6_init 80 = .ok (.putfield 43, 3) := by decide +kernel
theorem dX6_init_83 : decode cX6_init 83 = .ok (.return_, 1) := by decide +kernel
theorem dX4_init_0 : decode cX4_init 0 = .ok (.aload_n 0, 1) := by decide +kernel
theorem dX4_init_1 : decode cX4_init 1 = .ok (.invokespecial 3, 3) := by decide +kernel
theorem dX4_init_4 : decode cX4_init 4 = .ok (.aload_n 0, 1) := by decide +kernel
theorem dX4_init_5 : decode cX4_init 5 = .ok (.bipush 21, 2) := by decide +kernel
theorem dX4_init_7 : decode cX4_init 7 = .ok (.newarray .int, 2) := by decide +kernel
theorem dX4_init_9 : decode cX4_init 9 = .ok (.putfield 9, 3) := by decide +kernel
theorem dX4_init_12 : decode cX4_init 12 = .ok (.aload_n 0, 1) := by decide +kernel
theorem dX4_init_13 : decode cX4_init 13 = .ok (.bipush 21, 2) := by decide +kernel
theorem dX4_init_15 : decode cX4_init 15 = .ok (.newarray .int, 2) := by decide +kernel
theorem dX4_init_17 : decode cX4_init 17 = .ok (.putfield 15, 3) := by decide +kernel
theorem dX4_init_20 : decode cX4_init 20 = .ok (.aload_n 0, 1) := by decide +kernel
theorem dX4_init_21 : decode cX4_init 21 = .ok (.bipush 21, 2) := by decide +kernel
theorem dX4_init_23 : decode cX4_init 23 = .ok (.newarray .int, 2) := by decide +kernel
theorem dX4_init_25 : decode cX4_init 25 = .ok (.putfield 18, 3) := by decide +kernel
theorem dX4_init_28 : decode cX4_init 28 = .ok (.aload_n 0, 1) := by decide +kernel
theorem dX4_init_29 : decode cX4_init 29 = .ok (.new 21, 3) := by decide +kernel
theorem dX4_init_32 : decode cX4_init 32 = .ok (.dup, 1) := by decide +kernel
theorem dX4_init_33 : decode cX4_init 33 = .ok (.invokespecial 23, 3) := by decide +kernel
theorem dX4_init_36 : decode cX4_init 36 = .ok (.putfield 24, 3) := by decide +kernel
theorem dX4_init_39 : decode cX4_init 39 = .ok (.aload_n 0, 1) := by decide +kernel
theorem dX4_init_40 : decode cX4_init 40 = .ok (.iconst 0, 1) := by decide +kernel
theorem dX4_init_41 : decode cX4_init 41 = .ok (.putfield 28, 3) := by decide +kernel
theorem dX4_init_44 : decode cX4_init 44 = .ok (.aload_n 0, 1) := by decide +kernel
theorem dX4_init_45 : decode cX4_init 45 = .ok (.iconst (-1), 1) := by decide +kernel
theorem dX4_init_46 : decode cX4_init 46 = .ok (.putfield 32, 3) := by decide +kernel
theorem dX4_init_49 : decode cX4_init 49 = .ok (.aload_n 0, 1) := by decide +kernel
theorem dX4_init_50 : decode cX4_init 50 = .ok (.iconst (-1), 1) := by decide +kernel
theorem dX4_init_51 : decode cX4_init 51 = .ok (.putfield 35, 3) := by decide +kernel
theorem dX4_init_54 : decode cX4_init 54 = .ok (.aload_n 0, 1) := by decide +kernel
theorem dX4_init_55 : decode cX4_init 55 = .ok (.iconst 0, 1) := by decide +kernel
theorem dX4_init_56 : decode cX4_init 56 = .ok (.putfield 38, 3) := by decide +kernel
theorem dX4_init_59 : decode cX4_init 59 = .ok (.return_, 1) := by decide +kernel
theorem dX10_init_0 : decode cX10_init 0 = .ok (.aload_n 0, 1) := by decide +kernel
theorem dX10_init_1 : decode cX10_init 1 = .ok (.invokespecial 3, 3) := by decide +kernel
theorem dX10_init_4 : decode cX10_init 4 = .ok (.aload_n 0, 1) := by decide +kernel
theorem dX10_init_5 : decode cX10_init 5 = .ok (.aload_n 1, 1) := by decide +kernel
theorem dX10_init_6 : decode cX10_init 6 = .ok (.putfield 9, 3) := by decide +kernel
theorem dX10_init_9 : decode cX10_init 9 = .ok (.aload_n 0, 1) := by decide +kernel
theorem dX10_init_10 : decode cX10_init 10 = .ok (.new 15, 3) := by decide +kernel
theorem dX10_init_13 : decode cX10_init 13 = .ok (.dup, 1) := by decide +kernel
theorem dX10_init_14 : decode cX10_init 14 = .ok (.invokespecial 17, 3) := by decide +kernel
theorem dX10_init_17 : decode cX10_init 17 = .ok (.putfield 18, 3) := by decide +kernel
theorem dX10_init_20 : decode cX10_init 20 = .ok (.aload_n 0, 1) := by decide +kernel
theorem dX10_init_21 : decode cX10_init 21 = .ok (.iconst 0, 1) := by decide +kernel
theorem dX10_init_22 : decode cX10_init 22 = .ok (.newarray .int, 2) := by decide +kernel
theorem dX10_init_24 : decode cX10_init 24 = .ok (.putfield 22, 3) := by decide +kernel
theorem dX10_init_27 : decode cX10_init 27 = .ok (.aload_n 0, 1) := by decide +kernel
theorem dX10_init_28 : decode cX10_init 28 = .ok (.aload_n 0, 1) := by decide +kernel
theorem dX10_init_29 : decode cX10_init 29 = .ok (.getfield 22, 3) := by decide +kernel
theorem dX10_init_32 : decode cX10_init 32 = .ok (.putfield 26, 3) := by decide +kernel
theorem dX10_init_35 : decode cX10_init 35 = .ok (.aload_n 0, 1) := by decide +kernel
theorem dX10_init_36 : decode cX10_init 36 = .ok (.aload_n 0, 1) := by decide +kernel
theorem dX10_init_37 : decode cX10_init 37 = .ok (.getfield 22, 3) := by decide +kernel
theorem dX10_init_40 : decode cX10_init 40 = .ok (.putfield 29, 3) := by decide +kernel
theorem dX10_init_43 : decode cX10_init 43 = .ok (.aload_n 0, 1) := by decide +kernel
theorem dX10_init_44 : decode cX10_init 44 = .ok (.aload_n 0, 1) := by decide +kernel
theorem dX10_init_45 : decode cX10_init 45 = .ok (.getfield 22, 3) := by decide +kernel
theorem dX10_init_48 : decode cX10_init 48 = .ok (.putfield 32, 3) := by decide +kernel
theorem dX10_init_51 : decode cX10_init 51 = .ok (.aload_n 0, 1) := by decide +kernel
theorem dX10_init_52 : decode cX10_init 52 = .ok (.aload_n 0, 1) := by decide +kernel
theorem dX10_init_53 : decode cX10_init 53 = .ok (.getfield 22, 3) := by decide +kernel
theorem dX10_init_56 : decode cX10_init 56 = .ok (.putfield 35, 3) := by decide +kernel
theorem dX10_init_59 : decode cX10_init 59 = .ok (.aload_n 0, 1) := by decide +kernel
theorem dX10_init_60 : decode cX10_init 60 = .ok (.aload_n 0, 1) := by decide +kernel
theorem dX10_init_61 : decode cX10_init 61 = .ok (.getfield 22, 3) := by decide +kernel
theorem dX10_init_64 : decode cX10_init 64 = .ok (.putfield 38, 3) := by decide +kernel
theorem dX10_init_67 : decode cX10_init 67 = .ok (.aload_n 0, 1) := by decide +kernel
theorem dX10_init_68 : decode cX10_init 68 = .ok (.iconst (-1), 1) := by decide +kernel
theorem dX10_init_69 : decode cX10_init 69 = .ok (.putfield 41, 3) := by decide +kernel
theorem dX10_init_72 : decode cX10_init 72 = .ok (.return_, 1) := by decide +kernel
theorem dX9_init_0 : decode cX9_init 0 = .ok (.aload_n 0, 1) := by decide +kernel
theorem dX9_init_1 : decode cX9_init 1 = .ok (.invokespecial 3, 3) := by decide +kernel
theorem dX9_init_4 : decode cX9_init 4 = .ok (.aload_n 0, 1) := by decide +kernel
theorem dX9_init_5 : decode cX9_init 5 = .ok (.bipush 9, 2) := by decide +kernel
theorem dX9_init_7 : decode cX9_init 7 = .ok (.newarray .int, 2) := by decide +kernel
theorem dX9_init_9 : decode cX9_init 9 = .ok (.putfield 9, 3) := by decide +kernel
theorem dX9_init_12 : decode cX9_init 12 = .ok (.aload_n 0, 1) := by decide +kernel
theorem dX9_init_13 : decode cX9_init 13 = .ok (.bipush 9, 2) := by decide +kernel
theorem dX9_init_15 : decode cX9_init 15 = .ok (.newarray .int, 2) := by decide +kernel
theorem dX9_init_17 : decode cX9_init 17 = .ok (.putfield 15, 3) := by decide +kernel
theorem dX9_init_20 : decode cX9_init 20 = .ok (.aload_n 0, 1) := by decide +kernel
theorem dX9_init_21 : decode cX9_init 21 = .ok (.new 18, 3) := by decide +kernel
theorem dX9_init_24 : decode cX9_init 24 = .ok (.dup, 1) := by decide +kernel
theorem dX9_init_25 : decode cX9_init 25 = .ok (.invokespecial 20, 3) := by decide +kernel
theorem dX9_init_28 : decode cX9_init 28 = .ok (.putfield 21, 3) := by decide +kernel
theorem dX9_init_31 : decode cX9_init 31 = .ok (.aload_n 0, 1) := by decide +kernel
theorem dX9_init_32 : decode cX9_init 32 = .ok (.iconst (-1), 1) := by decide +kernel
theorem dX9_init_33 : decode cX9_init 33 = .ok (.putfield 25, 3) := by decide +kernel
theorem dX9_init_36 : decode cX9_init 36 = .ok (.aload_n 0, 1) := by decide +kernel
theorem dX9_init_37 : decode cX9_init 37 = .ok (.iconst 0, 1) := by decide +kernel
theorem dX9_init_38 : decode cX9_init 38 = .ok (.putfield 29, 3) := by decide +kernel
theorem dX9_init_41 : decode cX9_init 41 = .ok (.return_, 1) := by decide +kernel
theorem dX5_init_0 : decode cX5_init 0 = .ok (.aload_n 0, 1) := by decide +kernel
theorem dX5_init_1 : decode cX5_init 1 = .ok (.invokespecial 3, 3) := by decide +kernel
theorem dX5_init_4 : decode cX5_init 4 = .ok (.aload_n 0, 1) := by decide +kernel
theorem dX5_init_5 : decode cX5_init 5 = .ok (.aload_n 1, 1) := by decide +kernel
theorem dX5_init_6 : decode cX5_init 6 = .ok (.putfield 9, 3) := by decide +kernel
theorem dX5_init_9 : decode cX5_init 9 = .ok (.aload_n 0, 1) := by decide +kernel
theorem dX5_init_10 : decode cX5_init 10 = .ok (.aload_n 2, 1) := by decide +kernel
theorem dX5_init_11 : decode cX5_init 11 = .ok (.putfield 15, 3) := by decide +kernel
theorem dX5_init_14 : decode cX5_init 14 = .ok (.aload_n 0, 1) := by decide +kernel
theorem dX5_init_15 : decode cX5_init 15 = .ok (.new 19, 3) := by decide +kernel
theorem dX5_init_18 : decode cX5_init 18 = .ok (.dup, 1) := by decide +kernel
theorem dX5_init_19 : decode cX5_init 19 = .ok (.invokespecial 21, 3) := by decide +kernel
theorem dX5_init_22 : decode cX5_init 22 = .ok (.putfield 22, 3) := by decide +kernel
theorem dX5_init_25 : decode cX5_init 25 = .ok (.aload_n 0, 1) := by decide +kernel
theorem dX5_init_26 : decode cX5_init 26 = .ok (.iconst 0, 1) := by decide +kernel
theorem dX5_init_27 : decode cX5_init 27 = .ok (.putfield 26, 3) := by decide +kernel
theorem dX5_init_30 : decode cX5_init 30 = .ok (.aload_n 0, 1) := by decide +kernel
theorem dX5_init_31 : decode cX5_init 31 = .ok (.iconst 0, 1) := by decide +kernel
theorem dX5_init_32 : decode cX5_init 32 = .ok (.putfield 30, 3) := by decide +kernel
theorem dX5_init_35 : decode cX5_init 35 = .ok (.aload_n 0, 1) := by decide +kernel
theorem dX5_init_36 : decode cX5_init 36 = .ok (.lconst 0, 1) := by decide +kernel
theorem dX5_init_37 : decode cX5_init 37 = .ok (.putfield 33, 3) := by decide +kernel
theorem dX5_init_40 : decode cX5_init 40 = .ok (.return_, 1) := by decide +kernel
theorem dX7_init_0 : decode cX7_init 0 = .ok (.aload_n 0, 1) := by decide +kernel
theorem dX7_init_1 : decode cX7_init 1 = .ok (.invokespecial 1, 3) := by decide +kernel
theorem dX7_init_4 : decode cX7_init 4 = .ok (.return_, 1) := by decide +kernel
theorem dX2_init_0 : decode cX2_init 0 = .ok (.aload_n 0, 1) := by decide +kernel
theorem dX2_init_1 : decode cX2_init 1 = .ok (.invokespecial 3, 3) := by decide +kernel
theorem dX2_init_4 : decode cX2_init 4 = .ok (.aload_n 0, 1) := by decide +kernel
theorem dX2_init_5 : decode cX2_init 5 = .ok (.bipush 30, 2) := by decide +kernel
theorem dX2_init_7 : decode cX2_init 7 = .ok (.newarray .int, 2) := by decide +kernel
theorem dX2_init_9 : decode cX2_init 9 = .ok (.putfield 9, 3) := by decide +kernel
theorem dX2_init_12 : decode cX2_init 12 = .ok (.aload_n 0, 1) := by decide +kernel
theorem dX2_init_13 : decode cX2_init 13 = .ok (.bipush 30, 2) := by decide +kernel
theorem dX2_init_15 : decode cX2_init 15 = .ok (.newarray .int, 2) := by decide +kernel
theorem dX2_init_17 : decode cX2_init 17 = .ok (.putfield 15, 3) := by decide +kernel
theorem dX2_init_20 : decode cX2_init 20 = .ok (.aload_n 0, 1) := by decide +kernel
theorem dX2_init_21 : decode cX2_init 21 = .ok (.bipush 30, 2) := by decide +kernel
theorem dX2_init_23 : decode cX2_init 23 = .ok (.newarray .int, 2) := by decide +kernel
theorem dX2_init_25 : decode cX2_init 25 = .ok (.putfield 18, 3) := by decide +kernel
theorem dX2_init_28 : decode cX2_init 28 = .ok (.aload_n 0, 1) := by decide +kernel
theorem dX2_init_29 : decode cX2_init 29 = .ok (.iconst 0, 1) := by decide +kernel
theorem dX2_init_30 : decode cX2_init 30 = .ok (.putfield 21, 3) := by decide +kernel
theorem dX2_init_33 : decode cX2_init 33 = .ok (.return_, 1) := by decide +kernel
theorem dX11_init_0 : decode cX11_init 0 = .ok (.aload_n 0, 1) := by decide +kernel
theorem dX11_init_1 : decode cX11_init 1 = .ok (.invokespecial 1, 3) := by decide +kernel
theorem dX11_init_4 : decode cX11_init 4 = .ok (.aload_n 0, 1) := by decide +kernel
theorem dX11_init_5 : decode cX11_init 5 = .ok (.new 7, 3) := by decide +kernel
theorem dX11_init_8 : decode cX11_init 8 = .ok (.dup, 1) := by decide +kernel
theorem dX11_init_9 : decode cX11_init 9 = .ok (.invokespecial 9, 3) := by decide +kernel
theorem dX11_init_12 : decode cX11_init 12 = .ok (.putfield 10, 3) := by decide +kernel
theorem dX11_init_15 : decode cX11_init 15 = .ok (.aload_n 0, 1) := by decide +kernel
theorem dX11_init_16 : decode cX11_init 16 = .ok (.new 16, 3) := by decide +kernel
theorem dX11_init_19 : decode cX11_init 19 = .ok (.dup, 1) := by decide +kernel
theorem dX11_init_20 : decode cX11_init 20 = .ok (.invokespecial 18, 3) := by decide +kernel
theorem dX11_init_23 : decode cX11_init 23 = .ok (.putfield 19, 3) := by decide +kernel
theorem dX11_init_26 : decode cX11_init 26 = .ok (.aload_n 0, 1) := by decide +kernel
theorem dX11_init_27 : decode cX11_init 27 = .ok (.new 23, 3) := by decide +kernel
theorem dX11_init_30 : decode cX11_init 30 = .ok (.dup, 1) := by decide +kernel
theorem dX11_init_31 : decode cX11_init 31 = .ok (.invokespecial 25, 3) := by decide +kernel
theorem dX11_init_34 : decode cX11_init 34 = .ok (.putfield 26, 3) := by decide +kernel
theorem dX11_init_37 : decode cX11_init 37 = .ok (.aload_n 0, 1) := by decide +kernel
theorem dX11_init_38 : decode cX11_init 38 = .ok (.new 23, 3) := by decide +kernel
theorem dX11_init_41 : decode cX11_init 41 = .ok (.dup, 1) := by decide +kernel
theorem dX11_init_42 : decode cX11_init 42 = .ok (.invokespecial 25, 3) := by decide +kernel
theorem dX11_init_45 : decode cX11_init 45 = .ok (.putfield 30, 3) := by decide +kernel
theorem dX11_init_48 : decode cX11_init 48 = .ok (.aload_n 0, 1) := by decide +kernel
theorem dX11_init_49 : decode cX11_init 49 = .ok (.new 33, 3) := by decide +kernel
theorem dX11_init_52 : decode cX11_init 52 = .ok (.dup, 1) := by decide +kernel
theorem dX11_init_53 : decode cX11_init 53 = .ok (.aload_n 0, 1) := by decide +kernel
theorem dX11_init_54 : decode cX11_init 54 = .ok (.getfield 19, 3) := by decide +kernel
theorem dX11_init_57 : decode cX11_init 57 = .ok (.invokespecial 35, 3) := by decide +kernel
theorem dX11_init_60 : decode cX11_init 60 = .ok (.putfield 38, 3) := by decide +kernel
theorem dX11_init_63 : decode cX11_init 63 = .ok (.aload_n 0, 1) := by decide +kernel
theorem dX11_init_64 : decode cX11_init 64 = .ok (.new 42, 3) := by decide +kernel
theorem dX11_init_67 : decode cX11_init 67 = .ok (.dup, 1) := by decide +kernel
theorem dX11_init_68 : decode cX11_init 68 = .ok (.invokespecial 44, 3) := by decide +kernel
theorem dX11_init_71 : decode cX11_init 71 = .ok (.putfield 45, 3) := by decide +kernel
theorem dX11_init_74 : decode cX11_init 74 = .ok (.aload_n 0, 1) := by decide +kernel
theorem dX11_init_75 : decode cX11_init 75 = .ok (.new 49, 3) := by decide +kernel
theorem dX11_init_78 : decode cX11_init 78 = .ok (.dup, 1) := by decide +kernel
theorem dX11_init_79 : decode cX11_init 79 = .ok (.aload_n 0, 1) := by decide +kernel
theorem dX11_init_80 : decode cX11_init 80 = .ok (.getfield 19, 3) := by decide +kernel
theorem dX11_init_83 : decode cX11_init 83 = .ok (.aload_n 0, 1) := by decide +kernel
theorem dX11_init_84 : decode cX11_init 84 = .ok (.getfield 38, 3) := by decide +kernel
theorem dX11_init_87 : decode cX11_init 87 = .ok (.invokespecial 51, 3) := by decide +kernel
theorem dX11_init_90 : decode cX11_init 90 = .ok (.putfield 54, 3) := by decide +kernel
theorem dX11_init_93 : decode cX11_init 93 = .ok (.aload_n 0, 1) := by decide +kernel
theorem dX11_init_94 : decode cX11_init 94 = .ok (.new 58, 3) := by decide +kernel
theorem dX11_init_97 : decode cX11_init 97 = .ok (.dup, 1) := by decide +kernel
theorem dX11_init_98 : decode cX11_init 98 = .ok (.invokespecial 60, 3) := by decide +kernel
theorem dX11_init_101 : decode cX11_init 101 = .ok (.putfield 61, 3) := by decide +kernel
theorem dX11_init_104 : decode cX11_init 104 = .ok (.aload_n 0, 1) := by decide +kernel
theorem dX11_init_105 : decode cX11_init 105 = .ok (.new 58, 3) := by decide +kernel
theorem dX11_init_108 : decode cX11_init 108 = .ok (.dup, 1) := by decide +kernel
theorem dX11_init_109 : decode cX11_init 109 = .ok (.invokespecial 60, 3) := by decide +kernel
theorem dX11_init_112 : decode cX11_init 112 = .ok (.putfield 65, 3) := by decide +kernel
theorem dX11_init_115 : decode cX11_init 115 = .ok (.aload_n 0, 1) := by decide +kernel
theorem dX11_init_116 : decode cX11_init 116 = .ok (.new 58, 3) := by decide +kernel
theorem dX11_init_119 : decode cX11_init 119 = .ok (.dup, 1) := by decide +kernel
theorem dX11_init_120 : decode cX11_init 120 = .ok (.invokespecial 60, 3) := by decide +kernel
theorem dX11_init_123 : decode cX11_init 123 = .ok (.putfield 68, 3) := by decide +kernel
theorem dX11_init_126 : decode cX11_init 126 = .ok (.aload_n 0, 1) := by decide +kernel
theorem dX11_init_127 : decode cX11_init 127 = .ok (.new 71, 3) := by decide +kernel
theorem dX11_init_130 : decode cX11_init 130 = .ok (.dup, 1) := by decide +kernel
theorem dX11_init_131 : decode cX11_init 131 = .ok (.invokespecial 73, 3) := by decide +kernel
theorem dX11_init_134 : decode cX11_init 134 = .ok (.putfield 74, 3) := by decide +kernel
theorem dX11_init_137 : decode cX11_init 137 = .ok (.aload_n 0, 1) := by decide +kernel
theorem dX11_init_138 : decode cX11_init 138 = .ok (.new 78, 3) := by decide +kernel
theorem dX11_init_141 : decode cX11_init 141 = .ok (.dup, 1) := by decide +kernel
theorem dX11_init_142 : decode cX11_init 142 = .ok (.invokespecial 80, 3) := by decide +kernel
theorem dX11_init_145 : decode cX11_init 145 = .ok (.putfield 81, 3) := by decide +kernel
theorem dX11_init_148 : decode cX11_init 148 = .ok (.aload_n 0, 1) := by decide +kernel
theorem dX11_init_149 : decode cX11_init 149 = .ok (.new 85, 3) := by decide +kernel
theorem dX11_init_152 : decode cX11_init 152 = .ok (.dup, 1) := by decide +kernel
theorem dX11_init_153 : decode cX11_init 153 = .ok (.invokespecial 87, 3) := by decide +kernel
theorem dX11_init_156 : decode cX11_init 156 = .ok (.putfield 88, 3) := by decide +kernel
theorem dX11_init_159 : decode cX11_init 159 = .ok (.aload_n 0, 1) := by decide +kernel
theorem dX11_init_160 : decode cX11_init 160 = .ok (.new 85, 3) := by decide +kernel
theorem dX11_init_163 : decode cX11_init 163 = .ok (.dup, 1) := by decide +kernel
theorem dX11_init_164 : decode cX11_init 164 = .ok (.invokespecial 87, 3) := by decide +kernel
theorem dX11_init_167 : decode cX11_init 167 = .ok (.putfield 92, 3) := by decide +kernel
theorem dX11_init_170 : decode cX11_init 170 = .ok (.aload_n 0, 1) := by decide +kernel
theorem dX11_init_171 : decode cX11_init 171 = .ok (.iconst 0, 1) := by decide +kernel
theorem dX11_init_172 : decode cX11_init 172 = .ok (.putfield 95, 3) := by decide +kernel
theorem dX11_init_175 : decode cX11_init 175 = .ok (.aload_n 0, 1) := by decide +kernel
theorem dX11_init_176 : decode cX11_init 176 = .ok (.iconst 0, 1) := by decide +kernel
theorem dX11_init_177 : decode cX11_init 177 = .ok (.putfield 99, 3) := by decide +kernel
theorem dX11_init_180 : decode cX11_init 180 = .ok (.return_, 1) := by decide +kernel
set_option maxRecDepth 20000 in
theorem ggX11_init_X8_init : GoodIn wsX11_init wsX8_init := goodIn_r _ [52, 53, 2, 3, 54, 55, 56, 57, 58, 160, 161, 162, 163] (by decide +kernel) (by decide +kernel)
set_option maxRecDepth 20000 in
theorem gX11_init_X8_init : GoodIn wsX11_init (wsX8_init) := ggX11_init_X8_init
set_option maxRecDepth 20000 in
theorem ggX6_init_X1_init : GoodIn wsX6_init wsX1_init := goodIn_r _ [23, 24, 2, 3, 8, 25, 26, 27, 28, 50, 51, 52, 53] (by decide +kernel) (by decide +kernel)
set_option maxRecDepth 20000 in
theorem gX6_init_X1_init : GoodIn wsX6_init (wsX1_init) := ggX6_init_X1_init
set_option maxRecDepth 20000 in
theorem ggX6_init_X3_init : GoodIn wsX6_init wsX3_init := goodIn_r _ [30, 31, 2, 3] (by decide +kernel) (by decide +kernel)
set_option maxRecDepth 20000 in
theorem gX6_init_X3_init_n24 : GoodIn wsX6_init (wsX3_init) := ggX6_init_X3_init
set_option maxRecDepth 20000 in
theorem ggX6_init_X0_init : GoodIn wsX6_init wsX0_init := goodIn_r _ [34, 35, 2, 3, 8, 36, 37, 38, 39, 40, 41, 42, 57, 58, 59, 60, 61, 62, 63] (by decide +kernel) (by decide +kernel)
set_option maxRecDepth 20000 in
theorem gX6_init_X0_init : GoodIn wsX6_init (wsX0_init) := ggX6_init_X0_init
set_option maxRecDepth 20000 in
theorem ggX11_init_X6_init : GoodIn wsX11_init wsX6_init := goodIn_r _ [61, 62, 2, 3, 63, 64, 40, 41, 54, 65, 66, 67, 68, 69, 70, 36, 37, 71, 72, 73, 74, 75, 76, 77, 78, 79, 80, 81, 82, 83, 84, 85, 86, 87, 88, 89, 90, 91, 92, 93, 94, 95, 96, 180, 181, 182, 183, 184, 185, 186, 235, 236, 237, 238, 243, 244, 245, 228, 229, 230, 231, 232, 233, 234] (by decide +kernel) (by decide +kernel)
set_option maxRecDepth 20000 in
theorem gX11_init_X6_init : GoodIn wsX11_init (wsX6_init) := ggX11_init_X6_init
set_option maxRecDepth 20000 in
theorem ggX4_init_X3_init : GoodIn wsX4_init wsX3_init := goodIn_r _ [17, 18, 2, 3] (by decide +kernel) (by decide +kernel)
set_option maxRecDepth 20000 in
theorem gX4_init_X3_init_n23 : GoodIn wsX4_init (wsX3_init) := ggX4_init_X3_init
set_option maxRecDepth 20000 in
theorem ggX11_init_X4_init : GoodIn wsX11_init wsX4_init := goodIn_r _ [99, 100, 2, 3, 54, 101, 102, 103, 104, 67, 68, 105, 106, 107, 108, 109, 83, 84, 85, 187, 188, 189, 190, 191, 192, 193, 194, 243, 244, 245] (by decide +kernel) (by decide +kernel)
set_option maxRecDepth 20000 in
theorem gX11_init_X4_init : GoodIn wsX11_init (wsX4_init) := ggX11_init_X4_init
set_option maxRecDepth 20000 in
theorem ggX10_init_X3_init : GoodIn wsX10_init wsX3_init := goodIn_r _ [18, 19, 2, 3] (by decide +kernel) (by decide +kernel)
set_option maxRecDepth 20000 in
theorem gX10_init_X3_init_n17 : GoodIn wsX10_init (wsX3_init) := ggX10_init_X3_init
set_option maxRecDepth 20000 in
theorem ggX11_init_X10_init : GoodIn wsX11_init wsX10_init := goodIn_r _ [112, 113, 2, 3, 114, 115, 67, 68, 116, 54, 117, 118, 119, 120, 121, 122, 123, 83, 84, 85, 195, 196, 197, 198, 199, 200, 201, 202, 203, 204, 205, 206, 207, 208, 209, 210, 211, 212, 213, 243, 244, 245] (by decide +kernel) (by decide +kernel)
set_option maxRecDepth 20000 in
theorem gX11_init_X10_init : GoodIn wsX11_init (wsX10_init) := ggX11_init_X10_init
set_option maxRecDepth 20000 in
theorem ggX9_init_X0_init : GoodIn wsX9_init wsX0_init := goodIn_r _ [15, 16, 2, 3, 4, 17, 18, 19, 20, 21, 22, 23, 29, 30, 31, 32, 33, 34, 35] (by decide +kernel) (by decide +kernel)
set_option maxRecDepth 20000 in
theorem gX9_init_X0_init : GoodIn wsX9_init (wsX0_init) := ggX9_init_X0_init
set_option maxRecDepth 20000 in
theorem ggX11_init_X9_init : GoodIn wsX11_init wsX9_init := goodIn_r _ [126, 127, 2, 3, 54, 128, 129, 130, 36, 37, 131, 132, 133, 134, 87, 88, 89, 90, 91, 92, 93, 94, 95, 96, 214, 215, 216, 217, 218, 228, 229, 230, 231, 232, 233, 234] (by decide +kernel) (by decide +kernel)
set_option maxRecDepth 20000 in
theorem gX11_init_X9_init : GoodIn wsX11_init (wsX9_init) := ggX11_init_X9_init
set_option maxRecDepth 20000 in
theorem ggX5_init_X4_init : GoodIn wsX5_init wsX4_init := goodIn_r _ [15, 16, 2, 3, 17, 18, 19, 20, 21, 22, 23, 24, 25, 26, 27, 28, 29, 30, 31, 38, 39, 40, 41, 42, 43, 44, 45, 46, 47, 48] (by decide +kernel) (by decide +kernel)
set_option maxRecDepth 20000 in
theorem gX5_init_X4_init : GoodIn wsX5_init (wsX4_init) := ggX5_init_X4_init
set_option maxRecDepth 20000 in
theorem ggX11_init_X5_init : GoodIn wsX11_init wsX5_init := goodIn_r _ [137, 138, 2, 3, 139, 140, 141, 13, 14, 142, 143, 144, 145, 146, 98, 99, 100, 54, 101, 102, 103, 104, 67, 68, 105, 106, 107, 108, 109, 83, 84, 85, 219, 220, 221, 222, 223, 224, 187, 188, 189, 190, 191, 192, 193, 194, 243, 244, 245] (by decide +kernel) (by decide +kernel)
set_option maxRecDepth 20000 in
theorem gX11_init_X5_init : GoodIn wsX11_init (wsX5_init) := ggX11_init_X5_init
set_option maxRecDepth 20000 in
theorem ggX11_init_X7_init : GoodIn wsX11_init wsX7_init := goodIn_r _ [148, 149, 2, 3] (by decide +kernel) (by decide +kernel)
set_option maxRecDepth 20000 in
theorem gX11_init_X7_init_n60 : GoodIn wsX11_init (wsX7_init) := ggX11_init_X7_init
set_option maxRecDepth 20000 in
theorem ggX11_init_X0_init : GoodIn wsX11_init wsX0_init := goodIn_r _ [88, 89, 2, 3, 54, 90, 91, 92, 93, 94, 95, 96, 228, 229, 230, 231, 232, 233, 234] (by decide +kernel) (by decide +kernel)
set_option maxRecDepth 20000 in
theorem gX11_init_X0_init : GoodIn wsX11_init (wsX0_init) := ggX11_init_X0_init
set_option maxRecDepth 20000 in
theorem ggX11_init_X1_init : GoodIn wsX11_init wsX1_init := goodIn_r _ [77, 78, 2, 3, 54, 79, 80, 81, 82, 235, 236, 237, 238] (by decide +kernel) (by decide +kernel)
set_option maxRecDepth 20000 in
theorem gX11_init_X1_init : GoodIn wsX11_init (wsX1_init) := ggX11_init_X1_init
set_option maxRecDepth 20000 in
theorem ggX11_init_X2_init : GoodIn wsX11_init wsX2_init := goodIn_r _ [154, 155, 2, 3, 54, 156, 157, 158, 159, 239, 240, 241, 242] (by decide +kernel) (by decide +kernel)
set_option maxRecDepth 20000 in
theorem gX11_init_X2_init : GoodIn wsX11_init (wsX2_init) := ggX11_init_X2_init
set_option maxHeartbeats 8000000 in
set_option maxRecDepth 100000 in
theorem zk_X8_init (l : Launch) (dC : Nat → ClassId) (dI : Nat → Nat → Nat) (h0 : Nat) (sz : Nat) : Met l yX8_init wsX8_init ({ frames := 1, cells := 1, slots := 160, locals := 12 }) (va_Pc [.ref h0] (zw_P dC dI sz [] [(h0, .inr (8, [.null, .int 0, .int 0, .int 0]))])) (va_Qv (fun (_ : Unit) => True) (fun (_ : Unit) (t : State) => ∃ y0 : Nat, ∃ kA1 : ClassId, zw_Q dC dI (va_A [(h0, .inr (8, [.null, .int 0, .int 0, .int 0]))] sz) [(kA1, .int)] [(h0, .inr (8, [.ref y0, .int 0, .int 0, .int (-1)])), (y0, .inl (kA1, 160, .inl (fun _ => 0)))] t) (va_A [(h0, .inr (8, [.null, .int 0, .int 0, .int 0]))] sz)) 1 160 (va_A [(h0, .inr (8, [.null, .int 0, .int 0, .int 0]))] sz) := by
  refine Met.ofW (cc := cX8_init) (maxL := 1) (ret := none) (by decide) rfl ?_
  intro p e s m args below meth c s₁ B hml hv
  obtain ⟨rfl, hsz, hP, hK, hD0, hN⟩ := hv
  have hx := B.exec
  have hb := B.bytes
  have hr := B.returns
  have hts := atoms_spec (ws := wsX8_init) B.pre
  have hown : s.vm.findClass RX8 = some m.cls := findClass_of_methodNamed B.named
  have hlocks := B.notSynchronized
  have hin : meth.name = "<init>" := (name_of_methodNamed B.named B.method).1
  subst hsz
  have hD := hD0.self (sz := s.heap.size)
  generalize hAe : va_A [(h0, .inr (8, [.null, .int 0, .int 0, .int 0]))] s.heap.size = A at hD ⊢
  have hA : ∀ q : Nat, s.heap.size ≤ q → A q := fun q h => by rw [← hAe]; exact Or.inr h
  have hP : va_P (dC, dI) classes [(h0, .inr (8, [.null, .int 0, .int 0, .int 0]))] s.heap := hP
  have hl := lv_entry ([.ref h0]) (n := 1) (Nat.le_of_ble_eq_true rfl)
  rw [lg_entry_eq]
  generalize (lg_sl ([.ref h0]) ++ List.replicate (1 - (lg_sl ([.ref h0])).length) Slot.unset).toArray = ls at hl ⊢
  have hl : lv_has ls 1 [(0, .ref h0)] := hl
  refine zw_start (fun H eH => ?_)
  have hP : va_P (dC, dI) classes [(h0, .inr (8, [.null, .int 0, .int 0, .int 0]))] H := by rw [eH]; exact hP
  have hS : va_S A s.heap H [] := by rw [eH]; exact va_S.rf
  refine lv_aload_n hx hb dX8_init_0 rfl (lv_at hl 0 rfl) ?_
  refine W.objInit hx hb hown (hts (.methodLink RX8 3 objectInit) (by decide +kernel)) (hts (.instanceMethod objectInit) (by decide +kernel)) (hts (.code objectInit ⟨#[0xb1]⟩ 1 none) (List.mem_of_getElem? (i := 3) rfl)) rfl (by rw [hml]; exact hl.1) rfl dX8_init_1 (Nat.le_of_ble_eq_true rfl) (Nat.le_of_ble_eq_true rfl) ?_
  refine W.eq (g2 := F0 m 4 ls []) rfl ?_
  refine lv_aload_n hx hb dX8_init_4 rfl (lv_at hl 0 rfl) ?_
  refine lv_sipush (v := 160) hx hb dX8_init_5 (by decide) ?_
  refine va_newa (atype := .int) (ty := .int) (N' := 160) (a0 := (160, .inl (fun _ => 0))) hx hb (hts (.arrayClass .int) (by decide +kernel)) rfl hK hP hD hS hA (fun _ => rfl) (by decide) (by decide +kernel) (by decide +kernel) (Nat.le_of_ble_eq_true rfl) (Nat.le_of_ble_eq_true rfl) dX8_init_8 (fun q_1 k_2 H hK hP hD hS => ?_)
  have hP : va_P (dC, dI) classes [(h0, .inr (8, [.null, .int 0, .int 0, .int 0])), (q_1, .inl (k_2, 160, .inl (fun _ => 0)))] H := hP
  have hD : va_D A [(h0, .inr (8, [.null, .int 0, .int 0, .int 0])), (q_1, .inl (k_2, 160, .inl (fun _ => 0)))] := hD
  have hK : va_K (dC, dI) classes [(k_2, .int)] s := hK
  refine W.widen (k := 1) (n := 160) (Nat.le_of_ble_eq_true rfl) (Nat.le_of_ble_eq_true rfl) ?_
  refine va_putF (D := (dC, dI)) (ci := 8) (v := .ref q_1) (ty := .array .int) (C := RX8) (T := TX8) (N := 4) hx hb hts zi_X8_init_X8 tyX8 tyX8_ok nmX8 hown hK hP hD hS 0 rfl rfl 0 (by decide) (hts (.fieldLink RX8 9 "HoldTwo$Tape" "signs" "[I") (by decide +kernel)) (fun _ h9 => h9) rfl hin rfl (by decide +kernel) rfl rfl (Nat.le_of_ble_eq_true rfl) dX8_init_10 (fun H locs hP hD hS => ?_)
  have hP : va_P (dC, dI) classes [(h0, .inr (8, [.ref q_1, .int 0, .int 0, .int 0])), (q_1, .inl (k_2, 160, .inl (fun _ => 0)))] H := hP
  have hD : va_D A [(h0, .inr (8, [.ref q_1, .int 0, .int 0, .int 0])), (q_1, .inl (k_2, 160, .inl (fun _ => 0)))] := hD
  refine lv_aload_n hx hb dX8_init_13 rfl (lv_at hl 0 rfl) ?_
  refine lv_iconst (v := 0) hx hb dX8_init_14 (by decide) ?_
  refine va_put (D := (dC, dI)) (ci := 8) (v := .int 0) (ty := .int) (C := RX8) (T := TX8) (N := 4) hx hb hts zi_X8_init_X8 tyX8 tyX8_ok nmX8 hown hK hP hD hS 0 rfl rfl 1 (by decide) (hts (.fieldLink RX8 15 "HoldTwo$Tape" "length" "I") (by decide +kernel)) (fun _ h9 => h9) rfl (by decide +kernel) rfl rfl (Nat.le_of_ble_eq_true rfl) dX8_init_15 (fun H locs hP hD hS => ?_)
  have hP : va_P (dC, dI) classes [(h0, .inr (8, [.ref q_1, .int 0, .int 0, .int 0])), (q_1, .inl (k_2, 160, .inl (fun _ => 0)))] H := hP
  have hD : va_D A [(h0, .inr (8, [.ref q_1, .int 0, .int 0, .int 0])), (q_1, .inl (k_2, 160, .inl (fun _ => 0)))] := hD
  refine lv_aload_n hx hb dX8_init_18 rfl (lv_at hl 0 rfl) ?_
  refine lv_iconst (v := 0) hx hb dX8_init_19 (by decide) ?_
  refine va_put (D := (dC, dI)) (ci := 8) (v := .int 0) (ty := .int) (C := RX8) (T := TX8) (N := 4) hx hb hts zi_X8_init_X8 tyX8 tyX8_ok nmX8 hown hK hP hD hS 0 rfl rfl 2 (by decide) (hts (.fieldLink RX8 19 "HoldTwo$Tape" "cursor" "I") (by decide +kernel)) (fun _ h9 => h9) rfl (by decide +kernel) rfl rfl (Nat.le_of_ble_eq_true rfl) dX8_init_20 (fun H locs hP hD hS => ?_)
  have hP : va_P (dC, dI) classes [(h0, .inr (8, [.ref q_1, .int 0, .int 0, .int 0])), (q_1, .inl (k_2, 160, .inl (fun _ => 0)))] H := hP
  have hD : va_D A [(h0, .inr (8, [.ref q_1, .int 0, .int 0, .int 0])), (q_1, .inl (k_2, 160, .inl (fun _ => 0)))] := hD
  refine lv_aload_n hx hb dX8_init_23 rfl (lv_at hl 0 rfl) ?_
  refine lv_iconst (v := (-1)) hx hb dX8_init_24 (by decide) ?_
  refine va_put (D := (dC, dI)) (ci := 8) (v := .int (-1)) (ty := .int) (C := RX8) (T := TX8) (N := 4) hx hb hts zi_X8_init_X8 tyX8 tyX8_ok nmX8 hown hK hP hD hS 0 rfl rfl 3 (by decide) (hts (.fieldLink RX8 22 "HoldTwo$Tape" "wrong" "I") (by decide +kernel)) (fun _ h9 => h9) rfl (by decide +kernel) rfl rfl (Nat.le_of_ble_eq_true rfl) dX8_init_25 (fun H locs hP hD hS => ?_)
  have hP : va_P (dC, dI) classes [(h0, .inr (8, [.ref q_1, .int 0, .int 0, .int (-1)])), (q_1, .inl (k_2, 160, .inl (fun _ => 0)))] H := hP
  have hD : va_D A [(h0, .inr (8, [.ref q_1, .int 0, .int 0, .int (-1)])), (q_1, .inl (k_2, 160, .inl (fun _ => 0)))] := hD
  have hP9 := hP.sub (ws' := [(h0, .inr (8, [.ref q_1, .int 0, .int 0, .int (-1)])), (q_1, .inl (k_2, 160, .inl (fun _ => 0)))]) [0, 1] rfl
  have hD9 := hD.sub (ws' := [(h0, .inr (8, [.ref q_1, .int 0, .int 0, .int (-1)])), (q_1, .inl (k_2, 160, .inl (fun _ => 0)))]) [0, 1] (by decide) rfl
  have hK9 := hK.sub (tys' := [(k_2, .int)]) [0] rfl
  refine W.widen (k := 1) (n := 160) (Nat.le_of_ble_eq_true rfl) (Nat.le_of_ble_eq_true rfl) ?_
  exact W.vret hx hb hr (fun t ht hW => ⟨⟨(), rfl, trivial, q_1, k_2, by rw [ht]; exact hP9, va_K.moved hW.alike hK9, hD9⟩, hS.F ht⟩) hS.2.2 dX8_init_28
set_option maxHeartbeats 8000000 in
set_option maxRecDepth 100000 in
theorem zk_X1_init (l : Launch) (dC : Nat → ClassId) (dI : Nat → Nat → Nat) (h0 : Nat) (sz : Nat) : Met l yX1_init wsX1_init ({ frames := 1, cells := 2, slots := 224, locals := 12 }) (va_Pc [.ref h0] (zw_P dC dI sz [] [(h0, .inr (1, [.null, .null, .int 0, .int 0]))])) (va_Qv (fun (_ : Unit) => True) (fun (_ : Unit) (t : State) => ∃ y0 : Nat, ∃ y1 : Nat, ∃ kA2 : ClassId, zw_Q dC dI (va_A [(h0, .inr (1, [.null, .null, .int 0, .int 0]))] sz) [(kA2, .int)] [(h0, .inr (1, [.ref y0, .ref y1, .int 0, .int 0])), (y0, .inl (kA2, 160, .inl (fun _ => 0)))] t) (va_A [(h0, .inr (1, [.null, .null, .int 0, .int 0]))] sz)) 2 224 (va_A [(h0, .inr (1, [.null, .null, .int 0, .int 0]))] sz) := by
  refine Met.ofW (cc := cX1_init) (maxL := 1) (ret := none) (by decide) rfl ?_
  intro p e s m args below meth c s₁ B hml hv
  obtain ⟨rfl, hsz, hP, hK, hD0, hN⟩ := hv
  have hx := B.exec
  have hb := B.bytes
  have hr := B.returns
  have hts := atoms_spec (ws := wsX1_init) B.pre
  have hown : s.vm.findClass RX1 = some m.cls := findClass_of_methodNamed B.named
  have hlocks := B.notSynchronized
  have hin : meth.name = "<init>" := (name_of_methodNamed B.named B.method).1
  subst hsz
  have hD := hD0.self (sz := s.heap.size)
  generalize hAe : va_A [(h0, .inr (1, [.null, .null, .int 0, .int 0]))] s.heap.size = A at hD ⊢
  have hA : ∀ q : Nat, s.heap.size ≤ q → A q := fun q h => by rw [← hAe]; exact Or.inr h
  have hP : va_P (dC, dI) classes [(h0, .inr (1, [.null, .null, .int 0, .int 0]))] s.heap := hP
  have hl := lv_entry ([.ref h0]) (n := 1) (Nat.le_of_ble_eq_true rfl)
  rw [lg_entry_eq]
  generalize (lg_sl ([.ref h0]) ++ List.replicate (1 - (lg_sl ([.ref h0])).length) Slot.unset).toArray = ls at hl ⊢
  have hl : lv_has ls 1 [(0, .ref h0)] := hl
  refine zw_start (fun H eH => ?_)
  have hP : va_P (dC, dI) classes [(h0, .inr (1, [.null, .null, .int 0, .int 0]))] H := by rw [eH]; exact hP
  have hS : va_S A s.heap H [] := by rw [eH]; exact va_S.rf
  refine lv_aload_n hx hb dX1_init_0 rfl (lv_at hl 0 rfl) ?_
  refine W.objInit hx hb hown (hts (.methodLink RX1 3 objectInit) (by decide +kernel)) (hts (.instanceMethod objectInit) (by decide +kernel)) (hts (.code objectInit ⟨#[0xb1]⟩ 1 none) (List.mem_of_getElem? (i := 3) rfl)) rfl (by rw [hml]; exact hl.1) rfl dX1_init_1 (Nat.le_of_ble_eq_true rfl) (Nat.le_of_ble_eq_true rfl) ?_
  refine W.eq (g2 := F0 m 4 ls []) rfl ?_
  refine lv_aload_n hx hb dX1_init_4 rfl (lv_at hl 0 rfl) ?_
  refine lv_sipush (v := 160) hx hb dX1_init_5 (by decide) ?_
  refine va_newa (atype := .int) (ty := .int) (N' := 160) (a0 := (160, .inl (fun _ => 0))) hx hb (hts (.arrayClass .int) (by decide +kernel)) rfl hK hP hD hS hA (fun _ => rfl) (by decide) (by decide +kernel) (by decide +kernel) (Nat.le_of_ble_eq_true rfl) (Nat.le_of_ble_eq_true rfl) dX1_init_8 (fun q_1 k_2 H hK hP hD hS => ?_)
  have hP : va_P (dC, dI) classes [(h0, .inr (1, [.null, .null, .int 0, .int 0])), (q_1, .inl (k_2, 160, .inl (fun _ => 0)))] H := hP
  have hD : va_D A [(h0, .inr (1, [.null, .null, .int 0, .int 0])), (q_1, .inl (k_2, 160, .inl (fun _ => 0)))] := hD
  have hK : va_K (dC, dI) classes [(k_2, .int)] s := hK
  refine W.widen (k := 1) (n := 160) (Nat.le_of_ble_eq_true rfl) (Nat.le_of_ble_eq_true rfl) ?_
  refine va_putF (D := (dC, dI)) (ci := 1) (v := .ref q_1) (ty := .array .int) (C := RX1) (T := TX1) (N := 4) hx hb hts zi_X1_init_X1 tyX1 tyX1_ok nmX1 hown hK hP hD hS 0 rfl rfl 0 (by decide) (hts (.fieldLink RX1 9 "HoldTwo$Law" "steps" "[I") (by decide +kernel)) (fun _ h9 => h9) rfl hin rfl (by decide +kernel) rfl rfl (Nat.le_of_ble_eq_true rfl) dX1_init_10 (fun H locs hP hD hS => ?_)
  have hP : va_P (dC, dI) classes [(h0, .inr (1, [.ref q_1, .null, .int 0, .int 0])), (q_1, .inl (k_2, 160, .inl (fun _ => 0)))] H := hP
  have hD : va_D A [(h0, .inr (1, [.ref q_1, .null, .int 0, .int 0])), (q_1, .inl (k_2, 160, .inl (fun _ => 0)))] := hD
  refine lv_aload_n hx hb dX1_init_13 rfl (lv_at hl 0 rfl) ?_
  refine lv_bipush (v := 64) hx hb dX1_init_14 (by decide) ?_
  refine va_newa (atype := .int) (ty := .int) (N' := 64) (a0 := (64, .inl (fun _ => 0))) hx hb (hts (.arrayClass .int) (by decide +kernel)) rfl hK hP hD hS hA (fun _ => rfl) (by decide) (by decide +kernel) (by decide +kernel) (Nat.le_of_ble_eq_true rfl) (Nat.le_of_ble_eq_true rfl) dX1_init_16 (fun q_3 k_4 H hK hP hD hS => ?_)
  have hP : va_P (dC, dI) classes [(h0, .inr (1, [.ref q_1, .null, .int 0, .int 0])), (q_1, .inl (k_2, 160, .inl (fun _ => 0))), (q_3, .inl (k_4, 64, .inl (fun _ => 0)))] H := hP
  have hD : va_D A [(h0, .inr (1, [.ref q_1, .null, .int 0, .int 0])), (q_1, .inl (k_2, 160, .inl (fun _ => 0))), (q_3, .inl (k_4, 64, .inl (fun _ => 0)))] := hD
  have hK : va_K (dC, dI) classes [(k_2, .int), (k_4, .int)] s := hK
  refine W.widen (k := 2) (n := 224) (Nat.le_of_ble_eq_true rfl) (Nat.le_of_ble_eq_true rfl) ?_
  refine va_putF (D := (dC, dI)) (ci := 1) (v := .ref q_3) (ty := .array .int) (C := RX1) (T := TX1) (N := 4) hx hb hts zi_X1_init_X1 tyX1 tyX1_ok nmX1 hown hK hP hD hS 0 rfl rfl 1 (by decide) (hts (.fieldLink RX1 15 "HoldTwo$Law" "stack" "[I") (by decide +kernel)) (fun _ h9 => h9) rfl hin rfl (by decide +kernel) rfl rfl (Nat.le_of_ble_eq_true rfl) dX1_init_18 (fun H locs hP hD hS => ?_)
  have hP : va_P (dC, dI) classes [(h0, .inr (1, [.ref q_1, .ref q_3, .int 0, .int 0])), (q_1, .inl (k_2, 160, .inl (fun _ => 0))), (q_3, .inl (k_4, 64, .inl (fun _ => 0)))] H := hP
  have hD : va_D A [(h0, .inr (1, [.ref q_1, .ref q_3, .int 0, .int 0])), (q_1, .inl (k_2, 160, .inl (fun _ => 0))), (q_3, .inl (k_4, 64, .inl (fun _ => 0)))] := hD
  refine lv_aload_n hx hb dX1_init_21 rfl (lv_at hl 0 rfl) ?_
  refine lv_iconst (v := 0) hx hb dX1_init_22 (by decide) ?_
  refine va_put (D := (dC, dI)) (ci := 1) (v := .int 0) (ty := .int) (C := RX1) (T := TX1) (N := 4) hx hb hts zi_X1_init_X1 tyX1 tyX1_ok nmX1 hown hK hP hD hS 0 rfl rfl 2 (by decide) (hts (.fieldLink RX1 18 "HoldTwo$Law" "length" "I") (by decide +kernel)) (fun _ h9 => h9) rfl (by decide +kernel) rfl rfl (Nat.le_of_ble_eq_true rfl) dX1_init_23 (fun H locs hP hD hS => ?_)
  have hP : va_P (dC, dI) classes [(h0, .inr (1, [.ref q_1, .ref q_3, .int 0, .int 0])), (q_1, .inl (k_2, 160, .inl (fun _ => 0))), (q_3, .inl (k_4, 64, .inl (fun _ => 0)))] H := hP
  have hD : va_D A [(h0, .inr (1, [.ref q_1, .ref q_3, .int 0, .int 0])), (q_1, .inl (k_2, 160, .inl (fun _ => 0))), (q_3, .inl (k_4, 64, .inl (fun _ => 0)))] := hD
  refine lv_aload_n hx hb dX1_init_26 rfl (lv_at hl 0 rfl) ?_
  refine lv_iconst (v := 0) hx hb dX1_init_27 (by decide) ?_
  refine va_put (D := (dC, dI)) (ci := 1) (v := .int 0) (ty := .int) (C := RX1) (T := TX1) (N := 4) hx hb hts zi_X1_init_X1 tyX1 tyX1_ok nmX1 hown hK hP hD hS 0 rfl rfl 3 (by decide) (hts (.fieldLink RX1 22 "HoldTwo$Law" "top" "I") (by decide +kernel)) (fun _ h9 => h9) rfl (by decide +kernel) rfl rfl (Nat.le_of_ble_eq_true rfl) dX1_init_28 (fun H locs hP hD hS => ?_)
  have hP : va_P (dC, dI) classes [(h0, .inr (1, [.ref q_1, .ref q_3, .int 0, .int 0])), (q_1, .inl (k_2, 160, .inl (fun _ => 0))), (q_3, .inl (k_4, 64, .inl (fun _ => 0)))] H := hP
  have hD : va_D A [(h0, .inr (1, [.ref q_1, .ref q_3, .int 0, .int 0])), (q_1, .inl (k_2, 160, .inl (fun _ => 0))), (q_3, .inl (k_4, 64, .inl (fun _ => 0)))] := hD
  have hP9 := hP.sub (ws' := [(h0, .inr (1, [.ref q_1, .ref q_3, .int 0, .int 0])), (q_1, .inl (k_2, 160, .inl (fun _ => 0)))]) [0, 1] rfl
  have hD9 := hD.sub (ws' := [(h0, .inr (1, [.ref q_1, .ref q_3, .int 0, .int 0])), (q_1, .inl (k_2, 160, .inl (fun _ => 0)))]) [0, 1] (by decide) rfl
  have hK9 := hK.sub (tys' := [(k_2, .int)]) [0] rfl
  refine W.widen (k := 2) (n := 224) (Nat.le_of_ble_eq_true rfl) (Nat.le_of_ble_eq_true rfl) ?_
  exact W.vret hx hb hr (fun t ht hW => ⟨⟨(), rfl, trivial, q_1, q_3, k_2, by rw [ht]; exact hP9, va_K.moved hW.alike hK9, hD9⟩, hS.F ht⟩) hS.2.2 dX1_init_31
set_option maxHeartbeats 8000000 in
set_option maxRecDepth 100000 in
theorem zk_X3_init (l : Launch) (dC : Nat → ClassId) (dI : Nat → Nat → Nat) (h0 : Nat) (sz : Nat) : Met l yX3_init wsX3_init ({ frames := 1, cells := 0, slots := 0, locals := 12 }) (va_Pc [.ref h0] (zw_P dC dI sz [] [])) (va_Qv (fun (_ : Unit) => True) (fun (_ : Unit) (t : State) => zw_Q dC dI (va_A [] sz) [] [] t) (va_A [] sz)) 0 0 (va_A [] sz) := by
  refine Met.ofW (cc := cX3_init) (maxL := 1) (ret := none) (by decide) rfl ?_
  intro p e s m args below meth c s₁ B hml hv
  obtain ⟨rfl, hsz, hP, hK, hD0, hN⟩ := hv
  have hx := B.exec
  have hb := B.bytes
  have hr := B.returns
  have hts := atoms_spec (ws := wsX3_init) B.pre
  have hown : s.vm.findClass RX3 = some m.cls := findClass_of_methodNamed B.named
  have hlocks := B.notSynchronized
  have hin : meth.name = "<init>" := (name_of_methodNamed B.named B.method).1
  subst hsz
  have hD := hD0.self (sz := s.heap.size)
  generalize hAe : va_A [] s.heap.size = A at hD ⊢
  have hA : ∀ q : Nat, s.heap.size ≤ q → A q := fun q h => by rw [← hAe]; exact Or.inr h
  have hP : va_P (dC, dI) classes [] s.heap := hP
  have hl := lv_entry ([.ref h0]) (n := 1) (Nat.le_of_ble_eq_true rfl)
  rw [lg_entry_eq]
  generalize (lg_sl ([.ref h0]) ++ List.replicate (1 - (lg_sl ([.ref h0])).length) Slot.unset).toArray = ls at hl ⊢
  have hl : lv_has ls 1 [(0, .ref h0)] := hl
  refine zw_start (fun H eH => ?_)
  have hP : va_P (dC, dI) classes [] H := by rw [eH]; exact hP
  have hS : va_S A s.heap H [] := by rw [eH]; exact va_S.rf
  refine lv_aload_n hx hb dX3_init_0 rfl (lv_at hl 0 rfl) ?_
  refine W.objInit hx hb hown (hts (.methodLink RX3 3 objectInit) (by decide +kernel)) (hts (.instanceMethod objectInit) (by decide +kernel)) (hts (.code objectInit ⟨#[0xb1]⟩ 1 none) (List.mem_of_getElem? (i := 3) rfl)) rfl (by rw [hml]; exact hl.1) rfl dX3_init_1 (Nat.le_of_ble_eq_true rfl) (Nat.le_of_ble_eq_true rfl) ?_
  refine W.eq (g2 := F0 m 4 ls []) rfl ?_
  have hP9 := hP.sub (ws' := []) [] rfl
  have hD9 := hD.sub (ws' := []) [] (by decide) rfl
  have hK9 := hK.sub (tys' := []) [] rfl
  refine W.widen (k := 0) (n := 0) (Nat.le_of_ble_eq_true rfl) (Nat.le_of_ble_eq_true rfl) ?_
  exact W.vret hx hb hr (fun t ht hW => ⟨⟨(), rfl, trivial, by rw [ht]; exact hP9, va_K.moved hW.alike hK9, hD9⟩, hS.F ht⟩) hS.2.2 dX3_init_4
set_option maxHeartbeats 8000000 in
set_option maxRecDepth 100000 in
theorem zk_X0_init (l : Launch) (dC : Nat → ClassId) (dI : Nat → Nat → Nat) (h0 : Nat) (sz : Nat) : Met l yX0_init wsX0_init ({ frames := 1, cells := 2, slots := 11, locals := 12 }) (va_Pc [.ref h0] (zw_P dC dI sz [] [(h0, .inr (0, [.null, .null, .int 0, .int 0, .int 0, .int 0, .int 0]))])) (va_Qv (fun (_ : Unit) => True) (fun (_ : Unit) (t : State) => ∃ y0 : Nat, ∃ y1 : Nat, ∃ kA2 : ClassId, ∃ kA3 : ClassId, zw_Q dC dI (va_A [(h0, .inr (0, [.null, .null, .int 0, .int 0, .int 0, .int 0, .int 0]))] sz) [(kA2, .int), (kA3, .int)] [(h0, .inr (0, [.ref y0, .ref y1, .int 0, .int 0, .int 0, .int 0, .int 0])), (y0, .inl (kA2, 9, .inl (fun _ => 0))), (y1, .inl (kA3, 2, .inl (fun _ => 0)))] t) (va_A [(h0, .inr (0, [.null, .null, .int 0, .int 0, .int 0, .int 0, .int 0]))] sz)) 2 11 (va_A [(h0, .inr (0, [.null, .null, .int 0, .int 0, .int 0, .int 0, .int 0]))] sz) := by
  refine Met.ofW (cc := cX0_init) (maxL := 1) (ret := none) (by decide) rfl ?_
  intro p e s m args below meth c s₁ B hml hv
  obtain ⟨rfl, hsz, hP, hK, hD0, hN⟩ := hv
  have hx := B.exec
  have hb := B.bytes
  have hr := B.returns
  have hts := atoms_spec (ws := wsX0_init) B.pre
  have hown : s.vm.findClass RX0 = some m.cls := findClass_of_methodNamed B.named
  have hlocks := B.notSynchronized
  have hin : meth.name = "<init>" := (name_of_methodNamed B.named B.method).1
  subst hsz
  have hD := hD0.self (sz := s.heap.size)
  generalize hAe : va_A [(h0, .inr (0, [.null, .null, .int 0, .int 0, .int 0, .int 0, .int 0]))] s.heap.size = A at hD ⊢
  have hA : ∀ q : Nat, s.heap.size ≤ q → A q := fun q h => by rw [← hAe]; exact Or.inr h
  have hP : va_P (dC, dI) classes [(h0, .inr (0, [.null, .null, .int 0, .int 0, .int 0, .int 0, .int 0]))] s.heap := hP
  have hl := lv_entry ([.ref h0]) (n := 1) (Nat.le_of_ble_eq_true rfl)
  rw [lg_entry_eq]
  generalize (lg_sl ([.ref h0]) ++ List.replicate (1 - (lg_sl ([.ref h0])).length) Slot.unset).toArray = ls at hl ⊢
  have hl : lv_has ls 1 [(0, .ref h0)] := hl
  refine zw_start (fun H eH => ?_)
  have hP : va_P (dC, dI) classes [(h0, .inr (0, [.null, .null, .int 0, .int 0, .int 0, .int 0, .int 0]))] H := by rw [eH]; exact hP
  have hS : va_S A s.heap H [] := by rw [eH]; exact va_S.rf
  refine lv_aload_n hx hb dX0_init_0 rfl (lv_at hl 0 rfl) ?_
  refine W.objInit hx hb hown (hts (.methodLink RX0 3 objectInit) (by decide +kernel)) (hts (.instanceMethod objectInit) (by decide +kernel)) (hts (.code objectInit ⟨#[0xb1]⟩ 1 none) (List.mem_of_getElem? (i := 3) rfl)) rfl (by rw [hml]; exact hl.1) rfl dX0_init_1 (Nat.le_of_ble_eq_true rfl) (Nat.le_of_ble_eq_true rfl) ?_
  refine W.eq (g2 := F0 m 4 ls []) rfl ?_
  refine lv_aload_n hx hb dX0_init_4 rfl (lv_at hl 0 rfl) ?_
  refine lv_bipush (v := 9) hx hb dX0_init_5 (by decide) ?_
  refine va_newa (atype := .int) (ty := .int) (N' := 9) (a0 := (9, .inl (fun _ => 0))) hx hb (hts (.arrayClass .int) (by decide +kernel)) rfl hK hP hD hS hA (fun _ => rfl) (by decide) (by decide +kernel) (by decide +kernel) (Nat.le_of_ble_eq_true rfl) (Nat.le_of_ble_eq_true rfl) dX0_init_7 (fun q_1 k_2 H hK hP hD hS => ?_)
  have hP : va_P (dC, dI) classes [(h0, .inr (0, [.null, .null, .int 0, .int 0, .int 0, .int 0, .int 0])), (q_1, .inl (k_2, 9, .inl (fun _ => 0)))] H := hP
  have hD : va_D A [(h0, .inr (0, [.null, .null, .int 0, .int 0, .int 0, .int 0, .int 0])), (q_1, .inl (k_2, 9, .inl (fun _ => 0)))] := hD
  have hK : va_K (dC, dI) classes [(k_2, .int)] s := hK
  refine W.widen (k := 1) (n := 9) (Nat.le_of_ble_eq_true rfl) (Nat.le_of_ble_eq_true rfl) ?_
  refine va_putF (D := (dC, dI)) (ci := 0) (v := .ref q_1) (ty := .array .int) (C := RX0) (T := TX0) (N := 7) hx hb hts zi_X0_init_X0 tyX0 tyX0_ok nmX0 hown hK hP hD hS 0 rfl rfl 0 (by decide) (hts (.fieldLink RX0 9 "HoldTwo$Game" "links" "[I") (by decide +kernel)) (fun _ h9 => h9) rfl hin rfl (by decide +kernel) rfl rfl (Nat.le_of_ble_eq_true rfl) dX0_init_9 (fun H locs hP hD hS => ?_)
  have hP : va_P (dC, dI) classes [(h0, .inr (0, [.ref q_1, .null, .int 0, .int 0, .int 0, .int 0, .int 0])), (q_1, .inl (k_2, 9, .inl (fun _ => 0)))] H := hP
  have hD : va_D A [(h0, .inr (0, [.ref q_1, .null, .int 0, .int 0, .int 0, .int 0, .int 0])), (q_1, .inl (k_2, 9, .inl (fun _ => 0)))] := hD
  refine lv_aload_n hx hb dX0_init_12 rfl (lv_at hl 0 rfl) ?_
  refine lv_iconst (v := 2) hx hb dX0_init_13 (by decide) ?_
  refine va_newa (atype := .int) (ty := .int) (N' := 2) (a0 := (2, .inl (fun _ => 0))) hx hb (hts (.arrayClass .int) (by decide +kernel)) rfl hK hP hD hS hA (fun _ => rfl) (by decide) (by decide +kernel) (by decide +kernel) (Nat.le_of_ble_eq_true rfl) (Nat.le_of_ble_eq_true rfl) dX0_init_14 (fun q_3 k_4 H hK hP hD hS => ?_)
  have hP : va_P (dC, dI) classes [(h0, .inr (0, [.ref q_1, .null, .int 0, .int 0, .int 0, .int 0, .int 0])), (q_1, .inl (k_2, 9, .inl (fun _ => 0))), (q_3, .inl (k_4, 2, .inl (fun _ => 0)))] H := hP
  have hD : va_D A [(h0, .inr (0, [.ref q_1, .null, .int 0, .int 0, .int 0, .int 0, .int 0])), (q_1, .inl (k_2, 9, .inl (fun _ => 0))), (q_3, .inl (k_4, 2, .inl (fun _ => 0)))] := hD
  have hK : va_K (dC, dI) classes [(k_2, .int), (k_4, .int)] s := hK
  refine W.widen (k := 2) (n := 11) (Nat.le_of_ble_eq_true rfl) (Nat.le_of_ble_eq_true rfl) ?_
  refine va_putF (D := (dC, dI)) (ci := 0) (v := .ref q_3) (ty := .array .int) (C := RX0) (T := TX0) (N := 7) hx hb hts zi_X0_init_X0 tyX0 tyX0_ok nmX0 hown hK hP hD hS 0 rfl rfl 1 (by decide) (hts (.fieldLink RX0 15 "HoldTwo$Game" "goals" "[I") (by decide +kernel)) (fun _ h9 => h9) rfl hin rfl (by decide +kernel) rfl rfl (Nat.le_of_ble_eq_true rfl) dX0_init_16 (fun H locs hP hD hS => ?_)
  have hP : va_P (dC, dI) classes [(h0, .inr (0, [.ref q_1, .ref q_3, .int 0, .int 0, .int 0, .int 0, .int 0])), (q_1, .inl (k_2, 9, .inl (fun _ => 0))), (q_3, .inl (k_4, 2, .inl (fun _ => 0)))] H := hP
  have hD : va_D A [(h0, .inr (0, [.ref q_1, .ref q_3, .int 0, .int 0, .int 0, .int 0, .int 0])), (q_1, .inl (k_2, 9, .inl (fun _ => 0))), (q_3, .inl (k_4, 2, .inl (fun _ => 0)))] := hD
  refine lv_aload_n hx hb dX0_init_19 rfl (lv_at hl 0 rfl) ?_
  refine lv_iconst (v := 0) hx hb dX0_init_20 (by decide) ?_
  refine va_put (D := (dC, dI)) (ci := 0) (v := .int 0) (ty := .int) (C := RX0) (T := TX0) (N := 7) hx hb hts zi_X0_init_X0 tyX0 tyX0_ok nmX0 hown hK hP hD hS 0 rfl rfl 2 (by decide) (hts (.fieldLink RX0 18 "HoldTwo$Game" "places" "I") (by decide +kernel)) (fun _ h9 => h9) rfl (by decide +kernel) rfl rfl (Nat.le_of_ble_eq_true rfl) dX0_init_21 (fun H locs hP hD hS => ?_)
  have hP : va_P (dC, dI) classes [(h0, .inr (0, [.ref q_1, .ref q_3, .int 0, .int 0, .int 0, .int 0, .int 0])), (q_1, .inl (k_2, 9, .inl (fun _ => 0))), (q_3, .inl (k_4, 2, .inl (fun _ => 0)))] H := hP
  have hD : va_D A [(h0, .inr (0, [.ref q_1, .ref q_3, .int 0, .int 0, .int 0, .int 0, .int 0])), (q_1, .inl (k_2, 9, .inl (fun _ => 0))), (q_3, .inl (k_4, 2, .inl (fun _ => 0)))] := hD
  refine lv_aload_n hx hb dX0_init_24 rfl (lv_at hl 0 rfl) ?_
  refine lv_iconst (v := 0) hx hb dX0_init_25 (by decide) ?_
  refine va_put (D := (dC, dI)) (ci := 0) (v := .int 0) (ty := .int) (C := RX0) (T := TX0) (N := 7) hx hb hts zi_X0_init_X0 tyX0 tyX0_ok nmX0 hown hK hP hD hS 0 rfl rfl 3 (by decide) (hts (.fieldLink RX0 22 "HoldTwo$Game" "start" "I") (by decide +kernel)) (fun _ h9 => h9) rfl (by decide +kernel) rfl rfl (Nat.le_of_ble_eq_true rfl) dX0_init_26 (fun H locs hP hD hS => ?_)
  have hP : va_P (dC, dI) classes [(h0, .inr (0, [.ref q_1, .ref q_3, .int 0, .int 0, .int 0, .int 0, .int 0])), (q_1, .inl (k_2, 9, .inl (fun _ => 0))), (q_3, .inl (k_4, 2, .inl (fun _ => 0)))] H := hP
  have hD : va_D A [(h0, .inr (0, [.ref q_1, .ref q_3, .int 0, .int 0, .int 0, .int 0, .int 0])), (q_1, .inl (k_2, 9, .inl (fun _ => 0))), (q_3, .inl (k_4, 2, .inl (fun _ => 0)))] := hD
  refine lv_aload_n hx hb dX0_init_29 rfl (lv_at hl 0 rfl) ?_
  refine lv_iconst (v := 0) hx hb dX0_init_30 (by decide) ?_
  refine va_put (D := (dC, dI)) (ci := 0) (v := .int 0) (ty := .boolean) (C := RX0) (T := TX0) (N := 7) hx hb hts zi_X0_init_X0 tyX0 tyX0_ok nmX0 hown hK hP hD hS 0 rfl rfl 4 (by decide) (hts (.fieldLink RX0 25 "HoldTwo$Game" "taking" "Z") (by decide +kernel)) (fun _ h9 => h9) rfl (by decide +kernel) rfl rfl (Nat.le_of_ble_eq_true rfl) dX0_init_31 (fun H locs hP hD hS => ?_)
  have hP : va_P (dC, dI) classes [(h0, .inr (0, [.ref q_1, .ref q_3, .int 0, .int 0, .int 0, .int 0, .int 0])), (q_1, .inl (k_2, 9, .inl (fun _ => 0))), (q_3, .inl (k_4, 2, .inl (fun _ => 0)))] H := hP
  have hD : va_D A [(h0, .inr (0, [.ref q_1, .ref q_3, .int 0, .int 0, .int 0, .int 0, .int 0])), (q_1, .inl (k_2, 9, .inl (fun _ => 0))), (q_3, .inl (k_4, 2, .inl (fun _ => 0)))] := hD
  refine lv_aload_n hx hb dX0_init_34 rfl (lv_at hl 0 rfl) ?_
  refine lv_iconst (v := 0) hx hb dX0_init_35 (by decide) ?_
  refine va_put (D := (dC, dI)) (ci := 0) (v := .int 0) (ty := .boolean) (C := RX0) (T := TX0) (N := 7) hx hb hts zi_X0_init_X0 tyX0 tyX0_ok nmX0 hown hK hP hD hS 0 rfl rfl 5 (by decide) (hts (.fieldLink RX0 29 "HoldTwo$Game" "passing" "Z") (by decide +kernel)) (fun _ h9 => h9) rfl (by decide +kernel) rfl rfl (Nat.le_of_ble_eq_true rfl) dX0_init_36 (fun H locs hP hD hS => ?_)
  have hP : va_P (dC, dI) classes [(h0, .inr (0, [.ref q_1, .ref q_3, .int 0, .int 0, .int 0, .int 0, .int 0])), (q_1, .inl (k_2, 9, .inl (fun _ => 0))), (q_3, .inl (k_4, 2, .inl (fun _ => 0)))] H := hP
  have hD : va_D A [(h0, .inr (0, [.ref q_1, .ref q_3, .int 0, .int 0, .int 0, .int 0, .int 0])), (q_1, .inl (k_2, 9, .inl (fun _ => 0))), (q_3, .inl (k_4, 2, .inl (fun _ => 0)))] := hD
  refine lv_aload_n hx hb dX0_init_39 rfl (lv_at hl 0 rfl) ?_
  refine lv_iconst (v := 0) hx hb dX0_init_40 (by decide) ?_
  refine va_put (D := (dC, dI)) (ci := 0) (v := .int 0) (ty := .boolean) (C := RX0) (T := TX0) (N := 7) hx hb hts zi_X0_init_X0 tyX0 tyX0_ok nmX0 hown hK hP hD hS 0 rfl rfl 6 (by decide) (hts (.fieldLink RX0 32 "HoldTwo$Game" "drawing" "Z") (by decide +kernel)) (fun _ h9 => h9) rfl (by decide +kernel) rfl rfl (Nat.le_of_ble_eq_true rfl) dX0_init_41 (fun H locs hP hD hS => ?_)
  have hP : va_P (dC, dI) classes [(h0, .inr (0, [.ref q_1, .ref q_3, .int 0, .int 0, .int 0, .int 0, .int 0])), (q_1, .inl (k_2, 9, .inl (fun _ => 0))), (q_3, .inl (k_4, 2, .inl (fun _ => 0)))] H := hP
  have hD : va_D A [(h0, .inr (0, [.ref q_1, .ref q_3, .int 0, .int 0, .int 0, .int 0, .int 0])), (q_1, .inl (k_2, 9, .inl (fun _ => 0))), (q_3, .inl (k_4, 2, .inl (fun _ => 0)))] := hD
  have hP9 := hP.sub (ws' := [(h0, .inr (0, [.ref q_1, .ref q_3, .int 0, .int 0, .int 0, .int 0, .int 0])), (q_1, .inl (k_2, 9, .inl (fun _ => 0))), (q_3, .inl (k_4, 2, .inl (fun _ => 0)))]) [0, 1, 2] rfl
  have hD9 := hD.sub (ws' := [(h0, .inr (0, [.ref q_1, .ref q_3, .int 0, .int 0, .int 0, .int 0, .int 0])), (q_1, .inl (k_2, 9, .inl (fun _ => 0))), (q_3, .inl (k_4, 2, .inl (fun _ => 0)))]) [0, 1, 2] (by decide) rfl
  have hK9 := hK.sub (tys' := [(k_2, .int), (k_4, .int)]) [0, 1] rfl
  refine W.widen (k := 2) (n := 11) (Nat.le_of_ble_eq_true rfl) (Nat.le_of_ble_eq_true rfl) ?_
  exact W.vret hx hb hr (fun t ht hW => ⟨⟨(), rfl, trivial, q_1, q_3, k_2, k_4, by rw [ht]; exact hP9, va_K.moved hW.alike hK9, hD9⟩, hS.F ht⟩) hS.2.2 dX0_init_44
set_option maxHeartbeats 8000000 in
set_option maxRecDepth 100000 in
theorem zk_X6_init (l : Launch) (dC : Nat → ClassId) (dI : Nat → Nat → Nat) (h0 : Nat) (sz : Nat) : Met l yX6_init wsX6_init ({ frames := 2, cells := 18, slots := 943, locals := 32 }) (va_Pc [.ref h0] (zw_P dC dI sz [] [(h0, .inr (6, [.null, .null, .null, .null, .int 0, .int 0, .int 0]))])) (va_Qv (fun (_ : Unit) => True) (fun (_ : Unit) (t : State) => ∃ y0 : Nat, ∃ y1 : Nat, ∃ y2 : Nat, ∃ y3 : Nat, ∃ y4 : Nat, ∃ y5 : Nat, zw_Q dC dI (va_A [(h0, .inr (6, [.null, .null, .null, .null, .int 0, .int 0, .int 0]))] sz) [] [(h0, .inr (6, [.ref y0, .ref y1, .ref y2, .ref y3, .int 0, .int (-1), .int (-1)])), (y3, .inr (0, [.ref y4, .ref y5, .int 0, .int 0, .int 0, .int 0, .int 0]))] t) (va_A [(h0, .inr (6, [.null, .null, .null, .null, .int 0, .int 0, .int 0]))] sz)) 18 943 (va_A [(h0, .inr (6, [.null, .null, .null, .null, .int 0, .int 0, .int 0]))] sz) := by
  refine Met.ofW (cc := cX6_init) (maxL := 2) (ret := none) (by decide) rfl ?_
  intro p e s m args below meth c s₁ B hml hv
  obtain ⟨rfl, hsz, hP, hK, hD0, hN⟩ := hv
  have hx := B.exec
  have hb := B.bytes
  have hr := B.returns
  have hts := atoms_spec (ws := wsX6_init) B.pre
  have hown : s.vm.findClass RX6 = some m.cls := findClass_of_methodNamed B.named
  have hlocks := B.notSynchronized
  have hin : meth.name = "<init>" := (name_of_methodNamed B.named B.method).1
  subst hsz
  have hD := hD0.self (sz := s.heap.size)
  generalize hAe : va_A [(h0, .inr (6, [.null, .null, .null, .null, .int 0, .int 0, .int 0]))] s.heap.size = A at hD ⊢
  have hA : ∀ q : Nat, s.heap.size ≤ q → A q := fun q h => by rw [← hAe]; exact Or.inr h
  have hP : va_P (dC, dI) classes [(h0, .inr (6, [.null, .null, .null, .null, .int 0, .int 0, .int 0]))] s.heap := hP
  have hl := lv_entry ([.ref h0]) (n := 2) (Nat.le_of_ble_eq_true rfl)
  rw [lg_entry_eq]
  generalize (lg_sl ([.ref h0]) ++ List.replicate (2 - (lg_sl ([.ref h0])).length) Slot.unset).toArray = ls at hl ⊢
  have hl : lv_has ls 2 [(0, .ref h0)] := hl
  refine zw_start (fun H eH => ?_)
  have hP : va_P (dC, dI) classes [(h0, .inr (6, [.null, .null, .null, .null, .int 0, .int 0, .int 0]))] H := by rw [eH]; exact hP
  have hS : va_S A s.heap H [] := by rw [eH]; exact va_S.rf
  refine lv_aload_n hx hb dX6_init_0 rfl (lv_at hl 0 rfl) ?_
  refine W.objInit hx hb hown (hts (.methodLink RX6 3 objectInit) (by decide +kernel)) (hts (.instanceMethod objectInit) (by decide +kernel)) (hts (.code objectInit ⟨#[0xb1]⟩ 1 none) (List.mem_of_getElem? (i := 3) rfl)) rfl (by rw [hml]; exact hl.1) rfl dX6_init_1 (Nat.le_of_ble_eq_true rfl) (Nat.le_of_ble_eq_true rfl) ?_
  refine W.eq (g2 := F0 m 4 ls []) rfl ?_
  refine lv_aload_n hx hb dX6_init_4 rfl (lv_at hl 0 rfl) ?_
  refine lv_iconst (v := 4) hx hb dX6_init_5 (by decide) ?_
  refine va_newq (C := RX1) (N' := 4) hx hb hown (hts (.classLink RX6 9 RX1) (by decide +kernel)) hN.2 hK hP hD hS hA (by decide) (by decide +kernel) (by decide +kernel) (Nat.le_of_ble_eq_true rfl) (Nat.le_of_ble_eq_true rfl) dX6_init_6 (fun q_1 k_2 H hK hP hD hS => ?_)
  have hP : va_P (dC, dI) classes [(h0, .inr (6, [.null, .null, .null, .null, .int 0, .int 0, .int 0])), (q_1, .inl (k_2, 4, .inr (.inr (.inr (.inr (fun _ => none))))))] H := hP
  have hD : va_D A [(h0, .inr (6, [.null, .null, .null, .null, .int 0, .int 0, .int 0])), (q_1, .inl (k_2, 4, .inr (.inr (.inr (.inr (fun _ => none))))))] := hD
  have hK : va_K (dC, dI) classes [(k_2, .object RX1)] s := hK
  refine W.widen (k := 1) (n := 4) (Nat.le_of_ble_eq_true rfl) (Nat.le_of_ble_eq_true rfl) ?_
  refine va_putF (D := (dC, dI)) (ci := 6) (v := .ref q_1) (ty := .array (.object "HoldTwo$Law")) (C := RX6) (T := TX6) (N := 7) hx hb hts zi_X6_init_X6 tyX6 tyX6_ok nmX6 hown hK hP hD hS 0 rfl rfl 0 (by decide) (hts (.fieldLink RX6 11 "HoldTwo$Referee" "laws" "[LHoldTwo$Law;") (by decide +kernel)) (fun _ h9 => h9) rfl hin rfl (by decide +kernel) rfl rfl (Nat.le_of_ble_eq_true rfl) dX6_init_9 (fun H locs hP hD hS => ?_)
  have hP : va_P (dC, dI) classes [(h0, .inr (6, [.ref q_1, .null, .null, .null, .int 0, .int 0, .int 0])), (q_1, .inl (k_2, 4, .inr (.inr (.inr (.inr (fun _ => none))))))] H := hP
  have hD : va_D A [(h0, .inr (6, [.ref q_1, .null, .null, .null, .int 0, .int 0, .int 0])), (q_1, .inl (k_2, 4, .inr (.inr (.inr (.inr (fun _ => none))))))] := hD
  refine lv_iconst (v := 0) hx hb dX6_init_12 (by decide) ?_
  refine lv_istore_n (lv' := [(1, .int 0), (0, .ref h0)]) hx hb dX6_init_13 rfl hl (by decide) rfl (fun ls hl => ?_)
  refine lv_iload_n hx hb dX6_init_14 rfl (lv_at hl 0 rfl) ?_
  refine lv_iconst (v := 4) hx hb dX6_init_15 (by decide) ?_
  refine lv_icmp_ge (tgt := 38) hx hb dX6_init_16 (by decide) (fun c9 => absurd c9 (by decide)) (fun _ => ?_)
  refine lv_aload_n hx hb dX6_init_19 rfl (lv_at hl 1 rfl) ?_
  refine va_get (D := (dC, dI)) (ci := 6) (v := .ref q_1) (C := RX6) (T := TX6) (N := 7) hx hb hts zi_X6_init_X6 hown hK hP 0 rfl rfl 0 (by decide) (hts (.fieldLink RX6 11 "HoldTwo$Referee" "laws" "[LHoldTwo$Law;") (by decide +kernel)) (fun _ h9 => h9) rfl dX6_init_20 ?_
  refine lv_iload_n hx hb dX6_init_23 rfl (lv_at hl 0 rfl) ?_
  refine va_new (ci := 1) (fs := [.null, .null, .int 0, .int 0]) (C := RX1) (T := TX1) (N := 4) hx hb hts zi_X6_init_X1 tyX1 tyX1_ok hown (hts (.classLink RX6 9 RX1) (by decide +kernel)) (hts (.instantiable RX1 4) (by decide +kernel)) (hts (.initialized RX1) (by decide +kernel)) hK hP hD hS hA rfl zv_X1 (Nat.le_of_ble_eq_true rfl) (Nat.le_of_ble_eq_true rfl) dX6_init_24 (fun q_3 H hP hD hS => ?_)
  have hP : va_P (dC, dI) classes [(h0, .inr (6, [.ref q_1, .null, .null, .null, .int 0, .int 0, .int 0])), (q_1, .inl (k_2, 4, .inr (.inr (.inr (.inr (fun _ => none)))))), (q_3, .inr (1, [.null, .null, .int 0, .int 0]))] H := hP
  have hD : va_D A [(h0, .inr (6, [.ref q_1, .null, .null, .null, .int 0, .int 0, .int 0])), (q_1, .inl (k_2, 4, .inr (.inr (.inr (.inr (fun _ => none)))))), (q_3, .inr (1, [.null, .null, .int 0, .int 0]))] := hD
  refine W.widen (k := 2) (n := 8) (Nat.le_of_ble_eq_true rfl) (Nat.le_of_ble_eq_true rfl) ?_
  refine lv_dup hx hb dX6_init_27 rfl ?_
  have hPc := hP.sub (ws' := [(q_3, .inr (1, [.null, .null, .int 0, .int 0]))]) [2] rfl
  have hDc := hD.sub (ws' := [(q_3, .inr (1, [.null, .null, .int 0, .int 0]))]) [2] (by decide) rfl
  have hKc := hK.sub (tys' := []) [] rfl
  have hFc := va_free (wc := [(q_3, .inr (1, [.null, .null, .int 0, .int 0]))]) hD hS hA [2] rfl
  refine va_callv (va_runI (As := []) (rest := [.ref q_3, .int 0, .ref q_1]) ⟨hx, hb, hml, hown, hts⟩ (zk_X1_init l dC dI (q_3) H.size) (cwI 0 hts gX6_init_X1_init rfl rfl rfl (hts (.initialized RX1) (by decide +kernel)) (hts (.methodLink RX6 17 yX1_init) (by decide +kernel)) (hts (.instanceMethod yX1_init) (by decide +kernel)) rfl (by decide +kernel) ⟨Nat.le_of_ble_eq_true rfl, Nat.le_of_ble_eq_true rfl⟩) ⟨zw_blind, fun U hU hW => ⟨rfl, zw_P.of hPc hKc hDc hN U hU hW⟩⟩ rfl rfl hl.1 rfl (lv_room (Nat.le_of_ble_eq_true rfl)) dX6_init_28 ⟨Nat.le_of_ble_eq_true rfl, Nat.le_of_ble_eq_true rfl⟩) hS (fun q _ h => hFc q h) hFc (fun u t H1 locs ht hvm hw hB hz1 hk1 hS => ?_)
  obtain ⟨q_5, q_6, k_7, hP1, hK1, hD1⟩ := hB
  rw [ht] at hP1
  obtain ⟨hP, hD⟩ := va_join (wr := [(h0, .inr (6, [.ref q_1, .null, .null, .null, .int 0, .int 0, .int 0])), (q_1, .inl (k_2, 4, .inr (.inr (.inr (.inr (fun _ => none))))))]) (w1 := [(q_3, .inr (1, [.ref q_5, .ref q_6, .int 0, .int 0])), (q_5, .inl (k_7, 160, .inl (fun _ => 0)))]) hP hD [2] [0, 1] rfl rfl (by decide) (by decide) hk1 hFc hP1 hD1
  have hK := hK.app (va_K.moved hvm.symm hK1)
  have hK : va_K (dC, dI) classes [(k_2, .object RX1), (k_7, .int)] s := hK
  generalize H1 = H at hP hS ⊢
  have hP : va_P (dC, dI) classes [(h0, .inr (6, [.ref q_1, .null, .null, .null, .int 0, .int 0, .int 0])), (q_1, .inl (k_2, 4, .inr (.inr (.inr (.inr (fun _ => none)))))), (q_3, .inr (1, [.ref q_5, .ref q_6, .int 0, .int 0])), (q_5, .inl (k_7, 160, .inl (fun _ => 0)))] H := hP
  have hD : va_D A [(h0, .inr (6, [.ref q_1, .null, .null, .null, .int 0, .int 0, .int 0])), (q_1, .inl (k_2, 4, .inr (.inr (.inr (.inr (fun _ => none)))))), (q_3, .inr (1, [.ref q_5, .ref q_6, .int 0, .int 0])), (q_5, .inl (k_7, 160, .inl (fun _ => 0)))] := hD
  refine W.widen (k := 4) (n := 232) (Nat.le_of_ble_eq_true rfl) (Nat.le_of_ble_eq_true rfl) ?_
  refine va_astq hx hb hK hP hD hS 1 0 2 1 rfl rfl rfl rfl (vp_in_iff.mpr ⟨by decide, by decide⟩) dX6_init_31 (fun H locs hP hD hS => ?_)
  obtain ⟨f_8, ef_8⟩ : ∃ f9 : Nat → Option Nat, f9 = va_up (fun _ => none) (0 : Int32).toNatClampNeg (some q_3) := ⟨_, rfl⟩
  rw [← ef_8] at hP hD
  have hP : va_P (dC, dI) classes [(h0, .inr (6, [.ref q_1, .null, .null, .null, .int 0, .int 0, .int 0])), (q_1, .inl (k_2, 4, .inr (.inr (.inr (.inr (f_8)))))), (q_3, .inr (1, [.ref q_5, .ref q_6, .int 0, .int 0])), (q_5, .inl (k_7, 160, .inl (fun _ => 0)))] H := hP
  have hD : va_D A [(h0, .inr (6, [.ref q_1, .null, .null, .null, .int 0, .int 0, .int 0])), (q_1, .inl (k_2, 4, .inr (.inr (.inr (.inr (f_8)))))), (q_3, .inr (1, [.ref q_5, .ref q_6, .int 0, .int 0])), (q_5, .inl (k_7, 160, .inl (fun _ => 0)))] := hD
  refine lv_iinc (v := 1) (lv' := [(1, .int 1), (0, .ref h0)]) hx hb dX6_init_32 hl (k := 0) rfl (by decide) (by decide) rfl (fun ls hl => ?_)
  refine lv_goto (tgt := 14) hx hb dX6_init_35 (by decide) ?_
  refine lv_iload_n hx hb dX6_init_14 rfl (lv_at hl 0 rfl) ?_
  refine lv_iconst (v := 4) hx hb dX6_init_15 (by decide) ?_
  refine lv_icmp_ge (tgt := 38) hx hb dX6_init_16 (by decide) (fun c9 => absurd c9 (by decide)) (fun _ => ?_)
  refine lv_aload_n hx hb dX6_init_19 rfl (lv_at hl 1 rfl) ?_
  refine va_get (D := (dC, dI)) (ci := 6) (v := .ref q_1) (C := RX6) (T := TX6) (N := 7) hx hb hts zi_X6_init_X6 hown hK hP 0 rfl rfl 0 (by decide) (hts (.fieldLink RX6 11 "HoldTwo$Referee" "laws" "[LHoldTwo$Law;") (by decide +kernel)) (fun _ h9 => h9) rfl dX6_init_20 ?_
  refine lv_iload_n hx hb dX6_init_23 rfl (lv_at hl 0 rfl) ?_
  refine va_new (ci := 1) (fs := [.null, .null, .int 0, .int 0]) (C := RX1) (T := TX1) (N := 4) hx hb hts zi_X6_init_X1 tyX1 tyX1_ok hown (hts (.classLink RX6 9 RX1) (by decide +kernel)) (hts (.instantiable RX1 4) (by decide +kernel)) (hts (.initialized RX1) (by decide +kernel)) hK hP hD hS hA rfl zv_X1 (Nat.le_of_ble_eq_true rfl) (Nat.le_of_ble_eq_true rfl) dX6_init_24 (fun q_9 H hP hD hS => ?_)
  have hP : va_P (dC, dI) classes [(h0, .inr (6, [.ref q_1, .null, .null, .null, .int 0, .int 0, .int 0])), (q_1, .inl (k_2, 4, .inr (.inr (.inr (.inr (f_8)))))), (q_3, .inr (1, [.ref q_5, .ref q_6, .int 0, .int 0])), (q_5, .inl (k_7, 160, .inl (fun _ => 0))), (q_9, .inr (1, [.null, .null, .int 0, .int 0]))] H := hP
  have hD : va_D A [(h0, .inr (6, [.ref q_1, .null, .null, .null, .int 0, .int 0, .int 0])), (q_1, .inl (k_2, 4, .inr (.inr (.inr (.inr (f_8)))))), (q_3, .inr (1, [.ref q_5, .ref q_6, .int 0, .int 0])), (q_5, .inl (k_7, 160, .inl (fun _ => 0))), (q_9, .inr (1, [.null, .null, .int 0, .int 0]))] := hD
  refine W.widen (k := 5) (n := 236) (Nat.le_of_ble_eq_true rfl) (Nat.le_of_ble_eq_true rfl) ?_
  refine lv_dup hx hb dX6_init_27 rfl ?_
  have hPc := hP.sub (ws' := [(q_9, .inr (1, [.null, .null, .int 0, .int 0]))]) [4] rfl
  have hDc := hD.sub (ws' := [(q_9, .inr (1, [.null, .null, .int 0, .int 0]))]) [4] (by decide) rfl
  have hKc := hK.sub (tys' := []) [] rfl
  have hFc := va_free (wc := [(q_9, .inr (1, [.null, .null, .int 0, .int 0]))]) hD hS hA [4] rfl
  refine va_callv (va_runI (As := []) (rest := [.ref q_9, .int 1, .ref q_1]) ⟨hx, hb, hml, hown, hts⟩ (zk_X1_init l dC dI (q_9) H.size) (cwI 0 hts gX6_init_X1_init rfl rfl rfl (hts (.initialized RX1) (by decide +kernel)) (hts (.methodLink RX6 17 yX1_init) (by decide +kernel)) (hts (.instanceMethod yX1_init) (by decide +kernel)) rfl (by decide +kernel) ⟨Nat.le_of_ble_eq_true rfl, Nat.le_of_ble_eq_true rfl⟩) ⟨zw_blind, fun U hU hW => ⟨rfl, zw_P.of hPc hKc hDc hN U hU hW⟩⟩ rfl rfl hl.1 rfl (lv_room (Nat.le_of_ble_eq_true rfl)) dX6_init_28 ⟨Nat.le_of_ble_eq_true rfl, Nat.le_of_ble_eq_true rfl⟩) hS (fun q _ h => hFc q h) hFc (fun u t H1 locs ht hvm hw hB hz1 hk1 hS => ?_)
  obtain ⟨q_11, q_12, k_13, hP1, hK1, hD1⟩ := hB
  rw [ht] at hP1
  obtain ⟨hP, hD⟩ := va_join (wr := [(h0, .inr (6, [.ref q_1, .null, .null, .null, .int 0, .int 0, .int 0])), (q_1, .inl (k_2, 4, .inr (.inr (.inr (.inr (f_8)))))), (q_3, .inr (1, [.ref q_5, .ref q_6, .int 0, .int 0])), (q_5, .inl (k_7, 160, .inl (fun _ => 0)))]) (w1 := [(q_9, .inr (1, [.ref q_11, .ref q_12, .int 0, .int 0])), (q_11, .inl (k_13, 160, .inl (fun _ => 0)))]) hP hD [4] [0, 1, 2, 3] rfl rfl (by decide) (by decide) hk1 hFc hP1 hD1
  have hK := hK.app (va_K.moved hvm.symm hK1)
  have hK : va_K (dC, dI) classes [(k_2, .object RX1), (k_7, .int), (k_13, .int)] s := hK
  generalize H1 = H at hP hS ⊢
  have hP : va_P (dC, dI) classes [(h0, .inr (6, [.ref q_1, .null, .null, .null, .int 0, .int 0, .int 0])), (q_1, .inl (k_2, 4, .inr (.inr (.inr (.inr (f_8)))))), (q_3, .inr (1, [.ref q_5, .ref q_6, .int 0, .int 0])), (q_5, .inl (k_7, 160, .inl (fun _ => 0))), (q_9, .inr (1, [.ref q_11, .ref q_12, .int 0, .int 0])), (q_11, .inl (k_13, 160, .inl (fun _ => 0)))] H := hP
  have hD : va_D A [(h0, .inr (6, [.ref q_1, .null, .null, .null, .int 0, .int 0, .int 0])), (q_1, .inl (k_2, 4, .inr (.inr (.inr (.inr (f_8)))))), (q_3, .inr (1, [.ref q_5, .ref q_6, .int 0, .int 0])), (q_5, .inl (k_7, 160, .inl (fun _ => 0))), (q_9, .inr (1, [.ref q_11, .ref q_12, .int 0, .int 0])), (q_11, .inl (k_13, 160, .inl (fun _ => 0)))] := hD
  refine W.widen (k := 7) (n := 460) (Nat.le_of_ble_eq_true rfl) (Nat.le_of_ble_eq_true rfl) ?_
  refine va_astq hx hb hK hP hD hS 1 0 4 1 rfl rfl rfl rfl (vp_in_iff.mpr ⟨by decide, by decide⟩) dX6_init_31 (fun H locs hP hD hS => ?_)
  obtain ⟨f_14, ef_14⟩ : ∃ f9 : Nat → Option Nat, f9 = va_up (f_8) (1 : Int32).toNatClampNeg (some q_9) := ⟨_, rfl⟩
  rw [← ef_14] at hP hD
  have hP : va_P (dC, dI) classes [(h0, .inr (6, [.ref q_1, .null, .null, .null, .int 0, .int 0, .int 0])), (q_1, .inl (k_2, 4, .inr (.inr (.inr (.inr (f_14)))))), (q_3, .inr (1, [.ref q_5, .ref q_6, .int 0, .int 0])), (q_5, .inl (k_7, 160, .inl (fun _ => 0))), (q_9, .inr (1, [.ref q_11, .ref q_12, .int 0, .int 0])), (q_11, .inl (k_13, 160, .inl (fun _ => 0)))] H := hP
  have hD : va_D A [(h0, .inr (6, [.ref q_1, .null, .null, .null, .int 0, .int 0, .int 0])), (q_1, .inl (k_2, 4, .inr (.inr (.inr (.inr (f_14)))))), (q_3, .inr (1, [.ref q_5, .ref q_6, .int 0, .int 0])), (q_5, .inl (k_7, 160, .inl (fun _ => 0))), (q_9, .inr (1, [.ref q_11, .ref q_12, .int 0, .int 0])), (q_11, .inl (k_13, 160, .inl (fun _ => 0)))] := hD
  refine lv_iinc (v := 2) (lv' := [(1, .int 2), (0, .ref h0)]) hx hb dX6_init_32 hl (k := 0) rfl (by decide) (by decide) rfl (fun ls hl => ?_)
  refine lv_goto (tgt := 14) hx hb dX6_init_35 (by decide) ?_
  refine lv_iload_n hx hb dX6_init_14 rfl (lv_at hl 0 rfl) ?_
  refine lv_iconst (v := 4) hx hb dX6_init_15 (by decide) ?_
  refine lv_icmp_ge (tgt := 38) hx hb dX6_init_16 (by decide) (fun c9 => absurd c9 (by decide)) (fun _ => ?_)
  refine lv_aload_n hx hb dX6_init_19 rfl (lv_at hl 1 rfl) ?_
  refine va_get (D := (dC, dI)) (ci := 6) (v := .ref q_1) (C := RX6) (T := TX6) (N := 7) hx hb hts zi_X6_init_X6 hown hK hP 0 rfl rfl 0 (by decide) (hts (.fieldLink RX6 11 "HoldTwo$Referee" "laws" "[LHoldTwo$Law;") (by decide +kernel)) (fun _ h9 => h9) rfl dX6_init_20 ?_
  refine lv_iload_n hx hb dX6_init_23 rfl (lv_at hl 0 rfl) ?_
  refine va_new (ci := 1) (fs := [.null, .null, .int 0, .int 0]) (C := RX1) (T := TX1) (N := 4) hx hb hts zi_X6_init_X1 tyX1 tyX1_ok hown (hts (.classLink RX6 9 RX1) (by decide +kernel)) (hts (.instantiable RX1 4) (by decide +kernel)) (hts (.initialized RX1) (by decide +kernel)) hK hP hD hS hA rfl zv_X1 (Nat.le_of_ble_eq_true rfl) (Nat.le_of_ble_eq_true rfl) dX6_init_24 (fun q_15 H hP hD hS => ?_)
  have hP : va_P (dC, dI) classes [(h0, .inr (6, [.ref q_1, .null, .null, .null, .int 0, .int 0, .int 0])), (q_1, .inl (k_2, 4, .inr (.inr (.inr (.inr (f_14)))))), (q_3, .inr (1, [.ref q_5, .ref q_6, .int 0, .int 0])), (q_5, .inl (k_7, 160, .inl (fun _ => 0))), (q_9, .inr (1, [.ref q_11, .ref q_12, .int 0, .int 0])), (q_11, .inl (k_13, 160, .inl (fun _ => 0))), (q_15, .inr (1, [.null, .null, .int 0, .int 0]))] H := hP
  have hD : va_D A [(h0, .inr (6, [.ref q_1, .null, .null, .null, .int 0, .int 0, .int 0])), (q_1, .inl (k_2, 4, .inr (.inr (.inr (.inr (f_14)))))), (q_3, .inr (1, [.ref q_5, .ref q_6, .int 0, .int 0])), (q_5, .inl (k_7, 160, .inl (fun _ => 0))), (q_9, .inr (1, [.ref q_11, .ref q_12, .int 0, .int 0])), (q_11, .inl (k_13, 160, .inl (fun _ => 0))), (q_15, .inr (1, [.null, .null, .int 0, .int 0]))] := hD
  refine W.widen (k := 8) (n := 464) (Nat.le_of_ble_eq_true rfl) (Nat.le_of_ble_eq_true rfl) ?_
  refine lv_dup hx hb dX6_init_27 rfl ?_
  have hPc := hP.sub (ws' := [(q_15, .inr (1, [.null, .null, .int 0, .int 0]))]) [6] rfl
  have hDc := hD.sub (ws' := [(q_15, .inr (1, [.null, .null, .int 0, .int 0]))]) [6] (by decide) rfl
  have hKc := hK.sub (tys' := []) [] rfl
  have hFc := va_free (wc := [(q_15, .inr (1, [.null, .null, .int 0, .int 0]))]) hD hS hA [6] rfl
  refine va_callv (va_runI (As := []) (rest := [.ref q_15, .int 2, .ref q_1]) ⟨hx, hb, hml, hown, hts⟩ (zk_X1_init l dC dI (q_15) H.size) (cwI 0 hts gX6_init_X1_init rfl rfl rfl (hts (.initialized RX1) (by decide +kernel)) (hts (.methodLink RX6 17 yX1_init) (by decide +kernel)) (hts (.instanceMethod yX1_init) (by decide +kernel)) rfl (by decide +kernel) ⟨Nat.le_of_ble_eq_true rfl, Nat.le_of_ble_eq_true rfl⟩) ⟨zw_blind, fun U hU hW => ⟨rfl, zw_P.of hPc hKc hDc hN U hU hW⟩⟩ rfl rfl hl.1 rfl (lv_room (Nat.le_of_ble_eq_true rfl)) dX6_init_28 ⟨Nat.le_of_ble_eq_true rfl, Nat.le_of_ble_eq_true rfl⟩) hS (fun q _ h => hFc q h) hFc (fun u t H1 locs ht hvm hw hB hz1 hk1 hS => ?_)
  obtain ⟨q_17, q_18, k_19, hP1, hK1, hD1⟩ := hB
  rw [ht] at hP1
  obtain ⟨hP, hD⟩ := va_join (wr := [(h0, .inr (6, [.ref q_1, .null, .null, .null, .int 0, .int 0, .int 0])), (q_1, .inl (k_2, 4, .inr (.inr (.inr (.inr (f_14)))))), (q_3, .inr (1, [.ref q_5, .ref q_6, .int 0, .int 0])), (q_5, .inl (k_7, 160, .inl (fun _ => 0))), (q_9, .inr (1, [.ref q_11, .ref q_12, .int 0, .int 0])), (q_11, .inl (k_13, 160, .inl (fun _ => 0)))]) (w1 := [(q_15, .inr (1, [.ref q_17, .ref q_18, .int 0, .int 0])), (q_17, .inl (k_19, 160, .inl (fun _ => 0)))]) hP hD [6] [0, 1, 2, 3, 4, 5] rfl rfl (by decide) (by decide) hk1 hFc hP1 hD1
  have hK := hK.app (va_K.moved hvm.symm hK1)
  have hK : va_K (dC, dI) classes [(k_2, .object RX1), (k_7, .int), (k_13, .int), (k_19, .int)] s := hK
  generalize H1 = H at hP hS ⊢
  have hP : va_P (dC, dI) classes [(h0, .inr (6, [.ref q_1, .null, .null, .null, .int 0, .int 0, .int 0])), (q_1, .inl (k_2, 4, .inr (.inr (.inr (.inr (f_14)))))), (q_3, .inr (1, [.ref q_5, .ref q_6, .int 0, .int 0])), (q_5, .inl (k_7, 160, .inl (fun _ => 0))), (q_9, .inr (1, [.ref q_11, .ref q_12, .int 0, .int 0])), (q_11, .inl (k_13, 160, .inl (fun _ => 0))), (q_15, .inr (1, [.ref q_17, .ref q_18, .int 0, .int 0])), (q_17, .inl (k_19, 160, .inl (fun _ => 0)))] H := hP
  have hD : va_D A [(h0, .inr (6, [.ref q_1, .null, .null, .null, .int 0, .int 0, .int 0])), (q_1, .inl (k_2, 4, .inr (.inr (.inr (.inr (f_14)))))), (q_3, .inr (1, [.ref q_5, .ref q_6, .int 0, .int 0])), (q_5, .inl (k_7, 160, .inl (fun _ => 0))), (q_9, .inr (1, [.ref q_11, .ref q_12, .int 0, .int 0])), (q_11, .inl (k_13, 160, .inl (fun _ => 0))), (q_15, .inr (1, [.ref q_17, .ref q_18, .int 0, .int 0])), (q_17, .inl (k_19, 160, .inl (fun _ => 0)))] := hD
  refine W.widen (k := 10) (n := 688) (Nat.le_of_ble_eq_true rfl) (Nat.le_of_ble_eq_true rfl) ?_
  refine va_astq hx hb hK hP hD hS 1 0 6 1 rfl rfl rfl rfl (vp_in_iff.mpr ⟨by decide, by decide⟩) dX6_init_31 (fun H locs hP hD hS => ?_)
  obtain ⟨f_20, ef_20⟩ : ∃ f9 : Nat → Option Nat, f9 = va_up (f_14) (2 : Int32).toNatClampNeg (some q_15) := ⟨_, rfl⟩
  rw [← ef_20] at hP hD
  have hP : va_P (dC, dI) classes [(h0, .inr (6, [.ref q_1, .null, .null, .null, .int 0, .int 0, .int 0])), (q_1, .inl (k_2, 4, .inr (.inr (.inr (.inr (f_20)))))), (q_3, .inr (1, [.ref q_5, .ref q_6, .int 0, .int 0])), (q_5, .inl (k_7, 160, .inl (fun _ => 0))), (q_9, .inr (1, [.ref q_11, .ref q_12, .int 0, .int 0])), (q_11, .inl (k_13, 160, .inl (fun _ => 0))), (q_15, .inr (1, [.ref q_17, .ref q_18, .int 0, .int 0])), (q_17, .inl (k_19, 160, .inl (fun _ => 0)))] H := hP
  have hD : va_D A [(h0, .inr (6, [.ref q_1, .null, .null, .null, .int 0, .int 0, .int 0])), (q_1, .inl (k_2, 4, .inr (.inr (.inr (.inr (f_20)))))), (q_3, .inr (1, [.ref q_5, .ref q_6, .int 0, .int 0])), (q_5, .inl (k_7, 160, .inl (fun _ => 0))), (q_9, .inr (1, [.ref q_11, .ref q_12, .int 0, .int 0])), (q_11, .inl (k_13, 160, .inl (fun _ => 0))), (q_15, .inr (1, [.ref q_17, .ref q_18, .int 0, .int 0])), (q_17, .inl (k_19, 160, .inl (fun _ => 0)))] := hD
  refine lv_iinc (v := 3) (lv' := [(1, .int 3), (0, .ref h0)]) hx hb dX6_init_32 hl (k := 0) rfl (by decide) (by decide) rfl (fun ls hl => ?_)
  refine lv_goto (tgt := 14) hx hb dX6_init_35 (by decide) ?_
  refine lv_iload_n hx hb dX6_init_14 rfl (lv_at hl 0 rfl) ?_
  refine lv_iconst (v := 4) hx hb dX6_init_15 (by decide) ?_
  refine lv_icmp_ge (tgt := 38) hx hb dX6_init_16 (by decide) (fun c9 => absurd c9 (by decide)) (fun _ => ?_)
  refine lv_aload_n hx hb dX6_init_19 rfl (lv_at hl 1 rfl) ?_
  refine va_get (D := (dC, dI)) (ci := 6) (v := .ref q_1) (C := RX6) (T := TX6) (N := 7) hx hb hts zi_X6_init_X6 hown hK hP 0 rfl rfl 0 (by decide) (hts (.fieldLink RX6 11 "HoldTwo$Referee" "laws" "[LHoldTwo$Law;") (by decide +kernel)) (fun _ h9 => h9) rfl dX6_init_20 ?_
  refine lv_iload_n hx hb dX6_init_23 rfl (lv_at hl 0 rfl) ?_
  refine va_new (ci := 1) (fs := [.null, .null, .int 0, .int 0]) (C := RX1) (T := TX1) (N := 4) hx hb hts zi_X6_init_X1 tyX1 tyX1_ok hown (hts (.classLink RX6 9 RX1) (by decide +kernel)) (hts (.instantiable RX1 4) (by decide +kernel)) (hts (.initialized RX1) (by decide +kernel)) hK hP hD hS hA rfl zv_X1 (Nat.le_of_ble_eq_true rfl) (Nat.le_of_ble_eq_true rfl) dX6_init_24 (fun q_21 H hP hD hS => ?_)
  have hP : va_P (dC, dI) classes [(h0, .inr (6, [.ref q_1, .null, .null, .null, .int 0, .int 0, .int 0])), (q_1, .inl (k_2, 4, .inr (.inr (.inr (.inr (f_20)))))), (q_3, .inr (1, [.ref q_5, .ref q_6, .int 0, .int 0])), (q_5, .inl (k_7, 160, .inl (fun _ => 0))), (q_9, .inr (1, [.ref q_11, .ref q_12, .int 0, .int 0])), (q_11, .inl (k_13, 160, .inl (fun _ => 0))), (q_15, .inr (1, [.ref q_17, .ref q_18, .int 0, .int 0])), (q_17, .inl (k_19, 160, .inl (fun _ => 0))), (q_21, .inr (1, [.null, .null, .int 0, .int 0]))] H := hP
  have hD : va_D A [(h0, .inr (6, [.ref q_1, .null, .null, .null, .int 0, .int 0, .int 0])), (q_1, .inl (k_2, 4, .inr (.inr (.inr (.inr (f_20)))))), (q_3, .inr (1, [.ref q_5, .ref q_6, .int 0, .int 0])), (q_5, .inl (k_7, 160, .inl (fun _ => 0))), (q_9, .inr (1, [.ref q_11, .ref q_12, .int 0, .int 0])), (q_11, .inl (k_13, 160, .inl (fun _ => 0))), (q_15, .inr (1, [.ref q_17, .ref q_18, .int 0, .int 0])), (q_17, .inl (k_19, 160, .inl (fun _ => 0))), (q_21, .inr (1, [.null, .null, .int 0, .int 0]))] := hD
  refine W.widen (k := 11) (n := 692) (Nat.le_of_ble_eq_true rfl) (Nat.le_of_ble_eq_true rfl) ?_
  refine lv_dup hx hb dX6_init_27 rfl ?_
  have hPc := hP.sub (ws' := [(q_21, .inr (1, [.null, .null, .int 0, .int 0]))]) [8] rfl
  have hDc := hD.sub (ws' := [(q_21, .inr (1, [.null, .null, .int 0, .int 0]))]) [8] (by decide) rfl
  have hKc := hK.sub (tys' := []) [] rfl
  have hFc := va_free (wc := [(q_21, .inr (1, [.null, .null, .int 0, .int 0]))]) hD hS hA [8] rfl
  refine va_callv (va_runI (As := []) (rest := [.ref q_21, .int 3, .ref q_1]) ⟨hx, hb, hml, hown, hts⟩ (zk_X1_init l dC dI (q_21) H.size) (cwI 0 hts gX6_init_X1_init rfl rfl rfl (hts (.initialized RX1) (by decide +kernel)) (hts (.methodLink RX6 17 yX1_init) (by decide +kernel)) (hts (.instanceMethod yX1_init) (by decide +kernel)) rfl (by decide +kernel) ⟨Nat.le_of_ble_eq_true rfl, Nat.le_of_ble_eq_true rfl⟩) ⟨zw_blind, fun U hU hW => ⟨rfl, zw_P.of hPc hKc hDc hN U hU hW⟩⟩ rfl rfl hl.1 rfl (lv_room (Nat.le_of_ble_eq_true rfl)) dX6_init_28 ⟨Nat.le_of_ble_eq_true rfl, Nat.le_of_ble_eq_true rfl⟩) hS (fun q _ h => hFc q h) hFc (fun u t H1 locs ht hvm hw hB hz1 hk1 hS => ?_)
  obtain ⟨q_23, q_24, k_25, hP1, hK1, hD1⟩ := hB
  rw [ht] at hP1
  obtain ⟨hP, hD⟩ := va_join (wr := [(h0, .inr (6, [.ref q_1, .null, .null, .null, .int 0, .int 0, .int 0])), (q_1, .inl (k_2, 4, .inr (.inr (.inr (.inr (f_20)))))), (q_3, .inr (1, [.ref q_5, .ref q_6, .int 0, .int 0])), (q_5, .inl (k_7, 160, .inl (fun _ => 0))), (q_9, .inr (1, [.ref q_11, .ref q_12, .int 0, .int 0])), (q_11, .inl (k_13, 160, .inl (fun _ => 0))), (q_15, .inr (1, [.ref q_17, .ref q_18, .int 0, .int 0])), (q_17, .inl (k_19, 160, .inl (fun _ => 0)))]) (w1 := [(q_21, .inr (1, [.ref q_23, .ref q_24, .int 0, .int 0])), (q_23, .inl (k_25, 160, .inl (fun _ => 0)))]) hP hD [8] [0, 1, 2, 3, 4, 5, 6, 7] rfl rfl (by decide) (by decide) hk1 hFc hP1 hD1
  have hK := hK.app (va_K.moved hvm.symm hK1)
  have hK : va_K (dC, dI) classes [(k_2, .object RX1), (k_7, .int), (k_13, .int), (k_19, .int), (k_25, .int)] s := hK
  generalize H1 = H at hP hS ⊢
  have hP : va_P (dC, dI) classes [(h0, .inr (6, [.ref q_1, .null, .null, .null, .int 0, .int 0, .int 0])), (q_1, .inl (k_2, 4, .inr (.inr (.inr (.inr (f_20)))))), (q_3, .inr (1, [.ref q_5, .ref q_6, .int 0, .int 0])), (q_5, .inl (k_7, 160, .inl (fun _ => 0))), (q_9, .inr (1, [.ref q_11, .ref q_12, .int 0, .int 0])), (q_11, .inl (k_13, 160, .inl (fun _ => 0))), (q_15, .inr (1, [.ref q_17, .ref q_18, .int 0, .int 0])), (q_17, .inl (k_19, 160, .inl (fun _ => 0))), (q_21, .inr (1, [.ref q_23, .ref q_24, .int 0, .int 0])), (q_23, .inl (k_25, 160, .inl (fun _ => 0)))] H := hP
  have hD : va_D A [(h0, .inr (6, [.ref q_1, .null, .null, .null, .int 0, .int 0, .int 0])), (q_1, .inl (k_2, 4, .inr (.inr (.inr (.inr (f_20)))))), (q_3, .inr (1, [.ref q_5, .ref q_6, .int 0, .int 0])), (q_5, .inl (k_7, 160, .inl (fun _ => 0))), (q_9, .inr (1, [.ref q_11, .ref q_12, .int 0, .int 0])), (q_11, .inl (k_13, 160, .inl (fun _ => 0))), (q_15, .inr (1, [.ref q_17, .ref q_18, .int 0, .int 0])), (q_17, .inl (k_19, 160, .inl (fun _ => 0))), (q_21, .inr (1, [.ref q_23, .ref q_24, .int 0, .int 0])), (q_23, .inl (k_25, 160, .inl (fun _ => 0)))] := hD
  refine W.widen (k := 13) (n := 916) (Nat.le_of_ble_eq_true rfl) (Nat.le_of_ble_eq_true rfl) ?_
  refine va_astq hx hb hK hP hD hS 1 0 8 1 rfl rfl rfl rfl (vp_in_iff.mpr ⟨by decide, by decide⟩) dX6_init_31 (fun H locs hP hD hS => ?_)
  obtain ⟨f_26, ef_26⟩ : ∃ f9 : Nat → Option Nat, f9 = va_up (f_20) (3 : Int32).toNatClampNeg (some q_21) := ⟨_, rfl⟩
  rw [← ef_26] at hP hD
  have hP : va_P (dC, dI) classes [(h0, .inr (6, [.ref q_1, .null, .null, .null, .int 0, .int 0, .int 0])), (q_1, .inl (k_2, 4, .inr (.inr (.inr (.inr (f_26)))))), (q_3, .inr (1, [.ref q_5, .ref q_6, .int 0, .int 0])), (q_5, .inl (k_7, 160, .inl (fun _ => 0))), (q_9, .inr (1, [.ref q_11, .ref q_12, .int 0, .int 0])), (q_11, .inl (k_13, 160, .inl (fun _ => 0))), (q_15, .inr (1, [.ref q_17, .ref q_18, .int 0, .int 0])), (q_17, .inl (k_19, 160, .inl (fun _ => 0))), (q_21, .inr (1, [.ref q_23, .ref q_24, .int 0, .int 0])), (q_23, .inl (k_25, 160, .inl (fun _ => 0)))] H := hP
  have hD : va_D A [(h0, .inr (6, [.ref q_1, .null, .null, .null, .int 0, .int 0, .int 0])), (q_1, .inl (k_2, 4, .inr (.inr (.inr (.inr (f_26)))))), (q_3, .inr (1, [.ref q_5, .ref q_6, .int 0, .int 0])), (q_5, .inl (k_7, 160, .inl (fun _ => 0))), (q_9, .inr (1, [.ref q_11, .ref q_12, .int 0, .int 0])), (q_11, .inl (k_13, 160, .inl (fun _ => 0))), (q_15, .inr (1, [.ref q_17, .ref q_18, .int 0, .int 0])), (q_17, .inl (k_19, 160, .inl (fun _ => 0))), (q_21, .inr (1, [.ref q_23, .ref q_24, .int 0, .int 0])), (q_23, .inl (k_25, 160, .inl (fun _ => 0)))] := hD
  refine lv_iinc (v := 4) (lv' := [(1, .int 4), (0, .ref h0)]) hx hb dX6_init_32 hl (k := 0) rfl (by decide) (by decide) rfl (fun ls hl => ?_)
  refine lv_goto (tgt := 14) hx hb dX6_init_35 (by decide) ?_
  refine lv_iload_n hx hb dX6_init_14 rfl (lv_at hl 0 rfl) ?_
  refine lv_iconst (v := 4) hx hb dX6_init_15 (by decide) ?_
  refine lv_icmp_ge (tgt := 38) hx hb dX6_init_16 (by decide) (fun _ => ?_) (fun c9 => absurd (by decide) c9)
  refine lv_aload_n hx hb dX6_init_38 rfl (lv_at hl 1 rfl) ?_
  refine lv_bipush (v := 6) hx hb dX6_init_39 (by decide) ?_
  refine va_newa (atype := .int) (ty := .int) (N' := 6) (a0 := (6, .inl (fun _ => 0))) hx hb (hts (.arrayClass .int) (by decide +kernel)) rfl hK hP hD hS hA (fun _ => rfl) (by decide) (by decide +kernel) (by decide +kernel) (Nat.le_of_ble_eq_true rfl) (Nat.le_of_ble_eq_true rfl) dX6_init_41 (fun q_27 k_28 H hK hP hD hS => ?_)
  have hP : va_P (dC, dI) classes [(h0, .inr (6, [.ref q_1, .null, .null, .null, .int 0, .int 0, .int 0])), (q_1, .inl (k_2, 4, .inr (.inr (.inr (.inr (f_26)))))), (q_3, .inr (1, [.ref q_5, .ref q_6, .int 0, .int 0])), (q_5, .inl (k_7, 160, .inl (fun _ => 0))), (q_9, .inr (1, [.ref q_11, .ref q_12, .int 0, .int 0])), (q_11, .inl (k_13, 160, .inl (fun _ => 0))), (q_15, .inr (1, [.ref q_17, .ref q_18, .int 0, .int 0])), (q_17, .inl (k_19, 160, .inl (fun _ => 0))), (q_21, .inr (1, [.ref q_23, .ref q_24, .int 0, .int 0])), (q_23, .inl (k_25, 160, .inl (fun _ => 0))), (q_27, .inl (k_28, 6, .inl (fun _ => 0)))] H := hP
  have hD : va_D A [(h0, .inr (6, [.ref q_1, .null, .null, .null, .int 0, .int 0, .int 0])), (q_1, .inl (k_2, 4, .inr (.inr (.inr (.inr (f_26)))))), (q_3, .inr (1, [.ref q_5, .ref q_6, .int 0, .int 0])), (q_5, .inl (k_7, 160, .inl (fun _ => 0))), (q_9, .inr (1, [.ref q_11, .ref q_12, .int 0, .int 0])), (q_11, .inl (k_13, 160, .inl (fun _ => 0))), (q_15, .inr (1, [.ref q_17, .ref q_18, .int 0, .int 0])), (q_17, .inl (k_19, 160, .inl (fun _ => 0))), (q_21, .inr (1, [.ref q_23, .ref q_24, .int 0, .int 0])), (q_23, .inl (k_25, 160, .inl (fun _ => 0))), (q_27, .inl (k_28, 6, .inl (fun _ => 0)))] := hD
  have hK : va_K (dC, dI) classes [(k_2, .object RX1), (k_7, .int), (k_13, .int), (k_19, .int), (k_25, .int), (k_28, .int)] s := hK
  refine W.widen (k := 14) (n := 922) (Nat.le_of_ble_eq_true rfl) (Nat.le_of_ble_eq_true rfl) ?_
  refine va_putF (D := (dC, dI)) (ci := 6) (v := .ref q_27) (ty := .array .int) (C := RX6) (T := TX6) (N := 7) hx hb hts zi_X6_init_X6 tyX6 tyX6_ok nmX6 hown hK hP hD hS 0 rfl rfl 1 (by decide) (hts (.fieldLink RX6 18 "HoldTwo$Referee" "letters" "[I") (by decide +kernel)) (fun _ h9 => h9) rfl hin rfl (by decide +kernel) rfl rfl (Nat.le_of_ble_eq_true rfl) dX6_init_43 (fun H locs hP hD hS => ?_)
  have hP : va_P (dC, dI) classes [(h0, .inr (6, [.ref q_1, .ref q_27, .null, .null, .int 0, .int 0, .int 0])), (q_1, .inl (k_2, 4, .inr (.inr (.inr (.inr (f_26)))))), (q_3, .inr (1, [.ref q_5, .ref q_6, .int 0, .int 0])), (q_5, .inl (k_7, 160, .inl (fun _ => 0))), (q_9, .inr (1, [.ref q_11, .ref q_12, .int 0, .int 0])), (q_11, .inl (k_13, 160, .inl (fun _ => 0))), (q_15, .inr (1, [.ref q_17, .ref q_18, .int 0, .int 0])), (q_17, .inl (k_19, 160, .inl (fun _ => 0))), (q_21, .inr (1, [.ref q_23, .ref q_24, .int 0, .int 0])), (q_23, .inl (k_25, 160, .inl (fun _ => 0))), (q_27, .inl (k_28, 6, .inl (fun _ => 0)))] H := hP
  have hD : va_D A [(h0, .inr (6, [.ref q_1, .ref q_27, .null, .null, .int 0, .int 0, .int 0])), (q_1, .inl (k_2, 4, .inr (.inr (.inr (.inr (f_26)))))), (q_3, .inr (1, [.ref q_5, .ref q_6, .int 0, .int 0])), (q_5, .inl (k_7, 160, .inl (fun _ => 0))), (q_9, .inr (1, [.ref q_11, .ref q_12, .int 0, .int 0])), (q_11, .inl (k_13, 160, .inl (fun _ => 0))), (q_15, .inr (1, [.ref q_17, .ref q_18, .int 0, .int 0])), (q_17, .inl (k_19, 160, .inl (fun _ => 0))), (q_21, .inr (1, [.ref q_23, .ref q_24, .int 0, .int 0])), (q_23, .inl (k_25, 160, .inl (fun _ => 0))), (q_27, .inl (k_28, 6, .inl (fun _ => 0)))] := hD
  refine lv_aload_n hx hb dX6_init_46 rfl (lv_at hl 1 rfl) ?_
  refine va_new (ci := 3) (fs := [.int 0, .int 0, .int 0]) (C := RX3) (T := TX3) (N := 3) hx hb hts zi_X6_init_X3 tyX3 tyX3_ok hown (hts (.classLink RX6 22 RX3) (by decide +kernel)) (hts (.instantiable RX3 3) (by decide +kernel)) (hts (.initialized RX3) (by decide +kernel)) hK hP hD hS hA rfl zv_X3 (Nat.le_of_ble_eq_true rfl) (Nat.le_of_ble_eq_true rfl) dX6_init_47 (fun q_29 H hP hD hS => ?_)
  have hP : va_P (dC, dI) classes [(h0, .inr (6, [.ref q_1, .ref q_27, .null, .null, .int 0, .int 0, .int 0])), (q_1, .inl (k_2, 4, .inr (.inr (.inr (.inr (f_26)))))), (q_3, .inr (1, [.ref q_5, .ref q_6, .int 0, .int 0])), (q_5, .inl (k_7, 160, .inl (fun _ => 0))), (q_9, .inr (1, [.ref q_11, .ref q_12, .int 0, .int 0])), (q_11, .inl (k_13, 160, .inl (fun _ => 0))), (q_15, .inr (1, [.ref q_17, .ref q_18, .int 0, .int 0])), (q_17, .inl (k_19, 160, .inl (fun _ => 0))), (q_21, .inr (1, [.ref q_23, .ref q_24, .int 0, .int 0])), (q_23, .inl (k_25, 160, .inl (fun _ => 0))), (q_27, .inl (k_28, 6, .inl (fun _ => 0))), (q_29, .inr (3, [.int 0, .int 0, .int 0]))] H := hP
  have hD : va_D A [(h0, .inr (6, [.ref q_1, .ref q_27, .null, .null, .int 0, .int 0, .int 0])), (q_1, .inl (k_2, 4, .inr (.inr (.inr (.inr (f_26)))))), (q_3, .inr (1, [.ref q_5, .ref q_6, .int 0, .int 0])), (q_5, .inl (k_7, 160, .inl (fun _ => 0))), (q_9, .inr (1, [.ref q_11, .ref q_12, .int 0, .int 0])), (q_11, .inl (k_13, 160, .inl (fun _ => 0))), (q_15, .inr (1, [.ref q_17, .ref q_18, .int 0, .int 0])), (q_17, .inl (k_19, 160, .inl (fun _ => 0))), (q_21, .inr (1, [.ref q_23, .ref q_24, .int 0, .int 0])), (q_23, .inl (k_25, 160, .inl (fun _ => 0))), (q_27, .inl (k_28, 6, .inl (fun _ => 0))), (q_29, .inr (3, [.int 0, .int 0, .int 0]))] := hD
  refine W.widen (k := 15) (n := 925) (Nat.le_of_ble_eq_true rfl) (Nat.le_of_ble_eq_true rfl) ?_
  refine lv_dup hx hb dX6_init_50 rfl ?_
  have hPc := hP.sub (ws' := []) [] rfl
  have hDc := hD.sub (ws' := []) [] (by decide) rfl
  have hKc := hK.sub (tys' := []) [] rfl
  have hFc := va_free (wc := []) hD hS hA [] rfl
  refine va_callv (va_runIN (As := []) (rest := [.ref q_29, .ref h0]) ⟨hx, hb, hml, hown, hts⟩ (zk_X3_init l dC dI (q_29) H.size) ⟨va_cnB 0 hts gX6_init_X3_init_n24 rfl rfl rfl (hN.1 _ (List.mem_of_getElem? (i := 54) rfl)) (hts (.initialized RX3) (by decide +kernel)) (by decide +kernel) ⟨Nat.le_of_ble_eq_true rfl, Nat.le_of_ble_eq_true rfl⟩, rfl, hts (.instanceMethod yX3_init) (by decide +kernel)⟩ ⟨zw_blind, fun U hU hW => ⟨rfl, zw_P.of hPc hKc hDc hN U hU hW⟩⟩ rfl rfl hl.1 rfl (lv_room (Nat.le_of_ble_eq_true rfl)) dX6_init_51 ⟨Nat.le_of_ble_eq_true rfl, Nat.le_of_ble_eq_true rfl⟩) hS (fun q _ h => hFc q h) hFc (fun u t H1 locs ht hvm hw hB hz1 hk1 hS => ?_)
  obtain ⟨hP1, hK1, hD1⟩ := hB
  rw [ht] at hP1
  obtain ⟨hP, hD⟩ := va_join (wr := [(h0, .inr (6, [.ref q_1, .ref q_27, .null, .null, .int 0, .int 0, .int 0])), (q_1, .inl (k_2, 4, .inr (.inr (.inr (.inr (f_26)))))), (q_3, .inr (1, [.ref q_5, .ref q_6, .int 0, .int 0])), (q_5, .inl (k_7, 160, .inl (fun _ => 0))), (q_9, .inr (1, [.ref q_11, .ref q_12, .int 0, .int 0])), (q_11, .inl (k_13, 160, .inl (fun _ => 0))), (q_15, .inr (1, [.ref q_17, .ref q_18, .int 0, .int 0])), (q_17, .inl (k_19, 160, .inl (fun _ => 0))), (q_21, .inr (1, [.ref q_23, .ref q_24, .int 0, .int 0])), (q_23, .inl (k_25, 160, .inl (fun _ => 0))), (q_27, .inl (k_28, 6, .inl (fun _ => 0))), (q_29, .inr (3, [.int 0, .int 0, .int 0]))]) (w1 := []) hP hD [] [0, 1, 2, 3, 4, 5, 6, 7, 8, 9, 10, 11] rfl rfl (by decide) (by decide) hk1 hFc hP1 hD1
  generalize H1 = H at hP hS ⊢
  have hP : va_P (dC, dI) classes [(h0, .inr (6, [.ref q_1, .ref q_27, .null, .null, .int 0, .int 0, .int 0])), (q_1, .inl (k_2, 4, .inr (.inr (.inr (.inr (f_26)))))), (q_3, .inr (1, [.ref q_5, .ref q_6, .int 0, .int 0])), (q_5, .inl (k_7, 160, .inl (fun _ => 0))), (q_9, .inr (1, [.ref q_11, .ref q_12, .int 0, .int 0])), (q_11, .inl (k_13, 160, .inl (fun _ => 0))), (q_15, .inr (1, [.ref q_17, .ref q_18, .int 0, .int 0])), (q_17, .inl (k_19, 160, .inl (fun _ => 0))), (q_21, .inr (1, [.ref q_23, .ref q_24, .int 0, .int 0])), (q_23, .inl (k_25, 160, .inl (fun _ => 0))), (q_27, .inl (k_28, 6, .inl (fun _ => 0))), (q_29, .inr (3, [.int 0, .int 0, .int 0]))] H := hP
  have hD : va_D A [(h0, .inr (6, [.ref q_1, .ref q_27, .null, .null, .int 0, .int 0, .int 0])), (q_1, .inl (k_2, 4, .inr (.inr (.inr (.inr (f_26)))))), (q_3, .inr (1, [.ref q_5, .ref q_6, .int 0, .int 0])), (q_5, .inl (k_7, 160, .inl (fun _ => 0))), (q_9, .inr (1, [.ref q_11, .ref q_12, .int 0, .int 0])), (q_11, .inl (k_13, 160, .inl (fun _ => 0))), (q_15, .inr (1, [.ref q_17, .ref q_18, .int 0, .int 0])), (q_17, .inl (k_19, 160, .inl (fun _ => 0))), (q_21, .inr (1, [.ref q_23, .ref q_24, .int 0, .int 0])), (q_23, .inl (k_25, 160, .inl (fun _ => 0))), (q_27, .inl (k_28, 6, .inl (fun _ => 0))), (q_29, .inr (3, [.int 0, .int 0, .int 0]))] := hD
  refine va_putF (D := (dC, dI)) (ci := 6) (v := .ref q_29) (ty := .object "HoldTwo$Men") (C := RX6) (T := TX6) (N := 7) hx hb hts zi_X6_init_X6 tyX6 tyX6_ok nmX6 hown hK hP hD hS 0 rfl rfl 2 (by decide) (hts (.fieldLink RX6 25 "HoldTwo$Referee" "men" "LHoldTwo$Men;") (by decide +kernel)) (fun _ h9 => h9) rfl hin rfl (by decide +kernel) rfl rfl (Nat.le_of_ble_eq_true rfl) dX6_init_54 (fun H locs hP hD hS => ?_)
  have hP : va_P (dC, dI) classes [(h0, .inr (6, [.ref q_1, .ref q_27, .ref q_29, .null, .int 0, .int 0, .int 0])), (q_1, .inl (k_2, 4, .inr (.inr (.inr (.inr (f_26)))))), (q_3, .inr (1, [.ref q_5, .ref q_6, .int 0, .int 0])), (q_5, .inl (k_7, 160, .inl (fun _ => 0))), (q_9, .inr (1, [.ref q_11, .ref q_12, .int 0, .int 0])), (q_11, .inl (k_13, 160, .inl (fun _ => 0))), (q_15, .inr (1, [.ref q_17, .ref q_18, .int 0, .int 0])), (q_17, .inl (k_19, 160, .inl (fun _ => 0))), (q_21, .inr (1, [.ref q_23, .ref q_24, .int 0, .int 0])), (q_23, .inl (k_25, 160, .inl (fun _ => 0))), (q_27, .inl (k_28, 6, .inl (fun _ => 0))), (q_29, .inr (3, [.int 0, .int 0, .int 0]))] H := hP
  have hD : va_D A [(h0, .inr (6, [.ref q_1, .ref q_27, .ref q_29, .null, .int 0, .int 0, .int 0])), (q_1, .inl (k_2, 4, .inr (.inr (.inr (.inr (f_26)))))), (q_3, .inr (1, [.ref q_5, .ref q_6, .int 0, .int 0])), (q_5, .inl (k_7, 160, .inl (fun _ => 0))), (q_9, .inr (1, [.ref q_11, .ref q_12, .int 0, .int 0])), (q_11, .inl (k_13, 160, .inl (fun _ => 0))), (q_15, .inr (1, [.ref q_17, .ref q_18, .int 0, .int 0])), (q_17, .inl (k_19, 160, .inl (fun _ => 0))), (q_21, .inr (1, [.ref q_23, .ref q_24, .int 0, .int 0])), (q_23, .inl (k_25, 160, .inl (fun _ => 0))), (q_27, .inl (k_28, 6, .inl (fun _ => 0))), (q_29, .inr (3, [.int 0, .int 0, .int 0]))] := hD
  refine lv_aload_n hx hb dX6_init_57 rfl (lv_at hl 1 rfl) ?_
  refine va_new (ci := 0) (fs := [.null, .null, .int 0, .int 0, .int 0, .int 0, .int 0]) (C := RX0) (T := TX0) (N := 7) hx hb hts zi_X6_init_X0 tyX0 tyX0_ok hown (hts (.classLink RX6 29 RX0) (by decide +kernel)) (hts (.instantiable RX0 7) (by decide +kernel)) (hts (.initialized RX0) (by decide +kernel)) hK hP hD hS hA rfl zv_X0 (Nat.le_of_ble_eq_true rfl) (Nat.le_of_ble_eq_true rfl) dX6_init_58 (fun q_31 H hP hD hS => ?_)
  have hP : va_P (dC, dI) classes [(h0, .inr (6, [.ref q_1, .ref q_27, .ref q_29, .null, .int 0, .int 0, .int 0])), (q_1, .inl (k_2, 4, .inr (.inr (.inr (.inr (f_26)))))), (q_3, .inr (1, [.ref q_5, .ref q_6, .int 0, .int 0])), (q_5, .inl (k_7, 160, .inl (fun _ => 0))), (q_9, .inr (1, [.ref q_11, .ref q_12, .int 0, .int 0])), (q_11, .inl (k_13, 160, .inl (fun _ => 0))), (q_15, .inr (1, [.ref q_17, .ref q_18, .int 0, .int 0])), (q_17, .inl (k_19, 160, .inl (fun _ => 0))), (q_21, .inr (1, [.ref q_23, .ref q_24, .int 0, .int 0])), (q_23, .inl (k_25, 160, .inl (fun _ => 0))), (q_27, .inl (k_28, 6, .inl (fun _ => 0))), (q_29, .inr (3, [.int 0, .int 0, .int 0])), (q_31, .inr (0, [.null, .null, .int 0, .int 0, .int 0, .int 0, .int 0]))] H := hP
  have hD : va_D A [(h0, .inr (6, [.ref q_1, .ref q_27, .ref q_29, .null, .int 0, .int 0, .int 0])), (q_1, .inl (k_2, 4, .inr (.inr (.inr (.inr (f_26)))))), (q_3, .inr (1, [.ref q_5, .ref q_6, .int 0, .int 0])), (q_5, .inl (k_7, 160, .inl (fun _ => 0))), (q_9, .inr (1, [.ref q_11, .ref q_12, .int 0, .int 0])), (q_11, .inl (k_13, 160, .inl (fun _ => 0))), (q_15, .inr (1, [.ref q_17, .ref q_18, .int 0, .int 0])), (q_17, .inl (k_19, 160, .inl (fun _ => 0))), (q_21, .inr (1, [.ref q_23, .ref q_24, .int 0, .int 0])), (q_23, .inl (k_25, 160, .inl (fun _ => 0))), (q_27, .inl (k_28, 6, .inl (fun _ => 0))), (q_29, .inr (3, [.int 0, .int 0, .int 0])), (q_31, .inr (0, [.null, .null, .int 0, .int 0, .int 0, .int 0, .int 0]))] := hD
  refine W.widen (k := 16) (n := 932) (Nat.le_of_ble_eq_true rfl) (Nat.le_of_ble_eq_true rfl) ?_
  refine lv_dup hx hb dX6_init_61 rfl ?_
  have hPc := hP.sub (ws' := [(q_31, .inr (0, [.null, .null, .int 0, .int 0, .int 0, .int 0, .int 0]))]) [12] rfl
  have hDc := hD.sub (ws' := [(q_31, .inr (0, [.null, .null, .int 0, .int 0, .int 0, .int 0, .int 0]))]) [12] (by decide) rfl
  have hKc := hK.sub (tys' := []) [] rfl
  have hFc := va_free (wc := [(q_31, .inr (0, [.null, .null, .int 0, .int 0, .int 0, .int 0, .int 0]))]) hD hS hA [12] rfl
  refine va_callv (va_runI (As := []) (rest := [.ref q_31, .ref h0]) ⟨hx, hb, hml, hown, hts⟩ (zk_X0_init l dC dI (q_31) H.size) (cwI 0 hts gX6_init_X0_init rfl rfl rfl (hts (.initialized RX0) (by decide +kernel)) (hts (.methodLink RX6 31 yX0_init) (by decide +kernel)) (hts (.instanceMethod yX0_init) (by decide +kernel)) rfl (by decide +kernel) ⟨Nat.le_of_ble_eq_true rfl, Nat.le_of_ble_eq_true rfl⟩) ⟨zw_blind, fun U hU hW => ⟨rfl, zw_P.of hPc hKc hDc hN U hU hW⟩⟩ rfl rfl hl.1 rfl (lv_room (Nat.le_of_ble_eq_true rfl)) dX6_init_62 ⟨Nat.le_of_ble_eq_true rfl, Nat.le_of_ble_eq_true rfl⟩) hS (fun q _ h => hFc q h) hFc (fun u t H1 locs ht hvm hw hB hz1 hk1 hS => ?_)
  obtain ⟨q_33, q_34, k_35, k_36, hP1, hK1, hD1⟩ := hB
  rw [ht] at hP1
  obtain ⟨hP, hD⟩ := va_join (wr := [(h0, .inr (6, [.ref q_1, .ref q_27, .ref q_29, .null, .int 0, .int 0, .int 0])), (q_1, .inl (k_2, 4, .inr (.inr (.inr (.inr (f_26)))))), (q_3, .inr (1, [.ref q_5, .ref q_6, .int 0, .int 0])), (q_5, .inl (k_7, 160, .inl (fun _ => 0))), (q_9, .inr (1, [.ref q_11, .ref q_12, .int 0, .int 0])), (q_11, .inl (k_13, 160, .inl (fun _ => 0))), (q_15, .inr (1, [.ref q_17, .ref q_18, .int 0, .int 0])), (q_17, .inl (k_19, 160, .inl (fun _ => 0))), (q_21, .inr (1, [.ref q_23, .ref q_24, .int 0, .int 0])), (q_23, .inl (k_25, 160, .inl (fun _ => 0))), (q_27, .inl (k_28, 6, .inl (fun _ => 0))), (q_29, .inr (3, [.int 0, .int 0, .int 0]))]) (w1 := [(q_31, .inr (0, [.ref q_33, .ref q_34, .int 0, .int 0, .int 0, .int 0, .int 0])), (q_33, .inl (k_35, 9, .inl (fun _ => 0))), (q_34, .inl (k_36, 2, .inl (fun _ => 0)))]) hP hD [12] [0, 1, 2, 3, 4, 5, 6, 7, 8, 9, 10, 11] rfl rfl (by decide) (by decide) hk1 hFc hP1 hD1
  have hK := hK.app (va_K.moved hvm.symm hK1)
  have hK : va_K (dC, dI) classes [(k_2, .object RX1), (k_7, .int), (k_13, .int), (k_19, .int), (k_25, .int), (k_28, .int), (k_35, .int), (k_36, .int)] s := hK
  generalize H1 = H at hP hS ⊢
  have hP : va_P (dC, dI) classes [(h0, .inr (6, [.ref q_1, .ref q_27, .ref q_29, .null, .int 0, .int 0, .int 0])), (q_1, .inl (k_2, 4, .inr (.inr (.inr (.inr (f_26)))))), (q_3, .inr (1, [.ref q_5, .ref q_6, .int 0, .int 0])), (q_5, .inl (k_7, 160, .inl (fun _ => 0))), (q_9, .inr (1, [.ref q_11, .ref q_12, .int 0, .int 0])), (q_11, .inl (k_13, 160, .inl (fun _ => 0))), (q_15, .inr (1, [.ref q_17, .ref q_18, .int 0, .int 0])), (q_17, .inl (k_19, 160, .inl (fun _ => 0))), (q_21, .inr (1, [.ref q_23, .ref q_24, .int 0, .int 0])), (q_23, .inl (k_25, 160, .inl (fun _ => 0))), (q_27, .inl (k_28, 6, .inl (fun _ => 0))), (q_29, .inr (3, [.int 0, .int 0, .int 0])), (q_31, .inr (0, [.ref q_33, .ref q_34, .int 0, .int 0, .int 0, .int 0, .int 0])), (q_33, .inl (k_35, 9, .inl (fun _ => 0))), (q_34, .inl (k_36, 2, .inl (fun _ => 0)))] H := hP
  have hD : va_D A [(h0, .inr (6, [.ref q_1, .ref q_27, .ref q_29, .null, .int 0, .int 0, .int 0])), (q_1, .inl (k_2, 4, .inr (.inr (.inr (.inr (f_26)))))), (q_3, .inr (1, [.ref q_5, .ref q_6, .int 0, .int 0])), (q_5, .inl (k_7, 160, .inl (fun _ => 0))), (q_9, .inr (1, [.ref q_11, .ref q_12, .int 0, .int 0])), (q_11, .inl (k_13, 160, .inl (fun _ => 0))), (q_15, .inr (1, [.ref q_17, .ref q_18, .int 0, .int 0])), (q_17, .inl (k_19, 160, .inl (fun _ => 0))), (q_21, .inr (1, [.ref q_23, .ref q_24, .int 0, .int 0])), (q_23, .inl (k_25, 160, .inl (fun _ => 0))), (q_27, .inl (k_28, 6, .inl (fun _ => 0))), (q_29, .inr (3, [.int 0, .int 0, .int 0])), (q_31, .inr (0, [.ref q_33, .ref q_34, .int 0, .int 0, .int 0, .int 0, .int 0])), (q_33, .inl (k_35, 9, .inl (fun _ => 0))), (q_34, .inl (k_36, 2, .inl (fun _ => 0)))] := hD
  refine W.widen (k := 18) (n := 943) (Nat.le_of_ble_eq_true rfl) (Nat.le_of_ble_eq_true rfl) ?_
  refine va_put (D := (dC, dI)) (ci := 6) (v := .ref q_31) (ty := .object "HoldTwo$Game") (C := RX6) (T := TX6) (N := 7) hx hb hts zi_X6_init_X6 tyX6 tyX6_ok nmX6 hown hK hP hD hS 0 rfl rfl 3 (by decide) (hts (.fieldLink RX6 32 "HoldTwo$Referee" "game" "LHoldTwo$Game;") (by decide +kernel)) (fun _ h9 => h9) rfl (by decide +kernel) rfl rfl (Nat.le_of_ble_eq_true rfl) dX6_init_65 (fun H locs hP hD hS => ?_)
  have hP : va_P (dC, dI) classes [(h0, .inr (6, [.ref q_1, .ref q_27, .ref q_29, .ref q_31, .int 0, .int 0, .int 0])), (q_1, .inl (k_2, 4, .inr (.inr (.inr (.inr (f_26)))))), (q_3, .inr (1, [.ref q_5, .ref q_6, .int 0, .int 0])), (q_5, .inl (k_7, 160, .inl (fun _ => 0))), (q_9, .inr (1, [.ref q_11, .ref q_12, .int 0, .int 0])), (q_11, .inl (k_13, 160, .inl (fun _ => 0))), (q_15, .inr (1, [.ref q_17, .ref q_18, .int 0, .int 0])), (q_17, .inl (k_19, 160, .inl (fun _ => 0))), (q_21, .inr (1, [.ref q_23, .ref q_24, .int 0, .int 0])), (q_23, .inl (k_25, 160, .inl (fun _ => 0))), (q_27, .inl (k_28, 6, .inl (fun _ => 0))), (q_29, .inr (3, [.int 0, .int 0, .int 0])), (q_31, .inr (0, [.ref q_33, .ref q_34, .int 0, .int 0, .int 0, .int 0, .int 0])), (q_33, .inl (k_35, 9, .inl (fun _ => 0))), (q_34, .inl (k_36, 2, .inl (fun _ => 0)))] H := hP
  have hD : va_D A [(h0, .inr (6, [.ref q_1, .ref q_27, .ref q_29, .ref q_31, .int 0, .int 0, .int 0])), (q_1, .inl (k_2, 4, .inr (.inr (.inr (.inr (f_26)))))), (q_3, .inr (1, [.ref q_5, .ref q_6, .int 0, .int 0])), (q_5, .inl (k_7, 160, .inl (fun _ => 0))), (q_9, .inr (1, [.ref q_11, .ref q_12, .int 0, .int 0])), (q_11, .inl (k_13, 160, .inl (fun _ => 0))), (q_15, .inr (1, [.ref q_17, .ref q_18, .int 0, .int 0])), (q_17, .inl (k_19, 160, .inl (fun _ => 0))), (q_21, .inr (1, [.ref q_23, .ref q_24, .int 0, .int 0])), (q_23, .inl (k_25, 160, .inl (fun _ => 0))), (q_27, .inl (k_28, 6, .inl (fun _ => 0))), (q_29, .inr (3, [.int 0, .int 0, .int 0])), (q_31, .inr (0, [.ref q_33, .ref q_34, .int 0, .int 0, .int 0, .int 0, .int 0])), (q_33, .inl (k_35, 9, .inl (fun _ => 0))), (q_34, .inl (k_36, 2, .inl (fun _ => 0)))] := hD
  refine lv_aload_n hx hb dX6_init_68 rfl (lv_at hl 1 rfl) ?_
  refine lv_iconst (v := 0) hx hb dX6_init_69 (by decide) ?_
  refine va_put (D := (dC, dI)) (ci := 6) (v := .int 0) (ty := .int) (C := RX6) (T := TX6) (N := 7) hx hb hts zi_X6_init_X6 tyX6 tyX6_ok nmX6 hown hK hP hD hS 0 rfl rfl 4 (by decide) (hts (.fieldLink RX6 36 "HoldTwo$Referee" "lawCount" "I") (by decide +kernel)) (fun _ h9 => h9) rfl (by decide +kernel) rfl rfl (Nat.le_of_ble_eq_true rfl) dX6_init_70 (fun H locs hP hD hS => ?_)
  have hP : va_P (dC, dI) classes [(h0, .inr (6, [.ref q_1, .ref q_27, .ref q_29, .ref q_31, .int 0, .int 0, .int 0])), (q_1, .inl (k_2, 4, .inr (.inr (.inr (.inr (f_26)))))), (q_3, .inr (1, [.ref q_5, .ref q_6, .int 0, .int 0])), (q_5, .inl (k_7, 160, .inl (fun _ => 0))), (q_9, .inr (1, [.ref q_11, .ref q_12, .int 0, .int 0])), (q_11, .inl (k_13, 160, .inl (fun _ => 0))), (q_15, .inr (1, [.ref q_17, .ref q_18, .int 0, .int 0])), (q_17, .inl (k_19, 160, .inl (fun _ => 0))), (q_21, .inr (1, [.ref q_23, .ref q_24, .int 0, .int 0])), (q_23, .inl (k_25, 160, .inl (fun _ => 0))), (q_27, .inl (k_28, 6, .inl (fun _ => 0))), (q_29, .inr (3, [.int 0, .int 0, .int 0])), (q_31, .inr (0, [.ref q_33, .ref q_34, .int 0, .int 0, .int 0, .int 0, .int 0])), (q_33, .inl (k_35, 9, .inl (fun _ => 0))), (q_34, .inl (k_36, 2, .inl (fun _ => 0)))] H := hP
  have hD : va_D A [(h0, .inr (6, [.ref q_1, .ref q_27, .ref q_29, .ref q_31, .int 0, .int 0, .int 0])), (q_1, .inl (k_2, 4, .inr (.inr (.inr (.inr (f_26)))))), (q_3, .inr (1, [.ref q_5, .ref q_6, .int 0, .int 0])), (q_5, .inl (k_7, 160, .inl (fun _ => 0))), (q_9, .inr (1, [.ref q_11, .ref q_12, .int 0, .int 0])), (q_11, .inl (k_13, 160, .inl (fun _ => 0))), (q_15, .inr (1, [.ref q_17, .ref q_18, .int 0, .int 0])), (q_17, .inl (k_19, 160, .inl (fun _ => 0))), (q_21, .inr (1, [.ref q_23, .ref q_24, .int 0, .int 0])), (q_23, .inl (k_25, 160, .inl (fun _ => 0))), (q_27, .inl (k_28, 6, .inl (fun _ => 0))), (q_29, .inr (3, [.int 0, .int 0, .int 0])), (q_31, .inr (0, [.ref q_33, .ref q_34, .int 0, .int 0, .int 0, .int 0, .int 0])), (q_33, .inl (k_35, 9, .inl (fun _ => 0))), (q_34, .inl (k_36, 2, .inl (fun _ => 0)))] := hD
  refine lv_aload_n hx hb dX6_init_73 rfl (lv_at hl 1 rfl) ?_
  refine lv_iconst (v := (-1)) hx hb dX6_init_74 (by decide) ?_
  refine va_put (D := (dC, dI)) (ci := 6) (v := .int (-1)) (ty := .int) (C := RX6) (T := TX6) (N := 7) hx hb hts zi_X6_init_X6 tyX6 tyX6_ok nmX6 hown hK hP hD hS 0 rfl rfl 5 (by decide) (hts (.fieldLink RX6 40 "HoldTwo$Referee" "judging" "I") (by decide +kernel)) (fun _ h9 => h9) rfl (by decide +kernel) rfl rfl (Nat.le_of_ble_eq_true rfl) dX6_init_75 (fun H locs hP hD hS => ?_)
  have hP : va_P (dC, dI) classes [(h0, .inr (6, [.ref q_1, .ref q_27, .ref q_29, .ref q_31, .int 0, .int (-1), .int 0])), (q_1, .inl (k_2, 4, .inr (.inr (.inr (.inr (f_26)))))), (q_3, .inr (1, [.ref q_5, .ref q_6, .int 0, .int 0])), (q_5, .inl (k_7, 160, .inl (fun _ => 0))), (q_9, .inr (1, [.ref q_11, .ref q_12, .int 0, .int 0])), (q_11, .inl (k_13, 160, .inl (fun _ => 0))), (q_15, .inr (1, [.ref q_17, .ref q_18, .int 0, .int 0])), (q_17, .inl (k_19, 160, .inl (fun _ => 0))), (q_21, .inr (1, [.ref q_23, .ref q_24, .int 0, .int 0])), (q_23, .inl (k_25, 160, .inl (fun _ => 0))), (q_27, .inl (k_28, 6, .inl (fun _ => 0))), (q_29, .inr (3, [.int 0, .int 0, .int 0])), (q_31, .inr (0, [.ref q_33, .ref q_34, .int 0, .int 0, .int 0, .int 0, .int 0])), (q_33, .inl (k_35, 9, .inl (fun _ => 0))), (q_34, .inl (k_36, 2, .inl (fun _ => 0)))] H := hP
  have hD : va_D A [(h0, .inr (6, [.ref q_1, .ref q_27, .ref q_29, .ref q_31, .int 0, .int (-1), .int 0])), (q_1, .inl (k_2, 4, .inr (.inr (.inr (.inr (f_26)))))), (q_3, .inr (1, [.ref q_5, .ref q_6, .int 0, .int 0])), (q_5, .inl (k_7, 160, .inl (fun _ => 0))), (q_9, .inr (1, [.ref q_11, .ref q_12, .int 0, .int 0])), (q_11, .inl (k_13, 160, .inl (fun _ => 0))), (q_15, .inr (1, [.ref q_17, .ref q_18, .int 0, .int 0])), (q_17, .inl (k_19, 160, .inl (fun _ => 0))), (q_21, .inr (1, [.ref q_23, .ref q_24, .int 0, .int 0])), (q_23, .inl (k_25, 160, .inl (fun _ => 0))), (q_27, .inl (k_28, 6, .inl (fun _ => 0))), (q_29, .inr (3, [.int 0, .int 0, .int 0])), (q_31, .inr (0, [.ref q_33, .ref q_34, .int 0, .int 0, .int 0, .int 0, .int 0])), (q_33, .inl (k_35, 9, .inl (fun _ => 0))), (q_34, .inl (k_36, 2, .inl (fun _ => 0)))] := hD
  refine lv_aload_n hx hb dX6_init_78 rfl (lv_at hl 1 rfl) ?_
  refine lv_iconst (v := (-1)) hx hb dX6_init_79 (by decide) ?_
  refine va_put (D := (dC, dI)) (ci := 6) (v := .int (-1)) (ty := .int) (C := RX6) (T := TX6) (N := 7) hx hb hts zi_X6_init_X6 tyX6 tyX6_ok nmX6 hown hK hP hD hS 0 rfl rfl 6 (by decide) (hts (.fieldLink RX6 43 "HoldTwo$Referee" "forWays" "I") (by decide +kernel)) (fun _ h9 => h9) rfl (by decide +kernel) rfl rfl (Nat.le_of_ble_eq_true rfl) dX6_init_80 (fun H locs hP hD hS => ?_)
  have hP : va_P (dC, dI) classes [(h0, .inr (6, [.ref q_1, .ref q_27, .ref q_29, .ref q_31, .int 0, .int (-1), .int (-1)])), (q_1, .inl (k_2, 4, .inr (.inr (.inr (.inr (f_26)))))), (q_3, .inr (1, [.ref q_5, .ref q_6, .int 0, .int 0])), (q_5, .inl (k_7, 160, .inl (fun _ => 0))), (q_9, .inr (1, [.ref q_11, .ref q_12, .int 0, .int 0])), (q_11, .inl (k_13, 160, .inl (fun _ => 0))), (q_15, .inr (1, [.ref q_17, .ref q_18, .int 0, .int 0])), (q_17, .inl (k_19, 160, .inl (fun _ => 0))), (q_21, .inr (1, [.ref q_23, .ref q_24, .int 0, .int 0])), (q_23, .inl (k_25, 160, .inl (fun _ => 0))), (q_27, .inl (k_28, 6, .inl (fun _ => 0))), (q_29, .inr (3, [.int 0, .int 0, .int 0])), (q_31, .inr (0, [.ref q_33, .ref q_34, .int 0, .int 0, .int 0, .int 0, .int 0])), (q_33, .inl (k_35, 9, .inl (fun _ => 0))), (q_34, .inl (k_36, 2, .inl (fun _ => 0)))] H := hP
  have hD : va_D A [(h0, .inr (6, [.ref q_1, .ref q_27, .ref q_29, .ref q_31, .int 0, .int (-1), .int (-1)])), (q_1, .inl (k_2, 4, .inr (.inr (.inr (.inr (f_26)))))), (q_3, .inr (1, [.ref q_5, .ref q_6, .int 0, .int 0])), (q_5, .inl (k_7, 160, .inl (fun _ => 0))), (q_9, .inr (1, [.ref q_11, .ref q_12, .int 0, .int 0])), (q_11, .inl (k_13, 160, .inl (fun _ => 0))), (q_15, .inr (1, [.ref q_17, .ref q_18, .int 0, .int 0])), (q_17, .inl (k_19, 160, .inl (fun _ => 0))), (q_21, .inr (1, [.ref q_23, .ref q_24, .int 0, .int 0])), (q_23, .inl (k_25, 160, .inl (fun _ => 0))), (q_27, .inl (k_28, 6, .inl (fun _ => 0))), (q_29, .inr (3, [.int 0, .int 0, .int 0])), (q_31, .inr (0, [.ref q_33, .ref q_34, .int 0, .int 0, .int 0, .int 0, .int 0])), (q_33, .inl (k_35, 9, .inl (fun _ => 0))), (q_34, .inl (k_36, 2, .inl (fun _ => 0)))] := hD
  have hP9 := hP.sub (ws' := [(h0, .inr (6, [.ref q_1, .ref q_27, .ref q_29, .ref q_31, .int 0, .int (-1), .int (-1)])), (q_31, .inr (0, [.ref q_33, .ref q_34, .int 0, .int 0, .int 0, .int 0, .int 0]))]) [0, 12] rfl
  have hD9 := hD.sub (ws' := [(h0, .inr (6, [.ref q_1, .ref q_27, .ref q_29, .ref q_31, .int 0, .int (-1), .int (-1)])), (q_31, .inr (0, [.ref q_33, .ref q_34, .int 0, .int 0, .int 0, .int 0, .int 0]))]) [0, 12] (by decide) rfl
  have hK9 := hK.sub (tys' := []) [] rfl
  refine W.widen (k := 18) (n := 943) (Nat.le_of_ble_eq_true rfl) (Nat.le_of_ble_eq_true rfl) ?_
  exact W.vret hx hb hr (fun t ht hW => ⟨⟨(), rfl, trivial, q_1, q_27, q_29, q_31, q_33, q_34, by rw [ht]; exact hP9, va_K.moved hW.alike hK9, hD9⟩, hS.F ht⟩) hS.2.2 dX6_init_83
set_option maxHeartbeats 8000000 in
set_option maxRecDepth 100000 in
theorem zk_X4_init (l : Launch) (dC : Nat → ClassId) (dI : Nat → Nat → Nat) (h0 : Nat) (sz : Nat) : Met l yX4_init wsX4_init ({ frames := 2, cells := 4, slots := 66, locals := 32 }) (va_Pc [.ref h0] (zw_P dC dI sz [] [(h0, .inr (4, [.null, .null, .null, .null, .int 0, .int 0, .int 0, .int 0]))])) (va_Qv (fun (_ : Unit) => True) (fun (_ : Unit) (t : State) => ∃ y0 : Nat, ∃ y1 : Nat, ∃ y2 : Nat, ∃ y3 : Nat, zw_Q dC dI (va_A [(h0, .inr (4, [.null, .null, .null, .null, .int 0, .int 0, .int 0, .int 0]))] sz) [] [(h0, .inr (4, [.ref y0, .ref y1, .ref y2, .ref y3, .int 0, .int (-1), .int (-1), .int 0]))] t) (va_A [(h0, .inr (4, [.null, .null, .null, .null, .int 0, .int 0, .int 0, .int 0]))] sz)) 4 66 (va_A [(h0, .inr (4, [.null, .null, .null, .null, .int 0, .int 0, .int 0, .int 0]))] sz) := by
  refine Met.ofW (cc := cX4_init) (maxL := 1) (ret := none) (by decide) rfl ?_
  intro p e s m args below meth c s₁ B hml hv
  obtain ⟨rfl, hsz, hP, hK, hD0, hN⟩ := hv
  have hx := B.exec
  have hb := B.bytes
  have hr := B.returns
  have hts := atoms_spec (ws := wsX4_init) B.pre
  have hown : s.vm.findClass RX4 = some m.cls := findClass_of_methodNamed B.named
  have hlocks := B.notSynchronized
  have hin : meth.name = "<init>" := (name_of_methodNamed B.named B.method).1
  subst hsz
  have hD := hD0.self (sz := s.heap.size)
  generalize hAe : va_A [(h0, .inr (4, [.null, .null, .null, .null, .int 0, .int 0, .int 0, .int 0]))] s.heap.size = A at hD ⊢
  have hA : ∀ q : Nat, s.heap.size ≤ q → A q := fun q h => by rw [← hAe]; exact Or.inr h
  have hP : va_P (dC, dI) classes [(h0, .inr (4, [.null, .null, .null, .null, .int 0, .int 0, .int 0, .int 0]))] s.heap := hP
  have hl := lv_entry ([.ref h0]) (n := 1) (Nat.le_of_ble_eq_true rfl)
  rw [lg_entry_eq]
  generalize (lg_sl ([.ref h0]) ++ List.replicate (1 - (lg_sl ([.ref h0])).length) Slot.unset).toArray = ls at hl ⊢
  have hl : lv_has ls 1 [(0, .ref h0)] := hl
  refine zw_start (fun H eH => ?_)
  have hP : va_P (dC, dI) classes [(h0, .inr (4, [.null, .null, .null, .null, .int 0, .int 0, .int 0, .int 0]))] H := by rw [eH]; exact hP
  have hS : va_S A s.heap H [] := by rw [eH]; exact va_S.rf
  refine lv_aload_n hx hb dX4_init_0 rfl (lv_at hl 0 rfl) ?_
  refine W.objInit hx hb hown (hts (.methodLink RX4 3 objectInit) (by decide +kernel)) (hts (.instanceMethod objectInit) (by decide +kernel)) (hts (.code objectInit ⟨#[0xb1]⟩ 1 none) (List.mem_of_getElem? (i := 3) rfl)) rfl (by rw [hml]; exact hl.1) rfl dX4_init_1 (Nat.le_of_ble_eq_true rfl) (Nat.le_of_ble_eq_true rfl) ?_
  refine W.eq (g2 := F0 m 4 ls []) rfl ?_
  refine lv_aload_n hx hb dX4_init_4 rfl (lv_at hl 0 rfl) ?_
  refine lv_bipush (v := 21) hx hb dX4_init_5 (by decide) ?_
  refine va_newa (atype := .int) (ty := .int) (N' := 21) (a0 := (21, .inl (fun _ => 0))) hx hb (hts (.arrayClass .int) (by decide +kernel)) rfl hK hP hD hS hA (fun _ => rfl) (by decide) (by decide +kernel) (by decide +kernel) (Nat.le_of_ble_eq_true rfl) (Nat.le_of_ble_eq_true rfl) dX4_init_7 (fun q_1 k_2 H hK hP hD hS => ?_)
  have hP : va_P (dC, dI) classes [(h0, .inr (4, [.null, .null, .null, .null, .int 0, .int 0, .int 0, .int 0])), (q_1, .inl (k_2, 21, .inl (fun _ => 0)))] H := hP
  have hD : va_D A [(h0, .inr (4, [.null, .null, .null, .null, .int 0, .int 0, .int 0, .int 0])), (q_1, .inl (k_2, 21, .inl (fun _ => 0)))] := hD
  have hK : va_K (dC, dI) classes [(k_2, .int)] s := hK
  refine W.widen (k := 1) (n := 21) (Nat.le_of_ble_eq_true rfl) (Nat.le_of_ble_eq_true rfl) ?_
  refine va_putF (D := (dC, dI)) (ci := 4) (v := .ref q_1) (ty := .array .int) (C := RX4) (T := TX4) (N := 8) hx hb hts zi_X4_init_X4 tyX4 tyX4_ok nmX4 hown hK hP hD hS 0 rfl rfl 0 (by decide) (hts (.fieldLink RX4 9 "HoldTwo$Moves" "codes" "[I") (by decide +kernel)) (fun _ h9 => h9) rfl hin rfl (by decide +kernel) rfl rfl (Nat.le_of_ble_eq_true rfl) dX4_init_9 (fun H locs hP hD hS => ?_)
  have hP : va_P (dC, dI) classes [(h0, .inr (4, [.ref q_1, .null, .null, .null, .int 0, .int 0, .int 0, .int 0])), (q_1, .inl (k_2, 21, .inl (fun _ => 0)))] H := hP
  have hD : va_D A [(h0, .inr (4, [.ref q_1, .null, .null, .null, .int 0, .int 0, .int 0, .int 0])), (q_1, .inl (k_2, 21, .inl (fun _ => 0)))] := hD
  refine lv_aload_n hx hb dX4_init_12 rfl (lv_at hl 0 rfl) ?_
  refine lv_bipush (v := 21) hx hb dX4_init_13 (by decide) ?_
  refine va_newa (atype := .int) (ty := .int) (N' := 21) (a0 := (21, .inl (fun _ => 0))) hx hb (hts (.arrayClass .int) (by decide +kernel)) rfl hK hP hD hS hA (fun _ => rfl) (by decide) (by decide +kernel) (by decide +kernel) (Nat.le_of_ble_eq_true rfl) (Nat.le_of_ble_eq_true rfl) dX4_init_15 (fun q_3 k_4 H hK hP hD hS => ?_)
  have hP : va_P (dC, dI) classes [(h0, .inr (4, [.ref q_1, .null, .null, .null, .int 0, .int 0, .int 0, .int 0])), (q_1, .inl (k_2, 21, .inl (fun _ => 0))), (q_3, .inl (k_4, 21, .inl (fun _ => 0)))] H := hP
  have hD : va_D A [(h0, .inr (4, [.ref q_1, .null, .null, .null, .int 0, .int 0, .int 0, .int 0])), (q_1, .inl (k_2, 21, .inl (fun _ => 0))), (q_3, .inl (k_4, 21, .inl (fun _ => 0)))] := hD
  have hK : va_K (dC, dI) classes [(k_2, .int), (k_4, .int)] s := hK
  refine W.widen (k := 2) (n := 42) (Nat.le_of_ble_eq_true rfl) (Nat.le_of_ble_eq_true rfl) ?_
  refine va_putF (D := (dC, dI)) (ci := 4) (v := .ref q_3) (ty := .array .int) (C := RX4) (T := TX4) (N := 8) hx hb hts zi_X4_init_X4 tyX4 tyX4_ok nmX4 hown hK hP hD hS 0 rfl rfl 1 (by decide) (hts (.fieldLink RX4 15 "HoldTwo$Moves" "nexts" "[I") (by decide +kernel)) (fun _ h9 => h9) rfl hin rfl (by decide +kernel) rfl rfl (Nat.le_of_ble_eq_true rfl) dX4_init_17 (fun H locs hP hD hS => ?_)
  have hP : va_P (dC, dI) classes [(h0, .inr (4, [.ref q_1, .ref q_3, .null, .null, .int 0, .int 0, .int 0, .int 0])), (q_1, .inl (k_2, 21, .inl (fun _ => 0))), (q_3, .inl (k_4, 21, .inl (fun _ => 0)))] H := hP
  have hD : va_D A [(h0, .inr (4, [.ref q_1, .ref q_3, .null, .null, .int 0, .int 0, .int 0, .int 0])), (q_1, .inl (k_2, 21, .inl (fun _ => 0))), (q_3, .inl (k_4, 21, .inl (fun _ => 0)))] := hD
  refine lv_aload_n hx hb dX4_init_20 rfl (lv_at hl 0 rfl) ?_
  refine lv_bipush (v := 21) hx hb dX4_init_21 (by decide) ?_
  refine va_newa (atype := .int) (ty := .int) (N' := 21) (a0 := (21, .inl (fun _ => 0))) hx hb (hts (.arrayClass .int) (by decide +kernel)) rfl hK hP hD hS hA (fun _ => rfl) (by decide) (by decide +kernel) (by decide +kernel) (Nat.le_of_ble_eq_true rfl) (Nat.le_of_ble_eq_true rfl) dX4_init_23 (fun q_5 k_6 H hK hP hD hS => ?_)
  have hP : va_P (dC, dI) classes [(h0, .inr (4, [.ref q_1, .ref q_3, .null, .null, .int 0, .int 0, .int 0, .int 0])), (q_1, .inl (k_2, 21, .inl (fun _ => 0))), (q_3, .inl (k_4, 21, .inl (fun _ => 0))), (q_5, .inl (k_6, 21, .inl (fun _ => 0)))] H := hP
  have hD : va_D A [(h0, .inr (4, [.ref q_1, .ref q_3, .null, .null, .int 0, .int 0, .int 0, .int 0])), (q_1, .inl (k_2, 21, .inl (fun _ => 0))), (q_3, .inl (k_4, 21, .inl (fun _ => 0))), (q_5, .inl (k_6, 21, .inl (fun _ => 0)))] := hD
  have hK : va_K (dC, dI) classes [(k_2, .int), (k_4, .int), (k_6, .int)] s := hK
  refine W.widen (k := 3) (n := 63) (Nat.le_of_ble_eq_true rfl) (Nat.le_of_ble_eq_true rfl) ?_
  refine va_putF (D := (dC, dI)) (ci := 4) (v := .ref q_5) (ty := .array .int) (C := RX4) (T := TX4) (N := 8) hx hb hts zi_X4_init_X4 tyX4 tyX4_ok nmX4 hown hK hP hD hS 0 rfl rfl 2 (by decide) (hts (.fieldLink RX4 18 "HoldTwo$Moves" "marks" "[I") (by decide +kernel)) (fun _ h9 => h9) rfl hin rfl (by decide +kernel) rfl rfl (Nat.le_of_ble_eq_true rfl) dX4_init_25 (fun H locs hP hD hS => ?_)
  have hP : va_P (dC, dI) classes [(h0, .inr (4, [.ref q_1, .ref q_3, .ref q_5, .null, .int 0, .int 0, .int 0, .int 0])), (q_1, .inl (k_2, 21, .inl (fun _ => 0))), (q_3, .inl (k_4, 21, .inl (fun _ => 0))), (q_5, .inl (k_6, 21, .inl (fun _ => 0)))] H := hP
  have hD : va_D A [(h0, .inr (4, [.ref q_1, .ref q_3, .ref q_5, .null, .int 0, .int 0, .int 0, .int 0])), (q_1, .inl (k_2, 21, .inl (fun _ => 0))), (q_3, .inl (k_4, 21, .inl (fun _ => 0))), (q_5, .inl (k_6, 21, .inl (fun _ => 0)))] := hD
  refine lv_aload_n hx hb dX4_init_28 rfl (lv_at hl 0 rfl) ?_
  refine va_new (ci := 3) (fs := [.int 0, .int 0, .int 0]) (C := RX3) (T := TX3) (N := 3) hx hb hts zi_X4_init_X3 tyX3 tyX3_ok hown (hts (.classLink RX4 21 RX3) (by decide +kernel)) (hts (.instantiable RX3 3) (by decide +kernel)) (hts (.initialized RX3) (by decide +kernel)) hK hP hD hS hA rfl zv_X3 (Nat.le_of_ble_eq_true rfl) (Nat.le_of_ble_eq_true rfl) dX4_init_29 (fun q_7 H hP hD hS => ?_)
  have hP : va_P (dC, dI) classes [(h0, .inr (4, [.ref q_1, .ref q_3, .ref q_5, .null, .int 0, .int 0, .int 0, .int 0])), (q_1, .inl (k_2, 21, .inl (fun _ => 0))), (q_3, .inl (k_4, 21, .inl (fun _ => 0))), (q_5, .inl (k_6, 21, .inl (fun _ => 0))), (q_7, .inr (3, [.int 0, .int 0, .int 0]))] H := hP
  have hD : va_D A [(h0, .inr (4, [.ref q_1, .ref q_3, .ref q_5, .null, .int 0, .int 0, .int 0, .int 0])), (q_1, .inl (k_2, 21, .inl (fun _ => 0))), (q_3, .inl (k_4, 21, .inl (fun _ => 0))), (q_5, .inl (k_6, 21, .inl (fun _ => 0))), (q_7, .inr (3, [.int 0, .int 0, .int 0]))] := hD
  refine W.widen (k := 4) (n := 66) (Nat.le_of_ble_eq_true rfl) (Nat.le_of_ble_eq_true rfl) ?_
  refine lv_dup hx hb dX4_init_32 rfl ?_
  have hPc := hP.sub (ws' := []) [] rfl
  have hDc := hD.sub (ws' := []) [] (by decide) rfl
  have hKc := hK.sub (tys' := []) [] rfl
  have hFc := va_free (wc := []) hD hS hA [] rfl
  refine va_callv (va_runIN (As := []) (rest := [.ref q_7, .ref h0]) ⟨hx, hb, hml, hown, hts⟩ (zk_X3_init l dC dI (q_7) H.size) ⟨va_cnB 0 hts gX4_init_X3_init_n23 rfl rfl rfl (hN.1 _ (List.mem_of_getElem? (i := 55) rfl)) (hts (.initialized RX3) (by decide +kernel)) (by decide +kernel) ⟨Nat.le_of_ble_eq_true rfl, Nat.le_of_ble_eq_true rfl⟩, rfl, hts (.instanceMethod yX3_init) (by decide +kernel)⟩ ⟨zw_blind, fun U hU hW => ⟨rfl, zw_P.of hPc hKc hDc hN U hU hW⟩⟩ rfl rfl hl.1 rfl (lv_room (Nat.le_of_ble_eq_true rfl)) dX4_init_33 ⟨Nat.le_of_ble_eq_true rfl, Nat.le_of_ble_eq_true rfl⟩) hS (fun q _ h => hFc q h) hFc (fun u t H1 locs ht hvm hw hB hz1 hk1 hS => ?_)
  obtain ⟨hP1, hK1, hD1⟩ := hB
  rw [ht] at hP1
  obtain ⟨hP, hD⟩ := va_join (wr := [(h0, .inr (4, [.ref q_1, .ref q_3, .ref q_5, .null, .int 0, .int 0, .int 0, .int 0])), (q_1, .inl (k_2, 21, .inl (fun _ => 0))), (q_3, .inl (k_4, 21, .inl (fun _ => 0))), (q_5, .inl (k_6, 21, .inl (fun _ => 0))), (q_7, .inr (3, [.int 0, .int 0, .int 0]))]) (w1 := []) hP hD [] [0, 1, 2, 3, 4] rfl rfl (by decide) (by decide) hk1 hFc hP1 hD1
  generalize H1 = H at hP hS ⊢
  have hP : va_P (dC, dI) classes [(h0, .inr (4, [.ref q_1, .ref q_3, .ref q_5, .null, .int 0, .int 0, .int 0, .int 0])), (q_1, .inl (k_2, 21, .inl (fun _ => 0))), (q_3, .inl (k_4, 21, .inl (fun _ => 0))), (q_5, .inl (k_6, 21, .inl (fun _ => 0))), (q_7, .inr (3, [.int 0, .int 0, .int 0]))] H := hP
  have hD : va_D A [(h0, .inr (4, [.ref q_1, .ref q_3, .ref q_5, .null, .int 0, .int 0, .int 0, .int 0])), (q_1, .inl (k_2, 21, .inl (fun _ => 0))), (q_3, .inl (k_4, 21, .inl (fun _ => 0))), (q_5, .inl (k_6, 21, .inl (fun _ => 0))), (q_7, .inr (3, [.int 0, .int 0, .int 0]))] := hD
  refine va_putF (D := (dC, dI)) (ci := 4) (v := .ref q_7) (ty := .object "HoldTwo$Men") (C := RX4) (T := TX4) (N := 8) hx hb hts zi_X4_init_X4 tyX4 tyX4_ok nmX4 hown hK hP hD hS 0 rfl rfl 3 (by decide) (hts (.fieldLink RX4 24 "HoldTwo$Moves" "men" "LHoldTwo$Men;") (by decide +kernel)) (fun _ h9 => h9) rfl hin rfl (by decide +kernel) rfl rfl (Nat.le_of_ble_eq_true rfl) dX4_init_36 (fun H locs hP hD hS => ?_)
  have hP : va_P (dC, dI) classes [(h0, .inr (4, [.ref q_1, .ref q_3, .ref q_5, .ref q_7, .int 0, .int 0, .int 0, .int 0])), (q_1, .inl (k_2, 21, .inl (fun _ => 0))), (q_3, .inl (k_4, 21, .inl (fun _ => 0))), (q_5, .inl (k_6, 21, .inl (fun _ => 0))), (q_7, .inr (3, [.int 0, .int 0, .int 0]))] H := hP
  have hD : va_D A [(h0, .inr (4, [.ref q_1, .ref q_3, .ref q_5, .ref q_7, .int 0, .int 0, .int 0, .int 0])), (q_1, .inl (k_2, 21, .inl (fun _ => 0))), (q_3, .inl (k_4, 21, .inl (fun _ => 0))), (q_5, .inl (k_6, 21, .inl (fun _ => 0))), (q_7, .inr (3, [.int 0, .int 0, .int 0]))] := hD
  refine lv_aload_n hx hb dX4_init_39 rfl (lv_at hl 0 rfl) ?_
  refine lv_iconst (v := 0) hx hb dX4_init_40 (by decide) ?_
  refine va_put (D := (dC, dI)) (ci := 4) (v := .int 0) (ty := .int) (C := RX4) (T := TX4) (N := 8) hx hb hts zi_X4_init_X4 tyX4 tyX4_ok nmX4 hown hK hP hD hS 0 rfl rfl 4 (by decide) (hts (.fieldLink RX4 28 "HoldTwo$Moves" "size" "I") (by decide +kernel)) (fun _ h9 => h9) rfl (by decide +kernel) rfl rfl (Nat.le_of_ble_eq_true rfl) dX4_init_41 (fun H locs hP hD hS => ?_)
  have hP : va_P (dC, dI) classes [(h0, .inr (4, [.ref q_1, .ref q_3, .ref q_5, .ref q_7, .int 0, .int 0, .int 0, .int 0])), (q_1, .inl (k_2, 21, .inl (fun _ => 0))), (q_3, .inl (k_4, 21, .inl (fun _ => 0))), (q_5, .inl (k_6, 21, .inl (fun _ => 0))), (q_7, .inr (3, [.int 0, .int 0, .int 0]))] H := hP
  have hD : va_D A [(h0, .inr (4, [.ref q_1, .ref q_3, .ref q_5, .ref q_7, .int 0, .int 0, .int 0, .int 0])), (q_1, .inl (k_2, 21, .inl (fun _ => 0))), (q_3, .inl (k_4, 21, .inl (fun _ => 0))), (q_5, .inl (k_6, 21, .inl (fun _ => 0))), (q_7, .inr (3, [.int 0, .int 0, .int 0]))] := hD
  refine lv_aload_n hx hb dX4_init_44 rfl (lv_at hl 0 rfl) ?_
  refine lv_iconst (v := (-1)) hx hb dX4_init_45 (by decide) ?_
  refine va_put (D := (dC, dI)) (ci := 4) (v := .int (-1)) (ty := .int) (C := RX4) (T := TX4) (N := 8) hx hb hts zi_X4_init_X4 tyX4 tyX4_ok nmX4 hown hK hP hD hS 0 rfl rfl 5 (by decide) (hts (.fieldLink RX4 32 "HoldTwo$Moves" "first" "I") (by decide +kernel)) (fun _ h9 => h9) rfl (by decide +kernel) rfl rfl (Nat.le_of_ble_eq_true rfl) dX4_init_46 (fun H locs hP hD hS => ?_)
  have hP : va_P (dC, dI) classes [(h0, .inr (4, [.ref q_1, .ref q_3, .ref q_5, .ref q_7, .int 0, .int (-1), .int 0, .int 0])), (q_1, .inl (k_2, 21, .inl (fun _ => 0))), (q_3, .inl (k_4, 21, .inl (fun _ => 0))), (q_5, .inl (k_6, 21, .inl (fun _ => 0))), (q_7, .inr (3, [.int 0, .int 0, .int 0]))] H := hP
  have hD : va_D A [(h0, .inr (4, [.ref q_1, .ref q_3, .ref q_5, .ref q_7, .int 0, .int (-1), .int 0, .int 0])), (q_1, .inl (k_2, 21, .inl (fun _ => 0))), (q_3, .inl (k_4, 21, .inl (fun _ => 0))), (q_5, .inl (k_6, 21, .inl (fun _ => 0))), (q_7, .inr (3, [.int 0, .int 0, .int 0]))] := hD
  refine lv_aload_n hx hb dX4_init_49 rfl (lv_at hl 0 rfl) ?_
  refine lv_iconst (v := (-1)) hx hb dX4_init_50 (by decide) ?_
  refine va_put (D := (dC, dI)) (ci := 4) (v := .int (-1)) (ty := .int) (C := RX4) (T := TX4) (N := 8) hx hb hts zi_X4_init_X4 tyX4 tyX4_ok nmX4 hown hK hP hD hS 0 rfl rfl 6 (by decide) (hts (.fieldLink RX4 35 "HoldTwo$Moves" "second" "I") (by decide +kernel)) (fun _ h9 => h9) rfl (by decide +kernel) rfl rfl (Nat.le_of_ble_eq_true rfl) dX4_init_51 (fun H locs hP hD hS => ?_)
  have hP : va_P (dC, dI) classes [(h0, .inr (4, [.ref q_1, .ref q_3, .ref q_5, .ref q_7, .int 0, .int (-1), .int (-1), .int 0])), (q_1, .inl (k_2, 21, .inl (fun _ => 0))), (q_3, .inl (k_4, 21, .inl (fun _ => 0))), (q_5, .inl (k_6, 21, .inl (fun _ => 0))), (q_7, .inr (3, [.int 0, .int 0, .int 0]))] H := hP
  have hD : va_D A [(h0, .inr (4, [.ref q_1, .ref q_3, .ref q_5, .ref q_7, .int 0, .int (-1), .int (-1), .int 0])), (q_1, .inl (k_2, 21, .inl (fun _ => 0))), (q_3, .inl (k_4, 21, .inl (fun _ => 0))), (q_5, .inl (k_6, 21, .inl (fun _ => 0))), (q_7, .inr (3, [.int 0, .int 0, .int 0]))] := hD
  refine lv_aload_n hx hb dX4_init_54 rfl (lv_at hl 0 rfl) ?_
  refine lv_iconst (v := 0) hx hb dX4_init_55 (by decide) ?_
  refine va_put (D := (dC, dI)) (ci := 4) (v := .int 0) (ty := .int) (C := RX4) (T := TX4) (N := 8) hx hb hts zi_X4_init_X4 tyX4 tyX4_ok nmX4 hown hK hP hD hS 0 rfl rfl 7 (by decide) (hts (.fieldLink RX4 38 "HoldTwo$Moves" "pairs" "I") (by decide +kernel)) (fun _ h9 => h9) rfl (by decide +kernel) rfl rfl (Nat.le_of_ble_eq_true rfl) dX4_init_56 (fun H locs hP hD hS => ?_)
  have hP : va_P (dC, dI) classes [(h0, .inr (4, [.ref q_1, .ref q_3, .ref q_5, .ref q_7, .int 0, .int (-1), .int (-1), .int 0])), (q_1, .inl (k_2, 21, .inl (fun _ => 0))), (q_3, .inl (k_4, 21, .inl (fun _ => 0))), (q_5, .inl (k_6, 21, .inl (fun _ => 0))), (q_7, .inr (3, [.int 0, .int 0, .int 0]))] H := hP
  have hD : va_D A [(h0, .inr (4, [.ref q_1, .ref q_3, .ref q_5, .ref q_7, .int 0, .int (-1), .int (-1), .int 0])), (q_1, .inl (k_2, 21, .inl (fun _ => 0))), (q_3, .inl (k_4, 21, .inl (fun _ => 0))), (q_5, .inl (k_6, 21, .inl (fun _ => 0))), (q_7, .inr (3, [.int 0, .int 0, .int 0]))] := hD
  have hP9 := hP.sub (ws' := [(h0, .inr (4, [.ref q_1, .ref q_3, .ref q_5, .ref q_7, .int 0, .int (-1), .int (-1), .int 0]))]) [0] rfl
  have hD9 := hD.sub (ws' := [(h0, .inr (4, [.ref q_1, .ref q_3, .ref q_5, .ref q_7, .int 0, .int (-1), .int (-1), .int 0]))]) [0] (by decide) rfl
  have hK9 := hK.sub (tys' := []) [] rfl
  refine W.widen (k := 4) (n := 66) (Nat.le_of_ble_eq_true rfl) (Nat.le_of_ble_eq_true rfl) ?_
  exact W.vret hx hb hr (fun t ht hW => ⟨⟨(), rfl, trivial, q_1, q_3, q_5, q_7, by rw [ht]; exact hP9, va_K.moved hW.alike hK9, hD9⟩, hS.F ht⟩) hS.2.2 dX4_init_59
set_option maxHeartbeats 8000000 in
set_option maxRecDepth 100000 in
theorem zk_X10_init (l : Launch) (dC : Nat → ClassId) (dI : Nat → Nat → Nat) (h0 : Nat) (h1 : Nat) (sz : Nat) : Met l yX10_init wsX10_init ({ frames := 2, cells := 2, slots := 3, locals := 32 }) (va_Pc [.ref h0, .ref h1] (zw_P dC dI sz [] [(h0, .inr (10, [.null, .null, .null, .null, .null, .null, .null, .null, .int 0, .int 0, .int 0, .int 0, .int 0, .int 0, .int 0, .int 0, .int 0, .int 0, .int 0]))])) (va_Qv (fun (_ : Unit) => True) (fun (_ : Unit) (t : State) => ∃ y0 : Nat, ∃ y1 : Nat, zw_Q dC dI (va_A [(h0, .inr (10, [.null, .null, .null, .null, .null, .null, .null, .null, .int 0, .int 0, .int 0, .int 0, .int 0, .int 0, .int 0, .int 0, .int 0, .int 0, .int 0]))] sz) [] [(h0, .inr (10, [.ref h1, .ref y0, .ref y1, .ref y1, .ref y1, .ref y1, .ref y1, .ref y1, .int 0, .int 0, .int 0, .int 0, .int 0, .int 0, .int 0, .int 0, .int 0, .int 0, .int (-1)]))] t) (va_A [(h0, .inr (10, [.null, .null, .null, .null, .null, .null, .null, .null, .int 0, .int 0, .int 0, .int 0, .int 0, .int 0, .int 0, .int 0, .int 0, .int 0, .int 0]))] sz)) 2 3 (va_A [(h0, .inr (10, [.null, .null, .null, .null, .null, .null, .null, .null, .int 0, .int 0, .int 0, .int 0, .int 0, .int 0, .int 0, .int 0, .int 0, .int 0, .int 0]))] sz) := by
  refine Met.ofW (cc := cX10_init) (maxL := 2) (ret := none) (by decide) rfl ?_
  intro p e s m args below meth c s₁ B hml hv
  obtain ⟨rfl, hsz, hP, hK, hD0, hN⟩ := hv
  have hx := B.exec
  have hb := B.bytes
  have hr := B.returns
  have hts := atoms_spec (ws := wsX10_init) B.pre
  have hown : s.vm.findClass RX10 = some m.cls := findClass_of_methodNamed B.named
  have hlocks := B.notSynchronized
  have hin : meth.name = "<init>" := (name_of_methodNamed B.named B.method).1
  subst hsz
  have hD := hD0.self (sz := s.heap.size)
  generalize hAe : va_A [(h0, .inr (10, [.null, .null, .null, .null, .null, .null, .null, .null, .int 0, .int 0, .int 0, .int 0, .int 0, .int 0, .int 0, .int 0, .int 0, .int 0, .int 0]))] s.heap.size = A at hD ⊢
  have hA : ∀ q : Nat, s.heap.size ≤ q → A q := fun q h => by rw [← hAe]; exact Or.inr h
  have hP : va_P (dC, dI) classes [(h0, .inr (10, [.null, .null, .null, .null, .null, .null, .null, .null, .int 0, .int 0, .int 0, .int 0, .int 0, .int 0, .int 0, .int 0, .int 0, .int 0, .int 0]))] s.heap := hP
  have hl := lv_entry ([.ref h0, .ref h1]) (n := 2) (Nat.le_of_ble_eq_true rfl)
  rw [lg_entry_eq]
  generalize (lg_sl ([.ref h0, .ref h1]) ++ List.replicate (2 - (lg_sl ([.ref h0, .ref h1])).length) Slot.unset).toArray = ls at hl ⊢
  have hl : lv_has ls 2 [(0, .ref h0), (1, .ref h1)] := hl
  refine zw_start (fun H eH => ?_)
  have hP : va_P (dC, dI) classes [(h0, .inr (10, [.null, .null, .null, .null, .null, .null, .null, .null, .int 0, .int 0, .int 0, .int 0, .int 0, .int 0, .int 0, .int 0, .int 0, .int 0, .int 0]))] H := by rw [eH]; exact hP
  have hS : va_S A s.heap H [] := by rw [eH]; exact va_S.rf
  refine lv_aload_n hx hb dX10_init_0 rfl (lv_at hl 0 rfl) ?_
  refine W.objInit hx hb hown (hts (.methodLink RX10 3 objectInit) (by decide +kernel)) (hts (.instanceMethod objectInit) (by decide +kernel)) (hts (.code objectInit ⟨#[0xb1]⟩ 1 none) (List.mem_of_getElem? (i := 3) rfl)) rfl (by rw [hml]; exact hl.1) rfl dX10_init_1 (Nat.le_of_ble_eq_true rfl) (Nat.le_of_ble_eq_true rfl) ?_
  refine W.eq (g2 := F0 m 4 ls []) rfl ?_
  refine lv_aload_n hx hb dX10_init_4 rfl (lv_at hl 0 rfl) ?_
  refine lv_aload_n hx hb dX10_init_5 rfl (lv_at hl 1 rfl) ?_
  refine va_putF (D := (dC, dI)) (ci := 10) (v := .ref h1) (ty := .object "HoldTwo$Referee") (C := RX10) (T := TX10) (N := 19) hx hb hts zi_X10_init_X10 tyX10 tyX10_ok nmX10 hown hK hP hD hS 0 rfl rfl 0 (by decide) (hts (.fieldLink RX10 9 "HoldTwo$Values" "referee" "LHoldTwo$Referee;") (by decide +kernel)) (fun _ h9 => h9) rfl hin rfl (by decide +kernel) rfl rfl (Nat.le_of_ble_eq_true rfl) dX10_init_6 (fun H locs hP hD hS => ?_)
  have hP : va_P (dC, dI) classes [(h0, .inr (10, [.ref h1, .null, .null, .null, .null, .null, .null, .null, .int 0, .int 0, .int 0, .int 0, .int 0, .int 0, .int 0, .int 0, .int 0, .int 0, .int 0]))] H := hP
  have hD : va_D A [(h0, .inr (10, [.ref h1, .null, .null, .null, .null, .null, .null, .null, .int 0, .int 0, .int 0, .int 0, .int 0, .int 0, .int 0, .int 0, .int 0, .int 0, .int 0]))] := hD
  refine lv_aload_n hx hb dX10_init_9 rfl (lv_at hl 0 rfl) ?_
  refine va_new (ci := 3) (fs := [.int 0, .int 0, .int 0]) (C := RX3) (T := TX3) (N := 3) hx hb hts zi_X10_init_X3 tyX3 tyX3_ok hown (hts (.classLink RX10 15 RX3) (by decide +kernel)) (hts (.instantiable RX3 3) (by decide +kernel)) (hts (.initialized RX3) (by decide +kernel)) hK hP hD hS hA rfl zv_X3 (Nat.le_of_ble_eq_true rfl) (Nat.le_of_ble_eq_true rfl) dX10_init_10 (fun q_1 H hP hD hS => ?_)
  have hP : va_P (dC, dI) classes [(h0, .inr (10, [.ref h1, .null, .null, .null, .null, .null, .null, .null, .int 0, .int 0, .int 0, .int 0, .int 0, .int 0, .int 0, .int 0, .int 0, .int 0, .int 0])), (q_1, .inr (3, [.int 0, .int 0, .int 0]))] H := hP
  have hD : va_D A [(h0, .inr (10, [.ref h1, .null, .null, .null, .null, .null, .null, .null, .int 0, .int 0, .int 0, .int 0, .int 0, .int 0, .int 0, .int 0, .int 0, .int 0, .int 0])), (q_1, .inr (3, [.int 0, .int 0, .int 0]))] := hD
  refine W.widen (k := 1) (n := 3) (Nat.le_of_ble_eq_true rfl) (Nat.le_of_ble_eq_true rfl) ?_
  refine lv_dup hx hb dX10_init_13 rfl ?_
  have hPc := hP.sub (ws' := []) [] rfl
  have hDc := hD.sub (ws' := []) [] (by decide) rfl
  have hKc := hK.sub (tys' := []) [] rfl
  have hFc := va_free (wc := []) hD hS hA [] rfl
  refine va_callv (va_runIN (As := []) (rest := [.ref q_1, .ref h0]) ⟨hx, hb, hml, hown, hts⟩ (zk_X3_init l dC dI (q_1) H.size) ⟨va_cnB 0 hts gX10_init_X3_init_n17 rfl rfl rfl (hN.1 _ (List.mem_of_getElem? (i := 56) rfl)) (hts (.initialized RX3) (by decide +kernel)) (by decide +kernel) ⟨Nat.le_of_ble_eq_true rfl, Nat.le_of_ble_eq_true rfl⟩, rfl, hts (.instanceMethod yX3_init) (by decide +kernel)⟩ ⟨zw_blind, fun U hU hW => ⟨rfl, zw_P.of hPc hKc hDc hN U hU hW⟩⟩ rfl rfl hl.1 rfl (lv_room (Nat.le_of_ble_eq_true rfl)) dX10_init_14 ⟨Nat.le_of_ble_eq_true rfl, Nat.le_of_ble_eq_true rfl⟩) hS (fun q _ h => hFc q h) hFc (fun u t H1 locs ht hvm hw hB hz1 hk1 hS => ?_)
  obtain ⟨hP1, hK1, hD1⟩ := hB
  rw [ht] at hP1
  obtain ⟨hP, hD⟩ := va_join (wr := [(h0, .inr (10, [.ref h1, .null, .null, .null, .null, .null, .null, .null, .int 0, .int 0, .int 0, .int 0, .int 0, .int 0, .int 0, .int 0, .int 0, .int 0, .int 0])), (q_1, .inr (3, [.int 0, .int 0, .int 0]))]) (w1 := []) hP hD [] [0, 1] rfl rfl (by decide) (by decide) hk1 hFc hP1 hD1
  generalize H1 = H at hP hS ⊢
  have hP : va_P (dC, dI) classes [(h0, .inr (10, [.ref h1, .null, .null, .null, .null, .null, .null, .null, .int 0, .int 0, .int 0, .int 0, .int 0, .int 0, .int 0, .int 0, .int 0, .int 0, .int 0])), (q_1, .inr (3, [.int 0, .int 0, .int 0]))] H := hP
  have hD : va_D A [(h0, .inr (10, [.ref h1, .null, .null, .null, .null, .null, .null, .null, .int 0, .int 0, .int 0, .int 0, .int 0, .int 0, .int 0, .int 0, .int 0, .int 0, .int 0])), (q_1, .inr (3, [.int 0, .int 0, .int 0]))] := hD
  refine va_putF (D := (dC, dI)) (ci := 10) (v := .ref q_1) (ty := .object "HoldTwo$Men") (C := RX10) (T := TX10) (N := 19) hx hb hts zi_X10_init_X10 tyX10 tyX10_ok nmX10 hown hK hP hD hS 0 rfl rfl 1 (by decide) (hts (.fieldLink RX10 18 "HoldTwo$Values" "men" "LHoldTwo$Men;") (by decide +kernel)) (fun _ h9 => h9) rfl hin rfl (by decide +kernel) rfl rfl (Nat.le_of_ble_eq_true rfl) dX10_init_17 (fun H locs hP hD hS => ?_)
  have hP : va_P (dC, dI) classes [(h0, .inr (10, [.ref h1, .ref q_1, .null, .null, .null, .null, .null, .null, .int 0, .int 0, .int 0, .int 0, .int 0, .int 0, .int 0, .int 0, .int 0, .int 0, .int 0])), (q_1, .inr (3, [.int 0, .int 0, .int 0]))] H := hP
  have hD : va_D A [(h0, .inr (10, [.ref h1, .ref q_1, .null, .null, .null, .null, .null, .null, .int 0, .int 0, .int 0, .int 0, .int 0, .int 0, .int 0, .int 0, .int 0, .int 0, .int 0])), (q_1, .inr (3, [.int 0, .int 0, .int 0]))] := hD
  refine lv_aload_n hx hb dX10_init_20 rfl (lv_at hl 0 rfl) ?_
  refine lv_iconst (v := 0) hx hb dX10_init_21 (by decide) ?_
  refine va_newa (atype := .int) (ty := .int) (N' := 0) (a0 := (0, .inl (fun _ => 0))) hx hb (hts (.arrayClass .int) (by decide +kernel)) rfl hK hP hD hS hA (fun _ => rfl) (by decide) (by decide +kernel) (by decide +kernel) (Nat.le_of_ble_eq_true rfl) (Nat.le_of_ble_eq_true rfl) dX10_init_22 (fun q_3 k_4 H hK hP hD hS => ?_)
  have hP : va_P (dC, dI) classes [(h0, .inr (10, [.ref h1, .ref q_1, .null, .null, .null, .null, .null, .null, .int 0, .int 0, .int 0, .int 0, .int 0, .int 0, .int 0, .int 0, .int 0, .int 0, .int 0])), (q_1, .inr (3, [.int 0, .int 0, .int 0])), (q_3, .inl (k_4, 0, .inl (fun _ => 0)))] H := hP
  have hD : va_D A [(h0, .inr (10, [.ref h1, .ref q_1, .null, .null, .null, .null, .null, .null, .int 0, .int 0, .int 0, .int 0, .int 0, .int 0, .int 0, .int 0, .int 0, .int 0, .int 0])), (q_1, .inr (3, [.int 0, .int 0, .int 0])), (q_3, .inl (k_4, 0, .inl (fun _ => 0)))] := hD
  have hK : va_K (dC, dI) classes [(k_4, .int)] s := hK
  refine W.widen (k := 2) (n := 3) (Nat.le_of_ble_eq_true rfl) (Nat.le_of_ble_eq_true rfl) ?_
  refine va_put (D := (dC, dI)) (ci := 10) (v := .ref q_3) (ty := .array .int) (C := RX10) (T := TX10) (N := 19) hx hb hts zi_X10_init_X10 tyX10 tyX10_ok nmX10 hown hK hP hD hS 0 rfl rfl 2 (by decide) (hts (.fieldLink RX10 22 "HoldTwo$Values" "held" "[I") (by decide +kernel)) (fun _ h9 => h9) rfl (by decide +kernel) rfl rfl (Nat.le_of_ble_eq_true rfl) dX10_init_24 (fun H locs hP hD hS => ?_)
  have hP : va_P (dC, dI) classes [(h0, .inr (10, [.ref h1, .ref q_1, .ref q_3, .null, .null, .null, .null, .null, .int 0, .int 0, .int 0, .int 0, .int 0, .int 0, .int 0, .int 0, .int 0, .int 0, .int 0])), (q_1, .inr (3, [.int 0, .int 0, .int 0])), (q_3, .inl (k_4, 0, .inl (fun _ => 0)))] H := hP
  have hD : va_D A [(h0, .inr (10, [.ref h1, .ref q_1, .ref q_3, .null, .null, .null, .null, .null, .int 0, .int 0, .int 0, .int 0, .int 0, .int 0, .int 0, .int 0, .int 0, .int 0, .int 0])), (q_1, .inr (3, [.int 0, .int 0, .int 0])), (q_3, .inl (k_4, 0, .inl (fun _ => 0)))] := hD
  refine lv_aload_n hx hb dX10_init_27 rfl (lv_at hl 0 rfl) ?_
  refine lv_aload_n hx hb dX10_init_28 rfl (lv_at hl 0 rfl) ?_
  refine va_get (D := (dC, dI)) (ci := 10) (v := .ref q_3) (C := RX10) (T := TX10) (N := 19) hx hb hts zi_X10_init_X10 hown hK hP 0 rfl rfl 2 (by decide) (hts (.fieldLink RX10 22 "HoldTwo$Values" "held" "[I") (by decide +kernel)) (fun _ h9 => h9) rfl dX10_init_29 ?_
  refine va_put (D := (dC, dI)) (ci := 10) (v := .ref q_3) (ty := .array .int) (C := RX10) (T := TX10) (N := 19) hx hb hts zi_X10_init_X10 tyX10 tyX10_ok nmX10 hown hK hP hD hS 0 rfl rfl 3 (by decide) (hts (.fieldLink RX10 26 "HoldTwo$Values" "plain" "[I") (by decide +kernel)) (fun _ h9 => h9) rfl (by decide +kernel) rfl rfl (Nat.le_of_ble_eq_true rfl) dX10_init_32 (fun H locs hP hD hS => ?_)
  have hP : va_P (dC, dI) classes [(h0, .inr (10, [.ref h1, .ref q_1, .ref q_3, .ref q_3, .null, .null, .null, .null, .int 0, .int 0, .int 0, .int 0, .int 0, .int 0, .int 0, .int 0, .int 0, .int 0, .int 0])), (q_1, .inr (3, [.int 0, .int 0, .int 0])), (q_3, .inl (k_4, 0, .inl (fun _ => 0)))] H := hP
  have hD : va_D A [(h0, .inr (10, [.ref h1, .ref q_1, .ref q_3, .ref q_3, .null, .null, .null, .null, .int 0, .int 0, .int 0, .int 0, .int 0, .int 0, .int 0, .int 0, .int 0, .int 0, .int 0])), (q_1, .inr (3, [.int 0, .int 0, .int 0])), (q_3, .inl (k_4, 0, .inl (fun _ => 0)))] := hD
  refine lv_aload_n hx hb dX10_init_35 rfl (lv_at hl 0 rfl) ?_
  refine lv_aload_n hx hb dX10_init_36 rfl (lv_at hl 0 rfl) ?_
  refine va_get (D := (dC, dI)) (ci := 10) (v := .ref q_3) (C := RX10) (T := TX10) (N := 19) hx hb hts zi_X10_init_X10 hown hK hP 0 rfl rfl 2 (by decide) (hts (.fieldLink RX10 22 "HoldTwo$Values" "held" "[I") (by decide +kernel)) (fun _ h9 => h9) rfl dX10_init_37 ?_
  refine va_put (D := (dC, dI)) (ci := 10) (v := .ref q_3) (ty := .array .int) (C := RX10) (T := TX10) (N := 19) hx hb hts zi_X10_init_X10 tyX10 tyX10_ok nmX10 hown hK hP hD hS 0 rfl rfl 4 (by decide) (hts (.fieldLink RX10 29 "HoldTwo$Values" "facts" "[I") (by decide +kernel)) (fun _ h9 => h9) rfl (by decide +kernel) rfl rfl (Nat.le_of_ble_eq_true rfl) dX10_init_40 (fun H locs hP hD hS => ?_)
  have hP : va_P (dC, dI) classes [(h0, .inr (10, [.ref h1, .ref q_1, .ref q_3, .ref q_3, .ref q_3, .null, .null, .null, .int 0, .int 0, .int 0, .int 0, .int 0, .int 0, .int 0, .int 0, .int 0, .int 0, .int 0])), (q_1, .inr (3, [.int 0, .int 0, .int 0])), (q_3, .inl (k_4, 0, .inl (fun _ => 0)))] H := hP
  have hD : va_D A [(h0, .inr (10, [.ref h1, .ref q_1, .ref q_3, .ref q_3, .ref q_3, .null, .null, .null, .int 0, .int 0, .int 0, .int 0, .int 0, .int 0, .int 0, .int 0, .int 0, .int 0, .int 0])), (q_1, .inr (3, [.int 0, .int 0, .int 0])), (q_3, .inl (k_4, 0, .inl (fun _ => 0)))] := hD
  refine lv_aload_n hx hb dX10_init_43 rfl (lv_at hl 0 rfl) ?_
  refine lv_aload_n hx hb dX10_init_44 rfl (lv_at hl 0 rfl) ?_
  refine va_get (D := (dC, dI)) (ci := 10) (v := .ref q_3) (C := RX10) (T := TX10) (N := 19) hx hb hts zi_X10_init_X10 hown hK hP 0 rfl rfl 2 (by decide) (hts (.fieldLink RX10 22 "HoldTwo$Values" "held" "[I") (by decide +kernel)) (fun _ h9 => h9) rfl dX10_init_45 ?_
  refine va_put (D := (dC, dI)) (ci := 10) (v := .ref q_3) (ty := .array .int) (C := RX10) (T := TX10) (N := 19) hx hb hts zi_X10_init_X10 tyX10 tyX10_ok nmX10 hown hK hP hD hS 0 rfl rfl 5 (by decide) (hts (.fieldLink RX10 32 "HoldTwo$Values" "tally" "[I") (by decide +kernel)) (fun _ h9 => h9) rfl (by decide +kernel) rfl rfl (Nat.le_of_ble_eq_true rfl) dX10_init_48 (fun H locs hP hD hS => ?_)
  have hP : va_P (dC, dI) classes [(h0, .inr (10, [.ref h1, .ref q_1, .ref q_3, .ref q_3, .ref q_3, .ref q_3, .null, .null, .int 0, .int 0, .int 0, .int 0, .int 0, .int 0, .int 0, .int 0, .int 0, .int 0, .int 0])), (q_1, .inr (3, [.int 0, .int 0, .int 0])), (q_3, .inl (k_4, 0, .inl (fun _ => 0)))] H := hP
  have hD : va_D A [(h0, .inr (10, [.ref h1, .ref q_1, .ref q_3, .ref q_3, .ref q_3, .ref q_3, .null, .null, .int 0, .int 0, .int 0, .int 0, .int 0, .int 0, .int 0, .int 0, .int 0, .int 0, .int 0])), (q_1, .inr (3, [.int 0, .int 0, .int 0])), (q_3, .inl (k_4, 0, .inl (fun _ => 0)))] := hD
  refine lv_aload_n hx hb dX10_init_51 rfl (lv_at hl 0 rfl) ?_
  refine lv_aload_n hx hb dX10_init_52 rfl (lv_at hl 0 rfl) ?_
  refine va_get (D := (dC, dI)) (ci := 10) (v := .ref q_3) (C := RX10) (T := TX10) (N := 19) hx hb hts zi_X10_init_X10 hown hK hP 0 rfl rfl 2 (by decide) (hts (.fieldLink RX10 22 "HoldTwo$Values" "held" "[I") (by decide +kernel)) (fun _ h9 => h9) rfl dX10_init_53 ?_
  refine va_put (D := (dC, dI)) (ci := 10) (v := .ref q_3) (ty := .array .int) (C := RX10) (T := TX10) (N := 19) hx hb hts zi_X10_init_X10 tyX10 tyX10_ok nmX10 hown hK hP hD hS 0 rfl rfl 6 (by decide) (hts (.fieldLink RX10 35 "HoldTwo$Values" "queue" "[I") (by decide +kernel)) (fun _ h9 => h9) rfl (by decide +kernel) rfl rfl (Nat.le_of_ble_eq_true rfl) dX10_init_56 (fun H locs hP hD hS => ?_)
  have hP : va_P (dC, dI) classes [(h0, .inr (10, [.ref h1, .ref q_1, .ref q_3, .ref q_3, .ref q_3, .ref q_3, .ref q_3, .null, .int 0, .int 0, .int 0, .int 0, .int 0, .int 0, .int 0, .int 0, .int 0, .int 0, .int 0])), (q_1, .inr (3, [.int 0, .int 0, .int 0])), (q_3, .inl (k_4, 0, .inl (fun _ => 0)))] H := hP
  have hD : va_D A [(h0, .inr (10, [.ref h1, .ref q_1, .ref q_3, .ref q_3, .ref q_3, .ref q_3, .ref q_3, .null, .int 0, .int 0, .int 0, .int 0, .int 0, .int 0, .int 0, .int 0, .int 0, .int 0, .int 0])), (q_1, .inr (3, [.int 0, .int 0, .int 0])), (q_3, .inl (k_4, 0, .inl (fun _ => 0)))] := hD
  refine lv_aload_n hx hb dX10_init_59 rfl (lv_at hl 0 rfl) ?_
  refine lv_aload_n hx hb dX10_init_60 rfl (lv_at hl 0 rfl) ?_
  refine va_get (D := (dC, dI)) (ci := 10) (v := .ref q_3) (C := RX10) (T := TX10) (N := 19) hx hb hts zi_X10_init_X10 hown hK hP 0 rfl rfl 2 (by decide) (hts (.fieldLink RX10 22 "HoldTwo$Values" "held" "[I") (by decide +kernel)) (fun _ h9 => h9) rfl dX10_init_61 ?_
  refine va_put (D := (dC, dI)) (ci := 10) (v := .ref q_3) (ty := .array .int) (C := RX10) (T := TX10) (N := 19) hx hb hts zi_X10_init_X10 tyX10 tyX10_ok nmX10 hown hK hP hD hS 0 rfl rfl 7 (by decide) (hts (.fieldLink RX10 38 "HoldTwo$Values" "filled" "[I") (by decide +kernel)) (fun _ h9 => h9) rfl (by decide +kernel) rfl rfl (Nat.le_of_ble_eq_true rfl) dX10_init_64 (fun H locs hP hD hS => ?_)
  have hP : va_P (dC, dI) classes [(h0, .inr (10, [.ref h1, .ref q_1, .ref q_3, .ref q_3, .ref q_3, .ref q_3, .ref q_3, .ref q_3, .int 0, .int 0, .int 0, .int 0, .int 0, .int 0, .int 0, .int 0, .int 0, .int 0, .int 0])), (q_1, .inr (3, [.int 0, .int 0, .int 0])), (q_3, .inl (k_4, 0, .inl (fun _ => 0)))] H := hP
  have hD : va_D A [(h0, .inr (10, [.ref h1, .ref q_1, .ref q_3, .ref q_3, .ref q_3, .ref q_3, .ref q_3, .ref q_3, .int 0, .int 0, .int 0, .int 0, .int 0, .int 0, .int 0, .int 0, .int 0, .int 0, .int 0])), (q_1, .inr (3, [.int 0, .int 0, .int 0])), (q_3, .inl (k_4, 0, .inl (fun _ => 0)))] := hD
  refine lv_aload_n hx hb dX10_init_67 rfl (lv_at hl 0 rfl) ?_
  refine lv_iconst (v := (-1)) hx hb dX10_init_68 (by decide) ?_
  refine va_put (D := (dC, dI)) (ci := 10) (v := .int (-1)) (ty := .int) (C := RX10) (T := TX10) (N := 19) hx hb hts zi_X10_init_X10 tyX10 tyX10_ok nmX10 hown hK hP hD hS 0 rfl rfl 18 (by decide) (hts (.fieldLink RX10 41 "HoldTwo$Values" "hardest" "I") (by decide +kernel)) (fun _ h9 => h9) rfl (by decide +kernel) rfl rfl (Nat.le_of_ble_eq_true rfl) dX10_init_69 (fun H locs hP hD hS => ?_)
  have hP : va_P (dC, dI) classes [(h0, .inr (10, [.ref h1, .ref q_1, .ref q_3, .ref q_3, .ref q_3, .ref q_3, .ref q_3, .ref q_3, .int 0, .int 0, .int 0, .int 0, .int 0, .int 0, .int 0, .int 0, .int 0, .int 0, .int (-1)])), (q_1, .inr (3, [.int 0, .int 0, .int 0])), (q_3, .inl (k_4, 0, .inl (fun _ => 0)))] H := hP
  have hD : va_D A [(h0, .inr (10, [.ref h1, .ref q_1, .ref q_3, .ref q_3, .ref q_3, .ref q_3, .ref q_3, .ref q_3, .int 0, .int 0, .int 0, .int 0, .int 0, .int 0, .int 0, .int 0, .int 0, .int 0, .int (-1)])), (q_1, .inr (3, [.int 0, .int 0, .int 0])), (q_3, .inl (k_4, 0, .inl (fun _ => 0)))] := hD
  have hP9 := hP.sub (ws' := [(h0, .inr (10, [.ref h1, .ref q_1, .ref q_3, .ref q_3, .ref q_3, .ref q_3, .ref q_3, .ref q_3, .int 0, .int 0, .int 0, .int 0, .int 0, .int 0, .int 0, .int 0, .int 0, .int 0, .int (-1)]))]) [0] rfl
  have hD9 := hD.sub (ws' := [(h0, .inr (10, [.ref h1, .ref q_1, .ref q_3, .ref q_3, .ref q_3, .ref q_3, .ref q_3, .ref q_3, .int 0, .int 0, .int 0, .int 0, .int 0, .int 0, .int 0, .int 0, .int 0, .int 0, .int (-1)]))]) [0] (by decide) rfl
  have hK9 := hK.sub (tys' := []) [] rfl
  refine W.widen (k := 2) (n := 3) (Nat.le_of_ble_eq_true rfl) (Nat.le_of_ble_eq_true rfl) ?_
  exact W.vret hx hb hr (fun t ht hW => ⟨⟨(), rfl, trivial, q_1, q_3, by rw [ht]; exact hP9, va_K.moved hW.alike hK9, hD9⟩, hS.F ht⟩) hS.2.2 dX10_init_72
set_option maxHeartbeats 8000000 in
set_option maxRecDepth 100000 in
theorem zk_X9_init (l : Launch) (dC : Nat → ClassId) (dI : Nat → Nat → Nat) (h0 : Nat) (sz : Nat) : Met l yX9_init wsX9_init ({ frames := 2, cells := 5, slots := 36, locals := 32 }) (va_Pc [.ref h0] (zw_P dC dI sz [] [(h0, .inr (9, [.null, .null, .null, .int 0, .int 0]))])) (va_Qv (fun (_ : Unit) => True) (fun (_ : Unit) (t : State) => ∃ y0 : Nat, ∃ y1 : Nat, ∃ y2 : Nat, zw_Q dC dI (va_A [(h0, .inr (9, [.null, .null, .null, .int 0, .int 0]))] sz) [] [(h0, .inr (9, [.ref y0, .ref y1, .ref y2, .int (-1), .int 0]))] t) (va_A [(h0, .inr (9, [.null, .null, .null, .int 0, .int 0]))] sz)) 5 36 (va_A [(h0, .inr (9, [.null, .null, .null, .int 0, .int 0]))] sz) := by
  refine Met.ofW (cc := cX9_init) (maxL := 1) (ret := none) (by decide) rfl ?_
  intro p e s m args below meth c s₁ B hml hv
  obtain ⟨rfl, hsz, hP, hK, hD0, hN⟩ := hv
  have hx := B.exec
  have hb := B.bytes
  have hr := B.returns
  have hts := atoms_spec (ws := wsX9_init) B.pre
  have hown : s.vm.findClass RX9 = some m.cls := findClass_of_methodNamed B.named
  have hlocks := B.notSynchronized
  have hin : meth.name = "<init>" := (name_of_methodNamed B.named B.method).1
  subst hsz
  have hD := hD0.self (sz := s.heap.size)
  generalize hAe : va_A [(h0, .inr (9, [.null, .null, .null, .int 0, .int 0]))] s.heap.size = A at hD ⊢
  have hA : ∀ q : Nat, s.heap.size ≤ q → A q := fun q h => by rw [← hAe]; exact Or.inr h
  have hP : va_P (dC, dI) classes [(h0, .inr (9, [.null, .null, .null, .int 0, .int 0]))] s.heap := hP
  have hl := lv_entry ([.ref h0]) (n := 1) (Nat.le_of_ble_eq_true rfl)
  rw [lg_entry_eq]
  generalize (lg_sl ([.ref h0]) ++ List.replicate (1 - (lg_sl ([.ref h0])).length) Slot.unset).toArray = ls at hl ⊢
  have hl : lv_has ls 1 [(0, .ref h0)] := hl
  refine zw_start (fun H eH => ?_)
  have hP : va_P (dC, dI) classes [(h0, .inr (9, [.null, .null, .null, .int 0, .int 0]))] H := by rw [eH]; exact hP
  have hS : va_S A s.heap H [] := by rw [eH]; exact va_S.rf
  refine lv_aload_n hx hb dX9_init_0 rfl (lv_at hl 0 rfl) ?_
  refine W.objInit hx hb hown (hts (.methodLink RX9 3 objectInit) (by decide +kernel)) (hts (.instanceMethod objectInit) (by decide +kernel)) (hts (.code objectInit ⟨#[0xb1]⟩ 1 none) (List.mem_of_getElem? (i := 3) rfl)) rfl (by rw [hml]; exact hl.1) rfl dX9_init_1 (Nat.le_of_ble_eq_true rfl) (Nat.le_of_ble_eq_true rfl) ?_
  refine W.eq (g2 := F0 m 4 ls []) rfl ?_
  refine lv_aload_n hx hb dX9_init_4 rfl (lv_at hl 0 rfl) ?_
  refine lv_bipush (v := 9) hx hb dX9_init_5 (by decide) ?_
  refine va_newa (atype := .int) (ty := .int) (N' := 9) (a0 := (9, .inl (fun _ => 0))) hx hb (hts (.arrayClass .int) (by decide +kernel)) rfl hK hP hD hS hA (fun _ => rfl) (by decide) (by decide +kernel) (by decide +kernel) (Nat.le_of_ble_eq_true rfl) (Nat.le_of_ble_eq_true rfl) dX9_init_7 (fun q_1 k_2 H hK hP hD hS => ?_)
  have hP : va_P (dC, dI) classes [(h0, .inr (9, [.null, .null, .null, .int 0, .int 0])), (q_1, .inl (k_2, 9, .inl (fun _ => 0)))] H := hP
  have hD : va_D A [(h0, .inr (9, [.null, .null, .null, .int 0, .int 0])), (q_1, .inl (k_2, 9, .inl (fun _ => 0)))] := hD
  have hK : va_K (dC, dI) classes [(k_2, .int)] s := hK
  refine W.widen (k := 1) (n := 9) (Nat.le_of_ble_eq_true rfl) (Nat.le_of_ble_eq_true rfl) ?_
  refine va_putF (D := (dC, dI)) (ci := 9) (v := .ref q_1) (ty := .array .int) (C := RX9) (T := TX9) (N := 5) hx hb hts zi_X9_init_X9 tyX9 tyX9_ok nmX9 hown hK hP hD hS 0 rfl rfl 0 (by decide) (hts (.fieldLink RX9 9 "HoldTwo$Turner" "partner" "[I") (by decide +kernel)) (fun _ h9 => h9) rfl hin rfl (by decide +kernel) rfl rfl (Nat.le_of_ble_eq_true rfl) dX9_init_9 (fun H locs hP hD hS => ?_)
  have hP : va_P (dC, dI) classes [(h0, .inr (9, [.ref q_1, .null, .null, .int 0, .int 0])), (q_1, .inl (k_2, 9, .inl (fun _ => 0)))] H := hP
  have hD : va_D A [(h0, .inr (9, [.ref q_1, .null, .null, .int 0, .int 0])), (q_1, .inl (k_2, 9, .inl (fun _ => 0)))] := hD
  refine lv_aload_n hx hb dX9_init_12 rfl (lv_at hl 0 rfl) ?_
  refine lv_bipush (v := 9) hx hb dX9_init_13 (by decide) ?_
  refine va_newa (atype := .int) (ty := .int) (N' := 9) (a0 := (9, .inl (fun _ => 0))) hx hb (hts (.arrayClass .int) (by decide +kernel)) rfl hK hP hD hS hA (fun _ => rfl) (by decide) (by decide +kernel) (by decide +kernel) (Nat.le_of_ble_eq_true rfl) (Nat.le_of_ble_eq_true rfl) dX9_init_15 (fun q_3 k_4 H hK hP hD hS => ?_)
  have hP : va_P (dC, dI) classes [(h0, .inr (9, [.ref q_1, .null, .null, .int 0, .int 0])), (q_1, .inl (k_2, 9, .inl (fun _ => 0))), (q_3, .inl (k_4, 9, .inl (fun _ => 0)))] H := hP
  have hD : va_D A [(h0, .inr (9, [.ref q_1, .null, .null, .int 0, .int 0])), (q_1, .inl (k_2, 9, .inl (fun _ => 0))), (q_3, .inl (k_4, 9, .inl (fun _ => 0)))] := hD
  have hK : va_K (dC, dI) classes [(k_2, .int), (k_4, .int)] s := hK
  refine W.widen (k := 2) (n := 18) (Nat.le_of_ble_eq_true rfl) (Nat.le_of_ble_eq_true rfl) ?_
  refine va_putF (D := (dC, dI)) (ci := 9) (v := .ref q_3) (ty := .array .int) (C := RX9) (T := TX9) (N := 5) hx hb hts zi_X9_init_X9 tyX9 tyX9_ok nmX9 hown hK hP hD hS 0 rfl rfl 1 (by decide) (hts (.fieldLink RX9 15 "HoldTwo$Turner" "man" "[I") (by decide +kernel)) (fun _ h9 => h9) rfl hin rfl (by decide +kernel) rfl rfl (Nat.le_of_ble_eq_true rfl) dX9_init_17 (fun H locs hP hD hS => ?_)
  have hP : va_P (dC, dI) classes [(h0, .inr (9, [.ref q_1, .ref q_3, .null, .int 0, .int 0])), (q_1, .inl (k_2, 9, .inl (fun _ => 0))), (q_3, .inl (k_4, 9, .inl (fun _ => 0)))] H := hP
  have hD : va_D A [(h0, .inr (9, [.ref q_1, .ref q_3, .null, .int 0, .int 0])), (q_1, .inl (k_2, 9, .inl (fun _ => 0))), (q_3, .inl (k_4, 9, .inl (fun _ => 0)))] := hD
  refine lv_aload_n hx hb dX9_init_20 rfl (lv_at hl 0 rfl) ?_
  refine va_new (ci := 0) (fs := [.null, .null, .int 0, .int 0, .int 0, .int 0, .int 0]) (C := RX0) (T := TX0) (N := 7) hx hb hts zi_X9_init_X0 tyX0 tyX0_ok hown (hts (.classLink RX9 18 RX0) (by decide +kernel)) (hts (.instantiable RX0 7) (by decide +kernel)) (hts (.initialized RX0) (by decide +kernel)) hK hP hD hS hA rfl zv_X0 (Nat.le_of_ble_eq_true rfl) (Nat.le_of_ble_eq_true rfl) dX9_init_21 (fun q_5 H hP hD hS => ?_)
  have hP : va_P (dC, dI) classes [(h0, .inr (9, [.ref q_1, .ref q_3, .null, .int 0, .int 0])), (q_1, .inl (k_2, 9, .inl (fun _ => 0))), (q_3, .inl (k_4, 9, .inl (fun _ => 0))), (q_5, .inr (0, [.null, .null, .int 0, .int 0, .int 0, .int 0, .int 0]))] H := hP
  have hD : va_D A [(h0, .inr (9, [.ref q_1, .ref q_3, .null, .int 0, .int 0])), (q_1, .inl (k_2, 9, .inl (fun _ => 0))), (q_3, .inl (k_4, 9, .inl (fun _ => 0))), (q_5, .inr (0, [.null, .null, .int 0, .int 0, .int 0, .int 0, .int 0]))] := hD
  refine W.widen (k := 3) (n := 25) (Nat.le_of_ble_eq_true rfl) (Nat.le_of_ble_eq_true rfl) ?_
  refine lv_dup hx hb dX9_init_24 rfl ?_
  have hPc := hP.sub (ws' := [(q_5, .inr (0, [.null, .null, .int 0, .int 0, .int 0, .int 0, .int 0]))]) [3] rfl
  have hDc := hD.sub (ws' := [(q_5, .inr (0, [.null, .null, .int 0, .int 0, .int 0, .int 0, .int 0]))]) [3] (by decide) rfl
  have hKc := hK.sub (tys' := []) [] rfl
  have hFc := va_free (wc := [(q_5, .inr (0, [.null, .null, .int 0, .int 0, .int 0, .int 0, .int 0]))]) hD hS hA [3] rfl
  refine va_callv (va_runI (As := []) (rest := [.ref q_5, .ref h0]) ⟨hx, hb, hml, hown, hts⟩ (zk_X0_init l dC dI (q_5) H.size) (cwI 0 hts gX9_init_X0_init rfl rfl rfl (hts (.initialized RX0) (by decide +kernel)) (hts (.methodLink RX9 20 yX0_init) (by decide +kernel)) (hts (.instanceMethod yX0_init) (by decide +kernel)) rfl (by decide +kernel) ⟨Nat.le_of_ble_eq_true rfl, Nat.le_of_ble_eq_true rfl⟩) ⟨zw_blind, fun U hU hW => ⟨rfl, zw_P.of hPc hKc hDc hN U hU hW⟩⟩ rfl rfl hl.1 rfl (lv_room (Nat.le_of_ble_eq_true rfl)) dX9_init_25 ⟨Nat.le_of_ble_eq_true rfl, Nat.le_of_ble_eq_true rfl⟩) hS (fun q _ h => hFc q h) hFc (fun u t H1 locs ht hvm hw hB hz1 hk1 hS => ?_)
  obtain ⟨q_7, q_8, k_9, k_10, hP1, hK1, hD1⟩ := hB
  rw [ht] at hP1
  obtain ⟨hP, hD⟩ := va_join (wr := [(h0, .inr (9, [.ref q_1, .ref q_3, .null, .int 0, .int 0])), (q_1, .inl (k_2, 9, .inl (fun _ => 0))), (q_3, .inl (k_4, 9, .inl (fun _ => 0)))]) (w1 := [(q_5, .inr (0, [.ref q_7, .ref q_8, .int 0, .int 0, .int 0, .int 0, .int 0])), (q_7, .inl (k_9, 9, .inl (fun _ => 0))), (q_8, .inl (k_10, 2, .inl (fun _ => 0)))]) hP hD [3] [0, 1, 2] rfl rfl (by decide) (by decide) hk1 hFc hP1 hD1
  have hK := hK.app (va_K.moved hvm.symm hK1)
  have hK : va_K (dC, dI) classes [(k_2, .int), (k_4, .int), (k_9, .int), (k_10, .int)] s := hK
  generalize H1 = H at hP hS ⊢
  have hP : va_P (dC, dI) classes [(h0, .inr (9, [.ref q_1, .ref q_3, .null, .int 0, .int 0])), (q_1, .inl (k_2, 9, .inl (fun _ => 0))), (q_3, .inl (k_4, 9, .inl (fun _ => 0))), (q_5, .inr (0, [.ref q_7, .ref q_8, .int 0, .int 0, .int 0, .int 0, .int 0])), (q_7, .inl (k_9, 9, .inl (fun _ => 0))), (q_8, .inl (k_10, 2, .inl (fun _ => 0)))] H := hP
  have hD : va_D A [(h0, .inr (9, [.ref q_1, .ref q_3, .null, .int 0, .int 0])), (q_1, .inl (k_2, 9, .inl (fun _ => 0))), (q_3, .inl (k_4, 9, .inl (fun _ => 0))), (q_5, .inr (0, [.ref q_7, .ref q_8, .int 0, .int 0, .int 0, .int 0, .int 0])), (q_7, .inl (k_9, 9, .inl (fun _ => 0))), (q_8, .inl (k_10, 2, .inl (fun _ => 0)))] := hD
  refine W.widen (k := 5) (n := 36) (Nat.le_of_ble_eq_true rfl) (Nat.le_of_ble_eq_true rfl) ?_
  refine va_put (D := (dC, dI)) (ci := 9) (v := .ref q_5) (ty := .object "HoldTwo$Game") (C := RX9) (T := TX9) (N := 5) hx hb hts zi_X9_init_X9 tyX9 tyX9_ok nmX9 hown hK hP hD hS 0 rfl rfl 2 (by decide) (hts (.fieldLink RX9 21 "HoldTwo$Turner" "game" "LHoldTwo$Game;") (by decide +kernel)) (fun _ h9 => h9) rfl (by decide +kernel) rfl rfl (Nat.le_of_ble_eq_true rfl) dX9_init_28 (fun H locs hP hD hS => ?_)
  have hP : va_P (dC, dI) classes [(h0, .inr (9, [.ref q_1, .ref q_3, .ref q_5, .int 0, .int 0])), (q_1, .inl (k_2, 9, .inl (fun _ => 0))), (q_3, .inl (k_4, 9, .inl (fun _ => 0))), (q_5, .inr (0, [.ref q_7, .ref q_8, .int 0, .int 0, .int 0, .int 0, .int 0])), (q_7, .inl (k_9, 9, .inl (fun _ => 0))), (q_8, .inl (k_10, 2, .inl (fun _ => 0)))] H := hP
  have hD : va_D A [(h0, .inr (9, [.ref q_1, .ref q_3, .ref q_5, .int 0, .int 0])), (q_1, .inl (k_2, 9, .inl (fun _ => 0))), (q_3, .inl (k_4, 9, .inl (fun _ => 0))), (q_5, .inr (0, [.ref q_7, .ref q_8, .int 0, .int 0, .int 0, .int 0, .int 0])), (q_7, .inl (k_9, 9, .inl (fun _ => 0))), (q_8, .inl (k_10, 2, .inl (fun _ => 0)))] := hD
  refine lv_aload_n hx hb dX9_init_31 rfl (lv_at hl 0 rfl) ?_
  refine lv_iconst (v := (-1)) hx hb dX9_init_32 (by decide) ?_
  refine va_put (D := (dC, dI)) (ci := 9) (v := .int (-1)) (ty := .int) (C := RX9) (T := TX9) (N := 5) hx hb hts zi_X9_init_X9 tyX9 tyX9_ok nmX9 hown hK hP hD hS 0 rfl rfl 3 (by decide) (hts (.fieldLink RX9 25 "HoldTwo$Turner" "turnings" "I") (by decide +kernel)) (fun _ h9 => h9) rfl (by decide +kernel) rfl rfl (Nat.le_of_ble_eq_true rfl) dX9_init_33 (fun H locs hP hD hS => ?_)
  have hP : va_P (dC, dI) classes [(h0, .inr (9, [.ref q_1, .ref q_3, .ref q_5, .int (-1), .int 0])), (q_1, .inl (k_2, 9, .inl (fun _ => 0))), (q_3, .inl (k_4, 9, .inl (fun _ => 0))), (q_5, .inr (0, [.ref q_7, .ref q_8, .int 0, .int 0, .int 0, .int 0, .int 0])), (q_7, .inl (k_9, 9, .inl (fun _ => 0))), (q_8, .inl (k_10, 2, .inl (fun _ => 0)))] H := hP
  have hD : va_D A [(h0, .inr (9, [.ref q_1, .ref q_3, .ref q_5, .int (-1), .int 0])), (q_1, .inl (k_2, 9, .inl (fun _ => 0))), (q_3, .inl (k_4, 9, .inl (fun _ => 0))), (q_5, .inr (0, [.ref q_7, .ref q_8, .int 0, .int 0, .int 0, .int 0, .int 0])), (q_7, .inl (k_9, 9, .inl (fun _ => 0))), (q_8, .inl (k_10, 2, .inl (fun _ => 0)))] := hD
  refine lv_aload_n hx hb dX9_init_36 rfl (lv_at hl 0 rfl) ?_
  refine lv_iconst (v := 0) hx hb dX9_init_37 (by decide) ?_
  refine va_put (D := (dC, dI)) (ci := 9) (v := .int 0) (ty := .int) (C := RX9) (T := TX9) (N := 5) hx hb hts zi_X9_init_X9 tyX9 tyX9_ok nmX9 hown hK hP hD hS 0 rfl rfl 4 (by decide) (hts (.fieldLink RX9 29 "HoldTwo$Turner" "best" "I") (by decide +kernel)) (fun _ h9 => h9) rfl (by decide +kernel) rfl rfl (Nat.le_of_ble_eq_true rfl) dX9_init_38 (fun H locs hP hD hS => ?_)
  have hP : va_P (dC, dI) classes [(h0, .inr (9, [.ref q_1, .ref q_3, .ref q_5, .int (-1), .int 0])), (q_1, .inl (k_2, 9, .inl (fun _ => 0))), (q_3, .inl (k_4, 9, .inl (fun _ => 0))), (q_5, .inr (0, [.ref q_7, .ref q_8, .int 0, .int 0, .int 0, .int 0, .int 0])), (q_7, .inl (k_9, 9, .inl (fun _ => 0))), (q_8, .inl (k_10, 2, .inl (fun _ => 0)))] H := hP
  have hD : va_D A [(h0, .inr (9, [.ref q_1, .ref q_3, .ref q_5, .int (-1), .int 0])), (q_1, .inl (k_2, 9, .inl (fun _ => 0))), (q_3, .inl (k_4, 9, .inl (fun _ => 0))), (q_5, .inr (0, [.ref q_7, .ref q_8, .int 0, .int 0, .int 0, .int 0, .int 0])), (q_7, .inl (k_9, 9, .inl (fun _ => 0))), (q_8, .inl (k_10, 2, .inl (fun _ => 0)))] := hD
  have hP9 := hP.sub (ws' := [(h0, .inr (9, [.ref q_1, .ref q_3, .ref q_5, .int (-1), .int 0]))]) [0] rfl
  have hD9 := hD.sub (ws' := [(h0, .inr (9, [.ref q_1, .ref q_3, .ref q_5, .int (-1), .int 0]))]) [0] (by decide) rfl
  have hK9 := hK.sub (tys' := []) [] rfl
  refine W.widen (k := 5) (n := 36) (Nat.le_of_ble_eq_true rfl) (Nat.le_of_ble_eq_true rfl) ?_
  exact W.vret hx hb hr (fun t ht hW => ⟨⟨(), rfl, trivial, q_1, q_3, q_5, by rw [ht]; exact hP9, va_K.moved hW.alike hK9, hD9⟩, hS.F ht⟩) hS.2.2 dX9_init_41
set_option maxHeartbeats 8000000 in
set_option maxRecDepth 100000 in
theorem zk_X5_init (l : Launch) (dC : Nat → ClassId) (dI : Nat → Nat → Nat) (h0 : Nat) (h1 : Nat) (h2 : Nat) (sz : Nat) : Met l yX5_init wsX5_init ({ frames := 3, cells := 5, slots := 74, locals := 52 }) (va_Pc [.ref h0, .ref h1, .ref h2] (zw_P dC dI sz [] [(h0, .inr (5, [.null, .null, .null, .int 0, .int 0, .long 0]))])) (va_Qv (fun (_ : Unit) => True) (fun (_ : Unit) (t : State) => ∃ y0 : Nat, zw_Q dC dI (va_A [(h0, .inr (5, [.null, .null, .null, .int 0, .int 0, .long 0]))] sz) [] [(h0, .inr (5, [.ref h1, .ref h2, .ref y0, .int 0, .int 0, .long 0]))] t) (va_A [(h0, .inr (5, [.null, .null, .null, .int 0, .int 0, .long 0]))] sz)) 5 74 (va_A [(h0, .inr (5, [.null, .null, .null, .int 0, .int 0, .long 0]))] sz) := by
  refine Met.ofW (cc := cX5_init) (maxL := 3) (ret := none) (by decide) rfl ?_
  intro p e s m args below meth c s₁ B hml hv
  obtain ⟨rfl, hsz, hP, hK, hD0, hN⟩ := hv
  have hx := B.exec
  have hb := B.bytes
  have hr := B.returns
  have hts := atoms_spec (ws := wsX5_init) B.pre
  have hown : s.vm.findClass RX5 = some m.cls := findClass_of_methodNamed B.named
  have hlocks := B.notSynchronized
  have hin : meth.name = "<init>" := (name_of_methodNamed B.named B.method).1
  subst hsz
  have hD := hD0.self (sz := s.heap.size)
  generalize hAe : va_A [(h0, .inr (5, [.null, .null, .null, .int 0, .int 0, .long 0]))] s.heap.size = A at hD ⊢
  have hA : ∀ q : Nat, s.heap.size ≤ q → A q := fun q h => by rw [← hAe]; exact Or.inr h
  have hP : va_P (dC, dI) classes [(h0, .inr (5, [.null, .null, .null, .int 0, .int 0, .long 0]))] s.heap := hP
  have hl := lv_entry ([.ref h0, .ref h1, .ref h2]) (n := 3) (Nat.le_of_ble_eq_true rfl)
  rw [lg_entry_eq]
  generalize (lg_sl ([.ref h0, .ref h1, .ref h2]) ++ List.replicate (3 - (lg_sl ([.ref h0, .ref h1, .ref h2])).length) Slot.unset).toArray = ls at hl ⊢
  have hl : lv_has ls 3 [(0, .ref h0), (1, .ref h1), (2, .ref h2)] := hl
  refine zw_start (fun H eH => ?_)
  have hP : va_P (dC, dI) classes [(h0, .inr (5, [.null, .null, .null, .int 0, .int 0, .long 0]))] H := by rw [eH]; exact hP
  have hS : va_S A s.heap H [] := by rw [eH]; exact va_S.rf
  refine lv_aload_n hx hb dX5_init_0 rfl (lv_at hl 0 rfl) ?_
  refine W.objInit hx hb hown (hts (.methodLink RX5 3 objectInit) (by decide +kernel)) (hts (.instanceMethod objectInit) (by decide +kernel)) (hts (.code objectInit ⟨#[0xb1]⟩ 1 none) (List.mem_of_getElem? (i := 3) rfl)) rfl (by rw [hml]; exact hl.1) rfl dX5_init_1 (Nat.le_of_ble_eq_true rfl) (Nat.le_of_ble_eq_true rfl) ?_
  refine W.eq (g2 := F0 m 4 ls []) rfl ?_
  refine lv_aload_n hx hb dX5_init_4 rfl (lv_at hl 0 rfl) ?_
  refine lv_aload_n hx hb dX5_init_5 rfl (lv_at hl 1 rfl) ?_
  refine va_putF (D := (dC, dI)) (ci := 5) (v := .ref h1) (ty := .object "HoldTwo$Referee") (C := RX5) (T := TX5) (N := 6) hx hb hts zi_X5_init_X5 tyX5 tyX5_ok nmX5 hown hK hP hD hS 0 rfl rfl 0 (by decide) (hts (.fieldLink RX5 9 "HoldTwo$Player" "referee" "LHoldTwo$Referee;") (by decide +kernel)) (fun _ h9 => h9) rfl hin rfl (by decide +kernel) rfl rfl (Nat.le_of_ble_eq_true rfl) dX5_init_6 (fun H locs hP hD hS => ?_)
  have hP : va_P (dC, dI) classes [(h0, .inr (5, [.ref h1, .null, .null, .int 0, .int 0, .long 0]))] H := hP
  have hD : va_D A [(h0, .inr (5, [.ref h1, .null, .null, .int 0, .int 0, .long 0]))] := hD
  refine lv_aload_n hx hb dX5_init_9 rfl (lv_at hl 0 rfl) ?_
  refine lv_aload_n hx hb dX5_init_10 rfl (lv_at hl 2 rfl) ?_
  refine va_putF (D := (dC, dI)) (ci := 5) (v := .ref h2) (ty := .object "HoldTwo$Values") (C := RX5) (T := TX5) (N := 6) hx hb hts zi_X5_init_X5 tyX5 tyX5_ok nmX5 hown hK hP hD hS 0 rfl rfl 1 (by decide) (hts (.fieldLink RX5 15 "HoldTwo$Player" "values" "LHoldTwo$Values;") (by decide +kernel)) (fun _ h9 => h9) rfl hin rfl (by decide +kernel) rfl rfl (Nat.le_of_ble_eq_true rfl) dX5_init_11 (fun H locs hP hD hS => ?_)
  have hP : va_P (dC, dI) classes [(h0, .inr (5, [.ref h1, .ref h2, .null, .int 0, .int 0, .long 0]))] H := hP
  have hD : va_D A [(h0, .inr (5, [.ref h1, .ref h2, .null, .int 0, .int 0, .long 0]))] := hD
  refine lv_aload_n hx hb dX5_init_14 rfl (lv_at hl 0 rfl) ?_
  refine va_new (ci := 4) (fs := [.null, .null, .null, .null, .int 0, .int 0, .int 0, .int 0]) (C := RX4) (T := TX4) (N := 8) hx hb hts zi_X5_init_X4 tyX4 tyX4_ok hown (hts (.classLink RX5 19 RX4) (by decide +kernel)) (hts (.instantiable RX4 8) (by decide +kernel)) (hts (.initialized RX4) (by decide +kernel)) hK hP hD hS hA rfl zv_X4 (Nat.le_of_ble_eq_true rfl) (Nat.le_of_ble_eq_true rfl) dX5_init_15 (fun q_1 H hP hD hS => ?_)
  have hP : va_P (dC, dI) classes [(h0, .inr (5, [.ref h1, .ref h2, .null, .int 0, .int 0, .long 0])), (q_1, .inr (4, [.null, .null, .null, .null, .int 0, .int 0, .int 0, .int 0]))] H := hP
  have hD : va_D A [(h0, .inr (5, [.ref h1, .ref h2, .null, .int 0, .int 0, .long 0])), (q_1, .inr (4, [.null, .null, .null, .null, .int 0, .int 0, .int 0, .int 0]))] := hD
  refine W.widen (k := 1) (n := 8) (Nat.le_of_ble_eq_true rfl) (Nat.le_of_ble_eq_true rfl) ?_
  refine lv_dup hx hb dX5_init_18 rfl ?_
  have hPc := hP.sub (ws' := [(q_1, .inr (4, [.null, .null, .null, .null, .int 0, .int 0, .int 0, .int 0]))]) [1] rfl
  have hDc := hD.sub (ws' := [(q_1, .inr (4, [.null, .null, .null, .null, .int 0, .int 0, .int 0, .int 0]))]) [1] (by decide) rfl
  have hKc := hK.sub (tys' := []) [] rfl
  have hFc := va_free (wc := [(q_1, .inr (4, [.null, .null, .null, .null, .int 0, .int 0, .int 0, .int 0]))]) hD hS hA [1] rfl
  refine va_callv (va_runI (As := []) (rest := [.ref q_1, .ref h0]) ⟨hx, hb, hml, hown, hts⟩ (zk_X4_init l dC dI (q_1) H.size) (cwI 0 hts gX5_init_X4_init rfl rfl rfl (hts (.initialized RX4) (by decide +kernel)) (hts (.methodLink RX5 21 yX4_init) (by decide +kernel)) (hts (.instanceMethod yX4_init) (by decide +kernel)) rfl (by decide +kernel) ⟨Nat.le_of_ble_eq_true rfl, Nat.le_of_ble_eq_true rfl⟩) ⟨zw_blind, fun U hU hW => ⟨rfl, zw_P.of hPc hKc hDc hN U hU hW⟩⟩ rfl rfl hl.1 rfl (lv_room (Nat.le_of_ble_eq_true rfl)) dX5_init_19 ⟨Nat.le_of_ble_eq_true rfl, Nat.le_of_ble_eq_true rfl⟩) hS (fun q _ h => hFc q h) hFc (fun u t H1 locs ht hvm hw hB hz1 hk1 hS => ?_)
  obtain ⟨q_3, q_4, q_5, q_6, hP1, hK1, hD1⟩ := hB
  rw [ht] at hP1
  obtain ⟨hP, hD⟩ := va_join (wr := [(h0, .inr (5, [.ref h1, .ref h2, .null, .int 0, .int 0, .long 0]))]) (w1 := [(q_1, .inr (4, [.ref q_3, .ref q_4, .ref q_5, .ref q_6, .int 0, .int (-1), .int (-1), .int 0]))]) hP hD [1] [0] rfl rfl (by decide) (by decide) hk1 hFc hP1 hD1
  generalize H1 = H at hP hS ⊢
  have hP : va_P (dC, dI) classes [(h0, .inr (5, [.ref h1, .ref h2, .null, .int 0, .int 0, .long 0])), (q_1, .inr (4, [.ref q_3, .ref q_4, .ref q_5, .ref q_6, .int 0, .int (-1), .int (-1), .int 0]))] H := hP
  have hD : va_D A [(h0, .inr (5, [.ref h1, .ref h2, .null, .int 0, .int 0, .long 0])), (q_1, .inr (4, [.ref q_3, .ref q_4, .ref q_5, .ref q_6, .int 0, .int (-1), .int (-1), .int 0]))] := hD
  refine W.widen (k := 5) (n := 74) (Nat.le_of_ble_eq_true rfl) (Nat.le_of_ble_eq_true rfl) ?_
  refine va_putF (D := (dC, dI)) (ci := 5) (v := .ref q_1) (ty := .object "HoldTwo$Moves") (C := RX5) (T := TX5) (N := 6) hx hb hts zi_X5_init_X5 tyX5 tyX5_ok nmX5 hown hK hP hD hS 0 rfl rfl 2 (by decide) (hts (.fieldLink RX5 22 "HoldTwo$Player" "moves" "LHoldTwo$Moves;") (by decide +kernel)) (fun _ h9 => h9) rfl hin rfl (by decide +kernel) rfl rfl (Nat.le_of_ble_eq_true rfl) dX5_init_22 (fun H locs hP hD hS => ?_)
  have hP : va_P (dC, dI) classes [(h0, .inr (5, [.ref h1, .ref h2, .ref q_1, .int 0, .int 0, .long 0])), (q_1, .inr (4, [.ref q_3, .ref q_4, .ref q_5, .ref q_6, .int 0, .int (-1), .int (-1), .int 0]))] H := hP
  have hD : va_D A [(h0, .inr (5, [.ref h1, .ref h2, .ref q_1, .int 0, .int 0, .long 0])), (q_1, .inr (4, [.ref q_3, .ref q_4, .ref q_5, .ref q_6, .int 0, .int (-1), .int (-1), .int 0]))] := hD
  refine lv_aload_n hx hb dX5_init_25 rfl (lv_at hl 0 rfl) ?_
  refine lv_iconst (v := 0) hx hb dX5_init_26 (by decide) ?_
  refine va_put (D := (dC, dI)) (ci := 5) (v := .int 0) (ty := .int) (C := RX5) (T := TX5) (N := 6) hx hb hts zi_X5_init_X5 tyX5 tyX5_ok nmX5 hown hK hP hD hS 0 rfl rfl 3 (by decide) (hts (.fieldLink RX5 26 "HoldTwo$Player" "wayOfX" "I") (by decide +kernel)) (fun _ h9 => h9) rfl (by decide +kernel) rfl rfl (Nat.le_of_ble_eq_true rfl) dX5_init_27 (fun H locs hP hD hS => ?_)
  have hP : va_P (dC, dI) classes [(h0, .inr (5, [.ref h1, .ref h2, .ref q_1, .int 0, .int 0, .long 0])), (q_1, .inr (4, [.ref q_3, .ref q_4, .ref q_5, .ref q_6, .int 0, .int (-1), .int (-1), .int 0]))] H := hP
  have hD : va_D A [(h0, .inr (5, [.ref h1, .ref h2, .ref q_1, .int 0, .int 0, .long 0])), (q_1, .inr (4, [.ref q_3, .ref q_4, .ref q_5, .ref q_6, .int 0, .int (-1), .int (-1), .int 0]))] := hD
  refine lv_aload_n hx hb dX5_init_30 rfl (lv_at hl 0 rfl) ?_
  refine lv_iconst (v := 0) hx hb dX5_init_31 (by decide) ?_
  refine va_put (D := (dC, dI)) (ci := 5) (v := .int 0) (ty := .int) (C := RX5) (T := TX5) (N := 6) hx hb hts zi_X5_init_X5 tyX5 tyX5_ok nmX5 hown hK hP hD hS 0 rfl rfl 4 (by decide) (hts (.fieldLink RX5 30 "HoldTwo$Player" "wayOfO" "I") (by decide +kernel)) (fun _ h9 => h9) rfl (by decide +kernel) rfl rfl (Nat.le_of_ble_eq_true rfl) dX5_init_32 (fun H locs hP hD hS => ?_)
  have hP : va_P (dC, dI) classes [(h0, .inr (5, [.ref h1, .ref h2, .ref q_1, .int 0, .int 0, .long 0])), (q_1, .inr (4, [.ref q_3, .ref q_4, .ref q_5, .ref q_6, .int 0, .int (-1), .int (-1), .int 0]))] H := hP
  have hD : va_D A [(h0, .inr (5, [.ref h1, .ref h2, .ref q_1, .int 0, .int 0, .long 0])), (q_1, .inr (4, [.ref q_3, .ref q_4, .ref q_5, .ref q_6, .int 0, .int (-1), .int (-1), .int 0]))] := hD
  refine lv_aload_n hx hb dX5_init_35 rfl (lv_at hl 0 rfl) ?_
  refine lv_lconst (v := 0) hx hb dX5_init_36 (by decide) ?_
  refine va_put (D := (dC, dI)) (ci := 5) (v := .long 0) (ty := .long) (C := RX5) (T := TX5) (N := 6) hx hb hts zi_X5_init_X5 tyX5 tyX5_ok nmX5 hown hK hP hD hS 0 rfl rfl 5 (by decide) (hts (.fieldLink RX5 33 "HoldTwo$Player" "drawn" "J") (by decide +kernel)) (fun _ h9 => h9) rfl (by decide +kernel) rfl rfl (Nat.le_of_ble_eq_true rfl) dX5_init_37 (fun H locs hP hD hS => ?_)
  have hP : va_P (dC, dI) classes [(h0, .inr (5, [.ref h1, .ref h2, .ref q_1, .int 0, .int 0, .long 0])), (q_1, .inr (4, [.ref q_3, .ref q_4, .ref q_5, .ref q_6, .int 0, .int (-1), .int (-1), .int 0]))] H := hP
  have hD : va_D A [(h0, .inr (5, [.ref h1, .ref h2, .ref q_1, .int 0, .int 0, .long 0])), (q_1, .inr (4, [.ref q_3, .ref q_4, .ref q_5, .ref q_6, .int 0, .int (-1), .int (-1), .int 0]))] := hD
  have hP9 := hP.sub (ws' := [(h0, .inr (5, [.ref h1, .ref h2, .ref q_1, .int 0, .int 0, .long 0]))]) [0] rfl
  have hD9 := hD.sub (ws' := [(h0, .inr (5, [.ref h1, .ref h2, .ref q_1, .int 0, .int 0, .long 0]))]) [0] (by decide) rfl
  have hK9 := hK.sub (tys' := []) [] rfl
  refine W.widen (k := 5) (n := 74) (Nat.le_of_ble_eq_true rfl) (Nat.le_of_ble_eq_true rfl) ?_
  exact W.vret hx hb hr (fun t ht hW => ⟨⟨(), rfl, trivial, q_1, by rw [ht]; exact hP9, va_K.moved hW.alike hK9, hD9⟩, hS.F ht⟩) hS.2.2 dX5_init_40
set_option maxHeartbeats 8000000 in
set_option maxRecDepth 100000 in
theorem zk_X7_init (l : Launch) (dC : Nat → ClassId) (dI : Nat → Nat → Nat) (h0 : Nat) (sz : Nat) : Met l yX7_init wsX7_init ({ frames := 1, cells := 0, slots := 0, locals := 12 }) (va_Pc [.ref h0] (zw_P dC dI sz [] [])) (va_Qv (fun (_ : Unit) => True) (fun (_ : Unit) (t : State) => zw_Q dC dI (va_A [] sz) [] [] t) (va_A [] sz)) 0 0 (va_A [] sz) := by
  refine Met.ofW (cc := cX7_init) (maxL := 1) (ret := none) (by decide) rfl ?_
  intro p e s m args below meth c s₁ B hml hv
  obtain ⟨rfl, hsz, hP, hK, hD0, hN⟩ := hv
  have hx := B.exec
  have hb := B.bytes
  have hr := B.returns
  have hts := atoms_spec (ws := wsX7_init) B.pre
  have hown : s.vm.findClass RX7 = some m.cls := findClass_of_methodNamed B.named
  have hlocks := B.notSynchronized
  have hin : meth.name = "<init>" := (name_of_methodNamed B.named B.method).1
  subst hsz
  have hD := hD0.self (sz := s.heap.size)
  generalize hAe : va_A [] s.heap.size = A at hD ⊢
  have hA : ∀ q : Nat, s.heap.size ≤ q → A q := fun q h => by rw [← hAe]; exact Or.inr h
  have hP : va_P (dC, dI) classes [] s.heap := hP
  have hl := lv_entry ([.ref h0]) (n := 1) (Nat.le_of_ble_eq_true rfl)
  rw [lg_entry_eq]
  generalize (lg_sl ([.ref h0]) ++ List.replicate (1 - (lg_sl ([.ref h0])).length) Slot.unset).toArray = ls at hl ⊢
  have hl : lv_has ls 1 [(0, .ref h0)] := hl
  refine zw_start (fun H eH => ?_)
  have hP : va_P (dC, dI) classes [] H := by rw [eH]; exact hP
  have hS : va_S A s.heap H [] := by rw [eH]; exact va_S.rf
  refine lv_aload_n hx hb dX7_init_0 rfl (lv_at hl 0 rfl) ?_
  refine W.objInit hx hb hown (hts (.methodLink RX7 1 objectInit) (by decide +kernel)) (hts (.instanceMethod objectInit) (by decide +kernel)) (hts (.code objectInit ⟨#[0xb1]⟩ 1 none) (List.mem_of_getElem? (i := 3) rfl)) rfl (by rw [hml]; exact hl.1) rfl dX7_init_1 (Nat.le_of_ble_eq_true rfl) (Nat.le_of_ble_eq_true rfl) ?_
  refine W.eq (g2 := F0 m 4 ls []) rfl ?_
  have hP9 := hP.sub (ws' := []) [] rfl
  have hD9 := hD.sub (ws' := []) [] (by decide) rfl
  have hK9 := hK.sub (tys' := []) [] rfl
  refine W.widen (k := 0) (n := 0) (Nat.le_of_ble_eq_true rfl) (Nat.le_of_ble_eq_true rfl) ?_
  exact W.vret hx hb hr (fun t ht hW => ⟨⟨(), rfl, trivial, by rw [ht]; exact hP9, va_K.moved hW.alike hK9, hD9⟩, hS.F ht⟩) hS.2.2 dX7_init_4
set_option maxHeartbeats 8000000 in
set_option maxRecDepth 100000 in
theorem zk_X2_init (l : Launch) (dC : Nat → ClassId) (dI : Nat → Nat → Nat) (h0 : Nat) (sz : Nat) : Met l yX2_init wsX2_init ({ frames := 1, cells := 3, slots := 90, locals := 12 }) (va_Pc [.ref h0] (zw_P dC dI sz [] [(h0, .inr (2, [.null, .null, .null, .int 0]))])) (va_Qv (fun (_ : Unit) => True) (fun (_ : Unit) (t : State) => ∃ y0 : Nat, ∃ y1 : Nat, ∃ y2 : Nat, ∃ kA3 : ClassId, ∃ kA4 : ClassId, ∃ kA5 : ClassId, zw_Q dC dI (va_A [(h0, .inr (2, [.null, .null, .null, .int 0]))] sz) [(kA3, .int), (kA4, .int), (kA5, .int)] [(h0, .inr (2, [.ref y0, .ref y1, .ref y2, .int 0])), (y0, .inl (kA3, 30, .inl (fun _ => 0))), (y1, .inl (kA4, 30, .inl (fun _ => 0))), (y2, .inl (kA5, 30, .inl (fun _ => 0)))] t) (va_A [(h0, .inr (2, [.null, .null, .null, .int 0]))] sz)) 3 90 (va_A [(h0, .inr (2, [.null, .null, .null, .int 0]))] sz) := by
  refine Met.ofW (cc := cX2_init) (maxL := 1) (ret := none) (by decide) rfl ?_
  intro p e s m args below meth c s₁ B hml hv
  obtain ⟨rfl, hsz, hP, hK, hD0, hN⟩ := hv
  have hx := B.exec
  have hb := B.bytes
  have hr := B.returns
  have hts := atoms_spec (ws := wsX2_init) B.pre
  have hown : s.vm.findClass RX2 = some m.cls := findClass_of_methodNamed B.named
  have hlocks := B.notSynchronized
  have hin : meth.name = "<init>" := (name_of_methodNamed B.named B.method).1
  subst hsz
  have hD := hD0.self (sz := s.heap.size)
  generalize hAe : va_A [(h0, .inr (2, [.null, .null, .null, .int 0]))] s.heap.size = A at hD ⊢
  have hA : ∀ q : Nat, s.heap.size ≤ q → A q := fun q h => by rw [← hAe]; exact Or.inr h
  have hP : va_P (dC, dI) classes [(h0, .inr (2, [.null, .null, .null, .int 0]))] s.heap := hP
  have hl := lv_entry ([.ref h0]) (n := 1) (Nat.le_of_ble_eq_true rfl)
  rw [lg_entry_eq]
  generalize (lg_sl ([.ref h0]) ++ List.replicate (1 - (lg_sl ([.ref h0])).length) Slot.unset).toArray = ls at hl ⊢
  have hl : lv_has ls 1 [(0, .ref h0)] := hl
  refine zw_start (fun H eH => ?_)
  have hP : va_P (dC, dI) classes [(h0, .inr (2, [.null, .null, .null, .int 0]))] H := by rw [eH]; exact hP
  have hS : va_S A s.heap H [] := by rw [eH]; exact va_S.rf
  refine lv_aload_n hx hb dX2_init_0 rfl (lv_at hl 0 rfl) ?_
  refine W.objInit hx hb hown (hts (.methodLink RX2 3 objectInit) (by decide +kernel)) (hts (.instanceMethod objectInit) (by decide +kernel)) (hts (.code objectInit ⟨#[0xb1]⟩ 1 none) (List.mem_of_getElem? (i := 3) rfl)) rfl (by rw [hml]; exact hl.1) rfl dX2_init_1 (Nat.le_of_ble_eq_true rfl) (Nat.le_of_ble_eq_true rfl) ?_
  refine W.eq (g2 := F0 m 4 ls []) rfl ?_
  refine lv_aload_n hx hb dX2_init_4 rfl (lv_at hl 0 rfl) ?_
  refine lv_bipush (v := 30) hx hb dX2_init_5 (by decide) ?_
  refine va_newa (atype := .int) (ty := .int) (N' := 30) (a0 := (30, .inl (fun _ => 0))) hx hb (hts (.arrayClass .int) (by decide +kernel)) rfl hK hP hD hS hA (fun _ => rfl) (by decide) (by decide +kernel) (by decide +kernel) (Nat.le_of_ble_eq_true rfl) (Nat.le_of_ble_eq_true rfl) dX2_init_7 (fun q_1 k_2 H hK hP hD hS => ?_)
  have hP : va_P (dC, dI) classes [(h0, .inr (2, [.null, .null, .null, .int 0])), (q_1, .inl (k_2, 30, .inl (fun _ => 0)))] H := hP
  have hD : va_D A [(h0, .inr (2, [.null, .null, .null, .int 0])), (q_1, .inl (k_2, 30, .inl (fun _ => 0)))] := hD
  have hK : va_K (dC, dI) classes [(k_2, .int)] s := hK
  refine W.widen (k := 1) (n := 30) (Nat.le_of_ble_eq_true rfl) (Nat.le_of_ble_eq_true rfl) ?_
  refine va_putF (D := (dC, dI)) (ci := 2) (v := .ref q_1) (ty := .array .int) (C := RX2) (T := TX2) (N := 4) hx hb hts zi_X2_init_X2 tyX2 tyX2_ok nmX2 hown hK hP hD hS 0 rfl rfl 0 (by decide) (hts (.fieldLink RX2 9 "HoldTwo$Line" "one" "[I") (by decide +kernel)) (fun _ h9 => h9) rfl hin rfl (by decide +kernel) rfl rfl (Nat.le_of_ble_eq_true rfl) dX2_init_9 (fun H locs hP hD hS => ?_)
  have hP : va_P (dC, dI) classes [(h0, .inr (2, [.ref q_1, .null, .null, .int 0])), (q_1, .inl (k_2, 30, .inl (fun _ => 0)))] H := hP
  have hD : va_D A [(h0, .inr (2, [.ref q_1, .null, .null, .int 0])), (q_1, .inl (k_2, 30, .inl (fun _ => 0)))] := hD
  refine lv_aload_n hx hb dX2_init_12 rfl (lv_at hl 0 rfl) ?_
  refine lv_bipush (v := 30) hx hb dX2_init_13 (by decide) ?_
  refine va_newa (atype := .int) (ty := .int) (N' := 30) (a0 := (30, .inl (fun _ => 0))) hx hb (hts (.arrayClass .int) (by decide +kernel)) rfl hK hP hD hS hA (fun _ => rfl) (by decide) (by decide +kernel) (by decide +kernel) (Nat.le_of_ble_eq_true rfl) (Nat.le_of_ble_eq_true rfl) dX2_init_15 (fun q_3 k_4 H hK hP hD hS => ?_)
  have hP : va_P (dC, dI) classes [(h0, .inr (2, [.ref q_1, .null, .null, .int 0])), (q_1, .inl (k_2, 30, .inl (fun _ => 0))), (q_3, .inl (k_4, 30, .inl (fun _ => 0)))] H := hP
  have hD : va_D A [(h0, .inr (2, [.ref q_1, .null, .null, .int 0])), (q_1, .inl (k_2, 30, .inl (fun _ => 0))), (q_3, .inl (k_4, 30, .inl (fun _ => 0)))] := hD
  have hK : va_K (dC, dI) classes [(k_2, .int), (k_4, .int)] s := hK
  refine W.widen (k := 2) (n := 60) (Nat.le_of_ble_eq_true rfl) (Nat.le_of_ble_eq_true rfl) ?_
  refine va_putF (D := (dC, dI)) (ci := 2) (v := .ref q_3) (ty := .array .int) (C := RX2) (T := TX2) (N := 4) hx hb hts zi_X2_init_X2 tyX2 tyX2_ok nmX2 hown hK hP hD hS 0 rfl rfl 1 (by decide) (hts (.fieldLink RX2 15 "HoldTwo$Line" "other" "[I") (by decide +kernel)) (fun _ h9 => h9) rfl hin rfl (by decide +kernel) rfl rfl (Nat.le_of_ble_eq_true rfl) dX2_init_17 (fun H locs hP hD hS => ?_)
  have hP : va_P (dC, dI) classes [(h0, .inr (2, [.ref q_1, .ref q_3, .null, .int 0])), (q_1, .inl (k_2, 30, .inl (fun _ => 0))), (q_3, .inl (k_4, 30, .inl (fun _ => 0)))] H := hP
  have hD : va_D A [(h0, .inr (2, [.ref q_1, .ref q_3, .null, .int 0])), (q_1, .inl (k_2, 30, .inl (fun _ => 0))), (q_3, .inl (k_4, 30, .inl (fun _ => 0)))] := hD
  refine lv_aload_n hx hb dX2_init_20 rfl (lv_at hl 0 rfl) ?_
  refine lv_bipush (v := 30) hx hb dX2_init_21 (by decide) ?_
  refine va_newa (atype := .int) (ty := .int) (N' := 30) (a0 := (30, .inl (fun _ => 0))) hx hb (hts (.arrayClass .int) (by decide +kernel)) rfl hK hP hD hS hA (fun _ => rfl) (by decide) (by decide +kernel) (by decide +kernel) (Nat.le_of_ble_eq_true rfl) (Nat.le_of_ble_eq_true rfl) dX2_init_23 (fun q_5 k_6 H hK hP hD hS => ?_)
  have hP : va_P (dC, dI) classes [(h0, .inr (2, [.ref q_1, .ref q_3, .null, .int 0])), (q_1, .inl (k_2, 30, .inl (fun _ => 0))), (q_3, .inl (k_4, 30, .inl (fun _ => 0))), (q_5, .inl (k_6, 30, .inl (fun _ => 0)))] H := hP
  have hD : va_D A [(h0, .inr (2, [.ref q_1, .ref q_3, .null, .int 0])), (q_1, .inl (k_2, 30, .inl (fun _ => 0))), (q_3, .inl (k_4, 30, .inl (fun _ => 0))), (q_5, .inl (k_6, 30, .inl (fun _ => 0)))] := hD
  have hK : va_K (dC, dI) classes [(k_2, .int), (k_4, .int), (k_6, .int)] s := hK
  refine W.widen (k := 3) (n := 90) (Nat.le_of_ble_eq_true rfl) (Nat.le_of_ble_eq_true rfl) ?_
  refine va_putF (D := (dC, dI)) (ci := 2) (v := .ref q_5) (ty := .array .int) (C := RX2) (T := TX2) (N := 4) hx hb hts zi_X2_init_X2 tyX2 tyX2_ok nmX2 hown hK hP hD hS 0 rfl rfl 2 (by decide) (hts (.fieldLink RX2 18 "HoldTwo$Line" "pick" "[I") (by decide +kernel)) (fun _ h9 => h9) rfl hin rfl (by decide +kernel) rfl rfl (Nat.le_of_ble_eq_true rfl) dX2_init_25 (fun H locs hP hD hS => ?_)
  have hP : va_P (dC, dI) classes [(h0, .inr (2, [.ref q_1, .ref q_3, .ref q_5, .int 0])), (q_1, .inl (k_2, 30, .inl (fun _ => 0))), (q_3, .inl (k_4, 30, .inl (fun _ => 0))), (q_5, .inl (k_6, 30, .inl (fun _ => 0)))] H := hP
  have hD : va_D A [(h0, .inr (2, [.ref q_1, .ref q_3, .ref q_5, .int 0])), (q_1, .inl (k_2, 30, .inl (fun _ => 0))), (q_3, .inl (k_4, 30, .inl (fun _ => 0))), (q_5, .inl (k_6, 30, .inl (fun _ => 0)))] := hD
  refine lv_aload_n hx hb dX2_init_28 rfl (lv_at hl 0 rfl) ?_
  refine lv_iconst (v := 0) hx hb dX2_init_29 (by decide) ?_
  refine va_put (D := (dC, dI)) (ci := 2) (v := .int 0) (ty := .int) (C := RX2) (T := TX2) (N := 4) hx hb hts zi_X2_init_X2 tyX2 tyX2_ok nmX2 hown hK hP hD hS 0 rfl rfl 3 (by decide) (hts (.fieldLink RX2 21 "HoldTwo$Line" "turns" "I") (by decide +kernel)) (fun _ h9 => h9) rfl (by decide +kernel) rfl rfl (Nat.le_of_ble_eq_true rfl) dX2_init_30 (fun H locs hP hD hS => ?_)
  have hP : va_P (dC, dI) classes [(h0, .inr (2, [.ref q_1, .ref q_3, .ref q_5, .int 0])), (q_1, .inl (k_2, 30, .inl (fun _ => 0))), (q_3, .inl (k_4, 30, .inl (fun _ => 0))), (q_5, .inl (k_6, 30, .inl (fun _ => 0)))] H := hP
  have hD : va_D A [(h0, .inr (2, [.ref q_1, .ref q_3, .ref q_5, .int 0])), (q_1, .inl (k_2, 30, .inl (fun _ => 0))), (q_3, .inl (k_4, 30, .inl (fun _ => 0))), (q_5, .inl (k_6, 30, .inl (fun _ => 0)))] := hD
  have hP9 := hP.sub (ws' := [(h0, .inr (2, [.ref q_1, .ref q_3, .ref q_5, .int 0])), (q_1, .inl (k_2, 30, .inl (fun _ => 0))), (q_3, .inl (k_4, 30, .inl (fun _ => 0))), (q_5, .inl (k_6, 30, .inl (fun _ => 0)))]) [0, 1, 2, 3] rfl
  have hD9 := hD.sub (ws' := [(h0, .inr (2, [.ref q_1, .ref q_3, .ref q_5, .int 0])), (q_1, .inl (k_2, 30, .inl (fun _ => 0))), (q_3, .inl (k_4, 30, .inl (fun _ => 0))), (q_5, .inl (k_6, 30, .inl (fun _ => 0)))]) [0, 1, 2, 3] (by decide) rfl
  have hK9 := hK.sub (tys' := [(k_2, .int), (k_4, .int), (k_6, .int)]) [0, 1, 2] rfl
  refine W.widen (k := 3) (n := 90) (Nat.le_of_ble_eq_true rfl) (Nat.le_of_ble_eq_true rfl) ?_
  exact W.vret hx hb hr (fun t ht hW => ⟨⟨(), rfl, trivial, q_1, q_3, q_5, k_2, k_4, k_6, by rw [ht]; exact hP9, va_K.moved hW.alike hK9, hD9⟩, hS.F ht⟩) hS.2.2 dX2_init_33
set_option maxHeartbeats 8000000 in
set_option maxRecDepth 100000 in
theorem zk_X11_init (l : Launch) (dC : Nat → ClassId) (dI : Nat → Nat → Nat) (h0 : Nat) (sz : Nat) : Met l yX11_init wsX11_init ({ frames := 4, cells := 63, slots := 1848, locals := 74 }) (va_Pc [.ref h0] (zw_P dC dI sz [] [(h0, .inr (11, [.null, .null, .null, .null, .null, .null, .null, .null, .null, .null, .null, .null, .null, .null, .int 0, .int 0]))])) (va_Qv (fun (_ : Unit) => True) (fun (_ : Unit) (t : State) => ∃ y0 : Nat, ∃ y1 : Nat, ∃ y2 : Nat, ∃ y3 : Nat, ∃ y4 : Nat, ∃ y5 : Nat, ∃ y6 : Nat, ∃ y7 : Nat, ∃ y8 : Nat, ∃ y9 : Nat, ∃ y10 : Nat, ∃ y11 : Nat, ∃ y12 : Nat, ∃ y13 : Nat, ∃ y14 : Nat, ∃ kA15 : ClassId, ∃ y16 : Nat, ∃ y17 : Nat, ∃ y18 : Nat, ∃ y19 : Nat, ∃ y20 : Nat, ∃ y21 : Nat, ∃ y22 : Nat, ∃ y23 : Nat, ∃ kA24 : ClassId, ∃ kA25 : ClassId, ∃ y26 : Nat, ∃ y27 : Nat, ∃ kA28 : ClassId, ∃ y29 : Nat, ∃ y30 : Nat, ∃ y31 : Nat, ∃ kA32 : ClassId, ∃ kA33 : ClassId, ∃ kA34 : ClassId, zw_Q dC dI (va_A [(h0, .inr (11, [.null, .null, .null, .null, .null, .null, .null, .null, .null, .null, .null, .null, .null, .null, .int 0, .int 0]))] sz) [(kA15, .int), (kA24, .int), (kA25, .int), (kA28, .int), (kA32, .int), (kA33, .int), (kA34, .int)] [(h0, .inr (11, [.ref y0, .ref y1, .ref y2, .ref y3, .ref y4, .ref y5, .ref y6, .ref y7, .ref y8, .ref y9, .ref y10, .ref y11, .ref y12, .ref y13, .int 0, .int 0])), (y0, .inr (8, [.ref y14, .int 0, .int 0, .int (-1)])), (y14, .inl (kA15, 160, .inl (fun _ => 0))), (y1, .inr (6, [.ref y16, .ref y17, .ref y18, .ref y19, .int 0, .int (-1), .int (-1)])), (y19, .inr (0, [.ref y20, .ref y21, .int 0, .int 0, .int 0, .int 0, .int 0])), (y7, .inr (7, [.int 0, .int 0, .int 0])), (y10, .inr (0, [.ref y22, .ref y23, .int 0, .int 0, .int 0, .int 0, .int 0])), (y22, .inl (kA24, 9, .inl (fun _ => 0))), (y23, .inl (kA25, 2, .inl (fun _ => 0))), (y11, .inr (1, [.ref y26, .ref y27, .int 0, .int 0])), (y26, .inl (kA28, 160, .inl (fun _ => 0))), (y13, .inr (2, [.ref y29, .ref y30, .ref y31, .int 0])), (y29, .inl (kA32, 30, .inl (fun _ => 0))), (y30, .inl (kA33, 30, .inl (fun _ => 0))), (y31, .inl (kA34, 30, .inl (fun _ => 0)))] t) (va_A [(h0, .inr (11, [.null, .null, .null, .null, .null, .null, .null, .null, .null, .null, .null, .null, .null, .null, .int 0, .int 0]))] sz)) 63 1848 (va_A [(h0, .inr (11, [.null, .null, .null, .null, .null, .null, .null, .null, .null, .null, .null, .null, .null, .null, .int 0, .int 0]))] sz) := by
  refine Met.ofW (cc := cX11_init) (maxL := 1) (ret := none) (by decide) rfl ?_
  intro p e s m args below meth c s₁ B hml hv
  obtain ⟨rfl, hsz, hP, hK, hD0, hN⟩ := hv
  have hx := B.exec
  have hb := B.bytes
  have hr := B.returns
  have hts := atoms_spec (ws := wsX11_init) B.pre
  have hown : s.vm.findClass RX11 = some m.cls := findClass_of_methodNamed B.named
  have hlocks := B.notSynchronized
  have hin : meth.name = "<init>" := (name_of_methodNamed B.named B.method).1
  subst hsz
  have hD := hD0.self (sz := s.heap.size)
  generalize hAe : va_A [(h0, .inr (11, [.null, .null, .null, .null, .null, .null, .null, .null, .null, .null, .null, .null, .null, .null, .int 0, .int 0]))] s.heap.size = A at hD ⊢
  have hA : ∀ q : Nat, s.heap.size ≤ q → A q := fun q h => by rw [← hAe]; exact Or.inr h
  have hP : va_P (dC, dI) classes [(h0, .inr (11, [.null, .null, .null, .null, .null, .null, .null, .null, .null, .null, .null, .null, .null, .null, .int 0, .int 0]))] s.heap := hP
  have hl := lv_entry ([.ref h0]) (n := 1) (Nat.le_of_ble_eq_true rfl)
  rw [lg_entry_eq]
  generalize (lg_sl ([.ref h0]) ++ List.replicate (1 - (lg_sl ([.ref h0])).length) Slot.unset).toArray = ls at hl ⊢
  have hl : lv_has ls 1 [(0, .ref h0)] := hl
  refine zw_start (fun H eH => ?_)
  have hP : va_P (dC, dI) classes [(h0, .inr (11, [.null, .null, .null, .null, .null, .null, .null, .null, .null, .null, .null, .null, .null, .null, .int 0, .int 0]))] H := by rw [eH]; exact hP
  have hS : va_S A s.heap H [] := by rw [eH]; exact va_S.rf
  refine lv_aload_n hx hb dX11_init_0 rfl (lv_at hl 0 rfl) ?_
  refine W.objInit hx hb hown (hts (.methodLink RX11 1 objectInit) (by decide +kernel)) (hts (.instanceMethod objectInit) (by decide +kernel)) (hts (.code objectInit ⟨#[0xb1]⟩ 1 none) (List.mem_of_getElem? (i := 3) rfl)) rfl (by rw [hml]; exact hl.1) rfl dX11_init_1 (Nat.le_of_ble_eq_true rfl) (Nat.le_of_ble_eq_true rfl) ?_
  refine W.eq (g2 := F0 m 4 ls []) rfl ?_
  refine lv_aload_n hx hb dX11_init_4 rfl (lv_at hl 0 rfl) ?_
  refine va_new (ci := 8) (fs := [.null, .int 0, .int 0, .int 0]) (C := RX8) (T := TX8) (N := 4) hx hb hts zi_X11_init_X8 tyX8 tyX8_ok hown (hts (.classLink RX11 7 RX8) (by decide +kernel)) (hts (.instantiable RX8 4) (by decide +kernel)) (hts (.initialized RX8) (by decide +kernel)) hK hP hD hS hA rfl zv_X8 (Nat.le_of_ble_eq_true rfl) (Nat.le_of_ble_eq_true rfl) dX11_init_5 (fun q_1 H hP hD hS => ?_)
  have hP : va_P (dC, dI) classes [(h0, .inr (11, [.null, .null, .null, .null, .null, .null, .null, .null, .null, .null, .null, .null, .null, .null, .int 0, .int 0])), (q_1, .inr (8, [.null, .int 0, .int 0, .int 0]))] H := hP
  have hD : va_D A [(h0, .inr (11, [.null, .null, .null, .null, .null, .null, .null, .null, .null, .null, .null, .null, .null, .null, .int 0, .int 0])), (q_1, .inr (8, [.null, .int 0, .int 0, .int 0]))] := hD
  refine W.widen (k := 1) (n := 4) (Nat.le_of_ble_eq_true rfl) (Nat.le_of_ble_eq_true rfl) ?_
  refine lv_dup hx hb dX11_init_8 rfl ?_
  have hPc := hP.sub (ws' := [(q_1, .inr (8, [.null, .int 0, .int 0, .int 0]))]) [1] rfl
  have hDc := hD.sub (ws' := [(q_1, .inr (8, [.null, .int 0, .int 0, .int 0]))]) [1] (by decide) rfl
  have hKc := hK.sub (tys' := []) [] rfl
  have hFc := va_free (wc := [(q_1, .inr (8, [.null, .int 0, .int 0, .int 0]))]) hD hS hA [1] rfl
  refine va_callv (va_runI (As := []) (rest := [.ref q_1, .ref h0]) ⟨hx, hb, hml, hown, hts⟩ (zk_X8_init l dC dI (q_1) H.size) (cwI 0 hts gX11_init_X8_init rfl rfl rfl (hts (.initialized RX8) (by decide +kernel)) (hts (.methodLink RX11 9 yX8_init) (by decide +kernel)) (hts (.instanceMethod yX8_init) (by decide +kernel)) rfl (by decide +kernel) ⟨Nat.le_of_ble_eq_true rfl, Nat.le_of_ble_eq_true rfl⟩) ⟨zw_blind, fun U hU hW => ⟨rfl, zw_P.of hPc hKc hDc hN U hU hW⟩⟩ rfl rfl hl.1 rfl (lv_room (Nat.le_of_ble_eq_true rfl)) dX11_init_9 ⟨Nat.le_of_ble_eq_true rfl, Nat.le_of_ble_eq_true rfl⟩) hS (fun q _ h => hFc q h) hFc (fun u t H1 locs ht hvm hw hB hz1 hk1 hS => ?_)
  obtain ⟨q_3, k_4, hP1, hK1, hD1⟩ := hB
  rw [ht] at hP1
  obtain ⟨hP, hD⟩ := va_join (wr := [(h0, .inr (11, [.null, .null, .null, .null, .null, .null, .null, .null, .null, .null, .null, .null, .null, .null, .int 0, .int 0]))]) (w1 := [(q_1, .inr (8, [.ref q_3, .int 0, .int 0, .int (-1)])), (q_3, .inl (k_4, 160, .inl (fun _ => 0)))]) hP hD [1] [0] rfl rfl (by decide) (by decide) hk1 hFc hP1 hD1
  have hK := hK.app (va_K.moved hvm.symm hK1)
  have hK : va_K (dC, dI) classes [(k_4, .int)] s := hK
  generalize H1 = H at hP hS ⊢
  have hP : va_P (dC, dI) classes [(h0, .inr (11, [.null, .null, .null, .null, .null, .null, .null, .null, .null, .null, .null, .null, .null, .null, .int 0, .int 0])), (q_1, .inr (8, [.ref q_3, .int 0, .int 0, .int (-1)])), (q_3, .inl (k_4, 160, .inl (fun _ => 0)))] H := hP
  have hD : va_D A [(h0, .inr (11, [.null, .null, .null, .null, .null, .null, .null, .null, .null, .null, .null, .null, .null, .null, .int 0, .int 0])), (q_1, .inr (8, [.ref q_3, .int 0, .int 0, .int (-1)])), (q_3, .inl (k_4, 160, .inl (fun _ => 0)))] := hD
  refine W.widen (k := 2) (n := 164) (Nat.le_of_ble_eq_true rfl) (Nat.le_of_ble_eq_true rfl) ?_
  refine va_putF (D := (dC, dI)) (ci := 11) (v := .ref q_1) (ty := .object "HoldTwo$Tape") (C := RX11) (T := TX11) (N := 16) hx hb hts zi_X11_init_X11 tyX11 tyX11_ok nmX11 hown hK hP hD hS 0 rfl rfl 0 (by decide) (hts (.fieldLink RX11 10 "HoldTwo" "tape" "LHoldTwo$Tape;") (by decide +kernel)) (fun _ h9 => h9) rfl hin rfl (by decide +kernel) rfl rfl (Nat.le_of_ble_eq_true rfl) dX11_init_12 (fun H locs hP hD hS => ?_)
  have hP : va_P (dC, dI) classes [(h0, .inr (11, [.ref q_1, .null, .null, .null, .null, .null, .null, .null, .null, .null, .null, .null, .null, .null, .int 0, .int 0])), (q_1, .inr (8, [.ref q_3, .int 0, .int 0, .int (-1)])), (q_3, .inl (k_4, 160, .inl (fun _ => 0)))] H := hP
  have hD : va_D A [(h0, .inr (11, [.ref q_1, .null, .null, .null, .null, .null, .null, .null, .null, .null, .null, .null, .null, .null, .int 0, .int 0])), (q_1, .inr (8, [.ref q_3, .int 0, .int 0, .int (-1)])), (q_3, .inl (k_4, 160, .inl (fun _ => 0)))] := hD
  refine lv_aload_n hx hb dX11_init_15 rfl (lv_at hl 0 rfl) ?_
  refine va_new (ci := 6) (fs := [.null, .null, .null, .null, .int 0, .int 0, .int 0]) (C := RX6) (T := TX6) (N := 7) hx hb hts zi_X11_init_X6 tyX6 tyX6_ok hown (hts (.classLink RX11 16 RX6) (by decide +kernel)) (hts (.instantiable RX6 7) (by decide +kernel)) (hts (.initialized RX6) (by decide +kernel)) hK hP hD hS hA rfl zv_X6 (Nat.le_of_ble_eq_true rfl) (Nat.le_of_ble_eq_true rfl) dX11_init_16 (fun q_5 H hP hD hS => ?_)
  have hP : va_P (dC, dI) classes [(h0, .inr (11, [.ref q_1, .null, .null, .null, .null, .null, .null, .null, .null, .null, .null, .null, .null, .null, .int 0, .int 0])), (q_1, .inr (8, [.ref q_3, .int 0, .int 0, .int (-1)])), (q_3, .inl (k_4, 160, .inl (fun _ => 0))), (q_5, .inr (6, [.null, .null, .null, .null, .int 0, .int 0, .int 0]))] H := hP
  have hD : va_D A [(h0, .inr (11, [.ref q_1, .null, .null, .null, .null, .null, .null, .null, .null, .null, .null, .null, .null, .null, .int 0, .int 0])), (q_1, .inr (8, [.ref q_3, .int 0, .int 0, .int (-1)])), (q_3, .inl (k_4, 160, .inl (fun _ => 0))), (q_5, .inr (6, [.null, .null, .null, .null, .int 0, .int 0, .int 0]))] := hD
  refine W.widen (k := 3) (n := 171) (Nat.le_of_ble_eq_true rfl) (Nat.le_of_ble_eq_true rfl) ?_
  refine lv_dup hx hb dX11_init_19 rfl ?_
  have hPc := hP.sub (ws' := [(q_5, .inr (6, [.null, .null, .null, .null, .int 0, .int 0, .int 0]))]) [3] rfl
  have hDc := hD.sub (ws' := [(q_5, .inr (6, [.null, .null, .null, .null, .int 0, .int 0, .int 0]))]) [3] (by decide) rfl
  have hKc := hK.sub (tys' := []) [] rfl
  have hFc := va_free (wc := [(q_5, .inr (6, [.null, .null, .null, .null, .int 0, .int 0, .int 0]))]) hD hS hA [3] rfl
  refine va_callv (va_runI (As := []) (rest := [.ref q_5, .ref h0]) ⟨hx, hb, hml, hown, hts⟩ (zk_X6_init l dC dI (q_5) H.size) (cwI 0 hts gX11_init_X6_init rfl rfl rfl (hts (.initialized RX6) (by decide +kernel)) (hts (.methodLink RX11 18 yX6_init) (by decide +kernel)) (hts (.instanceMethod yX6_init) (by decide +kernel)) rfl (by decide +kernel) ⟨Nat.le_of_ble_eq_true rfl, Nat.le_of_ble_eq_true rfl⟩) ⟨zw_blind, fun U hU hW => ⟨rfl, zw_P.of hPc hKc hDc hN U hU hW⟩⟩ rfl rfl hl.1 rfl (lv_room (Nat.le_of_ble_eq_true rfl)) dX11_init_20 ⟨Nat.le_of_ble_eq_true rfl, Nat.le_of_ble_eq_true rfl⟩) hS (fun q _ h => hFc q h) hFc (fun u t H1 locs ht hvm hw hB hz1 hk1 hS => ?_)
  obtain ⟨q_7, q_8, q_9, q_10, q_11, q_12, hP1, hK1, hD1⟩ := hB
  rw [ht] at hP1
  obtain ⟨hP, hD⟩ := va_join (wr := [(h0, .inr (11, [.ref q_1, .null, .null, .null, .null, .null, .null, .null, .null, .null, .null, .null, .null, .null, .int 0, .int 0])), (q_1, .inr (8, [.ref q_3, .int 0, .int 0, .int (-1)])), (q_3, .inl (k_4, 160, .inl (fun _ => 0)))]) (w1 := [(q_5, .inr (6, [.ref q_7, .ref q_8, .ref q_9, .ref q_10, .int 0, .int (-1), .int (-1)])), (q_10, .inr (0, [.ref q_11, .ref q_12, .int 0, .int 0, .int 0, .int 0, .int 0]))]) hP hD [3] [0, 1, 2] rfl rfl (by decide) (by decide) hk1 hFc hP1 hD1
  generalize H1 = H at hP hS ⊢
  have hP : va_P (dC, dI) classes [(h0, .inr (11, [.ref q_1, .null, .null, .null, .null, .null, .null, .null, .null, .null, .null, .null, .null, .null, .int 0, .int 0])), (q_1, .inr (8, [.ref q_3, .int 0, .int 0, .int (-1)])), (q_3, .inl (k_4, 160, .inl (fun _ => 0))), (q_5, .inr (6, [.ref q_7, .ref q_8, .ref q_9, .ref q_10, .int 0, .int (-1), .int (-1)])), (q_10, .inr (0, [.ref q_11, .ref q_12, .int 0, .int 0, .int 0, .int 0, .int 0]))] H := hP
  have hD : va_D A [(h0, .inr (11, [.ref q_1, .null, .null, .null, .null, .null, .null, .null, .null, .null, .null, .null, .null, .null, .int 0, .int 0])), (q_1, .inr (8, [.ref q_3, .int 0, .int 0, .int (-1)])), (q_3, .inl (k_4, 160, .inl (fun _ => 0))), (q_5, .inr (6, [.ref q_7, .ref q_8, .ref q_9, .ref q_10, .int 0, .int (-1), .int (-1)])), (q_10, .inr (0, [.ref q_11, .ref q_12, .int 0, .int 0, .int 0, .int 0, .int 0]))] := hD
  refine W.widen (k := 21) (n := 1114) (Nat.le_of_ble_eq_true rfl) (Nat.le_of_ble_eq_true rfl) ?_
  refine va_putF (D := (dC, dI)) (ci := 11) (v := .ref q_5) (ty := .object "HoldTwo$Referee") (C := RX11) (T := TX11) (N := 16) hx hb hts zi_X11_init_X11 tyX11 tyX11_ok nmX11 hown hK hP hD hS 0 rfl rfl 1 (by decide) (hts (.fieldLink RX11 19 "HoldTwo" "referee" "LHoldTwo$Referee;") (by decide +kernel)) (fun _ h9 => h9) rfl hin rfl (by decide +kernel) rfl rfl (Nat.le_of_ble_eq_true rfl) dX11_init_23 (fun H locs hP hD hS => ?_)
  have hP : va_P (dC, dI) classes [(h0, .inr (11, [.ref q_1, .ref q_5, .null, .null, .null, .null, .null, .null, .null, .null, .null, .null, .null, .null, .int 0, .int 0])), (q_1, .inr (8, [.ref q_3, .int 0, .int 0, .int (-1)])), (q_3, .inl (k_4, 160, .inl (fun _ => 0))), (q_5, .inr (6, [.ref q_7, .ref q_8, .ref q_9, .ref q_10, .int 0, .int (-1), .int (-1)])), (q_10, .inr (0, [.ref q_11, .ref q_12, .int 0, .int 0, .int 0, .int 0, .int 0]))] H := hP
  have hD : va_D A [(h0, .inr (11, [.ref q_1, .ref q_5, .null, .null, .null, .null, .null, .null, .null, .null, .null, .null, .null, .null, .int 0, .int 0])), (q_1, .inr (8, [.ref q_3, .int 0, .int 0, .int (-1)])), (q_3, .inl (k_4, 160, .inl (fun _ => 0))), (q_5, .inr (6, [.ref q_7, .ref q_8, .ref q_9, .ref q_10, .int 0, .int (-1), .int (-1)])), (q_10, .inr (0, [.ref q_11, .ref q_12, .int 0, .int 0, .int 0, .int 0, .int 0]))] := hD
  refine lv_aload_n hx hb dX11_init_26 rfl (lv_at hl 0 rfl) ?_
  refine va_new (ci := 4) (fs := [.null, .null, .null, .null, .int 0, .int 0, .int 0, .int 0]) (C := RX4) (T := TX4) (N := 8) hx hb hts zi_X11_init_X4 tyX4 tyX4_ok hown (hts (.classLink RX11 23 RX4) (by decide +kernel)) (hts (.instantiable RX4 8) (by decide +kernel)) (hts (.initialized RX4) (by decide +kernel)) hK hP hD hS hA rfl zv_X4 (Nat.le_of_ble_eq_true rfl) (Nat.le_of_ble_eq_true rfl) dX11_init_27 (fun q_13 H hP hD hS => ?_)
  have hP : va_P (dC, dI) classes [(h0, .inr (11, [.ref q_1, .ref q_5, .null, .null, .null, .null, .null, .null, .null, .null, .null, .null, .null, .null, .int 0, .int 0])), (q_1, .inr (8, [.ref q_3, .int 0, .int 0, .int (-1)])), (q_3, .inl (k_4, 160, .inl (fun _ => 0))), (q_5, .inr (6, [.ref q_7, .ref q_8, .ref q_9, .ref q_10, .int 0, .int (-1), .int (-1)])), (q_10, .inr (0, [.ref q_11, .ref q_12, .int 0, .int 0, .int 0, .int 0, .int 0])), (q_13, .inr (4, [.null, .null, .null, .null, .int 0, .int 0, .int 0, .int 0]))] H := hP
  have hD : va_D A [(h0, .inr (11, [.ref q_1, .ref q_5, .null, .null, .null, .null, .null, .null, .null, .null, .null, .null, .null, .null, .int 0, .int 0])), (q_1, .inr (8, [.ref q_3, .int 0, .int 0, .int (-1)])), (q_3, .inl (k_4, 160, .inl (fun _ => 0))), (q_5, .inr (6, [.ref q_7, .ref q_8, .ref q_9, .ref q_10, .int 0, .int (-1), .int (-1)])), (q_10, .inr (0, [.ref q_11, .ref q_12, .int 0, .int 0, .int 0, .int 0, .int 0])), (q_13, .inr (4, [.null, .null, .null, .null, .int 0, .int 0, .int 0, .int 0]))] := hD
  refine W.widen (k := 22) (n := 1122) (Nat.le_of_ble_eq_true rfl) (Nat.le_of_ble_eq_true rfl) ?_
  refine lv_dup hx hb dX11_init_30 rfl ?_
  have hPc := hP.sub (ws' := [(q_13, .inr (4, [.null, .null, .null, .null, .int 0, .int 0, .int 0, .int 0]))]) [5] rfl
  have hDc := hD.sub (ws' := [(q_13, .inr (4, [.null, .null, .null, .null, .int 0, .int 0, .int 0, .int 0]))]) [5] (by decide) rfl
  have hKc := hK.sub (tys' := []) [] rfl
  have hFc := va_free (wc := [(q_13, .inr (4, [.null, .null, .null, .null, .int 0, .int 0, .int 0, .int 0]))]) hD hS hA [5] rfl
  refine va_callv (va_runI (As := []) (rest := [.ref q_13, .ref h0]) ⟨hx, hb, hml, hown, hts⟩ (zk_X4_init l dC dI (q_13) H.size) (cwI 0 hts gX11_init_X4_init rfl rfl rfl (hts (.initialized RX4) (by decide +kernel)) (hts (.methodLink RX11 25 yX4_init) (by decide +kernel)) (hts (.instanceMethod yX4_init) (by decide +kernel)) rfl (by decide +kernel) ⟨Nat.le_of_ble_eq_true rfl, Nat.le_of_ble_eq_true rfl⟩) ⟨zw_blind, fun U hU hW => ⟨rfl, zw_P.of hPc hKc hDc hN U hU hW⟩⟩ rfl rfl hl.1 rfl (lv_room (Nat.le_of_ble_eq_true rfl)) dX11_init_31 ⟨Nat.le_of_ble_eq_true rfl, Nat.le_of_ble_eq_true rfl⟩) hS (fun q _ h => hFc q h) hFc (fun u t H1 locs ht hvm hw hB hz1 hk1 hS => ?_)
  obtain ⟨q_15, q_16, q_17, q_18, hP1, hK1, hD1⟩ := hB
  rw [ht] at hP1
  obtain ⟨hP, hD⟩ := va_join (wr := [(h0, .inr (11, [.ref q_1, .ref q_5, .null, .null, .null, .null, .null, .null, .null, .null, .null, .null, .null, .null, .int 0, .int 0])), (q_1, .inr (8, [.ref q_3, .int 0, .int 0, .int (-1)])), (q_3, .inl (k_4, 160, .inl (fun _ => 0))), (q_5, .inr (6, [.ref q_7, .ref q_8, .ref q_9, .ref q_10, .int 0, .int (-1), .int (-1)])), (q_10, .inr (0, [.ref q_11, .ref q_12, .int 0, .int 0, .int 0, .int 0, .int 0]))]) (w1 := [(q_13, .inr (4, [.ref q_15, .ref q_16, .ref q_17, .ref q_18, .int 0, .int (-1), .int (-1), .int 0]))]) hP hD [5] [0, 1, 2, 3, 4] rfl rfl (by decide) (by decide) hk1 hFc hP1 hD1
  generalize H1 = H at hP hS ⊢
  have hP : va_P (dC, dI) classes [(h0, .inr (11, [.ref q_1, .ref q_5, .null, .null, .null, .null, .null, .null, .null, .null, .null, .null, .null, .null, .int 0, .int 0])), (q_1, .inr (8, [.ref q_3, .int 0, .int 0, .int (-1)])), (q_3, .inl (k_4, 160, .inl (fun _ => 0))), (q_5, .inr (6, [.ref q_7, .ref q_8, .ref q_9, .ref q_10, .int 0, .int (-1), .int (-1)])), (q_10, .inr (0, [.ref q_11, .ref q_12, .int 0, .int 0, .int 0, .int 0, .int 0])), (q_13, .inr (4, [.ref q_15, .ref q_16, .ref q_17, .ref q_18, .int 0, .int (-1), .int (-1), .int 0]))] H := hP
  have hD : va_D A [(h0, .inr (11, [.ref q_1, .ref q_5, .null, .null, .null, .null, .null, .null, .null, .null, .null, .null, .null, .null, .int 0, .int 0])), (q_1, .inr (8, [.ref q_3, .int 0, .int 0, .int (-1)])), (q_3, .inl (k_4, 160, .inl (fun _ => 0))), (q_5, .inr (6, [.ref q_7, .ref q_8, .ref q_9, .ref q_10, .int 0, .int (-1), .int (-1)])), (q_10, .inr (0, [.ref q_11, .ref q_12, .int 0, .int 0, .int 0, .int 0, .int 0])), (q_13, .inr (4, [.ref q_15, .ref q_16, .ref q_17, .ref q_18, .int 0, .int (-1), .int (-1), .int 0]))] := hD
  refine W.widen (k := 26) (n := 1188) (Nat.le_of_ble_eq_true rfl) (Nat.le_of_ble_eq_true rfl) ?_
  refine va_putF (D := (dC, dI)) (ci := 11) (v := .ref q_13) (ty := .object "HoldTwo$Moves") (C := RX11) (T := TX11) (N := 16) hx hb hts zi_X11_init_X11 tyX11 tyX11_ok nmX11 hown hK hP hD hS 0 rfl rfl 2 (by decide) (hts (.fieldLink RX11 26 "HoldTwo" "moves" "LHoldTwo$Moves;") (by decide +kernel)) (fun _ h9 => h9) rfl hin rfl (by decide +kernel) rfl rfl (Nat.le_of_ble_eq_true rfl) dX11_init_34 (fun H locs hP hD hS => ?_)
  have hP : va_P (dC, dI) classes [(h0, .inr (11, [.ref q_1, .ref q_5, .ref q_13, .null, .null, .null, .null, .null, .null, .null, .null, .null, .null, .null, .int 0, .int 0])), (q_1, .inr (8, [.ref q_3, .int 0, .int 0, .int (-1)])), (q_3, .inl (k_4, 160, .inl (fun _ => 0))), (q_5, .inr (6, [.ref q_7, .ref q_8, .ref q_9, .ref q_10, .int 0, .int (-1), .int (-1)])), (q_10, .inr (0, [.ref q_11, .ref q_12, .int 0, .int 0, .int 0, .int 0, .int 0])), (q_13, .inr (4, [.ref q_15, .ref q_16, .ref q_17, .ref q_18, .int 0, .int (-1), .int (-1), .int 0]))] H := hP
  have hD : va_D A [(h0, .inr (11, [.ref q_1, .ref q_5, .ref q_13, .null, .null, .null, .null, .null, .null, .null, .null, .null, .null, .null, .int 0, .int 0])), (q_1, .inr (8, [.ref q_3, .int 0, .int 0, .int (-1)])), (q_3, .inl (k_4, 160, .inl (fun _ => 0))), (q_5, .inr (6, [.ref q_7, .ref q_8, .ref q_9, .ref q_10, .int 0, .int (-1), .int (-1)])), (q_10, .inr (0, [.ref q_11, .ref q_12, .int 0, .int 0, .int 0, .int 0, .int 0])), (q_13, .inr (4, [.ref q_15, .ref q_16, .ref q_17, .ref q_18, .int 0, .int (-1), .int (-1), .int 0]))] := hD
  refine lv_aload_n hx hb dX11_init_37 rfl (lv_at hl 0 rfl) ?_
  refine va_new (ci := 4) (fs := [.null, .null, .null, .null, .int 0, .int 0, .int 0, .int 0]) (C := RX4) (T := TX4) (N := 8) hx hb hts zi_X11_init_X4 tyX4 tyX4_ok hown (hts (.classLink RX11 23 RX4) (by decide +kernel)) (hts (.instantiable RX4 8) (by decide +kernel)) (hts (.initialized RX4) (by decide +kernel)) hK hP hD hS hA rfl zv_X4 (Nat.le_of_ble_eq_true rfl) (Nat.le_of_ble_eq_true rfl) dX11_init_38 (fun q_19 H hP hD hS => ?_)
  have hP : va_P (dC, dI) classes [(h0, .inr (11, [.ref q_1, .ref q_5, .ref q_13, .null, .null, .null, .null, .null, .null, .null, .null, .null, .null, .null, .int 0, .int 0])), (q_1, .inr (8, [.ref q_3, .int 0, .int 0, .int (-1)])), (q_3, .inl (k_4, 160, .inl (fun _ => 0))), (q_5, .inr (6, [.ref q_7, .ref q_8, .ref q_9, .ref q_10, .int 0, .int (-1), .int (-1)])), (q_10, .inr (0, [.ref q_11, .ref q_12, .int 0, .int 0, .int 0, .int 0, .int 0])), (q_13, .inr (4, [.ref q_15, .ref q_16, .ref q_17, .ref q_18, .int 0, .int (-1), .int (-1), .int 0])), (q_19, .inr (4, [.null, .null, .null, .null, .int 0, .int 0, .int 0, .int 0]))] H := hP
  have hD : va_D A [(h0, .inr (11, [.ref q_1, .ref q_5, .ref q_13, .null, .null, .null, .null, .null, .null, .null, .null, .null, .null, .null, .int 0, .int 0])), (q_1, .inr (8, [.ref q_3, .int 0, .int 0, .int (-1)])), (q_3, .inl (k_4, 160, .inl (fun _ => 0))), (q_5, .inr (6, [.ref q_7, .ref q_8, .ref q_9, .ref q_10, .int 0, .int (-1), .int (-1)])), (q_10, .inr (0, [.ref q_11, .ref q_12, .int 0, .int 0, .int 0, .int 0, .int 0])), (q_13, .inr (4, [.ref q_15, .ref q_16, .ref q_17, .ref q_18, .int 0, .int (-1), .int (-1), .int 0])), (q_19, .inr (4, [.null, .null, .null, .null, .int 0, .int 0, .int 0, .int 0]))] := hD
  refine W.widen (k := 27) (n := 1196) (Nat.le_of_ble_eq_true rfl) (Nat.le_of_ble_eq_true rfl) ?_
  refine lv_dup hx hb dX11_init_41 rfl ?_
  have hPc := hP.sub (ws' := [(q_19, .inr (4, [.null, .null, .null, .null, .int 0, .int 0, .int 0, .int 0]))]) [6] rfl
  have hDc := hD.sub (ws' := [(q_19, .inr (4, [.null, .null, .null, .null, .int 0, .int 0, .int 0, .int 0]))]) [6] (by decide) rfl
  have hKc := hK.sub (tys' := []) [] rfl
  have hFc := va_free (wc := [(q_19, .inr (4, [.null, .null, .null, .null, .int 0, .int 0, .int 0, .int 0]))]) hD hS hA [6] rfl
  refine va_callv (va_runI (As := []) (rest := [.ref q_19, .ref h0]) ⟨hx, hb, hml, hown, hts⟩ (zk_X4_init l dC dI (q_19) H.size) (cwI 0 hts gX11_init_X4_init rfl rfl rfl (hts (.initialized RX4) (by decide +kernel)) (hts (.methodLink RX11 25 yX4_init) (by decide +kernel)) (hts (.instanceMethod yX4_init) (by decide +kernel)) rfl (by decide +kernel) ⟨Nat.le_of_ble_eq_true rfl, Nat.le_of_ble_eq_true rfl⟩) ⟨zw_blind, fun U hU hW => ⟨rfl, zw_P.of hPc hKc hDc hN U hU hW⟩⟩ rfl rfl hl.1 rfl (lv_room (Nat.le_of_ble_eq_true rfl)) dX11_init_42 ⟨Nat.le_of_ble_eq_true rfl, Nat.le_of_ble_eq_true rfl⟩) hS (fun q _ h => hFc q h) hFc (fun u t H1 locs ht hvm hw hB hz1 hk1 hS => ?_)
  obtain ⟨q_21, q_22, q_23, q_24, hP1, hK1, hD1⟩ := hB
  rw [ht] at hP1
  obtain ⟨hP, hD⟩ := va_join (wr := [(h0, .inr (11, [.ref q_1, .ref q_5, .ref q_13, .null, .null, .null, .null, .null, .null, .null, .null, .null, .null, .null, .int 0, .int 0])), (q_1, .inr (8, [.ref q_3, .int 0, .int 0, .int (-1)])), (q_3, .inl (k_4, 160, .inl (fun _ => 0))), (q_5, .inr (6, [.ref q_7, .ref q_8, .ref q_9, .ref q_10, .int 0, .int (-1), .int (-1)])), (q_10, .inr (0, [.ref q_11, .ref q_12, .int 0, .int 0, .int 0, .int 0, .int 0])), (q_13, .inr (4, [.ref q_15, .ref q_16, .ref q_17, .ref q_18, .int 0, .int (-1), .int (-1), .int 0]))]) (w1 := [(q_19, .inr (4, [.ref q_21, .ref q_22, .ref q_23, .ref q_24, .int 0, .int (-1), .int (-1), .int 0]))]) hP hD [6] [0, 1, 2, 3, 4, 5] rfl rfl (by decide) (by decide) hk1 hFc hP1 hD1
  generalize H1 = H at hP hS ⊢
  have hP : va_P (dC, dI) classes [(h0, .inr (11, [.ref q_1, .ref q_5, .ref q_13, .null, .null, .null, .null, .null, .null, .null, .null, .null, .null, .null, .int 0, .int 0])), (q_1, .inr (8, [.ref q_3, .int 0, .int 0, .int (-1)])), (q_3, .inl (k_4, 160, .inl (fun _ => 0))), (q_5, .inr (6, [.ref q_7, .ref q_8, .ref q_9, .ref q_10, .int 0, .int (-1), .int (-1)])), (q_10, .inr (0, [.ref q_11, .ref q_12, .int 0, .int 0, .int 0, .int 0, .int 0])), (q_13, .inr (4, [.ref q_15, .ref q_16, .ref q_17, .ref q_18, .int 0, .int (-1), .int (-1), .int 0])), (q_19, .inr (4, [.ref q_21, .ref q_22, .ref q_23, .ref q_24, .int 0, .int (-1), .int (-1), .int 0]))] H := hP
  have hD : va_D A [(h0, .inr (11, [.ref q_1, .ref q_5, .ref q_13, .null, .null, .null, .null, .null, .null, .null, .null, .null, .null, .null, .int 0, .int 0])), (q_1, .inr (8, [.ref q_3, .int 0, .int 0, .int (-1)])), (q_3, .inl (k_4, 160, .inl (fun _ => 0))), (q_5, .inr (6, [.ref q_7, .ref q_8, .ref q_9, .ref q_10, .int 0, .int (-1), .int (-1)])), (q_10, .inr (0, [.ref q_11, .ref q_12, .int 0, .int 0, .int 0, .int 0, .int 0])), (q_13, .inr (4, [.ref q_15, .ref q_16, .ref q_17, .ref q_18, .int 0, .int (-1), .int (-1), .int 0])), (q_19, .inr (4, [.ref q_21, .ref q_22, .ref q_23, .ref q_24, .int 0, .int (-1), .int (-1), .int 0]))] := hD
  refine W.widen (k := 31) (n := 1262) (Nat.le_of_ble_eq_true rfl) (Nat.le_of_ble_eq_true rfl) ?_
  refine va_putF (D := (dC, dI)) (ci := 11) (v := .ref q_19) (ty := .object "HoldTwo$Moves") (C := RX11) (T := TX11) (N := 16) hx hb hts zi_X11_init_X11 tyX11 tyX11_ok nmX11 hown hK hP hD hS 0 rfl rfl 3 (by decide) (hts (.fieldLink RX11 30 "HoldTwo" "answers" "LHoldTwo$Moves;") (by decide +kernel)) (fun _ h9 => h9) rfl hin rfl (by decide +kernel) rfl rfl (Nat.le_of_ble_eq_true rfl) dX11_init_45 (fun H locs hP hD hS => ?_)
  have hP : va_P (dC, dI) classes [(h0, .inr (11, [.ref q_1, .ref q_5, .ref q_13, .ref q_19, .null, .null, .null, .null, .null, .null, .null, .null, .null, .null, .int 0, .int 0])), (q_1, .inr (8, [.ref q_3, .int 0, .int 0, .int (-1)])), (q_3, .inl (k_4, 160, .inl (fun _ => 0))), (q_5, .inr (6, [.ref q_7, .ref q_8, .ref q_9, .ref q_10, .int 0, .int (-1), .int (-1)])), (q_10, .inr (0, [.ref q_11, .ref q_12, .int 0, .int 0, .int 0, .int 0, .int 0])), (q_13, .inr (4, [.ref q_15, .ref q_16, .ref q_17, .ref q_18, .int 0, .int (-1), .int (-1), .int 0])), (q_19, .inr (4, [.ref q_21, .ref q_22, .ref q_23, .ref q_24, .int 0, .int (-1), .int (-1), .int 0]))] H := hP
  have hD : va_D A [(h0, .inr (11, [.ref q_1, .ref q_5, .ref q_13, .ref q_19, .null, .null, .null, .null, .null, .null, .null, .null, .null, .null, .int 0, .int 0])), (q_1, .inr (8, [.ref q_3, .int 0, .int 0, .int (-1)])), (q_3, .inl (k_4, 160, .inl (fun _ => 0))), (q_5, .inr (6, [.ref q_7, .ref q_8, .ref q_9, .ref q_10, .int 0, .int (-1), .int (-1)])), (q_10, .inr (0, [.ref q_11, .ref q_12, .int 0, .int 0, .int 0, .int 0, .int 0])), (q_13, .inr (4, [.ref q_15, .ref q_16, .ref q_17, .ref q_18, .int 0, .int (-1), .int (-1), .int 0])), (q_19, .inr (4, [.ref q_21, .ref q_22, .ref q_23, .ref q_24, .int 0, .int (-1), .int (-1), .int 0]))] := hD
  refine lv_aload_n hx hb dX11_init_48 rfl (lv_at hl 0 rfl) ?_
  refine va_new (ci := 10) (fs := [.null, .null, .null, .null, .null, .null, .null, .null, .int 0, .int 0, .int 0, .int 0, .int 0, .int 0, .int 0, .int 0, .int 0, .int 0, .int 0]) (C := RX10) (T := TX10) (N := 19) hx hb hts zi_X11_init_X10 tyX10 tyX10_ok hown (hts (.classLink RX11 33 RX10) (by decide +kernel)) (hts (.instantiable RX10 19) (by decide +kernel)) (hts (.initialized RX10) (by decide +kernel)) hK hP hD hS hA rfl zv_X10 (Nat.le_of_ble_eq_true rfl) (Nat.le_of_ble_eq_true rfl) dX11_init_49 (fun q_25 H hP hD hS => ?_)
  have hP : va_P (dC, dI) classes [(h0, .inr (11, [.ref q_1, .ref q_5, .ref q_13, .ref q_19, .null, .null, .null, .null, .null, .null, .null, .null, .null, .null, .int 0, .int 0])), (q_1, .inr (8, [.ref q_3, .int 0, .int 0, .int (-1)])), (q_3, .inl (k_4, 160, .inl (fun _ => 0))), (q_5, .inr (6, [.ref q_7, .ref q_8, .ref q_9, .ref q_10, .int 0, .int (-1), .int (-1)])), (q_10, .inr (0, [.ref q_11, .ref q_12, .int 0, .int 0, .int 0, .int 0, .int 0])), (q_13, .inr (4, [.ref q_15, .ref q_16, .ref q_17, .ref q_18, .int 0, .int (-1), .int (-1), .int 0])), (q_19, .inr (4, [.ref q_21, .ref q_22, .ref q_23, .ref q_24, .int 0, .int (-1), .int (-1), .int 0])), (q_25, .inr (10, [.null, .null, .null, .null, .null, .null, .null, .null, .int 0, .int 0, .int 0, .int 0, .int 0, .int 0, .int 0, .int 0, .int 0, .int 0, .int 0]))] H := hP
  have hD : va_D A [(h0, .inr (11, [.ref q_1, .ref q_5, .ref q_13, .ref q_19, .null, .null, .null, .null, .null, .null, .null, .null, .null, .null, .int 0, .int 0])), (q_1, .inr (8, [.ref q_3, .int 0, .int 0, .int (-1)])), (q_3, .inl (k_4, 160, .inl (fun _ => 0))), (q_5, .inr (6, [.ref q_7, .ref q_8, .ref q_9, .ref q_10, .int 0, .int (-1), .int (-1)])), (q_10, .inr (0, [.ref q_11, .ref q_12, .int 0, .int 0, .int 0, .int 0, .int 0])), (q_13, .inr (4, [.ref q_15, .ref q_16, .ref q_17, .ref q_18, .int 0, .int (-1), .int (-1), .int 0])), (q_19, .inr (4, [.ref q_21, .ref q_22, .ref q_23, .ref q_24, .int 0, .int (-1), .int (-1), .int 0])), (q_25, .inr (10, [.null, .null, .null, .null, .null, .null, .null, .null, .int 0, .int 0, .int 0, .int 0, .int 0, .int 0, .int 0, .int 0, .int 0, .int 0, .int 0]))] := hD
  refine W.widen (k := 32) (n := 1281) (Nat.le_of_ble_eq_true rfl) (Nat.le_of_ble_eq_true rfl) ?_
  refine lv_dup hx hb dX11_init_52 rfl ?_
  refine lv_aload_n hx hb dX11_init_53 rfl (lv_at hl 0 rfl) ?_
  refine va_get (D := (dC, dI)) (ci := 11) (v := .ref q_5) (C := RX11) (T := TX11) (N := 16) hx hb hts zi_X11_init_X11 hown hK hP 0 rfl rfl 1 (by decide) (hts (.fieldLink RX11 19 "HoldTwo" "referee" "LHoldTwo$Referee;") (by decide +kernel)) (fun _ h9 => h9) rfl dX11_init_54 ?_
  have hPc := hP.sub (ws' := [(q_25, .inr (10, [.null, .null, .null, .null, .null, .null, .null, .null, .int 0, .int 0, .int 0, .int 0, .int 0, .int 0, .int 0, .int 0, .int 0, .int 0, .int 0]))]) [7] rfl
  have hDc := hD.sub (ws' := [(q_25, .inr (10, [.null, .null, .null, .null, .null, .null, .null, .null, .int 0, .int 0, .int 0, .int 0, .int 0, .int 0, .int 0, .int 0, .int 0, .int 0, .int 0]))]) [7] (by decide) rfl
  have hKc := hK.sub (tys' := []) [] rfl
  have hFc := va_free (wc := [(q_25, .inr (10, [.null, .null, .null, .null, .null, .null, .null, .null, .int 0, .int 0, .int 0, .int 0, .int 0, .int 0, .int 0, .int 0, .int 0, .int 0, .int 0]))]) hD hS hA [7] rfl
  refine va_callv (va_runI (As := [.ref q_5]) (rest := [.ref q_25, .ref h0]) ⟨hx, hb, hml, hown, hts⟩ (zk_X10_init l dC dI (q_25) (q_5) H.size) (cwI 1 hts gX11_init_X10_init rfl rfl rfl (hts (.initialized RX10) (by decide +kernel)) (hts (.methodLink RX11 35 yX10_init) (by decide +kernel)) (hts (.instanceMethod yX10_init) (by decide +kernel)) rfl (by decide +kernel) ⟨Nat.le_of_ble_eq_true rfl, Nat.le_of_ble_eq_true rfl⟩) ⟨zw_blind, fun U hU hW => ⟨rfl, zw_P.of hPc hKc hDc hN U hU hW⟩⟩ rfl rfl hl.1 rfl (lv_room (Nat.le_of_ble_eq_true rfl)) dX11_init_57 ⟨Nat.le_of_ble_eq_true rfl, Nat.le_of_ble_eq_true rfl⟩) hS (fun q _ h => hFc q h) hFc (fun u t H1 locs ht hvm hw hB hz1 hk1 hS => ?_)
  obtain ⟨q_27, q_28, hP1, hK1, hD1⟩ := hB
  rw [ht] at hP1
  obtain ⟨hP, hD⟩ := va_join (wr := [(h0, .inr (11, [.ref q_1, .ref q_5, .ref q_13, .ref q_19, .null, .null, .null, .null, .null, .null, .null, .null, .null, .null, .int 0, .int 0])), (q_1, .inr (8, [.ref q_3, .int 0, .int 0, .int (-1)])), (q_3, .inl (k_4, 160, .inl (fun _ => 0))), (q_5, .inr (6, [.ref q_7, .ref q_8, .ref q_9, .ref q_10, .int 0, .int (-1), .int (-1)])), (q_10, .inr (0, [.ref q_11, .ref q_12, .int 0, .int 0, .int 0, .int 0, .int 0])), (q_13, .inr (4, [.ref q_15, .ref q_16, .ref q_17, .ref q_18, .int 0, .int (-1), .int (-1), .int 0])), (q_19, .inr (4, [.ref q_21, .ref q_22, .ref q_23, .ref q_24, .int 0, .int (-1), .int (-1), .int 0]))]) (w1 := [(q_25, .inr (10, [.ref q_5, .ref q_27, .ref q_28, .ref q_28, .ref q_28, .ref q_28, .ref q_28, .ref q_28, .int 0, .int 0, .int 0, .int 0, .int 0, .int 0, .int 0, .int 0, .int 0, .int 0, .int (-1)]))]) hP hD [7] [0, 1, 2, 3, 4, 5, 6] rfl rfl (by decide) (by decide) hk1 hFc hP1 hD1
  generalize H1 = H at hP hS ⊢
  have hP : va_P (dC, dI) classes [(h0, .inr (11, [.ref q_1, .ref q_5, .ref q_13, .ref q_19, .null, .null, .null, .null, .null, .null, .null, .null, .null, .null, .int 0, .int 0])), (q_1, .inr (8, [.ref q_3, .int 0, .int 0, .int (-1)])), (q_3, .inl (k_4, 160, .inl (fun _ => 0))), (q_5, .inr (6, [.ref q_7, .ref q_8, .ref q_9, .ref q_10, .int 0, .int (-1), .int (-1)])), (q_10, .inr (0, [.ref q_11, .ref q_12, .int 0, .int 0, .int 0, .int 0, .int 0])), (q_13, .inr (4, [.ref q_15, .ref q_16, .ref q_17, .ref q_18, .int 0, .int (-1), .int (-1), .int 0])), (q_19, .inr (4, [.ref q_21, .ref q_22, .ref q_23, .ref q_24, .int 0, .int (-1), .int (-1), .int 0])), (q_25, .inr (10, [.ref q_5, .ref q_27, .ref q_28, .ref q_28, .ref q_28, .ref q_28, .ref q_28, .ref q_28, .int 0, .int 0, .int 0, .int 0, .int 0, .int 0, .int 0, .int 0, .int 0, .int 0, .int (-1)]))] H := hP
  have hD : va_D A [(h0, .inr (11, [.ref q_1, .ref q_5, .ref q_13, .ref q_19, .null, .null, .null, .null, .null, .null, .null, .null, .null, .null, .int 0, .int 0])), (q_1, .inr (8, [.ref q_3, .int 0, .int 0, .int (-1)])), (q_3, .inl (k_4, 160, .inl (fun _ => 0))), (q_5, .inr (6, [.ref q_7, .ref q_8, .ref q_9, .ref q_10, .int 0, .int (-1), .int (-1)])), (q_10, .inr (0, [.ref q_11, .ref q_12, .int 0, .int 0, .int 0, .int 0, .int 0])), (q_13, .inr (4, [.ref q_15, .ref q_16, .ref q_17, .ref q_18, .int 0, .int (-1), .int (-1), .int 0])), (q_19, .inr (4, [.ref q_21, .ref q_22, .ref q_23, .ref q_24, .int 0, .int (-1), .int (-1), .int 0])), (q_25, .inr (10, [.ref q_5, .ref q_27, .ref q_28, .ref q_28, .ref q_28, .ref q_28, .ref q_28, .ref q_28, .int 0, .int 0, .int 0, .int 0, .int 0, .int 0, .int 0, .int 0, .int 0, .int 0, .int (-1)]))] := hD
  refine W.widen (k := 34) (n := 1284) (Nat.le_of_ble_eq_true rfl) (Nat.le_of_ble_eq_true rfl) ?_
  refine va_putF (D := (dC, dI)) (ci := 11) (v := .ref q_25) (ty := .object "HoldTwo$Values") (C := RX11) (T := TX11) (N := 16) hx hb hts zi_X11_init_X11 tyX11 tyX11_ok nmX11 hown hK hP hD hS 0 rfl rfl 4 (by decide) (hts (.fieldLink RX11 38 "HoldTwo" "values" "LHoldTwo$Values;") (by decide +kernel)) (fun _ h9 => h9) rfl hin rfl (by decide +kernel) rfl rfl (Nat.le_of_ble_eq_true rfl) dX11_init_60 (fun H locs hP hD hS => ?_)
  have hP : va_P (dC, dI) classes [(h0, .inr (11, [.ref q_1, .ref q_5, .ref q_13, .ref q_19, .ref q_25, .null, .null, .null, .null, .null, .null, .null, .null, .null, .int 0, .int 0])), (q_1, .inr (8, [.ref q_3, .int 0, .int 0, .int (-1)])), (q_3, .inl (k_4, 160, .inl (fun _ => 0))), (q_5, .inr (6, [.ref q_7, .ref q_8, .ref q_9, .ref q_10, .int 0, .int (-1), .int (-1)])), (q_10, .inr (0, [.ref q_11, .ref q_12, .int 0, .int 0, .int 0, .int 0, .int 0])), (q_13, .inr (4, [.ref q_15, .ref q_16, .ref q_17, .ref q_18, .int 0, .int (-1), .int (-1), .int 0])), (q_19, .inr (4, [.ref q_21, .ref q_22, .ref q_23, .ref q_24, .int 0, .int (-1), .int (-1), .int 0])), (q_25, .inr (10, [.ref q_5, .ref q_27, .ref q_28, .ref q_28, .ref q_28, .ref q_28, .ref q_28, .ref q_28, .int 0, .int 0, .int 0, .int 0, .int 0, .int 0, .int 0, .int 0, .int 0, .int 0, .int (-1)]))] H := hP
  have hD : va_D A [(h0, .inr (11, [.ref q_1, .ref q_5, .ref q_13, .ref q_19, .ref q_25, .null, .null, .null, .null, .null, .null, .null, .null, .null, .int 0, .int 0])), (q_1, .inr (8, [.ref q_3, .int 0, .int 0, .int (-1)])), (q_3, .inl (k_4, 160, .inl (fun _ => 0))), (q_5, .inr (6, [.ref q_7, .ref q_8, .ref q_9, .ref q_10, .int 0, .int (-1), .int (-1)])), (q_10, .inr (0, [.ref q_11, .ref q_12, .int 0, .int 0, .int 0, .int 0, .int 0])), (q_13, .inr (4, [.ref q_15, .ref q_16, .ref q_17, .ref q_18, .int 0, .int (-1), .int (-1), .int 0])), (q_19, .inr (4, [.ref q_21, .ref q_22, .ref q_23, .ref q_24, .int 0, .int (-1), .int (-1), .int 0])), (q_25, .inr (10, [.ref q_5, .ref q_27, .ref q_28, .ref q_28, .ref q_28, .ref q_28, .ref q_28, .ref q_28, .int 0, .int 0, .int 0, .int 0, .int 0, .int 0, .int 0, .int 0, .int 0, .int 0, .int (-1)]))] := hD
  refine lv_aload_n hx hb dX11_init_63 rfl (lv_at hl 0 rfl) ?_
  refine va_new (ci := 9) (fs := [.null, .null, .null, .int 0, .int 0]) (C := RX9) (T := TX9) (N := 5) hx hb hts zi_X11_init_X9 tyX9 tyX9_ok hown (hts (.classLink RX11 42 RX9) (by decide +kernel)) (hts (.instantiable RX9 5) (by decide +kernel)) (hts (.initialized RX9) (by decide +kernel)) hK hP hD hS hA rfl zv_X9 (Nat.le_of_ble_eq_true rfl) (Nat.le_of_ble_eq_true rfl) dX11_init_64 (fun q_29 H hP hD hS => ?_)
  have hP : va_P (dC, dI) classes [(h0, .inr (11, [.ref q_1, .ref q_5, .ref q_13, .ref q_19, .ref q_25, .null, .null, .null, .null, .null, .null, .null, .null, .null, .int 0, .int 0])), (q_1, .inr (8, [.ref q_3, .int 0, .int 0, .int (-1)])), (q_3, .inl (k_4, 160, .inl (fun _ => 0))), (q_5, .inr (6, [.ref q_7, .ref q_8, .ref q_9, .ref q_10, .int 0, .int (-1), .int (-1)])), (q_10, .inr (0, [.ref q_11, .ref q_12, .int 0, .int 0, .int 0, .int 0, .int 0])), (q_13, .inr (4, [.ref q_15, .ref q_16, .ref q_17, .ref q_18, .int 0, .int (-1), .int (-1), .int 0])), (q_19, .inr (4, [.ref q_21, .ref q_22, .ref q_23, .ref q_24, .int 0, .int (-1), .int (-1), .int 0])), (q_25, .inr (10, [.ref q_5, .ref q_27, .ref q_28, .ref q_28, .ref q_28, .ref q_28, .ref q_28, .ref q_28, .int 0, .int 0, .int 0, .int 0, .int 0, .int 0, .int 0, .int 0, .int 0, .int 0, .int (-1)])), (q_29, .inr (9, [.null, .null, .null, .int 0, .int 0]))] H := hP
  have hD : va_D A [(h0, .inr (11, [.ref q_1, .ref q_5, .ref q_13, .ref q_19, .ref q_25, .null, .null, .null, .null, .null, .null, .null, .null, .null, .int 0, .int 0])), (q_1, .inr (8, [.ref q_3, .int 0, .int 0, .int (-1)])), (q_3, .inl (k_4, 160, .inl (fun _ => 0))), (q_5, .inr (6, [.ref q_7, .ref q_8, .ref q_9, .ref q_10, .int 0, .int (-1), .int (-1)])), (q_10, .inr (0, [.ref q_11, .ref q_12, .int 0, .int 0, .int 0, .int 0, .int 0])), (q_13, .inr (4, [.ref q_15, .ref q_16, .ref q_17, .ref q_18, .int 0, .int (-1), .int (-1), .int 0])), (q_19, .inr (4, [.ref q_21, .ref q_22, .ref q_23, .ref q_24, .int 0, .int (-1), .int (-1), .int 0])), (q_25, .inr (10, [.ref q_5, .ref q_27, .ref q_28, .ref q_28, .ref q_28, .ref q_28, .ref q_28, .ref q_28, .int 0, .int 0, .int 0, .int 0, .int 0, .int 0, .int 0, .int 0, .int 0, .int 0, .int (-1)])), (q_29, .inr (9, [.null, .null, .null, .int 0, .int 0]))] := hD
  refine W.widen (k := 35) (n := 1289) (Nat.le_of_ble_eq_true rfl) (Nat.le_of_ble_eq_true rfl) ?_
  refine lv_dup hx hb dX11_init_67 rfl ?_
  have hPc := hP.sub (ws' := [(q_29, .inr (9, [.null, .null, .null, .int 0, .int 0]))]) [8] rfl
  have hDc := hD.sub (ws' := [(q_29, .inr (9, [.null, .null, .null, .int 0, .int 0]))]) [8] (by decide) rfl
  have hKc := hK.sub (tys' := []) [] rfl
  have hFc := va_free (wc := [(q_29, .inr (9, [.null, .null, .null, .int 0, .int 0]))]) hD hS hA [8] rfl
  refine va_callv (va_runI (As := []) (rest := [.ref q_29, .ref h0]) ⟨hx, hb, hml, hown, hts⟩ (zk_X9_init l dC dI (q_29) H.size) (cwI 0 hts gX11_init_X9_init rfl rfl rfl (hts (.initialized RX9) (by decide +kernel)) (hts (.methodLink RX11 44 yX9_init) (by decide +kernel)) (hts (.instanceMethod yX9_init) (by decide +kernel)) rfl (by decide +kernel) ⟨Nat.le_of_ble_eq_true rfl, Nat.le_of_ble_eq_true rfl⟩) ⟨zw_blind, fun U hU hW => ⟨rfl, zw_P.of hPc hKc hDc hN U hU hW⟩⟩ rfl rfl hl.1 rfl (lv_room (Nat.le_of_ble_eq_true rfl)) dX11_init_68 ⟨Nat.le_of_ble_eq_true rfl, Nat.le_of_ble_eq_true rfl⟩) hS (fun q _ h => hFc q h) hFc (fun u t H1 locs ht hvm hw hB hz1 hk1 hS => ?_)
  obtain ⟨q_31, q_32, q_33, hP1, hK1, hD1⟩ := hB
  rw [ht] at hP1
  obtain ⟨hP, hD⟩ := va_join (wr := [(h0, .inr (11, [.ref q_1, .ref q_5, .ref q_13, .ref q_19, .ref q_25, .null, .null, .null, .null, .null, .null, .null, .null, .null, .int 0, .int 0])), (q_1, .inr (8, [.ref q_3, .int 0, .int 0, .int (-1)])), (q_3, .inl (k_4, 160, .inl (fun _ => 0))), (q_5, .inr (6, [.ref q_7, .ref q_8, .ref q_9, .ref q_10, .int 0, .int (-1), .int (-1)])), (q_10, .inr (0, [.ref q_11, .ref q_12, .int 0, .int 0, .int 0, .int 0, .int 0])), (q_13, .inr (4, [.ref q_15, .ref q_16, .ref q_17, .ref q_18, .int 0, .int (-1), .int (-1), .int 0])), (q_19, .inr (4, [.ref q_21, .ref q_22, .ref q_23, .ref q_24, .int 0, .int (-1), .int (-1), .int 0])), (q_25, .inr (10, [.ref q_5, .ref q_27, .ref q_28, .ref q_28, .ref q_28, .ref q_28, .ref q_28, .ref q_28, .int 0, .int 0, .int 0, .int 0, .int 0, .int 0, .int 0, .int 0, .int 0, .int 0, .int (-1)]))]) (w1 := [(q_29, .inr (9, [.ref q_31, .ref q_32, .ref q_33, .int (-1), .int 0]))]) hP hD [8] [0, 1, 2, 3, 4, 5, 6, 7] rfl rfl (by decide) (by decide) hk1 hFc hP1 hD1
  generalize H1 = H at hP hS ⊢
  have hP : va_P (dC, dI) classes [(h0, .inr (11, [.ref q_1, .ref q_5, .ref q_13, .ref q_19, .ref q_25, .null, .null, .null, .null, .null, .null, .null, .null, .null, .int 0, .int 0])), (q_1, .inr (8, [.ref q_3, .int 0, .int 0, .int (-1)])), (q_3, .inl (k_4, 160, .inl (fun _ => 0))), (q_5, .inr (6, [.ref q_7, .ref q_8, .ref q_9, .ref q_10, .int 0, .int (-1), .int (-1)])), (q_10, .inr (0, [.ref q_11, .ref q_12, .int 0, .int 0, .int 0, .int 0, .int 0])), (q_13, .inr (4, [.ref q_15, .ref q_16, .ref q_17, .ref q_18, .int 0, .int (-1), .int (-1), .int 0])), (q_19, .inr (4, [.ref q_21, .ref q_22, .ref q_23, .ref q_24, .int 0, .int (-1), .int (-1), .int 0])), (q_25, .inr (10, [.ref q_5, .ref q_27, .ref q_28, .ref q_28, .ref q_28, .ref q_28, .ref q_28, .ref q_28, .int 0, .int 0, .int 0, .int 0, .int 0, .int 0, .int 0, .int 0, .int 0, .int 0, .int (-1)])), (q_29, .inr (9, [.ref q_31, .ref q_32, .ref q_33, .int (-1), .int 0]))] H := hP
  have hD : va_D A [(h0, .inr (11, [.ref q_1, .ref q_5, .ref q_13, .ref q_19, .ref q_25, .null, .null, .null, .null, .null, .null, .null, .null, .null, .int 0, .int 0])), (q_1, .inr (8, [.ref q_3, .int 0, .int 0, .int (-1)])), (q_3, .inl (k_4, 160, .inl (fun _ => 0))), (q_5, .inr (6, [.ref q_7, .ref q_8, .ref q_9, .ref q_10, .int 0, .int (-1), .int (-1)])), (q_10, .inr (0, [.ref q_11, .ref q_12, .int 0, .int 0, .int 0, .int 0, .int 0])), (q_13, .inr (4, [.ref q_15, .ref q_16, .ref q_17, .ref q_18, .int 0, .int (-1), .int (-1), .int 0])), (q_19, .inr (4, [.ref q_21, .ref q_22, .ref q_23, .ref q_24, .int 0, .int (-1), .int (-1), .int 0])), (q_25, .inr (10, [.ref q_5, .ref q_27, .ref q_28, .ref q_28, .ref q_28, .ref q_28, .ref q_28, .ref q_28, .int 0, .int 0, .int 0, .int 0, .int 0, .int 0, .int 0, .int 0, .int 0, .int 0, .int (-1)])), (q_29, .inr (9, [.ref q_31, .ref q_32, .ref q_33, .int (-1), .int 0]))] := hD
  refine W.widen (k := 40) (n := 1325) (Nat.le_of_ble_eq_true rfl) (Nat.le_of_ble_eq_true rfl) ?_
  refine va_putF (D := (dC, dI)) (ci := 11) (v := .ref q_29) (ty := .object "HoldTwo$Turner") (C := RX11) (T := TX11) (N := 16) hx hb hts zi_X11_init_X11 tyX11 tyX11_ok nmX11 hown hK hP hD hS 0 rfl rfl 5 (by decide) (hts (.fieldLink RX11 45 "HoldTwo" "turner" "LHoldTwo$Turner;") (by decide +kernel)) (fun _ h9 => h9) rfl hin rfl (by decide +kernel) rfl rfl (Nat.le_of_ble_eq_true rfl) dX11_init_71 (fun H locs hP hD hS => ?_)
  have hP : va_P (dC, dI) classes [(h0, .inr (11, [.ref q_1, .ref q_5, .ref q_13, .ref q_19, .ref q_25, .ref q_29, .null, .null, .null, .null, .null, .null, .null, .null, .int 0, .int 0])), (q_1, .inr (8, [.ref q_3, .int 0, .int 0, .int (-1)])), (q_3, .inl (k_4, 160, .inl (fun _ => 0))), (q_5, .inr (6, [.ref q_7, .ref q_8, .ref q_9, .ref q_10, .int 0, .int (-1), .int (-1)])), (q_10, .inr (0, [.ref q_11, .ref q_12, .int 0, .int 0, .int 0, .int 0, .int 0])), (q_13, .inr (4, [.ref q_15, .ref q_16, .ref q_17, .ref q_18, .int 0, .int (-1), .int (-1), .int 0])), (q_19, .inr (4, [.ref q_21, .ref q_22, .ref q_23, .ref q_24, .int 0, .int (-1), .int (-1), .int 0])), (q_25, .inr (10, [.ref q_5, .ref q_27, .ref q_28, .ref q_28, .ref q_28, .ref q_28, .ref q_28, .ref q_28, .int 0, .int 0, .int 0, .int 0, .int 0, .int 0, .int 0, .int 0, .int 0, .int 0, .int (-1)])), (q_29, .inr (9, [.ref q_31, .ref q_32, .ref q_33, .int (-1), .int 0]))] H := hP
  have hD : va_D A [(h0, .inr (11, [.ref q_1, .ref q_5, .ref q_13, .ref q_19, .ref q_25, .ref q_29, .null, .null, .null, .null, .null, .null, .null, .null, .int 0, .int 0])), (q_1, .inr (8, [.ref q_3, .int 0, .int 0, .int (-1)])), (q_3, .inl (k_4, 160, .inl (fun _ => 0))), (q_5, .inr (6, [.ref q_7, .ref q_8, .ref q_9, .ref q_10, .int 0, .int (-1), .int (-1)])), (q_10, .inr (0, [.ref q_11, .ref q_12, .int 0, .int 0, .int 0, .int 0, .int 0])), (q_13, .inr (4, [.ref q_15, .ref q_16, .ref q_17, .ref q_18, .int 0, .int (-1), .int (-1), .int 0])), (q_19, .inr (4, [.ref q_21, .ref q_22, .ref q_23, .ref q_24, .int 0, .int (-1), .int (-1), .int 0])), (q_25, .inr (10, [.ref q_5, .ref q_27, .ref q_28, .ref q_28, .ref q_28, .ref q_28, .ref q_28, .ref q_28, .int 0, .int 0, .int 0, .int 0, .int 0, .int 0, .int 0, .int 0, .int 0, .int 0, .int (-1)])), (q_29, .inr (9, [.ref q_31, .ref q_32, .ref q_33, .int (-1), .int 0]))] := hD
  refine lv_aload_n hx hb dX11_init_74 rfl (lv_at hl 0 rfl) ?_
  refine va_new (ci := 5) (fs := [.null, .null, .null, .int 0, .int 0, .long 0]) (C := RX5) (T := TX5) (N := 6) hx hb hts zi_X11_init_X5 tyX5 tyX5_ok hown (hts (.classLink RX11 49 RX5) (by decide +kernel)) (hts (.instantiable RX5 6) (by decide +kernel)) (hts (.initialized RX5) (by decide +kernel)) hK hP hD hS hA rfl zv_X5 (Nat.le_of_ble_eq_true rfl) (Nat.le_of_ble_eq_true rfl) dX11_init_75 (fun q_34 H hP hD hS => ?_)
  have hP : va_P (dC, dI) classes [(h0, .inr (11, [.ref q_1, .ref q_5, .ref q_13, .ref q_19, .ref q_25, .ref q_29, .null, .null, .null, .null, .null, .null, .null, .null, .int 0, .int 0])), (q_1, .inr (8, [.ref q_3, .int 0, .int 0, .int (-1)])), (q_3, .inl (k_4, 160, .inl (fun _ => 0))), (q_5, .inr (6, [.ref q_7, .ref q_8, .ref q_9, .ref q_10, .int 0, .int (-1), .int (-1)])), (q_10, .inr (0, [.ref q_11, .ref q_12, .int 0, .int 0, .int 0, .int 0, .int 0])), (q_13, .inr (4, [.ref q_15, .ref q_16, .ref q_17, .ref q_18, .int 0, .int (-1), .int (-1), .int 0])), (q_19, .inr (4, [.ref q_21, .ref q_22, .ref q_23, .ref q_24, .int 0, .int (-1), .int (-1), .int 0])), (q_25, .inr (10, [.ref q_5, .ref q_27, .ref q_28, .ref q_28, .ref q_28, .ref q_28, .ref q_28, .ref q_28, .int 0, .int 0, .int 0, .int 0, .int 0, .int 0, .int 0, .int 0, .int 0, .int 0, .int (-1)])), (q_29, .inr (9, [.ref q_31, .ref q_32, .ref q_33, .int (-1), .int 0])), (q_34, .inr (5, [.null, .null, .null, .int 0, .int 0, .long 0]))] H := hP
  have hD : va_D A [(h0, .inr (11, [.ref q_1, .ref q_5, .ref q_13, .ref q_19, .ref q_25, .ref q_29, .null, .null, .null, .null, .null, .null, .null, .null, .int 0, .int 0])), (q_1, .inr (8, [.ref q_3, .int 0, .int 0, .int (-1)])), (q_3, .inl (k_4, 160, .inl (fun _ => 0))), (q_5, .inr (6, [.ref q_7, .ref q_8, .ref q_9, .ref q_10, .int 0, .int (-1), .int (-1)])), (q_10, .inr (0, [.ref q_11, .ref q_12, .int 0, .int 0, .int 0, .int 0, .int 0])), (q_13, .inr (4, [.ref q_15, .ref q_16, .ref q_17, .ref q_18, .int 0, .int (-1), .int (-1), .int 0])), (q_19, .inr (4, [.ref q_21, .ref q_22, .ref q_23, .ref q_24, .int 0, .int (-1), .int (-1), .int 0])), (q_25, .inr (10, [.ref q_5, .ref q_27, .ref q_28, .ref q_28, .ref q_28, .ref q_28, .ref q_28, .ref q_28, .int 0, .int 0, .int 0, .int 0, .int 0, .int 0, .int 0, .int 0, .int 0, .int 0, .int (-1)])), (q_29, .inr (9, [.ref q_31, .ref q_32, .ref q_33, .int (-1), .int 0])), (q_34, .inr (5, [.null, .null, .null, .int 0, .int 0, .long 0]))] := hD
  refine W.widen (k := 41) (n := 1331) (Nat.le_of_ble_eq_true rfl) (Nat.le_of_ble_eq_true rfl) ?_
  refine lv_dup hx hb dX11_init_78 rfl ?_
  refine lv_aload_n hx hb dX11_init_79 rfl (lv_at hl 0 rfl) ?_
  refine va_get (D := (dC, dI)) (ci := 11) (v := .ref q_5) (C := RX11) (T := TX11) (N := 16) hx hb hts zi_X11_init_X11 hown hK hP 0 rfl rfl 1 (by decide) (hts (.fieldLink RX11 19 "HoldTwo" "referee" "LHoldTwo$Referee;") (by decide +kernel)) (fun _ h9 => h9) rfl dX11_init_80 ?_
  refine lv_aload_n hx hb dX11_init_83 rfl (lv_at hl 0 rfl) ?_
  refine va_get (D := (dC, dI)) (ci := 11) (v := .ref q_25) (C := RX11) (T := TX11) (N := 16) hx hb hts zi_X11_init_X11 hown hK hP 0 rfl rfl 4 (by decide) (hts (.fieldLink RX11 38 "HoldTwo" "values" "LHoldTwo$Values;") (by decide +kernel)) (fun _ h9 => h9) rfl dX11_init_84 ?_
  have hPc := hP.sub (ws' := [(q_34, .inr (5, [.null, .null, .null, .int 0, .int 0, .long 0]))]) [9] rfl
  have hDc := hD.sub (ws' := [(q_34, .inr (5, [.null, .null, .null, .int 0, .int 0, .long 0]))]) [9] (by decide) rfl
  have hKc := hK.sub (tys' := []) [] rfl
  have hFc := va_free (wc := [(q_34, .inr (5, [.null, .null, .null, .int 0, .int 0, .long 0]))]) hD hS hA [9] rfl
  refine va_callv (va_runI (As := [.ref q_5, .ref q_25]) (rest := [.ref q_34, .ref h0]) ⟨hx, hb, hml, hown, hts⟩ (zk_X5_init l dC dI (q_34) (q_5) (q_25) H.size) (cwI 2 hts gX11_init_X5_init rfl rfl rfl (hts (.initialized RX5) (by decide +kernel)) (hts (.methodLink RX11 51 yX5_init) (by decide +kernel)) (hts (.instanceMethod yX5_init) (by decide +kernel)) rfl (by decide +kernel) ⟨Nat.le_of_ble_eq_true rfl, Nat.le_of_ble_eq_true rfl⟩) ⟨zw_blind, fun U hU hW => ⟨rfl, zw_P.of hPc hKc hDc hN U hU hW⟩⟩ rfl rfl hl.1 rfl (lv_room (Nat.le_of_ble_eq_true rfl)) dX11_init_87 ⟨Nat.le_of_ble_eq_true rfl, Nat.le_of_ble_eq_true rfl⟩) hS (fun q _ h => hFc q h) hFc (fun u t H1 locs ht hvm hw hB hz1 hk1 hS => ?_)
  obtain ⟨q_36, hP1, hK1, hD1⟩ := hB
  rw [ht] at hP1
  obtain ⟨hP, hD⟩ := va_join (wr := [(h0, .inr (11, [.ref q_1, .ref q_5, .ref q_13, .ref q_19, .ref q_25, .ref q_29, .null, .null, .null, .null, .null, .null, .null, .null, .int 0, .int 0])), (q_1, .inr (8, [.ref q_3, .int 0, .int 0, .int (-1)])), (q_3, .inl (k_4, 160, .inl (fun _ => 0))), (q_5, .inr (6, [.ref q_7, .ref q_8, .ref q_9, .ref q_10, .int 0, .int (-1), .int (-1)])), (q_10, .inr (0, [.ref q_11, .ref q_12, .int 0, .int 0, .int 0, .int 0, .int 0])), (q_13, .inr (4, [.ref q_15, .ref q_16, .ref q_17, .ref q_18, .int 0, .int (-1), .int (-1), .int 0])), (q_19, .inr (4, [.ref q_21, .ref q_22, .ref q_23, .ref q_24, .int 0, .int (-1), .int (-1), .int 0])), (q_25, .inr (10, [.ref q_5, .ref q_27, .ref q_28, .ref q_28, .ref q_28, .ref q_28, .ref q_28, .ref q_28, .int 0, .int 0, .int 0, .int 0, .int 0, .int 0, .int 0, .int 0, .int 0, .int 0, .int (-1)])), (q_29, .inr (9, [.ref q_31, .ref q_32, .ref q_33, .int (-1), .int 0]))]) (w1 := [(q_34, .inr (5, [.ref q_5, .ref q_25, .ref q_36, .int 0, .int 0, .long 0]))]) hP hD [9] [0, 1, 2, 3, 4, 5, 6, 7, 8] rfl rfl (by decide) (by decide) hk1 hFc hP1 hD1
  generalize H1 = H at hP hS ⊢
  have hP : va_P (dC, dI) classes [(h0, .inr (11, [.ref q_1, .ref q_5, .ref q_13, .ref q_19, .ref q_25, .ref q_29, .null, .null, .null, .null, .null, .null, .null, .null, .int 0, .int 0])), (q_1, .inr (8, [.ref q_3, .int 0, .int 0, .int (-1)])), (q_3, .inl (k_4, 160, .inl (fun _ => 0))), (q_5, .inr (6, [.ref q_7, .ref q_8, .ref q_9, .ref q_10, .int 0, .int (-1), .int (-1)])), (q_10, .inr (0, [.ref q_11, .ref q_12, .int 0, .int 0, .int 0, .int 0, .int 0])), (q_13, .inr (4, [.ref q_15, .ref q_16, .ref q_17, .ref q_18, .int 0, .int (-1), .int (-1), .int 0])), (q_19, .inr (4, [.ref q_21, .ref q_22, .ref q_23, .ref q_24, .int 0, .int (-1), .int (-1), .int 0])), (q_25, .inr (10, [.ref q_5, .ref q_27, .ref q_28, .ref q_28, .ref q_28, .ref q_28, .ref q_28, .ref q_28, .int 0, .int 0, .int 0, .int 0, .int 0, .int 0, .int 0, .int 0, .int 0, .int 0, .int (-1)])), (q_29, .inr (9, [.ref q_31, .ref q_32, .ref q_33, .int (-1), .int 0])), (q_34, .inr (5, [.ref q_5, .ref q_25, .ref q_36, .int 0, .int 0, .long 0]))] H := hP
  have hD : va_D A [(h0, .inr (11, [.ref q_1, .ref q_5, .ref q_13, .ref q_19, .ref q_25, .ref q_29, .null, .null, .null, .null, .null, .null, .null, .null, .int 0, .int 0])), (q_1, .inr (8, [.ref q_3, .int 0, .int 0, .int (-1)])), (q_3, .inl (k_4, 160, .inl (fun _ => 0))), (q_5, .inr (6, [.ref q_7, .ref q_8, .ref q_9, .ref q_10, .int 0, .int (-1), .int (-1)])), (q_10, .inr (0, [.ref q_11, .ref q_12, .int 0, .int 0, .int 0, .int 0, .int 0])), (q_13, .inr (4, [.ref q_15, .ref q_16, .ref q_17, .ref q_18, .int 0, .int (-1), .int (-1), .int 0])), (q_19, .inr (4, [.ref q_21, .ref q_22, .ref q_23, .ref q_24, .int 0, .int (-1), .int (-1), .int 0])), (q_25, .inr (10, [.ref q_5, .ref q_27, .ref q_28, .ref q_28, .ref q_28, .ref q_28, .ref q_28, .ref q_28, .int 0, .int 0, .int 0, .int 0, .int 0, .int 0, .int 0, .int 0, .int 0, .int 0, .int (-1)])), (q_29, .inr (9, [.ref q_31, .ref q_32, .ref q_33, .int (-1), .int 0])), (q_34, .inr (5, [.ref q_5, .ref q_25, .ref q_36, .int 0, .int 0, .long 0]))] := hD
  refine W.widen (k := 46) (n := 1405) (Nat.le_of_ble_eq_true rfl) (Nat.le_of_ble_eq_true rfl) ?_
  refine va_putF (D := (dC, dI)) (ci := 11) (v := .ref q_34) (ty := .object "HoldTwo$Player") (C := RX11) (T := TX11) (N := 16) hx hb hts zi_X11_init_X11 tyX11 tyX11_ok nmX11 hown hK hP hD hS 0 rfl rfl 6 (by decide) (hts (.fieldLink RX11 54 "HoldTwo" "player" "LHoldTwo$Player;") (by decide +kernel)) (fun _ h9 => h9) rfl hin rfl (by decide +kernel) rfl rfl (Nat.le_of_ble_eq_true rfl) dX11_init_90 (fun H locs hP hD hS => ?_)
  have hP : va_P (dC, dI) classes [(h0, .inr (11, [.ref q_1, .ref q_5, .ref q_13, .ref q_19, .ref q_25, .ref q_29, .ref q_34, .null, .null, .null, .null, .null, .null, .null, .int 0, .int 0])), (q_1, .inr (8, [.ref q_3, .int 0, .int 0, .int (-1)])), (q_3, .inl (k_4, 160, .inl (fun _ => 0))), (q_5, .inr (6, [.ref q_7, .ref q_8, .ref q_9, .ref q_10, .int 0, .int (-1), .int (-1)])), (q_10, .inr (0, [.ref q_11, .ref q_12, .int 0, .int 0, .int 0, .int 0, .int 0])), (q_13, .inr (4, [.ref q_15, .ref q_16, .ref q_17, .ref q_18, .int 0, .int (-1), .int (-1), .int 0])), (q_19, .inr (4, [.ref q_21, .ref q_22, .ref q_23, .ref q_24, .int 0, .int (-1), .int (-1), .int 0])), (q_25, .inr (10, [.ref q_5, .ref q_27, .ref q_28, .ref q_28, .ref q_28, .ref q_28, .ref q_28, .ref q_28, .int 0, .int 0, .int 0, .int 0, .int 0, .int 0, .int 0, .int 0, .int 0, .int 0, .int (-1)])), (q_29, .inr (9, [.ref q_31, .ref q_32, .ref q_33, .int (-1), .int 0])), (q_34, .inr (5, [.ref q_5, .ref q_25, .ref q_36, .int 0, .int 0, .long 0]))] H := hP
  have hD : va_D A [(h0, .inr (11, [.ref q_1, .ref q_5, .ref q_13, .ref q_19, .ref q_25, .ref q_29, .ref q_34, .null, .null, .null, .null, .null, .null, .null, .int 0, .int 0])), (q_1, .inr (8, [.ref q_3, .int 0, .int 0, .int (-1)])), (q_3, .inl (k_4, 160, .inl (fun _ => 0))), (q_5, .inr (6, [.ref q_7, .ref q_8, .ref q_9, .ref q_10, .int 0, .int (-1), .int (-1)])), (q_10, .inr (0, [.ref q_11, .ref q_12, .int 0, .int 0, .int 0, .int 0, .int 0])), (q_13, .inr (4, [.ref q_15, .ref q_16, .ref q_17, .ref q_18, .int 0, .int (-1), .int (-1), .int 0])), (q_19, .inr (4, [.ref q_21, .ref q_22, .ref q_23, .ref q_24, .int 0, .int (-1), .int (-1), .int 0])), (q_25, .inr (10, [.ref q_5, .ref q_27, .ref q_28, .ref q_28, .ref q_28, .ref q_28, .ref q_28, .ref q_28, .int 0, .int 0, .int 0, .int 0, .int 0, .int 0, .int 0, .int 0, .int 0, .int 0, .int (-1)])), (q_29, .inr (9, [.ref q_31, .ref q_32, .ref q_33, .int (-1), .int 0])), (q_34, .inr (5, [.ref q_5, .ref q_25, .ref q_36, .int 0, .int 0, .long 0]))] := hD
  refine lv_aload_n hx hb dX11_init_93 rfl (lv_at hl 0 rfl) ?_
  refine va_new (ci := 7) (fs := [.int 0, .int 0, .int 0]) (C := RX7) (T := TX7) (N := 3) hx hb hts zi_X11_init_X7 tyX7 tyX7_ok hown (hts (.classLink RX11 58 RX7) (by decide +kernel)) (hts (.instantiable RX7 3) (by decide +kernel)) (hts (.initialized RX7) (by decide +kernel)) hK hP hD hS hA rfl zv_X7 (Nat.le_of_ble_eq_true rfl) (Nat.le_of_ble_eq_true rfl) dX11_init_94 (fun q_37 H hP hD hS => ?_)
  have hP : va_P (dC, dI) classes [(h0, .inr (11, [.ref q_1, .ref q_5, .ref q_13, .ref q_19, .ref q_25, .ref q_29, .ref q_34, .null, .null, .null, .null, .null, .null, .null, .int 0, .int 0])), (q_1, .inr (8, [.ref q_3, .int 0, .int 0, .int (-1)])), (q_3, .inl (k_4, 160, .inl (fun _ => 0))), (q_5, .inr (6, [.ref q_7, .ref q_8, .ref q_9, .ref q_10, .int 0, .int (-1), .int (-1)])), (q_10, .inr (0, [.ref q_11, .ref q_12, .int 0, .int 0, .int 0, .int 0, .int 0])), (q_13, .inr (4, [.ref q_15, .ref q_16, .ref q_17, .ref q_18, .int 0, .int (-1), .int (-1), .int 0])), (q_19, .inr (4, [.ref q_21, .ref q_22, .ref q_23, .ref q_24, .int 0, .int (-1), .int (-1), .int 0])), (q_25, .inr (10, [.ref q_5, .ref q_27, .ref q_28, .ref q_28, .ref q_28, .ref q_28, .ref q_28, .ref q_28, .int 0, .int 0, .int 0, .int 0, .int 0, .int 0, .int 0, .int 0, .int 0, .int 0, .int (-1)])), (q_29, .inr (9, [.ref q_31, .ref q_32, .ref q_33, .int (-1), .int 0])), (q_34, .inr (5, [.ref q_5, .ref q_25, .ref q_36, .int 0, .int 0, .long 0])), (q_37, .inr (7, [.int 0, .int 0, .int 0]))] H := hP
  have hD : va_D A [(h0, .inr (11, [.ref q_1, .ref q_5, .ref q_13, .ref q_19, .ref q_25, .ref q_29, .ref q_34, .null, .null, .null, .null, .null, .null, .null, .int 0, .int 0])), (q_1, .inr (8, [.ref q_3, .int 0, .int 0, .int (-1)])), (q_3, .inl (k_4, 160, .inl (fun _ => 0))), (q_5, .inr (6, [.ref q_7, .ref q_8, .ref q_9, .ref q_10, .int 0, .int (-1), .int (-1)])), (q_10, .inr (0, [.ref q_11, .ref q_12, .int 0, .int 0, .int 0, .int 0, .int 0])), (q_13, .inr (4, [.ref q_15, .ref q_16, .ref q_17, .ref q_18, .int 0, .int (-1), .int (-1), .int 0])), (q_19, .inr (4, [.ref q_21, .ref q_22, .ref q_23, .ref q_24, .int 0, .int (-1), .int (-1), .int 0])), (q_25, .inr (10, [.ref q_5, .ref q_27, .ref q_28, .ref q_28, .ref q_28, .ref q_28, .ref q_28, .ref q_28, .int 0, .int 0, .int 0, .int 0, .int 0, .int 0, .int 0, .int 0, .int 0, .int 0, .int (-1)])), (q_29, .inr (9, [.ref q_31, .ref q_32, .ref q_33, .int (-1), .int 0])), (q_34, .inr (5, [.ref q_5, .ref q_25, .ref q_36, .int 0, .int 0, .long 0])), (q_37, .inr (7, [.int 0, .int 0, .int 0]))] := hD
  refine W.widen (k := 47) (n := 1408) (Nat.le_of_ble_eq_true rfl) (Nat.le_of_ble_eq_true rfl) ?_
  refine lv_dup hx hb dX11_init_97 rfl ?_
  have hPc := hP.sub (ws' := []) [] rfl
  have hDc := hD.sub (ws' := []) [] (by decide) rfl
  have hKc := hK.sub (tys' := []) [] rfl
  have hFc := va_free (wc := []) hD hS hA [] rfl
  refine va_callv (va_runIN (As := []) (rest := [.ref q_37, .ref h0]) ⟨hx, hb, hml, hown, hts⟩ (zk_X7_init l dC dI (q_37) H.size) ⟨va_cnB 0 hts gX11_init_X7_init_n60 rfl rfl rfl (hN.1 _ (List.mem_of_getElem? (i := 57) rfl)) (hts (.initialized RX7) (by decide +kernel)) (by decide +kernel) ⟨Nat.le_of_ble_eq_true rfl, Nat.le_of_ble_eq_true rfl⟩, rfl, hts (.instanceMethod yX7_init) (by decide +kernel)⟩ ⟨zw_blind, fun U hU hW => ⟨rfl, zw_P.of hPc hKc hDc hN U hU hW⟩⟩ rfl rfl hl.1 rfl (lv_room (Nat.le_of_ble_eq_true rfl)) dX11_init_98 ⟨Nat.le_of_ble_eq_true rfl, Nat.le_of_ble_eq_true rfl⟩) hS (fun q _ h => hFc q h) hFc (fun u t H1 locs ht hvm hw hB hz1 hk1 hS => ?_)
  obtain ⟨hP1, hK1, hD1⟩ := hB
  rw [ht] at hP1
  obtain ⟨hP, hD⟩ := va_join (wr := [(h0, .inr (11, [.ref q_1, .ref q_5, .ref q_13, .ref q_19, .ref q_25, .ref q_29, .ref q_34, .null, .null, .null, .null, .null, .null, .null, .int 0, .int 0])), (q_1, .inr (8, [.ref q_3, .int 0, .int 0, .int (-1)])), (q_3, .inl (k_4, 160, .inl (fun _ => 0))), (q_5, .inr (6, [.ref q_7, .ref q_8, .ref q_9, .ref q_10, .int 0, .int (-1), .int (-1)])), (q_10, .inr (0, [.ref q_11, .ref q_12, .int 0, .int 0, .int 0, .int 0, .int 0])), (q_13, .inr (4, [.ref q_15, .ref q_16, .ref q_17, .ref q_18, .int 0, .int (-1), .int (-1), .int 0])), (q_19, .inr (4, [.ref q_21, .ref q_22, .ref q_23, .ref q_24, .int 0, .int (-1), .int (-1), .int 0])), (q_25, .inr (10, [.ref q_5, .ref q_27, .ref q_28, .ref q_28, .ref q_28, .ref q_28, .ref q_28, .ref q_28, .int 0, .int 0, .int 0, .int 0, .int 0, .int 0, .int 0, .int 0, .int 0, .int 0, .int (-1)])), (q_29, .inr (9, [.ref q_31, .ref q_32, .ref q_33, .int (-1), .int 0])), (q_34, .inr (5, [.ref q_5, .ref q_25, .ref q_36, .int 0, .int 0, .long 0])), (q_37, .inr (7, [.int 0, .int 0, .int 0]))]) (w1 := []) hP hD [] [0, 1, 2, 3, 4, 5, 6, 7, 8, 9, 10] rfl rfl (by decide) (by decide) hk1 hFc hP1 hD1
  generalize H1 = H at hP hS ⊢
  have hP : va_P (dC, dI) classes [(h0, .inr (11, [.ref q_1, .ref q_5, .ref q_13, .ref q_19, .ref q_25, .ref q_29, .ref q_34, .null, .null, .null, .null, .null, .null, .null, .int 0, .int 0])), (q_1, .inr (8, [.ref q_3, .int 0, .int 0, .int (-1)])), (q_3, .inl (k_4, 160, .inl (fun _ => 0))), (q_5, .inr (6, [.ref q_7, .ref q_8, .ref q_9, .ref q_10, .int 0, .int (-1), .int (-1)])), (q_10, .inr (0, [.ref q_11, .ref q_12, .int 0, .int 0, .int 0, .int 0, .int 0])), (q_13, .inr (4, [.ref q_15, .ref q_16, .ref q_17, .ref q_18, .int 0, .int (-1), .int (-1), .int 0])), (q_19, .inr (4, [.ref q_21, .ref q_22, .ref q_23, .ref q_24, .int 0, .int (-1), .int (-1), .int 0])), (q_25, .inr (10, [.ref q_5, .ref q_27, .ref q_28, .ref q_28, .ref q_28, .ref q_28, .ref q_28, .ref q_28, .int 0, .int 0, .int 0, .int 0, .int 0, .int 0, .int 0, .int 0, .int 0, .int 0, .int (-1)])), (q_29, .inr (9, [.ref q_31, .ref q_32, .ref q_33, .int (-1), .int 0])), (q_34, .inr (5, [.ref q_5, .ref q_25, .ref q_36, .int 0, .int 0, .long 0])), (q_37, .inr (7, [.int 0, .int 0, .int 0]))] H := hP
  have hD : va_D A [(h0, .inr (11, [.ref q_1, .ref q_5, .ref q_13, .ref q_19, .ref q_25, .ref q_29, .ref q_34, .null, .null, .null, .null, .null, .null, .null, .int 0, .int 0])), (q_1, .inr (8, [.ref q_3, .int 0, .int 0, .int (-1)])), (q_3, .inl (k_4, 160, .inl (fun _ => 0))), (q_5, .inr (6, [.ref q_7, .ref q_8, .ref q_9, .ref q_10, .int 0, .int (-1), .int (-1)])), (q_10, .inr (0, [.ref q_11, .ref q_12, .int 0, .int 0, .int 0, .int 0, .int 0])), (q_13, .inr (4, [.ref q_15, .ref q_16, .ref q_17, .ref q_18, .int 0, .int (-1), .int (-1), .int 0])), (q_19, .inr (4, [.ref q_21, .ref q_22, .ref q_23, .ref q_24, .int 0, .int (-1), .int (-1), .int 0])), (q_25, .inr (10, [.ref q_5, .ref q_27, .ref q_28, .ref q_28, .ref q_28, .ref q_28, .ref q_28, .ref q_28, .int 0, .int 0, .int 0, .int 0, .int 0, .int 0, .int 0, .int 0, .int 0, .int 0, .int (-1)])), (q_29, .inr (9, [.ref q_31, .ref q_32, .ref q_33, .int (-1), .int 0])), (q_34, .inr (5, [.ref q_5, .ref q_25, .ref q_36, .int 0, .int 0, .long 0])), (q_37, .inr (7, [.int 0, .int 0, .int 0]))] := hD
  refine va_putF (D := (dC, dI)) (ci := 11) (v := .ref q_37) (ty := .object "HoldTwo$Spot") (C := RX11) (T := TX11) (N := 16) hx hb hts zi_X11_init_X11 tyX11 tyX11_ok nmX11 hown hK hP hD hS 0 rfl rfl 7 (by decide) (hts (.fieldLink RX11 61 "HoldTwo" "now" "LHoldTwo$Spot;") (by decide +kernel)) (fun _ h9 => h9) rfl hin rfl (by decide +kernel) rfl rfl (Nat.le_of_ble_eq_true rfl) dX11_init_101 (fun H locs hP hD hS => ?_)
  have hP : va_P (dC, dI) classes [(h0, .inr (11, [.ref q_1, .ref q_5, .ref q_13, .ref q_19, .ref q_25, .ref q_29, .ref q_34, .ref q_37, .null, .null, .null, .null, .null, .null, .int 0, .int 0])), (q_1, .inr (8, [.ref q_3, .int 0, .int 0, .int (-1)])), (q_3, .inl (k_4, 160, .inl (fun _ => 0))), (q_5, .inr (6, [.ref q_7, .ref q_8, .ref q_9, .ref q_10, .int 0, .int (-1), .int (-1)])), (q_10, .inr (0, [.ref q_11, .ref q_12, .int 0, .int 0, .int 0, .int 0, .int 0])), (q_13, .inr (4, [.ref q_15, .ref q_16, .ref q_17, .ref q_18, .int 0, .int (-1), .int (-1), .int 0])), (q_19, .inr (4, [.ref q_21, .ref q_22, .ref q_23, .ref q_24, .int 0, .int (-1), .int (-1), .int 0])), (q_25, .inr (10, [.ref q_5, .ref q_27, .ref q_28, .ref q_28, .ref q_28, .ref q_28, .ref q_28, .ref q_28, .int 0, .int 0, .int 0, .int 0, .int 0, .int 0, .int 0, .int 0, .int 0, .int 0, .int (-1)])), (q_29, .inr (9, [.ref q_31, .ref q_32, .ref q_33, .int (-1), .int 0])), (q_34, .inr (5, [.ref q_5, .ref q_25, .ref q_36, .int 0, .int 0, .long 0])), (q_37, .inr (7, [.int 0, .int 0, .int 0]))] H := hP
  have hD : va_D A [(h0, .inr (11, [.ref q_1, .ref q_5, .ref q_13, .ref q_19, .ref q_25, .ref q_29, .ref q_34, .ref q_37, .null, .null, .null, .null, .null, .null, .int 0, .int 0])), (q_1, .inr (8, [.ref q_3, .int 0, .int 0, .int (-1)])), (q_3, .inl (k_4, 160, .inl (fun _ => 0))), (q_5, .inr (6, [.ref q_7, .ref q_8, .ref q_9, .ref q_10, .int 0, .int (-1), .int (-1)])), (q_10, .inr (0, [.ref q_11, .ref q_12, .int 0, .int 0, .int 0, .int 0, .int 0])), (q_13, .inr (4, [.ref q_15, .ref q_16, .ref q_17, .ref q_18, .int 0, .int (-1), .int (-1), .int 0])), (q_19, .inr (4, [.ref q_21, .ref q_22, .ref q_23, .ref q_24, .int 0, .int (-1), .int (-1), .int 0])), (q_25, .inr (10, [.ref q_5, .ref q_27, .ref q_28, .ref q_28, .ref q_28, .ref q_28, .ref q_28, .ref q_28, .int 0, .int 0, .int 0, .int 0, .int 0, .int 0, .int 0, .int 0, .int 0, .int 0, .int (-1)])), (q_29, .inr (9, [.ref q_31, .ref q_32, .ref q_33, .int (-1), .int 0])), (q_34, .inr (5, [.ref q_5, .ref q_25, .ref q_36, .int 0, .int 0, .long 0])), (q_37, .inr (7, [.int 0, .int 0, .int 0]))] := hD
  refine lv_aload_n hx hb dX11_init_104 rfl (lv_at hl 0 rfl) ?_
  refine va_new (ci := 7) (fs := [.int 0, .int 0, .int 0]) (C := RX7) (T := TX7) (N := 3) hx hb hts zi_X11_init_X7 tyX7 tyX7_ok hown (hts (.classLink RX11 58 RX7) (by decide +kernel)) (hts (.instantiable RX7 3) (by decide +kernel)) (hts (.initialized RX7) (by decide +kernel)) hK hP hD hS hA rfl zv_X7 (Nat.le_of_ble_eq_true rfl) (Nat.le_of_ble_eq_true rfl) dX11_init_105 (fun q_39 H hP hD hS => ?_)
  have hP : va_P (dC, dI) classes [(h0, .inr (11, [.ref q_1, .ref q_5, .ref q_13, .ref q_19, .ref q_25, .ref q_29, .ref q_34, .ref q_37, .null, .null, .null, .null, .null, .null, .int 0, .int 0])), (q_1, .inr (8, [.ref q_3, .int 0, .int 0, .int (-1)])), (q_3, .inl (k_4, 160, .inl (fun _ => 0))), (q_5, .inr (6, [.ref q_7, .ref q_8, .ref q_9, .ref q_10, .int 0, .int (-1), .int (-1)])), (q_10, .inr (0, [.ref q_11, .ref q_12, .int 0, .int 0, .int 0, .int 0, .int 0])), (q_13, .inr (4, [.ref q_15, .ref q_16, .ref q_17, .ref q_18, .int 0, .int (-1), .int (-1), .int 0])), (q_19, .inr (4, [.ref q_21, .ref q_22, .ref q_23, .ref q_24, .int 0, .int (-1), .int (-1), .int 0])), (q_25, .inr (10, [.ref q_5, .ref q_27, .ref q_28, .ref q_28, .ref q_28, .ref q_28, .ref q_28, .ref q_28, .int 0, .int 0, .int 0, .int 0, .int 0, .int 0, .int 0, .int 0, .int 0, .int 0, .int (-1)])), (q_29, .inr (9, [.ref q_31, .ref q_32, .ref q_33, .int (-1), .int 0])), (q_34, .inr (5, [.ref q_5, .ref q_25, .ref q_36, .int 0, .int 0, .long 0])), (q_37, .inr (7, [.int 0, .int 0, .int 0])), (q_39, .inr (7, [.int 0, .int 0, .int 0]))] H := hP
  have hD : va_D A [(h0, .inr (11, [.ref q_1, .ref q_5, .ref q_13, .ref q_19, .ref q_25, .ref q_29, .ref q_34, .ref q_37, .null, .null, .null, .null, .null, .null, .int 0, .int 0])), (q_1, .inr (8, [.ref q_3, .int 0, .int 0, .int (-1)])), (q_3, .inl (k_4, 160, .inl (fun _ => 0))), (q_5, .inr (6, [.ref q_7, .ref q_8, .ref q_9, .ref q_10, .int 0, .int (-1), .int (-1)])), (q_10, .inr (0, [.ref q_11, .ref q_12, .int 0, .int 0, .int 0, .int 0, .int 0])), (q_13, .inr (4, [.ref q_15, .ref q_16, .ref q_17, .ref q_18, .int 0, .int (-1), .int (-1), .int 0])), (q_19, .inr (4, [.ref q_21, .ref q_22, .ref q_23, .ref q_24, .int 0, .int (-1), .int (-1), .int 0])), (q_25, .inr (10, [.ref q_5, .ref q_27, .ref q_28, .ref q_28, .ref q_28, .ref q_28, .ref q_28, .ref q_28, .int 0, .int 0, .int 0, .int 0, .int 0, .int 0, .int 0, .int 0, .int 0, .int 0, .int (-1)])), (q_29, .inr (9, [.ref q_31, .ref q_32, .ref q_33, .int (-1), .int 0])), (q_34, .inr (5, [.ref q_5, .ref q_25, .ref q_36, .int 0, .int 0, .long 0])), (q_37, .inr (7, [.int 0, .int 0, .int 0])), (q_39, .inr (7, [.int 0, .int 0, .int 0]))] := hD
  refine W.widen (k := 48) (n := 1411) (Nat.le_of_ble_eq_true rfl) (Nat.le_of_ble_eq_true rfl) ?_
  refine lv_dup hx hb dX11_init_108 rfl ?_
  have hPc := hP.sub (ws' := []) [] rfl
  have hDc := hD.sub (ws' := []) [] (by decide) rfl
  have hKc := hK.sub (tys' := []) [] rfl
  have hFc := va_free (wc := []) hD hS hA [] rfl
  refine va_callv (va_runIN (As := []) (rest := [.ref q_39, .ref h0]) ⟨hx, hb, hml, hown, hts⟩ (zk_X7_init l dC dI (q_39) H.size) ⟨va_cnB 0 hts gX11_init_X7_init_n60 rfl rfl rfl (hN.1 _ (List.mem_of_getElem? (i := 57) rfl)) (hts (.initialized RX7) (by decide +kernel)) (by decide +kernel) ⟨Nat.le_of_ble_eq_true rfl, Nat.le_of_ble_eq_true rfl⟩, rfl, hts (.instanceMethod yX7_init) (by decide +kernel)⟩ ⟨zw_blind, fun U hU hW => ⟨rfl, zw_P.of hPc hKc hDc hN U hU hW⟩⟩ rfl rfl hl.1 rfl (lv_room (Nat.le_of_ble_eq_true rfl)) dX11_init_109 ⟨Nat.le_of_ble_eq_true rfl, Nat.le_of_ble_eq_true rfl⟩) hS (fun q _ h => hFc q h) hFc (fun u t H1 locs ht hvm hw hB hz1 hk1 hS => ?_)
  obtain ⟨hP1, hK1, hD1⟩ := hB
  rw [ht] at hP1
  obtain ⟨hP, hD⟩ := va_join (wr := [(h0, .inr (11, [.ref q_1, .ref q_5, .ref q_13, .ref q_19, .ref q_25, .ref q_29, .ref q_34, .ref q_37, .null, .null, .null, .null, .null, .null, .int 0, .int 0])), (q_1, .inr (8, [.ref q_3, .int 0, .int 0, .int (-1)])), (q_3, .inl (k_4, 160, .inl (fun _ => 0))), (q_5, .inr (6, [.ref q_7, .ref q_8, .ref q_9, .ref q_10, .int 0, .int (-1), .int (-1)])), (q_10, .inr (0, [.ref q_11, .ref q_12, .int 0, .int 0, .int 0, .int 0, .int 0])), (q_13, .inr (4, [.ref q_15, .ref q_16, .ref q_17, .ref q_18, .int 0, .int (-1), .int (-1), .int 0])), (q_19, .inr (4, [.ref q_21, .ref q_22, .ref q_23, .ref q_24, .int 0, .int (-1), .int (-1), .int 0])), (q_25, .inr (10, [.ref q_5, .ref q_27, .ref q_28, .ref q_28, .ref q_28, .ref q_28, .ref q_28, .ref q_28, .int 0, .int 0, .int 0, .int 0, .int 0, .int 0, .int 0, .int 0, .int 0, .int 0, .int (-1)])), (q_29, .inr (9, [.ref q_31, .ref q_32, .ref q_33, .int (-1), .int 0])), (q_34, .inr (5, [.ref q_5, .ref q_25, .ref q_36, .int 0, .int 0, .long 0])), (q_37, .inr (7, [.int 0, .int 0, .int 0])), (q_39, .inr (7, [.int 0, .int 0, .int 0]))]) (w1 := []) hP hD [] [0, 1, 2, 3, 4, 5, 6, 7, 8, 9, 10, 11] rfl rfl (by decide) (by decide) hk1 hFc hP1 hD1
  generalize H1 = H at hP hS ⊢
  have hP : va_P (dC, dI) classes [(h0, .inr (11, [.ref q_1, .ref q_5, .ref q_13, .ref q_19, .ref q_25, .ref q_29, .ref q_34, .ref q_37, .null, .null, .null, .null, .null, .null, .int 0, .int 0])), (q_1, .inr (8, [.ref q_3, .int 0, .int 0, .int (-1)])), (q_3, .inl (k_4, 160, .inl (fun _ => 0))), (q_5, .inr (6, [.ref q_7, .ref q_8, .ref q_9, .ref q_10, .int 0, .int (-1), .int (-1)])), (q_10, .inr (0, [.ref q_11, .ref q_12, .int 0, .int 0, .int 0, .int 0, .int 0])), (q_13, .inr (4, [.ref q_15, .ref q_16, .ref q_17, .ref q_18, .int 0, .int (-1), .int (-1), .int 0])), (q_19, .inr (4, [.ref q_21, .ref q_22, .ref q_23, .ref q_24, .int 0, .int (-1), .int (-1), .int 0])), (q_25, .inr (10, [.ref q_5, .ref q_27, .ref q_28, .ref q_28, .ref q_28, .ref q_28, .ref q_28, .ref q_28, .int 0, .int 0, .int 0, .int 0, .int 0, .int 0, .int 0, .int 0, .int 0, .int 0, .int (-1)])), (q_29, .inr (9, [.ref q_31, .ref q_32, .ref q_33, .int (-1), .int 0])), (q_34, .inr (5, [.ref q_5, .ref q_25, .ref q_36, .int 0, .int 0, .long 0])), (q_37, .inr (7, [.int 0, .int 0, .int 0])), (q_39, .inr (7, [.int 0, .int 0, .int 0]))] H := hP
  have hD : va_D A [(h0, .inr (11, [.ref q_1, .ref q_5, .ref q_13, .ref q_19, .ref q_25, .ref q_29, .ref q_34, .ref q_37, .null, .null, .null, .null, .null, .null, .int 0, .int 0])), (q_1, .inr (8, [.ref q_3, .int 0, .int 0, .int (-1)])), (q_3, .inl (k_4, 160, .inl (fun _ => 0))), (q_5, .inr (6, [.ref q_7, .ref q_8, .ref q_9, .ref q_10, .int 0, .int (-1), .int (-1)])), (q_10, .inr (0, [.ref q_11, .ref q_12, .int 0, .int 0, .int 0, .int 0, .int 0])), (q_13, .inr (4, [.ref q_15, .ref q_16, .ref q_17, .ref q_18, .int 0, .int (-1), .int (-1), .int 0])), (q_19, .inr (4, [.ref q_21, .ref q_22, .ref q_23, .ref q_24, .int 0, .int (-1), .int (-1), .int 0])), (q_25, .inr (10, [.ref q_5, .ref q_27, .ref q_28, .ref q_28, .ref q_28, .ref q_28, .ref q_28, .ref q_28, .int 0, .int 0, .int 0, .int 0, .int 0, .int 0, .int 0, .int 0, .int 0, .int 0, .int (-1)])), (q_29, .inr (9, [.ref q_31, .ref q_32, .ref q_33, .int (-1), .int 0])), (q_34, .inr (5, [.ref q_5, .ref q_25, .ref q_36, .int 0, .int 0, .long 0])), (q_37, .inr (7, [.int 0, .int 0, .int 0])), (q_39, .inr (7, [.int 0, .int 0, .int 0]))] := hD
  refine va_putF (D := (dC, dI)) (ci := 11) (v := .ref q_39) (ty := .object "HoldTwo$Spot") (C := RX11) (T := TX11) (N := 16) hx hb hts zi_X11_init_X11 tyX11 tyX11_ok nmX11 hown hK hP hD hS 0 rfl rfl 8 (by decide) (hts (.fieldLink RX11 65 "HoldTwo" "kept" "LHoldTwo$Spot;") (by decide +kernel)) (fun _ h9 => h9) rfl hin rfl (by decide +kernel) rfl rfl (Nat.le_of_ble_eq_true rfl) dX11_init_112 (fun H locs hP hD hS => ?_)
  have hP : va_P (dC, dI) classes [(h0, .inr (11, [.ref q_1, .ref q_5, .ref q_13, .ref q_19, .ref q_25, .ref q_29, .ref q_34, .ref q_37, .ref q_39, .null, .null, .null, .null, .null, .int 0, .int 0])), (q_1, .inr (8, [.ref q_3, .int 0, .int 0, .int (-1)])), (q_3, .inl (k_4, 160, .inl (fun _ => 0))), (q_5, .inr (6, [.ref q_7, .ref q_8, .ref q_9, .ref q_10, .int 0, .int (-1), .int (-1)])), (q_10, .inr (0, [.ref q_11, .ref q_12, .int 0, .int 0, .int 0, .int 0, .int 0])), (q_13, .inr (4, [.ref q_15, .ref q_16, .ref q_17, .ref q_18, .int 0, .int (-1), .int (-1), .int 0])), (q_19, .inr (4, [.ref q_21, .ref q_22, .ref q_23, .ref q_24, .int 0, .int (-1), .int (-1), .int 0])), (q_25, .inr (10, [.ref q_5, .ref q_27, .ref q_28, .ref q_28, .ref q_28, .ref q_28, .ref q_28, .ref q_28, .int 0, .int 0, .int 0, .int 0, .int 0, .int 0, .int 0, .int 0, .int 0, .int 0, .int (-1)])), (q_29, .inr (9, [.ref q_31, .ref q_32, .ref q_33, .int (-1), .int 0])), (q_34, .inr (5, [.ref q_5, .ref q_25, .ref q_36, .int 0, .int 0, .long 0])), (q_37, .inr (7, [.int 0, .int 0, .int 0])), (q_39, .inr (7, [.int 0, .int 0, .int 0]))] H := hP
  have hD : va_D A [(h0, .inr (11, [.ref q_1, .ref q_5, .ref q_13, .ref q_19, .ref q_25, .ref q_29, .ref q_34, .ref q_37, .ref q_39, .null, .null, .null, .null, .null, .int 0, .int 0])), (q_1, .inr (8, [.ref q_3, .int 0, .int 0, .int (-1)])), (q_3, .inl (k_4, 160, .inl (fun _ => 0))), (q_5, .inr (6, [.ref q_7, .ref q_8, .ref q_9, .ref q_10, .int 0, .int (-1), .int (-1)])), (q_10, .inr (0, [.ref q_11, .ref q_12, .int 0, .int 0, .int 0, .int 0, .int 0])), (q_13, .inr (4, [.ref q_15, .ref q_16, .ref q_17, .ref q_18, .int 0, .int (-1), .int (-1), .int 0])), (q_19, .inr (4, [.ref q_21, .ref q_22, .ref q_23, .ref q_24, .int 0, .int (-1), .int (-1), .int 0])), (q_25, .inr (10, [.ref q_5, .ref q_27, .ref q_28, .ref q_28, .ref q_28, .ref q_28, .ref q_28, .ref q_28, .int 0, .int 0, .int 0, .int 0, .int 0, .int 0, .int 0, .int 0, .int 0, .int 0, .int (-1)])), (q_29, .inr (9, [.ref q_31, .ref q_32, .ref q_33, .int (-1), .int 0])), (q_34, .inr (5, [.ref q_5, .ref q_25, .ref q_36, .int 0, .int 0, .long 0])), (q_37, .inr (7, [.int 0, .int 0, .int 0])), (q_39, .inr (7, [.int 0, .int 0, .int 0]))] := hD
  refine lv_aload_n hx hb dX11_init_115 rfl (lv_at hl 0 rfl) ?_
  refine va_new (ci := 7) (fs := [.int 0, .int 0, .int 0]) (C := RX7) (T := TX7) (N := 3) hx hb hts zi_X11_init_X7 tyX7 tyX7_ok hown (hts (.classLink RX11 58 RX7) (by decide +kernel)) (hts (.instantiable RX7 3) (by decide +kernel)) (hts (.initialized RX7) (by decide +kernel)) hK hP hD hS hA rfl zv_X7 (Nat.le_of_ble_eq_true rfl) (Nat.le_of_ble_eq_true rfl) dX11_init_116 (fun q_41 H hP hD hS => ?_)
  have hP : va_P (dC, dI) classes [(h0, .inr (11, [.ref q_1, .ref q_5, .ref q_13, .ref q_19, .ref q_25, .ref q_29, .ref q_34, .ref q_37, .ref q_39, .null, .null, .null, .null, .null, .int 0, .int 0])), (q_1, .inr (8, [.ref q_3, .int 0, .int 0, .int (-1)])), (q_3, .inl (k_4, 160, .inl (fun _ => 0))), (q_5, .inr (6, [.ref q_7, .ref q_8, .ref q_9, .ref q_10, .int 0, .int (-1), .int (-1)])), (q_10, .inr (0, [.ref q_11, .ref q_12, .int 0, .int 0, .int 0, .int 0, .int 0])), (q_13, .inr (4, [.ref q_15, .ref q_16, .ref q_17, .ref q_18, .int 0, .int (-1), .int (-1), .int 0])), (q_19, .inr (4, [.ref q_21, .ref q_22, .ref q_23, .ref q_24, .int 0, .int (-1), .int (-1), .int 0])), (q_25, .inr (10, [.ref q_5, .ref q_27, .ref q_28, .ref q_28, .ref q_28, .ref q_28, .ref q_28, .ref q_28, .int 0, .int 0, .int 0, .int 0, .int 0, .int 0, .int 0, .int 0, .int 0, .int 0, .int (-1)])), (q_29, .inr (9, [.ref q_31, .ref q_32, .ref q_33, .int (-1), .int 0])), (q_34, .inr (5, [.ref q_5, .ref q_25, .ref q_36, .int 0, .int 0, .long 0])), (q_37, .inr (7, [.int 0, .int 0, .int 0])), (q_39, .inr (7, [.int 0, .int 0, .int 0])), (q_41, .inr (7, [.int 0, .int 0, .int 0]))] H := hP
  have hD : va_D A [(h0, .inr (11, [.ref q_1, .ref q_5, .ref q_13, .ref q_19, .ref q_25, .ref q_29, .ref q_34, .ref q_37, .ref q_39, .null, .null, .null, .null, .null, .int 0, .int 0])), (q_1, .inr (8, [.ref q_3, .int 0, .int 0, .int (-1)])), (q_3, .inl (k_4, 160, .inl (fun _ => 0))), (q_5, .inr (6, [.ref q_7, .ref q_8, .ref q_9, .ref q_10, .int 0, .int (-1), .int (-1)])), (q_10, .inr (0, [.ref q_11, .ref q_12, .int 0, .int 0, .int 0, .int 0, .int 0])), (q_13, .inr (4, [.ref q_15, .ref q_16, .ref q_17, .ref q_18, .int 0, .int (-1), .int (-1), .int 0])), (q_19, .inr (4, [.ref q_21, .ref q_22, .ref q_23, .ref q_24, .int 0, .int (-1), .int (-1), .int 0])), (q_25, .inr (10, [.ref q_5, .ref q_27, .ref q_28, .ref q_28, .ref q_28, .ref q_28, .ref q_28, .ref q_28, .int 0, .int 0, .int 0, .int 0, .int 0, .int 0, .int 0, .int 0, .int 0, .int 0, .int (-1)])), (q_29, .inr (9, [.ref q_31, .ref q_32, .ref q_33, .int (-1), .int 0])), (q_34, .inr (5, [.ref q_5, .ref q_25, .ref q_36, .int 0, .int 0, .long 0])), (q_37, .inr (7, [.int 0, .int 0, .int 0])), (q_39, .inr (7, [.int 0, .int 0, .int 0])), (q_41, .inr (7, [.int 0, .int 0, .int 0]))] := hD
  refine W.widen (k := 49) (n := 1414) (Nat.le_of_ble_eq_true rfl) (Nat.le_of_ble_eq_true rfl) ?_
  refine lv_dup hx hb dX11_init_119 rfl ?_
  have hPc := hP.sub (ws' := []) [] rfl
  have hDc := hD.sub (ws' := []) [] (by decide) rfl
  have hKc := hK.sub (tys' := []) [] rfl
  have hFc := va_free (wc := []) hD hS hA [] rfl
  refine va_callv (va_runIN (As := []) (rest := [.ref q_41, .ref h0]) ⟨hx, hb, hml, hown, hts⟩ (zk_X7_init l dC dI (q_41) H.size) ⟨va_cnB 0 hts gX11_init_X7_init_n60 rfl rfl rfl (hN.1 _ (List.mem_of_getElem? (i := 57) rfl)) (hts (.initialized RX7) (by decide +kernel)) (by decide +kernel) ⟨Nat.le_of_ble_eq_true rfl, Nat.le_of_ble_eq_true rfl⟩, rfl, hts (.instanceMethod yX7_init) (by decide +kernel)⟩ ⟨zw_blind, fun U hU hW => ⟨rfl, zw_P.of hPc hKc hDc hN U hU hW⟩⟩ rfl rfl hl.1 rfl (lv_room (Nat.le_of_ble_eq_true rfl)) dX11_init_120 ⟨Nat.le_of_ble_eq_true rfl, Nat.le_of_ble_eq_true rfl⟩) hS (fun q _ h => hFc q h) hFc (fun u t H1 locs ht hvm hw hB hz1 hk1 hS => ?_)
  obtain ⟨hP1, hK1, hD1⟩ := hB
  rw [ht] at hP1
  obtain ⟨hP, hD⟩ := va_join (wr := [(h0, .inr (11, [.ref q_1, .ref q_5, .ref q_13, .ref q_19, .ref q_25, .ref q_29, .ref q_34, .ref q_37, .ref q_39, .null, .null, .null, .null, .null, .int 0, .int 0])), (q_1, .inr (8, [.ref q_3, .int 0, .int 0, .int (-1)])), (q_3, .inl (k_4, 160, .inl (fun _ => 0))), (q_5, .inr (6, [.ref q_7, .ref q_8, .ref q_9, .ref q_10, .int 0, .int (-1), .int (-1)])), (q_10, .inr (0, [.ref q_11, .ref q_12, .int 0, .int 0, .int 0, .int 0, .int 0])), (q_13, .inr (4, [.ref q_15, .ref q_16, .ref q_17, .ref q_18, .int 0, .int (-1), .int (-1), .int 0])), (q_19, .inr (4, [.ref q_21, .ref q_22, .ref q_23, .ref q_24, .int 0, .int (-1), .int (-1), .int 0])), (q_25, .inr (10, [.ref q_5, .ref q_27, .ref q_28, .ref q_28, .ref q_28, .ref q_28, .ref q_28, .ref q_28, .int 0, .int 0, .int 0, .int 0, .int 0, .int 0, .int 0, .int 0, .int 0, .int 0, .int (-1)])), (q_29, .inr (9, [.ref q_31, .ref q_32, .ref q_33, .int (-1), .int 0])), (q_34, .inr (5, [.ref q_5, .ref q_25, .ref q_36, .int 0, .int 0, .long 0])), (q_37, .inr (7, [.int 0, .int 0, .int 0])), (q_39, .inr (7, [.int 0, .int 0, .int 0])), (q_41, .inr (7, [.int 0, .int 0, .int 0]))]) (w1 := []) hP hD [] [0, 1, 2, 3, 4, 5, 6, 7, 8, 9, 10, 11, 12] rfl rfl (by decide) (by decide) hk1 hFc hP1 hD1
  generalize H1 = H at hP hS ⊢
  have hP : va_P (dC, dI) classes [(h0, .inr (11, [.ref q_1, .ref q_5, .ref q_13, .ref q_19, .ref q_25, .ref q_29, .ref q_34, .ref q_37, .ref q_39, .null, .null, .null, .null, .null, .int 0, .int 0])), (q_1, .inr (8, [.ref q_3, .int 0, .int 0, .int (-1)])), (q_3, .inl (k_4, 160, .inl (fun _ => 0))), (q_5, .inr (6, [.ref q_7, .ref q_8, .ref q_9, .ref q_10, .int 0, .int (-1), .int (-1)])), (q_10, .inr (0, [.ref q_11, .ref q_12, .int 0, .int 0, .int 0, .int 0, .int 0])), (q_13, .inr (4, [.ref q_15, .ref q_16, .ref q_17, .ref q_18, .int 0, .int (-1), .int (-1), .int 0])), (q_19, .inr (4, [.ref q_21, .ref q_22, .ref q_23, .ref q_24, .int 0, .int (-1), .int (-1), .int 0])), (q_25, .inr (10, [.ref q_5, .ref q_27, .ref q_28, .ref q_28, .ref q_28, .ref q_28, .ref q_28, .ref q_28, .int 0, .int 0, .int 0, .int 0, .int 0, .int 0, .int 0, .int 0, .int 0, .int 0, .int (-1)])), (q_29, .inr (9, [.ref q_31, .ref q_32, .ref q_33, .int (-1), .int 0])), (q_34, .inr (5, [.ref q_5, .ref q_25, .ref q_36, .int 0, .int 0, .long 0])), (q_37, .inr (7, [.int 0, .int 0, .int 0])), (q_39, .inr (7, [.int 0, .int 0, .int 0])), (q_41, .inr (7, [.int 0, .int 0, .int 0]))] H := hP
  have hD : va_D A [(h0, .inr (11, [.ref q_1, .ref q_5, .ref q_13, .ref q_19, .ref q_25, .ref q_29, .ref q_34, .ref q_37, .ref q_39, .null, .null, .null, .null, .null, .int 0, .int 0])), (q_1, .inr (8, [.ref q_3, .int 0, .int 0, .int (-1)])), (q_3, .inl (k_4, 160, .inl (fun _ => 0))), (q_5, .inr (6, [.ref q_7, .ref q_8, .ref q_9, .ref q_10, .int 0, .int (-1), .int (-1)])), (q_10, .inr (0, [.ref q_11, .ref q_12, .int 0, .int 0, .int 0, .int 0, .int 0])), (q_13, .inr (4, [.ref q_15, .ref q_16, .ref q_17, .ref q_18, .int 0, .int (-1), .int (-1), .int 0])), (q_19, .inr (4, [.ref q_21, .ref q_22, .ref q_23, .ref q_24, .int 0, .int (-1), .int (-1), .int 0])), (q_25, .inr (10, [.ref q_5, .ref q_27, .ref q_28, .ref q_28, .ref q_28, .ref q_28, .ref q_28, .ref q_28, .int 0, .int 0, .int 0, .int 0, .int 0, .int 0, .int 0, .int 0, .int 0, .int 0, .int (-1)])), (q_29, .inr (9, [.ref q_31, .ref q_32, .ref q_33, .int (-1), .int 0])), (q_34, .inr (5, [.ref q_5, .ref q_25, .ref q_36, .int 0, .int 0, .long 0])), (q_37, .inr (7, [.int 0, .int 0, .int 0])), (q_39, .inr (7, [.int 0, .int 0, .int 0])), (q_41, .inr (7, [.int 0, .int 0, .int 0]))] := hD
  refine va_putF (D := (dC, dI)) (ci := 11) (v := .ref q_41) (ty := .object "HoldTwo$Spot") (C := RX11) (T := TX11) (N := 16) hx hb hts zi_X11_init_X11 tyX11 tyX11_ok nmX11 hown hK hP hD hS 0 rfl rfl 9 (by decide) (hts (.fieldLink RX11 68 "HoldTwo" "trial" "LHoldTwo$Spot;") (by decide +kernel)) (fun _ h9 => h9) rfl hin rfl (by decide +kernel) rfl rfl (Nat.le_of_ble_eq_true rfl) dX11_init_123 (fun H locs hP hD hS => ?_)
  have hP : va_P (dC, dI) classes [(h0, .inr (11, [.ref q_1, .ref q_5, .ref q_13, .ref q_19, .ref q_25, .ref q_29, .ref q_34, .ref q_37, .ref q_39, .ref q_41, .null, .null, .null, .null, .int 0, .int 0])), (q_1, .inr (8, [.ref q_3, .int 0, .int 0, .int (-1)])), (q_3, .inl (k_4, 160, .inl (fun _ => 0))), (q_5, .inr (6, [.ref q_7, .ref q_8, .ref q_9, .ref q_10, .int 0, .int (-1), .int (-1)])), (q_10, .inr (0, [.ref q_11, .ref q_12, .int 0, .int 0, .int 0, .int 0, .int 0])), (q_13, .inr (4, [.ref q_15, .ref q_16, .ref q_17, .ref q_18, .int 0, .int (-1), .int (-1), .int 0])), (q_19, .inr (4, [.ref q_21, .ref q_22, .ref q_23, .ref q_24, .int 0, .int (-1), .int (-1), .int 0])), (q_25, .inr (10, [.ref q_5, .ref q_27, .ref q_28, .ref q_28, .ref q_28, .ref q_28, .ref q_28, .ref q_28, .int 0, .int 0, .int 0, .int 0, .int 0, .int 0, .int 0, .int 0, .int 0, .int 0, .int (-1)])), (q_29, .inr (9, [.ref q_31, .ref q_32, .ref q_33, .int (-1), .int 0])), (q_34, .inr (5, [.ref q_5, .ref q_25, .ref q_36, .int 0, .int 0, .long 0])), (q_37, .inr (7, [.int 0, .int 0, .int 0])), (q_39, .inr (7, [.int 0, .int 0, .int 0])), (q_41, .inr (7, [.int 0, .int 0, .int 0]))] H := hP
  have hD : va_D A [(h0, .inr (11, [.ref q_1, .ref q_5, .ref q_13, .ref q_19, .ref q_25, .ref q_29, .ref q_34, .ref q_37, .ref q_39, .ref q_41, .null, .null, .null, .null, .int 0, .int 0])), (q_1, .inr (8, [.ref q_3, .int 0, .int 0, .int (-1)])), (q_3, .inl (k_4, 160, .inl (fun _ => 0))), (q_5, .inr (6, [.ref q_7, .ref q_8, .ref q_9, .ref q_10, .int 0, .int (-1), .int (-1)])), (q_10, .inr (0, [.ref q_11, .ref q_12, .int 0, .int 0, .int 0, .int 0, .int 0])), (q_13, .inr (4, [.ref q_15, .ref q_16, .ref q_17, .ref q_18, .int 0, .int (-1), .int (-1), .int 0])), (q_19, .inr (4, [.ref q_21, .ref q_22, .ref q_23, .ref q_24, .int 0, .int (-1), .int (-1), .int 0])), (q_25, .inr (10, [.ref q_5, .ref q_27, .ref q_28, .ref q_28, .ref q_28, .ref q_28, .ref q_28, .ref q_28, .int 0, .int 0, .int 0, .int 0, .int 0, .int 0, .int 0, .int 0, .int 0, .int 0, .int (-1)])), (q_29, .inr (9, [.ref q_31, .ref q_32, .ref q_33, .int (-1), .int 0])), (q_34, .inr (5, [.ref q_5, .ref q_25, .ref q_36, .int 0, .int 0, .long 0])), (q_37, .inr (7, [.int 0, .int 0, .int 0])), (q_39, .inr (7, [.int 0, .int 0, .int 0])), (q_41, .inr (7, [.int 0, .int 0, .int 0]))] := hD
  refine lv_aload_n hx hb dX11_init_126 rfl (lv_at hl 0 rfl) ?_
  refine va_new (ci := 0) (fs := [.null, .null, .int 0, .int 0, .int 0, .int 0, .int 0]) (C := RX0) (T := TX0) (N := 7) hx hb hts zi_X11_init_X0 tyX0 tyX0_ok hown (hts (.classLink RX11 71 RX0) (by decide +kernel)) (hts (.instantiable RX0 7) (by decide +kernel)) (hts (.initialized RX0) (by decide +kernel)) hK hP hD hS hA rfl zv_X0 (Nat.le_of_ble_eq_true rfl) (Nat.le_of_ble_eq_true rfl) dX11_init_127 (fun q_43 H hP hD hS => ?_)
  have hP : va_P (dC, dI) classes [(h0, .inr (11, [.ref q_1, .ref q_5, .ref q_13, .ref q_19, .ref q_25, .ref q_29, .ref q_34, .ref q_37, .ref q_39, .ref q_41, .null, .null, .null, .null, .int 0, .int 0])), (q_1, .inr (8, [.ref q_3, .int 0, .int 0, .int (-1)])), (q_3, .inl (k_4, 160, .inl (fun _ => 0))), (q_5, .inr (6, [.ref q_7, .ref q_8, .ref q_9, .ref q_10, .int 0, .int (-1), .int (-1)])), (q_10, .inr (0, [.ref q_11, .ref q_12, .int 0, .int 0, .int 0, .int 0, .int 0])), (q_13, .inr (4, [.ref q_15, .ref q_16, .ref q_17, .ref q_18, .int 0, .int (-1), .int (-1), .int 0])), (q_19, .inr (4, [.ref q_21, .ref q_22, .ref q_23, .ref q_24, .int 0, .int (-1), .int (-1), .int 0])), (q_25, .inr (10, [.ref q_5, .ref q_27, .ref q_28, .ref q_28, .ref q_28, .ref q_28, .ref q_28, .ref q_28, .int 0, .int 0, .int 0, .int 0, .int 0, .int 0, .int 0, .int 0, .int 0, .int 0, .int (-1)])), (q_29, .inr (9, [.ref q_31, .ref q_32, .ref q_33, .int (-1), .int 0])), (q_34, .inr (5, [.ref q_5, .ref q_25, .ref q_36, .int 0, .int 0, .long 0])), (q_37, .inr (7, [.int 0, .int 0, .int 0])), (q_39, .inr (7, [.int 0, .int 0, .int 0])), (q_41, .inr (7, [.int 0, .int 0, .int 0])), (q_43, .inr (0, [.null, .null, .int 0, .int 0, .int 0, .int 0, .int 0]))] H := hP
  have hD : va_D A [(h0, .inr (11, [.ref q_1, .ref q_5, .ref q_13, .ref q_19, .ref q_25, .ref q_29, .ref q_34, .ref q_37, .ref q_39, .ref q_41, .null, .null, .null, .null, .int 0, .int 0])), (q_1, .inr (8, [.ref q_3, .int 0, .int 0, .int (-1)])), (q_3, .inl (k_4, 160, .inl (fun _ => 0))), (q_5, .inr (6, [.ref q_7, .ref q_8, .ref q_9, .ref q_10, .int 0, .int (-1), .int (-1)])), (q_10, .inr (0, [.ref q_11, .ref q_12, .int 0, .int 0, .int 0, .int 0, .int 0])), (q_13, .inr (4, [.ref q_15, .ref q_16, .ref q_17, .ref q_18, .int 0, .int (-1), .int (-1), .int 0])), (q_19, .inr (4, [.ref q_21, .ref q_22, .ref q_23, .ref q_24, .int 0, .int (-1), .int (-1), .int 0])), (q_25, .inr (10, [.ref q_5, .ref q_27, .ref q_28, .ref q_28, .ref q_28, .ref q_28, .ref q_28, .ref q_28, .int 0, .int 0, .int 0, .int 0, .int 0, .int 0, .int 0, .int 0, .int 0, .int 0, .int (-1)])), (q_29, .inr (9, [.ref q_31, .ref q_32, .ref q_33, .int (-1), .int 0])), (q_34, .inr (5, [.ref q_5, .ref q_25, .ref q_36, .int 0, .int 0, .long 0])), (q_37, .inr (7, [.int 0, .int 0, .int 0])), (q_39, .inr (7, [.int 0, .int 0, .int 0])), (q_41, .inr (7, [.int 0, .int 0, .int 0])), (q_43, .inr (0, [.null, .null, .int 0, .int 0, .int 0, .int 0, .int 0]))] := hD
  refine W.widen (k := 50) (n := 1421) (Nat.le_of_ble_eq_true rfl) (Nat.le_of_ble_eq_true rfl) ?_
  refine lv_dup hx hb dX11_init_130 rfl ?_
  have hPc := hP.sub (ws' := [(q_43, .inr (0, [.null, .null, .int 0, .int 0, .int 0, .int 0, .int 0]))]) [13] rfl
  have hDc := hD.sub (ws' := [(q_43, .inr (0, [.null, .null, .int 0, .int 0, .int 0, .int 0, .int 0]))]) [13] (by decide) rfl
  have hKc := hK.sub (tys' := []) [] rfl
  have hFc := va_free (wc := [(q_43, .inr (0, [.null, .null, .int 0, .int 0, .int 0, .int 0, .int 0]))]) hD hS hA [13] rfl
  refine va_callv (va_runI (As := []) (rest := [.ref q_43, .ref h0]) ⟨hx, hb, hml, hown, hts⟩ (zk_X0_init l dC dI (q_43) H.size) (cwI 0 hts gX11_init_X0_init rfl rfl rfl (hts (.initialized RX0) (by decide +kernel)) (hts (.methodLink RX11 73 yX0_init) (by decide +kernel)) (hts (.instanceMethod yX0_init) (by decide +kernel)) rfl (by decide +kernel) ⟨Nat.le_of_ble_eq_true rfl, Nat.le_of_ble_eq_true rfl⟩) ⟨zw_blind, fun U hU hW => ⟨rfl, zw_P.of hPc hKc hDc hN U hU hW⟩⟩ rfl rfl hl.1 rfl (lv_room (Nat.le_of_ble_eq_true rfl)) dX11_init_131 ⟨Nat.le_of_ble_eq_true rfl, Nat.le_of_ble_eq_true rfl⟩) hS (fun q _ h => hFc q h) hFc (fun u t H1 locs ht hvm hw hB hz1 hk1 hS => ?_)
  obtain ⟨q_45, q_46, k_47, k_48, hP1, hK1, hD1⟩ := hB
  rw [ht] at hP1
  obtain ⟨hP, hD⟩ := va_join (wr := [(h0, .inr (11, [.ref q_1, .ref q_5, .ref q_13, .ref q_19, .ref q_25, .ref q_29, .ref q_34, .ref q_37, .ref q_39, .ref q_41, .null, .null, .null, .null, .int 0, .int 0])), (q_1, .inr (8, [.ref q_3, .int 0, .int 0, .int (-1)])), (q_3, .inl (k_4, 160, .inl (fun _ => 0))), (q_5, .inr (6, [.ref q_7, .ref q_8, .ref q_9, .ref q_10, .int 0, .int (-1), .int (-1)])), (q_10, .inr (0, [.ref q_11, .ref q_12, .int 0, .int 0, .int 0, .int 0, .int 0])), (q_13, .inr (4, [.ref q_15, .ref q_16, .ref q_17, .ref q_18, .int 0, .int (-1), .int (-1), .int 0])), (q_19, .inr (4, [.ref q_21, .ref q_22, .ref q_23, .ref q_24, .int 0, .int (-1), .int (-1), .int 0])), (q_25, .inr (10, [.ref q_5, .ref q_27, .ref q_28, .ref q_28, .ref q_28, .ref q_28, .ref q_28, .ref q_28, .int 0, .int 0, .int 0, .int 0, .int 0, .int 0, .int 0, .int 0, .int 0, .int 0, .int (-1)])), (q_29, .inr (9, [.ref q_31, .ref q_32, .ref q_33, .int (-1), .int 0])), (q_34, .inr (5, [.ref q_5, .ref q_25, .ref q_36, .int 0, .int 0, .long 0])), (q_37, .inr (7, [.int 0, .int 0, .int 0])), (q_39, .inr (7, [.int 0, .int 0, .int 0])), (q_41, .inr (7, [.int 0, .int 0, .int 0]))]) (w1 := [(q_43, .inr (0, [.ref q_45, .ref q_46, .int 0, .int 0, .int 0, .int 0, .int 0])), (q_45, .inl (k_47, 9, .inl (fun _ => 0))), (q_46, .inl (k_48, 2, .inl (fun _ => 0)))]) hP hD [13] [0, 1, 2, 3, 4, 5, 6, 7, 8, 9, 10, 11, 12] rfl rfl (by decide) (by decide) hk1 hFc hP1 hD1
  have hK := hK.app (va_K.moved hvm.symm hK1)
  have hK : va_K (dC, dI) classes [(k_4, .int), (k_47, .int), (k_48, .int)] s := hK
  generalize H1 = H at hP hS ⊢
  have hP : va_P (dC, dI) classes [(h0, .inr (11, [.ref q_1, .ref q_5, .ref q_13, .ref q_19, .ref q_25, .ref q_29, .ref q_34, .ref q_37, .ref q_39, .ref q_41, .null, .null, .null, .null, .int 0, .int 0])), (q_1, .inr (8, [.ref q_3, .int 0, .int 0, .int (-1)])), (q_3, .inl (k_4, 160, .inl (fun _ => 0))), (q_5, .inr (6, [.ref q_7, .ref q_8, .ref q_9, .ref q_10, .int 0, .int (-1), .int (-1)])), (q_10, .inr (0, [.ref q_11, .ref q_12, .int 0, .int 0, .int 0, .int 0, .int 0])), (q_13, .inr (4, [.ref q_15, .ref q_16, .ref q_17, .ref q_18, .int 0, .int (-1), .int (-1), .int 0])), (q_19, .inr (4, [.ref q_21, .ref q_22, .ref q_23, .ref q_24, .int 0, .int (-1), .int (-1), .int 0])), (q_25, .inr (10, [.ref q_5, .ref q_27, .ref q_28, .ref q_28, .ref q_28, .ref q_28, .ref q_28, .ref q_28, .int 0, .int 0, .int 0, .int 0, .int 0, .int 0, .int 0, .int 0, .int 0, .int 0, .int (-1)])), (q_29, .inr (9, [.ref q_31, .ref q_32, .ref q_33, .int (-1), .int 0])), (q_34, .inr (5, [.ref q_5, .ref q_25, .ref q_36, .int 0, .int 0, .long 0])), (q_37, .inr (7, [.int 0, .int 0, .int 0])), (q_39, .inr (7, [.int 0, .int 0, .int 0])), (q_41, .inr (7, [.int 0, .int 0, .int 0])), (q_43, .inr (0, [.ref q_45, .ref q_46, .int 0, .int 0, .int 0, .int 0, .int 0])), (q_45, .inl (k_47, 9, .inl (fun _ => 0))), (q_46, .inl (k_48, 2, .inl (fun _ => 0)))] H := hP
  have hD : va_D A [(h0, .inr (11, [.ref q_1, .ref q_5, .ref q_13, .ref q_19, .ref q_25, .ref q_29, .ref q_34, .ref q_37, .ref q_39, .ref q_41, .null, .null, .null, .null, .int 0, .int 0])), (q_1, .inr (8, [.ref q_3, .int 0, .int 0, .int (-1)])), (q_3, .inl (k_4, 160, .inl (fun _ => 0))), (q_5, .inr (6, [.ref q_7, .ref q_8, .ref q_9, .ref q_10, .int 0, .int (-1), .int (-1)])), (q_10, .inr (0, [.ref q_11, .ref q_12, .int 0, .int 0, .int 0, .int 0, .int 0])), (q_13, .inr (4, [.ref q_15, .ref q_16, .ref q_17, .ref q_18, .int 0, .int (-1), .int (-1), .int 0])), (q_19, .inr (4, [.ref q_21, .ref q_22, .ref q_23, .ref q_24, .int 0, .int (-1), .int (-1), .int 0])), (q_25, .inr (10, [.ref q_5, .ref q_27, .ref q_28, .ref q_28, .ref q_28, .ref q_28, .ref q_28, .ref q_28, .int 0, .int 0, .int 0, .int 0, .int 0, .int 0, .int 0, .int 0, .int 0, .int 0, .int (-1)])), (q_29, .inr (9, [.ref q_31, .ref q_32, .ref q_33, .int (-1), .int 0])), (q_34, .inr (5, [.ref q_5, .ref q_25, .ref q_36, .int 0, .int 0, .long 0])), (q_37, .inr (7, [.int 0, .int 0, .int 0])), (q_39, .inr (7, [.int 0, .int 0, .int 0])), (q_41, .inr (7, [.int 0, .int 0, .int 0])), (q_43, .inr (0, [.ref q_45, .ref q_46, .int 0, .int 0, .int 0, .int 0, .int 0])), (q_45, .inl (k_47, 9, .inl (fun _ => 0))), (q_46, .inl (k_48, 2, .inl (fun _ => 0)))] := hD
  refine W.widen (k := 52) (n := 1432) (Nat.le_of_ble_eq_true rfl) (Nat.le_of_ble_eq_true rfl) ?_
  refine va_put (D := (dC, dI)) (ci := 11) (v := .ref q_43) (ty := .object "HoldTwo$Game") (C := RX11) (T := TX11) (N := 16) hx hb hts zi_X11_init_X11 tyX11 tyX11_ok nmX11 hown hK hP hD hS 0 rfl rfl 10 (by decide) (hts (.fieldLink RX11 74 "HoldTwo" "spareGame" "LHoldTwo$Game;") (by decide +kernel)) (fun _ h9 => h9) rfl (by decide +kernel) rfl rfl (Nat.le_of_ble_eq_true rfl) dX11_init_134 (fun H locs hP hD hS => ?_)
  have hP : va_P (dC, dI) classes [(h0, .inr (11, [.ref q_1, .ref q_5, .ref q_13, .ref q_19, .ref q_25, .ref q_29, .ref q_34, .ref q_37, .ref q_39, .ref q_41, .ref q_43, .null, .null, .null, .int 0, .int 0])), (q_1, .inr (8, [.ref q_3, .int 0, .int 0, .int (-1)])), (q_3, .inl (k_4, 160, .inl (fun _ => 0))), (q_5, .inr (6, [.ref q_7, .ref q_8, .ref q_9, .ref q_10, .int 0, .int (-1), .int (-1)])), (q_10, .inr (0, [.ref q_11, .ref q_12, .int 0, .int 0, .int 0, .int 0, .int 0])), (q_13, .inr (4, [.ref q_15, .ref q_16, .ref q_17, .ref q_18, .int 0, .int (-1), .int (-1), .int 0])), (q_19, .inr (4, [.ref q_21, .ref q_22, .ref q_23, .ref q_24, .int 0, .int (-1), .int (-1), .int 0])), (q_25, .inr (10, [.ref q_5, .ref q_27, .ref q_28, .ref q_28, .ref q_28, .ref q_28, .ref q_28, .ref q_28, .int 0, .int 0, .int 0, .int 0, .int 0, .int 0, .int 0, .int 0, .int 0, .int 0, .int (-1)])), (q_29, .inr (9, [.ref q_31, .ref q_32, .ref q_33, .int (-1), .int 0])), (q_34, .inr (5, [.ref q_5, .ref q_25, .ref q_36, .int 0, .int 0, .long 0])), (q_37, .inr (7, [.int 0, .int 0, .int 0])), (q_39, .inr (7, [.int 0, .int 0, .int 0])), (q_41, .inr (7, [.int 0, .int 0, .int 0])), (q_43, .inr (0, [.ref q_45, .ref q_46, .int 0, .int 0, .int 0, .int 0, .int 0])), (q_45, .inl (k_47, 9, .inl (fun _ => 0))), (q_46, .inl (k_48, 2, .inl (fun _ => 0)))] H := hP
  have hD : va_D A [(h0, .inr (11, [.ref q_1, .ref q_5, .ref q_13, .ref q_19, .ref q_25, .ref q_29, .ref q_34, .ref q_37, .ref q_39, .ref q_41, .ref q_43, .null, .null, .null, .int 0, .int 0])), (q_1, .inr (8, [.ref q_3, .int 0, .int 0, .int (-1)])), (q_3, .inl (k_4, 160, .inl (fun _ => 0))), (q_5, .inr (6, [.ref q_7, .ref q_8, .ref q_9, .ref q_10, .int 0, .int (-1), .int (-1)])), (q_10, .inr (0, [.ref q_11, .ref q_12, .int 0, .int 0, .int 0, .int 0, .int 0])), (q_13, .inr (4, [.ref q_15, .ref q_16, .ref q_17, .ref q_18, .int 0, .int (-1), .int (-1), .int 0])), (q_19, .inr (4, [.ref q_21, .ref q_22, .ref q_23, .ref q_24, .int 0, .int (-1), .int (-1), .int 0])), (q_25, .inr (10, [.ref q_5, .ref q_27, .ref q_28, .ref q_28, .ref q_28, .ref q_28, .ref q_28, .ref q_28, .int 0, .int 0, .int 0, .int 0, .int 0, .int 0, .int 0, .int 0, .int 0, .int 0, .int (-1)])), (q_29, .inr (9, [.ref q_31, .ref q_32, .ref q_33, .int (-1), .int 0])), (q_34, .inr (5, [.ref q_5, .ref q_25, .ref q_36, .int 0, .int 0, .long 0])), (q_37, .inr (7, [.int 0, .int 0, .int 0])), (q_39, .inr (7, [.int 0, .int 0, .int 0])), (q_41, .inr (7, [.int 0, .int 0, .int 0])), (q_43, .inr (0, [.ref q_45, .ref q_46, .int 0, .int 0, .int 0, .int 0, .int 0])), (q_45, .inl (k_47, 9, .inl (fun _ => 0))), (q_46, .inl (k_48, 2, .inl (fun _ => 0)))] := hD
  refine lv_aload_n hx hb dX11_init_137 rfl (lv_at hl 0 rfl) ?_
  refine va_new (ci := 1) (fs := [.null, .null, .int 0, .int 0]) (C := RX1) (T := TX1) (N := 4) hx hb hts zi_X11_init_X1 tyX1 tyX1_ok hown (hts (.classLink RX11 78 RX1) (by decide +kernel)) (hts (.instantiable RX1 4) (by decide +kernel)) (hts (.initialized RX1) (by decide +kernel)) hK hP hD hS hA rfl zv_X1 (Nat.le_of_ble_eq_true rfl) (Nat.le_of_ble_eq_true rfl) dX11_init_138 (fun q_49 H hP hD hS => ?_)
  have hP : va_P (dC, dI) classes [(h0, .inr (11, [.ref q_1, .ref q_5, .ref q_13, .ref q_19, .ref q_25, .ref q_29, .ref q_34, .ref q_37, .ref q_39, .ref q_41, .ref q_43, .null, .null, .null, .int 0, .int 0])), (q_1, .inr (8, [.ref q_3, .int 0, .int 0, .int (-1)])), (q_3, .inl (k_4, 160, .inl (fun _ => 0))), (q_5, .inr (6, [.ref q_7, .ref q_8, .ref q_9, .ref q_10, .int 0, .int (-1), .int (-1)])), (q_10, .inr (0, [.ref q_11, .ref q_12, .int 0, .int 0, .int 0, .int 0, .int 0])), (q_13, .inr (4, [.ref q_15, .ref q_16, .ref q_17, .ref q_18, .int 0, .int (-1), .int (-1), .int 0])), (q_19, .inr (4, [.ref q_21, .ref q_22, .ref q_23, .ref q_24, .int 0, .int (-1), .int (-1), .int 0])), (q_25, .inr (10, [.ref q_5, .ref q_27, .ref q_28, .ref q_28, .ref q_28, .ref q_28, .ref q_28, .ref q_28, .int 0, .int 0, .int 0, .int 0, .int 0, .int 0, .int 0, .int 0, .int 0, .int 0, .int (-1)])), (q_29, .inr (9, [.ref q_31, .ref q_32, .ref q_33, .int (-1), .int 0])), (q_34, .inr (5, [.ref q_5, .ref q_25, .ref q_36, .int 0, .int 0, .long 0])), (q_37, .inr (7, [.int 0, .int 0, .int 0])), (q_39, .inr (7, [.int 0, .int 0, .int 0])), (q_41, .inr (7, [.int 0, .int 0, .int 0])), (q_43, .inr (0, [.ref q_45, .ref q_46, .int 0, .int 0, .int 0, .int 0, .int 0])), (q_45, .inl (k_47, 9, .inl (fun _ => 0))), (q_46, .inl (k_48, 2, .inl (fun _ => 0))), (q_49, .inr (1, [.null, .null, .int 0, .int 0]))] H := hP
  have hD : va_D A [(h0, .inr (11, [.ref q_1, .ref q_5, .ref q_13, .ref q_19, .ref q_25, .ref q_29, .ref q_34, .ref q_37, .ref q_39, .ref q_41, .ref q_43, .null, .null, .null, .int 0, .int 0])), (q_1, .inr (8, [.ref q_3, .int 0, .int 0, .int (-1)])), (q_3, .inl (k_4, 160, .inl (fun _ => 0))), (q_5, .inr (6, [.ref q_7, .ref q_8, .ref q_9, .ref q_10, .int 0, .int (-1), .int (-1)])), (q_10, .inr (0, [.ref q_11, .ref q_12, .int 0, .int 0, .int 0, .int 0, .int 0])), (q_13, .inr (4, [.ref q_15, .ref q_16, .ref q_17, .ref q_18, .int 0, .int (-1), .int (-1), .int 0])), (q_19, .inr (4, [.ref q_21, .ref q_22, .ref q_23, .ref q_24, .int 0, .int (-1), .int (-1), .int 0])), (q_25, .inr (10, [.ref q_5, .ref q_27, .ref q_28, .ref q_28, .ref q_28, .ref q_28, .ref q_28, .ref q_28, .int 0, .int 0, .int 0, .int 0, .int 0, .int 0, .int 0, .int 0, .int 0, .int 0, .int (-1)])), (q_29, .inr (9, [.ref q_31, .ref q_32, .ref q_33, .int (-1), .int 0])), (q_34, .inr (5, [.ref q_5, .ref q_25, .ref q_36, .int 0, .int 0, .long 0])), (q_37, .inr (7, [.int 0, .int 0, .int 0])), (q_39, .inr (7, [.int 0, .int 0, .int 0])), (q_41, .inr (7, [.int 0, .int 0, .int 0])), (q_43, .inr (0, [.ref q_45, .ref q_46, .int 0, .int 0, .int 0, .int 0, .int 0])), (q_45, .inl (k_47, 9, .inl (fun _ => 0))), (q_46, .inl (k_48, 2, .inl (fun _ => 0))), (q_49, .inr (1, [.null, .null, .int 0, .int 0]))] := hD
  refine W.widen (k := 53) (n := 1436) (Nat.le_of_ble_eq_true rfl) (Nat.le_of_ble_eq_true rfl) ?_
  refine lv_dup hx hb dX11_init_141 rfl ?_
  have hPc := hP.sub (ws' := [(q_49, .inr (1, [.null, .null, .int 0, .int 0]))]) [16] rfl
  have hDc := hD.sub (ws' := [(q_49, .inr (1, [.null, .null, .int 0, .int 0]))]) [16] (by decide) rfl
  have hKc := hK.sub (tys' := []) [] rfl
  have hFc := va_free (wc := [(q_49, .inr (1, [.null, .null, .int 0, .int 0]))]) hD hS hA [16] rfl
  refine va_callv (va_runI (As := []) (rest := [.ref q_49, .ref h0]) ⟨hx, hb, hml, hown, hts⟩ (zk_X1_init l dC dI (q_49) H.size) (cwI 0 hts gX11_init_X1_init rfl rfl rfl (hts (.initialized RX1) (by decide +kernel)) (hts (.methodLink RX11 80 yX1_init) (by decide +kernel)) (hts (.instanceMethod yX1_init) (by decide +kernel)) rfl (by decide +kernel) ⟨Nat.le_of_ble_eq_true rfl, Nat.le_of_ble_eq_true rfl⟩) ⟨zw_blind, fun U hU hW => ⟨rfl, zw_P.of hPc hKc hDc hN U hU hW⟩⟩ rfl rfl hl.1 rfl (lv_room (Nat.le_of_ble_eq_true rfl)) dX11_init_142 ⟨Nat.le_of_ble_eq_true rfl, Nat.le_of_ble_eq_true rfl⟩) hS (fun q _ h => hFc q h) hFc (fun u t H1 locs ht hvm hw hB hz1 hk1 hS => ?_)
  obtain ⟨q_51, q_52, k_53, hP1, hK1, hD1⟩ := hB
  rw [ht] at hP1
  obtain ⟨hP, hD⟩ := va_join (wr := [(h0, .inr (11, [.ref q_1, .ref q_5, .ref q_13, .ref q_19, .ref q_25, .ref q_29, .ref q_34, .ref q_37, .ref q_39, .ref q_41, .ref q_43, .null, .null, .null, .int 0, .int 0])), (q_1, .inr (8, [.ref q_3, .int 0, .int 0, .int (-1)])), (q_3, .inl (k_4, 160, .inl (fun _ => 0))), (q_5, .inr (6, [.ref q_7, .ref q_8, .ref q_9, .ref q_10, .int 0, .int (-1), .int (-1)])), (q_10, .inr (0, [.ref q_11, .ref q_12, .int 0, .int 0, .int 0, .int 0, .int 0])), (q_13, .inr (4, [.ref q_15, .ref q_16, .ref q_17, .ref q_18, .int 0, .int (-1), .int (-1), .int 0])), (q_19, .inr (4, [.ref q_21, .ref q_22, .ref q_23, .ref q_24, .int 0, .int (-1), .int (-1), .int 0])), (q_25, .inr (10, [.ref q_5, .ref q_27, .ref q_28, .ref q_28, .ref q_28, .ref q_28, .ref q_28, .ref q_28, .int 0, .int 0, .int 0, .int 0, .int 0, .int 0, .int 0, .int 0, .int 0, .int 0, .int (-1)])), (q_29, .inr (9, [.ref q_31, .ref q_32, .ref q_33, .int (-1), .int 0])), (q_34, .inr (5, [.ref q_5, .ref q_25, .ref q_36, .int 0, .int 0, .long 0])), (q_37, .inr (7, [.int 0, .int 0, .int 0])), (q_39, .inr (7, [.int 0, .int 0, .int 0])), (q_41, .inr (7, [.int 0, .int 0, .int 0])), (q_43, .inr (0, [.ref q_45, .ref q_46, .int 0, .int 0, .int 0, .int 0, .int 0])), (q_45, .inl (k_47, 9, .inl (fun _ => 0))), (q_46, .inl (k_48, 2, .inl (fun _ => 0)))]) (w1 := [(q_49, .inr (1, [.ref q_51, .ref q_52, .int 0, .int 0])), (q_51, .inl (k_53, 160, .inl (fun _ => 0)))]) hP hD [16] [0, 1, 2, 3, 4, 5, 6, 7, 8, 9, 10, 11, 12, 13, 14, 15] rfl rfl (by decide) (by decide) hk1 hFc hP1 hD1
  have hK := hK.app (va_K.moved hvm.symm hK1)
  have hK : va_K (dC, dI) classes [(k_4, .int), (k_47, .int), (k_48, .int), (k_53, .int)] s := hK
  generalize H1 = H at hP hS ⊢
  have hP : va_P (dC, dI) classes [(h0, .inr (11, [.ref q_1, .ref q_5, .ref q_13, .ref q_19, .ref q_25, .ref q_29, .ref q_34, .ref q_37, .ref q_39, .ref q_41, .ref q_43, .null, .null, .null, .int 0, .int 0])), (q_1, .inr (8, [.ref q_3, .int 0, .int 0, .int (-1)])), (q_3, .inl (k_4, 160, .inl (fun _ => 0))), (q_5, .inr (6, [.ref q_7, .ref q_8, .ref q_9, .ref q_10, .int 0, .int (-1), .int (-1)])), (q_10, .inr (0, [.ref q_11, .ref q_12, .int 0, .int 0, .int 0, .int 0, .int 0])), (q_13, .inr (4, [.ref q_15, .ref q_16, .ref q_17, .ref q_18, .int 0, .int (-1), .int (-1), .int 0])), (q_19, .inr (4, [.ref q_21, .ref q_22, .ref q_23, .ref q_24, .int 0, .int (-1), .int (-1), .int 0])), (q_25, .inr (10, [.ref q_5, .ref q_27, .ref q_28, .ref q_28, .ref q_28, .ref q_28, .ref q_28, .ref q_28, .int 0, .int 0, .int 0, .int 0, .int 0, .int 0, .int 0, .int 0, .int 0, .int 0, .int (-1)])), (q_29, .inr (9, [.ref q_31, .ref q_32, .ref q_33, .int (-1), .int 0])), (q_34, .inr (5, [.ref q_5, .ref q_25, .ref q_36, .int 0, .int 0, .long 0])), (q_37, .inr (7, [.int 0, .int 0, .int 0])), (q_39, .inr (7, [.int 0, .int 0, .int 0])), (q_41, .inr (7, [.int 0, .int 0, .int 0])), (q_43, .inr (0, [.ref q_45, .ref q_46, .int 0, .int 0, .int 0, .int 0, .int 0])), (q_45, .inl (k_47, 9, .inl (fun _ => 0))), (q_46, .inl (k_48, 2, .inl (fun _ => 0))), (q_49, .inr (1, [.ref q_51, .ref q_52, .int 0, .int 0])), (q_51, .inl (k_53, 160, .inl (fun _ => 0)))] H := hP
  have hD : va_D A [(h0, .inr (11, [.ref q_1, .ref q_5, .ref q_13, .ref q_19, .ref q_25, .ref q_29, .ref q_34, .ref q_37, .ref q_39, .ref q_41, .ref q_43, .null, .null, .null, .int 0, .int 0])), (q_1, .inr (8, [.ref q_3, .int 0, .int 0, .int (-1)])), (q_3, .inl (k_4, 160, .inl (fun _ => 0))), (q_5, .inr (6, [.ref q_7, .ref q_8, .ref q_9, .ref q_10, .int 0, .int (-1), .int (-1)])), (q_10, .inr (0, [.ref q_11, .ref q_12, .int 0, .int 0, .int 0, .int 0, .int 0])), (q_13, .inr (4, [.ref q_15, .ref q_16, .ref q_17, .ref q_18, .int 0, .int (-1), .int (-1), .int 0])), (q_19, .inr (4, [.ref q_21, .ref q_22, .ref q_23, .ref q_24, .int 0, .int (-1), .int (-1), .int 0])), (q_25, .inr (10, [.ref q_5, .ref q_27, .ref q_28, .ref q_28, .ref q_28, .ref q_28, .ref q_28, .ref q_28, .int 0, .int 0, .int 0, .int 0, .int 0, .int 0, .int 0, .int 0, .int 0, .int 0, .int (-1)])), (q_29, .inr (9, [.ref q_31, .ref q_32, .ref q_33, .int (-1), .int 0])), (q_34, .inr (5, [.ref q_5, .ref q_25, .ref q_36, .int 0, .int 0, .long 0])), (q_37, .inr (7, [.int 0, .int 0, .int 0])), (q_39, .inr (7, [.int 0, .int 0, .int 0])), (q_41, .inr (7, [.int 0, .int 0, .int 0])), (q_43, .inr (0, [.ref q_45, .ref q_46, .int 0, .int 0, .int 0, .int 0, .int 0])), (q_45, .inl (k_47, 9, .inl (fun _ => 0))), (q_46, .inl (k_48, 2, .inl (fun _ => 0))), (q_49, .inr (1, [.ref q_51, .ref q_52, .int 0, .int 0])), (q_51, .inl (k_53, 160, .inl (fun _ => 0)))] := hD
  refine W.widen (k := 55) (n := 1660) (Nat.le_of_ble_eq_true rfl) (Nat.le_of_ble_eq_true rfl) ?_
  refine va_put (D := (dC, dI)) (ci := 11) (v := .ref q_49) (ty := .object "HoldTwo$Law") (C := RX11) (T := TX11) (N := 16) hx hb hts zi_X11_init_X11 tyX11 tyX11_ok nmX11 hown hK hP hD hS 0 rfl rfl 11 (by decide) (hts (.fieldLink RX11 81 "HoldTwo" "spareLaw" "LHoldTwo$Law;") (by decide +kernel)) (fun _ h9 => h9) rfl (by decide +kernel) rfl rfl (Nat.le_of_ble_eq_true rfl) dX11_init_145 (fun H locs hP hD hS => ?_)
  have hP : va_P (dC, dI) classes [(h0, .inr (11, [.ref q_1, .ref q_5, .ref q_13, .ref q_19, .ref q_25, .ref q_29, .ref q_34, .ref q_37, .ref q_39, .ref q_41, .ref q_43, .ref q_49, .null, .null, .int 0, .int 0])), (q_1, .inr (8, [.ref q_3, .int 0, .int 0, .int (-1)])), (q_3, .inl (k_4, 160, .inl (fun _ => 0))), (q_5, .inr (6, [.ref q_7, .ref q_8, .ref q_9, .ref q_10, .int 0, .int (-1), .int (-1)])), (q_10, .inr (0, [.ref q_11, .ref q_12, .int 0, .int 0, .int 0, .int 0, .int 0])), (q_13, .inr (4, [.ref q_15, .ref q_16, .ref q_17, .ref q_18, .int 0, .int (-1), .int (-1), .int 0])), (q_19, .inr (4, [.ref q_21, .ref q_22, .ref q_23, .ref q_24, .int 0, .int (-1), .int (-1), .int 0])), (q_25, .inr (10, [.ref q_5, .ref q_27, .ref q_28, .ref q_28, .ref q_28, .ref q_28, .ref q_28, .ref q_28, .int 0, .int 0, .int 0, .int 0, .int 0, .int 0, .int 0, .int 0, .int 0, .int 0, .int (-1)])), (q_29, .inr (9, [.ref q_31, .ref q_32, .ref q_33, .int (-1), .int 0])), (q_34, .inr (5, [.ref q_5, .ref q_25, .ref q_36, .int 0, .int 0, .long 0])), (q_37, .inr (7, [.int 0, .int 0, .int 0])), (q_39, .inr (7, [.int 0, .int 0, .int 0])), (q_41, .inr (7, [.int 0, .int 0, .int 0])), (q_43, .inr (0, [.ref q_45, .ref q_46, .int 0, .int 0, .int 0, .int 0, .int 0])), (q_45, .inl (k_47, 9, .inl (fun _ => 0))), (q_46, .inl (k_48, 2, .inl (fun _ => 0))), (q_49, .inr (1, [.ref q_51, .ref q_52, .int 0, .int 0])), (q_51, .inl (k_53, 160, .inl (fun _ => 0)))] H := hP
  have hD : va_D A [(h0, .inr (11, [.ref q_1, .ref q_5, .ref q_13, .ref q_19, .ref q_25, .ref q_29, .ref q_34, .ref q_37, .ref q_39, .ref q_41, .ref q_43, .ref q_49, .null, .null, .int 0, .int 0])), (q_1, .inr (8, [.ref q_3, .int 0, .int 0, .int (-1)])), (q_3, .inl (k_4, 160, .inl (fun _ => 0))), (q_5, .inr (6, [.ref q_7, .ref q_8, .ref q_9, .ref q_10, .int 0, .int (-1), .int (-1)])), (q_10, .inr (0, [.ref q_11, .ref q_12, .int 0, .int 0, .int 0, .int 0, .int 0])), (q_13, .inr (4, [.ref q_15, .ref q_16, .ref q_17, .ref q_18, .int 0, .int (-1), .int (-1), .int 0])), (q_19, .inr (4, [.ref q_21, .ref q_22, .ref q_23, .ref q_24, .int 0, .int (-1), .int (-1), .int 0])), (q_25, .inr (10, [.ref q_5, .ref q_27, .ref q_28, .ref q_28, .ref q_28, .ref q_28, .ref q_28, .ref q_28, .int 0, .int 0, .int 0, .int 0, .int 0, .int 0, .int 0, .int 0, .int 0, .int 0, .int (-1)])), (q_29, .inr (9, [.ref q_31, .ref q_32, .ref q_33, .int (-1), .int 0])), (q_34, .inr (5, [.ref q_5, .ref q_25, .ref q_36, .int 0, .int 0, .long 0])), (q_37, .inr (7, [.int 0, .int 0, .int 0])), (q_39, .inr (7, [.int 0, .int 0, .int 0])), (q_41, .inr (7, [.int 0, .int 0, .int 0])), (q_43, .inr (0, [.ref q_45, .ref q_46, .int 0, .int 0, .int 0, .int 0, .int 0])), (q_45, .inl (k_47, 9, .inl (fun _ => 0))), (q_46, .inl (k_48, 2, .inl (fun _ => 0))), (q_49, .inr (1, [.ref q_51, .ref q_52, .int 0, .int 0])), (q_51, .inl (k_53, 160, .inl (fun _ => 0)))] := hD
  refine lv_aload_n hx hb dX11_init_148 rfl (lv_at hl 0 rfl) ?_
  refine va_new (ci := 2) (fs := [.null, .null, .null, .int 0]) (C := RX2) (T := TX2) (N := 4) hx hb hts zi_X11_init_X2 tyX2 tyX2_ok hown (hts (.classLink RX11 85 RX2) (by decide +kernel)) (hts (.instantiable RX2 4) (by decide +kernel)) (hts (.initialized RX2) (by decide +kernel)) hK hP hD hS hA rfl zv_X2 (Nat.le_of_ble_eq_true rfl) (Nat.le_of_ble_eq_true rfl) dX11_init_149 (fun q_54 H hP hD hS => ?_)
  have hP : va_P (dC, dI) classes [(h0, .inr (11, [.ref q_1, .ref q_5, .ref q_13, .ref q_19, .ref q_25, .ref q_29, .ref q_34, .ref q_37, .ref q_39, .ref q_41, .ref q_43, .ref q_49, .null, .null, .int 0, .int 0])), (q_1, .inr (8, [.ref q_3, .int 0, .int 0, .int (-1)])), (q_3, .inl (k_4, 160, .inl (fun _ => 0))), (q_5, .inr (6, [.ref q_7, .ref q_8, .ref q_9, .ref q_10, .int 0, .int (-1), .int (-1)])), (q_10, .inr (0, [.ref q_11, .ref q_12, .int 0, .int 0, .int 0, .int 0, .int 0])), (q_13, .inr (4, [.ref q_15, .ref q_16, .ref q_17, .ref q_18, .int 0, .int (-1), .int (-1), .int 0])), (q_19, .inr (4, [.ref q_21, .ref q_22, .ref q_23, .ref q_24, .int 0, .int (-1), .int (-1), .int 0])), (q_25, .inr (10, [.ref q_5, .ref q_27, .ref q_28, .ref q_28, .ref q_28, .ref q_28, .ref q_28, .ref q_28, .int 0, .int 0, .int 0, .int 0, .int 0, .int 0, .int 0, .int 0, .int 0, .int 0, .int (-1)])), (q_29, .inr (9, [.ref q_31, .ref q_32, .ref q_33, .int (-1), .int 0])), (q_34, .inr (5, [.ref q_5, .ref q_25, .ref q_36, .int 0, .int 0, .long 0])), (q_37, .inr (7, [.int 0, .int 0, .int 0])), (q_39, .inr (7, [.int 0, .int 0, .int 0])), (q_41, .inr (7, [.int 0, .int 0, .int 0])), (q_43, .inr (0, [.ref q_45, .ref q_46, .int 0, .int 0, .int 0, .int 0, .int 0])), (q_45, .inl (k_47, 9, .inl (fun _ => 0))), (q_46, .inl (k_48, 2, .inl (fun _ => 0))), (q_49, .inr (1, [.ref q_51, .ref q_52, .int 0, .int 0])), (q_51, .inl (k_53, 160, .inl (fun _ => 0))), (q_54, .inr (2, [.null, .null, .null, .int 0]))] H := hP
  have hD : va_D A [(h0, .inr (11, [.ref q_1, .ref q_5, .ref q_13, .ref q_19, .ref q_25, .ref q_29, .ref q_34, .ref q_37, .ref q_39, .ref q_41, .ref q_43, .ref q_49, .null, .null, .int 0, .int 0])), (q_1, .inr (8, [.ref q_3, .int 0, .int 0, .int (-1)])), (q_3, .inl (k_4, 160, .inl (fun _ => 0))), (q_5, .inr (6, [.ref q_7, .ref q_8, .ref q_9, .ref q_10, .int 0, .int (-1), .int (-1)])), (q_10, .inr (0, [.ref q_11, .ref q_12, .int 0, .int 0, .int 0, .int 0, .int 0])), (q_13, .inr (4, [.ref q_15, .ref q_16, .ref q_17, .ref q_18, .int 0, .int (-1), .int (-1), .int 0])), (q_19, .inr (4, [.ref q_21, .ref q_22, .ref q_23, .ref q_24, .int 0, .int (-1), .int (-1), .int 0])), (q_25, .inr (10, [.ref q_5, .ref q_27, .ref q_28, .ref q_28, .ref q_28, .ref q_28, .ref q_28, .ref q_28, .int 0, .int 0, .int 0, .int 0, .int 0, .int 0, .int 0, .int 0, .int 0, .int 0, .int (-1)])), (q_29, .inr (9, [.ref q_31, .ref q_32, .ref q_33, .int (-1), .int 0])), (q_34, .inr (5, [.ref q_5, .ref q_25, .ref q_36, .int 0, .int 0, .long 0])), (q_37, .inr (7, [.int 0, .int 0, .int 0])), (q_39, .inr (7, [.int 0, .int 0, .int 0])), (q_41, .inr (7, [.int 0, .int 0, .int 0])), (q_43, .inr (0, [.ref q_45, .ref q_46, .int 0, .int 0, .int 0, .int 0, .int 0])), (q_45, .inl (k_47, 9, .inl (fun _ => 0))), (q_46, .inl (k_48, 2, .inl (fun _ => 0))), (q_49, .inr (1, [.ref q_51, .ref q_52, .int 0, .int 0])), (q_51, .inl (k_53, 160, .inl (fun _ => 0))), (q_54, .inr (2, [.null, .null, .null, .int 0]))] := hD
  refine W.widen (k := 56) (n := 1664) (Nat.le_of_ble_eq_true rfl) (Nat.le_of_ble_eq_true rfl) ?_
  refine lv_dup hx hb dX11_init_152 rfl ?_
  have hPc := hP.sub (ws' := [(q_54, .inr (2, [.null, .null, .null, .int 0]))]) [18] rfl
  have hDc := hD.sub (ws' := [(q_54, .inr (2, [.null, .null, .null, .int 0]))]) [18] (by decide) rfl
  have hKc := hK.sub (tys' := []) [] rfl
  have hFc := va_free (wc := [(q_54, .inr (2, [.null, .null, .null, .int 0]))]) hD hS hA [18] rfl
  refine va_callv (va_runI (As := []) (rest := [.ref q_54, .ref h0]) ⟨hx, hb, hml, hown, hts⟩ (zk_X2_init l dC dI (q_54) H.size) (cwI 0 hts gX11_init_X2_init rfl rfl rfl (hts (.initialized RX2) (by decide +kernel)) (hts (.methodLink RX11 87 yX2_init) (by decide +kernel)) (hts (.instanceMethod yX2_init) (by decide +kernel)) rfl (by decide +kernel) ⟨Nat.le_of_ble_eq_true rfl, Nat.le_of_ble_eq_true rfl⟩) ⟨zw_blind, fun U hU hW => ⟨rfl, zw_P.of hPc hKc hDc hN U hU hW⟩⟩ rfl rfl hl.1 rfl (lv_room (Nat.le_of_ble_eq_true rfl)) dX11_init_153 ⟨Nat.le_of_ble_eq_true rfl, Nat.le_of_ble_eq_true rfl⟩) hS (fun q _ h => hFc q h) hFc (fun u t H1 locs ht hvm hw hB hz1 hk1 hS => ?_)
  obtain ⟨q_56, q_57, q_58, k_59, k_60, k_61, hP1, hK1, hD1⟩ := hB
  rw [ht] at hP1
  obtain ⟨hP, hD⟩ := va_join (wr := [(h0, .inr (11, [.ref q_1, .ref q_5, .ref q_13, .ref q_19, .ref q_25, .ref q_29, .ref q_34, .ref q_37, .ref q_39, .ref q_41, .ref q_43, .ref q_49, .null, .null, .int 0, .int 0])), (q_1, .inr (8, [.ref q_3, .int 0, .int 0, .int (-1)])), (q_3, .inl (k_4, 160, .inl (fun _ => 0))), (q_5, .inr (6, [.ref q_7, .ref q_8, .ref q_9, .ref q_10, .int 0, .int (-1), .int (-1)])), (q_10, .inr (0, [.ref q_11, .ref q_12, .int 0, .int 0, .int 0, .int 0, .int 0])), (q_13, .inr (4, [.ref q_15, .ref q_16, .ref q_17, .ref q_18, .int 0, .int (-1), .int (-1), .int 0])), (q_19, .inr (4, [.ref q_21, .ref q_22, .ref q_23, .ref q_24, .int 0, .int (-1), .int (-1), .int 0])), (q_25, .inr (10, [.ref q_5, .ref q_27, .ref q_28, .ref q_28, .ref q_28, .ref q_28, .ref q_28, .ref q_28, .int 0, .int 0, .int 0, .int 0, .int 0, .int 0, .int 0, .int 0, .int 0, .int 0, .int (-1)])), (q_29, .inr (9, [.ref q_31, .ref q_32, .ref q_33, .int (-1), .int 0])), (q_34, .inr (5, [.ref q_5, .ref q_25, .ref q_36, .int 0, .int 0, .long 0])), (q_37, .inr (7, [.int 0, .int 0, .int 0])), (q_39, .inr (7, [.int 0, .int 0, .int 0])), (q_41, .inr (7, [.int 0, .int 0, .int 0])), (q_43, .inr (0, [.ref q_45, .ref q_46, .int 0, .int 0, .int 0, .int 0, .int 0])), (q_45, .inl (k_47, 9, .inl (fun _ => 0))), (q_46, .inl (k_48, 2, .inl (fun _ => 0))), (q_49, .inr (1, [.ref q_51, .ref q_52, .int 0, .int 0])), (q_51, .inl (k_53, 160, .inl (fun _ => 0)))]) (w1 := [(q_54, .inr (2, [.ref q_56, .ref q_57, .ref q_58, .int 0])), (q_56, .inl (k_59, 30, .inl (fun _ => 0))), (q_57, .inl (k_60, 30, .inl (fun _ => 0))), (q_58, .inl (k_61, 30, .inl (fun _ => 0)))]) hP hD [18] [0, 1, 2, 3, 4, 5, 6, 7, 8, 9, 10, 11, 12, 13, 14, 15, 16, 17] rfl rfl (by decide) (by decide) hk1 hFc hP1 hD1
  have hK := hK.app (va_K.moved hvm.symm hK1)
  have hK : va_K (dC, dI) classes [(k_4, .int), (k_47, .int), (k_48, .int), (k_53, .int), (k_59, .int), (k_60, .int), (k_61, .int)] s := hK
  generalize H1 = H at hP hS ⊢
  have hP : va_P (dC, dI) classes [(h0, .inr (11, [.ref q_1, .ref q_5, .ref q_13, .ref q_19, .ref q_25, .ref q_29, .ref q_34, .ref q_37, .ref q_39, .ref q_41, .ref q_43, .ref q_49, .null, .null, .int 0, .int 0])), (q_1, .inr (8, [.ref q_3, .int 0, .int 0, .int (-1)])), (q_3, .inl (k_4, 160, .inl (fun _ => 0))), (q_5, .inr (6, [.ref q_7, .ref q_8, .ref q_9, .ref q_10, .int 0, .int (-1), .int (-1)])), (q_10, .inr (0, [.ref q_11, .ref q_12, .int 0, .int 0, .int 0, .int 0, .int 0])), (q_13, .inr (4, [.ref q_15, .ref q_16, .ref q_17, .ref q_18, .int 0, .int (-1), .int (-1), .int 0])), (q_19, .inr (4, [.ref q_21, .ref q_22, .ref q_23, .ref q_24, .int 0, .int (-1), .int (-1), .int 0])), (q_25, .inr (10, [.ref q_5, .ref q_27, .ref q_28, .ref q_28, .ref q_28, .ref q_28, .ref q_28, .ref q_28, .int 0, .int 0, .int 0, .int 0, .int 0, .int 0, .int 0, .int 0, .int 0, .int 0, .int (-1)])), (q_29, .inr (9, [.ref q_31, .ref q_32, .ref q_33, .int (-1), .int 0])), (q_34, .inr (5, [.ref q_5, .ref q_25, .ref q_36, .int 0, .int 0, .long 0])), (q_37, .inr (7, [.int 0, .int 0, .int 0])), (q_39, .inr (7, [.int 0, .int 0, .int 0])), (q_41, .inr (7, [.int 0, .int 0, .int 0])), (q_43, .inr (0, [.ref q_45, .ref q_46, .int 0, .int 0, .int 0, .int 0, .int 0])), (q_45, .inl (k_47, 9, .inl (fun _ => 0))), (q_46, .inl (k_48, 2, .inl (fun _ => 0))), (q_49, .inr (1, [.ref q_51, .ref q_52, .int 0, .int 0])), (q_51, .inl (k_53, 160, .inl (fun _ => 0))), (q_54, .inr (2, [.ref q_56, .ref q_57, .ref q_58, .int 0])), (q_56, .inl (k_59, 30, .inl (fun _ => 0))), (q_57, .inl (k_60, 30, .inl (fun _ => 0))), (q_58, .inl (k_61, 30, .inl (fun _ => 0)))] H := hP
  have hD : va_D A [(h0, .inr (11, [.ref q_1, .ref q_5, .ref q_13, .ref q_19, .ref q_25, .ref q_29, .ref q_34, .ref q_37, .ref q_39, .ref q_41, .ref q_43, .ref q_49, .null, .null, .int 0, .int 0])), (q_1, .inr (8, [.ref q_3, .int 0, .int 0, .int (-1)])), (q_3, .inl (k_4, 160, .inl (fun _ => 0))), (q_5, .inr (6, [.ref q_7, .ref q_8, .ref q_9, .ref q_10, .int 0, .int (-1), .int (-1)])), (q_10, .inr (0, [.ref q_11, .ref q_12, .int 0, .int 0, .int 0, .int 0, .int 0])), (q_13, .inr (4, [.ref q_15, .ref q_16, .ref q_17, .ref q_18, .int 0, .int (-1), .int (-1), .int 0])), (q_19, .inr (4, [.ref q_21, .ref q_22, .ref q_23, .ref q_24, .int 0, .int (-1), .int (-1), .int 0])), (q_25, .inr (10, [.ref q_5, .ref q_27, .ref q_28, .ref q_28, .ref q_28, .ref q_28, .ref q_28, .ref q_28, .int 0, .int 0, .int 0, .int 0, .int 0, .int 0, .int 0, .int 0, .int 0, .int 0, .int (-1)])), (q_29, .inr (9, [.ref q_31, .ref q_32, .ref q_33, .int (-1), .int 0])), (q_34, .inr (5, [.ref q_5, .ref q_25, .ref q_36, .int 0, .int 0, .long 0])), (q_37, .inr (7, [.int 0, .int 0, .int 0])), (q_39, .inr (7, [.int 0, .int 0, .int 0])), (q_41, .inr (7, [.int 0, .int 0, .int 0])), (q_43, .inr (0, [.ref q_45, .ref q_46, .int 0, .int 0, .int 0, .int 0, .int 0])), (q_45, .inl (k_47, 9, .inl (fun _ => 0))), (q_46, .inl (k_48, 2, .inl (fun _ => 0))), (q_49, .inr (1, [.ref q_51, .ref q_52, .int 0, .int 0])), (q_51, .inl (k_53, 160, .inl (fun _ => 0))), (q_54, .inr (2, [.ref q_56, .ref q_57, .ref q_58, .int 0])), (q_56, .inl (k_59, 30, .inl (fun _ => 0))), (q_57, .inl (k_60, 30, .inl (fun _ => 0))), (q_58, .inl (k_61, 30, .inl (fun _ => 0)))] := hD
  refine W.widen (k := 59) (n := 1754) (Nat.le_of_ble_eq_true rfl) (Nat.le_of_ble_eq_true rfl) ?_
  refine va_put (D := (dC, dI)) (ci := 11) (v := .ref q_54) (ty := .object "HoldTwo$Line") (C := RX11) (T := TX11) (N := 16) hx hb hts zi_X11_init_X11 tyX11 tyX11_ok nmX11 hown hK hP hD hS 0 rfl rfl 12 (by decide) (hts (.fieldLink RX11 88 "HoldTwo" "line" "LHoldTwo$Line;") (by decide +kernel)) (fun _ h9 => h9) rfl (by decide +kernel) rfl rfl (Nat.le_of_ble_eq_true rfl) dX11_init_156 (fun H locs hP hD hS => ?_)
  have hP : va_P (dC, dI) classes [(h0, .inr (11, [.ref q_1, .ref q_5, .ref q_13, .ref q_19, .ref q_25, .ref q_29, .ref q_34, .ref q_37, .ref q_39, .ref q_41, .ref q_43, .ref q_49, .ref q_54, .null, .int 0, .int 0])), (q_1, .inr (8, [.ref q_3, .int 0, .int 0, .int (-1)])), (q_3, .inl (k_4, 160, .inl (fun _ => 0))), (q_5, .inr (6, [.ref q_7, .ref q_8, .ref q_9, .ref q_10, .int 0, .int (-1), .int (-1)])), (q_10, .inr (0, [.ref q_11, .ref q_12, .int 0, .int 0, .int 0, .int 0, .int 0])), (q_13, .inr (4, [.ref q_15, .ref q_16, .ref q_17, .ref q_18, .int 0, .int (-1), .int (-1), .int 0])), (q_19, .inr (4, [.ref q_21, .ref q_22, .ref q_23, .ref q_24, .int 0, .int (-1), .int (-1), .int 0])), (q_25, .inr (10, [.ref q_5, .ref q_27, .ref q_28, .ref q_28, .ref q_28, .ref q_28, .ref q_28, .ref q_28, .int 0, .int 0, .int 0, .int 0, .int 0, .int 0, .int 0, .int 0, .int 0, .int 0, .int (-1)])), (q_29, .inr (9, [.ref q_31, .ref q_32, .ref q_33, .int (-1), .int 0])), (q_34, .inr (5, [.ref q_5, .ref q_25, .ref q_36, .int 0, .int 0, .long 0])), (q_37, .inr (7, [.int 0, .int 0, .int 0])), (q_39, .inr (7, [.int 0, .int 0, .int 0])), (q_41, .inr (7, [.int 0, .int 0, .int 0])), (q_43, .inr (0, [.ref q_45, .ref q_46, .int 0, .int 0, .int 0, .int 0, .int 0])), (q_45, .inl (k_47, 9, .inl (fun _ => 0))), (q_46, .inl (k_48, 2, .inl (fun _ => 0))), (q_49, .inr (1, [.ref q_51, .ref q_52, .int 0, .int 0])), (q_51, .inl (k_53, 160, .inl (fun _ => 0))), (q_54, .inr (2, [.ref q_56, .ref q_57, .ref q_58, .int 0])), (q_56, .inl (k_59, 30, .inl (fun _ => 0))), (q_57, .inl (k_60, 30, .inl (fun _ => 0))), (q_58, .inl (k_61, 30, .inl (fun _ => 0)))] H := hP
  have hD : va_D A [(h0, .inr (11, [.ref q_1, .ref q_5, .ref q_13, .ref q_19, .ref q_25, .ref q_29, .ref q_34, .ref q_37, .ref q_39, .ref q_41, .ref q_43, .ref q_49, .ref q_54, .null, .int 0, .int 0])), (q_1, .inr (8, [.ref q_3, .int 0, .int 0, .int (-1)])), (q_3, .inl (k_4, 160, .inl (fun _ => 0))), (q_5, .inr (6, [.ref q_7, .ref q_8, .ref q_9, .ref q_10, .int 0, .int (-1), .int (-1)])), (q_10, .inr (0, [.ref q_11, .ref q_12, .int 0, .int 0, .int 0, .int 0, .int 0])), (q_13, .inr (4, [.ref q_15, .ref q_16, .ref q_17, .ref q_18, .int 0, .int (-1), .int (-1), .int 0])), (q_19, .inr (4, [.ref q_21, .ref q_22, .ref q_23, .ref q_24, .int 0, .int (-1), .int (-1), .int 0])), (q_25, .inr (10, [.ref q_5, .ref q_27, .ref q_28, .ref q_28, .ref q_28, .ref q_28, .ref q_28, .ref q_28, .int 0, .int 0, .int 0, .int 0, .int 0, .int 0, .int 0, .int 0, .int 0, .int 0, .int (-1)])), (q_29, .inr (9, [.ref q_31, .ref q_32, .ref q_33, .int (-1), .int 0])), (q_34, .inr (5, [.ref q_5, .ref q_25, .ref q_36, .int 0, .int 0, .long 0])), (q_37, .inr (7, [.int 0, .int 0, .int 0])), (q_39, .inr (7, [.int 0, .int 0, .int 0])), (q_41, .inr (7, [.int 0, .int 0, .int 0])), (q_43, .inr (0, [.ref q_45, .ref q_46, .int 0, .int 0, .int 0, .int 0, .int 0])), (q_45, .inl (k_47, 9, .inl (fun _ => 0))), (q_46, .inl (k_48, 2, .inl (fun _ => 0))), (q_49, .inr (1, [.ref q_51, .ref q_52, .int 0, .int 0])), (q_51, .inl (k_53, 160, .inl (fun _ => 0))), (q_54, .inr (2, [.ref q_56, .ref q_57, .ref q_58, .int 0])), (q_56, .inl (k_59, 30, .inl (fun _ => 0))), (q_57, .inl (k_60, 30, .inl (fun _ => 0))), (q_58, .inl (k_61, 30, .inl (fun _ => 0)))] := hD
  refine lv_aload_n hx hb dX11_init_159 rfl (lv_at hl 0 rfl) ?_
  refine va_new (ci := 2) (fs := [.null, .null, .null, .int 0]) (C := RX2) (T := TX2) (N := 4) hx hb hts zi_X11_init_X2 tyX2 tyX2_ok hown (hts (.classLink RX11 85 RX2) (by decide +kernel)) (hts (.instantiable RX2 4) (by decide +kernel)) (hts (.initialized RX2) (by decide +kernel)) hK hP hD hS hA rfl zv_X2 (Nat.le_of_ble_eq_true rfl) (Nat.le_of_ble_eq_true rfl) dX11_init_160 (fun q_62 H hP hD hS => ?_)
  have hP : va_P (dC, dI) classes [(h0, .inr (11, [.ref q_1, .ref q_5, .ref q_13, .ref q_19, .ref q_25, .ref q_29, .ref q_34, .ref q_37, .ref q_39, .ref q_41, .ref q_43, .ref q_49, .ref q_54, .null, .int 0, .int 0])), (q_1, .inr (8, [.ref q_3, .int 0, .int 0, .int (-1)])), (q_3, .inl (k_4, 160, .inl (fun _ => 0))), (q_5, .inr (6, [.ref q_7, .ref q_8, .ref q_9, .ref q_10, .int 0, .int (-1), .int (-1)])), (q_10, .inr (0, [.ref q_11, .ref q_12, .int 0, .int 0, .int 0, .int 0, .int 0])), (q_13, .inr (4, [.ref q_15, .ref q_16, .ref q_17, .ref q_18, .int 0, .int (-1), .int (-1), .int 0])), (q_19, .inr (4, [.ref q_21, .ref q_22, .ref q_23, .ref q_24, .int 0, .int (-1), .int (-1), .int 0])), (q_25, .inr (10, [.ref q_5, .ref q_27, .ref q_28, .ref q_28, .ref q_28, .ref q_28, .ref q_28, .ref q_28, .int 0, .int 0, .int 0, .int 0, .int 0, .int 0, .int 0, .int 0, .int 0, .int 0, .int (-1)])), (q_29, .inr (9, [.ref q_31, .ref q_32, .ref q_33, .int (-1), .int 0])), (q_34, .inr (5, [.ref q_5, .ref q_25, .ref q_36, .int 0, .int 0, .long 0])), (q_37, .inr (7, [.int 0, .int 0, .int 0])), (q_39, .inr (7, [.int 0, .int 0, .int 0])), (q_41, .inr (7, [.int 0, .int 0, .int 0])), (q_43, .inr (0, [.ref q_45, .ref q_46, .int 0, .int 0, .int 0, .int 0, .int 0])), (q_45, .inl (k_47, 9, .inl (fun _ => 0))), (q_46, .inl (k_48, 2, .inl (fun _ => 0))), (q_49, .inr (1, [.ref q_51, .ref q_52, .int 0, .int 0])), (q_51, .inl (k_53, 160, .inl (fun _ => 0))), (q_54, .inr (2, [.ref q_56, .ref q_57, .ref q_58, .int 0])), (q_56, .inl (k_59, 30, .inl (fun _ => 0))), (q_57, .inl (k_60, 30, .inl (fun _ => 0))), (q_58, .inl (k_61, 30, .inl (fun _ => 0))), (q_62, .inr (2, [.null, .null, .null, .int 0]))] H := hP
  have hD : va_D A [(h0, .inr (11, [.ref q_1, .ref q_5, .ref q_13, .ref q_19, .ref q_25, .ref q_29, .ref q_34, .ref q_37, .ref q_39, .ref q_41, .ref q_43, .ref q_49, .ref q_54, .null, .int 0, .int 0])), (q_1, .inr (8, [.ref q_3, .int 0, .int 0, .int (-1)])), (q_3, .inl (k_4, 160, .inl (fun _ => 0))), (q_5, .inr (6, [.ref q_7, .ref q_8, .ref q_9, .ref q_10, .int 0, .int (-1), .int (-1)])), (q_10, .inr (0, [.ref q_11, .ref q_12, .int 0, .int 0, .int 0, .int 0, .int 0])), (q_13, .inr (4, [.ref q_15, .ref q_16, .ref q_17, .ref q_18, .int 0, .int (-1), .int (-1), .int 0])), (q_19, .inr (4, [.ref q_21, .ref q_22, .ref q_23, .ref q_24, .int 0, .int (-1), .int (-1), .int 0])), (q_25, .inr (10, [.ref q_5, .ref q_27, .ref q_28, .ref q_28, .ref q_28, .ref q_28, .ref q_28, .ref q_28, .int 0, .int 0, .int 0, .int 0, .int 0, .int 0, .int 0, .int 0, .int 0, .int 0, .int (-1)])), (q_29, .inr (9, [.ref q_31, .ref q_32, .ref q_33, .int (-1), .int 0])), (q_34, .inr (5, [.ref q_5, .ref q_25, .ref q_36, .int 0, .int 0, .long 0])), (q_37, .inr (7, [.int 0, .int 0, .int 0])), (q_39, .inr (7, [.int 0, .int 0, .int 0])), (q_41, .inr (7, [.int 0, .int 0, .int 0])), (q_43, .inr (0, [.ref q_45, .ref q_46, .int 0, .int 0, .int 0, .int 0, .int 0])), (q_45, .inl (k_47, 9, .inl (fun _ => 0))), (q_46, .inl (k_48, 2, .inl (fun _ => 0))), (q_49, .inr (1, [.ref q_51, .ref q_52, .int 0, .int 0])), (q_51, .inl (k_53, 160, .inl (fun _ => 0))), (q_54, .inr (2, [.ref q_56, .ref q_57, .ref q_58, .int 0])), (q_56, .inl (k_59, 30, .inl (fun _ => 0))), (q_57, .inl (k_60, 30, .inl (fun _ => 0))), (q_58, .inl (k_61, 30, .inl (fun _ => 0))), (q_62, .inr (2, [.null, .null, .null, .int 0]))] := hD
  refine W.widen (k := 60) (n := 1758) (Nat.le_of_ble_eq_true rfl) (Nat.le_of_ble_eq_true rfl) ?_
  refine lv_dup hx hb dX11_init_163 rfl ?_
  have hPc := hP.sub (ws' := [(q_62, .inr (2, [.null, .null, .null, .int 0]))]) [22] rfl
  have hDc := hD.sub (ws' := [(q_62, .inr (2, [.null, .null, .null, .int 0]))]) [22] (by decide) rfl
  have hKc := hK.sub (tys' := []) [] rfl
  have hFc := va_free (wc := [(q_62, .inr (2, [.null, .null, .null, .int 0]))]) hD hS hA [22] rfl
  refine va_callv (va_runI (As := []) (rest := [.ref q_62, .ref h0]) ⟨hx, hb, hml, hown, hts⟩ (zk_X2_init l dC dI (q_62) H.size) (cwI 0 hts gX11_init_X2_init rfl rfl rfl (hts (.initialized RX2) (by decide +kernel)) (hts (.methodLink RX11 87 yX2_init) (by decide +kernel)) (hts (.instanceMethod yX2_init) (by decide +kernel)) rfl (by decide +kernel) ⟨Nat.le_of_ble_eq_true rfl, Nat.le_of_ble_eq_true rfl⟩) ⟨zw_blind, fun U hU hW => ⟨rfl, zw_P.of hPc hKc hDc hN U hU hW⟩⟩ rfl rfl hl.1 rfl (lv_room (Nat.le_of_ble_eq_true rfl)) dX11_init_164 ⟨Nat.le_of_ble_eq_true rfl, Nat.le_of_ble_eq_true rfl⟩) hS (fun q _ h => hFc q h) hFc (fun u t H1 locs ht hvm hw hB hz1 hk1 hS => ?_)
  obtain ⟨q_64, q_65, q_66, k_67, k_68, k_69, hP1, hK1, hD1⟩ := hB
  rw [ht] at hP1
  obtain ⟨hP, hD⟩ := va_join (wr := [(h0, .inr (11, [.ref q_1, .ref q_5, .ref q_13, .ref q_19, .ref q_25, .ref q_29, .ref q_34, .ref q_37, .ref q_39, .ref q_41, .ref q_43, .ref q_49, .ref q_54, .null, .int 0, .int 0])), (q_1, .inr (8, [.ref q_3, .int 0, .int 0, .int (-1)])), (q_3, .inl (k_4, 160, .inl (fun _ => 0))), (q_5, .inr (6, [.ref q_7, .ref q_8, .ref q_9, .ref q_10, .int 0, .int (-1), .int (-1)])), (q_10, .inr (0, [.ref q_11, .ref q_12, .int 0, .int 0, .int 0, .int 0, .int 0])), (q_13, .inr (4, [.ref q_15, .ref q_16, .ref q_17, .ref q_18, .int 0, .int (-1), .int (-1), .int 0])), (q_19, .inr (4, [.ref q_21, .ref q_22, .ref q_23, .ref q_24, .int 0, .int (-1), .int (-1), .int 0])), (q_25, .inr (10, [.ref q_5, .ref q_27, .ref q_28, .ref q_28, .ref q_28, .ref q_28, .ref q_28, .ref q_28, .int 0, .int 0, .int 0, .int 0, .int 0, .int 0, .int 0, .int 0, .int 0, .int 0, .int (-1)])), (q_29, .inr (9, [.ref q_31, .ref q_32, .ref q_33, .int (-1), .int 0])), (q_34, .inr (5, [.ref q_5, .ref q_25, .ref q_36, .int 0, .int 0, .long 0])), (q_37, .inr (7, [.int 0, .int 0, .int 0])), (q_39, .inr (7, [.int 0, .int 0, .int 0])), (q_41, .inr (7, [.int 0, .int 0, .int 0])), (q_43, .inr (0, [.ref q_45, .ref q_46, .int 0, .int 0, .int 0, .int 0, .int 0])), (q_45, .inl (k_47, 9, .inl (fun _ => 0))), (q_46, .inl (k_48, 2, .inl (fun _ => 0))), (q_49, .inr (1, [.ref q_51, .ref q_52, .int 0, .int 0])), (q_51, .inl (k_53, 160, .inl (fun _ => 0))), (q_54, .inr (2, [.ref q_56, .ref q_57, .ref q_58, .int 0])), (q_56, .inl (k_59, 30, .inl (fun _ => 0))), (q_57, .inl (k_60, 30, .inl (fun _ => 0))), (q_58, .inl (k_61, 30, .inl (fun _ => 0)))]) (w1 := [(q_62, .inr (2, [.ref q_64, .ref q_65, .ref q_66, .int 0])), (q_64, .inl (k_67, 30, .inl (fun _ => 0))), (q_65, .inl (k_68, 30, .inl (fun _ => 0))), (q_66, .inl (k_69, 30, .inl (fun _ => 0)))]) hP hD [22] [0, 1, 2, 3, 4, 5, 6, 7, 8, 9, 10, 11, 12, 13, 14, 15, 16, 17, 18, 19, 20, 21] rfl rfl (by decide) (by decide) hk1 hFc hP1 hD1
  have hK := hK.app (va_K.moved hvm.symm hK1)
  have hK : va_K (dC, dI) classes [(k_4, .int), (k_47, .int), (k_48, .int), (k_53, .int), (k_59, .int), (k_60, .int), (k_61, .int), (k_67, .int), (k_68, .int), (k_69, .int)] s := hK
  generalize H1 = H at hP hS ⊢
  have hP : va_P (dC, dI) classes [(h0, .inr (11, [.ref q_1, .ref q_5, .ref q_13, .ref q_19, .ref q_25, .ref q_29, .ref q_34, .ref q_37, .ref q_39, .ref q_41, .ref q_43, .ref q_49, .ref q_54, .null, .int 0, .int 0])), (q_1, .inr (8, [.ref q_3, .int 0, .int 0, .int (-1)])), (q_3, .inl (k_4, 160, .inl (fun _ => 0))), (q_5, .inr (6, [.ref q_7, .ref q_8, .ref q_9, .ref q_10, .int 0, .int (-1), .int (-1)])), (q_10, .inr (0, [.ref q_11, .ref q_12, .int 0, .int 0, .int 0, .int 0, .int 0])), (q_13, .inr (4, [.ref q_15, .ref q_16, .ref q_17, .ref q_18, .int 0, .int (-1), .int (-1), .int 0])), (q_19, .inr (4, [.ref q_21, .ref q_22, .ref q_23, .ref q_24, .int 0, .int (-1), .int (-1), .int 0])), (q_25, .inr (10, [.ref q_5, .ref q_27, .ref q_28, .ref q_28, .ref q_28, .ref q_28, .ref q_28, .ref q_28, .int 0, .int 0, .int 0, .int 0, .int 0, .int 0, .int 0, .int 0, .int 0, .int 0, .int (-1)])), (q_29, .inr (9, [.ref q_31, .ref q_32, .ref q_33, .int (-1), .int 0])), (q_34, .inr (5, [.ref q_5, .ref q_25, .ref q_36, .int 0, .int 0, .long 0])), (q_37, .inr (7, [.int 0, .int 0, .int 0])), (q_39, .inr (7, [.int 0, .int 0, .int 0])), (q_41, .inr (7, [.int 0, .int 0, .int 0])), (q_43, .inr (0, [.ref q_45, .ref q_46, .int 0, .int 0, .int 0, .int 0, .int 0])), (q_45, .inl (k_47, 9, .inl (fun _ => 0))), (q_46, .inl (k_48, 2, .inl (fun _ => 0))), (q_49, .inr (1, [.ref q_51, .ref q_52, .int 0, .int 0])), (q_51, .inl (k_53, 160, .inl (fun _ => 0))), (q_54, .inr (2, [.ref q_56, .ref q_57, .ref q_58, .int 0])), (q_56, .inl (k_59, 30, .inl (fun _ => 0))), (q_57, .inl (k_60, 30, .inl (fun _ => 0))), (q_58, .inl (k_61, 30, .inl (fun _ => 0))), (q_62, .inr (2, [.ref q_64, .ref q_65, .ref q_66, .int 0])), (q_64, .inl (k_67, 30, .inl (fun _ => 0))), (q_65, .inl (k_68, 30, .inl (fun _ => 0))), (q_66, .inl (k_69, 30, .inl (fun _ => 0)))] H := hP
  have hD : va_D A [(h0, .inr (11, [.ref q_1, .ref q_5, .ref q_13, .ref q_19, .ref q_25, .ref q_29, .ref q_34, .ref q_37, .ref q_39, .ref q_41, .ref q_43, .ref q_49, .ref q_54, .null, .int 0, .int 0])), (q_1, .inr (8, [.ref q_3, .int 0, .int 0, .int (-1)])), (q_3, .inl (k_4, 160, .inl (fun _ => 0))), (q_5, .inr (6, [.ref q_7, .ref q_8, .ref q_9, .ref q_10, .int 0, .int (-1), .int (-1)])), (q_10, .inr (0, [.ref q_11, .ref q_12, .int 0, .int 0, .int 0, .int 0, .int 0])), (q_13, .inr (4, [.ref q_15, .ref q_16, .ref q_17, .ref q_18, .int 0, .int (-1), .int (-1), .int 0])), (q_19, .inr (4, [.ref q_21, .ref q_22, .ref q_23, .ref q_24, .int 0, .int (-1), .int (-1), .int 0])), (q_25, .inr (10, [.ref q_5, .ref q_27, .ref q_28, .ref q_28, .ref q_28, .ref q_28, .ref q_28, .ref q_28, .int 0, .int 0, .int 0, .int 0, .int 0, .int 0, .int 0, .int 0, .int 0, .int 0, .int (-1)])), (q_29, .inr (9, [.ref q_31, .ref q_32, .ref q_33, .int (-1), .int 0])), (q_34, .inr (5, [.ref q_5, .ref q_25, .ref q_36, .int 0, .int 0, .long 0])), (q_37, .inr (7, [.int 0, .int 0, .int 0])), (q_39, .inr (7, [.int 0, .int 0, .int 0])), (q_41, .inr (7, [.int 0, .int 0, .int 0])), (q_43, .inr (0, [.ref q_45, .ref q_46, .int 0, .int 0, .int 0, .int 0, .int 0])), (q_45, .inl (k_47, 9, .inl (fun _ => 0))), (q_46, .inl (k_48, 2, .inl (fun _ => 0))), (q_49, .inr (1, [.ref q_51, .ref q_52, .int 0, .int 0])), (q_51, .inl (k_53, 160, .inl (fun _ => 0))), (q_54, .inr (2, [.ref q_56, .ref q_57, .ref q_58, .int 0])), (q_56, .inl (k_59, 30, .inl (fun _ => 0))), (q_57, .inl (k_60, 30, .inl (fun _ => 0))), (q_58, .inl (k_61, 30, .inl (fun _ => 0))), (q_62, .inr (2, [.ref q_64, .ref q_65, .ref q_66, .int 0])), (q_64, .inl (k_67, 30, .inl (fun _ => 0))), (q_65, .inl (k_68, 30, .inl (fun _ => 0))), (q_66, .inl (k_69, 30, .inl (fun _ => 0)))] := hD
  refine W.widen (k := 63) (n := 1848) (Nat.le_of_ble_eq_true rfl) (Nat.le_of_ble_eq_true rfl) ?_
  refine va_put (D := (dC, dI)) (ci := 11) (v := .ref q_62) (ty := .object "HoldTwo$Line") (C := RX11) (T := TX11) (N := 16) hx hb hts zi_X11_init_X11 tyX11 tyX11_ok nmX11 hown hK hP hD hS 0 rfl rfl 13 (by decide) (hts (.fieldLink RX11 92 "HoldTwo" "spareLine" "LHoldTwo$Line;") (by decide +kernel)) (fun _ h9 => h9) rfl (by decide +kernel) rfl rfl (Nat.le_of_ble_eq_true rfl) dX11_init_167 (fun H locs hP hD hS => ?_)
  have hP : va_P (dC, dI) classes [(h0, .inr (11, [.ref q_1, .ref q_5, .ref q_13, .ref q_19, .ref q_25, .ref q_29, .ref q_34, .ref q_37, .ref q_39, .ref q_41, .ref q_43, .ref q_49, .ref q_54, .ref q_62, .int 0, .int 0])), (q_1, .inr (8, [.ref q_3, .int 0, .int 0, .int (-1)])), (q_3, .inl (k_4, 160, .inl (fun _ => 0))), (q_5, .inr (6, [.ref q_7, .ref q_8, .ref q_9, .ref q_10, .int 0, .int (-1), .int (-1)])), (q_10, .inr (0, [.ref q_11, .ref q_12, .int 0, .int 0, .int 0, .int 0, .int 0])), (q_13, .inr (4, [.ref q_15, .ref q_16, .ref q_17, .ref q_18, .int 0, .int (-1), .int (-1), .int 0])), (q_19, .inr (4, [.ref q_21, .ref q_22, .ref q_23, .ref q_24, .int 0, .int (-1), .int (-1), .int 0])), (q_25, .inr (10, [.ref q_5, .ref q_27, .ref q_28, .ref q_28, .ref q_28, .ref q_28, .ref q_28, .ref q_28, .int 0, .int 0, .int 0, .int 0, .int 0, .int 0, .int 0, .int 0, .int 0, .int 0, .int (-1)])), (q_29, .inr (9, [.ref q_31, .ref q_32, .ref q_33, .int (-1), .int 0])), (q_34, .inr (5, [.ref q_5, .ref q_25, .ref q_36, .int 0, .int 0, .long 0])), (q_37, .inr (7, [.int 0, .int 0, .int 0])), (q_39, .inr (7, [.int 0, .int 0, .int 0])), (q_41, .inr (7, [.int 0, .int 0, .int 0])), (q_43, .inr (0, [.ref q_45, .ref q_46, .int 0, .int 0, .int 0, .int 0, .int 0])), (q_45, .inl (k_47, 9, .inl (fun _ => 0))), (q_46, .inl (k_48, 2, .inl (fun _ => 0))), (q_49, .inr (1, [.ref q_51, .ref q_52, .int 0, .int 0])), (q_51, .inl (k_53, 160, .inl (fun _ => 0))), (q_54, .inr (2, [.ref q_56, .ref q_57, .ref q_58, .int 0])), (q_56, .inl (k_59, 30, .inl (fun _ => 0))), (q_57, .inl (k_60, 30, .inl (fun _ => 0))), (q_58, .inl (k_61, 30, .inl (fun _ => 0))), (q_62, .inr (2, [.ref q_64, .ref q_65, .ref q_66, .int 0])), (q_64, .inl (k_67, 30, .inl (fun _ => 0))), (q_65, .inl (k_68, 30, .inl (fun _ => 0))), (q_66, .inl (k_69, 30, .inl (fun _ => 0)))] H := hP
  have hD : va_D A [(h0, .inr (11, [.ref q_1, .ref q_5, .ref q_13, .ref q_19, .ref q_25, .ref q_29, .ref q_34, .ref q_37, .ref q_39, .ref q_41, .ref q_43, .ref q_49, .ref q_54, .ref q_62, .int 0, .int 0])), (q_1, .inr (8, [.ref q_3, .int 0, .int 0, .int (-1)])), (q_3, .inl (k_4, 160, .inl (fun _ => 0))), (q_5, .inr (6, [.ref q_7, .ref q_8, .ref q_9, .ref q_10, .int 0, .int (-1), .int (-1)])), (q_10, .inr (0, [.ref q_11, .ref q_12, .int 0, .int 0, .int 0, .int 0, .int 0])), (q_13, .inr (4, [.ref q_15, .ref q_16, .ref q_17, .ref q_18, .int 0, .int (-1), .int (-1), .int 0])), (q_19, .inr (4, [.ref q_21, .ref q_22, .ref q_23, .ref q_24, .int 0, .int (-1), .int (-1), .int 0])), (q_25, .inr (10, [.ref q_5, .ref q_27, .ref q_28, .ref q_28, .ref q_28, .ref q_28, .ref q_28, .ref q_28, .int 0, .int 0, .int 0, .int 0, .int 0, .int 0, .int 0, .int 0, .int 0, .int 0, .int (-1)])), (q_29, .inr (9, [.ref q_31, .ref q_32, .ref q_33, .int (-1), .int 0])), (q_34, .inr (5, [.ref q_5, .ref q_25, .ref q_36, .int 0, .int 0, .long 0])), (q_37, .inr (7, [.int 0, .int 0, .int 0])), (q_39, .inr (7, [.int 0, .int 0, .int 0])), (q_41, .inr (7, [.int 0, .int 0, .int 0])), (q_43, .inr (0, [.ref q_45, .ref q_46, .int 0, .int 0, .int 0, .int 0, .int 0])), (q_45, .inl (k_47, 9, .inl (fun _ => 0))), (q_46, .inl (k_48, 2, .inl (fun _ => 0))), (q_49, .inr (1, [.ref q_51, .ref q_52, .int 0, .int 0])), (q_51, .inl (k_53, 160, .inl (fun _ => 0))), (q_54, .inr (2, [.ref q_56, .ref q_57, .ref q_58, .int 0])), (q_56, .inl (k_59, 30, .inl (fun _ => 0))), (q_57, .inl (k_60, 30, .inl (fun _ => 0))), (q_58, .inl (k_61, 30, .inl (fun _ => 0))), (q_62, .inr (2, [.ref q_64, .ref q_65, .ref q_66, .int 0])), (q_64, .inl (k_67, 30, .inl (fun _ => 0))), (q_65, .inl (k_68, 30, .inl (fun _ => 0))), (q_66, .inl (k_69, 30, .inl (fun _ => 0)))] := hD
  refine lv_aload_n hx hb dX11_init_170 rfl (lv_at hl 0 rfl) ?_
  refine lv_iconst (v := 0) hx hb dX11_init_171 (by decide) ?_
  refine va_put (D := (dC, dI)) (ci := 11) (v := .int 0) (ty := .boolean) (C := RX11) (T := TX11) (N := 16) hx hb hts zi_X11_init_X11 tyX11 tyX11_ok nmX11 hown hK hP hD hS 0 rfl rfl 14 (by decide) (hts (.fieldLink RX11 95 "HoldTwo" "hasLine" "Z") (by decide +kernel)) (fun _ h9 => h9) rfl (by decide +kernel) rfl rfl (Nat.le_of_ble_eq_true rfl) dX11_init_172 (fun H locs hP hD hS => ?_)
  have hP : va_P (dC, dI) classes [(h0, .inr (11, [.ref q_1, .ref q_5, .ref q_13, .ref q_19, .ref q_25, .ref q_29, .ref q_34, .ref q_37, .ref q_39, .ref q_41, .ref q_43, .ref q_49, .ref q_54, .ref q_62, .int 0, .int 0])), (q_1, .inr (8, [.ref q_3, .int 0, .int 0, .int (-1)])), (q_3, .inl (k_4, 160, .inl (fun _ => 0))), (q_5, .inr (6, [.ref q_7, .ref q_8, .ref q_9, .ref q_10, .int 0, .int (-1), .int (-1)])), (q_10, .inr (0, [.ref q_11, .ref q_12, .int 0, .int 0, .int 0, .int 0, .int 0])), (q_13, .inr (4, [.ref q_15, .ref q_16, .ref q_17, .ref q_18, .int 0, .int (-1), .int (-1), .int 0])), (q_19, .inr (4, [.ref q_21, .ref q_22, .ref q_23, .ref q_24, .int 0, .int (-1), .int (-1), .int 0])), (q_25, .inr (10, [.ref q_5, .ref q_27, .ref q_28, .ref q_28, .ref q_28, .ref q_28, .ref q_28, .ref q_28, .int 0, .int 0, .int 0, .int 0, .int 0, .int 0, .int 0, .int 0, .int 0, .int 0, .int (-1)])), (q_29, .inr (9, [.ref q_31, .ref q_32, .ref q_33, .int (-1), .int 0])), (q_34, .inr (5, [.ref q_5, .ref q_25, .ref q_36, .int 0, .int 0, .long 0])), (q_37, .inr (7, [.int 0, .int 0, .int 0])), (q_39, .inr (7, [.int 0, .int 0, .int 0])), (q_41, .inr (7, [.int 0, .int 0, .int 0])), (q_43, .inr (0, [.ref q_45, .ref q_46, .int 0, .int 0, .int 0, .int 0, .int 0])), (q_45, .inl (k_47, 9, .inl (fun _ => 0))), (q_46, .inl (k_48, 2, .inl (fun _ => 0))), (q_49, .inr (1, [.ref q_51, .ref q_52, .int 0, .int 0])), (q_51, .inl (k_53, 160, .inl (fun _ => 0))), (q_54, .inr (2, [.ref q_56, .ref q_57, .ref q_58, .int 0])), (q_56, .inl (k_59, 30, .inl (fun _ => 0))), (q_57, .inl (k_60, 30, .inl (fun _ => 0))), (q_58, .inl (k_61, 30, .inl (fun _ => 0))), (q_62, .inr (2, [.ref q_64, .ref q_65, .ref q_66, .int 0])), (q_64, .inl (k_67, 30, .inl (fun _ => 0))), (q_65, .inl (k_68, 30, .inl (fun _ => 0))), (q_66, .inl (k_69, 30, .inl (fun _ => 0)))] H := hP
  have hD : va_D A [(h0, .inr (11, [.ref q_1, .ref q_5, .ref q_13, .ref q_19, .ref q_25, .ref q_29, .ref q_34, .ref q_37, .ref q_39, .ref q_41, .ref q_43, .ref q_49, .ref q_54, .ref q_62, .int 0, .int 0])), (q_1, .inr (8, [.ref q_3, .int 0, .int 0, .int (-1)])), (q_3, .inl (k_4, 160, .inl (fun _ => 0))), (q_5, .inr (6, [.ref q_7, .ref q_8, .ref q_9, .ref q_10, .int 0, .int (-1), .int (-1)])), (q_10, .inr (0, [.ref q_11, .ref q_12, .int 0, .int 0, .int 0, .int 0, .int 0])), (q_13, .inr (4, [.ref q_15, .ref q_16, .ref q_17, .ref q_18, .int 0, .int (-1), .int (-1), .int 0])), (q_19, .inr (4, [.ref q_21, .ref q_22, .ref q_23, .ref q_24, .int 0, .int (-1), .int (-1), .int 0])), (q_25, .inr (10, [.ref q_5, .ref q_27, .ref q_28, .ref q_28, .ref q_28, .ref q_28, .ref q_28, .ref q_28, .int 0, .int 0, .int 0, .int 0, .int 0, .int 0, .int 0, .int 0, .int 0, .int 0, .int (-1)])), (q_29, .inr (9, [.ref q_31, .ref q_32, .ref q_33, .int (-1), .int 0])), (q_34, .inr (5, [.ref q_5, .ref q_25, .ref q_36, .int 0, .int 0, .long 0])), (q_37, .inr (7, [.int 0, .int 0, .int 0])), (q_39, .inr (7, [.int 0, .int 0, .int 0])), (q_41, .inr (7, [.int 0, .int 0, .int 0])), (q_43, .inr (0, [.ref q_45, .ref q_46, .int 0, .int 0, .int 0, .int 0, .int 0])), (q_45, .inl (k_47, 9, .inl (fun _ => 0))), (q_46, .inl (k_48, 2, .inl (fun _ => 0))), (q_49, .inr (1, [.ref q_51, .ref q_52, .int 0, .int 0])), (q_51, .inl (k_53, 160, .inl (fun _ => 0))), (q_54, .inr (2, [.ref q_56, .ref q_57, .ref q_58, .int 0])), (q_56, .inl (k_59, 30, .inl (fun _ => 0))), (q_57, .inl (k_60, 30, .inl (fun _ => 0))), (q_58, .inl (k_61, 30, .inl (fun _ => 0))), (q_62, .inr (2, [.ref q_64, .ref q_65, .ref q_66, .int 0])), (q_64, .inl (k_67, 30, .inl (fun _ => 0))), (q_65, .inl (k_68, 30, .inl (fun _ => 0))), (q_66, .inl (k_69, 30, .inl (fun _ => 0)))] := hD
  refine lv_aload_n hx hb dX11_init_175 rfl (lv_at hl 0 rfl) ?_
  refine lv_iconst (v := 0) hx hb dX11_init_176 (by decide) ?_
  refine va_put (D := (dC, dI)) (ci := 11) (v := .int 0) (ty := .boolean) (C := RX11) (T := TX11) (N := 16) hx hb hts zi_X11_init_X11 tyX11 tyX11_ok nmX11 hown hK hP hD hS 0 rfl rfl 15 (by decide) (hts (.fieldLink RX11 99 "HoldTwo" "hasImage" "Z") (by decide +kernel)) (fun _ h9 => h9) rfl (by decide +kernel) rfl rfl (Nat.le_of_ble_eq_true rfl) dX11_init_177 (fun H locs hP hD hS => ?_)
  have hP : va_P (dC, dI) classes [(h0, .inr (11, [.ref q_1, .ref q_5, .ref q_13, .ref q_19, .ref q_25, .ref q_29, .ref q_34, .ref q_37, .ref q_39, .ref q_41, .ref q_43, .ref q_49, .ref q_54, .ref q_62, .int 0, .int 0])), (q_1, .inr (8, [.ref q_3, .int 0, .int 0, .int (-1)])), (q_3, .inl (k_4, 160, .inl (fun _ => 0))), (q_5, .inr (6, [.ref q_7, .ref q_8, .ref q_9, .ref q_10, .int 0, .int (-1), .int (-1)])), (q_10, .inr (0, [.ref q_11, .ref q_12, .int 0, .int 0, .int 0, .int 0, .int 0])), (q_13, .inr (4, [.ref q_15, .ref q_16, .ref q_17, .ref q_18, .int 0, .int (-1), .int (-1), .int 0])), (q_19, .inr (4, [.ref q_21, .ref q_22, .ref q_23, .ref q_24, .int 0, .int (-1), .int (-1), .int 0])), (q_25, .inr (10, [.ref q_5, .ref q_27, .ref q_28, .ref q_28, .ref q_28, .ref q_28, .ref q_28, .ref q_28, .int 0, .int 0, .int 0, .int 0, .int 0, .int 0, .int 0, .int 0, .int 0, .int 0, .int (-1)])), (q_29, .inr (9, [.ref q_31, .ref q_32, .ref q_33, .int (-1), .int 0])), (q_34, .inr (5, [.ref q_5, .ref q_25, .ref q_36, .int 0, .int 0, .long 0])), (q_37, .inr (7, [.int 0, .int 0, .int 0])), (q_39, .inr (7, [.int 0, .int 0, .int 0])), (q_41, .inr (7, [.int 0, .int 0, .int 0])), (q_43, .inr (0, [.ref q_45, .ref q_46, .int 0, .int 0, .int 0, .int 0, .int 0])), (q_45, .inl (k_47, 9, .inl (fun _ => 0))), (q_46, .inl (k_48, 2, .inl (fun _ => 0))), (q_49, .inr (1, [.ref q_51, .ref q_52, .int 0, .int 0])), (q_51, .inl (k_53, 160, .inl (fun _ => 0))), (q_54, .inr (2, [.ref q_56, .ref q_57, .ref q_58, .int 0])), (q_56, .inl (k_59, 30, .inl (fun _ => 0))), (q_57, .inl (k_60, 30, .inl (fun _ => 0))), (q_58, .inl (k_61, 30, .inl (fun _ => 0))), (q_62, .inr (2, [.ref q_64, .ref q_65, .ref q_66, .int 0])), (q_64, .inl (k_67, 30, .inl (fun _ => 0))), (q_65, .inl (k_68, 30, .inl (fun _ => 0))), (q_66, .inl (k_69, 30, .inl (fun _ => 0)))] H := hP
  have hD : va_D A [(h0, .inr (11, [.ref q_1, .ref q_5, .ref q_13, .ref q_19, .ref q_25, .ref q_29, .ref q_34, .ref q_37, .ref q_39, .ref q_41, .ref q_43, .ref q_49, .ref q_54, .ref q_62, .int 0, .int 0])), (q_1, .inr (8, [.ref q_3, .int 0, .int 0, .int (-1)])), (q_3, .inl (k_4, 160, .inl (fun _ => 0))), (q_5, .inr (6, [.ref q_7, .ref q_8, .ref q_9, .ref q_10, .int 0, .int (-1), .int (-1)])), (q_10, .inr (0, [.ref q_11, .ref q_12, .int 0, .int 0, .int 0, .int 0, .int 0])), (q_13, .inr (4, [.ref q_15, .ref q_16, .ref q_17, .ref q_18, .int 0, .int (-1), .int (-1), .int 0])), (q_19, .inr (4, [.ref q_21, .ref q_22, .ref q_23, .ref q_24, .int 0, .int (-1), .int (-1), .int 0])), (q_25, .inr (10, [.ref q_5, .ref q_27, .ref q_28, .ref q_28, .ref q_28, .ref q_28, .ref q_28, .ref q_28, .int 0, .int 0, .int 0, .int 0, .int 0, .int 0, .int 0, .int 0, .int 0, .int 0, .int (-1)])), (q_29, .inr (9, [.ref q_31, .ref q_32, .ref q_33, .int (-1), .int 0])), (q_34, .inr (5, [.ref q_5, .ref q_25, .ref q_36, .int 0, .int 0, .long 0])), (q_37, .inr (7, [.int 0, .int 0, .int 0])), (q_39, .inr (7, [.int 0, .int 0, .int 0])), (q_41, .inr (7, [.int 0, .int 0, .int 0])), (q_43, .inr (0, [.ref q_45, .ref q_46, .int 0, .int 0, .int 0, .int 0, .int 0])), (q_45, .inl (k_47, 9, .inl (fun _ => 0))), (q_46, .inl (k_48, 2, .inl (fun _ => 0))), (q_49, .inr (1, [.ref q_51, .ref q_52, .int 0, .int 0])), (q_51, .inl (k_53, 160, .inl (fun _ => 0))), (q_54, .inr (2, [.ref q_56, .ref q_57, .ref q_58, .int 0])), (q_56, .inl (k_59, 30, .inl (fun _ => 0))), (q_57, .inl (k_60, 30, .inl (fun _ => 0))), (q_58, .inl (k_61, 30, .inl (fun _ => 0))), (q_62, .inr (2, [.ref q_64, .ref q_65, .ref q_66, .int 0])), (q_64, .inl (k_67, 30, .inl (fun _ => 0))), (q_65, .inl (k_68, 30, .inl (fun _ => 0))), (q_66, .inl (k_69, 30, .inl (fun _ => 0)))] := hD
  have hP9 := hP.sub (ws' := [(h0, .inr (11, [.ref q_1, .ref q_5, .ref q_13, .ref q_19, .ref q_25, .ref q_29, .ref q_34, .ref q_37, .ref q_39, .ref q_41, .ref q_43, .ref q_49, .ref q_54, .ref q_62, .int 0, .int 0])), (q_1, .inr (8, [.ref q_3, .int 0, .int 0, .int (-1)])), (q_3, .inl (k_4, 160, .inl (fun _ => 0))), (q_5, .inr (6, [.ref q_7, .ref q_8, .ref q_9, .ref q_10, .int 0, .int (-1), .int (-1)])), (q_10, .inr (0, [.ref q_11, .ref q_12, .int 0, .int 0, .int 0, .int 0, .int 0])), (q_37, .inr (7, [.int 0, .int 0, .int 0])), (q_43, .inr (0, [.ref q_45, .ref q_46, .int 0, .int 0, .int 0, .int 0, .int 0])), (q_45, .inl (k_47, 9, .inl (fun _ => 0))), (q_46, .inl (k_48, 2, .inl (fun _ => 0))), (q_49, .inr (1, [.ref q_51, .ref q_52, .int 0, .int 0])), (q_51, .inl (k_53, 160, .inl (fun _ => 0))), (q_62, .inr (2, [.ref q_64, .ref q_65, .ref q_66, .int 0])), (q_64, .inl (k_67, 30, .inl (fun _ => 0))), (q_65, .inl (k_68, 30, .inl (fun _ => 0))), (q_66, .inl (k_69, 30, .inl (fun _ => 0)))]) [0, 1, 2, 3, 4, 10, 13, 14, 15, 16, 17, 22, 23, 24, 25] rfl
  have hD9 := hD.sub (ws' := [(h0, .inr (11, [.ref q_1, .ref q_5, .ref q_13, .ref q_19, .ref q_25, .ref q_29, .ref q_34, .ref q_37, .ref q_39, .ref q_41, .ref q_43, .ref q_49, .ref q_54, .ref q_62, .int 0, .int 0])), (q_1, .inr (8, [.ref q_3, .int 0, .int 0, .int (-1)])), (q_3, .inl (k_4, 160, .inl (fun _ => 0))), (q_5, .inr (6, [.ref q_7, .ref q_8, .ref q_9, .ref q_10, .int 0, .int (-1), .int (-1)])), (q_10, .inr (0, [.ref q_11, .ref q_12, .int 0, .int 0, .int 0, .int 0, .int 0])), (q_37, .inr (7, [.int 0, .int 0, .int 0])), (q_43, .inr (0, [.ref q_45, .ref q_46, .int 0, .int 0, .int 0, .int 0, .int 0])), (q_45, .inl (k_47, 9, .inl (fun _ => 0))), (q_46, .inl (k_48, 2, .inl (fun _ => 0))), (q_49, .inr (1, [.ref q_51, .ref q_52, .int 0, .int 0])), (q_51, .inl (k_53, 160, .inl (fun _ => 0))), (q_62, .inr (2, [.ref q_64, .ref q_65, .ref q_66, .int 0])), (q_64, .inl (k_67, 30, .inl (fun _ => 0))), (q_65, .inl (k_68, 30, .inl (fun _ => 0))), (q_66, .inl (k_69, 30, .inl (fun _ => 0)))]) [0, 1, 2, 3, 4, 10, 13, 14, 15, 16, 17, 22, 23, 24, 25] (by decide) rfl
  have hK9 := hK.sub (tys' := [(k_4, .int), (k_47, .int), (k_48, .int), (k_53, .int), (k_67, .int), (k_68, .int), (k_69, .int)]) [0, 1, 2, 3, 7, 8, 9] rfl
  refine W.widen (k := 63) (n := 1848) (Nat.le_of_ble_eq_true rfl) (Nat.le_of_ble_eq_true rfl) ?_
  exact W.vret hx hb hr (fun t ht hW => ⟨⟨(), rfl, trivial, q_1, q_5, q_13, q_19, q_25, q_29, q_34, q_37, q_39, q_41, q_43, q_49, q_54, q_62, q_3, k_4, q_7, q_8, q_9, q_10, q_11, q_12, q_45, q_46, k_47, k_48, q_51, q_52, k_53, q_64, q_65, q_66, k_67, k_68, k_69, by rw [ht]; exact hP9, va_K.moved hW.alike hK9, hD9⟩, hS.F ht⟩) hS.2.2 dX11_init_180
