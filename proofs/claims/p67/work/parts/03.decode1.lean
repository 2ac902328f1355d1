/-! printed: decode rows, words among words -/
theorem dX0_init_0 : decode cX0_init 0 = .ok (.aload_n 0, 1) := by decide +kernel
theorem dX0_init_1 : decode cX0_init 1 = .ok (.invokespecial 3, 3) := by decide +kernel
theorem dX0_init_4 : decode cX0_init 4 = .ok (.aload_n 0, 1) := by decide +kernel
theorem dX0_init_5 : decode cX0_init 5 = .ok (.bipush 20, 2) := by decide +kernel
theorem dX0_init_7 : decode cX0_init 7 = .ok (.newarray .int, 2) := by decide +kernel
theorem dX0_init_9 : decode cX0_init 9 = .ok (.putfield 9, 3) := by decide +kernel
theorem dX0_init_12 : decode cX0_init 12 = .ok (.aload_n 0, 1) := by decide +kernel
theorem dX0_init_13 : decode cX0_init 13 = .ok (.bipush 20, 2) := by decide +kernel
theorem dX0_init_15 : decode cX0_init 15 = .ok (.newarray .int, 2) := by decide +kernel
theorem dX0_init_17 : decode cX0_init 17 = .ok (.putfield 15, 3) := by decide +kernel
theorem dX0_init_20 : decode cX0_init 20 = .ok (.aload_n 0, 1) := by decide +kernel
theorem dX0_init_21 : decode cX0_init 21 = .ok (.bipush 20, 2) := by decide +kernel
theorem dX0_init_23 : decode cX0_init 23 = .ok (.newarray .int, 2) := by decide +kernel
theorem dX0_init_25 : decode cX0_init 25 = .ok (.putfield 18, 3) := by decide +kernel
theorem dX0_init_28 : decode cX0_init 28 = .ok (.aload_n 0, 1) := by decide +kernel
theorem dX0_init_29 : decode cX0_init 29 = .ok (.iconst 0, 1) := by decide +kernel
theorem dX0_init_30 : decode cX0_init 30 = .ok (.putfield 21, 3) := by decide +kernel
theorem dX0_init_33 : decode cX0_init 33 = .ok (.aload_n 0, 1) := by decide +kernel
theorem dX0_init_34 : decode cX0_init 34 = .ok (.iconst 0, 1) := by decide +kernel
theorem dX0_init_35 : decode cX0_init 35 = .ok (.putfield 25, 3) := by decide +kernel
theorem dX0_init_38 : decode cX0_init 38 = .ok (.return_, 1) := by decide +kernel
theorem dX0_copyFrom_0 : decode cX0_copyFrom 0 = .ok (.aload_n 1, 1) := by decide +kernel
theorem dX0_copyFrom_1 : decode cX0_copyFrom 1 = .ok (.getfield 9, 3) := by decide +kernel
theorem dX0_copyFrom_4 : decode cX0_copyFrom 4 = .ok (.iconst 0, 1) := by decide +kernel
theorem dX0_copyFrom_5 : decode cX0_copyFrom 5 = .ok (.aload_n 0, 1) := by decide +kernel
theorem dX0_copyFrom_6 : decode cX0_copyFrom 6 = .ok (.getfield 9, 3) := by decide +kernel
theorem dX0_copyFrom_9 : decode cX0_copyFrom 9 = .ok (.iconst 0, 1) := by decide +kernel
theorem dX0_copyFrom_10 : decode cX0_copyFrom 10 = .ok (.bipush 20, 2) := by decide +kernel
theorem dX0_copyFrom_12 : decode cX0_copyFrom 12 = .ok (.invokestatic 28, 3) := by decide +kernel
theorem dX0_copyFrom_15 : decode cX0_copyFrom 15 = .ok (.aload_n 1, 1) := by decide +kernel
theorem dX0_copyFrom_16 : decode cX0_copyFrom 16 = .ok (.getfield 15, 3) := by decide +kernel
theorem dX0_copyFrom_19 : decode cX0_copyFrom 19 = .ok (.iconst 0, 1) := by decide +kernel
theorem dX0_copyFrom_20 : decode cX0_copyFrom 20 = .ok (.aload_n 0, 1) := by decide +kernel
theorem dX0_copyFrom_21 : decode cX0_copyFrom 21 = .ok (.getfield 15, 3) := by decide +kernel
theorem dX0_copyFrom_24 : decode cX0_copyFrom 24 = .ok (.iconst 0, 1) := by decide +kernel
theorem dX0_copyFrom_25 : decode cX0_copyFrom 25 = .ok (.bipush 20, 2) := by decide +kernel
theorem dX0_copyFrom_27 : decode cX0_copyFrom 27 = .ok (.invokestatic 28, 3) := by decide +kernel
theorem dX0_copyFrom_30 : decode cX0_copyFrom 30 = .ok (.aload_n 1, 1) := by decide +kernel
theorem dX0_copyFrom_31 : decode cX0_copyFrom 31 = .ok (.getfield 18, 3) := by decide +kernel
theorem dX0_copyFrom_34 : decode cX0_copyFrom 34 = .ok (.iconst 0, 1) := by decide +kernel
theorem dX0_copyFrom_35 : decode cX0_copyFrom 35 = .ok (.aload_n 0, 1) := by decide +kernel
theorem dX0_copyFrom_36 : decode cX0_copyFrom 36 = .ok (.getfield 18, 3) := by decide +kernel
theorem dX0_copyFrom_39 : decode cX0_copyFrom 39 = .ok (.iconst 0, 1) := by decide +kernel
theorem dX0_copyFrom_40 : decode cX0_copyFrom 40 = .ok (.bipush 20, 2) := by decide +kernel
theorem dX0_copyFrom_42 : decode cX0_copyFrom 42 = .ok (.invokestatic 28, 3) := by decide +kernel
theorem dX0_copyFrom_45 : decode cX0_copyFrom 45 = .ok (.aload_n 0, 1) := by decide +kernel
theorem dX0_copyFrom_46 : decode cX0_copyFrom 46 = .ok (.aload_n 1, 1) := by decide +kernel
theorem dX0_copyFrom_47 : decode cX0_copyFrom 47 = .ok (.getfield 21, 3) := by decide +kernel
theorem dX0_copyFrom_50 : decode cX0_copyFrom 50 = .ok (.putfield 21, 3) := by decide +kernel
theorem dX0_copyFrom_53 : decode cX0_copyFrom 53 = .ok (.aload_n 0, 1) := by decide +kernel
theorem dX0_copyFrom_54 : decode cX0_copyFrom 54 = .ok (.aload_n 1, 1) := by decide +kernel
theorem dX0_copyFrom_55 : decode cX0_copyFrom 55 = .ok (.getfield 25, 3) := by decide +kernel
theorem dX0_copyFrom_58 : decode cX0_copyFrom 58 = .ok (.putfield 25, 3) := by decide +kernel
theorem dX0_copyFrom_61 : decode cX0_copyFrom 61 = .ok (.return_, 1) := by decide +kernel
theorem dX0_write_0 : decode cX0_write 0 = .ok (.aload_n 0, 1) := by decide +kernel
theorem dX0_write_1 : decode cX0_write 1 = .ok (.getfield 21, 3) := by decide +kernel
theorem dX0_write_4 : decode cX0_write 4 = .ok (.ifCond .lt 12, 3) := by decide +kernel
theorem dX0_write_7 : decode cX0_write 7 = .ok (.aload_n 0, 1) := by decide +kernel
theorem dX0_write_8 : decode cX0_write 8 = .ok (.getfield 21, 3) := by decide +kernel
theorem dX0_write_11 : decode cX0_write 11 = .ok (.bipush 20, 2) := by decide +kernel
theorem dX0_write_13 : decode cX0_write 13 = .ok (.if_icmp .lt 4, 3) := by decide +kernel
theorem dX0_write_17 : decode cX0_write 17 = .ok (.aload_n 0, 1) := by decide +kernel
theorem dX0_write_18 : decode cX0_write 18 = .ok (.getfield 9, 3) := by decide +kernel
theorem dX0_write_21 : decode cX0_write 21 = .ok (.aload_n 0, 1) := by decide +kernel
theorem dX0_write_22 : decode cX0_write 22 = .ok (.getfield 21, 3) := by decide +kernel
theorem dX0_write_25 : decode cX0_write 25 = .ok (.iload_n 1, 1) := by decide +kernel
theorem dX0_write_26 : decode cX0_write 26 = .ok (.iastore, 1) := by decide +kernel
theorem dX0_write_27 : decode cX0_write 27 = .ok (.aload_n 0, 1) := by decide +kernel
theorem dX0_write_28 : decode cX0_write 28 = .ok (.getfield 15, 3) := by decide +kernel
theorem dX0_write_31 : decode cX0_write 31 = .ok (.aload_n 0, 1) := by decide +kernel
theorem dX0_write_32 : decode cX0_write 32 = .ok (.getfield 21, 3) := by decide +kernel
theorem dX0_write_35 : decode cX0_write 35 = .ok (.iload_n 2, 1) := by decide +kernel
theorem dX0_write_36 : decode cX0_write 36 = .ok (.iastore, 1) := by decide +kernel
theorem dX0_write_37 : decode cX0_write 37 = .ok (.aload_n 0, 1) := by decide +kernel
theorem dX0_write_38 : decode cX0_write 38 = .ok (.getfield 18, 3) := by decide +kernel
theorem dX0_write_41 : decode cX0_write 41 = .ok (.aload_n 0, 1) := by decide +kernel
theorem dX0_write_42 : decode cX0_write 42 = .ok (.getfield 21, 3) := by decide +kernel
theorem dX0_write_45 : decode cX0_write 45 = .ok (.iload_n 3, 1) := by decide +kernel
theorem dX0_write_46 : decode cX0_write 46 = .ok (.iastore, 1) := by decide +kernel
theorem dX0_write_47 : decode cX0_write 47 = .ok (.aload_n 0, 1) := by decide +kernel
theorem dX0_write_48 : decode cX0_write 48 = .ok (.aload_n 0, 1) := by decide +kernel
theorem dX0_write_49 : decode cX0_write 49 = .ok (.getfield 21, 3) := by decide +kernel
theorem dX0_write_52 : decode cX0_write 52 = .ok (.iconst 1, 1) := by decide +kernel
theorem dX0_write_53 : decode cX0_write 53 = .ok (.iadd, 1) := by decide +kernel
theorem dX0_write_54 : decode cX0_write 54 = .ok (.bipush 20, 2) := by decide +kernel
theorem dX0_write_56 : decode cX0_write 56 = .ok (.if_icmp .ne 7, 3) := by decide +kernel
theorem dX0_write_59 : decode cX0_write 59 = .ok (.iconst 0, 1) := by decide +kernel
theorem dX0_write_60 : decode cX0_write 60 = .ok (.goto 9, 3) := by decide +kernel
theorem dX0_write_63 : decode cX0_write 63 = .ok (.aload_n 0, 1) := by decide +kernel
theorem dX0_write_64 : decode cX0_write 64 = .ok (.getfield 21, 3) := by decide +kernel
theorem dX0_write_67 : decode cX0_write 67 = .ok (.iconst 1, 1) := by decide +kernel
theorem dX0_write_68 : decode cX0_write 68 = .ok (.iadd, 1) := by decide +kernel
theorem dX0_write_69 : decode cX0_write 69 = .ok (.putfield 21, 3) := by decide +kernel
theorem dX0_write_72 : decode cX0_write 72 = .ok (.aload_n 0, 1) := by decide +kernel
theorem dX0_write_73 : decode cX0_write 73 = .ok (.aload_n 0, 1) := by decide +kernel
theorem dX0_write_74 : decode cX0_write 74 = .ok (.getfield 25, 3) := by decide +kernel
theorem dX0_write_77 : decode cX0_write 77 = .ok (.iconst 1, 1) := by decide +kernel
theorem dX0_write_78 : decode cX0_write 78 = .ok (.iadd, 1) := by decide +kernel
theorem dX0_write_79 : decode cX0_write 79 = .ok (.bipush 20, 2) := by decide +kernel
theorem dX0_write_81 : decode cX0_write 81 = .ok (.invokestatic 34, 3) := by decide +kernel
theorem dX0_write_84 : decode cX0_write 84 = .ok (.putfield 25, 3) := by decide +kernel
theorem dX0_write_87 : decode cX0_write 87 = .ok (.return_, 1) := by decide +kernel
set_option maxRecDepth 20000 in
theorem ggX1_init_X3_init : GoodIn wsX1_init wsX3_init := goodIn_r _ [12, 13, 2, 3, 14, 15, 16, 17, 18, 19, 20, 21, 22, 23, 24, 25, 26, 27, 28, 29, 30, 31, 32, 33, 34, 38, 39, 40, 41, 42, 43, 44, 45, 46, 47, 48, 49, 50, 51, 52, 53, 54, 55] (by decide +kernel) (by decide +kernel)
set_option maxRecDepth 20000 in
theorem gX1_init_X3_init : GoodIn wsX1_init (wsX3_init) := ggX1_init_X3_init
theorem dX1_init_0 : decode cX1_init 0 = .ok (.aload_n 0, 1) := by decide +kernel
theorem dX1_init_1 : decode cX1_init 1 = .ok (.invokespecial 3, 3) := by decide +kernel
theorem dX1_init_4 : decode cX1_init 4 = .ok (.aload_n 0, 1) := by decide +kernel
theorem dX1_init_5 : decode cX1_init 5 = .ok (.bipush 8, 2) := by decide +kernel
theorem dX1_init_7 : decode cX1_init 7 = .ok (.anewarray 9, 3) := by decide +kernel
theorem dX1_init_10 : decode cX1_init 10 = .ok (.putfield 11, 3) := by decide +kernel
theorem dX1_init_13 : decode cX1_init 13 = .ok (.aload_n 0, 1) := by decide +kernel
theorem dX1_init_14 : decode cX1_init 14 = .ok (.iconst 0, 1) := by decide +kernel
theorem dX1_init_15 : decode cX1_init 15 = .ok (.putfield 17, 3) := by decide +kernel
theorem dX1_init_18 : decode cX1_init 18 = .ok (.aload_n 0, 1) := by decide +kernel
theorem dX1_init_19 : decode cX1_init 19 = .ok (.iconst 0, 1) := by decide +kernel
theorem dX1_init_20 : decode cX1_init 20 = .ok (.putfield 21, 3) := by decide +kernel
theorem dX1_init_23 : decode cX1_init 23 = .ok (.iconst 0, 1) := by decide +kernel
theorem dX1_init_24 : decode cX1_init 24 = .ok (.istore_n 1, 1) := by decide +kernel
theorem dX1_init_25 : decode cX1_init 25 = .ok (.iload_n 1, 1) := by decide +kernel
theorem dX1_init_26 : decode cX1_init 26 = .ok (.bipush 8, 2) := by decide +kernel
theorem dX1_init_28 : decode cX1_init 28 = .ok (.if_icmp .ge 22, 3) := by decide +kernel
theorem dX1_init_31 : decode cX1_init 31 = .ok (.aload_n 0, 1) := by decide +kernel
theorem dX1_init_32 : decode cX1_init 32 = .ok (.getfield 11, 3) := by decide +kernel
theorem dX1_init_35 : decode cX1_init 35 = .ok (.iload_n 1, 1) := by decide +kernel
theorem dX1_init_36 : decode cX1_init 36 = .ok (.new 9, 3) := by decide +kernel
theorem dX1_init_39 : decode cX1_init 39 = .ok (.dup, 1) := by decide +kernel
theorem dX1_init_40 : decode cX1_init 40 = .ok (.invokespecial 24, 3) := by decide +kernel
theorem dX1_init_43 : decode cX1_init 43 = .ok (.aastore, 1) := by decide +kernel
theorem dX1_init_44 : decode cX1_init 44 = .ok (.iinc 1 1, 3) := by decide +kernel
theorem dX1_init_47 : decode cX1_init 47 = .ok (.goto (-22), 3) := by decide +kernel
theorem dX1_init_50 : decode cX1_init 50 = .ok (.return_, 1) := by decide +kernel
set_option maxRecDepth 20000 in
theorem ggX1_remember_X3_copyFrom : GoodIn wsX1_remember wsX3_copyFrom := goodIn_r _ [12, 13, 14, 15, 16, 17, 18, 19, 20, 21, 22, 23, 24, 25, 26, 27, 28, 29, 30, 31, 32, 33, 34, 35, 36, 37, 38, 39, 40, 41, 42, 43, 44, 48, 49, 50, 51, 52, 53, 54, 55, 56, 57, 58, 59, 60, 61, 62, 63, 64, 65] (by decide +kernel) (by decide +kernel)
set_option maxRecDepth 20000 in
theorem gX1_remember_X3_copyFrom : GoodIn wsX1_remember (wsV RX1 25 RX3 yX3_copyFrom wsX3_copyFrom) := goodIn_app (goodIn_of _ (by decide +kernel)) ggX1_remember_X3_copyFrom
theorem dX1_remember_0 : decode cX1_remember 0 = .ok (.aload_n 0, 1) := by decide +kernel
theorem dX1_remember_1 : decode cX1_remember 1 = .ok (.getfield 17, 3) := by decide +kernel
theorem dX1_remember_4 : decode cX1_remember 4 = .ok (.ifCond .lt 12, 3) := by decide +kernel
theorem dX1_remember_7 : decode cX1_remember 7 = .ok (.aload_n 0, 1) := by decide +kernel
theorem dX1_remember_8 : decode cX1_remember 8 = .ok (.getfield 17, 3) := by decide +kernel
theorem dX1_remember_11 : decode cX1_remember 11 = .ok (.bipush 8, 2) := by decide +kernel
theorem dX1_remember_13 : decode cX1_remember 13 = .ok (.if_icmp .lt 4, 3) := by decide +kernel
theorem dX1_remember_17 : decode cX1_remember 17 = .ok (.aload_n 0, 1) := by decide +kernel
theorem dX1_remember_18 : decode cX1_remember 18 = .ok (.getfield 11, 3) := by decide +kernel
theorem dX1_remember_21 : decode cX1_remember 21 = .ok (.aload_n 0, 1) := by decide +kernel
theorem dX1_remember_22 : decode cX1_remember 22 = .ok (.getfield 17, 3) := by decide +kernel
theorem dX1_remember_25 : decode cX1_remember 25 = .ok (.aaload, 1) := by decide +kernel
theorem dX1_remember_26 : decode cX1_remember 26 = .ok (.aload_n 1, 1) := by decide +kernel
theorem dX1_remember_27 : decode cX1_remember 27 = .ok (.invokevirtual 25, 3) := by decide +kernel
theorem dX1_remember_30 : decode cX1_remember 30 = .ok (.aload_n 0, 1) := by decide +kernel
theorem dX1_remember_31 : decode cX1_remember 31 = .ok (.aload_n 0, 1) := by decide +kernel
theorem dX1_remember_32 : decode cX1_remember 32 = .ok (.getfield 17, 3) := by decide +kernel
theorem dX1_remember_35 : decode cX1_remember 35 = .ok (.iconst 1, 1) := by decide +kernel
theorem dX1_remember_36 : decode cX1_remember 36 = .ok (.iadd, 1) := by decide +kernel
theorem dX1_remember_37 : decode cX1_remember 37 = .ok (.bipush 8, 2) := by decide +kernel
theorem dX1_remember_39 : decode cX1_remember 39 = .ok (.if_icmp .ne 7, 3) := by decide +kernel
theorem dX1_remember_42 : decode cX1_remember 42 = .ok (.iconst 0, 1) := by decide +kernel
theorem dX1_remember_43 : decode cX1_remember 43 = .ok (.goto 9, 3) := by decide +kernel
theorem dX1_remember_46 : decode cX1_remember 46 = .ok (.aload_n 0, 1) := by decide +kernel
theorem dX1_remember_47 : decode cX1_remember 47 = .ok (.getfield 17, 3) := by decide +kernel
theorem dX1_remember_50 : decode cX1_remember 50 = .ok (.iconst 1, 1) := by decide +kernel
theorem dX1_remember_51 : decode cX1_remember 51 = .ok (.iadd, 1) := by decide +kernel
theorem dX1_remember_52 : decode cX1_remember 52 = .ok (.putfield 17, 3) := by decide +kernel
theorem dX1_remember_55 : decode cX1_remember 55 = .ok (.aload_n 0, 1) := by decide +kernel
theorem dX1_remember_56 : decode cX1_remember 56 = .ok (.aload_n 0, 1) := by decide +kernel
theorem dX1_remember_57 : decode cX1_remember 57 = .ok (.getfield 21, 3) := by decide +kernel
theorem dX1_remember_60 : decode cX1_remember 60 = .ok (.iconst 1, 1) := by decide +kernel
theorem dX1_remember_61 : decode cX1_remember 61 = .ok (.iadd, 1) := by decide +kernel
theorem dX1_remember_62 : decode cX1_remember 62 = .ok (.bipush 8, 2) := by decide +kernel
theorem dX1_remember_64 : decode cX1_remember 64 = .ok (.invokestatic 29, 3) := by decide +kernel
theorem dX1_remember_67 : decode cX1_remember 67 = .ok (.putfield 21, 3) := by decide +kernel
theorem dX1_remember_70 : decode cX1_remember 70 = .ok (.return_, 1) := by decide +kernel
theorem dX2_init_0 : decode cX2_init 0 = .ok (.aload_n 0, 1) := by decide +kernel
theorem dX2_init_1 : decode cX2_init 1 = .ok (.invokespecial 3, 3) := by decide +kernel
theorem dX2_init_4 : decode cX2_init 4 = .ok (.return_, 1) := by decide +kernel
theorem dX2_copyFrom_0 : decode cX2_copyFrom 0 = .ok (.aload_n 0, 1) := by decide +kernel
theorem dX2_copyFrom_1 : decode cX2_copyFrom 1 = .ok (.aload_n 1, 1) := by decide +kernel
theorem dX2_copyFrom_2 : decode cX2_copyFrom 2 = .ok (.getfield 9, 3) := by decide +kernel
theorem dX2_copyFrom_5 : decode cX2_copyFrom 5 = .ok (.putfield 9, 3) := by decide +kernel
theorem dX2_copyFrom_8 : decode cX2_copyFrom 8 = .ok (.aload_n 0, 1) := by decide +kernel
theorem dX2_copyFrom_9 : decode cX2_copyFrom 9 = .ok (.aload_n 1, 1) := by decide +kernel
theorem dX2_copyFrom_10 : decode cX2_copyFrom 10 = .ok (.getfield 15, 3) := by decide +kernel
theorem dX2_copyFrom_13 : decode cX2_copyFrom 13 = .ok (.putfield 15, 3) := by decide +kernel
theorem dX2_copyFrom_16 : decode cX2_copyFrom 16 = .ok (.aload_n 0, 1) := by decide +kernel
theorem dX2_copyFrom_17 : decode cX2_copyFrom 17 = .ok (.aload_n 1, 1) := by decide +kernel
theorem dX2_copyFrom_18 : decode cX2_copyFrom 18 = .ok (.getfield 18, 3) := by decide +kernel
theorem dX2_copyFrom_21 : decode cX2_copyFrom 21 = .ok (.putfield 18, 3) := by decide +kernel
theorem dX2_copyFrom_24 : decode cX2_copyFrom 24 = .ok (.aload_n 0, 1) := by decide +kernel
theorem dX2_copyFrom_25 : decode cX2_copyFrom 25 = .ok (.aload_n 1, 1) := by decide +kernel
theorem dX2_copyFrom_26 : decode cX2_copyFrom 26 = .ok (.getfield 21, 3) := by decide +kernel
theorem dX2_copyFrom_29 : decode cX2_copyFrom 29 = .ok (.putfield 21, 3) := by decide +kernel
theorem dX2_copyFrom_32 : decode cX2_copyFrom 32 = .ok (.aload_n 0, 1) := by decide +kernel
theorem dX2_copyFrom_33 : decode cX2_copyFrom 33 = .ok (.aload_n 1, 1) := by decide +kernel
theorem dX2_copyFrom_34 : decode cX2_copyFrom 34 = .ok (.getfield 24, 3) := by decide +kernel
theorem dX2_copyFrom_37 : decode cX2_copyFrom 37 = .ok (.putfield 24, 3) := by decide +kernel
theorem dX2_copyFrom_40 : decode cX2_copyFrom 40 = .ok (.aload_n 0, 1) := by decide +kernel
theorem dX2_copyFrom_41 : decode cX2_copyFrom 41 = .ok (.aload_n 1, 1) := by decide +kernel
theorem dX2_copyFrom_42 : decode cX2_copyFrom 42 = .ok (.getfield 27, 3) := by decide +kernel
theorem dX2_copyFrom_45 : decode cX2_copyFrom 45 = .ok (.putfield 27, 3) := by decide +kernel
theorem dX2_copyFrom_48 : decode cX2_copyFrom 48 = .ok (.aload_n 0, 1) := by decide +kernel
theorem dX2_copyFrom_49 : decode cX2_copyFrom 49 = .ok (.aload_n 1, 1) := by decide +kernel
theorem dX2_copyFrom_50 : decode cX2_copyFrom 50 = .ok (.getfield 30, 3) := by decide +kernel
theorem dX2_copyFrom_53 : decode cX2_copyFrom 53 = .ok (.putfield 30, 3) := by decide +kernel
theorem dX2_copyFrom_56 : decode cX2_copyFrom 56 = .ok (.aload_n 0, 1) := by decide +kernel
theorem dX2_copyFrom_57 : decode cX2_copyFrom 57 = .ok (.aload_n 1, 1) := by decide +kernel
theorem dX2_copyFrom_58 : decode cX2_copyFrom 58 = .ok (.getfield 33, 3) := by decide +kernel
theorem dX2_copyFrom_61 : decode cX2_copyFrom 61 = .ok (.putfield 33, 3) := by decide +kernel
theorem dX2_copyFrom_64 : decode cX2_copyFrom 64 = .ok (.aload_n 0, 1) := by decide +kernel
theorem dX2_copyFrom_65 : decode cX2_copyFrom 65 = .ok (.aload_n 1, 1) := by decide +kernel
theorem dX2_copyFrom_66 : decode cX2_copyFrom 66 = .ok (.getfield 36, 3) := by decide +kernel
theorem dX2_copyFrom_69 : decode cX2_copyFrom 69 = .ok (.putfield 36, 3) := by decide +kernel
theorem dX2_copyFrom_72 : decode cX2_copyFrom 72 = .ok (.aload_n 0, 1) := by decide +kernel
theorem dX2_copyFrom_73 : decode cX2_copyFrom 73 = .ok (.aload_n 1, 1) := by decide +kernel
theorem dX2_copyFrom_74 : decode cX2_copyFrom 74 = .ok (.getfield 39, 3) := by decide +kernel
theorem dX2_copyFrom_77 : decode cX2_copyFrom 77 = .ok (.putfield 39, 3) := by decide +kernel
theorem dX2_copyFrom_80 : decode cX2_copyFrom 80 = .ok (.return_, 1) := by decide +kernel
set_option maxRecDepth 20000 in
theorem ggX2_begin_X2_levelFor : GoodIn wsX2_begin wsX2_levelFor := goodIn_r _ [15, 2, 16, 17, 18, 14, 19, 8, 3, 20, 21, 22, 23, 24, 25, 26, 27, 28, 29, 30, 31, 32, 33, 34] (by decide +kernel) (by decide +kernel)
set_option maxRecDepth 20000 in
theorem gX2_begin_X2_levelFor : GoodIn wsX2_begin (wsV RX2 42 RX2 yX2_levelFor wsX2_levelFor) := goodIn_app (goodIn_of _ (by decide +kernel)) ggX2_begin_X2_levelFor
theorem dX2_begin_0 : decode cX2_begin 0 = .ok (.aload_n 0, 1) := by decide +kernel
theorem dX2_begin_1 : decode cX2_begin 1 = .ok (.iload_n 1, 1) := by decide +kernel
theorem dX2_begin_2 : decode cX2_begin 2 = .ok (.putfield 9, 3) := by decide +kernel
theorem dX2_begin_5 : decode cX2_begin 5 = .ok (.aload_n 0, 1) := by decide +kernel
theorem dX2_begin_6 : decode cX2_begin 6 = .ok (.iload_n 1, 1) := by decide +kernel
theorem dX2_begin_7 : decode cX2_begin 7 = .ok (.putfield 15, 3) := by decide +kernel
theorem dX2_begin_10 : decode cX2_begin 10 = .ok (.aload_n 0, 1) := by decide +kernel
theorem dX2_begin_11 : decode cX2_begin 11 = .ok (.iconst 0, 1) := by decide +kernel
theorem dX2_begin_12 : decode cX2_begin 12 = .ok (.putfield 27, 3) := by decide +kernel
theorem dX2_begin_15 : decode cX2_begin 15 = .ok (.aload_n 0, 1) := by decide +kernel
theorem dX2_begin_16 : decode cX2_begin 16 = .ok (.iconst 0, 1) := by decide +kernel
theorem dX2_begin_17 : decode cX2_begin 17 = .ok (.putfield 30, 3) := by decide +kernel
theorem dX2_begin_20 : decode cX2_begin 20 = .ok (.aload_n 0, 1) := by decide +kernel
theorem dX2_begin_21 : decode cX2_begin 21 = .ok (.iconst 0, 1) := by decide +kernel
theorem dX2_begin_22 : decode cX2_begin 22 = .ok (.putfield 33, 3) := by decide +kernel
theorem dX2_begin_25 : decode cX2_begin 25 = .ok (.aload_n 0, 1) := by decide +kernel
theorem dX2_begin_26 : decode cX2_begin 26 = .ok (.iconst 0, 1) := by decide +kernel
theorem dX2_begin_27 : decode cX2_begin 27 = .ok (.putfield 36, 3) := by decide +kernel
theorem dX2_begin_30 : decode cX2_begin 30 = .ok (.aload_n 0, 1) := by decide +kernel
theorem dX2_begin_31 : decode cX2_begin 31 = .ok (.iconst 0, 1) := by decide +kernel
theorem dX2_begin_32 : decode cX2_begin 32 = .ok (.putfield 39, 3) := by decide +kernel
theorem dX2_begin_35 : decode cX2_begin 35 = .ok (.aload_n 0, 1) := by decide +kernel
theorem dX2_begin_36 : decode cX2_begin 36 = .ok (.iload_n 2, 1) := by decide +kernel
theorem dX2_begin_37 : decode cX2_begin 37 = .ok (.putfield 18, 3) := by decide +kernel
theorem dX2_begin_40 : decode cX2_begin 40 = .ok (.aload_n 0, 1) := by decide +kernel
theorem dX2_begin_41 : decode cX2_begin 41 = .ok (.iload_n 3, 1) := by decide +kernel
theorem dX2_begin_42 : decode cX2_begin 42 = .ok (.putfield 21, 3) := by decide +kernel
theorem dX2_begin_45 : decode cX2_begin 45 = .ok (.aload_n 0, 1) := by decide +kernel
theorem dX2_begin_46 : decode cX2_begin 46 = .ok (.aload_n 0, 1) := by decide +kernel
theorem dX2_begin_47 : decode cX2_begin 47 = .ok (.iload_n 3, 1) := by decide +kernel
theorem dX2_begin_48 : decode cX2_begin 48 = .ok (.invokevirtual 42, 3) := by decide +kernel
theorem dX2_begin_51 : decode cX2_begin 51 = .ok (.putfield 24, 3) := by decide +kernel
theorem dX2_begin_54 : decode cX2_begin 54 = .ok (.return_, 1) := by decide +kernel
theorem dX2_isRunning_0 : decode cX2_isRunning 0 = .ok (.aload_n 0, 1) := by decide +kernel
theorem dX2_isRunning_1 : decode cX2_isRunning 1 = .ok (.getfield 15, 3) := by decide +kernel
theorem dX2_isRunning_4 : decode cX2_isRunning 4 = .ok (.ifCond .le 7, 3) := by decide +kernel
theorem dX2_isRunning_7 : decode cX2_isRunning 7 = .ok (.iconst 1, 1) := by decide +kernel
theorem dX2_isRunning_8 : decode cX2_isRunning 8 = .ok (.goto 4, 3) := by decide +kernel
theorem dX2_isRunning_11 : decode cX2_isRunning 11 = .ok (.iconst 0, 1) := by decide +kernel
theorem dX2_isRunning_12 : decode cX2_isRunning 12 = .ok (.ireturn, 1) := by decide +kernel
theorem dX2_canReduce_0 : decode cX2_canReduce 0 = .ok (.aload_n 0, 1) := by decide +kernel
theorem dX2_canReduce_1 : decode cX2_canReduce 1 = .ok (.getfield 15, 3) := by decide +kernel
theorem dX2_canReduce_4 : decode cX2_canReduce 4 = .ok (.ifCond .le 15, 3) := by decide +kernel
theorem dX2_canReduce_7 : decode cX2_canReduce 7 = .ok (.iload_n 1, 1) := by decide +kernel
theorem dX2_canReduce_8 : decode cX2_canReduce 8 = .ok (.aload_n 0, 1) := by decide +kernel
theorem dX2_canReduce_9 : decode cX2_canReduce 9 = .ok (.getfield 15, 3) := by decide +kernel
theorem dX2_canReduce_12 : decode cX2_canReduce 12 = .ok (.if_icmp .gt 7, 3) := by decide +kernel
theorem dX2_canReduce_15 : decode cX2_canReduce 15 = .ok (.iconst 1, 1) := by decide +kernel
theorem dX2_canReduce_16 : decode cX2_canReduce 16 = .ok (.goto 4, 3) := by decide +kernel
theorem dX2_canReduce_19 : decode cX2_canReduce 19 = .ok (.iconst 0, 1) := by decide +kernel
theorem dX2_canReduce_20 : decode cX2_canReduce 20 = .ok (.ireturn, 1) := by decide +kernel
set_option maxRecDepth 20000 in
theorem ggX2_canDefer_X2_nextInterest : GoodIn wsX2_canDefer wsX2_nextInterest := goodIn_r _ [8, 1, 9, 10, 11, 12, 13, 14, 15, 16, 17, 18, 19, 20, 21] (by decide +kernel) (by decide +kernel)
set_option maxRecDepth 20000 in
theorem gX2_canDefer_X2_nextInterest : GoodIn wsX2_canDefer (wsV RX2 46 RX2 yX2_nextInterest wsX2_nextInterest) := goodIn_app (goodIn_of _ (by decide +kernel)) ggX2_canDefer_X2_nextInterest
theorem dX2_canDefer_0 : decode cX2_canDefer 0 = .ok (.aload_n 0, 1) := by decide +kernel
theorem dX2_canDefer_1 : decode cX2_canDefer 1 = .ok (.getfield 15, 3) := by decide +kernel
theorem dX2_canDefer_4 : decode cX2_canDefer 4 = .ok (.ifCond .le 30, 3) := by decide +kernel
theorem dX2_canDefer_7 : decode cX2_canDefer 7 = .ok (.aload_n 0, 1) := by decide +kernel
theorem dX2_canDefer_8 : decode cX2_canDefer 8 = .ok (.getfield 39, 3) := by decide +kernel
theorem dX2_canDefer_11 : decode cX2_canDefer 11 = .ok (.bipush 6, 2) := by decide +kernel
theorem dX2_canDefer_13 : decode cX2_canDefer 13 = .ok (.if_icmp .ge 21, 3) := by decide +kernel
theorem dX2_canDefer_16 : decode cX2_canDefer 16 = .ok (.aload_n 0, 1) := by decide +kernel
theorem dX2_canDefer_17 : decode cX2_canDefer 17 = .ok (.getfield 15, 3) := by decide +kernel
theorem dX2_canDefer_20 : decode cX2_canDefer 20 = .ok (.aload_n 0, 1) := by decide +kernel
theorem dX2_canDefer_21 : decode cX2_canDefer 21 = .ok (.invokevirtual 46, 3) := by decide +kernel
theorem dX2_canDefer_24 : decode cX2_canDefer 24 = .ok (.iadd, 1) := by decide +kernel
theorem dX2_canDefer_25 : decode cX2_canDefer 25 = .ok (.ldc 50, 2) := by decide +kernel
theorem dX2_canDefer_27 : decode cX2_canDefer 27 = .ok (.if_icmp .gt 7, 3) := by decide +kernel
theorem dX2_canDefer_30 : decode cX2_canDefer 30 = .ok (.iconst 1, 1) := by decide +kernel
theorem dX2_canDefer_31 : decode cX2_canDefer 31 = .ok (.goto 4, 3) := by decide +kernel
theorem dX2_canDefer_34 : decode cX2_canDefer 34 = .ok (.iconst 0, 1) := by decide +kernel
theorem dX2_canDefer_35 : decode cX2_canDefer 35 = .ok (.ireturn, 1) := by decide +kernel
theorem dX2_canLengthen_0 : decode cX2_canLengthen 0 = .ok (.aload_n 0, 1) := by decide +kernel
theorem dX2_canLengthen_1 : decode cX2_canLengthen 1 = .ok (.getfield 15, 3) := by decide +kernel
theorem dX2_canLengthen_4 : decode cX2_canLengthen 4 = .ok (.ifCond .le 18, 3) := by decide +kernel
theorem dX2_canLengthen_7 : decode cX2_canLengthen 7 = .ok (.aload_n 0, 1) := by decide +kernel
theorem dX2_canLengthen_8 : decode cX2_canLengthen 8 = .ok (.getfield 21, 3) := by decide +kernel
theorem dX2_canLengthen_11 : decode cX2_canLengthen 11 = .ok (.iload_n 1, 1) := by decide +kernel
theorem dX2_canLengthen_12 : decode cX2_canLengthen 12 = .ok (.iadd, 1) := by decide +kernel
theorem dX2_canLengthen_13 : decode cX2_canLengthen 13 = .ok (.bipush 120, 2) := by decide +kernel
theorem dX2_canLengthen_15 : decode cX2_canLengthen 15 = .ok (.if_icmp .gt 7, 3) := by decide +kernel
theorem dX2_canLengthen_18 : decode cX2_canLengthen 18 = .ok (.iconst 1, 1) := by decide +kernel
theorem dX2_canLengthen_19 : decode cX2_canLengthen 19 = .ok (.goto 4, 3) := by decide +kernel
theorem dX2_canLengthen_22 : decode cX2_canLengthen 22 = .ok (.iconst 0, 1) := by decide +kernel
theorem dX2_canLengthen_23 : decode cX2_canLengthen 23 = .ok (.ireturn, 1) := by decide +kernel
theorem dX2_nextInterest_0 : decode cX2_nextInterest 0 = .ok (.aload_n 0, 1) := by decide +kernel
theorem dX2_nextInterest_1 : decode cX2_nextInterest 1 = .ok (.getfield 15, 3) := by decide +kernel
theorem dX2_nextInterest_4 : decode cX2_nextInterest 4 = .ok (.i2l, 1) := by decide +kernel
theorem dX2_nextInterest_5 : decode cX2_nextInterest 5 = .ok (.aload_n 0, 1) := by decide +kernel
theorem dX2_nextInterest_6 : decode cX2_nextInterest 6 = .ok (.getfield 18, 3) := by decide +kernel
theorem dX2_nextInterest_9 : decode cX2_nextInterest 9 = .ok (.i2l, 1) := by decide +kernel
theorem dX2_nextInterest_10 : decode cX2_nextInterest 10 = .ok (.lmul, 1) := by decide +kernel
theorem dX2_nextInterest_11 : decode cX2_nextInterest 11 = .ok (.aload_n 0, 1) := by decide +kernel
theorem dX2_nextInterest_12 : decode cX2_nextInterest 12 = .ok (.getfield 27, 3) := by decide +kernel
theorem dX2_nextInterest_15 : decode cX2_nextInterest 15 = .ok (.i2l, 1) := by decide +kernel
theorem dX2_nextInterest_16 : decode cX2_nextInterest 16 = .ok (.ladd, 1) := by decide +kernel
theorem dX2_nextInterest_17 : decode cX2_nextInterest 17 = .ok (.ldc2_w 51, 3) := by decide +kernel
theorem dX2_nextInterest_20 : decode cX2_nextInterest 20 = .ok (.ldiv, 1) := by decide +kernel
theorem dX2_nextInterest_21 : decode cX2_nextInterest 21 = .ok (.l2i, 1) := by decide +kernel
theorem dX2_nextInterest_22 : decode cX2_nextInterest 22 = .ok (.ireturn, 1) := by decide +kernel
set_option maxRecDepth 20000 in
theorem ggX2_nextDue_X2_nextInterest : GoodIn wsX2_nextDue wsX2_nextInterest := goodIn_r _ [6, 1, 7, 8, 9, 16, 17, 18, 19, 20, 21, 22, 23, 24, 25] (by decide +kernel) (by decide +kernel)
set_option maxRecDepth 20000 in
theorem gX2_nextDue_X2_nextInterest : GoodIn wsX2_nextDue (wsV RX2 46 RX2 yX2_nextInterest wsX2_nextInterest) := goodIn_app (goodIn_of _ (by decide +kernel)) ggX2_nextDue_X2_nextInterest
set_option maxRecDepth 20000 in
theorem ggX2_nextDue_X2_partDue : GoodIn wsX2_nextDue wsX2_partDue := goodIn_r _ [13, 14, 15, 16, 17, 18, 19, 20, 21, 22, 23, 24, 25] (by decide +kernel) (by decide +kernel)
set_option maxRecDepth 20000 in
theorem gX2_nextDue_X2_partDue : GoodIn wsX2_nextDue (wsV RX2 53 RX2 yX2_partDue wsX2_partDue) := goodIn_app (goodIn_of _ (by decide +kernel)) ggX2_nextDue_X2_partDue
theorem dX2_nextDue_0 : decode cX2_nextDue 0 = .ok (.aload_n 0, 1) := by decide +kernel
theorem dX2_nextDue_1 : decode cX2_nextDue 1 = .ok (.aload_n 0, 1) := by decide +kernel
theorem dX2_nextDue_2 : decode cX2_nextDue 2 = .ok (.getfield 15, 3) := by decide +kernel
theorem dX2_nextDue_5 : decode cX2_nextDue 5 = .ok (.aload_n 0, 1) := by decide +kernel
theorem dX2_nextDue_6 : decode cX2_nextDue 6 = .ok (.invokevirtual 46, 3) := by decide +kernel
theorem dX2_nextDue_9 : decode cX2_nextDue 9 = .ok (.iadd, 1) := by decide +kernel
theorem dX2_nextDue_10 : decode cX2_nextDue 10 = .ok (.invokevirtual 53, 3) := by decide +kernel
theorem dX2_nextDue_13 : decode cX2_nextDue 13 = .ok (.ireturn, 1) := by decide +kernel
theorem dX2_partDue_0 : decode cX2_partDue 0 = .ok (.iload_n 1, 1) := by decide +kernel
theorem dX2_partDue_1 : decode cX2_partDue 1 = .ok (.aload_n 0, 1) := by decide +kernel
theorem dX2_partDue_2 : decode cX2_partDue 2 = .ok (.getfield 24, 3) := by decide +kernel
theorem dX2_partDue_5 : decode cX2_partDue 5 = .ok (.if_icmp .le 11, 3) := by decide +kernel
theorem dX2_partDue_8 : decode cX2_partDue 8 = .ok (.aload_n 0, 1) := by decide +kernel
theorem dX2_partDue_9 : decode cX2_partDue 9 = .ok (.getfield 21, 3) := by decide +kernel
theorem dX2_partDue_12 : decode cX2_partDue 12 = .ok (.iconst 1, 1) := by decide +kernel
theorem dX2_partDue_13 : decode cX2_partDue 13 = .ok (.if_icmp .ne 7, 3) := by decide +kernel
theorem dX2_partDue_16 : decode cX2_partDue 16 = .ok (.iload_n 1, 1) := by decide +kernel
theorem dX2_partDue_17 : decode cX2_partDue 17 = .ok (.goto 7, 3) := by decide +kernel
theorem dX2_partDue_20 : decode cX2_partDue 20 = .ok (.aload_n 0, 1) := by decide +kernel
theorem dX2_partDue_21 : decode cX2_partDue 21 = .ok (.getfield 24, 3) := by decide +kernel
theorem dX2_partDue_24 : decode cX2_partDue 24 = .ok (.ireturn, 1) := by decide +kernel
theorem dX2_addInterest_0 : decode cX2_addInterest 0 = .ok (.aload_n 0, 1) := by decide +kernel
theorem dX2_addInterest_1 : decode cX2_addInterest 1 = .ok (.getfield 15, 3) := by decide +kernel
theorem dX2_addInterest_4 : decode cX2_addInterest 4 = .ok (.i2l, 1) := by decide +kernel
theorem dX2_addInterest_5 : decode cX2_addInterest 5 = .ok (.aload_n 0, 1) := by decide +kernel
theorem dX2_addInterest_6 : decode cX2_addInterest 6 = .ok (.getfield 18, 3) := by decide +kernel
theorem dX2_addInterest_9 : decode cX2_addInterest 9 = .ok (.i2l, 1) := by decide +kernel
theorem dX2_addInterest_10 : decode cX2_addInterest 10 = .ok (.lmul, 1) := by decide +kernel
theorem dX2_addInterest_11 : decode cX2_addInterest 11 = .ok (.aload_n 0, 1) := by decide +kernel
theorem dX2_addInterest_12 : decode cX2_addInterest 12 = .ok (.getfield 27, 3) := by decide +kernel
theorem dX2_addInterest_15 : decode cX2_addInterest 15 = .ok (.i2l, 1) := by decide +kernel
theorem dX2_addInterest_16 : decode cX2_addInterest 16 = .ok (.ladd, 1) := by decide +kernel
theorem dX2_addInterest_17 : decode cX2_addInterest 17 = .ok (.lstore_n 1, 1) := by decide +kernel
theorem dX2_addInterest_18 : decode cX2_addInterest 18 = .ok (.lload_n 1, 1) := by decide +kernel
theorem dX2_addInterest_19 : decode cX2_addInterest 19 = .ok (.ldc2_w 51, 3) := by decide +kernel
theorem dX2_addInterest_22 : decode cX2_addInterest 22 = .ok (.ldiv, 1) := by decide +kernel
theorem dX2_addInterest_23 : decode cX2_addInterest 23 = .ok (.l2i, 1) := by decide +kernel
theorem dX2_addInterest_24 : decode cX2_addInterest 24 = .ok (.istore_n 3, 1) := by decide +kernel
theorem dX2_addInterest_25 : decode cX2_addInterest 25 = .ok (.aload_n 0, 1) := by decide +kernel
theorem dX2_addInterest_26 : decode cX2_addInterest 26 = .ok (.lload_n 1, 1) := by decide +kernel
theorem dX2_addInterest_27 : decode cX2_addInterest 27 = .ok (.ldc2_w 51, 3) := by decide +kernel
theorem dX2_addInterest_30 : decode cX2_addInterest 30 = .ok (.lrem, 1) := by decide +kernel
theorem dX2_addInterest_31 : decode cX2_addInterest 31 = .ok (.l2i, 1) := by decide +kernel
theorem dX2_addInterest_32 : decode cX2_addInterest 32 = .ok (.putfield 27, 3) := by decide +kernel
theorem dX2_addInterest_35 : decode cX2_addInterest 35 = .ok (.aload_n 0, 1) := by decide +kernel
theorem dX2_addInterest_36 : decode cX2_addInterest 36 = .ok (.dup, 1) := by decide +kernel
theorem dX2_addInterest_37 : decode cX2_addInterest 37 = .ok (.getfield 15, 3) := by decide +kernel
theorem dX2_addInterest_40 : decode cX2_addInterest 40 = .ok (.iload_n 3, 1) := by decide +kernel
theorem dX2_addInterest_41 : decode cX2_addInterest 41 = .ok (.iadd, 1) := by decide +kernel
theorem dX2_addInterest_42 : decode cX2_addInterest 42 = .ok (.putfield 15, 3) := by decide +kernel
theorem dX2_addInterest_45 : decode cX2_addInterest 45 = .ok (.aload_n 0, 1) := by decide +kernel
theorem dX2_addInterest_46 : decode cX2_addInterest 46 = .ok (.dup, 1) := by decide +kernel
theorem dX2_addInterest_47 : decode cX2_addInterest 47 = .ok (.getfield 30, 3) := by decide +kernel
theorem dX2_addInterest_50 : decode cX2_addInterest 50 = .ok (.iload_n 3, 1) := by decide +kernel
theorem dX2_addInterest_51 : decode cX2_addInterest 51 = .ok (.iadd, 1) := by decide +kernel
theorem dX2_addInterest_52 : decode cX2_addInterest 52 = .ok (.putfield 30, 3) := by decide +kernel
theorem dX2_addInterest_55 : decode cX2_addInterest 55 = .ok (.iload_n 3, 1) := by decide +kernel
theorem dX2_addInterest_56 : decode cX2_addInterest 56 = .ok (.ireturn, 1) := by decide +kernel
theorem dX2_takeOff_0 : decode cX2_takeOff 0 = .ok (.aload_n 0, 1) := by decide +kernel
theorem dX2_takeOff_1 : decode cX2_takeOff 1 = .ok (.dup, 1) := by decide +kernel
theorem dX2_takeOff_2 : decode cX2_takeOff 2 = .ok (.getfield 15, 3) := by decide +kernel
theorem dX2_takeOff_5 : decode cX2_takeOff 5 = .ok (.iload_n 1, 1) := by decide +kernel
theorem dX2_takeOff_6 : decode cX2_takeOff 6 = .ok (.isub, 1) := by decide +kernel
theorem dX2_takeOff_7 : decode cX2_takeOff 7 = .ok (.putfield 15, 3) := by decide +kernel
theorem dX2_takeOff_10 : decode cX2_takeOff 10 = .ok (.aload_n 0, 1) := by decide +kernel
theorem dX2_takeOff_11 : decode cX2_takeOff 11 = .ok (.dup, 1) := by decide +kernel
theorem dX2_takeOff_12 : decode cX2_takeOff 12 = .ok (.getfield 33, 3) := by decide +kernel
theorem dX2_takeOff_15 : decode cX2_takeOff 15 = .ok (.iload_n 1, 1) := by decide +kernel
theorem dX2_takeOff_16 : decode cX2_takeOff 16 = .ok (.iadd, 1) := by decide +kernel
theorem dX2_takeOff_17 : decode cX2_takeOff 17 = .ok (.putfield 33, 3) := by decide +kernel
theorem dX2_takeOff_20 : decode cX2_takeOff 20 = .ok (.aload_n 0, 1) := by decide +kernel
theorem dX2_takeOff_21 : decode cX2_takeOff 21 = .ok (.getfield 15, 3) := by decide +kernel
theorem dX2_takeOff_24 : decode cX2_takeOff 24 = .ok (.ifCond .ne 18, 3) := by decide +kernel
theorem dX2_takeOff_27 : decode cX2_takeOff 27 = .ok (.aload_n 0, 1) := by decide +kernel
theorem dX2_takeOff_28 : decode cX2_takeOff 28 = .ok (.iconst 0, 1) := by decide +kernel
theorem dX2_takeOff_29 : decode cX2_takeOff 29 = .ok (.putfield 21, 3) := by decide +kernel
theorem dX2_takeOff_32 : decode cX2_takeOff 32 = .ok (.aload_n 0, 1) := by decide +kernel
theorem dX2_takeOff_33 : decode cX2_takeOff 33 = .ok (.iconst 0, 1) := by decide +kernel
theorem dX2_takeOff_34 : decode cX2_takeOff 34 = .ok (.putfield 24, 3) := by decide +kernel
theorem dX2_takeOff_37 : decode cX2_takeOff 37 = .ok (.aload_n 0, 1) := by decide +kernel
theorem dX2_takeOff_38 : decode cX2_takeOff 38 = .ok (.iconst 0, 1) := by decide +kernel
theorem dX2_takeOff_39 : decode cX2_takeOff 39 = .ok (.putfield 27, 3) := by decide +kernel
theorem dX2_takeOff_42 : decode cX2_takeOff 42 = .ok (.return_, 1) := by decide +kernel
set_option maxRecDepth 20000 in
theorem ggX2_settleMonth_X2_addInterest : GoodIn wsX2_settleMonth wsX2_addInterest := goodIn_r _ [8, 1, 9, 10, 11, 12, 23, 24, 25, 26, 27, 28, 29, 30, 31, 32] (by decide +kernel) (by decide +kernel)
set_option maxRecDepth 20000 in
theorem gX2_settleMonth_X2_addInterest : GoodIn wsX2_settleMonth (wsV RX2 56 RX2 yX2_addInterest wsX2_addInterest) := goodIn_app (goodIn_of _ (by decide +kernel)) ggX2_settleMonth_X2_addInterest
set_option maxRecDepth 20000 in
theorem ggX2_settleMonth_X2_partDue : GoodIn wsX2_settleMonth wsX2_partDue := goodIn_r _ [16, 17, 2, 23, 24, 25, 26, 27, 28, 29, 30, 31, 32] (by decide +kernel) (by decide +kernel)
set_option maxRecDepth 20000 in
theorem gX2_settleMonth_X2_partDue : GoodIn wsX2_settleMonth (wsV RX2 53 RX2 yX2_partDue wsX2_partDue) := goodIn_app (goodIn_of _ (by decide +kernel)) ggX2_settleMonth_X2_partDue
set_option maxRecDepth 20000 in
theorem ggX2_settleMonth_X2_takeOff : GoodIn wsX2_settleMonth wsX2_takeOff := goodIn_r _ [21, 1, 22, 2, 17, 10, 23, 24, 25, 26, 27, 28, 29, 30, 31, 32] (by decide +kernel) (by decide +kernel)
set_option maxRecDepth 20000 in
theorem gX2_settleMonth_X2_takeOff : GoodIn wsX2_settleMonth (wsV RX2 59 RX2 yX2_takeOff wsX2_takeOff) := goodIn_app (goodIn_of _ (by decide +kernel)) ggX2_settleMonth_X2_takeOff
theorem dX2_settleMonth_0 : decode cX2_settleMonth 0 = .ok (.aload_n 0, 1) := by decide +kernel
theorem dX2_settleMonth_1 : decode cX2_settleMonth 1 = .ok (.invokevirtual 56, 3) := by decide +kernel
theorem dX2_settleMonth_4 : decode cX2_settleMonth 4 = .ok (.pop, 1) := by decide +kernel
theorem dX2_settleMonth_5 : decode cX2_settleMonth 5 = .ok (.aload_n 0, 1) := by decide +kernel
theorem dX2_settleMonth_6 : decode cX2_settleMonth 6 = .ok (.aload_n 0, 1) := by decide +kernel
theorem dX2_settleMonth_7 : decode cX2_settleMonth 7 = .ok (.getfield 15, 3) := by decide +kernel
theorem dX2_settleMonth_10 : decode cX2_settleMonth 10 = .ok (.invokevirtual 53, 3) := by decide +kernel
theorem dX2_settleMonth_13 : decode cX2_settleMonth 13 = .ok (.istore_n 1, 1) := by decide +kernel
theorem dX2_settleMonth_14 : decode cX2_settleMonth 14 = .ok (.aload_n 0, 1) := by decide +kernel
theorem dX2_settleMonth_15 : decode cX2_settleMonth 15 = .ok (.dup, 1) := by decide +kernel
theorem dX2_settleMonth_16 : decode cX2_settleMonth 16 = .ok (.getfield 21, 3) := by decide +kernel
theorem dX2_settleMonth_19 : decode cX2_settleMonth 19 = .ok (.iconst 1, 1) := by decide +kernel
theorem dX2_settleMonth_20 : decode cX2_settleMonth 20 = .ok (.isub, 1) := by decide +kernel
theorem dX2_settleMonth_21 : decode cX2_settleMonth 21 = .ok (.putfield 21, 3) := by decide +kernel
theorem dX2_settleMonth_24 : decode cX2_settleMonth 24 = .ok (.aload_n 0, 1) := by decide +kernel
theorem dX2_settleMonth_25 : decode cX2_settleMonth 25 = .ok (.dup, 1) := by decide +kernel
theorem dX2_settleMonth_26 : decode cX2_settleMonth 26 = .ok (.getfield 36, 3) := by decide +kernel
theorem dX2_settleMonth_29 : decode cX2_settleMonth 29 = .ok (.iconst 1, 1) := by decide +kernel
theorem dX2_settleMonth_30 : decode cX2_settleMonth 30 = .ok (.iadd, 1) := by decide +kernel
theorem dX2_settleMonth_31 : decode cX2_settleMonth 31 = .ok (.putfield 36, 3) := by decide +kernel
theorem dX2_settleMonth_34 : decode cX2_settleMonth 34 = .ok (.aload_n 0, 1) := by decide +kernel
theorem dX2_settleMonth_35 : decode cX2_settleMonth 35 = .ok (.iload_n 1, 1) := by decide +kernel
theorem dX2_settleMonth_36 : decode cX2_settleMonth 36 = .ok (.invokevirtual 59, 3) := by decide +kernel
theorem dX2_settleMonth_39 : decode cX2_settleMonth 39 = .ok (.iload_n 1, 1) := by decide +kernel
theorem dX2_settleMonth_40 : decode cX2_settleMonth 40 = .ok (.ireturn, 1) := by decide +kernel
set_option maxRecDepth 20000 in
theorem ggX2_settleMonths_X2_settleMonth : GoodIn wsX2_settleMonths wsX2_settleMonth := goodIn_r _ [6, 1, 7, 8, 9, 10, 11, 5, 12, 13, 14, 15, 16, 17, 18, 19, 20, 21, 22, 23, 24, 25, 26, 27, 28, 29, 30, 31, 32, 33, 34, 35, 36] (by decide +kernel) (by decide +kernel)
set_option maxRecDepth 20000 in
theorem gX2_settleMonths_X2_settleMonth : GoodIn wsX2_settleMonths (wsV RX2 63 RX2 yX2_settleMonth wsX2_settleMonth) := goodIn_app (goodIn_of _ (by decide +kernel)) ggX2_settleMonths_X2_settleMonth
theorem dX2_settleMonths_0 : decode cX2_settleMonths 0 = .ok (.iconst 0, 1) := by decide +kernel
theorem dX2_settleMonths_1 : decode cX2_settleMonths 1 = .ok (.istore_n 2, 1) := by decide +kernel
theorem dX2_settleMonths_2 : decode cX2_settleMonths 2 = .ok (.iconst 0, 1) := by decide +kernel
theorem dX2_settleMonths_3 : decode cX2_settleMonths 3 = .ok (.istore_n 3, 1) := by decide +kernel
theorem dX2_settleMonths_4 : decode cX2_settleMonths 4 = .ok (.iload_n 3, 1) := by decide +kernel
theorem dX2_settleMonths_5 : decode cX2_settleMonths 5 = .ok (.iload_n 1, 1) := by decide +kernel
theorem dX2_settleMonths_6 : decode cX2_settleMonths 6 = .ok (.if_icmp .ge 21, 3) := by decide +kernel
theorem dX2_settleMonths_9 : decode cX2_settleMonths 9 = .ok (.aload_n 0, 1) := by decide +kernel
theorem dX2_settleMonths_10 : decode cX2_settleMonths 10 = .ok (.getfield 15, 3) := by decide +kernel
theorem dX2_settleMonths_13 : decode cX2_settleMonths 13 = .ok (.ifCond .le 14, 3) := by decide +kernel
theorem dX2_settleMonths_16 : decode cX2_settleMonths 16 = .ok (.aload_n 0, 1) := by decide +kernel
theorem dX2_settleMonths_17 : decode cX2_settleMonths 17 = .ok (.invokevirtual 63, 3) := by decide +kernel
theorem dX2_settleMonths_20 : decode cX2_settleMonths 20 = .ok (.istore_n 2, 1) := by decide +kernel
theorem dX2_settleMonths_21 : decode cX2_settleMonths 21 = .ok (.iinc 3 1, 3) := by decide +kernel
theorem dX2_settleMonths_24 : decode cX2_settleMonths 24 = .ok (.goto (-20), 3) := by decide +kernel
theorem dX2_settleMonths_27 : decode cX2_settleMonths 27 = .ok (.iload_n 2, 1) := by decide +kernel
theorem dX2_settleMonths_28 : decode cX2_settleMonths 28 = .ok (.ireturn, 1) := by decide +kernel
set_option maxRecDepth 20000 in
theorem ggX2_reduceBy_X2_takeOff : GoodIn wsX2_reduceBy wsX2_takeOff := goodIn_r _ [8, 1, 9, 2, 3, 10, 25, 26, 27, 28, 29, 30, 31, 32, 33, 34] (by decide +kernel) (by decide +kernel)
set_option maxRecDepth 20000 in
theorem gX2_reduceBy_X2_takeOff : GoodIn wsX2_reduceBy (wsV RX2 59 RX2 yX2_takeOff wsX2_takeOff) := goodIn_app (goodIn_of _ (by decide +kernel)) ggX2_reduceBy_X2_takeOff
set_option maxRecDepth 20000 in
theorem ggX2_reduceBy_X2_levelFor : GoodIn wsX2_reduceBy wsX2_levelFor := goodIn_r _ [14, 1, 15, 16, 17, 7, 18, 19, 10, 20, 21, 22, 23, 24, 25, 26, 27, 28, 29, 30, 31, 32, 33, 34] (by decide +kernel) (by decide +kernel)
set_option maxRecDepth 20000 in
theorem gX2_reduceBy_X2_levelFor : GoodIn wsX2_reduceBy (wsV RX2 42 RX2 yX2_levelFor wsX2_levelFor) := goodIn_app (goodIn_of _ (by decide +kernel)) ggX2_reduceBy_X2_levelFor
set_option maxRecDepth 20000 in
theorem ggX2_reduceBy_X2_termFor : GoodIn wsX2_reduceBy wsX2_termFor := goodIn_r _ [24, 1, 10, 19, 20, 25, 26, 27, 28, 29, 30, 31, 32, 33, 34] (by decide +kernel) (by decide +kernel)
set_option maxRecDepth 20000 in
theorem gX2_reduceBy_X2_termFor : GoodIn wsX2_reduceBy (wsV RX2 66 RX2 yX2_termFor wsX2_termFor) := goodIn_app (goodIn_of _ (by decide +kernel)) ggX2_reduceBy_X2_termFor
theorem dX2_reduceBy_0 : decode cX2_reduceBy 0 = .ok (.aload_n 0, 1) := by decide +kernel
theorem dX2_reduceBy_1 : decode cX2_reduceBy 1 = .ok (.iload_n 1, 1) := by decide +kernel
theorem dX2_reduceBy_2 : decode cX2_reduceBy 2 = .ok (.invokevirtual 59, 3) := by decide +kernel
theorem dX2_reduceBy_5 : decode cX2_reduceBy 5 = .ok (.aload_n 0, 1) := by decide +kernel
theorem dX2_reduceBy_6 : decode cX2_reduceBy 6 = .ok (.getfield 15, 3) := by decide +kernel
theorem dX2_reduceBy_9 : decode cX2_reduceBy 9 = .ok (.ifCond .ne 4, 3) := by decide +kernel
theorem dX2_reduceBy_12 : decode cX2_reduceBy 12 = .ok (.return_, 1) := by decide +kernel
theorem dX2_reduceBy_13 : decode cX2_reduceBy 13 = .ok (.iload_n 2, 1) := by decide +kernel
theorem dX2_reduceBy_14 : decode cX2_reduceBy 14 = .ok (.ifCond .eq 18, 3) := by decide +kernel
theorem dX2_reduceBy_17 : decode cX2_reduceBy 17 = .ok (.aload_n 0, 1) := by decide +kernel
theorem dX2_reduceBy_18 : decode cX2_reduceBy 18 = .ok (.aload_n 0, 1) := by decide +kernel
theorem dX2_reduceBy_19 : decode cX2_reduceBy 19 = .ok (.aload_n 0, 1) := by decide +kernel
theorem dX2_reduceBy_20 : decode cX2_reduceBy 20 = .ok (.getfield 21, 3) := by decide +kernel
theorem dX2_reduceBy_23 : decode cX2_reduceBy 23 = .ok (.invokevirtual 42, 3) := by decide +kernel
theorem dX2_reduceBy_26 : decode cX2_reduceBy 26 = .ok (.putfield 24, 3) := by decide +kernel
theorem dX2_reduceBy_29 : decode cX2_reduceBy 29 = .ok (.goto 19, 3) := by decide +kernel
theorem dX2_reduceBy_32 : decode cX2_reduceBy 32 = .ok (.aload_n 0, 1) := by decide +kernel
theorem dX2_reduceBy_33 : decode cX2_reduceBy 33 = .ok (.aload_n 0, 1) := by decide +kernel
theorem dX2_reduceBy_34 : decode cX2_reduceBy 34 = .ok (.aload_n 0, 1) := by decide +kernel
theorem dX2_reduceBy_35 : decode cX2_reduceBy 35 = .ok (.getfield 24, 3) := by decide +kernel
theorem dX2_reduceBy_38 : decode cX2_reduceBy 38 = .ok (.aload_n 0, 1) := by decide +kernel
theorem dX2_reduceBy_39 : decode cX2_reduceBy 39 = .ok (.getfield 21, 3) := by decide +kernel
theorem dX2_reduceBy_42 : decode cX2_reduceBy 42 = .ok (.invokevirtual 66, 3) := by decide +kernel
theorem dX2_reduceBy_45 : decode cX2_reduceBy 45 = .ok (.putfield 21, 3) := by decide +kernel
theorem dX2_reduceBy_48 : decode cX2_reduceBy 48 = .ok (.return_, 1) := by decide +kernel
set_option maxRecDepth 20000 in
theorem ggX2_defer_X2_addInterest : GoodIn wsX2_defer wsX2_addInterest := goodIn_r _ [8, 9, 10, 11, 12, 13, 26, 27, 28, 29, 30, 31, 32, 33, 34, 35] (by decide +kernel) (by decide +kernel)
set_option maxRecDepth 20000 in
theorem gX2_defer_X2_addInterest : GoodIn wsX2_defer (wsV RX2 56 RX2 yX2_addInterest wsX2_addInterest) := goodIn_app (goodIn_of _ (by decide +kernel)) ggX2_defer_X2_addInterest
set_option maxRecDepth 20000 in
theorem ggX2_defer_X2_levelFor : GoodIn wsX2_defer wsX2_levelFor := goodIn_r _ [17, 9, 18, 19, 20, 7, 21, 10, 11, 12, 22, 23, 24, 25, 26, 27, 28, 29, 30, 31, 32, 33, 34, 35] (by decide +kernel) (by decide +kernel)
set_option maxRecDepth 20000 in
theorem gX2_defer_X2_levelFor : GoodIn wsX2_defer (wsV RX2 42 RX2 yX2_levelFor wsX2_levelFor) := goodIn_app (goodIn_of _ (by decide +kernel)) ggX2_defer_X2_levelFor
theorem dX2_defer_0 : decode cX2_defer 0 = .ok (.aload_n 0, 1) := by decide +kernel
theorem dX2_defer_1 : decode cX2_defer 1 = .ok (.invokevirtual 56, 3) := by decide +kernel
theorem dX2_defer_4 : decode cX2_defer 4 = .ok (.istore_n 1, 1) := by decide +kernel
theorem dX2_defer_5 : decode cX2_defer 5 = .ok (.aload_n 0, 1) := by decide +kernel
theorem dX2_defer_6 : decode cX2_defer 6 = .ok (.dup, 1) := by decide +kernel
theorem dX2_defer_7 : decode cX2_defer 7 = .ok (.getfield 39, 3) := by decide +kernel
theorem dX2_defer_10 : decode cX2_defer 10 = .ok (.iconst 1, 1) := by decide +kernel
theorem dX2_defer_11 : decode cX2_defer 11 = .ok (.iadd, 1) := by decide +kernel
theorem dX2_defer_12 : decode cX2_defer 12 = .ok (.putfield 39, 3) := by decide +kernel
theorem dX2_defer_15 : decode cX2_defer 15 = .ok (.aload_n 0, 1) := by decide +kernel
theorem dX2_defer_16 : decode cX2_defer 16 = .ok (.aload_n 0, 1) := by decide +kernel
theorem dX2_defer_17 : decode cX2_defer 17 = .ok (.aload_n 0, 1) := by decide +kernel
theorem dX2_defer_18 : decode cX2_defer 18 = .ok (.getfield 21, 3) := by decide +kernel
theorem dX2_defer_21 : decode cX2_defer 21 = .ok (.invokevirtual 42, 3) := by decide +kernel
theorem dX2_defer_24 : decode cX2_defer 24 = .ok (.putfield 24, 3) := by decide +kernel
theorem dX2_defer_27 : decode cX2_defer 27 = .ok (.iload_n 1, 1) := by decide +kernel
theorem dX2_defer_28 : decode cX2_defer 28 = .ok (.ireturn, 1) := by decide +kernel
set_option maxRecDepth 20000 in
theorem ggX2_setTerms_X2_levelFor : GoodIn wsX2_setTerms wsX2_levelFor := goodIn_r _ [8, 9, 10, 11, 12, 7, 13, 1, 14, 15, 16, 17, 18, 19, 20, 21, 22, 23, 24, 25, 26, 27, 28, 29] (by decide +kernel) (by decide +kernel)
set_option maxRecDepth 20000 in
theorem gX2_setTerms_X2_levelFor : GoodIn wsX2_setTerms (wsV RX2 42 RX2 yX2_levelFor wsX2_levelFor) := goodIn_app (goodIn_of _ (by decide +kernel)) ggX2_setTerms_X2_levelFor
theorem dX2_setTerms_0 : decode cX2_setTerms 0 = .ok (.aload_n 0, 1) := by decide +kernel
theorem dX2_setTerms_1 : decode cX2_setTerms 1 = .ok (.iload_n 1, 1) := by decide +kernel
theorem dX2_setTerms_2 : decode cX2_setTerms 2 = .ok (.putfield 18, 3) := by decide +kernel
theorem dX2_setTerms_5 : decode cX2_setTerms 5 = .ok (.aload_n 0, 1) := by decide +kernel
theorem dX2_setTerms_6 : decode cX2_setTerms 6 = .ok (.iload_n 2, 1) := by decide +kernel
theorem dX2_setTerms_7 : decode cX2_setTerms 7 = .ok (.putfield 21, 3) := by decide +kernel
theorem dX2_setTerms_10 : decode cX2_setTerms 10 = .ok (.aload_n 0, 1) := by decide +kernel
theorem dX2_setTerms_11 : decode cX2_setTerms 11 = .ok (.aload_n 0, 1) := by decide +kernel
theorem dX2_setTerms_12 : decode cX2_setTerms 12 = .ok (.iload_n 2, 1) := by decide +kernel
theorem dX2_setTerms_13 : decode cX2_setTerms 13 = .ok (.invokevirtual 42, 3) := by decide +kernel
theorem dX2_setTerms_16 : decode cX2_setTerms 16 = .ok (.putfield 24, 3) := by decide +kernel
theorem dX2_setTerms_19 : decode cX2_setTerms 19 = .ok (.aload_n 0, 1) := by decide +kernel
theorem dX2_setTerms_20 : decode cX2_setTerms 20 = .ok (.getfield 24, 3) := by decide +kernel
theorem dX2_setTerms_23 : decode cX2_setTerms 23 = .ok (.ireturn, 1) := by decide +kernel
set_option maxRecDepth 20000 in
theorem ggX2_levelFor_X2_nextInterest : GoodIn wsX2_levelFor wsX2_nextInterest := goodIn_r _ [6, 1, 7, 8, 9, 14, 15, 16, 17, 18, 19, 20, 21, 22, 23] (by decide +kernel) (by decide +kernel)
set_option maxRecDepth 20000 in
theorem gX2_levelFor_X2_nextInterest : GoodIn wsX2_levelFor (wsV RX2 46 RX2 yX2_nextInterest wsX2_nextInterest) := goodIn_app (goodIn_of _ (by decide +kernel)) ggX2_levelFor_X2_nextInterest
set_option maxRecDepth 20000 in
theorem ggX2_levelFor_X2_termFor : GoodIn wsX2_levelFor wsX2_termFor := goodIn_r _ [13, 1, 8, 7, 9, 14, 15, 16, 17, 18, 19, 20, 21, 22, 23] (by decide +kernel) (by decide +kernel)
set_option maxRecDepth 20000 in
theorem gX2_levelFor_X2_termFor : GoodIn wsX2_levelFor (wsV RX2 66 RX2 yX2_termFor wsX2_termFor) := goodIn_app (goodIn_of _ (by decide +kernel)) ggX2_levelFor_X2_termFor
theorem dX2_levelFor_0 : decode cX2_levelFor 0 = .ok (.iconst 1, 1) := by decide +kernel
theorem dX2_levelFor_1 : decode cX2_levelFor 1 = .ok (.istore_n 2, 1) := by decide +kernel
theorem dX2_levelFor_2 : decode cX2_levelFor 2 = .ok (.aload_n 0, 1) := by decide +kernel
theorem dX2_levelFor_3 : decode cX2_levelFor 3 = .ok (.getfield 15, 3) := by decide +kernel
theorem dX2_levelFor_6 : decode cX2_levelFor 6 = .ok (.aload_n 0, 1) := by decide +kernel
theorem dX2_levelFor_7 : decode cX2_levelFor 7 = .ok (.invokevirtual 46, 3) := by decide +kernel
theorem dX2_levelFor_10 : decode cX2_levelFor 10 = .ok (.iadd, 1) := by decide +kernel
theorem dX2_levelFor_11 : decode cX2_levelFor 11 = .ok (.istore_n 3, 1) := by decide +kernel
theorem dX2_levelFor_12 : decode cX2_levelFor 12 = .ok (.iconst 0, 1) := by decide +kernel
theorem dX2_levelFor_13 : decode cX2_levelFor 13 = .ok (.istore 4, 2) := by decide +kernel
theorem dX2_levelFor_15 : decode cX2_levelFor 15 = .ok (.iload 4, 2) := by decide +kernel
theorem dX2_levelFor_17 : decode cX2_levelFor 17 = .ok (.bipush 32, 2) := by decide +kernel
theorem dX2_levelFor_19 : decode cX2_levelFor 19 = .ok (.if_icmp .ge 43, 3) := by decide +kernel
theorem dX2_levelFor_22 : decode cX2_levelFor 22 = .ok (.iload_n 2, 1) := by decide +kernel
theorem dX2_levelFor_23 : decode cX2_levelFor 23 = .ok (.iload_n 3, 1) := by decide +kernel
theorem dX2_levelFor_24 : decode cX2_levelFor 24 = .ok (.if_icmp .ge 38, 3) := by decide +kernel
theorem dX2_levelFor_27 : decode cX2_levelFor 27 = .ok (.iload_n 2, 1) := by decide +kernel
theorem dX2_levelFor_28 : decode cX2_levelFor 28 = .ok (.iload_n 3, 1) := by decide +kernel
theorem dX2_levelFor_29 : decode cX2_levelFor 29 = .ok (.iadd, 1) := by decide +kernel
theorem dX2_levelFor_30 : decode cX2_levelFor 30 = .ok (.iconst 2, 1) := by decide +kernel
theorem dX2_levelFor_31 : decode cX2_levelFor 31 = .ok (.idiv, 1) := by decide +kernel
theorem dX2_levelFor_32 : decode cX2_levelFor 32 = .ok (.istore 5, 2) := by decide +kernel
theorem dX2_levelFor_34 : decode cX2_levelFor 34 = .ok (.aload_n 0, 1) := by decide +kernel
theorem dX2_levelFor_35 : decode cX2_levelFor 35 = .ok (.iload 5, 2) := by decide +kernel
theorem dX2_levelFor_37 : decode cX2_levelFor 37 = .ok (.iload_n 1, 1) := by decide +kernel
theorem dX2_levelFor_38 : decode cX2_levelFor 38 = .ok (.invokevirtual 66, 3) := by decide +kernel
theorem dX2_levelFor_41 : decode cX2_levelFor 41 = .ok (.iconst (-1), 1) := by decide +kernel
theorem dX2_levelFor_42 : decode cX2_levelFor 42 = .ok (.if_icmp .ne 11, 3) := by decide +kernel
theorem dX2_levelFor_45 : decode cX2_levelFor 45 = .ok (.iload 5, 2) := by decide +kernel
theorem dX2_levelFor_47 : decode cX2_levelFor 47 = .ok (.iconst 1, 1) := by decide +kernel
theorem dX2_levelFor_48 : decode cX2_levelFor 48 = .ok (.iadd, 1) := by decide +kernel
theorem dX2_levelFor_49 : decode cX2_levelFor 49 = .ok (.istore_n 2, 1) := by decide +kernel
theorem dX2_levelFor_50 : decode cX2_levelFor 50 = .ok (.goto 6, 3) := by decide +kernel
theorem dX2_levelFor_53 : decode cX2_levelFor 53 = .ok (.iload 5, 2) := by decide +kernel
theorem dX2_levelFor_55 : decode cX2_levelFor 55 = .ok (.istore_n 3, 1) := by decide +kernel
theorem dX2_levelFor_56 : decode cX2_levelFor 56 = .ok (.iinc 4 1, 3) := by decide +kernel
theorem dX2_levelFor_59 : decode cX2_levelFor 59 = .ok (.goto (-44), 3) := by decide +kernel
theorem dX2_levelFor_62 : decode cX2_levelFor 62 = .ok (.iload_n 2, 1) := by decide +kernel
theorem dX2_levelFor_63 : decode cX2_levelFor 63 = .ok (.ireturn, 1) := by decide +kernel
theorem dX2_termFor_0 : decode cX2_termFor 0 = .ok (.aload_n 0, 1) := by decide +kernel
theorem dX2_termFor_1 : decode cX2_termFor 1 = .ok (.getfield 15, 3) := by decide +kernel
theorem dX2_termFor_4 : decode cX2_termFor 4 = .ok (.i2l, 1) := by decide +kernel
theorem dX2_termFor_5 : decode cX2_termFor 5 = .ok (.lstore_n 3, 1) := by decide +kernel
theorem dX2_termFor_6 : decode cX2_termFor 6 = .ok (.aload_n 0, 1) := by decide +kernel
theorem dX2_termFor_7 : decode cX2_termFor 7 = .ok (.getfield 27, 3) := by decide +kernel
theorem dX2_termFor_10 : decode cX2_termFor 10 = .ok (.i2l, 1) := by decide +kernel
theorem dX2_termFor_11 : decode cX2_termFor 11 = .ok (.lstore 5, 2) := by decide +kernel
theorem dX2_termFor_13 : decode cX2_termFor 13 = .ok (.iconst 1, 1) := by decide +kernel
theorem dX2_termFor_14 : decode cX2_termFor 14 = .ok (.istore 7, 2) := by decide +kernel
theorem dX2_termFor_16 : decode cX2_termFor 16 = .ok (.iload 7, 2) := by decide +kernel
theorem dX2_termFor_18 : decode cX2_termFor 18 = .ok (.iload_n 2, 1) := by decide +kernel
theorem dX2_termFor_19 : decode cX2_termFor 19 = .ok (.if_icmp .gt 56, 3) := by decide +kernel
theorem dX2_termFor_22 : decode cX2_termFor 22 = .ok (.lload_n 3, 1) := by decide +kernel
theorem dX2_termFor_23 : decode cX2_termFor 23 = .ok (.aload_n 0, 1) := by decide +kernel
theorem dX2_termFor_24 : decode cX2_termFor 24 = .ok (.getfield 18, 3) := by decide +kernel
theorem dX2_termFor_27 : decode cX2_termFor 27 = .ok (.i2l, 1) := by decide +kernel
theorem dX2_termFor_28 : decode cX2_termFor 28 = .ok (.lmul, 1) := by decide +kernel
theorem dX2_termFor_29 : decode cX2_termFor 29 = .ok (.lload 5, 2) := by decide +kernel
theorem dX2_termFor_31 : decode cX2_termFor 31 = .ok (.ladd, 1) := by decide +kernel
theorem dX2_termFor_32 : decode cX2_termFor 32 = .ok (.lstore 8, 2) := by decide +kernel
theorem dX2_termFor_34 : decode cX2_termFor 34 = .ok (.lload_n 3, 1) := by decide +kernel
theorem dX2_termFor_35 : decode cX2_termFor 35 = .ok (.lload 8, 2) := by decide +kernel
theorem dX2_termFor_37 : decode cX2_termFor 37 = .ok (.ldc2_w 51, 3) := by decide +kernel
theorem dX2_termFor_40 : decode cX2_termFor 40 = .ok (.ldiv, 1) := by decide +kernel
theorem dX2_termFor_41 : decode cX2_termFor 41 = .ok (.ladd, 1) := by decide +kernel
theorem dX2_termFor_42 : decode cX2_termFor 42 = .ok (.lstore 10, 2) := by decide +kernel
theorem dX2_termFor_44 : decode cX2_termFor 44 = .ok (.lload 10, 2) := by decide +kernel
theorem dX2_termFor_46 : decode cX2_termFor 46 = .ok (.iload_n 1, 1) := by decide +kernel
theorem dX2_termFor_47 : decode cX2_termFor 47 = .ok (.i2l, 1) := by decide +kernel
theorem dX2_termFor_48 : decode cX2_termFor 48 = .ok (.lcmp, 1) := by decide +kernel
theorem dX2_termFor_49 : decode cX2_termFor 49 = .ok (.ifCond .gt 6, 3) := by decide +kernel
theorem dX2_termFor_52 : decode cX2_termFor 52 = .ok (.iload 7, 2) := by decide +kernel
theorem dX2_termFor_54 : decode cX2_termFor 54 = .ok (.ireturn, 1) := by decide +kernel
theorem dX2_termFor_55 : decode cX2_termFor 55 = .ok (.lload 10, 2) := by decide +kernel
theorem dX2_termFor_57 : decode cX2_termFor 57 = .ok (.iload_n 1, 1) := by decide +kernel
theorem dX2_termFor_58 : decode cX2_termFor 58 = .ok (.i2l, 1) := by decide +kernel
theorem dX2_termFor_59 : decode cX2_termFor 59 = .ok (.lsub, 1) := by decide +kernel
theorem dX2_termFor_60 : decode cX2_termFor 60 = .ok (.lstore_n 3, 1) := by decide +kernel
theorem dX2_termFor_61 : decode cX2_termFor 61 = .ok (.lload 8, 2) := by decide +kernel
theorem dX2_termFor_63 : decode cX2_termFor 63 = .ok (.ldc2_w 51, 3) := by decide +kernel
theorem dX2_termFor_66 : decode cX2_termFor 66 = .ok (.lrem, 1) := by decide +kernel
theorem dX2_termFor_67 : decode cX2_termFor 67 = .ok (.lstore 5, 2) := by decide +kernel
theorem dX2_termFor_69 : decode cX2_termFor 69 = .ok (.iinc 7 1, 3) := by decide +kernel
theorem dX2_termFor_72 : decode cX2_termFor 72 = .ok (.goto (-56), 3) := by decide +kernel
theorem dX2_termFor_75 : decode cX2_termFor 75 = .ok (.iconst (-1), 1) := by decide +kernel
theorem dX2_termFor_76 : decode cX2_termFor 76 = .ok (.ireturn, 1) := by decide +kernel
set_option maxRecDepth 20000 in
theorem ggX3_init_X0_init : GoodIn wsX3_init wsX0_init := goodIn_r _ [14, 15, 2, 3, 16, 17, 18, 19, 20, 21, 28, 29, 30, 31, 32] (by decide +kernel) (by decide +kernel)
set_option maxRecDepth 20000 in
theorem gX3_init_X0_init_n19 : GoodIn wsX3_init (wsX0_init) := ggX3_init_X0_init
set_option maxRecDepth 20000 in
theorem ggX3_init_X2_init : GoodIn wsX3_init wsX2_init := goodIn_r _ [23, 24, 2, 3] (by decide +kernel) (by decide +kernel)
set_option maxRecDepth 20000 in
theorem gX3_init_X2_init_n28 : GoodIn wsX3_init (wsX2_init) := ggX3_init_X2_init
theorem dX3_init_0 : decode cX3_init 0 = .ok (.aload_n 0, 1) := by decide +kernel
theorem dX3_init_1 : decode cX3_init 1 = .ok (.invokespecial 3, 3) := by decide +kernel
theorem dX3_init_4 : decode cX3_init 4 = .ok (.aload_n 0, 1) := by decide +kernel
theorem dX3_init_5 : decode cX3_init 5 = .ok (.bipush 6, 2) := by decide +kernel
theorem dX3_init_7 : decode cX3_init 7 = .ok (.anewarray 9, 3) := by decide +kernel
theorem dX3_init_10 : decode cX3_init 10 = .ok (.putfield 11, 3) := by decide +kernel
theorem dX3_init_13 : decode cX3_init 13 = .ok (.aload_n 0, 1) := by decide +kernel
theorem dX3_init_14 : decode cX3_init 14 = .ok (.new 17, 3) := by decide +kernel
theorem dX3_init_17 : decode cX3_init 17 = .ok (.dup, 1) := by decide +kernel
theorem dX3_init_18 : decode cX3_init 18 = .ok (.invokespecial 19, 3) := by decide +kernel
theorem dX3_init_21 : decode cX3_init 21 = .ok (.putfield 20, 3) := by decide +kernel
theorem dX3_init_24 : decode cX3_init 24 = .ok (.aload_n 0, 1) := by decide +kernel
theorem dX3_init_25 : decode cX3_init 25 = .ok (.iconst 0, 1) := by decide +kernel
theorem dX3_init_26 : decode cX3_init 26 = .ok (.putfield 24, 3) := by decide +kernel
theorem dX3_init_29 : decode cX3_init 29 = .ok (.iconst 0, 1) := by decide +kernel
theorem dX3_init_30 : decode cX3_init 30 = .ok (.istore_n 1, 1) := by decide +kernel
theorem dX3_init_31 : decode cX3_init 31 = .ok (.iload_n 1, 1) := by decide +kernel
theorem dX3_init_32 : decode cX3_init 32 = .ok (.bipush 6, 2) := by decide +kernel
theorem dX3_init_34 : decode cX3_init 34 = .ok (.if_icmp .ge 22, 3) := by decide +kernel
theorem dX3_init_37 : decode cX3_init 37 = .ok (.aload_n 0, 1) := by decide +kernel
theorem dX3_init_38 : decode cX3_init 38 = .ok (.getfield 11, 3) := by decide +kernel
theorem dX3_init_41 : decode cX3_init 41 = .ok (.iload_n 1, 1) := by decide +kernel
theorem dX3_init_42 : decode cX3_init 42 = .ok (.new 9, 3) := by decide +kernel
theorem dX3_init_45 : decode cX3_init 45 = .ok (.dup, 1) := by decide +kernel
theorem dX3_init_46 : decode cX3_init 46 = .ok (.invokespecial 28, 3) := by decide +kernel
theorem dX3_init_49 : decode cX3_init 49 = .ok (.aastore, 1) := by decide +kernel
theorem dX3_init_50 : decode cX3_init 50 = .ok (.iinc 1 1, 3) := by decide +kernel
theorem dX3_init_53 : decode cX3_init 53 = .ok (.goto (-22), 3) := by decide +kernel
theorem dX3_init_56 : decode cX3_init 56 = .ok (.return_, 1) := by decide +kernel
set_option maxRecDepth 20000 in
theorem ggX3_copyFrom_X2_copyFrom : GoodIn wsX3_copyFrom wsX2_copyFrom := goodIn_r _ [8, 9, 10, 11, 12, 13, 14, 15, 16, 17, 18, 36, 37, 38, 39, 40, 41, 42, 43, 44, 45] (by decide +kernel) (by decide +kernel)
set_option maxRecDepth 20000 in
theorem gX3_copyFrom_X2_copyFrom : GoodIn wsX3_copyFrom (wsV RX3 29 RX2 yX2_copyFrom wsX2_copyFrom) := goodIn_app (goodIn_of _ (by decide +kernel)) ggX3_copyFrom_X2_copyFrom
set_option maxRecDepth 20000 in
theorem ggX3_copyFrom_X0_copyFrom : GoodIn wsX3_copyFrom wsX0_copyFrom := goodIn_r _ [23, 24, 25, 26, 27, 28, 29, 30, 31, 32, 46, 47, 48, 49, 50] (by decide +kernel) (by decide +kernel)
set_option maxRecDepth 20000 in
theorem gX3_copyFrom_X0_copyFrom : GoodIn wsX3_copyFrom (wsV RX3 33 RX0 yX0_copyFrom wsX0_copyFrom) := goodIn_app (goodIn_of _ (by decide +kernel)) ggX3_copyFrom_X0_copyFrom
theorem dX3_copyFrom_0 : decode cX3_copyFrom 0 = .ok (.aload_n 0, 1) := by decide +kernel
theorem dX3_copyFrom_1 : decode cX3_copyFrom 1 = .ok (.aload_n 1, 1) := by decide +kernel
theorem dX3_copyFrom_2 : decode cX3_copyFrom 2 = .ok (.getfield 24, 3) := by decide +kernel
theorem dX3_copyFrom_5 : decode cX3_copyFrom 5 = .ok (.putfield 24, 3) := by decide +kernel
theorem dX3_copyFrom_8 : decode cX3_copyFrom 8 = .ok (.iconst 0, 1) := by decide +kernel
theorem dX3_copyFrom_9 : decode cX3_copyFrom 9 = .ok (.istore_n 2, 1) := by decide +kernel
theorem dX3_copyFrom_10 : decode cX3_copyFrom 10 = .ok (.iload_n 2, 1) := by decide +kernel
theorem dX3_copyFrom_11 : decode cX3_copyFrom 11 = .ok (.aload_n 0, 1) := by decide +kernel
theorem dX3_copyFrom_12 : decode cX3_copyFrom 12 = .ok (.getfield 24, 3) := by decide +kernel
theorem dX3_copyFrom_15 : decode cX3_copyFrom 15 = .ok (.if_icmp .ge 30, 3) := by decide +kernel
theorem dX3_copyFrom_18 : decode cX3_copyFrom 18 = .ok (.iload_n 2, 1) := by decide +kernel
theorem dX3_copyFrom_19 : decode cX3_copyFrom 19 = .ok (.bipush 6, 2) := by decide +kernel
theorem dX3_copyFrom_21 : decode cX3_copyFrom 21 = .ok (.if_icmp .ge 24, 3) := by decide +kernel
theorem dX3_copyFrom_24 : decode cX3_copyFrom 24 = .ok (.aload_n 0, 1) := by decide +kernel
theorem dX3_copyFrom_25 : decode cX3_copyFrom 25 = .ok (.getfield 11, 3) := by decide +kernel
theorem dX3_copyFrom_28 : decode cX3_copyFrom 28 = .ok (.iload_n 2, 1) := by decide +kernel
theorem dX3_copyFrom_29 : decode cX3_copyFrom 29 = .ok (.aaload, 1) := by decide +kernel
theorem dX3_copyFrom_30 : decode cX3_copyFrom 30 = .ok (.aload_n 1, 1) := by decide +kernel
theorem dX3_copyFrom_31 : decode cX3_copyFrom 31 = .ok (.getfield 11, 3) := by decide +kernel
theorem dX3_copyFrom_34 : decode cX3_copyFrom 34 = .ok (.iload_n 2, 1) := by decide +kernel
theorem dX3_copyFrom_35 : decode cX3_copyFrom 35 = .ok (.aaload, 1) := by decide +kernel
theorem dX3_copyFrom_36 : decode cX3_copyFrom 36 = .ok (.invokevirtual 29, 3) := by decide +kernel
theorem dX3_copyFrom_39 : decode cX3_copyFrom 39 = .ok (.iinc 2 1, 3) := by decide +kernel
theorem dX3_copyFrom_42 : decode cX3_copyFrom 42 = .ok (.goto (-32), 3) := by decide +kernel
theorem dX3_copyFrom_45 : decode cX3_copyFrom 45 = .ok (.aload_n 0, 1) := by decide +kernel
theorem dX3_copyFrom_46 : decode cX3_copyFrom 46 = .ok (.getfield 20, 3) := by decide +kernel
theorem dX3_copyFrom_49 : decode cX3_copyFrom 49 = .ok (.aload_n 1, 1) := by decide +kernel
theorem dX3_copyFrom_50 : decode cX3_copyFrom 50 = .ok (.getfield 20, 3) := by decide +kernel
theorem dX3_copyFrom_53 : decode cX3_copyFrom 53 = .ok (.invokevirtual 33, 3) := by decide +kernel
theorem dX3_copyFrom_56 : decode cX3_copyFrom 56 = .ok (.return_, 1) := by decide +kernel
theorem dX3_clear_0 : decode cX3_clear 0 = .ok (.aload_n 0, 1) := by decide +kernel
theorem dX3_clear_1 : decode cX3_clear 1 = .ok (.iconst 0, 1) := by decide +kernel
theorem dX3_clear_2 : decode cX3_clear 2 = .ok (.putfield 24, 3) := by decide +kernel
theorem dX3_clear_5 : decode cX3_clear 5 = .ok (.aload_n 0, 1) := by decide +kernel
theorem dX3_clear_6 : decode cX3_clear 6 = .ok (.getfield 20, 3) := by decide +kernel
theorem dX3_clear_9 : decode cX3_clear 9 = .ok (.iconst 0, 1) := by decide +kernel
theorem dX3_clear_10 : decode cX3_clear 10 = .ok (.putfield 36, 3) := by decide +kernel
theorem dX3_clear_13 : decode cX3_clear 13 = .ok (.aload_n 0, 1) := by decide +kernel
theorem dX3_clear_14 : decode cX3_clear 14 = .ok (.getfield 20, 3) := by decide +kernel
theorem dX3_clear_17 : decode cX3_clear 17 = .ok (.iconst 0, 1) := by decide +kernel
theorem dX3_clear_18 : decode cX3_clear 18 = .ok (.putfield 39, 3) := by decide +kernel
theorem dX3_clear_21 : decode cX3_clear 21 = .ok (.return_, 1) := by decide +kernel
theorem dX3_hasRoom_0 : decode cX3_hasRoom 0 = .ok (.aload_n 0, 1) := by decide +kernel
theorem dX3_hasRoom_1 : decode cX3_hasRoom 1 = .ok (.getfield 24, 3) := by decide +kernel
theorem dX3_hasRoom_4 : decode cX3_hasRoom 4 = .ok (.bipush 6, 2) := by decide +kernel
theorem dX3_hasRoom_6 : decode cX3_hasRoom 6 = .ok (.if_icmp .ge 7, 3) := by decide +kernel
theorem dX3_hasRoom_9 : decode cX3_hasRoom 9 = .ok (.iconst 1, 1) := by decide +kernel
theorem dX3_hasRoom_10 : decode cX3_hasRoom 10 = .ok (.goto 4, 3) := by decide +kernel
theorem dX3_hasRoom_13 : decode cX3_hasRoom 13 = .ok (.iconst 0, 1) := by decide +kernel
theorem dX3_hasRoom_14 : decode cX3_hasRoom 14 = .ok (.ireturn, 1) := by decide +kernel
set_option maxRecDepth 20000 in
theorem ggX3_addLoan_X2_begin : GoodIn wsX3_addLoan wsX2_begin := goodIn_r _ [7, 8, 9, 10, 11, 12, 13, 14, 15, 16, 17, 18, 19, 20, 6, 21, 22, 23, 24, 25, 26, 27, 28, 29, 30, 34, 35, 36, 37, 38, 39, 40, 41, 42, 43] (by decide +kernel) (by decide +kernel)
set_option maxRecDepth 20000 in
theorem gX3_addLoan_X2_begin : GoodIn wsX3_addLoan (wsV RX3 42 RX2 yX2_begin wsX2_begin) := goodIn_app (goodIn_of _ (by decide +kernel)) ggX3_addLoan_X2_begin
theorem dX3_addLoan_0 : decode cX3_addLoan 0 = .ok (.aload_n 0, 1) := by decide +kernel
theorem dX3_addLoan_1 : decode cX3_addLoan 1 = .ok (.getfield 24, 3) := by decide +kernel
theorem dX3_addLoan_4 : decode cX3_addLoan 4 = .ok (.bipush 6, 2) := by decide +kernel
theorem dX3_addLoan_6 : decode cX3_addLoan 6 = .ok (.if_icmp .ge 28, 3) := by decide +kernel
theorem dX3_addLoan_9 : decode cX3_addLoan 9 = .ok (.aload_n 0, 1) := by decide +kernel
theorem dX3_addLoan_10 : decode cX3_addLoan 10 = .ok (.getfield 11, 3) := by decide +kernel
theorem dX3_addLoan_13 : decode cX3_addLoan 13 = .ok (.aload_n 0, 1) := by decide +kernel
theorem dX3_addLoan_14 : decode cX3_addLoan 14 = .ok (.getfield 24, 3) := by decide +kernel
theorem dX3_addLoan_17 : decode cX3_addLoan 17 = .ok (.aaload, 1) := by decide +kernel
theorem dX3_addLoan_18 : decode cX3_addLoan 18 = .ok (.iload_n 1, 1) := by decide +kernel
theorem dX3_addLoan_19 : decode cX3_addLoan 19 = .ok (.iload_n 2, 1) := by decide +kernel
theorem dX3_addLoan_20 : decode cX3_addLoan 20 = .ok (.iload_n 3, 1) := by decide +kernel
theorem dX3_addLoan_21 : decode cX3_addLoan 21 = .ok (.invokevirtual 42, 3) := by decide +kernel
theorem dX3_addLoan_24 : decode cX3_addLoan 24 = .ok (.aload_n 0, 1) := by decide +kernel
theorem dX3_addLoan_25 : decode cX3_addLoan 25 = .ok (.dup, 1) := by decide +kernel
theorem dX3_addLoan_26 : decode cX3_addLoan 26 = .ok (.getfield 24, 3) := by decide +kernel
theorem dX3_addLoan_29 : decode cX3_addLoan 29 = .ok (.iconst 1, 1) := by decide +kernel
theorem dX3_addLoan_30 : decode cX3_addLoan 30 = .ok (.iadd, 1) := by decide +kernel
theorem dX3_addLoan_31 : decode cX3_addLoan 31 = .ok (.putfield 24, 3) := by decide +kernel
theorem dX3_addLoan_34 : decode cX3_addLoan 34 = .ok (.return_, 1) := by decide +kernel
theorem dX3_has_0 : decode cX3_has 0 = .ok (.iload_n 1, 1) := by decide +kernel
theorem dX3_has_1 : decode cX3_has 1 = .ok (.ifCond .lt 21, 3) := by decide +kernel
theorem dX3_has_4 : decode cX3_has 4 = .ok (.iload_n 1, 1) := by decide +kernel
theorem dX3_has_5 : decode cX3_has 5 = .ok (.aload_n 0, 1) := by decide +kernel
theorem dX3_has_6 : decode cX3_has 6 = .ok (.getfield 24, 3) := by decide +kernel
theorem dX3_has_9 : decode cX3_has 9 = .ok (.if_icmp .ge 13, 3) := by decide +kernel
theorem dX3_has_12 : decode cX3_has 12 = .ok (.iload_n 1, 1) := by decide +kernel
theorem dX3_has_13 : decode cX3_has 13 = .ok (.bipush 6, 2) := by decide +kernel
theorem dX3_has_15 : decode cX3_has 15 = .ok (.if_icmp .ge 7, 3) := by decide +kernel
theorem dX3_has_18 : decode cX3_has 18 = .ok (.iconst 1, 1) := by decide +kernel
theorem dX3_has_19 : decode cX3_has 19 = .ok (.goto 4, 3) := by decide +kernel
theorem dX3_has_22 : decode cX3_has 22 = .ok (.iconst 0, 1) := by decide +kernel
theorem dX3_has_23 : decode cX3_has 23 = .ok (.ireturn, 1) := by decide +kernel
set_option maxRecDepth 20000 in
theorem ggX3_settle_X3_has : GoodIn wsX3_settle wsX3_has := goodIn_r _ [7, 8, 53, 54, 55] (by decide +kernel) (by decide +kernel)
set_option maxRecDepth 20000 in
theorem gX3_settle_X3_has : GoodIn wsX3_settle (wsV RX3 46 RX3 yX3_has wsX3_has) := goodIn_app (goodIn_of _ (by decide +kernel)) ggX3_settle_X3_has
set_option maxRecDepth 20000 in
theorem ggX3_settle_X2_nextInterest : GoodIn wsX3_settle wsX2_nextInterest := goodIn_r _ [13, 14, 15, 16, 17, 56, 57, 58, 59, 60, 61, 62, 63, 64, 65] (by decide +kernel) (by decide +kernel)
set_option maxRecDepth 20000 in
theorem gX3_settle_X2_nextInterest : GoodIn wsX3_settle (wsV RX3 50 RX2 yX2_nextInterest wsX2_nextInterest) := goodIn_app (goodIn_of _ (by decide +kernel)) ggX3_settle_X2_nextInterest
set_option maxRecDepth 20000 in
theorem ggX3_settle_X2_settleMonth : GoodIn wsX3_settle wsX2_settleMonth := goodIn_r _ [21, 14, 22, 23, 24, 25, 26, 12, 27, 15, 16, 17, 28, 29, 30, 31, 32, 33, 34, 35, 36, 37, 38, 56, 57, 58, 59, 60, 61, 62, 63, 64, 65] (by decide +kernel) (by decide +kernel)
set_option maxRecDepth 20000 in
theorem gX3_settle_X2_settleMonth : GoodIn wsX3_settle (wsV RX3 54 RX2 yX2_settleMonth wsX2_settleMonth) := goodIn_app (goodIn_of _ (by decide +kernel)) ggX3_settle_X2_settleMonth
set_option maxRecDepth 20000 in
theorem ggX3_settle_X0_write : GoodIn wsX3_settle wsX0_write := goodIn_r _ [43, 44, 45, 46, 47, 48, 49, 50, 51, 52, 66, 67, 68, 69, 70] (by decide +kernel) (by decide +kernel)
set_option maxRecDepth 20000 in
theorem gX3_settle_X0_write : GoodIn wsX3_settle (wsV RX3 57 RX0 yX0_write wsX0_write) := goodIn_app (goodIn_of _ (by decide +kernel)) ggX3_settle_X0_write
theorem dX3_settle_0 : decode cX3_settle 0 = .ok (.aload_n 0, 1) := by decide +kernel
theorem dX3_settle_1 : decode cX3_settle 1 = .ok (.iload_n 1, 1) := by decide +kernel
theorem dX3_settle_2 : decode cX3_settle 2 = .ok (.invokevirtual 46, 3) := by decide +kernel
theorem dX3_settle_5 : decode cX3_settle 5 = .ok (.ifCond .ne 5, 3) := by decide +kernel
theorem dX3_settle_10 : decode cX3_settle 10 = .ok (.aload_n 0, 1) := by decide +kernel
theorem dX3_settle_11 : decode cX3_settle 11 = .ok (.getfield 11, 3) := by decide +kernel
theorem dX3_settle_14 : decode cX3_settle 14 = .ok (.iload_n 1, 1) := by decide +kernel
theorem dX3_settle_15 : decode cX3_settle 15 = .ok (.aaload, 1) := by decide +kernel
theorem dX3_settle_16 : decode cX3_settle 16 = .ok (.invokevirtual 50, 3) := by decide +kernel
theorem dX3_settle_19 : decode cX3_settle 19 = .ok (.istore_n 2, 1) := by decide +kernel
theorem dX3_settle_20 : decode cX3_settle 20 = .ok (.aload_n 0, 1) := by decide +kernel
theorem dX3_settle_21 : decode cX3_settle 21 = .ok (.getfield 11, 3) := by decide +kernel
theorem dX3_settle_24 : decode cX3_settle 24 = .ok (.iload_n 1, 1) := by decide +kernel
theorem dX3_settle_25 : decode cX3_settle 25 = .ok (.aaload, 1) := by decide +kernel
theorem dX3_settle_26 : decode cX3_settle 26 = .ok (.invokevirtual 54, 3) := by decide +kernel
theorem dX3_settle_29 : decode cX3_settle 29 = .ok (.istore_n 3, 1) := by decide +kernel
theorem dX3_settle_30 : decode cX3_settle 30 = .ok (.aload_n 0, 1) := by decide +kernel
theorem dX3_settle_31 : decode cX3_settle 31 = .ok (.getfield 20, 3) := by decide +kernel
theorem dX3_settle_34 : decode cX3_settle 34 = .ok (.iload_n 1, 1) := by decide +kernel
theorem dX3_settle_35 : decode cX3_settle 35 = .ok (.iload_n 3, 1) := by decide +kernel
theorem dX3_settle_36 : decode cX3_settle 36 = .ok (.iload_n 2, 1) := by decide +kernel
theorem dX3_settle_37 : decode cX3_settle 37 = .ok (.invokevirtual 57, 3) := by decide +kernel
theorem dX3_settle_40 : decode cX3_settle 40 = .ok (.iload_n 3, 1) := by decide +kernel
theorem dX3_settle_41 : decode cX3_settle 41 = .ok (.ireturn, 1) := by decide +kernel
set_option maxRecDepth 20000 in
theorem ggX3_settleAll_X2_isRunning : GoodIn wsX3_settleAll wsX2_isRunning := goodIn_r _ [7, 8, 64, 65, 66, 67, 68, 69, 70, 71, 72, 73] (by decide +kernel) (by decide +kernel)
set_option maxRecDepth 20000 in
theorem gX3_settleAll_X2_isRunning : GoodIn wsX3_settleAll (wsV RX3 60 RX2 yX2_isRunning wsX2_isRunning) := goodIn_app (goodIn_of _ (by decide +kernel)) ggX3_settleAll_X2_isRunning
set_option maxRecDepth 20000 in
theorem ggX3_settleAll_X3_settle : GoodIn wsX3_settleAll wsX3_settle := goodIn_r _ [13, 2, 14, 15, 16, 17, 12, 18, 1, 19, 20, 21, 6, 22, 8, 23, 24, 25, 26, 27, 28, 29, 30, 31, 32, 33, 34, 35, 36, 37, 38, 39, 40, 41, 42, 43, 44, 45, 46, 47, 48, 49, 50, 51, 52, 53, 54, 55, 56, 57, 58, 59, 60, 61, 62, 63, 64, 65, 66, 67, 68, 69, 70, 71, 72, 73, 74, 75, 76, 77, 78] (by decide +kernel) (by decide +kernel)
set_option maxRecDepth 20000 in
theorem gX3_settleAll_X3_settle : GoodIn wsX3_settleAll (wsV RX3 64 RX3 yX3_settle wsX3_settle) := goodIn_app (goodIn_of _ (by decide +kernel)) ggX3_settleAll_X3_settle
theorem dX3_settleAll_0 : decode cX3_settleAll 0 = .ok (.iconst 0, 1) := by decide +kernel
theorem dX3_settleAll_1 : decode cX3_settleAll 1 = .ok (.istore_n 1, 1) := by decide +kernel
theorem dX3_settleAll_2 : decode cX3_settleAll 2 = .ok (.iconst 0, 1) := by decide +kernel
theorem dX3_settleAll_3 : decode cX3_settleAll 3 = .ok (.istore_n 2, 1) := by decide +kernel
theorem dX3_settleAll_4 : decode cX3_settleAll 4 = .ok (.iload_n 2, 1) := by decide +kernel
theorem dX3_settleAll_5 : decode cX3_settleAll 5 = .ok (.aload_n 0, 1) := by decide +kernel
theorem dX3_settleAll_6 : decode cX3_settleAll 6 = .ok (.getfield 24, 3) := by decide +kernel
theorem dX3_settleAll_9 : decode cX3_settleAll 9 = .ok (.if_icmp .ge 35, 3) := by decide +kernel
theorem dX3_settleAll_12 : decode cX3_settleAll 12 = .ok (.iload_n 2, 1) := by decide +kernel
theorem dX3_settleAll_13 : decode cX3_settleAll 13 = .ok (.bipush 6, 2) := by decide +kernel
theorem dX3_settleAll_15 : decode cX3_settleAll 15 = .ok (.if_icmp .ge 29, 3) := by decide +kernel
theorem dX3_settleAll_18 : decode cX3_settleAll 18 = .ok (.aload_n 0, 1) := by decide +kernel
theorem dX3_settleAll_19 : decode cX3_settleAll 19 = .ok (.getfield 11, 3) := by decide +kernel
theorem dX3_settleAll_22 : decode cX3_settleAll 22 = .ok (.iload_n 2, 1) := by decide +kernel
theorem dX3_settleAll_23 : decode cX3_settleAll 23 = .ok (.aaload, 1) := by decide +kernel
theorem dX3_settleAll_24 : decode cX3_settleAll 24 = .ok (.invokevirtual 60, 3) := by decide +kernel
theorem dX3_settleAll_27 : decode cX3_settleAll 27 = .ok (.ifCond .eq 11, 3) := by decide +kernel
theorem dX3_settleAll_30 : decode cX3_settleAll 30 = .ok (.iload_n 1, 1) := by decide +kernel
theorem dX3_settleAll_31 : decode cX3_settleAll 31 = .ok (.aload_n 0, 1) := by decide +kernel
theorem dX3_settleAll_32 : decode cX3_settleAll 32 = .ok (.iload_n 2, 1) := by decide +kernel
theorem dX3_settleAll_33 : decode cX3_settleAll 33 = .ok (.invokevirtual 64, 3) := by decide +kernel
theorem dX3_settleAll_36 : decode cX3_settleAll 36 = .ok (.iadd, 1) := by decide +kernel
theorem dX3_settleAll_37 : decode cX3_settleAll 37 = .ok (.istore_n 1, 1) := by decide +kernel
theorem dX3_settleAll_38 : decode cX3_settleAll 38 = .ok (.iinc 2 1, 3) := by decide +kernel
theorem dX3_settleAll_41 : decode cX3_settleAll 41 = .ok (.goto (-37), 3) := by decide +kernel
theorem dX3_settleAll_44 : decode cX3_settleAll 44 = .ok (.iload_n 1, 1) := by decide +kernel
theorem dX3_settleAll_45 : decode cX3_settleAll 45 = .ok (.ireturn, 1) := by decide +kernel
set_option maxRecDepth 20000 in
theorem ggX3_reduce_X3_has : GoodIn wsX3_reduce wsX3_has := goodIn_r _ [7, 8, 51, 52, 53] (by decide +kernel) (by decide +kernel)
set_option maxRecDepth 20000 in
theorem gX3_reduce_X3_has : GoodIn wsX3_reduce (wsV RX3 46 RX3 yX3_has wsX3_has) := goodIn_app (goodIn_of _ (by decide +kernel)) ggX3_reduce_X3_has
set_option maxRecDepth 20000 in
theorem ggX3_reduce_X2_reduceBy : GoodIn wsX3_reduce wsX2_reduceBy := goodIn_r _ [13, 14, 15, 16, 17, 18, 19, 12, 20, 21, 22, 23, 24, 25, 26, 27, 28, 29, 30, 31, 32, 33, 34, 35, 36, 54, 55, 56, 57, 58, 59, 60, 61, 62, 63] (by decide +kernel) (by decide +kernel)
set_option maxRecDepth 20000 in
theorem gX3_reduce_X2_reduceBy : GoodIn wsX3_reduce (wsV RX3 68 RX2 yX2_reduceBy wsX2_reduceBy) := goodIn_app (goodIn_of _ (by decide +kernel)) ggX3_reduce_X2_reduceBy
set_option maxRecDepth 20000 in
theorem ggX3_reduce_X0_write : GoodIn wsX3_reduce wsX0_write := goodIn_r _ [41, 42, 43, 44, 45, 46, 47, 48, 49, 50, 64, 65, 66, 67, 68] (by decide +kernel) (by decide +kernel)
set_option maxRecDepth 20000 in
theorem gX3_reduce_X0_write : GoodIn wsX3_reduce (wsV RX3 57 RX0 yX0_write wsX0_write) := goodIn_app (goodIn_of _ (by decide +kernel)) ggX3_reduce_X0_write
theorem dX3_reduce_0 : decode cX3_reduce 0 = .ok (.aload_n 0, 1) := by decide +kernel
theorem dX3_reduce_1 : decode cX3_reduce 1 = .ok (.iload_n 1, 1) := by decide +kernel
theorem dX3_reduce_2 : decode cX3_reduce 2 = .ok (.invokevirtual 46, 3) := by decide +kernel
theorem dX3_reduce_5 : decode cX3_reduce 5 = .ok (.ifCond .eq 24, 3) := by decide +kernel
theorem dX3_reduce_8 : decode cX3_reduce 8 = .ok (.aload_n 0, 1) := by decide +kernel
theorem dX3_reduce_9 : decode cX3_reduce 9 = .ok (.getfield 11, 3) := by decide +kernel
theorem dX3_reduce_12 : decode cX3_reduce 12 = .ok (.iload_n 1, 1) := by decide +kernel
theorem dX3_reduce_13 : decode cX3_reduce 13 = .ok (.aaload, 1) := by decide +kernel
theorem dX3_reduce_14 : decode cX3_reduce 14 = .ok (.iload_n 2, 1) := by decide +kernel
theorem dX3_reduce_15 : decode cX3_reduce 15 = .ok (.iload_n 3, 1) := by decide +kernel
theorem dX3_reduce_16 : decode cX3_reduce 16 = .ok (.invokevirtual 68, 3) := by decide +kernel
theorem dX3_reduce_19 : decode cX3_reduce 19 = .ok (.aload_n 0, 1) := by decide +kernel
theorem dX3_reduce_20 : decode cX3_reduce 20 = .ok (.getfield 20, 3) := by decide +kernel
theorem dX3_reduce_23 : decode cX3_reduce 23 = .ok (.iload_n 1, 1) := by decide +kernel
theorem dX3_reduce_24 : decode cX3_reduce 24 = .ok (.iload_n 2, 1) := by decide +kernel
theorem dX3_reduce_25 : decode cX3_reduce 25 = .ok (.iconst 0, 1) := by decide +kernel
theorem dX3_reduce_26 : decode cX3_reduce 26 = .ok (.invokevirtual 57, 3) := by decide +kernel
theorem dX3_reduce_29 : decode cX3_reduce 29 = .ok (.return_, 1) := by decide +kernel
set_option maxRecDepth 20000 in
theorem ggX3_spend_X3_firstByRate : GoodIn wsX3_spend wsX3_firstByRate := goodIn_r _ [11, 12, 1, 13, 14, 15, 16, 17, 18, 19, 71, 72, 73, 74, 75, 76, 77, 78, 79, 80, 81, 82, 83] (by decide +kernel) (by decide +kernel)
set_option maxRecDepth 20000 in
theorem gX3_spend_X3_firstByRate : GoodIn wsX3_spend (wsV RX3 72 RX3 yX3_firstByRate wsX3_firstByRate) := goodIn_app (goodIn_of _ (by decide +kernel)) ggX3_spend_X3_firstByRate
set_option maxRecDepth 20000 in
theorem ggX3_spend_X3_firstByBalance : GoodIn wsX3_spend wsX3_firstByBalance := goodIn_r _ [23, 24, 12, 1, 2, 14, 15, 16, 17, 18, 19, 71, 72, 73, 74, 75, 76, 77, 78, 79, 80, 81, 82, 83] (by decide +kernel) (by decide +kernel)
set_option maxRecDepth 20000 in
theorem gX3_spend_X3_firstByBalance : GoodIn wsX3_spend (wsV RX3 75 RX3 yX3_firstByBalance wsX3_firstByBalance) := goodIn_app (goodIn_of _ (by decide +kernel)) ggX3_spend_X3_firstByBalance
set_option maxRecDepth 20000 in
theorem ggX3_spend_X3_has : GoodIn wsX3_spend wsX3_has := goodIn_r _ [28, 12, 71, 72, 73] (by decide +kernel) (by decide +kernel)
set_option maxRecDepth 20000 in
theorem gX3_spend_X3_has : GoodIn wsX3_spend (wsV RX3 46 RX3 yX3_has wsX3_has) := goodIn_app (goodIn_of _ (by decide +kernel)) ggX3_spend_X3_has
set_option maxRecDepth 20000 in
theorem ggX3_spend_X3_reduce : GoodIn wsX3_spend wsX3_reduce := goodIn_r _ [32, 1, 33, 25, 26, 27, 10, 28, 12, 34, 35, 36, 17, 37, 19, 38, 39, 40, 41, 42, 43, 44, 45, 46, 47, 48, 49, 50, 51, 52, 53, 54, 55, 56, 57, 58, 59, 60, 61, 62, 63, 64, 65, 66, 67, 68, 69, 70, 4, 5, 6, 71, 72, 73, 74, 75, 76, 77, 78, 79, 80, 81, 82, 83, 84, 85, 86, 87, 88] (by decide +kernel) (by decide +kernel)
set_option maxRecDepth 20000 in
theorem gX3_spend_X3_reduce : GoodIn wsX3_spend (wsV RX3 87 RX3 yX3_reduce wsX3_reduce) := goodIn_app (goodIn_of _ (by decide +kernel)) ggX3_spend_X3_reduce
theorem dX3_spend_0 : decode cX3_spend 0 = .ok (.iload_n 1, 1) := by decide +kernel
theorem dX3_spend_1 : decode cX3_spend 1 = .ok (.istore_n 3, 1) := by decide +kernel
theorem dX3_spend_2 : decode cX3_spend 2 = .ok (.iconst 0, 1) := by decide +kernel
theorem dX3_spend_3 : decode cX3_spend 3 = .ok (.istore 4, 2) := by decide +kernel
theorem dX3_spend_5 : decode cX3_spend 5 = .ok (.iload 4, 2) := by decide +kernel
theorem dX3_spend_7 : decode cX3_spend 7 = .ok (.bipush 6, 2) := by decide +kernel
theorem dX3_spend_9 : decode cX3_spend 9 = .ok (.if_icmp .ge 73, 3) := by decide +kernel
theorem dX3_spend_12 : decode cX3_spend 12 = .ok (.iload_n 3, 1) := by decide +kernel
theorem dX3_spend_13 : decode cX3_spend 13 = .ok (.ifCond .le 69, 3) := by decide +kernel
theorem dX3_spend_16 : decode cX3_spend 16 = .ok (.iload_n 2, 1) := by decide +kernel
theorem dX3_spend_17 : decode cX3_spend 17 = .ok (.ifCond .eq 10, 3) := by decide +kernel
theorem dX3_spend_20 : decode cX3_spend 20 = .ok (.aload_n 0, 1) := by decide +kernel
theorem dX3_spend_21 : decode cX3_spend 21 = .ok (.invokevirtual 72, 3) := by decide +kernel
theorem dX3_spend_24 : decode cX3_spend 24 = .ok (.goto 7, 3) := by decide +kernel
theorem dX3_spend_27 : decode cX3_spend 27 = .ok (.aload_n 0, 1) := by decide +kernel
theorem dX3_spend_28 : decode cX3_spend 28 = .ok (.invokevirtual 75, 3) := by decide +kernel
theorem dX3_spend_31 : decode cX3_spend 31 = .ok (.istore 5, 2) := by decide +kernel
theorem dX3_spend_33 : decode cX3_spend 33 = .ok (.aload_n 0, 1) := by decide +kernel
theorem dX3_spend_34 : decode cX3_spend 34 = .ok (.iload 5, 2) := by decide +kernel
theorem dX3_spend_36 : decode cX3_spend 36 = .ok (.invokevirtual 46, 3) := by decide +kernel
theorem dX3_spend_39 : decode cX3_spend 39 = .ok (.ifCond .ne 7, 3) := by decide +kernel
theorem dX3_spend_42 : decode cX3_spend 42 = .ok (.iload_n 1, 1) := by decide +kernel
theorem dX3_spend_43 : decode cX3_spend 43 = .ok (.iload_n 3, 1) := by decide +kernel
theorem dX3_spend_44 : decode cX3_spend 44 = .ok (.isub, 1) := by decide +kernel
theorem dX3_spend_45 : decode cX3_spend 45 = .ok (.ireturn, 1) := by decide +kernel
theorem dX3_spend_46 : decode cX3_spend 46 = .ok (.iload_n 3, 1) := by decide +kernel
theorem dX3_spend_47 : decode cX3_spend 47 = .ok (.aload_n 0, 1) := by decide +kernel
theorem dX3_spend_48 : decode cX3_spend 48 = .ok (.getfield 11, 3) := by decide +kernel
theorem dX3_spend_51 : decode cX3_spend 51 = .ok (.iload 5, 2) := by decide +kernel
theorem dX3_spend_53 : decode cX3_spend 53 = .ok (.aaload, 1) := by decide +kernel
theorem dX3_spend_54 : decode cX3_spend 54 = .ok (.getfield 78, 3) := by decide +kernel
theorem dX3_spend_57 : decode cX3_spend 57 = .ok (.invokestatic 81, 3) := by decide +kernel
theorem dX3_spend_60 : decode cX3_spend 60 = .ok (.istore 6, 2) := by decide +kernel
theorem dX3_spend_62 : decode cX3_spend 62 = .ok (.aload_n 0, 1) := by decide +kernel
theorem dX3_spend_63 : decode cX3_spend 63 = .ok (.iload 5, 2) := by decide +kernel
theorem dX3_spend_65 : decode cX3_spend 65 = .ok (.iload 6, 2) := by decide +kernel
theorem dX3_spend_67 : decode cX3_spend 67 = .ok (.iconst 0, 1) := by decide +kernel
theorem dX3_spend_68 : decode cX3_spend 68 = .ok (.invokevirtual 87, 3) := by decide +kernel
theorem dX3_spend_71 : decode cX3_spend 71 = .ok (.iload_n 3, 1) := by decide +kernel
theorem dX3_spend_72 : decode cX3_spend 72 = .ok (.iload 6, 2) := by decide +kernel
theorem dX3_spend_74 : decode cX3_spend 74 = .ok (.isub, 1) := by decide +kernel
theorem dX3_spend_75 : decode cX3_spend 75 = .ok (.istore_n 3, 1) := by decide +kernel
theorem dX3_spend_76 : decode cX3_spend 76 = .ok (.iinc 4 1, 3) := by decide +kernel
theorem dX3_spend_79 : decode cX3_spend 79 = .ok (.goto (-74), 3) := by decide +kernel
theorem dX3_spend_82 : decode cX3_spend 82 = .ok (.iload_n 1, 1) := by decide +kernel
theorem dX3_spend_83 : decode cX3_spend 83 = .ok (.iload_n 3, 1) := by decide +kernel
theorem dX3_spend_84 : decode cX3_spend 84 = .ok (.isub, 1) := by decide +kernel
theorem dX3_spend_85 : decode cX3_spend 85 = .ok (.ireturn, 1) := by decide +kernel
set_option maxRecDepth 20000 in
theorem ggX3_firstByRate_X2_isRunning : GoodIn wsX3_firstByRate wsX2_isRunning := goodIn_r _ [8, 9, 13, 14, 15, 16, 17, 18, 19, 20, 21, 22] (by decide +kernel) (by decide +kernel)
set_option maxRecDepth 20000 in
theorem gX3_firstByRate_X2_isRunning : GoodIn wsX3_firstByRate (wsV RX3 60 RX2 yX2_isRunning wsX2_isRunning) := goodIn_app (goodIn_of _ (by decide +kernel)) ggX3_firstByRate_X2_isRunning
theorem dX3_firstByRate_0 : decode cX3_firstByRate 0 = .ok (.iconst (-1), 1) := by decide +kernel
theorem dX3_firstByRate_1 : decode cX3_firstByRate 1 = .ok (.istore_n 1, 1) := by decide +kernel
theorem dX3_firstByRate_2 : decode cX3_firstByRate 2 = .ok (.iconst (-1), 1) := by decide +kernel
theorem dX3_firstByRate_3 : decode cX3_firstByRate 3 = .ok (.istore_n 2, 1) := by decide +kernel
theorem dX3_firstByRate_4 : decode cX3_firstByRate 4 = .ok (.iconst 0, 1) := by decide +kernel
theorem dX3_firstByRate_5 : decode cX3_firstByRate 5 = .ok (.istore_n 3, 1) := by decide +kernel
theorem dX3_firstByRate_6 : decode cX3_firstByRate 6 = .ok (.iload_n 3, 1) := by decide +kernel
theorem dX3_firstByRate_7 : decode cX3_firstByRate 7 = .ok (.aload_n 0, 1) := by decide +kernel
theorem dX3_firstByRate_8 : decode cX3_firstByRate 8 = .ok (.getfield 24, 3) := by decide +kernel
theorem dX3_firstByRate_11 : decode cX3_firstByRate 11 = .ok (.if_icmp .ge 52, 3) := by decide +kernel
theorem dX3_firstByRate_14 : decode cX3_firstByRate 14 = .ok (.iload_n 3, 1) := by decide +kernel
theorem dX3_firstByRate_15 : decode cX3_firstByRate 15 = .ok (.bipush 6, 2) := by decide +kernel
theorem dX3_firstByRate_17 : decode cX3_firstByRate 17 = .ok (.if_icmp .ge 46, 3) := by decide +kernel
theorem dX3_firstByRate_20 : decode cX3_firstByRate 20 = .ok (.aload_n 0, 1) := by decide +kernel
theorem dX3_firstByRate_21 : decode cX3_firstByRate 21 = .ok (.getfield 11, 3) := by decide +kernel
theorem dX3_firstByRate_24 : decode cX3_firstByRate 24 = .ok (.iload_n 3, 1) := by decide +kernel
theorem dX3_firstByRate_25 : decode cX3_firstByRate 25 = .ok (.aaload, 1) := by decide +kernel
theorem dX3_firstByRate_26 : decode cX3_firstByRate 26 = .ok (.invokevirtual 60, 3) := by decide +kernel
theorem dX3_firstByRate_29 : decode cX3_firstByRate 29 = .ok (.ifCond .eq 28, 3) := by decide +kernel
theorem dX3_firstByRate_32 : decode cX3_firstByRate 32 = .ok (.aload_n 0, 1) := by decide +kernel
theorem dX3_firstByRate_33 : decode cX3_firstByRate 33 = .ok (.getfield 11, 3) := by decide +kernel
theorem dX3_firstByRate_36 : decode cX3_firstByRate 36 = .ok (.iload_n 3, 1) := by decide +kernel
theorem dX3_firstByRate_37 : decode cX3_firstByRate 37 = .ok (.aaload, 1) := by decide +kernel
theorem dX3_firstByRate_38 : decode cX3_firstByRate 38 = .ok (.getfield 104, 3) := by decide +kernel
theorem dX3_firstByRate_41 : decode cX3_firstByRate 41 = .ok (.iload_n 2, 1) := by decide +kernel
theorem dX3_firstByRate_42 : decode cX3_firstByRate 42 = .ok (.if_icmp .le 15, 3) := by decide +kernel
theorem dX3_firstByRate_45 : decode cX3_firstByRate 45 = .ok (.iload_n 3, 1) := by decide +kernel
theorem dX3_firstByRate_46 : decode cX3_firstByRate 46 = .ok (.istore_n 1, 1) := by decide +kernel
theorem dX3_firstByRate_47 : decode cX3_firstByRate 47 = .ok (.aload_n 0, 1) := by decide +kernel
theorem dX3_firstByRate_48 : decode cX3_firstByRate 48 = .ok (.getfield 11, 3) := by decide +kernel
theorem dX3_firstByRate_51 : decode cX3_firstByRate 51 = .ok (.iload_n 3, 1) := by decide +kernel
theorem dX3_firstByRate_52 : decode cX3_firstByRate 52 = .ok (.aaload, 1) := by decide +kernel
theorem dX3_firstByRate_53 : decode cX3_firstByRate 53 = .ok (.getfield 104, 3) := by decide +kernel
theorem dX3_firstByRate_56 : decode cX3_firstByRate 56 = .ok (.istore_n 2, 1) := by decide +kernel
theorem dX3_firstByRate_57 : decode cX3_firstByRate 57 = .ok (.iinc 3 1, 3) := by decide +kernel
theorem dX3_firstByRate_60 : decode cX3_firstByRate 60 = .ok (.goto (-54), 3) := by decide +kernel
theorem dX3_firstByRate_63 : decode cX3_firstByRate 63 = .ok (.iload_n 1, 1) := by decide +kernel
theorem dX3_firstByRate_64 : decode cX3_firstByRate 64 = .ok (.ireturn, 1) := by decide +kernel
set_option maxRecDepth 20000 in
theorem ggX3_firstByBalance_X2_isRunning : GoodIn wsX3_firstByBalance wsX2_isRunning := goodIn_r _ [9, 10, 14, 15, 16, 17, 18, 19, 20, 21, 22, 23] (by decide +kernel) (by decide +kernel)
set_option maxRecDepth 20000 in
theorem gX3_firstByBalance_X2_isRunning : GoodIn wsX3_firstByBalance (wsV RX3 60 RX2 yX2_isRunning wsX2_isRunning) := goodIn_app (goodIn_of _ (by decide +kernel)) ggX3_firstByBalance_X2_isRunning
theorem dX3_firstByBalance_0 : decode cX3_firstByBalance 0 = .ok (.iconst (-1), 1) := by decide +kernel
theorem dX3_firstByBalance_1 : decode cX3_firstByBalance 1 = .ok (.istore_n 1, 1) := by decide +kernel
theorem dX3_firstByBalance_2 : decode cX3_firstByBalance 2 = .ok (.ldc 107, 2) := by decide +kernel
theorem dX3_firstByBalance_4 : decode cX3_firstByBalance 4 = .ok (.istore_n 2, 1) := by decide +kernel
theorem dX3_firstByBalance_5 : decode cX3_firstByBalance 5 = .ok (.iconst 0, 1) := by decide +kernel
theorem dX3_firstByBalance_6 : decode cX3_firstByBalance 6 = .ok (.istore_n 3, 1) := by decide +kernel
theorem dX3_firstByBalance_7 : decode cX3_firstByBalance 7 = .ok (.iload_n 3, 1) := by decide +kernel
theorem dX3_firstByBalance_8 : decode cX3_firstByBalance 8 = .ok (.aload_n 0, 1) := by decide +kernel
theorem dX3_firstByBalance_9 : decode cX3_firstByBalance 9 = .ok (.getfield 24, 3) := by decide +kernel
theorem dX3_firstByBalance_12 : decode cX3_firstByBalance 12 = .ok (.if_icmp .ge 52, 3) := by decide +kernel
theorem dX3_firstByBalance_15 : decode cX3_firstByBalance 15 = .ok (.iload_n 3, 1) := by decide +kernel
theorem dX3_firstByBalance_16 : decode cX3_firstByBalance 16 = .ok (.bipush 6, 2) := by decide +kernel
theorem dX3_firstByBalance_18 : decode cX3_firstByBalance 18 = .ok (.if_icmp .ge 46, 3) := by decide +kernel
theorem dX3_firstByBalance_21 : decode cX3_firstByBalance 21 = .ok (.aload_n 0, 1) := by decide +kernel
theorem dX3_firstByBalance_22 : decode cX3_firstByBalance 22 = .ok (.getfield 11, 3) := by decide +kernel
theorem dX3_firstByBalance_25 : decode cX3_firstByBalance 25 = .ok (.iload_n 3, 1) := by decide +kernel
theorem dX3_firstByBalance_26 : decode cX3_firstByBalance 26 = .ok (.aaload, 1) := by decide +kernel
theorem dX3_firstByBalance_27 : decode cX3_firstByBalance 27 = .ok (.invokevirtual 60, 3) := by decide +kernel
theorem dX3_firstByBalance_30 : decode cX3_firstByBalance 30 = .ok (.ifCond .eq 28, 3) := by decide +kernel
theorem dX3_firstByBalance_33 : decode cX3_firstByBalance 33 = .ok (.aload_n 0, 1) := by decide +kernel
theorem dX3_firstByBalance_34 : decode cX3_firstByBalance 34 = .ok (.getfield 11, 3) := by decide +kernel
theorem dX3_firstByBalance_37 : decode cX3_firstByBalance 37 = .ok (.iload_n 3, 1) := by decide +kernel
theorem dX3_firstByBalance_38 : decode cX3_firstByBalance 38 = .ok (.aaload, 1) := by decide +kernel
theorem dX3_firstByBalance_39 : decode cX3_firstByBalance 39 = .ok (.getfield 78, 3) := by decide +kernel
theorem dX3_firstByBalance_42 : decode cX3_firstByBalance 42 = .ok (.iload_n 2, 1) := by decide +kernel
theorem dX3_firstByBalance_43 : decode cX3_firstByBalance 43 = .ok (.if_icmp .ge 15, 3) := by decide +kernel
theorem dX3_firstByBalance_46 : decode cX3_firstByBalance 46 = .ok (.iload_n 3, 1) := by decide +kernel
theorem dX3_firstByBalance_47 : decode cX3_firstByBalance 47 = .ok (.istore_n 1, 1) := by decide +kernel
theorem dX3_firstByBalance_48 : decode cX3_firstByBalance 48 = .ok (.aload_n 0, 1) := by decide +kernel
theorem dX3_firstByBalance_49 : decode cX3_firstByBalance 49 = .ok (.getfield 11, 3) := by decide +kernel
theorem dX3_firstByBalance_52 : decode cX3_firstByBalance 52 = .ok (.iload_n 3, 1) := by decide +kernel
theorem dX3_firstByBalance_53 : decode cX3_firstByBalance 53 = .ok (.aaload, 1) := by decide +kernel
theorem dX3_firstByBalance_54 : decode cX3_firstByBalance 54 = .ok (.getfield 78, 3) := by decide +kernel
theorem dX3_firstByBalance_57 : decode cX3_firstByBalance 57 = .ok (.istore_n 2, 1) := by decide +kernel
theorem dX3_firstByBalance_58 : decode cX3_firstByBalance 58 = .ok (.iinc 3 1, 3) := by decide +kernel
theorem dX3_firstByBalance_61 : decode cX3_firstByBalance 61 = .ok (.goto (-54), 3) := by decide +kernel
theorem dX3_firstByBalance_64 : decode cX3_firstByBalance 64 = .ok (.iload_n 1, 1) := by decide +kernel
theorem dX3_firstByBalance_65 : decode cX3_firstByBalance 65 = .ok (.ireturn, 1) := by decide +kernel
set_option maxRecDepth 20000 in
theorem ggX3_countRunning_X2_isRunning : GoodIn wsX3_countRunning wsX2_isRunning := goodIn_r _ [7, 8, 12, 13, 14, 15, 16, 17, 18, 19, 20, 21] (by decide +kernel) (by decide +kernel)
set_option maxRecDepth 20000 in
theorem gX3_countRunning_X2_isRunning : GoodIn wsX3_countRunning (wsV RX3 60 RX2 yX2_isRunning wsX2_isRunning) := goodIn_app (goodIn_of _ (by decide +kernel)) ggX3_countRunning_X2_isRunning
theorem dX3_countRunning_0 : decode cX3_countRunning 0 = .ok (.iconst 0, 1) := by decide +kernel
theorem dX3_countRunning_1 : decode cX3_countRunning 1 = .ok (.istore_n 1, 1) := by decide +kernel
theorem dX3_countRunning_2 : decode cX3_countRunning 2 = .ok (.iconst 0, 1) := by decide +kernel
theorem dX3_countRunning_3 : decode cX3_countRunning 3 = .ok (.istore_n 2, 1) := by decide +kernel
theorem dX3_countRunning_4 : decode cX3_countRunning 4 = .ok (.iload_n 2, 1) := by decide +kernel
theorem dX3_countRunning_5 : decode cX3_countRunning 5 = .ok (.aload_n 0, 1) := by decide +kernel
theorem dX3_countRunning_6 : decode cX3_countRunning 6 = .ok (.getfield 24, 3) := by decide +kernel
theorem dX3_countRunning_9 : decode cX3_countRunning 9 = .ok (.if_icmp .ge 30, 3) := by decide +kernel
theorem dX3_countRunning_12 : decode cX3_countRunning 12 = .ok (.iload_n 2, 1) := by decide +kernel
theorem dX3_countRunning_13 : decode cX3_countRunning 13 = .ok (.bipush 6, 2) := by decide +kernel
theorem dX3_countRunning_15 : decode cX3_countRunning 15 = .ok (.if_icmp .ge 24, 3) := by decide +kernel
theorem dX3_countRunning_18 : decode cX3_countRunning 18 = .ok (.aload_n 0, 1) := by decide +kernel
theorem dX3_countRunning_19 : decode cX3_countRunning 19 = .ok (.getfield 11, 3) := by decide +kernel
theorem dX3_countRunning_22 : decode cX3_countRunning 22 = .ok (.iload_n 2, 1) := by decide +kernel
theorem dX3_countRunning_23 : decode cX3_countRunning 23 = .ok (.aaload, 1) := by decide +kernel
theorem dX3_countRunning_24 : decode cX3_countRunning 24 = .ok (.invokevirtual 60, 3) := by decide +kernel
theorem dX3_countRunning_27 : decode cX3_countRunning 27 = .ok (.ifCond .eq 6, 3) := by decide +kernel
theorem dX3_countRunning_30 : decode cX3_countRunning 30 = .ok (.iinc 1 1, 3) := by decide +kernel
theorem dX3_countRunning_33 : decode cX3_countRunning 33 = .ok (.iinc 2 1, 3) := by decide +kernel
theorem dX3_countRunning_36 : decode cX3_countRunning 36 = .ok (.goto (-32), 3) := by decide +kernel
theorem dX3_countRunning_39 : decode cX3_countRunning 39 = .ok (.iload_n 1, 1) := by decide +kernel
theorem dX3_countRunning_40 : decode cX3_countRunning 40 = .ok (.ireturn, 1) := by decide +kernel
set_option maxRecDepth 20000 in
theorem ggX3_sumOfDues_X2_nextDue : GoodIn wsX3_sumOfDues wsX2_nextDue := goodIn_r _ [7, 8, 9, 10, 11, 6, 12, 13, 14, 15, 16, 17, 18, 19, 20, 21, 25, 26, 27, 28, 29, 30, 31, 32, 33, 34] (by decide +kernel) (by decide +kernel)
set_option maxRecDepth 20000 in
theorem gX3_sumOfDues_X2_nextDue : GoodIn wsX3_sumOfDues (wsV RX3 108 RX2 yX2_nextDue wsX2_nextDue) := goodIn_app (goodIn_of _ (by decide +kernel)) ggX3_sumOfDues_X2_nextDue
theorem dX3_sumOfDues_0 : decode cX3_sumOfDues 0 = .ok (.iconst 0, 1) := by decide +kernel
theorem dX3_sumOfDues_1 : decode cX3_sumOfDues 1 = .ok (.istore_n 1, 1) := by decide +kernel
theorem dX3_sumOfDues_2 : decode cX3_sumOfDues 2 = .ok (.iconst 0, 1) := by decide +kernel
theorem dX3_sumOfDues_3 : decode cX3_sumOfDues 3 = .ok (.istore_n 2, 1) := by decide +kernel
theorem dX3_sumOfDues_4 : decode cX3_sumOfDues 4 = .ok (.iload_n 2, 1) := by decide +kernel
theorem dX3_sumOfDues_5 : decode cX3_sumOfDues 5 = .ok (.aload_n 0, 1) := by decide +kernel
theorem dX3_sumOfDues_6 : decode cX3_sumOfDues 6 = .ok (.getfield 24, 3) := by decide +kernel
theorem dX3_sumOfDues_9 : decode cX3_sumOfDues 9 = .ok (.if_icmp .ge 27, 3) := by decide +kernel
theorem dX3_sumOfDues_12 : decode cX3_sumOfDues 12 = .ok (.iload_n 2, 1) := by decide +kernel
theorem dX3_sumOfDues_13 : decode cX3_sumOfDues 13 = .ok (.bipush 6, 2) := by decide +kernel
theorem dX3_sumOfDues_15 : decode cX3_sumOfDues 15 = .ok (.if_icmp .ge 21, 3) := by decide +kernel
