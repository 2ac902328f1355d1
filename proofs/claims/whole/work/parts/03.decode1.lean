theorem dX0_init_0 : decode cX0_init 0 = .ok (.aload_n 0, 1) := by decide +kernel
theorem dX0_init_1 : decode cX0_init 1 = .ok (.invokespecial 3, 3) := by decide +kernel
theorem dX0_init_4 : decode cX0_init 4 = .ok (.aload_n 0, 1) := by decide +kernel
theorem dX0_init_5 : decode cX0_init 5 = .ok (.bipush 20, 2) := by decide +kernel
theorem dX0_init_7 : decode cX0_init 7 = .ok (.newarray .int, 2) := by decide +kernel
theorem dX0_init_9 : decode cX0_init 9 = .ok (.putfield 9, 3) := by decide +kernel
theorem dX0_init_12 : decode cX0_init 12 = .ok (.aload_n 0, 1) := by decide +kernel
theorem dX0_init_13 : decode cX0_init 13 = .ok (.bipush 20, 2) := by decide +kernel
theorem dX0_init_15 : decode cX0_init 15 = .ok (.newarray .int, 2) := by decide +kernel
theorem dX0_init_17 : decode cX0_init 17 = .ok (.putfield 15, 3) := by decide +kernel
theorem dX0_init_20 : decode cX0_init 20 = .ok (.aload_n 0, 1) := by decide +kernel
theorem dX0_init_21 : decode cX0_init 21 = .ok (.bipush 20, 2) := by decide +kernel
theorem dX0_init_23 : decode cX0_init 23 = .ok (.newarray .int, 2) := by decide +kernel
theorem dX0_init_25 : decode cX0_init 25 = .ok (.putfield 18, 3) := by decide +kernel
theorem dX0_init_28 : decode cX0_init 28 = .ok (.aload_n 0, 1) := by decide +kernel
theorem dX0_init_29 : decode cX0_init 29 = .ok (.iconst 0, 1) := by decide +kernel
theorem dX0_init_30 : decode cX0_init 30 = .ok (.putfield 21, 3) := by decide +kernel
theorem dX0_init_33 : decode cX0_init 33 = .ok (.aload_n 0, 1) := by decide +kernel
theorem dX0_init_34 : decode cX0_init 34 = .ok (.iconst 0, 1) := by decide +kernel
theorem dX0_init_35 : decode cX0_init 35 = .ok (.putfield 25, 3) := by decide +kernel
theorem dX0_init_38 : decode cX0_init 38 = .ok (.return_, 1) := by decide +kernel
theorem dX0_copyFrom_0 : decode cX0_copyFrom 0 = .ok (.aload_n 1, 1) := by decide +kernel
theorem dX0_copyFrom_1 : decode cX0_copyFrom 1 = .ok (.getfield 9, 3) := by decide +kernel
theorem dX0_copyFrom_4 : decode cX0_copyFrom 4 = .ok (.iconst 0, 1) := by decide +kernel
theorem dX0_copyFrom_5 : decode cX0_copyFrom 5 = .ok (.aload_n 0, 1) := by decide +kernel
theorem dX0_copyFrom_6 : decode cX0_copyFrom 6 = .ok (.getfield 9, 3) := by decide +kernel
theorem dX0_copyFrom_9 : decode cX0_copyFrom 9 = .ok (.iconst 0, 1) := by decide +kernel
theorem dX0_copyFrom_10 : decode cX0_copyFrom 10 = .ok (.bipush 20, 2) := by decide +kernel
theorem dX0_copyFrom_12 : decode cX0_copyFrom 12 = .ok (.invokestatic 28, 3) := by decide +kernel
theorem dX0_copyFrom_15 : decode cX0_copyFrom 15 = .ok (.aload_n 1, 1) := by decide +kernel
theorem dX0_copyFrom_16 : decode cX0_copyFrom 16 = .ok (.getfield 15, 3) := by decide +kernel
theorem dX0_copyFrom_19 : decode cX0_copyFrom 19 = .ok (.iconst 0, 1) := by decide +kernel
theorem dX0_copyFrom_20 : decode cX0_copyFrom 20 = .ok (.aload_n 0, 1) := by decide +kernel
theorem dX0_copyFrom_21 : decode cX0_copyFrom 21 = .ok (.getfield 15, 3) := by decide +kernel
theorem dX0_copyFrom_24 : decode cX0_copyFrom 24 = .ok (.iconst 0, 1) := by decide +kernel
theorem dX0_copyFrom_25 : decode cX0_copyFrom 25 = .ok (.bipush 20, 2) := by decide +kernel
theorem dX0_copyFrom_27 : decode cX0_copyFrom 27 = .ok (.invokestatic 28, 3) := by decide +kernel
theorem dX0_copyFrom_30 : decode cX0_copyFrom 30 = .ok (.aload_n 1, 1) := by decide +kernel
theorem dX0_copyFrom_31 : decode cX0_copyFrom 31 = .ok (.getfield 18, 3) := by decide +kernel
theorem dX0_copyFrom_34 : decode cX0_copyFrom 34 = .ok (.iconst 0, 1) := by decide +kernel
theorem dX0_copyFrom_35 : decode cX0_copyFrom 35 = .ok (.aload_n 0, 1) := by decide +kernel
theorem dX0_copyFrom_36 : decode cX0_copyFrom 36 = .ok (.getfield 18, 3) := by decide +kernel
theorem dX0_copyFrom_39 : decode cX0_copyFrom 39 = .ok (.iconst 0, 1) := by decide +kernel
theorem dX0_copyFrom_40 : decode cX0_copyFrom 40 = .ok (.bipush 20, 2) := by decide +kernel
theorem dX0_copyFrom_42 : decode cX0_copyFrom 42 = .ok (.invokestatic 28, 3) := by decide +kernel
theorem dX0_copyFrom_45 : decode cX0_copyFrom 45 = .ok (.aload_n 0, 1) := by decide +kernel
theorem dX0_copyFrom_46 : decode cX0_copyFrom 46 = .ok (.aload_n 1, 1) := by decide +kernel
theorem dX0_copyFrom_47 : decode cX0_copyFrom 47 = .ok (.getfield 21, 3) := by decide +kernel
theorem dX0_copyFrom_50 : decode cX0_copyFrom 50 = .ok (.putfield 21, 3) := by decide +kernel
theorem dX0_copyFrom_53 : decode cX0_copyFrom 53 = .ok (.aload_n 0, 1) := by decide +kernel
theorem dX0_copyFrom_54 : decode cX0_copyFrom 54 = .ok (.aload_n 1, 1) := by decide +kernel
theorem dX0_copyFrom_55 : decode cX0_copyFrom 55 = .ok (.getfield 25, 3) := by decide +kernel
theorem dX0_copyFrom_58 : decode cX0_copyFrom 58 = .ok (.putfield 25, 3) := by decide +kernel
theorem dX0_copyFrom_61 : decode cX0_copyFrom 61 = .ok (.return_, 1) := by decide +kernel
theorem dX0_write_0 : decode cX0_write 0 = .ok (.aload_n 0, 1) := by decide +kernel
theorem dX0_write_1 : decode cX0_write 1 = .ok (.getfield 21, 3) := by decide +kernel
theorem dX0_write_4 : decode cX0_write 4 = .ok (.ifCond .lt 12, 3) := by decide +kernel
theorem dX0_write_7 : decode cX0_write 7 = .ok (.aload_n 0, 1) := by decide +kernel
theorem dX0_write_8 : decode cX0_write 8 = .ok (.getfield 21, 3) := by decide +kernel
theorem dX0_write_11 : decode cX0_write 11 = .ok (.bipush 20, 2) := by decide +kernel
theorem dX0_write_13 : decode cX0_write 13 = .ok (.if_icmp .lt 4, 3) := by decide +kernel
theorem dX0_write_16 : decode cX0_write 16 = .ok (.return_, 1) := by decide +kernel
theorem dX0_write_17 : decode cX0_write 17 = .ok (.aload_n 0, 1) := by decide +kernel
theorem dX0_write_18 : decode cX0_write 18 = .ok (.getfield 9, 3) := by decide +kernel
theorem dX0_write_21 : decode cX0_write 21 = .ok (.aload_n 0, 1) := by decide +kernel
theorem dX0_write_22 : decode cX0_write 22 = .ok (.getfield 21, 3) := by decide +kernel
theorem dX0_write_25 : decode cX0_write 25 = .ok (.iload_n 1, 1) := by decide +kernel
theorem dX0_write_26 : decode cX0_write 26 = .ok (.iastore, 1) := by decide +kernel
theorem dX0_write_27 : decode cX0_write 27 = .ok (.aload_n 0, 1) := by decide +kernel
theorem dX0_write_28 : decode cX0_write 28 = .ok (.getfield 15, 3) := by decide +kernel
theorem dX0_write_31 : decode cX0_write 31 = .ok (.aload_n 0, 1) := by decide +kernel
theorem dX0_write_32 : decode cX0_write 32 = .ok (.getfield 21, 3) := by decide +kernel
theorem dX0_write_35 : decode cX0_write 35 = .ok (.iload_n 2, 1) := by decide +kernel
theorem dX0_write_36 : decode cX0_write 36 = .ok (.iastore, 1) := by decide +kernel
theorem dX0_write_37 : decode cX0_write 37 = .ok (.aload_n 0, 1) := by decide +kernel
theorem dX0_write_38 : decode cX0_write 38 = .ok (.getfield 18, 3) := by decide +kernel
theorem dX0_write_41 : decode cX0_write 41 = .ok (.aload_n 0, 1) := by decide +kernel
theorem dX0_write_42 : decode cX0_write 42 = .ok (.getfield 21, 3) := by decide +kernel
theorem dX0_write_45 : decode cX0_write 45 = .ok (.iload_n 3, 1) := by decide +kernel
theorem dX0_write_46 : decode cX0_write 46 = .ok (.iastore, 1) := by decide +kernel
theorem dX0_write_47 : decode cX0_write 47 = .ok (.aload_n 0, 1) := by decide +kernel
theorem dX0_write_48 : decode cX0_write 48 = .ok (.aload_n 0, 1) := by decide +kernel
theorem dX0_write_49 : decode cX0_write 49 = .ok (.getfield 21, 3) := by decide +kernel
theorem dX0_write_52 : decode cX0_write 52 = .ok (.iconst 1, 1) := by decide +kernel
theorem dX0_write_53 : decode cX0_write 53 = .ok (.iadd, 1) := by decide +kernel
theorem dX0_write_54 : decode cX0_write 54 = .ok (.bipush 20, 2) := by decide +kernel
theorem dX0_write_56 : decode cX0_write 56 = .ok (.if_icmp .ne 7, 3) := by decide +kernel
theorem dX0_write_59 : decode cX0_write 59 = .ok (.iconst 0, 1) := by decide +kernel
theorem dX0_write_60 : decode cX0_write 60 = .ok (.goto 9, 3) := by decide +kernel
theorem dX0_write_63 : decode cX0_write 63 = .ok (.aload_n 0, 1) := by decide +kernel
theorem dX0_write_64 : decode cX0_write 64 = .ok (.getfield 21, 3) := by decide +kernel
theorem dX0_write_67 : decode cX0_write 67 = .ok (.iconst 1, 1) := by decide +kernel
theorem dX0_write_68 : decode cX0_write 68 = .ok (.iadd, 1) := by decide +kernel
theorem dX0_write_69 : decode cX0_write 69 = .ok (.putfield 21, 3) := by decide +kernel
theorem dX0_write_72 : decode cX0_write 72 = .ok (.aload_n 0, 1) := by decide +kernel
theorem dX0_write_73 : decode cX0_write 73 = .ok (.aload_n 0, 1) := by decide +kernel
theorem dX0_write_74 : decode cX0_write 74 = .ok (.getfield 25, 3) := by decide +kernel
theorem dX0_write_77 : decode cX0_write 77 = .ok (.iconst 1, 1) := by decide +kernel
theorem dX0_write_78 : decode cX0_write 78 = .ok (.iadd, 1) := by decide +kernel
theorem dX0_write_79 : decode cX0_write 79 = .ok (.bipush 20, 2) := by decide +kernel
theorem dX0_write_81 : decode cX0_write 81 = .ok (.invokestatic 34, 3) := by decide +kernel
theorem dX0_write_84 : decode cX0_write 84 = .ok (.putfield 25, 3) := by decide +kernel
theorem dX0_write_87 : decode cX0_write 87 = .ok (.return_, 1) := by decide +kernel
theorem dX0_slotOf_0 : decode cX0_slotOf 0 = .ok (.iload_n 1, 1) := by decide +kernel
theorem dX0_slotOf_1 : decode cX0_slotOf 1 = .ok (.ifCond .lt 11, 3) := by decide +kernel
theorem dX0_slotOf_4 : decode cX0_slotOf 4 = .ok (.iload_n 1, 1) := by decide +kernel
theorem dX0_slotOf_5 : decode cX0_slotOf 5 = .ok (.aload_n 0, 1) := by decide +kernel
theorem dX0_slotOf_6 : decode cX0_slotOf 6 = .ok (.getfield 25, 3) := by decide +kernel
theorem dX0_slotOf_9 : decode cX0_slotOf 9 = .ok (.if_icmp .lt 5, 3) := by decide +kernel
theorem dX0_slotOf_12 : decode cX0_slotOf 12 = .ok (.iconst (-1), 1) := by decide +kernel
theorem dX0_slotOf_13 : decode cX0_slotOf 13 = .ok (.ireturn, 1) := by decide +kernel
theorem dX0_slotOf_14 : decode cX0_slotOf 14 = .ok (.aload_n 0, 1) := by decide +kernel
theorem dX0_slotOf_15 : decode cX0_slotOf 15 = .ok (.getfield 21, 3) := by decide +kernel
theorem dX0_slotOf_18 : decode cX0_slotOf 18 = .ok (.iconst 1, 1) := by decide +kernel
theorem dX0_slotOf_19 : decode cX0_slotOf 19 = .ok (.isub, 1) := by decide +kernel
theorem dX0_slotOf_20 : decode cX0_slotOf 20 = .ok (.iload_n 1, 1) := by decide +kernel
theorem dX0_slotOf_21 : decode cX0_slotOf 21 = .ok (.isub, 1) := by decide +kernel
theorem dX0_slotOf_22 : decode cX0_slotOf 22 = .ok (.istore_n 2, 1) := by decide +kernel
theorem dX0_slotOf_23 : decode cX0_slotOf 23 = .ok (.iload_n 2, 1) := by decide +kernel
theorem dX0_slotOf_24 : decode cX0_slotOf 24 = .ok (.ifCond .ge 10, 3) := by decide +kernel
theorem dX0_slotOf_27 : decode cX0_slotOf 27 = .ok (.iload_n 2, 1) := by decide +kernel
theorem dX0_slotOf_28 : decode cX0_slotOf 28 = .ok (.bipush 20, 2) := by decide +kernel
theorem dX0_slotOf_30 : decode cX0_slotOf 30 = .ok (.iadd, 1) := by decide +kernel
theorem dX0_slotOf_31 : decode cX0_slotOf 31 = .ok (.goto 4, 3) := by decide +kernel
theorem dX0_slotOf_34 : decode cX0_slotOf 34 = .ok (.iload_n 2, 1) := by decide +kernel
theorem dX0_slotOf_35 : decode cX0_slotOf 35 = .ok (.ireturn, 1) := by decide +kernel
set_option maxRecDepth 20000 in
theorem ggX1_init_X3_init : GoodIn wsX1_init wsX3_init := goodIn_r _ [12, 13, 2, 3, 14, 15, 16, 17, 18, 19, 20, 21, 22, 23, 24, 25, 26, 27, 28, 29, 30, 31, 32, 33, 34, 38, 39, 40, 41, 42, 43, 44, 45, 46, 47, 48, 49, 50, 51, 52, 53, 54, 55] (by decide +kernel) (by decide +kernel)
set_option maxRecDepth 20000 in
theorem gX1_init_X3_init : GoodIn wsX1_init (wsX3_init) := ggX1_init_X3_init
theorem dX1_init_0 : decode cX1_init 0 = .ok (.aload_n 0, 1) := by decide +kernel
theorem dX1_init_1 : decode cX1_init 1 = .ok (.invokespecial 3, 3) := by decide +kernel
theorem dX1_init_4 : decode cX1_init 4 = .ok (.aload_n 0, 1) := by decide +kernel
theorem dX1_init_5 : decode cX1_init 5 = .ok (.bipush 8, 2) := by decide +kernel
theorem dX1_init_7 : decode cX1_init 7 = .ok (.anewarray 9, 3) := by decide +kernel
theorem dX1_init_10 : decode cX1_init 10 = .ok (.putfield 11, 3) := by decide +kernel
theorem dX1_init_13 : decode cX1_init 13 = .ok (.aload_n 0, 1) := by decide +kernel
theorem dX1_init_14 : decode cX1_init 14 = .ok (.iconst 0, 1) := by decide +kernel
theorem dX1_init_15 : decode cX1_init 15 = .ok (.putfield 17, 3) := by decide +kernel
theorem dX1_init_18 : decode cX1_init 18 = .ok (.aload_n 0, 1) := by decide +kernel
theorem dX1_init_19 : decode cX1_init 19 = .ok (.iconst 0, 1) := by decide +kernel
theorem dX1_init_20 : decode cX1_init 20 = .ok (.putfield 21, 3) := by decide +kernel
theorem dX1_init_23 : decode cX1_init 23 = .ok (.iconst 0, 1) := by decide +kernel
theorem dX1_init_24 : decode cX1_init 24 = .ok (.istore_n 1, 1) := by decide +kernel
theorem dX1_init_25 : decode cX1_init 25 = .ok (.iload_n 1, 1) := by decide +kernel
theorem dX1_init_26 : decode cX1_init 26 = .ok (.bipush 8, 2) := by decide +kernel
theorem dX1_init_28 : decode cX1_init 28 = .ok (.if_icmp .ge 22, 3) := by decide +kernel
theorem dX1_init_31 : decode cX1_init 31 = .ok (.aload_n 0, 1) := by decide +kernel
theorem dX1_init_32 : decode cX1_init 32 = .ok (.getfield 11, 3) := by decide +kernel
theorem dX1_init_35 : decode cX1_init 35 = .ok (.iload_n 1, 1) := by decide +kernel
theorem dX1_init_36 : decode cX1_init 36 = .ok (.new 9, 3) := by decide +kernel
theorem dX1_init_39 : decode cX1_init 39 = .ok (.dup, 1) := by decide +kernel
theorem dX1_init_40 : decode cX1_init 40 = .ok (.invokespecial 24, 3) := by decide +kernel
theorem dX1_init_43 : decode cX1_init 43 = .ok (.aastore, 1) := by decide +kernel
theorem dX1_init_44 : decode cX1_init 44 = .ok (.iinc 1 1, 3) := by decide +kernel
theorem dX1_init_47 : decode cX1_init 47 = .ok (.goto (-22), 3) := by decide +kernel
theorem dX1_init_50 : decode cX1_init 50 = .ok (.return_, 1) := by decide +kernel
set_option maxRecDepth 20000 in
theorem ggX1_remember_X3_copyFrom : GoodIn wsX1_remember wsX3_copyFrom := goodIn_r _ [12, 13, 14, 15, 16, 17, 18, 19, 20, 21, 22, 23, 24, 25, 26, 27, 28, 29, 30, 31, 32, 33, 34, 35, 36, 37, 38, 39, 40, 41, 42, 43, 44, 48, 49, 50, 51, 52, 53, 54, 55, 56, 57, 58, 59, 60, 61, 62, 63, 64, 65] (by decide +kernel) (by decide +kernel)
set_option maxRecDepth 20000 in
theorem gX1_remember_X3_copyFrom : GoodIn wsX1_remember (wsV RX1 25 RX3 yX3_copyFrom wsX3_copyFrom) := goodIn_app (goodIn_of _ (by decide +kernel)) ggX1_remember_X3_copyFrom
theorem dX1_remember_0 : decode cX1_remember 0 = .ok (.aload_n 0, 1) := by decide +kernel
theorem dX1_remember_1 : decode cX1_remember 1 = .ok (.getfield 17, 3) := by decide +kernel
theorem dX1_remember_4 : decode cX1_remember 4 = .ok (.ifCond .lt 12, 3) := by decide +kernel
theorem dX1_remember_7 : decode cX1_remember 7 = .ok (.aload_n 0, 1) := by decide +kernel
theorem dX1_remember_8 : decode cX1_remember 8 = .ok (.getfield 17, 3) := by decide +kernel
theorem dX1_remember_11 : decode cX1_remember 11 = .ok (.bipush 8, 2) := by decide +kernel
theorem dX1_remember_13 : decode cX1_remember 13 = .ok (.if_icmp .lt 4, 3) := by decide +kernel
theorem dX1_remember_16 : decode cX1_remember 16 = .ok (.return_, 1) := by decide +kernel
theorem dX1_remember_17 : decode cX1_remember 17 = .ok (.aload_n 0, 1) := by decide +kernel
theorem dX1_remember_18 : decode cX1_remember 18 = .ok (.getfield 11, 3) := by decide +kernel
theorem dX1_remember_21 : decode cX1_remember 21 = .ok (.aload_n 0, 1) := by decide +kernel
theorem dX1_remember_22 : decode cX1_remember 22 = .ok (.getfield 17, 3) := by decide +kernel
theorem dX1_remember_25 : decode cX1_remember 25 = .ok (.aaload, 1) := by decide +kernel
theorem dX1_remember_26 : decode cX1_remember 26 = .ok (.aload_n 1, 1) := by decide +kernel
theorem dX1_remember_27 : decode cX1_remember 27 = .ok (.invokevirtual 25, 3) := by decide +kernel
theorem dX1_remember_30 : decode cX1_remember 30 = .ok (.aload_n 0, 1) := by decide +kernel
theorem dX1_remember_31 : decode cX1_remember 31 = .ok (.aload_n 0, 1) := by decide +kernel
theorem dX1_remember_32 : decode cX1_remember 32 = .ok (.getfield 17, 3) := by decide +kernel
theorem dX1_remember_35 : decode cX1_remember 35 = .ok (.iconst 1, 1) := by decide +kernel
theorem dX1_remember_36 : decode cX1_remember 36 = .ok (.iadd, 1) := by decide +kernel
theorem dX1_remember_37 : decode cX1_remember 37 = .ok (.bipush 8, 2) := by decide +kernel
theorem dX1_remember_39 : decode cX1_remember 39 = .ok (.if_icmp .ne 7, 3) := by decide +kernel
theorem dX1_remember_42 : decode cX1_remember 42 = .ok (.iconst 0, 1) := by decide +kernel
theorem dX1_remember_43 : decode cX1_remember 43 = .ok (.goto 9, 3) := by decide +kernel
theorem dX1_remember_46 : decode cX1_remember 46 = .ok (.aload_n 0, 1) := by decide +kernel
theorem dX1_remember_47 : decode cX1_remember 47 = .ok (.getfield 17, 3) := by decide +kernel
theorem dX1_remember_50 : decode cX1_remember 50 = .ok (.iconst 1, 1) := by decide +kernel
theorem dX1_remember_51 : decode cX1_remember 51 = .ok (.iadd, 1) := by decide +kernel
theorem dX1_remember_52 : decode cX1_remember 52 = .ok (.putfield 17, 3) := by decide +kernel
theorem dX1_remember_55 : decode cX1_remember 55 = .ok (.aload_n 0, 1) := by decide +kernel
theorem dX1_remember_56 : decode cX1_remember 56 = .ok (.aload_n 0, 1) := by decide +kernel
theorem dX1_remember_57 : decode cX1_remember 57 = .ok (.getfield 21, 3) := by decide +kernel
theorem dX1_remember_60 : decode cX1_remember 60 = .ok (.iconst 1, 1) := by decide +kernel
theorem dX1_remember_61 : decode cX1_remember 61 = .ok (.iadd, 1) := by decide +kernel
theorem dX1_remember_62 : decode cX1_remember 62 = .ok (.bipush 8, 2) := by decide +kernel
theorem dX1_remember_64 : decode cX1_remember 64 = .ok (.invokestatic 29, 3) := by decide +kernel
theorem dX1_remember_67 : decode cX1_remember 67 = .ok (.putfield 21, 3) := by decide +kernel
theorem dX1_remember_70 : decode cX1_remember 70 = .ok (.return_, 1) := by decide +kernel
set_option maxRecDepth 20000 in
theorem ggX1_takeBack_X3_copyFrom : GoodIn wsX1_takeBack wsX3_copyFrom := goodIn_r _ [8, 9, 10, 11, 12, 13, 14, 15, 16, 17, 18, 19, 20, 21, 22, 23, 24, 25, 26, 27, 28, 29, 30, 31, 32, 33, 34, 35, 36, 37, 38, 39, 40, 44, 45, 46, 47, 48, 49, 50, 51, 52, 53, 54, 55, 56, 57, 58, 59, 60, 61] (by decide +kernel) (by decide +kernel)
set_option maxRecDepth 20000 in
theorem gX1_takeBack_X3_copyFrom : GoodIn wsX1_takeBack (wsV RX1 25 RX3 yX3_copyFrom wsX3_copyFrom) := goodIn_app (goodIn_of _ (by decide +kernel)) ggX1_takeBack_X3_copyFrom
theorem dX1_takeBack_0 : decode cX1_takeBack 0 = .ok (.aload_n 0, 1) := by decide +kernel
theorem dX1_takeBack_1 : decode cX1_takeBack 1 = .ok (.getfield 17, 3) := by decide +kernel
theorem dX1_takeBack_4 : decode cX1_takeBack 4 = .ok (.ifCond .ne 8, 3) := by decide +kernel
theorem dX1_takeBack_7 : decode cX1_takeBack 7 = .ok (.bipush 7, 2) := by decide +kernel
theorem dX1_takeBack_9 : decode cX1_takeBack 9 = .ok (.goto 9, 3) := by decide +kernel
theorem dX1_takeBack_12 : decode cX1_takeBack 12 = .ok (.aload_n 0, 1) := by decide +kernel
theorem dX1_takeBack_13 : decode cX1_takeBack 13 = .ok (.getfield 17, 3) := by decide +kernel
theorem dX1_takeBack_16 : decode cX1_takeBack 16 = .ok (.iconst 1, 1) := by decide +kernel
theorem dX1_takeBack_17 : decode cX1_takeBack 17 = .ok (.isub, 1) := by decide +kernel
theorem dX1_takeBack_18 : decode cX1_takeBack 18 = .ok (.istore_n 2, 1) := by decide +kernel
theorem dX1_takeBack_19 : decode cX1_takeBack 19 = .ok (.aload_n 0, 1) := by decide +kernel
theorem dX1_takeBack_20 : decode cX1_takeBack 20 = .ok (.getfield 21, 3) := by decide +kernel
theorem dX1_takeBack_23 : decode cX1_takeBack 23 = .ok (.ifCond .eq 13, 3) := by decide +kernel
theorem dX1_takeBack_26 : decode cX1_takeBack 26 = .ok (.iload_n 2, 1) := by decide +kernel
theorem dX1_takeBack_27 : decode cX1_takeBack 27 = .ok (.ifCond .lt 9, 3) := by decide +kernel
theorem dX1_takeBack_30 : decode cX1_takeBack 30 = .ok (.iload_n 2, 1) := by decide +kernel
theorem dX1_takeBack_31 : decode cX1_takeBack 31 = .ok (.bipush 8, 2) := by decide +kernel
theorem dX1_takeBack_33 : decode cX1_takeBack 33 = .ok (.if_icmp .lt 5, 3) := by decide +kernel
theorem dX1_takeBack_36 : decode cX1_takeBack 36 = .ok (.iconst 0, 1) := by decide +kernel
theorem dX1_takeBack_37 : decode cX1_takeBack 37 = .ok (.ireturn, 1) := by decide +kernel
theorem dX1_takeBack_38 : decode cX1_takeBack 38 = .ok (.aload_n 1, 1) := by decide +kernel
theorem dX1_takeBack_39 : decode cX1_takeBack 39 = .ok (.aload_n 0, 1) := by decide +kernel
theorem dX1_takeBack_40 : decode cX1_takeBack 40 = .ok (.getfield 11, 3) := by decide +kernel
theorem dX1_takeBack_43 : decode cX1_takeBack 43 = .ok (.iload_n 2, 1) := by decide +kernel
theorem dX1_takeBack_44 : decode cX1_takeBack 44 = .ok (.aaload, 1) := by decide +kernel
theorem dX1_takeBack_45 : decode cX1_takeBack 45 = .ok (.invokevirtual 25, 3) := by decide +kernel
theorem dX1_takeBack_48 : decode cX1_takeBack 48 = .ok (.aload_n 0, 1) := by decide +kernel
theorem dX1_takeBack_49 : decode cX1_takeBack 49 = .ok (.iload_n 2, 1) := by decide +kernel
theorem dX1_takeBack_50 : decode cX1_takeBack 50 = .ok (.putfield 17, 3) := by decide +kernel
theorem dX1_takeBack_53 : decode cX1_takeBack 53 = .ok (.aload_n 0, 1) := by decide +kernel
theorem dX1_takeBack_54 : decode cX1_takeBack 54 = .ok (.dup, 1) := by decide +kernel
theorem dX1_takeBack_55 : decode cX1_takeBack 55 = .ok (.getfield 21, 3) := by decide +kernel
theorem dX1_takeBack_58 : decode cX1_takeBack 58 = .ok (.iconst 1, 1) := by decide +kernel
theorem dX1_takeBack_59 : decode cX1_takeBack 59 = .ok (.isub, 1) := by decide +kernel
theorem dX1_takeBack_60 : decode cX1_takeBack 60 = .ok (.putfield 21, 3) := by decide +kernel
theorem dX1_takeBack_63 : decode cX1_takeBack 63 = .ok (.iconst 1, 1) := by decide +kernel
theorem dX1_takeBack_64 : decode cX1_takeBack 64 = .ok (.ireturn, 1) := by decide +kernel
theorem dX1_forget_0 : decode cX1_forget 0 = .ok (.aload_n 0, 1) := by decide +kernel
theorem dX1_forget_1 : decode cX1_forget 1 = .ok (.iconst 0, 1) := by decide +kernel
theorem dX1_forget_2 : decode cX1_forget 2 = .ok (.putfield 21, 3) := by decide +kernel
theorem dX1_forget_5 : decode cX1_forget 5 = .ok (.return_, 1) := by decide +kernel
theorem dX2_init_0 : decode cX2_init 0 = .ok (.aload_n 0, 1) := by decide +kernel
theorem dX2_init_1 : decode cX2_init 1 = .ok (.invokespecial 3, 3) := by decide +kernel
theorem dX2_init_4 : decode cX2_init 4 = .ok (.return_, 1) := by decide +kernel
theorem dX2_copyFrom_0 : decode cX2_copyFrom 0 = .ok (.aload_n 0, 1) := by decide +kernel
theorem dX2_copyFrom_1 : decode cX2_copyFrom 1 = .ok (.aload_n 1, 1) := by decide +kernel
theorem dX2_copyFrom_2 : decode cX2_copyFrom 2 = .ok (.getfield 9, 3) := by decide +kernel
theorem dX2_copyFrom_5 : decode cX2_copyFrom 5 = .ok (.putfield 9, 3) := by decide +kernel
theorem dX2_copyFrom_8 : decode cX2_copyFrom 8 = .ok (.aload_n 0, 1) := by decide +kernel
theorem dX2_copyFrom_9 : decode cX2_copyFrom 9 = .ok (.aload_n 1, 1) := by decide +kernel
theorem dX2_copyFrom_10 : decode cX2_copyFrom 10 = .ok (.getfield 15, 3) := by decide +kernel
theorem dX2_copyFrom_13 : decode cX2_copyFrom 13 = .ok (.putfield 15, 3) := by decide +kernel
theorem dX2_copyFrom_16 : decode cX2_copyFrom 16 = .ok (.aload_n 0, 1) := by decide +kernel
theorem dX2_copyFrom_17 : decode cX2_copyFrom 17 = .ok (.aload_n 1, 1) := by decide +kernel
theorem dX2_copyFrom_18 : decode cX2_copyFrom 18 = .ok (.getfield 18, 3) := by decide +kernel
theorem dX2_copyFrom_21 : decode cX2_copyFrom 21 = .ok (.putfield 18, 3) := by decide +kernel
theorem dX2_copyFrom_24 : decode cX2_copyFrom 24 = .ok (.aload_n 0, 1) := by decide +kernel
theorem dX2_copyFrom_25 : decode cX2_copyFrom 25 = .ok (.aload_n 1, 1) := by decide +kernel
theorem dX2_copyFrom_26 : decode cX2_copyFrom 26 = .ok (.getfield 21, 3) := by decide +kernel
theorem dX2_copyFrom_29 : decode cX2_copyFrom 29 = .ok (.putfield 21, 3) := by decide +kernel
theorem dX2_copyFrom_32 : decode cX2_copyFrom 32 = .ok (.aload_n 0, 1) := by decide +kernel
theorem dX2_copyFrom_33 : decode cX2_copyFrom 33 = .ok (.aload_n 1, 1) := by decide +kernel
theorem dX2_copyFrom_34 : decode cX2_copyFrom 34 = .ok (.getfield 24, 3) := by decide +kernel
theorem dX2_copyFrom_37 : decode cX2_copyFrom 37 = .ok (.putfield 24, 3) := by decide +kernel
theorem dX2_copyFrom_40 : decode cX2_copyFrom 40 = .ok (.aload_n 0, 1) := by decide +kernel
theorem dX2_copyFrom_41 : decode cX2_copyFrom 41 = .ok (.aload_n 1, 1) := by decide +kernel
theorem dX2_copyFrom_42 : decode cX2_copyFrom 42 = .ok (.getfield 27, 3) := by decide +kernel
theorem dX2_copyFrom_45 : decode cX2_copyFrom 45 = .ok (.putfield 27, 3) := by decide +kernel
theorem dX2_copyFrom_48 : decode cX2_copyFrom 48 = .ok (.aload_n 0, 1) := by decide +kernel
theorem dX2_copyFrom_49 : decode cX2_copyFrom 49 = .ok (.aload_n 1, 1) := by decide +kernel
theorem dX2_copyFrom_50 : decode cX2_copyFrom 50 = .ok (.getfield 30, 3) := by decide +kernel
theorem dX2_copyFrom_53 : decode cX2_copyFrom 53 = .ok (.putfield 30, 3) := by decide +kernel
theorem dX2_copyFrom_56 : decode cX2_copyFrom 56 = .ok (.aload_n 0, 1) := by decide +kernel
theorem dX2_copyFrom_57 : decode cX2_copyFrom 57 = .ok (.aload_n 1, 1) := by decide +kernel
theorem dX2_copyFrom_58 : decode cX2_copyFrom 58 = .ok (.getfield 33, 3) := by decide +kernel
theorem dX2_copyFrom_61 : decode cX2_copyFrom 61 = .ok (.putfield 33, 3) := by decide +kernel
theorem dX2_copyFrom_64 : decode cX2_copyFrom 64 = .ok (.aload_n 0, 1) := by decide +kernel
theorem dX2_copyFrom_65 : decode cX2_copyFrom 65 = .ok (.aload_n 1, 1) := by decide +kernel
theorem dX2_copyFrom_66 : decode cX2_copyFrom 66 = .ok (.getfield 36, 3) := by decide +kernel
theorem dX2_copyFrom_69 : decode cX2_copyFrom 69 = .ok (.putfield 36, 3) := by decide +kernel
theorem dX2_copyFrom_72 : decode cX2_copyFrom 72 = .ok (.aload_n 0, 1) := by decide +kernel
theorem dX2_copyFrom_73 : decode cX2_copyFrom 73 = .ok (.aload_n 1, 1) := by decide +kernel
theorem dX2_copyFrom_74 : decode cX2_copyFrom 74 = .ok (.getfield 39, 3) := by decide +kernel
theorem dX2_copyFrom_77 : decode cX2_copyFrom 77 = .ok (.putfield 39, 3) := by decide +kernel
theorem dX2_copyFrom_80 : decode cX2_copyFrom 80 = .ok (.return_, 1) := by decide +kernel
set_option maxRecDepth 20000 in
theorem ggX2_begin_X2_levelFor : GoodIn wsX2_begin wsX2_levelFor := goodIn_r _ [15, 2, 16, 17, 18, 14, 19, 8, 3, 20, 21, 22, 23, 24, 25, 26, 27, 28, 29, 30, 31, 32, 33, 34] (by decide +kernel) (by decide +kernel)
set_option maxRecDepth 20000 in
theorem gX2_begin_X2_levelFor : GoodIn wsX2_begin (wsV RX2 42 RX2 yX2_levelFor wsX2_levelFor) := goodIn_app (goodIn_of _ (by decide +kernel)) ggX2_begin_X2_levelFor
theorem dX2_begin_0 : decode cX2_begin 0 = .ok (.aload_n 0, 1) := by decide +kernel
theorem dX2_begin_1 : decode cX2_begin 1 = .ok (.iload_n 1, 1) := by decide +kernel
theorem dX2_begin_2 : decode cX2_begin 2 = .ok (.putfield 9, 3) := by decide +kernel
theorem dX2_begin_5 : decode cX2_begin 5 = .ok (.aload_n 0, 1) := by decide +kernel
theorem dX2_begin_6 : decode cX2_begin 6 = .ok (.iload_n 1, 1) := by decide +kernel
theorem dX2_begin_7 : decode cX2_begin 7 = .ok (.putfield 15, 3) := by decide +kernel
theorem dX2_begin_10 : decode cX2_begin 10 = .ok (.aload_n 0, 1) := by decide +kernel
theorem dX2_begin_11 : decode cX2_begin 11 = .ok (.iconst 0, 1) := by decide +kernel
theorem dX2_begin_12 : decode cX2_begin 12 = .ok (.putfield 27, 3) := by decide +kernel
theorem dX2_begin_15 : decode cX2_begin 15 = .ok (.aload_n 0, 1) := by decide +kernel
theorem dX2_begin_16 : decode cX2_begin 16 = .ok (.iconst 0, 1) := by decide +kernel
theorem dX2_begin_17 : decode cX2_begin 17 = .ok (.putfield 30, 3) := by decide +kernel
theorem dX2_begin_20 : decode cX2_begin 20 = .ok (.aload_n 0, 1) := by decide +kernel
theorem dX2_begin_21 : decode cX2_begin 21 = .ok (.iconst 0, 1) := by decide +kernel
theorem dX2_begin_22 : decode cX2_begin 22 = .ok (.putfield 33, 3) := by decide +kernel
theorem dX2_begin_25 : decode cX2_begin 25 = .ok (.aload_n 0, 1) := by decide +kernel
theorem dX2_begin_26 : decode cX2_begin 26 = .ok (.iconst 0, 1) := by decide +kernel
theorem dX2_begin_27 : decode cX2_begin 27 = .ok (.putfield 36, 3) := by decide +kernel
theorem dX2_begin_30 : decode cX2_begin 30 = .ok (.aload_n 0, 1) := by decide +kernel
theorem dX2_begin_31 : decode cX2_begin 31 = .ok (.iconst 0, 1) := by decide +kernel
theorem dX2_begin_32 : decode cX2_begin 32 = .ok (.putfield 39, 3) := by decide +kernel
theorem dX2_begin_35 : decode cX2_begin 35 = .ok (.aload_n 0, 1) := by decide +kernel
theorem dX2_begin_36 : decode cX2_begin 36 = .ok (.iload_n 2, 1) := by decide +kernel
theorem dX2_begin_37 : decode cX2_begin 37 = .ok (.putfield 18, 3) := by decide +kernel
theorem dX2_begin_40 : decode cX2_begin 40 = .ok (.aload_n 0, 1) := by decide +kernel
theorem dX2_begin_41 : decode cX2_begin 41 = .ok (.iload_n 3, 1) := by decide +kernel
theorem dX2_begin_42 : decode cX2_begin 42 = .ok (.putfield 21, 3) := by decide +kernel
theorem dX2_begin_45 : decode cX2_begin 45 = .ok (.aload_n 0, 1) := by decide +kernel
theorem dX2_begin_46 : decode cX2_begin 46 = .ok (.aload_n 0, 1) := by decide +kernel
theorem dX2_begin_47 : decode cX2_begin 47 = .ok (.iload_n 3, 1) := by decide +kernel
theorem dX2_begin_48 : decode cX2_begin 48 = .ok (.invokevirtual 42, 3) := by decide +kernel
theorem dX2_begin_51 : decode cX2_begin 51 = .ok (.putfield 24, 3) := by decide +kernel
theorem dX2_begin_54 : decode cX2_begin 54 = .ok (.return_, 1) := by decide +kernel
theorem dX2_isRunning_0 : decode cX2_isRunning 0 = .ok (.aload_n 0, 1) := by decide +kernel
theorem dX2_isRunning_1 : decode cX2_isRunning 1 = .ok (.getfield 15, 3) := by decide +kernel
theorem dX2_isRunning_4 : decode cX2_isRunning 4 = .ok (.ifCond .le 7, 3) := by decide +kernel
theorem dX2_isRunning_7 : decode cX2_isRunning 7 = .ok (.iconst 1, 1) := by decide +kernel
theorem dX2_isRunning_8 : decode cX2_isRunning 8 = .ok (.goto 4, 3) := by decide +kernel
theorem dX2_isRunning_11 : decode cX2_isRunning 11 = .ok (.iconst 0, 1) := by decide +kernel
theorem dX2_isRunning_12 : decode cX2_isRunning 12 = .ok (.ireturn, 1) := by decide +kernel
theorem dX2_canReduce_0 : decode cX2_canReduce 0 = .ok (.aload_n 0, 1) := by decide +kernel
theorem dX2_canReduce_1 : decode cX2_canReduce 1 = .ok (.getfield 15, 3) := by decide +kernel
theorem dX2_canReduce_4 : decode cX2_canReduce 4 = .ok (.ifCond .le 15, 3) := by decide +kernel
theorem dX2_canReduce_7 : decode cX2_canReduce 7 = .ok (.iload_n 1, 1) := by decide +kernel
theorem dX2_canReduce_8 : decode cX2_canReduce 8 = .ok (.aload_n 0, 1) := by decide +kernel
theorem dX2_canReduce_9 : decode cX2_canReduce 9 = .ok (.getfield 15, 3) := by decide +kernel
theorem dX2_canReduce_12 : decode cX2_canReduce 12 = .ok (.if_icmp .gt 7, 3) := by decide +kernel
theorem dX2_canReduce_15 : decode cX2_canReduce 15 = .ok (.iconst 1, 1) := by decide +kernel
theorem dX2_canReduce_16 : decode cX2_canReduce 16 = .ok (.goto 4, 3) := by decide +kernel
theorem dX2_canReduce_19 : decode cX2_canReduce 19 = .ok (.iconst 0, 1) := by decide +kernel
theorem dX2_canReduce_20 : decode cX2_canReduce 20 = .ok (.ireturn, 1) := by decide +kernel
set_option maxRecDepth 20000 in
theorem ggX2_canDefer_X2_nextInterest : GoodIn wsX2_canDefer wsX2_nextInterest := goodIn_r _ [8, 1, 9, 10, 11, 12, 13, 14, 15, 16, 17, 18, 19, 20, 21] (by decide +kernel) (by decide +kernel)
set_option maxRecDepth 20000 in
theorem gX2_canDefer_X2_nextInterest : GoodIn wsX2_canDefer (wsV RX2 46 RX2 yX2_nextInterest wsX2_nextInterest) := goodIn_app (goodIn_of _ (by decide +kernel)) ggX2_canDefer_X2_nextInterest
theorem dX2_canDefer_0 : decode cX2_canDefer 0 = .ok (.aload_n 0, 1) := by decide +kernel
theorem dX2_canDefer_1 : decode cX2_canDefer 1 = .ok (.getfield 15, 3) := by decide +kernel
theorem dX2_canDefer_4 : decode cX2_canDefer 4 = .ok (.ifCond .le 30, 3) := by decide +kernel
theorem dX2_canDefer_7 : decode cX2_canDefer 7 = .ok (.aload_n 0, 1) := by decide +kernel
theorem dX2_canDefer_8 : decode cX2_canDefer 8 = .ok (.getfield 39, 3) := by decide +kernel
theorem dX2_canDefer_11 : decode cX2_canDefer 11 = .ok (.bipush 6, 2) := by decide +kernel
theorem dX2_canDefer_13 : decode cX2_canDefer 13 = .ok (.if_icmp .ge 21, 3) := by decide +kernel
theorem dX2_canDefer_16 : decode cX2_canDefer 16 = .ok (.aload_n 0, 1) := by decide +kernel
theorem dX2_canDefer_17 : decode cX2_canDefer 17 = .ok (.getfield 15, 3) := by decide +kernel
theorem dX2_canDefer_20 : decode cX2_canDefer 20 = .ok (.aload_n 0, 1) := by decide +kernel
theorem dX2_canDefer_21 : decode cX2_canDefer 21 = .ok (.invokevirtual 46, 3) := by decide +kernel
theorem dX2_canDefer_24 : decode cX2_canDefer 24 = .ok (.iadd, 1) := by decide +kernel
theorem dX2_canDefer_25 : decode cX2_canDefer 25 = .ok (.ldc 50, 2) := by decide +kernel
theorem dX2_canDefer_27 : decode cX2_canDefer 27 = .ok (.if_icmp .gt 7, 3) := by decide +kernel
theorem dX2_canDefer_30 : decode cX2_canDefer 30 = .ok (.iconst 1, 1) := by decide +kernel
theorem dX2_canDefer_31 : decode cX2_canDefer 31 = .ok (.goto 4, 3) := by decide +kernel
theorem dX2_canDefer_34 : decode cX2_canDefer 34 = .ok (.iconst 0, 1) := by decide +kernel
theorem dX2_canDefer_35 : decode cX2_canDefer 35 = .ok (.ireturn, 1) := by decide +kernel
theorem dX2_canLengthen_0 : decode cX2_canLengthen 0 = .ok (.aload_n 0, 1) := by decide +kernel
theorem dX2_canLengthen_1 : decode cX2_canLengthen 1 = .ok (.getfield 15, 3) := by decide +kernel
theorem dX2_canLengthen_4 : decode cX2_canLengthen 4 = .ok (.ifCond .le 18, 3) := by decide +kernel
theorem dX2_canLengthen_7 : decode cX2_canLengthen 7 = .ok (.aload_n 0, 1) := by decide +kernel
theorem dX2_canLengthen_8 : decode cX2_canLengthen 8 = .ok (.getfield 21, 3) := by decide +kernel
theorem dX2_canLengthen_11 : decode cX2_canLengthen 11 = .ok (.iload_n 1, 1) := by decide +kernel
theorem dX2_canLengthen_12 : decode cX2_canLengthen 12 = .ok (.iadd, 1) := by decide +kernel
theorem dX2_canLengthen_13 : decode cX2_canLengthen 13 = .ok (.bipush 120, 2) := by decide +kernel
theorem dX2_canLengthen_15 : decode cX2_canLengthen 15 = .ok (.if_icmp .gt 7, 3) := by decide +kernel
theorem dX2_canLengthen_18 : decode cX2_canLengthen 18 = .ok (.iconst 1, 1) := by decide +kernel
theorem dX2_canLengthen_19 : decode cX2_canLengthen 19 = .ok (.goto 4, 3) := by decide +kernel
theorem dX2_canLengthen_22 : decode cX2_canLengthen 22 = .ok (.iconst 0, 1) := by decide +kernel
theorem dX2_canLengthen_23 : decode cX2_canLengthen 23 = .ok (.ireturn, 1) := by decide +kernel
theorem dX2_nextInterest_0 : decode cX2_nextInterest 0 = .ok (.aload_n 0, 1) := by decide +kernel
theorem dX2_nextInterest_1 : decode cX2_nextInterest 1 = .ok (.getfield 15, 3) := by decide +kernel
theorem dX2_nextInterest_4 : decode cX2_nextInterest 4 = .ok (.i2l, 1) := by decide +kernel
theorem dX2_nextInterest_5 : decode cX2_nextInterest 5 = .ok (.aload_n 0, 1) := by decide +kernel
theorem dX2_nextInterest_6 : decode cX2_nextInterest 6 = .ok (.getfield 18, 3) := by decide +kernel
theorem dX2_nextInterest_9 : decode cX2_nextInterest 9 = .ok (.i2l, 1) := by decide +kernel
theorem dX2_nextInterest_10 : decode cX2_nextInterest 10 = .ok (.lmul, 1) := by decide +kernel
theorem dX2_nextInterest_11 : decode cX2_nextInterest 11 = .ok (.aload_n 0, 1) := by decide +kernel
theorem dX2_nextInterest_12 : decode cX2_nextInterest 12 = .ok (.getfield 27, 3) := by decide +kernel
theorem dX2_nextInterest_15 : decode cX2_nextInterest 15 = .ok (.i2l, 1) := by decide +kernel
theorem dX2_nextInterest_16 : decode cX2_nextInterest 16 = .ok (.ladd, 1) := by decide +kernel
theorem dX2_nextInterest_17 : decode cX2_nextInterest 17 = .ok (.ldc2_w 51, 3) := by decide +kernel
theorem dX2_nextInterest_20 : decode cX2_nextInterest 20 = .ok (.ldiv, 1) := by decide +kernel
theorem dX2_nextInterest_21 : decode cX2_nextInterest 21 = .ok (.l2i, 1) := by decide +kernel
theorem dX2_nextInterest_22 : decode cX2_nextInterest 22 = .ok (.ireturn, 1) := by decide +kernel
set_option maxRecDepth 20000 in
theorem ggX2_nextDue_X2_nextInterest : GoodIn wsX2_nextDue wsX2_nextInterest := goodIn_r _ [6, 1, 7, 8, 9, 16, 17, 18, 19, 20, 21, 22, 23, 24, 25] (by decide +kernel) (by decide +kernel)
set_option maxRecDepth 20000 in
theorem gX2_nextDue_X2_nextInterest : GoodIn wsX2_nextDue (wsV RX2 46 RX2 yX2_nextInterest wsX2_nextInterest) := goodIn_app (goodIn_of _ (by decide +kernel)) ggX2_nextDue_X2_nextInterest
set_option maxRecDepth 20000 in
theorem ggX2_nextDue_X2_partDue : GoodIn wsX2_nextDue wsX2_partDue := goodIn_r _ [13, 14, 15, 16, 17, 18, 19, 20, 21, 22, 23, 24, 25] (by decide +kernel) (by decide +kernel)
set_option maxRecDepth 20000 in
theorem gX2_nextDue_X2_partDue : GoodIn wsX2_nextDue (wsV RX2 53 RX2 yX2_partDue wsX2_partDue) := goodIn_app (goodIn_of _ (by decide +kernel)) ggX2_nextDue_X2_partDue
theorem dX2_nextDue_0 : decode cX2_nextDue 0 = .ok (.aload_n 0, 1) := by decide +kernel
theorem dX2_nextDue_1 : decode cX2_nextDue 1 = .ok (.aload_n 0, 1) := by decide +kernel
theorem dX2_nextDue_2 : decode cX2_nextDue 2 = .ok (.getfield 15, 3) := by decide +kernel
theorem dX2_nextDue_5 : decode cX2_nextDue 5 = .ok (.aload_n 0, 1) := by decide +kernel
theorem dX2_nextDue_6 : decode cX2_nextDue 6 = .ok (.invokevirtual 46, 3) := by decide +kernel
theorem dX2_nextDue_9 : decode cX2_nextDue 9 = .ok (.iadd, 1) := by decide +kernel
theorem dX2_nextDue_10 : decode cX2_nextDue 10 = .ok (.invokevirtual 53, 3) := by decide +kernel
theorem dX2_nextDue_13 : decode cX2_nextDue 13 = .ok (.ireturn, 1) := by decide +kernel
theorem dX2_partDue_0 : decode cX2_partDue 0 = .ok (.iload_n 1, 1) := by decide +kernel
theorem dX2_partDue_1 : decode cX2_partDue 1 = .ok (.aload_n 0, 1) := by decide +kernel
theorem dX2_partDue_2 : decode cX2_partDue 2 = .ok (.getfield 24, 3) := by decide +kernel
theorem dX2_partDue_5 : decode cX2_partDue 5 = .ok (.if_icmp .le 11, 3) := by decide +kernel
theorem dX2_partDue_8 : decode cX2_partDue 8 = .ok (.aload_n 0, 1) := by decide +kernel
theorem dX2_partDue_9 : decode cX2_partDue 9 = .ok (.getfield 21, 3) := by decide +kernel
theorem dX2_partDue_12 : decode cX2_partDue 12 = .ok (.iconst 1, 1) := by decide +kernel
theorem dX2_partDue_13 : decode cX2_partDue 13 = .ok (.if_icmp .ne 7, 3) := by decide +kernel
theorem dX2_partDue_16 : decode cX2_partDue 16 = .ok (.iload_n 1, 1) := by decide +kernel
theorem dX2_partDue_17 : decode cX2_partDue 17 = .ok (.goto 7, 3) := by decide +kernel
theorem dX2_partDue_20 : decode cX2_partDue 20 = .ok (.aload_n 0, 1) := by decide +kernel
theorem dX2_partDue_21 : decode cX2_partDue 21 = .ok (.getfield 24, 3) := by decide +kernel
theorem dX2_partDue_24 : decode cX2_partDue 24 = .ok (.ireturn, 1) := by decide +kernel
theorem dX2_addInterest_0 : decode cX2_addInterest 0 = .ok (.aload_n 0, 1) := by decide +kernel
theorem dX2_addInterest_1 : decode cX2_addInterest 1 = .ok (.getfield 15, 3) := by decide +kernel
theorem dX2_addInterest_4 : decode cX2_addInterest 4 = .ok (.i2l, 1) := by decide +kernel
theorem dX2_addInterest_5 : decode cX2_addInterest 5 = .ok (.aload_n 0, 1) := by decide +kernel
theorem dX2_addInterest_6 : decode cX2_addInterest 6 = .ok (.getfield 18, 3) := by decide +kernel
theorem dX2_addInterest_9 : decode cX2_addInterest 9 = .ok (.i2l, 1) := by decide +kernel
theorem dX2_addInterest_10 : decode cX2_addInterest 10 = .ok (.lmul, 1) := by decide +kernel
theorem dX2_addInterest_11 : decode cX2_addInterest 11 = .ok (.aload_n 0, 1) := by decide +kernel
theorem dX2_addInterest_12 : decode cX2_addInterest 12 = .ok (.getfield 27, 3) := by decide +kernel
theorem dX2_addInterest_15 : decode cX2_addInterest 15 = .ok (.i2l, 1) := by decide +kernel
theorem dX2_addInterest_16 : decode cX2_addInterest 16 = .ok (.ladd, 1) := by decide +kernel
theorem dX2_addInterest_17 : decode cX2_addInterest 17 = .ok (.lstore_n 1, 1) := by decide +kernel
theorem dX2_addInterest_18 : decode cX2_addInterest 18 = .ok (.lload_n 1, 1) := by decide +kernel
theorem dX2_addInterest_19 : decode cX2_addInterest 19 = .ok (.ldc2_w 51, 3) := by decide +kernel
theorem dX2_addInterest_22 : decode cX2_addInterest 22 = .ok (.ldiv, 1) := by decide +kernel
theorem dX2_addInterest_23 : decode cX2_addInterest 23 = .ok (.l2i, 1) := by decide +kernel
theorem dX2_addInterest_24 : decode cX2_addInterest 24 = .ok (.istore_n 3, 1) := by decide +kernel
theorem dX2_addInterest_25 : decode cX2_addInterest 25 = .ok (.aload_n 0, 1) := by decide +kernel
theorem dX2_addInterest_26 : decode cX2_addInterest 26 = .ok (.lload_n 1, 1) := by decide +kernel
theorem dX2_addInterest_27 : decode cX2_addInterest 27 = .ok (.ldc2_w 51, 3) := by decide +kernel
theorem dX2_addInterest_30 : decode cX2_addInterest 30 = .ok (.lrem, 1) := by decide +kernel
theorem dX2_addInterest_31 : decode cX2_addInterest 31 = .ok (.l2i, 1) := by decide +kernel
theorem dX2_addInterest_32 : decode cX2_addInterest 32 = .ok (.putfield 27, 3) := by decide +kernel
theorem dX2_addInterest_35 : decode cX2_addInterest 35 = .ok (.aload_n 0, 1) := by decide +kernel
theorem dX2_addInterest_36 : decode cX2_addInterest 36 = .ok (.dup, 1) := by decide +kernel
theorem dX2_addInterest_37 : decode cX2_addInterest 37 = .ok (.getfield 15, 3) := by decide +kernel
theorem dX2_addInterest_40 : decode cX2_addInterest 40 = .ok (.iload_n 3, 1) := by decide +kernel
theorem dX2_addInterest_41 : decode cX2_addInterest 41 = .ok (.iadd, 1) := by decide +kernel
theorem dX2_addInterest_42 : decode cX2_addInterest 42 = .ok (.putfield 15, 3) := by decide +kernel
theorem dX2_addInterest_45 : decode cX2_addInterest 45 = .ok (.aload_n 0, 1) := by decide +kernel
theorem dX2_addInterest_46 : decode cX2_addInterest 46 = .ok (.dup, 1) := by decide +kernel
theorem dX2_addInterest_47 : decode cX2_addInterest 47 = .ok (.getfield 30, 3) := by decide +kernel
theorem dX2_addInterest_50 : decode cX2_addInterest 50 = .ok (.iload_n 3, 1) := by decide +kernel
theorem dX2_addInterest_51 : decode cX2_addInterest 51 = .ok (.iadd, 1) := by decide +kernel
theorem dX2_addInterest_52 : decode cX2_addInterest 52 = .ok (.putfield 30, 3) := by decide +kernel
theorem dX2_addInterest_55 : decode cX2_addInterest 55 = .ok (.iload_n 3, 1) := by decide +kernel
theorem dX2_addInterest_56 : decode cX2_addInterest 56 = .ok (.ireturn, 1) := by decide +kernel
theorem dX2_takeOff_0 : decode cX2_takeOff 0 = .ok (.aload_n 0, 1) := by decide +kernel
theorem dX2_takeOff_1 : decode cX2_takeOff 1 = .ok (.dup, 1) := by decide +kernel
theorem dX2_takeOff_2 : decode cX2_takeOff 2 = .ok (.getfield 15, 3) := by decide +kernel
theorem dX2_takeOff_5 : decode cX2_takeOff 5 = .ok (.iload_n 1, 1) := by decide +kernel
theorem dX2_takeOff_6 : decode cX2_takeOff 6 = .ok (.isub, 1) := by decide +kernel
theorem dX2_takeOff_7 : decode cX2_takeOff 7 = .ok (.putfield 15, 3) := by decide +kernel
theorem dX2_takeOff_10 : decode cX2_takeOff 10 = .ok (.aload_n 0, 1) := by decide +kernel
theorem dX2_takeOff_11 : decode cX2_takeOff 11 = .ok (.dup, 1) := by decide +kernel
theorem dX2_takeOff_12 : decode cX2_takeOff 12 = .ok (.getfield 33, 3) := by decide +kernel
theorem dX2_takeOff_15 : decode cX2_takeOff 15 = .ok (.iload_n 1, 1) := by decide +kernel
theorem dX2_takeOff_16 : decode cX2_takeOff 16 = .ok (.iadd, 1) := by decide +kernel
theorem dX2_takeOff_17 : decode cX2_takeOff 17 = .ok (.putfield 33, 3) := by decide +kernel
theorem dX2_takeOff_20 : decode cX2_takeOff 20 = .ok (.aload_n 0, 1) := by decide +kernel
theorem dX2_takeOff_21 : decode cX2_takeOff 21 = .ok (.getfield 15, 3) := by decide +kernel
theorem dX2_takeOff_24 : decode cX2_takeOff 24 = .ok (.ifCond .ne 18, 3) := by decide +kernel
theorem dX2_takeOff_27 : decode cX2_takeOff 27 = .ok (.aload_n 0, 1) := by decide +kernel
theorem dX2_takeOff_28 : decode cX2_takeOff 28 = .ok (.iconst 0, 1) := by decide +kernel
theorem dX2_takeOff_29 : decode cX2_takeOff 29 = .ok (.putfield 21, 3) := by decide +kernel
theorem dX2_takeOff_32 : decode cX2_takeOff 32 = .ok (.aload_n 0, 1) := by decide +kernel
theorem dX2_takeOff_33 : decode cX2_takeOff 33 = .ok (.iconst 0, 1) := by decide +kernel
theorem dX2_takeOff_34 : decode cX2_takeOff 34 = .ok (.putfield 24, 3) := by decide +kernel
theorem dX2_takeOff_37 : decode cX2_takeOff 37 = .ok (.aload_n 0, 1) := by decide +kernel
theorem dX2_takeOff_38 : decode cX2_takeOff 38 = .ok (.iconst 0, 1) := by decide +kernel
theorem dX2_takeOff_39 : decode cX2_takeOff 39 = .ok (.putfield 27, 3) := by decide +kernel
theorem dX2_takeOff_42 : decode cX2_takeOff 42 = .ok (.return_, 1) := by decide +kernel
set_option maxRecDepth 20000 in
theorem ggX2_settleMonth_X2_addInterest : GoodIn wsX2_settleMonth wsX2_addInterest := goodIn_r _ [8, 1, 9, 10, 11, 12, 23, 24, 25, 26, 27, 28, 29, 30, 31, 32] (by decide +kernel) (by decide +kernel)
set_option maxRecDepth 20000 in
theorem gX2_settleMonth_X2_addInterest : GoodIn wsX2_settleMonth (wsV RX2 56 RX2 yX2_addInterest wsX2_addInterest) := goodIn_app (goodIn_of _ (by decide +kernel)) ggX2_settleMonth_X2_addInterest
set_option maxRecDepth 20000 in
theorem ggX2_settleMonth_X2_partDue : GoodIn wsX2_settleMonth wsX2_partDue := goodIn_r _ [16, 17, 2, 23, 24, 25, 26, 27, 28, 29, 30, 31, 32] (by decide +kernel) (by decide +kernel)
set_option maxRecDepth 20000 in
theorem gX2_settleMonth_X2_partDue : GoodIn wsX2_settleMonth (wsV RX2 53 RX2 yX2_partDue wsX2_partDue) := goodIn_app (goodIn_of _ (by decide +kernel)) ggX2_settleMonth_X2_partDue
set_option maxRecDepth 20000 in
theorem ggX2_settleMonth_X2_takeOff : GoodIn wsX2_settleMonth wsX2_takeOff := goodIn_r _ [21, 1, 22, 2, 17, 10, 23, 24, 25, 26, 27, 28, 29, 30, 31, 32] (by decide +kernel) (by decide +kernel)
set_option maxRecDepth 20000 in
theorem gX2_settleMonth_X2_takeOff : GoodIn wsX2_settleMonth (wsV RX2 59 RX2 yX2_takeOff wsX2_takeOff) := goodIn_app (goodIn_of _ (by decide +kernel)) ggX2_settleMonth_X2_takeOff
theorem dX2_settleMonth_0 : decode cX2_settleMonth 0 = .ok (.aload_n 0, 1) := by decide +kernel
theorem dX2_settleMonth_1 : decode cX2_settleMonth 1 = .ok (.invokevirtual 56, 3) := by decide +kernel
theorem dX2_settleMonth_4 : decode cX2_settleMonth 4 = .ok (.pop, 1) := by decide +kernel
theorem dX2_settleMonth_5 : decode cX2_settleMonth 5 = .ok (.aload_n 0, 1) := by decide +kernel
theorem dX2_settleMonth_6 : decode cX2_settleMonth 6 = .ok (.aload_n 0, 1) := by decide +kernel
theorem dX2_settleMonth_7 : decode cX2_settleMonth 7 = .ok (.getfield 15, 3) := by decide +kernel
theorem dX2_settleMonth_10 : decode cX2_settleMonth 10 = .ok (.invokevirtual 53, 3) := by decide +kernel
theorem dX2_settleMonth_13 : decode cX2_settleMonth 13 = .ok (.istore_n 1, 1) := by decide +kernel
theorem dX2_settleMonth_14 : decode cX2_settleMonth 14 = .ok (.aload_n 0, 1) := by decide +kernel
theorem dX2_settleMonth_15 : decode cX2_settleMonth 15 = .ok (.dup, 1) := by decide +kernel
theorem dX2_settleMonth_16 : decode cX2_settleMonth 16 = .ok (.getfield 21, 3) := by decide +kernel
theorem dX2_settleMonth_19 : decode cX2_settleMonth 19 = .ok (.iconst 1, 1) := by decide +kernel
theorem dX2_settleMonth_20 : decode cX2_settleMonth 20 = .ok (.isub, 1) := by decide +kernel
theorem dX2_settleMonth_21 : decode cX2_settleMonth 21 = .ok (.putfield 21, 3) := by decide +kernel
theorem dX2_settleMonth_24 : decode cX2_settleMonth 24 = .ok (.aload_n 0, 1) := by decide +kernel
theorem dX2_settleMonth_25 : decode cX2_settleMonth 25 = .ok (.dup, 1) := by decide +kernel
theorem dX2_settleMonth_26 : decode cX2_settleMonth 26 = .ok (.getfield 36, 3) := by decide +kernel
theorem dX2_settleMonth_29 : decode cX2_settleMonth 29 = .ok (.iconst 1, 1) := by decide +kernel
theorem dX2_settleMonth_30 : decode cX2_settleMonth 30 = .ok (.iadd, 1) := by decide +kernel
theorem dX2_settleMonth_31 : decode cX2_settleMonth 31 = .ok (.putfield 36, 3) := by decide +kernel
theorem dX2_settleMonth_34 : decode cX2_settleMonth 34 = .ok (.aload_n 0, 1) := by decide +kernel
theorem dX2_settleMonth_35 : decode cX2_settleMonth 35 = .ok (.iload_n 1, 1) := by decide +kernel
theorem dX2_settleMonth_36 : decode cX2_settleMonth 36 = .ok (.invokevirtual 59, 3) := by decide +kernel
theorem dX2_settleMonth_39 : decode cX2_settleMonth 39 = .ok (.iload_n 1, 1) := by decide +kernel
theorem dX2_settleMonth_40 : decode cX2_settleMonth 40 = .ok (.ireturn, 1) := by decide +kernel
set_option maxRecDepth 20000 in
theorem ggX2_settleMonths_X2_settleMonth : GoodIn wsX2_settleMonths wsX2_settleMonth := goodIn_r _ [6, 1, 7, 8, 9, 10, 11, 5, 12, 13, 14, 15, 16, 17, 18, 19, 20, 21, 22, 23, 24, 25, 26, 27, 28, 29, 30, 31, 32, 33, 34, 35, 36] (by decide +kernel) (by decide +kernel)
set_option maxRecDepth 20000 in
theorem gX2_settleMonths_X2_settleMonth : GoodIn wsX2_settleMonths (wsV RX2 63 RX2 yX2_settleMonth wsX2_settleMonth) := goodIn_app (goodIn_of _ (by decide +kernel)) ggX2_settleMonths_X2_settleMonth
theorem dX2_settleMonths_0 : decode cX2_settleMonths 0 = .ok (.iconst 0, 1) := by decide +kernel
theorem dX2_settleMonths_1 : decode cX2_settleMonths 1 = .ok (.istore_n 2, 1) := by decide +kernel
theorem dX2_settleMonths_2 : decode cX2_settleMonths 2 = .ok (.iconst 0, 1) := by decide +kernel
theorem dX2_settleMonths_3 : decode cX2_settleMonths 3 = .ok (.istore_n 3, 1) := by decide +kernel
theorem dX2_settleMonths_4 : decode cX2_settleMonths 4 = .ok (.iload_n 3, 1) := by decide +kernel
theorem dX2_settleMonths_5 : decode cX2_settleMonths 5 = .ok (.iload_n 1, 1) := by decide +kernel
theorem dX2_settleMonths_6 : decode cX2_settleMonths 6 = .ok (.if_icmp .ge 21, 3) := by decide +kernel
theorem dX2_settleMonths_9 : decode cX2_settleMonths 9 = .ok (.aload_n 0, 1) := by decide +kernel
theorem dX2_settleMonths_10 : decode cX2_settleMonths 10 = .ok (.getfield 15, 3) := by decide +kernel
theorem dX2_settleMonths_13 : decode cX2_settleMonths 13 = .ok (.ifCond .le 14, 3) := by decide +kernel
theorem dX2_settleMonths_16 : decode cX2_settleMonths 16 = .ok (.aload_n 0, 1) := by decide +kernel
theorem dX2_settleMonths_17 : decode cX2_settleMonths 17 = .ok (.invokevirtual 63, 3) := by decide +kernel
theorem dX2_settleMonths_20 : decode cX2_settleMonths 20 = .ok (.istore_n 2, 1) := by decide +kernel
theorem dX2_settleMonths_21 : decode cX2_settleMonths 21 = .ok (.iinc 3 1, 3) := by decide +kernel
theorem dX2_settleMonths_24 : decode cX2_settleMonths 24 = .ok (.goto (-20), 3) := by decide +kernel
theorem dX2_settleMonths_27 : decode cX2_settleMonths 27 = .ok (.iload_n 2, 1) := by decide +kernel
theorem dX2_settleMonths_28 : decode cX2_settleMonths 28 = .ok (.ireturn, 1) := by decide +kernel
set_option maxRecDepth 20000 in
theorem ggX2_reduceBy_X2_takeOff : GoodIn wsX2_reduceBy wsX2_takeOff := goodIn_r _ [8, 1, 9, 2, 3, 10, 25, 26, 27, 28, 29, 30, 31, 32, 33, 34] (by decide +kernel) (by decide +kernel)
set_option maxRecDepth 20000 in
theorem gX2_reduceBy_X2_takeOff : GoodIn wsX2_reduceBy (wsV RX2 59 RX2 yX2_takeOff wsX2_takeOff) := goodIn_app (goodIn_of _ (by decide +kernel)) ggX2_reduceBy_X2_takeOff
set_option maxRecDepth 20000 in
theorem ggX2_reduceBy_X2_levelFor : GoodIn wsX2_reduceBy wsX2_levelFor := goodIn_r _ [14, 1, 15, 16, 17, 7, 18, 19, 10, 20, 21, 22, 23, 24, 25, 26, 27, 28, 29, 30, 31, 32, 33, 34] (by decide +kernel) (by decide +kernel)
set_option maxRecDepth 20000 in
theorem gX2_reduceBy_X2_levelFor : GoodIn wsX2_reduceBy (wsV RX2 42 RX2 yX2_levelFor wsX2_levelFor) := goodIn_app (goodIn_of _ (by decide +kernel)) ggX2_reduceBy_X2_levelFor
set_option maxRecDepth 20000 in
theorem ggX2_reduceBy_X2_termFor : GoodIn wsX2_reduceBy wsX2_termFor := goodIn_r _ [24, 1, 10, 19, 20, 25, 26, 27, 28, 29, 30, 31, 32, 33, 34] (by decide +kernel) (by decide +kernel)
set_option maxRecDepth 20000 in
theorem gX2_reduceBy_X2_termFor : GoodIn wsX2_reduceBy (wsV RX2 66 RX2 yX2_termFor wsX2_termFor) := goodIn_app (goodIn_of _ (by decide +kernel)) ggX2_reduceBy_X2_termFor
theorem dX2_reduceBy_0 : decode cX2_reduceBy 0 = .ok (.aload_n 0, 1) := by decide +kernel
theorem dX2_reduceBy_1 : decode cX2_reduceBy 1 = .ok (.iload_n 1, 1) := by decide +kernel
theorem dX2_reduceBy_2 : decode cX2_reduceBy 2 = .ok (.invokevirtual 59, 3) := by decide +kernel
theorem dX2_reduceBy_5 : decode cX2_reduceBy 5 = .ok (.aload_n 0, 1) := by decide +kernel
theorem dX2_reduceBy_6 : decode cX2_reduceBy 6 = .ok (.getfield 15, 3) := by decide +kernel
theorem dX2_reduceBy_9 : decode cX2_reduceBy 9 = .ok (.ifCond .ne 4, 3) := by decide +kernel
theorem dX2_reduceBy_12 : decode cX2_reduceBy 12 = .ok (.return_, 1) := by decide +kernel
theorem dX2_reduceBy_13 : decode cX2_reduceBy 13 = .ok (.iload_n 2, 1) := by decide +kernel
theorem dX2_reduceBy_14 : decode cX2_reduceBy 14 = .ok (.ifCond .eq 18, 3) := by decide +kernel
theorem dX2_reduceBy_17 : decode cX2_reduceBy 17 = .ok (.aload_n 0, 1) := by decide +kernel
theorem dX2_reduceBy_18 : decode cX2_reduceBy 18 = .ok (.aload_n 0, 1) := by decide +kernel
theorem dX2_reduceBy_19 : decode cX2_reduceBy 19 = .ok (.aload_n 0, 1) := by decide +kernel
theorem dX2_reduceBy_20 : decode cX2_reduceBy 20 = .ok (.getfield 21, 3) := by decide +kernel
theorem dX2_reduceBy_23 : decode cX2_reduceBy 23 = .ok (.invokevirtual 42, 3) := by decide +kernel
theorem dX2_reduceBy_26 : decode cX2_reduceBy 26 = .ok (.putfield 24, 3) := by decide +kernel
theorem dX2_reduceBy_29 : decode cX2_reduceBy 29 = .ok (.goto 19, 3) := by decide +kernel
theorem dX2_reduceBy_32 : decode cX2_reduceBy 32 = .ok (.aload_n 0, 1) := by decide +kernel
theorem dX2_reduceBy_33 : decode cX2_reduceBy 33 = .ok (.aload_n 0, 1) := by decide +kernel
theorem dX2_reduceBy_34 : decode cX2_reduceBy 34 = .ok (.aload_n 0, 1) := by decide +kernel
theorem dX2_reduceBy_35 : decode cX2_reduceBy 35 = .ok (.getfield 24, 3) := by decide +kernel
theorem dX2_reduceBy_38 : decode cX2_reduceBy 38 = .ok (.aload_n 0, 1) := by decide +kernel
theorem dX2_reduceBy_39 : decode cX2_reduceBy 39 = .ok (.getfield 21, 3) := by decide +kernel
theorem dX2_reduceBy_42 : decode cX2_reduceBy 42 = .ok (.invokevirtual 66, 3) := by decide +kernel
theorem dX2_reduceBy_45 : decode cX2_reduceBy 45 = .ok (.putfield 21, 3) := by decide +kernel
theorem dX2_reduceBy_48 : decode cX2_reduceBy 48 = .ok (.return_, 1) := by decide +kernel
set_option maxRecDepth 20000 in
theorem ggX2_defer_X2_addInterest : GoodIn wsX2_defer wsX2_addInterest := goodIn_r _ [8, 9, 10, 11, 12, 13, 26, 27, 28, 29, 30, 31, 32, 33, 34, 35] (by decide +kernel) (by decide +kernel)
set_option maxRecDepth 20000 in
theorem gX2_defer_X2_addInterest : GoodIn wsX2_defer (wsV RX2 56 RX2 yX2_addInterest wsX2_addInterest) := goodIn_app (goodIn_of _ (by decide +kernel)) ggX2_defer_X2_addInterest
set_option maxRecDepth 20000 in
theorem ggX2_defer_X2_levelFor : GoodIn wsX2_defer wsX2_levelFor := goodIn_r _ [17, 9, 18, 19, 20, 7, 21, 10, 11, 12, 22, 23, 24, 25, 26, 27, 28, 29, 30, 31, 32, 33, 34, 35] (by decide +kernel) (by decide +kernel)
set_option maxRecDepth 20000 in
theorem gX2_defer_X2_levelFor : GoodIn wsX2_defer (wsV RX2 42 RX2 yX2_levelFor wsX2_levelFor) := goodIn_app (goodIn_of _ (by decide +kernel)) ggX2_defer_X2_levelFor
theorem dX2_defer_0 : decode cX2_defer 0 = .ok (.aload_n 0, 1) := by decide +kernel
theorem dX2_defer_1 : decode cX2_defer 1 = .ok (.invokevirtual 56, 3) := by decide +kernel
theorem dX2_defer_4 : decode cX2_defer 4 = .ok (.istore_n 1, 1) := by decide +kernel
theorem dX2_defer_5 : decode cX2_defer 5 = .ok (.aload_n 0, 1) := by decide +kernel
theorem dX2_defer_6 : decode cX2_defer 6 = .ok (.dup, 1) := by decide +kernel
theorem dX2_defer_7 : decode cX2_defer 7 = .ok (.getfield 39, 3) := by decide +kernel
theorem dX2_defer_10 : decode cX2_defer 10 = .ok (.iconst 1, 1) := by decide +kernel
theorem dX2_defer_11 : decode cX2_defer 11 = .ok (.iadd, 1) := by decide +kernel
theorem dX2_defer_12 : decode cX2_defer 12 = .ok (.putfield 39, 3) := by decide +kernel
theorem dX2_defer_15 : decode cX2_defer 15 = .ok (.aload_n 0, 1) := by decide +kernel
theorem dX2_defer_16 : decode cX2_defer 16 = .ok (.aload_n 0, 1) := by decide +kernel
theorem dX2_defer_17 : decode cX2_defer 17 = .ok (.aload_n 0, 1) := by decide +kernel
theorem dX2_defer_18 : decode cX2_defer 18 = .ok (.getfield 21, 3) := by decide +kernel
theorem dX2_defer_21 : decode cX2_defer 21 = .ok (.invokevirtual 42, 3) := by decide +kernel
theorem dX2_defer_24 : decode cX2_defer 24 = .ok (.putfield 24, 3) := by decide +kernel
theorem dX2_defer_27 : decode cX2_defer 27 = .ok (.iload_n 1, 1) := by decide +kernel
theorem dX2_defer_28 : decode cX2_defer 28 = .ok (.ireturn, 1) := by decide +kernel
set_option maxRecDepth 20000 in
theorem ggX2_setTerms_X2_levelFor : GoodIn wsX2_setTerms wsX2_levelFor := goodIn_r _ [8, 9, 10, 11, 12, 7, 13, 1, 14, 15, 16, 17, 18, 19, 20, 21, 22, 23, 24, 25, 26, 27, 28, 29] (by decide +kernel) (by decide +kernel)
set_option maxRecDepth 20000 in
theorem gX2_setTerms_X2_levelFor : GoodIn wsX2_setTerms (wsV RX2 42 RX2 yX2_levelFor wsX2_levelFor) := goodIn_app (goodIn_of _ (by decide +kernel)) ggX2_setTerms_X2_levelFor
theorem dX2_setTerms_0 : decode cX2_setTerms 0 = .ok (.aload_n 0, 1) := by decide +kernel
theorem dX2_setTerms_1 : decode cX2_setTerms 1 = .ok (.iload_n 1, 1) := by decide +kernel
theorem dX2_setTerms_2 : decode cX2_setTerms 2 = .ok (.putfield 18, 3) := by decide +kernel
theorem dX2_setTerms_5 : decode cX2_setTerms 5 = .ok (.aload_n 0, 1) := by decide +kernel
theorem dX2_setTerms_6 : decode cX2_setTerms 6 = .ok (.iload_n 2, 1) := by decide +kernel
theorem dX2_setTerms_7 : decode cX2_setTerms 7 = .ok (.putfield 21, 3) := by decide +kernel
theorem dX2_setTerms_10 : decode cX2_setTerms 10 = .ok (.aload_n 0, 1) := by decide +kernel
theorem dX2_setTerms_11 : decode cX2_setTerms 11 = .ok (.aload_n 0, 1) := by decide +kernel
theorem dX2_setTerms_12 : decode cX2_setTerms 12 = .ok (.iload_n 2, 1) := by decide +kernel
theorem dX2_setTerms_13 : decode cX2_setTerms 13 = .ok (.invokevirtual 42, 3) := by decide +kernel
theorem dX2_setTerms_16 : decode cX2_setTerms 16 = .ok (.putfield 24, 3) := by decide +kernel
theorem dX2_setTerms_19 : decode cX2_setTerms 19 = .ok (.aload_n 0, 1) := by decide +kernel
theorem dX2_setTerms_20 : decode cX2_setTerms 20 = .ok (.getfield 24, 3) := by decide +kernel
theorem dX2_setTerms_23 : decode cX2_setTerms 23 = .ok (.ireturn, 1) := by decide +kernel
set_option maxRecDepth 20000 in
theorem ggX2_levelFor_X2_nextInterest : GoodIn wsX2_levelFor wsX2_nextInterest := goodIn_r _ [6, 1, 7, 8, 9, 14, 15, 16, 17, 18, 19, 20, 21, 22, 23] (by decide +kernel) (by decide +kernel)
set_option maxRecDepth 20000 in
theorem gX2_levelFor_X2_nextInterest : GoodIn wsX2_levelFor (wsV RX2 46 RX2 yX2_nextInterest wsX2_nextInterest) := goodIn_app (goodIn_of _ (by decide +kernel)) ggX2_levelFor_X2_nextInterest
set_option maxRecDepth 20000 in
theorem ggX2_levelFor_X2_termFor : GoodIn wsX2_levelFor wsX2_termFor := goodIn_r _ [13, 1, 8, 7, 9, 14, 15, 16, 17, 18, 19, 20, 21, 22, 23] (by decide +kernel) (by decide +kernel)
set_option maxRecDepth 20000 in
theorem gX2_levelFor_X2_termFor : GoodIn wsX2_levelFor (wsV RX2 66 RX2 yX2_termFor wsX2_termFor) := goodIn_app (goodIn_of _ (by decide +kernel)) ggX2_levelFor_X2_termFor
theorem dX2_levelFor_0 : decode cX2_levelFor 0 = .ok (.iconst 1, 1) := by decide +kernel
theorem dX2_levelFor_1 : decode cX2_levelFor 1 = .ok (.istore_n 2, 1) := by decide +kernel
theorem dX2_levelFor_2 : decode cX2_levelFor 2 = .ok (.aload_n 0, 1) := by decide +kernel
theorem dX2_levelFor_3 : decode cX2_levelFor 3 = .ok (.getfield 15, 3) := by decide +kernel
theorem dX2_levelFor_6 : decode cX2_levelFor 6 = .ok (.aload_n 0, 1) := by decide +kernel
theorem dX2_levelFor_7 : decode cX2_levelFor 7 = .ok (.invokevirtual 46, 3) := by decide +kernel
theorem dX2_levelFor_10 : decode cX2_levelFor 10 = .ok (.iadd, 1) := by decide +kernel
theorem dX2_levelFor_11 : decode cX2_levelFor 11 = .ok (.istore_n 3, 1) := by decide +kernel
theorem dX2_levelFor_12 : decode cX2_levelFor 12 = .ok (.iconst 0, 1) := by decide +kernel
theorem dX2_levelFor_13 : decode cX2_levelFor 13 = .ok (.istore 4, 2) := by decide +kernel
theorem dX2_levelFor_15 : decode cX2_levelFor 15 = .ok (.iload 4, 2) := by decide +kernel
theorem dX2_levelFor_17 : decode cX2_levelFor 17 = .ok (.bipush 32, 2) := by decide +kernel
theorem dX2_levelFor_19 : decode cX2_levelFor 19 = .ok (.if_icmp .ge 43, 3) := by decide +kernel
theorem dX2_levelFor_22 : decode cX2_levelFor 22 = .ok (.iload_n 2, 1) := by decide +kernel
theorem dX2_levelFor_23 : decode cX2_levelFor 23 = .ok (.iload_n 3, 1) := by decide +kernel
theorem dX2_levelFor_24 : decode cX2_levelFor 24 = .ok (.if_icmp .ge 38, 3) := by decide +kernel
theorem dX2_levelFor_27 : decode cX2_levelFor 27 = .ok (.iload_n 2, 1) := by decide +kernel
theorem dX2_levelFor_28 : decode cX2_levelFor 28 = .ok (.iload_n 3, 1) := by decide +kernel
theorem dX2_levelFor_29 : decode cX2_levelFor 29 = .ok (.iadd, 1) := by decide +kernel
theorem dX2_levelFor_30 : decode cX2_levelFor 30 = .ok (.iconst 2, 1) := by decide +kernel
theorem dX2_levelFor_31 : decode cX2_levelFor 31 = .ok (.idiv, 1) := by decide +kernel
theorem dX2_levelFor_32 : decode cX2_levelFor 32 = .ok (.istore 5, 2) := by decide +kernel
theorem dX2_levelFor_34 : decode cX2_levelFor 34 = .ok (.aload_n 0, 1) := by decide +kernel
theorem dX2_levelFor_35 : decode cX2_levelFor 35 = .ok (.iload 5, 2) := by decide +kernel
theorem dX2_levelFor_37 : decode cX2_levelFor 37 = .ok (.iload_n 1, 1) := by decide +kernel
theorem dX2_levelFor_38 : decode cX2_levelFor 38 = .ok (.invokevirtual 66, 3) := by decide +kernel
theorem dX2_levelFor_41 : decode cX2_levelFor 41 = .ok (.iconst (-1), 1) := by decide +kernel
theorem dX2_levelFor_42 : decode cX2_levelFor 42 = .ok (.if_icmp .ne 11, 3) := by decide +kernel
theorem dX2_levelFor_45 : decode cX2_levelFor 45 = .ok (.iload 5, 2) := by decide +kernel
theorem dX2_levelFor_47 : decode cX2_levelFor 47 = .ok (.iconst 1, 1) := by decide +kernel
theorem dX2_levelFor_48 : decode cX2_levelFor 48 = .ok (.iadd, 1) := by decide +kernel
theorem dX2_levelFor_49 : decode cX2_levelFor 49 = .ok (.istore_n 2, 1) := by decide +kernel
theorem dX2_levelFor_50 : decode cX2_levelFor 50 = .ok (.goto 6, 3) := by decide +kernel
theorem dX2_levelFor_53 : decode cX2_levelFor 53 = .ok (.iload 5, 2) := by decide +kernel
theorem dX2_levelFor_55 : decode cX2_levelFor 55 = .ok (.istore_n 3, 1) := by decide +kernel
theorem dX2_levelFor_56 : decode cX2_levelFor 56 = .ok (.iinc 4 1, 3) := by decide +kernel
theorem dX2_levelFor_59 : decode cX2_levelFor 59 = .ok (.goto (-44), 3) := by decide +kernel
theorem dX2_levelFor_62 : decode cX2_levelFor 62 = .ok (.iload_n 2, 1) := by decide +kernel
theorem dX2_levelFor_63 : decode cX2_levelFor 63 = .ok (.ireturn, 1) := by decide +kernel
theorem dX2_termFor_0 : decode cX2_termFor 0 = .ok (.aload_n 0, 1) := by decide +kernel
theorem dX2_termFor_1 : decode cX2_termFor 1 = .ok (.getfield 15, 3) := by decide +kernel
theorem dX2_termFor_4 : decode cX2_termFor 4 = .ok (.i2l, 1) := by decide +kernel
theorem dX2_termFor_5 : decode cX2_termFor 5 = .ok (.lstore_n 3, 1) := by decide +kernel
theorem dX2_termFor_6 : decode cX2_termFor 6 = .ok (.aload_n 0, 1) := by decide +kernel
theorem dX2_termFor_7 : decode cX2_termFor 7 = .ok (.getfield 27, 3) := by decide +kernel
theorem dX2_termFor_10 : decode cX2_termFor 10 = .ok (.i2l, 1) := by decide +kernel
theorem dX2_termFor_11 : decode cX2_termFor 11 = .ok (.lstore 5, 2) := by decide +kernel
theorem dX2_termFor_13 : decode cX2_termFor 13 = .ok (.iconst 1, 1) := by decide +kernel
theorem dX2_termFor_14 : decode cX2_termFor 14 = .ok (.istore 7, 2) := by decide +kernel
theorem dX2_termFor_16 : decode cX2_termFor 16 = .ok (.iload 7, 2) := by decide +kernel
theorem dX2_termFor_18 : decode cX2_termFor 18 = .ok (.iload_n 2, 1) := by decide +kernel
theorem dX2_termFor_19 : decode cX2_termFor 19 = .ok (.if_icmp .gt 56, 3) := by decide +kernel
theorem dX2_termFor_22 : decode cX2_termFor 22 = .ok (.lload_n 3, 1) := by decide +kernel
theorem dX2_termFor_23 : decode cX2_termFor 23 = .ok (.aload_n 0, 1) := by decide +kernel
theorem dX2_termFor_24 : decode cX2_termFor 24 = .ok (.getfield 18, 3) := by decide +kernel
theorem dX2_termFor_27 : decode cX2_termFor 27 = .ok (.i2l, 1) := by decide +kernel
theorem dX2_termFor_28 : decode cX2_termFor 28 = .ok (.lmul, 1) := by decide +kernel
theorem dX2_termFor_29 : decode cX2_termFor 29 = .ok (.lload 5, 2) := by decide +kernel
theorem dX2_termFor_31 : decode cX2_termFor 31 = .ok (.ladd, 1) := by decide +kernel
theorem dX2_termFor_32 : decode cX2_termFor 32 = .ok (.lstore 8, 2) := by decide +kernel
theorem dX2_termFor_34 : decode cX2_termFor 34 = .ok (.lload_n 3, 1) := by decide +kernel
theorem dX2_termFor_35 : decode cX2_termFor 35 = .ok (.lload 8, 2) := by decide +kernel
theorem dX2_termFor_37 : decode cX2_termFor 37 = .ok (.ldc2_w 51, 3) := by decide +kernel
theorem dX2_termFor_40 : decode cX2_termFor 40 = .ok (.ldiv, 1) := by decide +kernel
theorem dX2_termFor_41 : decode cX2_termFor 41 = .ok (.ladd, 1) := by decide +kernel
theorem dX2_termFor_42 : decode cX2_termFor 42 = .ok (.lstore 10, 2) := by decide +kernel
theorem dX2_termFor_44 : decode cX2_termFor 44 = .ok (.lload 10, 2) := by decide +kernel
theorem dX2_termFor_46 : decode cX2_termFor 46 = .ok (.iload_n 1, 1) := by decide +kernel
theorem dX2_termFor_47 : decode cX2_termFor 47 = .ok (.i2l, 1) := by decide +kernel
theorem dX2_termFor_48 : decode cX2_termFor 48 = .ok (.lcmp, 1) := by decide +kernel
theorem dX2_termFor_49 : decode cX2_termFor 49 = .ok (.ifCond .gt 6, 3) := by decide +kernel
theorem dX2_termFor_52 : decode cX2_termFor 52 = .ok (.iload 7, 2) := by decide +kernel
theorem dX2_termFor_54 : decode cX2_termFor 54 = .ok (.ireturn, 1) := by decide +kernel
theorem dX2_termFor_55 : decode cX2_termFor 55 = .ok (.lload 10, 2) := by decide +kernel
theorem dX2_termFor_57 : decode cX2_termFor 57 = .ok (.iload_n 1, 1) := by decide +kernel
theorem dX2_termFor_58 : decode cX2_termFor 58 = .ok (.i2l, 1) := by decide +kernel
theorem dX2_termFor_59 : decode cX2_termFor 59 = .ok (.lsub, 1) := by decide +kernel
theorem dX2_termFor_60 : decode cX2_termFor 60 = .ok (.lstore_n 3, 1) := by decide +kernel
theorem dX2_termFor_61 : decode cX2_termFor 61 = .ok (.lload 8, 2) := by decide +kernel
theorem dX2_termFor_63 : decode cX2_termFor 63 = .ok (.ldc2_w 51, 3) := by decide +kernel
theorem dX2_termFor_66 : decode cX2_termFor 66 = .ok (.lrem, 1) := by decide +kernel
theorem dX2_termFor_67 : decode cX2_termFor 67 = .ok (.lstore 5, 2) := by decide +kernel
theorem dX2_termFor_69 : decode cX2_termFor 69 = .ok (.iinc 7 1, 3) := by decide +kernel
theorem dX2_termFor_72 : decode cX2_termFor 72 = .ok (.goto (-56), 3) := by decide +kernel
theorem dX2_termFor_75 : decode cX2_termFor 75 = .ok (.iconst (-1), 1) := by decide +kernel
theorem dX2_termFor_76 : decode cX2_termFor 76 = .ok (.ireturn, 1) := by decide +kernel
set_option maxRecDepth 20000 in
theorem ggX3_init_X0_init : GoodIn wsX3_init wsX0_init := goodIn_r _ [14, 15, 2, 3, 16, 17, 18, 19, 20, 21, 28, 29, 30, 31, 32] (by decide +kernel) (by decide +kernel)
set_option maxRecDepth 20000 in
theorem gX3_init_X0_init_n19 : GoodIn wsX3_init (wsX0_init) := ggX3_init_X0_init
set_option maxRecDepth 20000 in
theorem ggX3_init_X2_init : GoodIn wsX3_init wsX2_init := goodIn_r _ [23, 24, 2, 3] (by decide +kernel) (by decide +kernel)
set_option maxRecDepth 20000 in
theorem gX3_init_X2_init_n28 : GoodIn wsX3_init (wsX2_init) := ggX3_init_X2_init
theorem dX3_init_0 : decode cX3_init 0 = .ok (.aload_n 0, 1) := by decide +kernel
theorem dX3_init_1 : decode cX3_init 1 = .ok (.invokespecial 3, 3) := by decide +kernel
theorem dX3_init_4 : decode cX3_init 4 = .ok (.aload_n 0, 1) := by decide +kernel
theorem dX3_init_5 : decode cX3_init 5 = .ok (.bipush 6, 2) := by decide +kernel
theorem dX3_init_7 : decode cX3_init 7 = .ok (.anewarray 9, 3) := by decide +kernel
theorem dX3_init_10 : decode cX3_init 10 = .ok (.putfield 11, 3) := by decide +kernel
theorem dX3_init_13 : decode cX3_init 13 = .ok (.aload_n 0, 1) := by decide +kernel
theorem dX3_init_14 : decode cX3_init 14 = .ok (.new 17, 3) := by decide +kernel
theorem dX3_init_17 : decode cX3_init 17 = .ok (.dup, 1) := by decide +kernel
theorem dX3_init_18 : decode cX3_init 18 = .ok (.invokespecial 19, 3) := by decide +kernel
theorem dX3_init_21 : decode cX3_init 21 = .ok (.putfield 20, 3) := by decide +kernel
theorem dX3_init_24 : decode cX3_init 24 = .ok (.aload_n 0, 1) := by decide +kernel
theorem dX3_init_25 : decode cX3_init 25 = .ok (.iconst 0, 1) := by decide +kernel
theorem dX3_init_26 : decode cX3_init 26 = .ok (.putfield 24, 3) := by decide +kernel
theorem dX3_init_29 : decode cX3_init 29 = .ok (.iconst 0, 1) := by decide +kernel
theorem dX3_init_30 : decode cX3_init 30 = .ok (.istore_n 1, 1) := by decide +kernel
theorem dX3_init_31 : decode cX3_init 31 = .ok (.iload_n 1, 1) := by decide +kernel
theorem dX3_init_32 : decode cX3_init 32 = .ok (.bipush 6, 2) := by decide +kernel
theorem dX3_init_34 : decode cX3_init 34 = .ok (.if_icmp .ge 22, 3) := by decide +kernel
theorem dX3_init_37 : decode cX3_init 37 = .ok (.aload_n 0, 1) := by decide +kernel
theorem dX3_init_38 : decode cX3_init 38 = .ok (.getfield 11, 3) := by decide +kernel
theorem dX3_init_41 : decode cX3_init 41 = .ok (.iload_n 1, 1) := by decide +kernel
theorem dX3_init_42 : decode cX3_init 42 = .ok (.new 9, 3) := by decide +kernel
theorem dX3_init_45 : decode cX3_init 45 = .ok (.dup, 1) := by decide +kernel
theorem dX3_init_46 : decode cX3_init 46 = .ok (.invokespecial 28, 3) := by decide +kernel
theorem dX3_init_49 : decode cX3_init 49 = .ok (.aastore, 1) := by decide +kernel
theorem dX3_init_50 : decode cX3_init 50 = .ok (.iinc 1 1, 3) := by decide +kernel
theorem dX3_init_53 : decode cX3_init 53 = .ok (.goto (-22), 3) := by decide +kernel
theorem dX3_init_56 : decode cX3_init 56 = .ok (.return_, 1) := by decide +kernel
set_option maxRecDepth 20000 in
theorem ggX3_copyFrom_X2_copyFrom : GoodIn wsX3_copyFrom wsX2_copyFrom := goodIn_r _ [8, 9, 10, 11, 12, 13, 14, 15, 16, 17, 18, 36, 37, 38, 39, 40, 41, 42, 43, 44, 45] (by decide +kernel) (by decide +kernel)
set_option maxRecDepth 20000 in
theorem gX3_copyFrom_X2_copyFrom : GoodIn wsX3_copyFrom (wsV RX3 29 RX2 yX2_copyFrom wsX2_copyFrom) := goodIn_app (goodIn_of _ (by decide +kernel)) ggX3_copyFrom_X2_copyFrom
set_option maxRecDepth 20000 in
theorem ggX3_copyFrom_X0_copyFrom : GoodIn wsX3_copyFrom wsX0_copyFrom := goodIn_r _ [23, 24, 25, 26, 27, 28, 29, 30, 31, 32, 46, 47, 48, 49, 50] (by decide +kernel) (by decide +kernel)
set_option maxRecDepth 20000 in
theorem gX3_copyFrom_X0_copyFrom : GoodIn wsX3_copyFrom (wsV RX3 33 RX0 yX0_copyFrom wsX0_copyFrom) := goodIn_app (goodIn_of _ (by decide +kernel)) ggX3_copyFrom_X0_copyFrom
theorem dX3_copyFrom_0 : decode cX3_copyFrom 0 = .ok (.aload_n 0, 1) := by decide +kernel
theorem dX3_copyFrom_1 : decode cX3_copyFrom 1 = .ok (.aload_n 1, 1) := by decide +kernel
theorem dX3_copyFrom_2 : decode cX3_copyFrom 2 = .ok (.getfield 24, 3) := by decide +kernel
theorem dX3_copyFrom_5 : decode cX3_copyFrom 5 = .ok (.putfield 24, 3) := by decide +kernel
theorem dX3_copyFrom_8 : decode cX3_copyFrom 8 = .ok (.iconst 0, 1) := by decide +kernel
theorem dX3_copyFrom_9 : decode cX3_copyFrom 9 = .ok (.istore_n 2, 1) := by decide +kernel
theorem dX3_copyFrom_10 : decode cX3_copyFrom 10 = .ok (.iload_n 2, 1) := by decide +kernel
theorem dX3_copyFrom_11 : decode cX3_copyFrom 11 = .ok (.aload_n 0, 1) := by decide +kernel
theorem dX3_copyFrom_12 : decode cX3_copyFrom 12 = .ok (.getfield 24, 3) := by decide +kernel
theorem dX3_copyFrom_15 : decode cX3_copyFrom 15 = .ok (.if_icmp .ge 30, 3) := by decide +kernel
theorem dX3_copyFrom_18 : decode cX3_copyFrom 18 = .ok (.iload_n 2, 1) := by decide +kernel
theorem dX3_copyFrom_19 : decode cX3_copyFrom 19 = .ok (.bipush 6, 2) := by decide +kernel
theorem dX3_copyFrom_21 : decode cX3_copyFrom 21 = .ok (.if_icmp .ge 24, 3) := by decide +kernel
theorem dX3_copyFrom_24 : decode cX3_copyFrom 24 = .ok (.aload_n 0, 1) := by decide +kernel
theorem dX3_copyFrom_25 : decode cX3_copyFrom 25 = .ok (.getfield 11, 3) := by decide +kernel
theorem dX3_copyFrom_28 : decode cX3_copyFrom 28 = .ok (.iload_n 2, 1) := by decide +kernel
theorem dX3_copyFrom_29 : decode cX3_copyFrom 29 = .ok (.aaload, 1) := by decide +kernel
theorem dX3_copyFrom_30 : decode cX3_copyFrom 30 = .ok (.aload_n 1, 1) := by decide +kernel
theorem dX3_copyFrom_31 : decode cX3_copyFrom 31 = .ok (.getfield 11, 3) := by decide +kernel
theorem dX3_copyFrom_34 : decode cX3_copyFrom 34 = .ok (.iload_n 2, 1) := by decide +kernel
theorem dX3_copyFrom_35 : decode cX3_copyFrom 35 = .ok (.aaload, 1) := by decide +kernel
theorem dX3_copyFrom_36 : decode cX3_copyFrom 36 = .ok (.invokevirtual 29, 3) := by decide +kernel
theorem dX3_copyFrom_39 : decode cX3_copyFrom 39 = .ok (.iinc 2 1, 3) := by decide +kernel
theorem dX3_copyFrom_42 : decode cX3_copyFrom 42 = .ok (.goto (-32), 3) := by decide +kernel
theorem dX3_copyFrom_45 : decode cX3_copyFrom 45 = .ok (.aload_n 0, 1) := by decide +kernel
theorem dX3_copyFrom_46 : decode cX3_copyFrom 46 = .ok (.getfield 20, 3) := by decide +kernel
theorem dX3_copyFrom_49 : decode cX3_copyFrom 49 = .ok (.aload_n 1, 1) := by decide +kernel
theorem dX3_copyFrom_50 : decode cX3_copyFrom 50 = .ok (.getfield 20, 3) := by decide +kernel
theorem dX3_copyFrom_53 : decode cX3_copyFrom 53 = .ok (.invokevirtual 33, 3) := by decide +kernel
theorem dX3_copyFrom_56 : decode cX3_copyFrom 56 = .ok (.return_, 1) := by decide +kernel
theorem dX3_clear_0 : decode cX3_clear 0 = .ok (.aload_n 0, 1) := by decide +kernel
theorem dX3_clear_1 : decode cX3_clear 1 = .ok (.iconst 0, 1) := by decide +kernel
theorem dX3_clear_2 : decode cX3_clear 2 = .ok (.putfield 24, 3) := by decide +kernel
theorem dX3_clear_5 : decode cX3_clear 5 = .ok (.aload_n 0, 1) := by decide +kernel
theorem dX3_clear_6 : decode cX3_clear 6 = .ok (.getfield 20, 3) := by decide +kernel
theorem dX3_clear_9 : decode cX3_clear 9 = .ok (.iconst 0, 1) := by decide +kernel
theorem dX3_clear_10 : decode cX3_clear 10 = .ok (.putfield 36, 3) := by decide +kernel
theorem dX3_clear_13 : decode cX3_clear 13 = .ok (.aload_n 0, 1) := by decide +kernel
theorem dX3_clear_14 : decode cX3_clear 14 = .ok (.getfield 20, 3) := by decide +kernel
theorem dX3_clear_17 : decode cX3_clear 17 = .ok (.iconst 0, 1) := by decide +kernel
theorem dX3_clear_18 : decode cX3_clear 18 = .ok (.putfield 39, 3) := by decide +kernel
theorem dX3_clear_21 : decode cX3_clear 21 = .ok (.return_, 1) := by decide +kernel
theorem dX3_hasRoom_0 : decode cX3_hasRoom 0 = .ok (.aload_n 0, 1) := by decide +kernel
theorem dX3_hasRoom_1 : decode cX3_hasRoom 1 = .ok (.getfield 24, 3) := by decide +kernel
theorem dX3_hasRoom_4 : decode cX3_hasRoom 4 = .ok (.bipush 6, 2) := by decide +kernel
theorem dX3_hasRoom_6 : decode cX3_hasRoom 6 = .ok (.if_icmp .ge 7, 3) := by decide +kernel
theorem dX3_hasRoom_9 : decode cX3_hasRoom 9 = .ok (.iconst 1, 1) := by decide +kernel
theorem dX3_hasRoom_10 : decode cX3_hasRoom 10 = .ok (.goto 4, 3) := by decide +kernel
theorem dX3_hasRoom_13 : decode cX3_hasRoom 13 = .ok (.iconst 0, 1) := by decide +kernel
theorem dX3_hasRoom_14 : decode cX3_hasRoom 14 = .ok (.ireturn, 1) := by decide +kernel
set_option maxRecDepth 20000 in
theorem ggX3_addLoan_X2_begin : GoodIn wsX3_addLoan wsX2_begin := goodIn_r _ [7, 8, 9, 10, 11, 12, 13, 14, 15, 16, 17, 18, 19, 20, 6, 21, 22, 23, 24, 25, 26, 27, 28, 29, 30, 34, 35, 36, 37, 38, 39, 40, 41, 42, 43] (by decide +kernel) (by decide +kernel)
set_option maxRecDepth 20000 in
theorem gX3_addLoan_X2_begin : GoodIn wsX3_addLoan (wsV RX3 42 RX2 yX2_begin wsX2_begin) := goodIn_app (goodIn_of _ (by decide +kernel)) ggX3_addLoan_X2_begin
theorem dX3_addLoan_0 : decode cX3_addLoan 0 = .ok (.aload_n 0, 1) := by decide +kernel
theorem dX3_addLoan_1 : decode cX3_addLoan 1 = .ok (.getfield 24, 3) := by decide +kernel
theorem dX3_addLoan_4 : decode cX3_addLoan 4 = .ok (.bipush 6, 2) := by decide +kernel
theorem dX3_addLoan_6 : decode cX3_addLoan 6 = .ok (.if_icmp .ge 28, 3) := by decide +kernel
theorem dX3_addLoan_9 : decode cX3_addLoan 9 = .ok (.aload_n 0, 1) := by decide +kernel
theorem dX3_addLoan_10 : decode cX3_addLoan 10 = .ok (.getfield 11, 3) := by decide +kernel
theorem dX3_addLoan_13 : decode cX3_addLoan 13 = .ok (.aload_n 0, 1) := by decide +kernel
theorem dX3_addLoan_14 : decode cX3_addLoan 14 = .ok (.getfield 24, 3) := by decide +kernel
theorem dX3_addLoan_17 : decode cX3_addLoan 17 = .ok (.aaload, 1) := by decide +kernel
theorem dX3_addLoan_18 : decode cX3_addLoan 18 = .ok (.iload_n 1, 1) := by decide +kernel
theorem dX3_addLoan_19 : decode cX3_addLoan 19 = .ok (.iload_n 2, 1) := by decide +kernel
theorem dX3_addLoan_20 : decode cX3_addLoan 20 = .ok (.iload_n 3, 1) := by decide +kernel
theorem dX3_addLoan_21 : decode cX3_addLoan 21 = .ok (.invokevirtual 42, 3) := by decide +kernel
theorem dX3_addLoan_24 : decode cX3_addLoan 24 = .ok (.aload_n 0, 1) := by decide +kernel
theorem dX3_addLoan_25 : decode cX3_addLoan 25 = .ok (.dup, 1) := by decide +kernel
theorem dX3_addLoan_26 : decode cX3_addLoan 26 = .ok (.getfield 24, 3) := by decide +kernel
theorem dX3_addLoan_29 : decode cX3_addLoan 29 = .ok (.iconst 1, 1) := by decide +kernel
theorem dX3_addLoan_30 : decode cX3_addLoan 30 = .ok (.iadd, 1) := by decide +kernel
theorem dX3_addLoan_31 : decode cX3_addLoan 31 = .ok (.putfield 24, 3) := by decide +kernel
theorem dX3_addLoan_34 : decode cX3_addLoan 34 = .ok (.return_, 1) := by decide +kernel
theorem dX3_has_0 : decode cX3_has 0 = .ok (.iload_n 1, 1) := by decide +kernel
theorem dX3_has_1 : decode cX3_has 1 = .ok (.ifCond .lt 21, 3) := by decide +kernel
theorem dX3_has_4 : decode cX3_has 4 = .ok (.iload_n 1, 1) := by decide +kernel
theorem dX3_has_5 : decode cX3_has 5 = .ok (.aload_n 0, 1) := by decide +kernel
theorem dX3_has_6 : decode cX3_has 6 = .ok (.getfield 24, 3) := by decide +kernel
theorem dX3_has_9 : decode cX3_has 9 = .ok (.if_icmp .ge 13, 3) := by decide +kernel
theorem dX3_has_12 : decode cX3_has 12 = .ok (.iload_n 1, 1) := by decide +kernel
theorem dX3_has_13 : decode cX3_has 13 = .ok (.bipush 6, 2) := by decide +kernel
theorem dX3_has_15 : decode cX3_has 15 = .ok (.if_icmp .ge 7, 3) := by decide +kernel
theorem dX3_has_18 : decode cX3_has 18 = .ok (.iconst 1, 1) := by decide +kernel
theorem dX3_has_19 : decode cX3_has 19 = .ok (.goto 4, 3) := by decide +kernel
theorem dX3_has_22 : decode cX3_has 22 = .ok (.iconst 0, 1) := by decide +kernel
theorem dX3_has_23 : decode cX3_has 23 = .ok (.ireturn, 1) := by decide +kernel
set_option maxRecDepth 20000 in
theorem ggX3_settle_X3_has : GoodIn wsX3_settle wsX3_has := goodIn_r _ [7, 8, 53, 54, 55] (by decide +kernel) (by decide +kernel)
set_option maxRecDepth 20000 in
theorem gX3_settle_X3_has : GoodIn wsX3_settle (wsV RX3 46 RX3 yX3_has wsX3_has) := goodIn_app (goodIn_of _ (by decide +kernel)) ggX3_settle_X3_has
set_option maxRecDepth 20000 in
theorem ggX3_settle_X2_nextInterest : GoodIn wsX3_settle wsX2_nextInterest := goodIn_r _ [13, 14, 15, 16, 17, 56, 57, 58, 59, 60, 61, 62, 63, 64, 65] (by decide +kernel) (by decide +kernel)
set_option maxRecDepth 20000 in
theorem gX3_settle_X2_nextInterest : GoodIn wsX3_settle (wsV RX3 50 RX2 yX2_nextInterest wsX2_nextInterest) := goodIn_app (goodIn_of _ (by decide +kernel)) ggX3_settle_X2_nextInterest
set_option maxRecDepth 20000 in
theorem ggX3_settle_X2_settleMonth : GoodIn wsX3_settle wsX2_settleMonth := goodIn_r _ [21, 14, 22, 23, 24, 25, 26, 12, 27, 15, 16, 17, 28, 29, 30, 31, 32, 33, 34, 35, 36, 37, 38, 56, 57, 58, 59, 60, 61, 62, 63, 64, 65] (by decide +kernel) (by decide +kernel)
set_option maxRecDepth 20000 in
theorem gX3_settle_X2_settleMonth : GoodIn wsX3_settle (wsV RX3 54 RX2 yX2_settleMonth wsX2_settleMonth) := goodIn_app (goodIn_of _ (by decide +kernel)) ggX3_settle_X2_settleMonth
set_option maxRecDepth 20000 in
theorem ggX3_settle_X0_write : GoodIn wsX3_settle wsX0_write := goodIn_r _ [43, 44, 45, 46, 47, 48, 49, 50, 51, 52, 66, 67, 68, 69, 70] (by decide +kernel) (by decide +kernel)
set_option maxRecDepth 20000 in
theorem gX3_settle_X0_write : GoodIn wsX3_settle (wsV RX3 57 RX0 yX0_write wsX0_write) := goodIn_app (goodIn_of _ (by decide +kernel)) ggX3_settle_X0_write
theorem dX3_settle_0 : decode cX3_settle 0 = .ok (.aload_n 0, 1) := by decide +kernel
theorem dX3_settle_1 : decode cX3_settle 1 = .ok (.iload_n 1, 1) := by decide +kernel
theorem dX3_settle_2 : decode cX3_settle 2 = .ok (.invokevirtual 46, 3) := by decide +kernel
theorem dX3_settle_5 : decode cX3_settle 5 = .ok (.ifCond .ne 5, 3) := by decide +kernel
theorem dX3_settle_8 : decode cX3_settle 8 = .ok (.iconst 0, 1) := by decide +kernel
theorem dX3_settle_9 : decode cX3_settle 9 = .ok (.ireturn, 1) := by decide +kernel
theorem dX3_settle_10 : decode cX3_settle 10 = .ok (.aload_n 0, 1) := by decide +kernel
theorem dX3_settle_11 : decode cX3_settle 11 = .ok (.getfield 11, 3) := by decide +kernel
theorem dX3_settle_14 : decode cX3_settle 14 = .ok (.iload_n 1, 1) := by decide +kernel
theorem dX3_settle_15 : decode cX3_settle 15 = .ok (.aaload, 1) := by decide +kernel
theorem dX3_settle_16 : decode cX3_settle 16 = .ok (.invokevirtual 50, 3) := by decide +kernel
theorem dX3_settle_19 : decode cX3_settle 19 = .ok (.istore_n 2, 1) := by decide +kernel
theorem dX3_settle_20 : decode cX3_settle 20 = .ok (.aload_n 0, 1) := by decide +kernel
theorem dX3_settle_21 : decode cX3_settle 21 = .ok (.getfield 11, 3) := by decide +kernel
theorem dX3_settle_24 : decode cX3_settle 24 = .ok (.iload_n 1, 1) := by decide +kernel
theorem dX3_settle_25 : decode cX3_settle 25 = .ok (.aaload, 1) := by decide +kernel
theorem dX3_settle_26 : decode cX3_settle 26 = .ok (.invokevirtual 54, 3) := by decide +kernel
theorem dX3_settle_29 : decode cX3_settle 29 = .ok (.istore_n 3, 1) := by decide +kernel
theorem dX3_settle_30 : decode cX3_settle 30 = .ok (.aload_n 0, 1) := by decide +kernel
theorem dX3_settle_31 : decode cX3_settle 31 = .ok (.getfield 20, 3) := by decide +kernel
theorem dX3_settle_34 : decode cX3_settle 34 = .ok (.iload_n 1, 1) := by decide +kernel
theorem dX3_settle_35 : decode cX3_settle 35 = .ok (.iload_n 3, 1) := by decide +kernel
theorem dX3_settle_36 : decode cX3_settle 36 = .ok (.iload_n 2, 1) := by decide +kernel
theorem dX3_settle_37 : decode cX3_settle 37 = .ok (.invokevirtual 57, 3) := by decide +kernel
theorem dX3_settle_40 : decode cX3_settle 40 = .ok (.iload_n 3, 1) := by decide +kernel
theorem dX3_settle_41 : decode cX3_settle 41 = .ok (.ireturn, 1) := by decide +kernel
set_option maxRecDepth 20000 in
theorem ggX3_settleAll_X2_isRunning : GoodIn wsX3_settleAll wsX2_isRunning := goodIn_r _ [7, 8, 64, 65, 66, 67, 68, 69, 70, 71, 72, 73] (by decide +kernel) (by decide +kernel)
set_option maxRecDepth 20000 in
theorem gX3_settleAll_X2_isRunning : GoodIn wsX3_settleAll (wsV RX3 60 RX2 yX2_isRunning wsX2_isRunning) := goodIn_app (goodIn_of _ (by decide +kernel)) ggX3_settleAll_X2_isRunning
set_option maxRecDepth 20000 in
theorem ggX3_settleAll_X3_settle : GoodIn wsX3_settleAll wsX3_settle := goodIn_r _ [13, 2, 14, 15, 16, 17, 12, 18, 1, 19, 20, 21, 6, 22, 8, 23, 24, 25, 26, 27, 28, 29, 30, 31, 32, 33, 34, 35, 36, 37, 38, 39, 40, 41, 42, 43, 44, 45, 46, 47, 48, 49, 50, 51, 52, 53, 54, 55, 56, 57, 58, 59, 60, 61, 62, 63, 64, 65, 66, 67, 68, 69, 70, 71, 72, 73, 74, 75, 76, 77, 78] (by decide +kernel) (by decide +kernel)
set_option maxRecDepth 20000 in
theorem gX3_settleAll_X3_settle : GoodIn wsX3_settleAll (wsV RX3 64 RX3 yX3_settle wsX3_settle) := goodIn_app (goodIn_of _ (by decide +kernel)) ggX3_settleAll_X3_settle
theorem dX3_settleAll_0 : decode cX3_settleAll 0 = .ok (.iconst 0, 1) := by decide +kernel
theorem dX3_settleAll_1 : decode cX3_settleAll 1 = .ok (.istore_n 1, 1) := by decide +kernel
theorem dX3_settleAll_2 : decode cX3_settleAll 2 = .ok (.iconst 0, 1) := by decide +kernel
theorem dX3_settleAll_3 : decode cX3_settleAll 3 = .ok (.istore_n 2, 1) := by decide +kernel
theorem dX3_settleAll_4 : decode cX3_settleAll 4 = .ok (.iload_n 2, 1) := by decide +kernel
theorem dX3_settleAll_5 : decode cX3_settleAll 5 = .ok (.aload_n 0, 1) := by decide +kernel
theorem dX3_settleAll_6 : decode cX3_settleAll 6 = .ok (.getfield 24, 3) := by decide +kernel
theorem dX3_settleAll_9 : decode cX3_settleAll 9 = .ok (.if_icmp .ge 35, 3) := by decide +kernel
theorem dX3_settleAll_12 : decode cX3_settleAll 12 = .ok (.iload_n 2, 1) := by decide +kernel
theorem dX3_settleAll_13 : decode cX3_settleAll 13 = .ok (.bipush 6, 2) := by decide +kernel
theorem dX3_settleAll_15 : decode cX3_settleAll 15 = .ok (.if_icmp .ge 29, 3) := by decide +kernel
theorem dX3_settleAll_18 : decode cX3_settleAll 18 = .ok (.aload_n 0, 1) := by decide +kernel
theorem dX3_settleAll_19 : decode cX3_settleAll 19 = .ok (.getfield 11, 3) := by decide +kernel
theorem dX3_settleAll_22 : decode cX3_settleAll 22 = .ok (.iload_n 2, 1) := by decide +kernel
theorem dX3_settleAll_23 : decode cX3_settleAll 23 = .ok (.aaload, 1) := by decide +kernel
theorem dX3_settleAll_24 : decode cX3_settleAll 24 = .ok (.invokevirtual 60, 3) := by decide +kernel
theorem dX3_settleAll_27 : decode cX3_settleAll 27 = .ok (.ifCond .eq 11, 3) := by decide +kernel
theorem dX3_settleAll_30 : decode cX3_settleAll 30 = .ok (.iload_n 1, 1) := by decide +kernel
theorem dX3_settleAll_31 : decode cX3_settleAll 31 = .ok (.aload_n 0, 1) := by decide +kernel
theorem dX3_settleAll_32 : decode cX3_settleAll 32 = .ok (.iload_n 2, 1) := by decide +kernel
theorem dX3_settleAll_33 : decode cX3_settleAll 33 = .ok (.invokevirtual 64, 3) := by decide +kernel
theorem dX3_settleAll_36 : decode cX3_settleAll 36 = .ok (.iadd, 1) := by decide +kernel
theorem dX3_settleAll_37 : decode cX3_settleAll 37 = .ok (.istore_n 1, 1) := by decide +kernel
theorem dX3_settleAll_38 : decode cX3_settleAll 38 = .ok (.iinc 2 1, 3) := by decide +kernel
theorem dX3_settleAll_41 : decode cX3_settleAll 41 = .ok (.goto (-37), 3) := by decide +kernel
theorem dX3_settleAll_44 : decode cX3_settleAll 44 = .ok (.iload_n 1, 1) := by decide +kernel
theorem dX3_settleAll_45 : decode cX3_settleAll 45 = .ok (.ireturn, 1) := by decide +kernel
set_option maxRecDepth 20000 in
theorem ggX3_reduce_X3_has : GoodIn wsX3_reduce wsX3_has := goodIn_r _ [7, 8, 51, 52, 53] (by decide +kernel) (by decide +kernel)
set_option maxRecDepth 20000 in
theorem gX3_reduce_X3_has : GoodIn wsX3_reduce (wsV RX3 46 RX3 yX3_has wsX3_has) := goodIn_app (goodIn_of _ (by decide +kernel)) ggX3_reduce_X3_has
set_option maxRecDepth 20000 in
theorem ggX3_reduce_X2_reduceBy : GoodIn wsX3_reduce wsX2_reduceBy := goodIn_r _ [13, 14, 15, 16, 17, 18, 19, 12, 20, 21, 22, 23, 24, 25, 26, 27, 28, 29, 30, 31, 32, 33, 34, 35, 36, 54, 55, 56, 57, 58, 59, 60, 61, 62, 63] (by decide +kernel) (by decide +kernel)
set_option maxRecDepth 20000 in
theorem gX3_reduce_X2_reduceBy : GoodIn wsX3_reduce (wsV RX3 68 RX2 yX2_reduceBy wsX2_reduceBy) := goodIn_app (goodIn_of _ (by decide +kernel)) ggX3_reduce_X2_reduceBy
set_option maxRecDepth 20000 in
theorem ggX3_reduce_X0_write : GoodIn wsX3_reduce wsX0_write := goodIn_r _ [41, 42, 43, 44, 45, 46, 47, 48, 49, 50, 64, 65, 66, 67, 68] (by decide +kernel) (by decide +kernel)
set_option maxRecDepth 20000 in
theorem gX3_reduce_X0_write : GoodIn wsX3_reduce (wsV RX3 57 RX0 yX0_write wsX0_write) := goodIn_app (goodIn_of _ (by decide +kernel)) ggX3_reduce_X0_write
theorem dX3_reduce_0 : decode cX3_reduce 0 = .ok (.aload_n 0, 1) := by decide +kernel
theorem dX3_reduce_1 : decode cX3_reduce 1 = .ok (.iload_n 1, 1) := by decide +kernel
theorem dX3_reduce_2 : decode cX3_reduce 2 = .ok (.invokevirtual 46, 3) := by decide +kernel
theorem dX3_reduce_5 : decode cX3_reduce 5 = .ok (.ifCond .eq 24, 3) := by decide +kernel
theorem dX3_reduce_8 : decode cX3_reduce 8 = .ok (.aload_n 0, 1) := by decide +kernel
theorem dX3_reduce_9 : decode cX3_reduce 9 = .ok (.getfield 11, 3) := by decide +kernel
theorem dX3_reduce_12 : decode cX3_reduce 12 = .ok (.iload_n 1, 1) := by decide +kernel
theorem dX3_reduce_13 : decode cX3_reduce 13 = .ok (.aaload, 1) := by decide +kernel
theorem dX3_reduce_14 : decode cX3_reduce 14 = .ok (.iload_n 2, 1) := by decide +kernel
theorem dX3_reduce_15 : decode cX3_reduce 15 = .ok (.iload_n 3, 1) := by decide +kernel
theorem dX3_reduce_16 : decode cX3_reduce 16 = .ok (.invokevirtual 68, 3) := by decide +kernel
theorem dX3_reduce_19 : decode cX3_reduce 19 = .ok (.aload_n 0, 1) := by decide +kernel
theorem dX3_reduce_20 : decode cX3_reduce 20 = .ok (.getfield 20, 3) := by decide +kernel
theorem dX3_reduce_23 : decode cX3_reduce 23 = .ok (.iload_n 1, 1) := by decide +kernel
theorem dX3_reduce_24 : decode cX3_reduce 24 = .ok (.iload_n 2, 1) := by decide +kernel
theorem dX3_reduce_25 : decode cX3_reduce 25 = .ok (.iconst 0, 1) := by decide +kernel
theorem dX3_reduce_26 : decode cX3_reduce 26 = .ok (.invokevirtual 57, 3) := by decide +kernel
theorem dX3_reduce_29 : decode cX3_reduce 29 = .ok (.return_, 1) := by decide +kernel
set_option maxRecDepth 20000 in
theorem ggX3_spend_X3_firstByRate : GoodIn wsX3_spend wsX3_firstByRate := goodIn_r _ [11, 12, 1, 13, 14, 15, 16, 17, 18, 19, 71, 72, 73, 74, 75, 76, 77, 78, 79, 80, 81, 82, 83] (by decide +kernel) (by decide +kernel)
set_option maxRecDepth 20000 in
theorem gX3_spend_X3_firstByRate : GoodIn wsX3_spend (wsV RX3 72 RX3 yX3_firstByRate wsX3_firstByRate) := goodIn_app (goodIn_of _ (by decide +kernel)) ggX3_spend_X3_firstByRate
set_option maxRecDepth 20000 in
theorem ggX3_spend_X3_firstByBalance : GoodIn wsX3_spend wsX3_firstByBalance := goodIn_r _ [23, 24, 12, 1, 2, 14, 15, 16, 17, 18, 19, 71, 72, 73, 74, 75, 76, 77, 78, 79, 80, 81, 82, 83] (by decide +kernel) (by decide +kernel)
set_option maxRecDepth 20000 in
theorem gX3_spend_X3_firstByBalance : GoodIn wsX3_spend (wsV RX3 75 RX3 yX3_firstByBalance wsX3_firstByBalance) := goodIn_app (goodIn_of _ (by decide +kernel)) ggX3_spend_X3_firstByBalance
set_option maxRecDepth 20000 in
theorem ggX3_spend_X3_has : GoodIn wsX3_spend wsX3_has := goodIn_r _ [28, 12, 71, 72, 73] (by decide +kernel) (by decide +kernel)
set_option maxRecDepth 20000 in
theorem gX3_spend_X3_has : GoodIn wsX3_spend (wsV RX3 46 RX3 yX3_has wsX3_has) := goodIn_app (goodIn_of _ (by decide +kernel)) ggX3_spend_X3_has
set_option maxRecDepth 20000 in
theorem ggX3_spend_X3_reduce : GoodIn wsX3_spend wsX3_reduce := goodIn_r _ [32, 1, 33, 25, 26, 27, 10, 28, 12, 34, 35, 36, 17, 37, 19, 38, 39, 40, 41, 42, 43, 44, 45, 46, 47, 48, 49, 50, 51, 52, 53, 54, 55, 56, 57, 58, 59, 60, 61, 62, 63, 64, 65, 66, 67, 68, 69, 70, 4, 5, 6, 71, 72, 73, 74, 75, 76, 77, 78, 79, 80, 81, 82, 83, 84, 85, 86, 87, 88] (by decide +kernel) (by decide +kernel)
set_option maxRecDepth 20000 in
theorem gX3_spend_X3_reduce : GoodIn wsX3_spend (wsV RX3 87 RX3 yX3_reduce wsX3_reduce) := goodIn_app (goodIn_of _ (by decide +kernel)) ggX3_spend_X3_reduce
theorem dX3_spend_0 : decode cX3_spend 0 = .ok (.iload_n 1, 1) := by decide +kernel
theorem dX3_spend_1 : decode cX3_spend 1 = .ok (.istore_n 3, 1) := by decide +kernel
theorem dX3_spend_2 : decode cX3_spend 2 = .ok (.iconst 0, 1) := by decide +kernel
theorem dX3_spend_3 : decode cX3_spend 3 = .ok (.istore 4, 2) := by decide +kernel
theorem dX3_spend_5 : decode cX3_spend 5 = .ok (.iload 4, 2) := by decide +kernel
theorem dX3_spend_7 : decode cX3_spend 7 = .ok (.bipush 6, 2) := by decide +kernel
theorem dX3_spend_9 : decode cX3_spend 9 = .ok (.if_icmp .ge 73, 3) := by decide +kernel
theorem dX3_spend_12 : decode cX3_spend 12 = .ok (.iload_n 3, 1) := by decide +kernel
theorem dX3_spend_13 : decode cX3_spend 13 = .ok (.ifCond .le 69, 3) := by decide +kernel
theorem dX3_spend_16 : decode cX3_spend 16 = .ok (.iload_n 2, 1) := by decide +kernel
theorem dX3_spend_17 : decode cX3_spend 17 = .ok (.ifCond .eq 10, 3) := by decide +kernel
theorem dX3_spend_20 : decode cX3_spend 20 = .ok (.aload_n 0, 1) := by decide +kernel
theorem dX3_spend_21 : decode cX3_spend 21 = .ok (.invokevirtual 72, 3) := by decide +kernel
theorem dX3_spend_24 : decode cX3_spend 24 = .ok (.goto 7, 3) := by decide +kernel
theorem dX3_spend_27 : decode cX3_spend 27 = .ok (.aload_n 0, 1) := by decide +kernel
theorem dX3_spend_28 : decode cX3_spend 28 = .ok (.invokevirtual 75, 3) := by decide +kernel
theorem dX3_spend_31 : decode cX3_spend 31 = .ok (.istore 5, 2) := by decide +kernel
theorem dX3_spend_33 : decode cX3_spend 33 = .ok (.aload_n 0, 1) := by decide +kernel
theorem dX3_spend_34 : decode cX3_spend 34 = .ok (.iload 5, 2) := by decide +kernel
theorem dX3_spend_36 : decode cX3_spend 36 = .ok (.invokevirtual 46, 3) := by decide +kernel
theorem dX3_spend_39 : decode cX3_spend 39 = .ok (.ifCond .ne 7, 3) := by decide +kernel
theorem dX3_spend_42 : decode cX3_spend 42 = .ok (.iload_n 1, 1) := by decide +kernel
theorem dX3_spend_43 : decode cX3_spend 43 = .ok (.iload_n 3, 1) := by decide +kernel
theorem dX3_spend_44 : decode cX3_spend 44 = .ok (.isub, 1) := by decide +kernel
theorem dX3_spend_45 : decode cX3_spend 45 = .ok (.ireturn, 1) := by decide +kernel
theorem dX3_spend_46 : decode cX3_spend 46 = .ok (.iload_n 3, 1) := by decide +kernel
theorem dX3_spend_47 : decode cX3_spend 47 = .ok (.aload_n 0, 1) := by decide +kernel
theorem dX3_spend_48 : decode cX3_spend 48 = .ok (.getfield 11, 3) := by decide +kernel
theorem dX3_spend_51 : decode cX3_spend 51 = .ok (.iload 5, 2) := by decide +kernel
theorem dX3_spend_53 : decode cX3_spend 53 = .ok (.aaload, 1) := by decide +kernel
theorem dX3_spend_54 : decode cX3_spend 54 = .ok (.getfield 78, 3) := by decide +kernel
theorem dX3_spend_57 : decode cX3_spend 57 = .ok (.invokestatic 81, 3) := by decide +kernel
theorem dX3_spend_60 : decode cX3_spend 60 = .ok (.istore 6, 2) := by decide +kernel
theorem dX3_spend_62 : decode cX3_spend 62 = .ok (.aload_n 0, 1) := by decide +kernel
theorem dX3_spend_63 : decode cX3_spend 63 = .ok (.iload 5, 2) := by decide +kernel
theorem dX3_spend_65 : decode cX3_spend 65 = .ok (.iload 6, 2) := by decide +kernel
theorem dX3_spend_67 : decode cX3_spend 67 = .ok (.iconst 0, 1) := by decide +kernel
theorem dX3_spend_68 : decode cX3_spend 68 = .ok (.invokevirtual 87, 3) := by decide +kernel
theorem dX3_spend_71 : decode cX3_spend 71 = .ok (.iload_n 3, 1) := by decide +kernel
theorem dX3_spend_72 : decode cX3_spend 72 = .ok (.iload 6, 2) := by decide +kernel
theorem dX3_spend_74 : decode cX3_spend 74 = .ok (.isub, 1) := by decide +kernel
theorem dX3_spend_75 : decode cX3_spend 75 = .ok (.istore_n 3, 1) := by decide +kernel
theorem dX3_spend_76 : decode cX3_spend 76 = .ok (.iinc 4 1, 3) := by decide +kernel
theorem dX3_spend_79 : decode cX3_spend 79 = .ok (.goto (-74), 3) := by decide +kernel
theorem dX3_spend_82 : decode cX3_spend 82 = .ok (.iload_n 1, 1) := by decide +kernel
theorem dX3_spend_83 : decode cX3_spend 83 = .ok (.iload_n 3, 1) := by decide +kernel
theorem dX3_spend_84 : decode cX3_spend 84 = .ok (.isub, 1) := by decide +kernel
theorem dX3_spend_85 : decode cX3_spend 85 = .ok (.ireturn, 1) := by decide +kernel
set_option maxRecDepth 20000 in
theorem ggX3_settleWithBudget_X3_countRunning : GoodIn wsX3_settleWithBudget wsX3_countRunning := goodIn_r _ [5, 6, 7, 8, 9, 10, 11, 12, 13, 110, 111, 112, 113, 114, 115, 116, 117, 118, 119, 120, 121, 122] (by decide +kernel) (by decide +kernel)
set_option maxRecDepth 20000 in
theorem gX3_settleWithBudget_X3_countRunning : GoodIn wsX3_settleWithBudget (wsV RX3 91 RX3 yX3_countRunning wsX3_countRunning) := goodIn_app (goodIn_of _ (by decide +kernel)) ggX3_settleWithBudget_X3_countRunning
set_option maxRecDepth 20000 in
theorem ggX3_settleWithBudget_X3_sumOfDues : GoodIn wsX3_settleWithBudget wsX3_sumOfDues := goodIn_r _ [17, 6, 7, 18, 19, 20, 11, 21, 13, 22, 23, 24, 25, 26, 27, 28, 29, 30, 31, 32, 33, 34, 110, 111, 112, 113, 114, 115, 116, 117, 118, 119, 120, 121, 122] (by decide +kernel) (by decide +kernel)
set_option maxRecDepth 20000 in
theorem gX3_settleWithBudget_X3_sumOfDues : GoodIn wsX3_settleWithBudget (wsV RX3 94 RX3 yX3_sumOfDues wsX3_sumOfDues) := goodIn_app (goodIn_of _ (by decide +kernel)) ggX3_settleWithBudget_X3_sumOfDues
set_option maxRecDepth 20000 in
theorem ggX3_settleWithBudget_X3_settleAll : GoodIn wsX3_settleWithBudget wsX3_settleAll := goodIn_r _ [38, 6, 7, 8, 9, 10, 11, 12, 13, 39, 40, 41, 4, 42, 43, 44, 45, 46, 47, 48, 23, 24, 25, 26, 27, 28, 49, 50, 51, 52, 34, 53, 54, 55, 56, 57, 58, 29, 30, 31, 32, 33, 59, 60, 61, 62, 63, 64, 65, 66, 67, 68, 69, 70, 71, 72, 73, 74, 75, 76, 77, 110, 111, 112, 113, 114, 115, 116, 117, 118, 119, 120, 121, 122, 123, 124, 125, 126, 127] (by decide +kernel) (by decide +kernel)
set_option maxRecDepth 20000 in
theorem gX3_settleWithBudget_X3_settleAll : GoodIn wsX3_settleWithBudget (wsV RX3 97 RX3 yX3_settleAll wsX3_settleAll) := goodIn_app (goodIn_of _ (by decide +kernel)) ggX3_settleWithBudget_X3_settleAll
set_option maxRecDepth 20000 in
theorem ggX3_settleWithBudget_X3_spend : GoodIn wsX3_settleWithBudget wsX3_spend := goodIn_r _ [81, 7, 82, 83, 75, 76, 77, 84, 85, 86, 4, 87, 6, 88, 8, 9, 10, 11, 12, 13, 89, 90, 91, 92, 93, 44, 45, 46, 47, 94, 95, 96, 97, 43, 98, 99, 100, 101, 34, 33, 59, 60, 61, 62, 63, 27, 102, 103, 104, 105, 22, 23, 24, 25, 26, 28, 106, 107, 108, 109, 64, 65, 66, 67, 68, 69, 70, 71, 72, 73, 74, 110, 111, 112, 113, 114, 115, 116, 117, 118, 119, 120, 121, 122, 123, 124, 125, 126, 127] (by decide +kernel) (by decide +kernel)
set_option maxRecDepth 20000 in
theorem gX3_settleWithBudget_X3_spend : GoodIn wsX3_settleWithBudget (wsV RX3 100 RX3 yX3_spend wsX3_spend) := goodIn_app (goodIn_of _ (by decide +kernel)) ggX3_settleWithBudget_X3_spend
theorem dX3_settleWithBudget_0 : decode cX3_settleWithBudget 0 = .ok (.iconst 0, 1) := by decide +kernel
theorem dX3_settleWithBudget_1 : decode cX3_settleWithBudget 1 = .ok (.istore_n 3, 1) := by decide +kernel
theorem dX3_settleWithBudget_2 : decode cX3_settleWithBudget 2 = .ok (.iload_n 3, 1) := by decide +kernel
theorem dX3_settleWithBudget_3 : decode cX3_settleWithBudget 3 = .ok (.bipush 120, 2) := by decide +kernel
theorem dX3_settleWithBudget_5 : decode cX3_settleWithBudget 5 = .ok (.if_icmp .ge 45, 3) := by decide +kernel
theorem dX3_settleWithBudget_8 : decode cX3_settleWithBudget 8 = .ok (.aload_n 0, 1) := by decide +kernel
theorem dX3_settleWithBudget_9 : decode cX3_settleWithBudget 9 = .ok (.invokevirtual 91, 3) := by decide +kernel
theorem dX3_settleWithBudget_12 : decode cX3_settleWithBudget 12 = .ok (.ifCond .le 38, 3) := by decide +kernel
theorem dX3_settleWithBudget_15 : decode cX3_settleWithBudget 15 = .ok (.aload_n 0, 1) := by decide +kernel
theorem dX3_settleWithBudget_16 : decode cX3_settleWithBudget 16 = .ok (.invokevirtual 94, 3) := by decide +kernel
theorem dX3_settleWithBudget_19 : decode cX3_settleWithBudget 19 = .ok (.istore 4, 2) := by decide +kernel
theorem dX3_settleWithBudget_21 : decode cX3_settleWithBudget 21 = .ok (.iload 4, 2) := by decide +kernel
theorem dX3_settleWithBudget_23 : decode cX3_settleWithBudget 23 = .ok (.iload_n 1, 1) := by decide +kernel
theorem dX3_settleWithBudget_24 : decode cX3_settleWithBudget 24 = .ok (.if_icmp .le 5, 3) := by decide +kernel
theorem dX3_settleWithBudget_27 : decode cX3_settleWithBudget 27 = .ok (.iconst (-1), 1) := by decide +kernel
theorem dX3_settleWithBudget_28 : decode cX3_settleWithBudget 28 = .ok (.ireturn, 1) := by decide +kernel
theorem dX3_settleWithBudget_29 : decode cX3_settleWithBudget 29 = .ok (.aload_n 0, 1) := by decide +kernel
theorem dX3_settleWithBudget_30 : decode cX3_settleWithBudget 30 = .ok (.invokevirtual 97, 3) := by decide +kernel
theorem dX3_settleWithBudget_33 : decode cX3_settleWithBudget 33 = .ok (.pop, 1) := by decide +kernel
theorem dX3_settleWithBudget_34 : decode cX3_settleWithBudget 34 = .ok (.aload_n 0, 1) := by decide +kernel
theorem dX3_settleWithBudget_35 : decode cX3_settleWithBudget 35 = .ok (.iload_n 1, 1) := by decide +kernel
theorem dX3_settleWithBudget_36 : decode cX3_settleWithBudget 36 = .ok (.iload 4, 2) := by decide +kernel
theorem dX3_settleWithBudget_38 : decode cX3_settleWithBudget 38 = .ok (.isub, 1) := by decide +kernel
theorem dX3_settleWithBudget_39 : decode cX3_settleWithBudget 39 = .ok (.iload_n 2, 1) := by decide +kernel
theorem dX3_settleWithBudget_40 : decode cX3_settleWithBudget 40 = .ok (.invokevirtual 100, 3) := by decide +kernel
theorem dX3_settleWithBudget_43 : decode cX3_settleWithBudget 43 = .ok (.pop, 1) := by decide +kernel
theorem dX3_settleWithBudget_44 : decode cX3_settleWithBudget 44 = .ok (.iinc 3 1, 3) := by decide +kernel
theorem dX3_settleWithBudget_47 : decode cX3_settleWithBudget 47 = .ok (.goto (-45), 3) := by decide +kernel
theorem dX3_settleWithBudget_50 : decode cX3_settleWithBudget 50 = .ok (.iload_n 3, 1) := by decide +kernel
theorem dX3_settleWithBudget_51 : decode cX3_settleWithBudget 51 = .ok (.ireturn, 1) := by decide +kernel
set_option maxRecDepth 20000 in
theorem ggX3_firstByRate_X2_isRunning : GoodIn wsX3_firstByRate wsX2_isRunning := goodIn_r _ [8, 9, 13, 14, 15, 16, 17, 18, 19, 20, 21, 22] (by decide +kernel) (by decide +kernel)
set_option maxRecDepth 20000 in
theorem gX3_firstByRate_X2_isRunning : GoodIn wsX3_firstByRate (wsV RX3 60 RX2 yX2_isRunning wsX2_isRunning) := goodIn_app (goodIn_of _ (by decide +kernel)) ggX3_firstByRate_X2_isRunning
theorem dX3_firstByRate_0 : decode cX3_firstByRate 0 = .ok (.iconst (-1), 1) := by decide +kernel
theorem dX3_firstByRate_1 : decode cX3_firstByRate 1 = .ok (.istore_n 1, 1) := by decide +kernel
theorem dX3_firstByRate_2 : decode cX3_firstByRate 2 = .ok (.iconst (-1), 1) := by decide +kernel
theorem dX3_firstByRate_3 : decode cX3_firstByRate 3 = .ok (.istore_n 2, 1) := by decide +kernel
theorem dX3_firstByRate_4 : decode cX3_firstByRate 4 = .ok (.iconst 0, 1) := by decide +kernel
theorem dX3_firstByRate_5 : decode cX3_firstByRate 5 = .ok (.istore_n 3, 1) := by decide +kernel
theorem dX3_firstByRate_6 : decode cX3_firstByRate 6 = .ok (.iload_n 3, 1) := by decide +kernel
theorem dX3_firstByRate_7 : decode cX3_firstByRate 7 = .ok (.aload_n 0, 1) := by decide +kernel
theorem dX3_firstByRate_8 : decode cX3_firstByRate 8 = .ok (.getfield 24, 3) := by decide +kernel
theorem dX3_firstByRate_11 : decode cX3_firstByRate 11 = .ok (.if_icmp .ge 52, 3) := by decide +kernel
theorem dX3_firstByRate_14 : decode cX3_firstByRate 14 = .ok (.iload_n 3, 1) := by decide +kernel
theorem dX3_firstByRate_15 : decode cX3_firstByRate 15 = .ok (.bipush 6, 2) := by decide +kernel
theorem dX3_firstByRate_17 : decode cX3_firstByRate 17 = .ok (.if_icmp .ge 46, 3) := by decide +kernel
theorem dX3_firstByRate_20 : decode cX3_firstByRate 20 = .ok (.aload_n 0, 1) := by decide +kernel
theorem dX3_firstByRate_21 : decode cX3_firstByRate 21 = .ok (.getfield 11, 3) := by decide +kernel
theorem dX3_firstByRate_24 : decode cX3_firstByRate 24 = .ok (.iload_n 3, 1) := by decide +kernel
theorem dX3_firstByRate_25 : decode cX3_firstByRate 25 = .ok (.aaload, 1) := by decide +kernel
theorem dX3_firstByRate_26 : decode cX3_firstByRate 26 = .ok (.invokevirtual 60, 3) := by decide +kernel
theorem dX3_firstByRate_29 : decode cX3_firstByRate 29 = .ok (.ifCond .eq 28, 3) := by decide +kernel
theorem dX3_firstByRate_32 : decode cX3_firstByRate 32 = .ok (.aload_n 0, 1) := by decide +kernel
theorem dX3_firstByRate_33 : decode cX3_firstByRate 33 = .ok (.getfield 11, 3) := by decide +kernel
theorem dX3_firstByRate_36 : decode cX3_firstByRate 36 = .ok (.iload_n 3, 1) := by decide +kernel
theorem dX3_firstByRate_37 : decode cX3_firstByRate 37 = .ok (.aaload, 1) := by decide +kernel
theorem dX3_firstByRate_38 : decode cX3_firstByRate 38 = .ok (.getfield 104, 3) := by decide +kernel
theorem dX3_firstByRate_41 : decode cX3_firstByRate 41 = .ok (.iload_n 2, 1) := by decide +kernel
theorem dX3_firstByRate_42 : decode cX3_firstByRate 42 = .ok (.if_icmp .le 15, 3) := by decide +kernel
theorem dX3_firstByRate_45 : decode cX3_firstByRate 45 = .ok (.iload_n 3, 1) := by decide +kernel
theorem dX3_firstByRate_46 : decode cX3_firstByRate 46 = .ok (.istore_n 1, 1) := by decide +kernel
theorem dX3_firstByRate_47 : decode cX3_firstByRate 47 = .ok (.aload_n 0, 1) := by decide +kernel
theorem dX3_firstByRate_48 : decode cX3_firstByRate 48 = .ok (.getfield 11, 3) := by decide +kernel
theorem dX3_firstByRate_51 : decode cX3_firstByRate 51 = .ok (.iload_n 3, 1) := by decide +kernel
theorem dX3_firstByRate_52 : decode cX3_firstByRate 52 = .ok (.aaload, 1) := by decide +kernel
theorem dX3_firstByRate_53 : decode cX3_firstByRate 53 = .ok (.getfield 104, 3) := by decide +kernel
theorem dX3_firstByRate_56 : decode cX3_firstByRate 56 = .ok (.istore_n 2, 1) := by decide +kernel
theorem dX3_firstByRate_57 : decode cX3_firstByRate 57 = .ok (.iinc 3 1, 3) := by decide +kernel
theorem dX3_firstByRate_60 : decode cX3_firstByRate 60 = .ok (.goto (-54), 3) := by decide +kernel
theorem dX3_firstByRate_63 : decode cX3_firstByRate 63 = .ok (.iload_n 1, 1) := by decide +kernel
theorem dX3_firstByRate_64 : decode cX3_firstByRate 64 = .ok (.ireturn, 1) := by decide +kernel
set_option maxRecDepth 20000 in
theorem ggX3_firstByBalance_X2_isRunning : GoodIn wsX3_firstByBalance wsX2_isRunning := goodIn_r _ [9, 10, 14, 15, 16, 17, 18, 19, 20, 21, 22, 23] (by decide +kernel) (by decide +kernel)
set_option maxRecDepth 20000 in
theorem gX3_firstByBalance_X2_isRunning : GoodIn wsX3_firstByBalance (wsV RX3 60 RX2 yX2_isRunning wsX2_isRunning) := goodIn_app (goodIn_of _ (by decide +kernel)) ggX3_firstByBalance_X2_isRunning
theorem dX3_firstByBalance_0 : decode cX3_firstByBalance 0 = .ok (.iconst (-1), 1) := by decide +kernel
theorem dX3_firstByBalance_1 : decode cX3_firstByBalance 1 = .ok (.istore_n 1, 1) := by decide +kernel
theorem dX3_firstByBalance_2 : decode cX3_firstByBalance 2 = .ok (.ldc 107, 2) := by decide +kernel
theorem dX3_firstByBalance_4 : decode cX3_firstByBalance 4 = .ok (.istore_n 2, 1) := by decide +kernel
theorem dX3_firstByBalance_5 : decode cX3_firstByBalance 5 = .ok (.iconst 0, 1) := by decide +kernel
theorem dX3_firstByBalance_6 : decode cX3_firstByBalance 6 = .ok (.istore_n 3, 1) := by decide +kernel
theorem dX3_firstByBalance_7 : decode cX3_firstByBalance 7 = .ok (.iload_n 3, 1) := by decide +kernel
theorem dX3_firstByBalance_8 : decode cX3_firstByBalance 8 = .ok (.aload_n 0, 1) := by decide +kernel
theorem dX3_firstByBalance_9 : decode cX3_firstByBalance 9 = .ok (.getfield 24, 3) := by decide +kernel
theorem dX3_firstByBalance_12 : decode cX3_firstByBalance 12 = .ok (.if_icmp .ge 52, 3) := by decide +kernel
theorem dX3_firstByBalance_15 : decode cX3_firstByBalance 15 = .ok (.iload_n 3, 1) := by decide +kernel
theorem dX3_firstByBalance_16 : decode cX3_firstByBalance 16 = .ok (.bipush 6, 2) := by decide +kernel
theorem dX3_firstByBalance_18 : decode cX3_firstByBalance 18 = .ok (.if_icmp .ge 46, 3) := by decide +kernel
theorem dX3_firstByBalance_21 : decode cX3_firstByBalance 21 = .ok (.aload_n 0, 1) := by decide +kernel
theorem dX3_firstByBalance_22 : decode cX3_firstByBalance 22 = .ok (.getfield 11, 3) := by decide +kernel
theorem dX3_firstByBalance_25 : decode cX3_firstByBalance 25 = .ok (.iload_n 3, 1) := by decide +kernel
theorem dX3_firstByBalance_26 : decode cX3_firstByBalance 26 = .ok (.aaload, 1) := by decide +kernel
theorem dX3_firstByBalance_27 : decode cX3_firstByBalance 27 = .ok (.invokevirtual 60, 3) := by decide +kernel
theorem dX3_firstByBalance_30 : decode cX3_firstByBalance 30 = .ok (.ifCond .eq 28, 3) := by decide +kernel
theorem dX3_firstByBalance_33 : decode cX3_firstByBalance 33 = .ok (.aload_n 0, 1) := by decide +kernel
theorem dX3_firstByBalance_34 : decode cX3_firstByBalance 34 = .ok (.getfield 11, 3) := by decide +kernel
theorem dX3_firstByBalance_37 : decode cX3_firstByBalance 37 = .ok (.iload_n 3, 1) := by decide +kernel
theorem dX3_firstByBalance_38 : decode cX3_firstByBalance 38 = .ok (.aaload, 1) := by decide +kernel
theorem dX3_firstByBalance_39 : decode cX3_firstByBalance 39 = .ok (.getfield 78, 3) := by decide +kernel
theorem dX3_firstByBalance_42 : decode cX3_firstByBalance 42 = .ok (.iload_n 2, 1) := by decide +kernel
theorem dX3_firstByBalance_43 : decode cX3_firstByBalance 43 = .ok (.if_icmp .ge 15, 3) := by decide +kernel
theorem dX3_firstByBalance_46 : decode cX3_firstByBalance 46 = .ok (.iload_n 3, 1) := by decide +kernel
theorem dX3_firstByBalance_47 : decode cX3_firstByBalance 47 = .ok (.istore_n 1, 1) := by decide +kernel
theorem dX3_firstByBalance_48 : decode cX3_firstByBalance 48 = .ok (.aload_n 0, 1) := by decide +kernel
theorem dX3_firstByBalance_49 : decode cX3_firstByBalance 49 = .ok (.getfield 11, 3) := by decide +kernel
theorem dX3_firstByBalance_52 : decode cX3_firstByBalance 52 = .ok (.iload_n 3, 1) := by decide +kernel
theorem dX3_firstByBalance_53 : decode cX3_firstByBalance 53 = .ok (.aaload, 1) := by decide +kernel
theorem dX3_firstByBalance_54 : decode cX3_firstByBalance 54 = .ok (.getfield 78, 3) := by decide +kernel
theorem dX3_firstByBalance_57 : decode cX3_firstByBalance 57 = .ok (.istore_n 2, 1) := by decide +kernel
theorem dX3_firstByBalance_58 : decode cX3_firstByBalance 58 = .ok (.iinc 3 1, 3) := by decide +kernel
theorem dX3_firstByBalance_61 : decode cX3_firstByBalance 61 = .ok (.goto (-54), 3) := by decide +kernel
theorem dX3_firstByBalance_64 : decode cX3_firstByBalance 64 = .ok (.iload_n 1, 1) := by decide +kernel
theorem dX3_firstByBalance_65 : decode cX3_firstByBalance 65 = .ok (.ireturn, 1) := by decide +kernel
set_option maxRecDepth 20000 in
theorem ggX3_countRunning_X2_isRunning : GoodIn wsX3_countRunning wsX2_isRunning := goodIn_r _ [7, 8, 12, 13, 14, 15, 16, 17, 18, 19, 20, 21] (by decide +kernel) (by decide +kernel)
set_option maxRecDepth 20000 in
theorem gX3_countRunning_X2_isRunning : GoodIn wsX3_countRunning (wsV RX3 60 RX2 yX2_isRunning wsX2_isRunning) := goodIn_app (goodIn_of _ (by decide +kernel)) ggX3_countRunning_X2_isRunning
theorem dX3_countRunning_0 : decode cX3_countRunning 0 = .ok (.iconst 0, 1) := by decide +kernel
theorem dX3_countRunning_1 : decode cX3_countRunning 1 = .ok (.istore_n 1, 1) := by decide +kernel
theorem dX3_countRunning_2 : decode cX3_countRunning 2 = .ok (.iconst 0, 1) := by decide +kernel
theorem dX3_countRunning_3 : decode cX3_countRunning 3 = .ok (.istore_n 2, 1) := by decide +kernel
theorem dX3_countRunning_4 : decode cX3_countRunning 4 = .ok (.iload_n 2, 1) := by decide +kernel
theorem dX3_countRunning_5 : decode cX3_countRunning 5 = .ok (.aload_n 0, 1) := by decide +kernel
theorem dX3_countRunning_6 : decode cX3_countRunning 6 = .ok (.getfield 24, 3) := by decide +kernel
theorem dX3_countRunning_9 : decode cX3_countRunning 9 = .ok (.if_icmp .ge 30, 3) := by decide +kernel
theorem dX3_countRunning_12 : decode cX3_countRunning 12 = .ok (.iload_n 2, 1) := by decide +kernel
theorem dX3_countRunning_13 : decode cX3_countRunning 13 = .ok (.bipush 6, 2) := by decide +kernel
theorem dX3_countRunning_15 : decode cX3_countRunning 15 = .ok (.if_icmp .ge 24, 3) := by decide +kernel
theorem dX3_countRunning_18 : decode cX3_countRunning 18 = .ok (.aload_n 0, 1) := by decide +kernel
theorem dX3_countRunning_19 : decode cX3_countRunning 19 = .ok (.getfield 11, 3) := by decide +kernel
theorem dX3_countRunning_22 : decode cX3_countRunning 22 = .ok (.iload_n 2, 1) := by decide +kernel
theorem dX3_countRunning_23 : decode cX3_countRunning 23 = .ok (.aaload, 1) := by decide +kernel
theorem dX3_countRunning_24 : decode cX3_countRunning 24 = .ok (.invokevirtual 60, 3) := by decide +kernel
theorem dX3_countRunning_27 : decode cX3_countRunning 27 = .ok (.ifCond .eq 6, 3) := by decide +kernel
theorem dX3_countRunning_30 : decode cX3_countRunning 30 = .ok (.iinc 1 1, 3) := by decide +kernel
theorem dX3_countRunning_33 : decode cX3_countRunning 33 = .ok (.iinc 2 1, 3) := by decide +kernel
theorem dX3_countRunning_36 : decode cX3_countRunning 36 = .ok (.goto (-32), 3) := by decide +kernel
theorem dX3_countRunning_39 : decode cX3_countRunning 39 = .ok (.iload_n 1, 1) := by decide +kernel
theorem dX3_countRunning_40 : decode cX3_countRunning 40 = .ok (.ireturn, 1) := by decide +kernel
set_option maxRecDepth 20000 in
theorem ggX3_sumOfDues_X2_nextDue : GoodIn wsX3_sumOfDues wsX2_nextDue := goodIn_r _ [7, 8, 9, 10, 11, 6, 12, 13, 14, 15, 16, 17, 18, 19, 20, 21, 25, 26, 27, 28, 29, 30, 31, 32, 33, 34] (by decide +kernel) (by decide +kernel)
set_option maxRecDepth 20000 in
theorem gX3_sumOfDues_X2_nextDue : GoodIn wsX3_sumOfDues (wsV RX3 108 RX2 yX2_nextDue wsX2_nextDue) := goodIn_app (goodIn_of _ (by decide +kernel)) ggX3_sumOfDues_X2_nextDue
theorem dX3_sumOfDues_0 : decode cX3_sumOfDues 0 = .ok (.iconst 0, 1) := by decide +kernel
theorem dX3_sumOfDues_1 : decode cX3_sumOfDues 1 = .ok (.istore_n 1, 1) := by decide +kernel
theorem dX3_sumOfDues_2 : decode cX3_sumOfDues 2 = .ok (.iconst 0, 1) := by decide +kernel
theorem dX3_sumOfDues_3 : decode cX3_sumOfDues 3 = .ok (.istore_n 2, 1) := by decide +kernel
theorem dX3_sumOfDues_4 : decode cX3_sumOfDues 4 = .ok (.iload_n 2, 1) := by decide +kernel
theorem dX3_sumOfDues_5 : decode cX3_sumOfDues 5 = .ok (.aload_n 0, 1) := by decide +kernel
theorem dX3_sumOfDues_6 : decode cX3_sumOfDues 6 = .ok (.getfield 24, 3) := by decide +kernel
theorem dX3_sumOfDues_9 : decode cX3_sumOfDues 9 = .ok (.if_icmp .ge 27, 3) := by decide +kernel
theorem dX3_sumOfDues_12 : decode cX3_sumOfDues 12 = .ok (.iload_n 2, 1) := by decide +kernel
theorem dX3_sumOfDues_13 : decode cX3_sumOfDues 13 = .ok (.bipush 6, 2) := by decide +kernel
theorem dX3_sumOfDues_15 : decode cX3_sumOfDues 15 = .ok (.if_icmp .ge 21, 3) := by decide +kernel
theorem dX3_sumOfDues_18 : decode cX3_sumOfDues 18 = .ok (.iload_n 1, 1) := by decide +kernel
theorem dX3_sumOfDues_19 : decode cX3_sumOfDues 19 = .ok (.aload_n 0, 1) := by decide +kernel
theorem dX3_sumOfDues_20 : decode cX3_sumOfDues 20 = .ok (.getfield 11, 3) := by decide +kernel
theorem dX3_sumOfDues_23 : decode cX3_sumOfDues 23 = .ok (.iload_n 2, 1) := by decide +kernel
theorem dX3_sumOfDues_24 : decode cX3_sumOfDues 24 = .ok (.aaload, 1) := by decide +kernel
theorem dX3_sumOfDues_25 : decode cX3_sumOfDues 25 = .ok (.invokevirtual 108, 3) := by decide +kernel
theorem dX3_sumOfDues_28 : decode cX3_sumOfDues 28 = .ok (.iadd, 1) := by decide +kernel
theorem dX3_sumOfDues_29 : decode cX3_sumOfDues 29 = .ok (.istore_n 1, 1) := by decide +kernel
theorem dX3_sumOfDues_30 : decode cX3_sumOfDues 30 = .ok (.iinc 2 1, 3) := by decide +kernel
theorem dX3_sumOfDues_33 : decode cX3_sumOfDues 33 = .ok (.goto (-29), 3) := by decide +kernel
theorem dX3_sumOfDues_36 : decode cX3_sumOfDues 36 = .ok (.iload_n 1, 1) := by decide +kernel
theorem dX3_sumOfDues_37 : decode cX3_sumOfDues 37 = .ok (.ireturn, 1) := by decide +kernel
theorem dX3_sumOfBalances_0 : decode cX3_sumOfBalances 0 = .ok (.iconst 0, 1) := by decide +kernel
theorem dX3_sumOfBalances_1 : decode cX3_sumOfBalances 1 = .ok (.istore_n 1, 1) := by decide +kernel
theorem dX3_sumOfBalances_2 : decode cX3_sumOfBalances 2 = .ok (.iconst 0, 1) := by decide +kernel
theorem dX3_sumOfBalances_3 : decode cX3_sumOfBalances 3 = .ok (.istore_n 2, 1) := by decide +kernel
theorem dX3_sumOfBalances_4 : decode cX3_sumOfBalances 4 = .ok (.iload_n 2, 1) := by decide +kernel
theorem dX3_sumOfBalances_5 : decode cX3_sumOfBalances 5 = .ok (.aload_n 0, 1) := by decide +kernel
theorem dX3_sumOfBalances_6 : decode cX3_sumOfBalances 6 = .ok (.getfield 24, 3) := by decide +kernel
theorem dX3_sumOfBalances_9 : decode cX3_sumOfBalances 9 = .ok (.if_icmp .ge 27, 3) := by decide +kernel
theorem dX3_sumOfBalances_12 : decode cX3_sumOfBalances 12 = .ok (.iload_n 2, 1) := by decide +kernel
theorem dX3_sumOfBalances_13 : decode cX3_sumOfBalances 13 = .ok (.bipush 6, 2) := by decide +kernel
theorem dX3_sumOfBalances_15 : decode cX3_sumOfBalances 15 = .ok (.if_icmp .ge 21, 3) := by decide +kernel
theorem dX3_sumOfBalances_18 : decode cX3_sumOfBalances 18 = .ok (.iload_n 1, 1) := by decide +kernel
theorem dX3_sumOfBalances_19 : decode cX3_sumOfBalances 19 = .ok (.aload_n 0, 1) := by decide +kernel
theorem dX3_sumOfBalances_20 : decode cX3_sumOfBalances 20 = .ok (.getfield 11, 3) := by decide +kernel
theorem dX3_sumOfBalances_23 : decode cX3_sumOfBalances 23 = .ok (.iload_n 2, 1) := by decide +kernel
theorem dX3_sumOfBalances_24 : decode cX3_sumOfBalances 24 = .ok (.aaload, 1) := by decide +kernel
theorem dX3_sumOfBalances_25 : decode cX3_sumOfBalances 25 = .ok (.getfield 78, 3) := by decide +kernel
theorem dX3_sumOfBalances_28 : decode cX3_sumOfBalances 28 = .ok (.iadd, 1) := by decide +kernel
theorem dX3_sumOfBalances_29 : decode cX3_sumOfBalances 29 = .ok (.istore_n 1, 1) := by decide +kernel
theorem dX3_sumOfBalances_30 : decode cX3_sumOfBalances 30 = .ok (.iinc 2 1, 3) := by decide +kernel
theorem dX3_sumOfBalances_33 : decode cX3_sumOfBalances 33 = .ok (.goto (-29), 3) := by decide +kernel
theorem dX3_sumOfBalances_36 : decode cX3_sumOfBalances 36 = .ok (.iload_n 1, 1) := by decide +kernel
theorem dX3_sumOfBalances_37 : decode cX3_sumOfBalances 37 = .ok (.ireturn, 1) := by decide +kernel
theorem dX3_sumOfInterest_0 : decode cX3_sumOfInterest 0 = .ok (.iconst 0, 1) := by decide +kernel
theorem dX3_sumOfInterest_1 : decode cX3_sumOfInterest 1 = .ok (.istore_n 1, 1) := by decide +kernel
theorem dX3_sumOfInterest_2 : decode cX3_sumOfInterest 2 = .ok (.iconst 0, 1) := by decide +kernel
theorem dX3_sumOfInterest_3 : decode cX3_sumOfInterest 3 = .ok (.istore_n 2, 1) := by decide +kernel
theorem dX3_sumOfInterest_4 : decode cX3_sumOfInterest 4 = .ok (.iload_n 2, 1) := by decide +kernel
theorem dX3_sumOfInterest_5 : decode cX3_sumOfInterest 5 = .ok (.aload_n 0, 1) := by decide +kernel
theorem dX3_sumOfInterest_6 : decode cX3_sumOfInterest 6 = .ok (.getfield 24, 3) := by decide +kernel
theorem dX3_sumOfInterest_9 : decode cX3_sumOfInterest 9 = .ok (.if_icmp .ge 27, 3) := by decide +kernel
theorem dX3_sumOfInterest_12 : decode cX3_sumOfInterest 12 = .ok (.iload_n 2, 1) := by decide +kernel
theorem dX3_sumOfInterest_13 : decode cX3_sumOfInterest 13 = .ok (.bipush 6, 2) := by decide +kernel
theorem dX3_sumOfInterest_15 : decode cX3_sumOfInterest 15 = .ok (.if_icmp .ge 21, 3) := by decide +kernel
theorem dX3_sumOfInterest_18 : decode cX3_sumOfInterest 18 = .ok (.iload_n 1, 1) := by decide +kernel
theorem dX3_sumOfInterest_19 : decode cX3_sumOfInterest 19 = .ok (.aload_n 0, 1) := by decide +kernel
theorem dX3_sumOfInterest_20 : decode cX3_sumOfInterest 20 = .ok (.getfield 11, 3) := by decide +kernel
theorem dX3_sumOfInterest_23 : decode cX3_sumOfInterest 23 = .ok (.iload_n 2, 1) := by decide +kernel
theorem dX3_sumOfInterest_24 : decode cX3_sumOfInterest 24 = .ok (.aaload, 1) := by decide +kernel
theorem dX3_sumOfInterest_25 : decode cX3_sumOfInterest 25 = .ok (.getfield 111, 3) := by decide +kernel
theorem dX3_sumOfInterest_28 : decode cX3_sumOfInterest 28 = .ok (.iadd, 1) := by decide +kernel
theorem dX3_sumOfInterest_29 : decode cX3_sumOfInterest 29 = .ok (.istore_n 1, 1) := by decide +kernel
theorem dX3_sumOfInterest_30 : decode cX3_sumOfInterest 30 = .ok (.iinc 2 1, 3) := by decide +kernel
theorem dX3_sumOfInterest_33 : decode cX3_sumOfInterest 33 = .ok (.goto (-29), 3) := by decide +kernel
theorem dX3_sumOfInterest_36 : decode cX3_sumOfInterest 36 = .ok (.iload_n 1, 1) := by decide +kernel
theorem dX3_sumOfInterest_37 : decode cX3_sumOfInterest 37 = .ok (.ireturn, 1) := by decide +kernel
theorem dX4_init_0 : decode cX4_init 0 = .ok (.aload_n 0, 1) := by decide +kernel
theorem dX4_init_1 : decode cX4_init 1 = .ok (.invokespecial 1, 3) := by decide +kernel
theorem dX4_init_4 : decode cX4_init 4 = .ok (.aload_n 0, 1) := by decide +kernel
theorem dX4_init_5 : decode cX4_init 5 = .ok (.sipush 256, 3) := by decide +kernel
theorem dX4_init_8 : decode cX4_init 8 = .ok (.newarray .byte, 2) := by decide +kernel
theorem dX4_init_10 : decode cX4_init 10 = .ok (.putfield 9, 3) := by decide +kernel
theorem dX4_init_13 : decode cX4_init 13 = .ok (.aload_n 0, 1) := by decide +kernel
theorem dX4_init_14 : decode cX4_init 14 = .ok (.iconst 0, 1) := by decide +kernel
theorem dX4_init_15 : decode cX4_init 15 = .ok (.putfield 13, 3) := by decide +kernel
theorem dX4_init_18 : decode cX4_init 18 = .ok (.return_, 1) := by decide +kernel
theorem dX4_put_0 : decode cX4_put 0 = .ok (.aload_n 0, 1) := by decide +kernel
theorem dX4_put_1 : decode cX4_put 1 = .ok (.getfield 13, 3) := by decide +kernel
theorem dX4_put_4 : decode cX4_put 4 = .ok (.ifCond .lt 34, 3) := by decide +kernel
theorem dX4_put_7 : decode cX4_put 7 = .ok (.aload_n 0, 1) := by decide +kernel
theorem dX4_put_8 : decode cX4_put 8 = .ok (.getfield 13, 3) := by decide +kernel
theorem dX4_put_11 : decode cX4_put 11 = .ok (.sipush 256, 3) := by decide +kernel
theorem dX4_put_14 : decode cX4_put 14 = .ok (.if_icmp .ge 24, 3) := by decide +kernel
theorem dX4_put_17 : decode cX4_put 17 = .ok (.aload_n 0, 1) := by decide +kernel
theorem dX4_put_18 : decode cX4_put 18 = .ok (.getfield 9, 3) := by decide +kernel
theorem dX4_put_21 : decode cX4_put 21 = .ok (.aload_n 0, 1) := by decide +kernel
theorem dX4_put_22 : decode cX4_put 22 = .ok (.getfield 13, 3) := by decide +kernel
theorem dX4_put_25 : decode cX4_put 25 = .ok (.iload_n 1, 1) := by decide +kernel
theorem dX4_put_26 : decode cX4_put 26 = .ok (.i2b, 1) := by decide +kernel
theorem dX4_put_27 : decode cX4_put 27 = .ok (.bastore, 1) := by decide +kernel
theorem dX4_put_28 : decode cX4_put 28 = .ok (.aload_n 0, 1) := by decide +kernel
theorem dX4_put_29 : decode cX4_put 29 = .ok (.dup, 1) := by decide +kernel
theorem dX4_put_30 : decode cX4_put 30 = .ok (.getfield 13, 3) := by decide +kernel
theorem dX4_put_33 : decode cX4_put 33 = .ok (.iconst 1, 1) := by decide +kernel
theorem dX4_put_34 : decode cX4_put 34 = .ok (.iadd, 1) := by decide +kernel
theorem dX4_put_35 : decode cX4_put 35 = .ok (.putfield 13, 3) := by decide +kernel
theorem dX4_put_38 : decode cX4_put 38 = .ok (.return_, 1) := by decide +kernel
set_option maxRecDepth 20000 in
theorem ggX4_putPayment_X4_putNumber : GoodIn wsX4_putPayment wsX4_putNumber := goodIn_r _ [5, 6, 7, 8, 4, 9, 10, 11, 12, 13] (by decide +kernel) (by decide +kernel)
set_option maxRecDepth 20000 in
theorem gX4_putPayment_X4_putNumber : GoodIn wsX4_putPayment (wsV RX4 17 RX4 yX4_putNumber wsX4_putNumber) := goodIn_app (goodIn_of _ (by decide +kernel)) ggX4_putPayment_X4_putNumber
set_option maxRecDepth 20000 in
theorem ggX4_putPayment_X4_put : GoodIn wsX4_putPayment wsX4_put := goodIn_r _ [9, 10, 11, 12, 13] (by decide +kernel) (by decide +kernel)
set_option maxRecDepth 20000 in
theorem gX4_putPayment_X4_put : GoodIn wsX4_putPayment (wsV RX4 21 RX4 yX4_put wsX4_put) := goodIn_app (goodIn_of _ (by decide +kernel)) ggX4_putPayment_X4_put
theorem dX4_putPayment_0 : decode cX4_putPayment 0 = .ok (.aload_n 0, 1) := by decide +kernel
theorem dX4_putPayment_1 : decode cX4_putPayment 1 = .ok (.iload_n 1, 1) := by decide +kernel
theorem dX4_putPayment_2 : decode cX4_putPayment 2 = .ok (.invokevirtual 17, 3) := by decide +kernel
theorem dX4_putPayment_5 : decode cX4_putPayment 5 = .ok (.iload_n 2, 1) := by decide +kernel
theorem dX4_putPayment_6 : decode cX4_putPayment 6 = .ok (.ifCond .eq 14, 3) := by decide +kernel
theorem dX4_putPayment_9 : decode cX4_putPayment 9 = .ok (.aload_n 0, 1) := by decide +kernel
theorem dX4_putPayment_10 : decode cX4_putPayment 10 = .ok (.bipush 43, 2) := by decide +kernel
theorem dX4_putPayment_12 : decode cX4_putPayment 12 = .ok (.invokevirtual 21, 3) := by decide +kernel
theorem dX4_putPayment_15 : decode cX4_putPayment 15 = .ok (.aload_n 0, 1) := by decide +kernel
theorem dX4_putPayment_16 : decode cX4_putPayment 16 = .ok (.iload_n 2, 1) := by decide +kernel
theorem dX4_putPayment_17 : decode cX4_putPayment 17 = .ok (.invokevirtual 17, 3) := by decide +kernel
theorem dX4_putPayment_20 : decode cX4_putPayment 20 = .ok (.iload_n 3, 1) := by decide +kernel
theorem dX4_putPayment_21 : decode cX4_putPayment 21 = .ok (.ifCond .eq 9, 3) := by decide +kernel
theorem dX4_putPayment_24 : decode cX4_putPayment 24 = .ok (.aload_n 0, 1) := by decide +kernel
theorem dX4_putPayment_25 : decode cX4_putPayment 25 = .ok (.bipush 33, 2) := by decide +kernel
theorem dX4_putPayment_27 : decode cX4_putPayment 27 = .ok (.invokevirtual 21, 3) := by decide +kernel
theorem dX4_putPayment_30 : decode cX4_putPayment 30 = .ok (.return_, 1) := by decide +kernel
set_option maxRecDepth 20000 in
theorem ggX4_putNumber_X4_put : GoodIn wsX4_putNumber wsX4_put := goodIn_r _ [5, 6, 7, 8, 9] (by decide +kernel) (by decide +kernel)
set_option maxRecDepth 20000 in
theorem gX4_putNumber_X4_put : GoodIn wsX4_putNumber (wsV RX4 21 RX4 yX4_put wsX4_put) := goodIn_app (goodIn_of _ (by decide +kernel)) ggX4_putNumber_X4_put
theorem dX4_putNumber_0 : decode cX4_putNumber 0 = .ok (.iconst 1, 1) := by decide +kernel
theorem dX4_putNumber_1 : decode cX4_putNumber 1 = .ok (.istore_n 2, 1) := by decide +kernel
theorem dX4_putNumber_2 : decode cX4_putNumber 2 = .ok (.iconst 0, 1) := by decide +kernel
theorem dX4_putNumber_3 : decode cX4_putNumber 3 = .ok (.istore_n 3, 1) := by decide +kernel
theorem dX4_putNumber_4 : decode cX4_putNumber 4 = .ok (.iload_n 3, 1) := by decide +kernel
theorem dX4_putNumber_5 : decode cX4_putNumber 5 = .ok (.bipush 9, 2) := by decide +kernel
theorem dX4_putNumber_7 : decode cX4_putNumber 7 = .ok (.if_icmp .ge 22, 3) := by decide +kernel
theorem dX4_putNumber_10 : decode cX4_putNumber 10 = .ok (.iload_n 1, 1) := by decide +kernel
theorem dX4_putNumber_11 : decode cX4_putNumber 11 = .ok (.bipush 10, 2) := by decide +kernel
theorem dX4_putNumber_13 : decode cX4_putNumber 13 = .ok (.idiv, 1) := by decide +kernel
theorem dX4_putNumber_14 : decode cX4_putNumber 14 = .ok (.iload_n 2, 1) := by decide +kernel
theorem dX4_putNumber_15 : decode cX4_putNumber 15 = .ok (.if_icmp .lt 14, 3) := by decide +kernel
theorem dX4_putNumber_18 : decode cX4_putNumber 18 = .ok (.iload_n 2, 1) := by decide +kernel
theorem dX4_putNumber_19 : decode cX4_putNumber 19 = .ok (.bipush 10, 2) := by decide +kernel
theorem dX4_putNumber_21 : decode cX4_putNumber 21 = .ok (.imul, 1) := by decide +kernel
theorem dX4_putNumber_22 : decode cX4_putNumber 22 = .ok (.istore_n 2, 1) := by decide +kernel
theorem dX4_putNumber_23 : decode cX4_putNumber 23 = .ok (.iinc 3 1, 3) := by decide +kernel
theorem dX4_putNumber_26 : decode cX4_putNumber 26 = .ok (.goto (-22), 3) := by decide +kernel
theorem dX4_putNumber_29 : decode cX4_putNumber 29 = .ok (.iload_n 2, 1) := by decide +kernel
theorem dX4_putNumber_30 : decode cX4_putNumber 30 = .ok (.ifCond .le 25, 3) := by decide +kernel
theorem dX4_putNumber_33 : decode cX4_putNumber 33 = .ok (.aload_n 0, 1) := by decide +kernel
theorem dX4_putNumber_34 : decode cX4_putNumber 34 = .ok (.bipush 48, 2) := by decide +kernel
theorem dX4_putNumber_36 : decode cX4_putNumber 36 = .ok (.iload_n 1, 1) := by decide +kernel
theorem dX4_putNumber_37 : decode cX4_putNumber 37 = .ok (.iload_n 2, 1) := by decide +kernel
theorem dX4_putNumber_38 : decode cX4_putNumber 38 = .ok (.idiv, 1) := by decide +kernel
theorem dX4_putNumber_39 : decode cX4_putNumber 39 = .ok (.bipush 10, 2) := by decide +kernel
theorem dX4_putNumber_41 : decode cX4_putNumber 41 = .ok (.irem, 1) := by decide +kernel
theorem dX4_putNumber_42 : decode cX4_putNumber 42 = .ok (.iadd, 1) := by decide +kernel
theorem dX4_putNumber_43 : decode cX4_putNumber 43 = .ok (.i2c, 1) := by decide +kernel
theorem dX4_putNumber_44 : decode cX4_putNumber 44 = .ok (.invokevirtual 21, 3) := by decide +kernel
theorem dX4_putNumber_47 : decode cX4_putNumber 47 = .ok (.iload_n 2, 1) := by decide +kernel
theorem dX4_putNumber_48 : decode cX4_putNumber 48 = .ok (.bipush 10, 2) := by decide +kernel
theorem dX4_putNumber_50 : decode cX4_putNumber 50 = .ok (.idiv, 1) := by decide +kernel
theorem dX4_putNumber_51 : decode cX4_putNumber 51 = .ok (.istore_n 2, 1) := by decide +kernel
theorem dX4_putNumber_52 : decode cX4_putNumber 52 = .ok (.goto (-23), 3) := by decide +kernel
theorem dX4_putNumber_55 : decode cX4_putNumber 55 = .ok (.return_, 1) := by decide +kernel
set_option maxRecDepth 20000 in
theorem ggX5_init_X6_init : GoodIn wsX5_init wsX6_init := goodIn_r _ [24, 25, 2, 3, 26, 27, 28, 29, 30, 31, 46, 47, 48, 49, 50, 51] (by decide +kernel) (by decide +kernel)
set_option maxRecDepth 20000 in
theorem gX5_init_X6_init : GoodIn wsX5_init (wsX6_init) := ggX5_init_X6_init
theorem dX5_init_0 : decode cX5_init 0 = .ok (.aload_n 0, 1) := by decide +kernel
theorem dX5_init_1 : decode cX5_init 1 = .ok (.invokespecial 3, 3) := by decide +kernel
theorem dX5_init_4 : decode cX5_init 4 = .ok (.aload_n 0, 1) := by decide +kernel
theorem dX5_init_5 : decode cX5_init 5 = .ok (.iconst 0, 1) := by decide +kernel
theorem dX5_init_6 : decode cX5_init 6 = .ok (.putfield 9, 3) := by decide +kernel
theorem dX5_init_9 : decode cX5_init 9 = .ok (.aload_n 0, 1) := by decide +kernel
theorem dX5_init_10 : decode cX5_init 10 = .ok (.iconst 0, 1) := by decide +kernel
theorem dX5_init_11 : decode cX5_init 11 = .ok (.putfield 15, 3) := by decide +kernel
theorem dX5_init_14 : decode cX5_init 14 = .ok (.aload_n 0, 1) := by decide +kernel
theorem dX5_init_15 : decode cX5_init 15 = .ok (.iconst 0, 1) := by decide +kernel
theorem dX5_init_16 : decode cX5_init 16 = .ok (.putfield 19, 3) := by decide +kernel
theorem dX5_init_19 : decode cX5_init 19 = .ok (.aload_n 0, 1) := by decide +kernel
theorem dX5_init_20 : decode cX5_init 20 = .ok (.iconst 3, 1) := by decide +kernel
theorem dX5_init_21 : decode cX5_init 21 = .ok (.newarray .int, 2) := by decide +kernel
theorem dX5_init_23 : decode cX5_init 23 = .ok (.putfield 22, 3) := by decide +kernel
theorem dX5_init_26 : decode cX5_init 26 = .ok (.aload_n 0, 1) := by decide +kernel
theorem dX5_init_27 : decode cX5_init 27 = .ok (.iconst 3, 1) := by decide +kernel
theorem dX5_init_28 : decode cX5_init 28 = .ok (.newarray .int, 2) := by decide +kernel
theorem dX5_init_30 : decode cX5_init 30 = .ok (.putfield 26, 3) := by decide +kernel
theorem dX5_init_33 : decode cX5_init 33 = .ok (.aload_n 0, 1) := by decide +kernel
theorem dX5_init_34 : decode cX5_init 34 = .ok (.iconst 3, 1) := by decide +kernel
theorem dX5_init_35 : decode cX5_init 35 = .ok (.newarray .int, 2) := by decide +kernel
theorem dX5_init_37 : decode cX5_init 37 = .ok (.putfield 29, 3) := by decide +kernel
theorem dX5_init_40 : decode cX5_init 40 = .ok (.aload_n 0, 1) := by decide +kernel
theorem dX5_init_41 : decode cX5_init 41 = .ok (.iconst 0, 1) := by decide +kernel
theorem dX5_init_42 : decode cX5_init 42 = .ok (.putfield 32, 3) := by decide +kernel
theorem dX5_init_45 : decode cX5_init 45 = .ok (.aload_n 0, 1) := by decide +kernel
theorem dX5_init_46 : decode cX5_init 46 = .ok (.iconst 0, 1) := by decide +kernel
theorem dX5_init_47 : decode cX5_init 47 = .ok (.putfield 35, 3) := by decide +kernel
theorem dX5_init_50 : decode cX5_init 50 = .ok (.aload_n 0, 1) := by decide +kernel
theorem dX5_init_51 : decode cX5_init 51 = .ok (.iconst 0, 1) := by decide +kernel
theorem dX5_init_52 : decode cX5_init 52 = .ok (.putfield 38, 3) := by decide +kernel
theorem dX5_init_55 : decode cX5_init 55 = .ok (.aload_n 0, 1) := by decide +kernel
theorem dX5_init_56 : decode cX5_init 56 = .ok (.iconst 0, 1) := by decide +kernel
theorem dX5_init_57 : decode cX5_init 57 = .ok (.putfield 41, 3) := by decide +kernel
theorem dX5_init_60 : decode cX5_init 60 = .ok (.aload_n 0, 1) := by decide +kernel
theorem dX5_init_61 : decode cX5_init 61 = .ok (.iconst 0, 1) := by decide +kernel
theorem dX5_init_62 : decode cX5_init 62 = .ok (.putfield 44, 3) := by decide +kernel
theorem dX5_init_65 : decode cX5_init 65 = .ok (.aload_n 0, 1) := by decide +kernel
theorem dX5_init_66 : decode cX5_init 66 = .ok (.iconst (-1), 1) := by decide +kernel
theorem dX5_init_67 : decode cX5_init 67 = .ok (.putfield 47, 3) := by decide +kernel
theorem dX5_init_70 : decode cX5_init 70 = .ok (.aload_n 0, 1) := by decide +kernel
theorem dX5_init_71 : decode cX5_init 71 = .ok (.new 50, 3) := by decide +kernel
theorem dX5_init_74 : decode cX5_init 74 = .ok (.dup, 1) := by decide +kernel
theorem dX5_init_75 : decode cX5_init 75 = .ok (.aload_n 1, 1) := by decide +kernel
theorem dX5_init_76 : decode cX5_init 76 = .ok (.invokespecial 52, 3) := by decide +kernel
theorem dX5_init_79 : decode cX5_init 79 = .ok (.putfield 55, 3) := by decide +kernel
theorem dX5_init_82 : decode cX5_init 82 = .ok (.aload_n 0, 1) := by decide +kernel
theorem dX5_init_83 : decode cX5_init 83 = .ok (.aload_n 2, 1) := by decide +kernel
theorem dX5_init_84 : decode cX5_init 84 = .ok (.putfield 59, 3) := by decide +kernel
theorem dX5_init_87 : decode cX5_init 87 = .ok (.return_, 1) := by decide +kernel
set_option maxRecDepth 20000 in
theorem ggX5_run_X6_rewind : GoodIn wsX5_run wsX6_rewind := goodIn_r _ [13, 14, 15, 16, 17, 18, 19, 20, 308, 309, 310, 311, 312, 313] (by decide +kernel) (by decide +kernel)
set_option maxRecDepth 20000 in
theorem gX5_run_X6_rewind : GoodIn wsX5_run (wsV RX5 63 RX6 yX6_rewind wsX6_rewind) := goodIn_app (goodIn_of _ (by decide +kernel)) ggX5_run_X6_rewind
set_option maxRecDepth 20000 in
theorem ggX5_run_X3_clear : GoodIn wsX5_run wsX3_clear := goodIn_r _ [25, 26, 27, 28, 29, 314, 315, 316, 317, 318, 319, 320, 321] (by decide +kernel) (by decide +kernel)
set_option maxRecDepth 20000 in
theorem gX5_run_X3_clear : GoodIn wsX5_run (wsV RX5 67 RX3 yX3_clear wsX3_clear) := goodIn_app (goodIn_of _ (by decide +kernel)) ggX5_run_X3_clear
set_option maxRecDepth 20000 in
theorem ggX5_run_X5_expectLoans : GoodIn wsX5_run wsX5_expectLoans := goodIn_r _ [34, 1, 35, 36, 37, 12, 38, 20, 19, 39, 40, 41, 42, 43, 44, 14, 45, 46, 47, 48, 49, 50, 51, 52, 53, 54, 55, 56, 57, 58, 59, 60, 61, 62, 63, 64, 65, 66, 67, 68, 69, 70, 71, 72, 73, 74, 75, 76, 77, 78, 79, 80, 81, 82, 83, 84, 85, 86, 87, 88, 89, 90, 91, 92, 93, 94, 95, 96, 97, 98, 99, 100, 101, 102, 103, 104, 105, 106, 107, 108, 109, 110, 111, 112, 113, 114, 115, 33, 116, 6, 117, 7, 294, 295, 296, 297, 298, 299, 300, 301, 302, 303, 304, 305, 306, 307, 308, 309, 310, 311, 312, 313] (by decide +kernel) (by decide +kernel)
set_option maxRecDepth 20000 in
theorem gX5_run_X5_expectLoans : GoodIn wsX5_run (wsV RX5 72 RX5 yX5_expectLoans wsX5_expectLoans) := goodIn_app (goodIn_of _ (by decide +kernel)) ggX5_run_X5_expectLoans
set_option maxRecDepth 20000 in
theorem ggX5_run_X5_expectSign : GoodIn wsX5_run wsX5_expectSign := goodIn_r _ [121, 6, 1, 35, 36, 37, 12, 38, 20, 19, 39, 40, 41, 42, 43, 44, 14, 45, 46, 47, 48, 49, 50, 51, 52, 53, 54, 55, 56, 57, 58, 59, 122, 123, 124, 125, 113, 114, 115, 33, 116, 117, 7, 294, 295, 296, 297, 298, 299, 300, 301, 302, 303, 304, 305, 306, 307, 308, 309, 310, 311, 312, 313] (by decide +kernel) (by decide +kernel)
set_option maxRecDepth 20000 in
theorem gX5_run_X5_expectSign : GoodIn wsX5_run (wsV RX5 75 RX5 yX5_expectSign wsX5_expectSign) := goodIn_app (goodIn_of _ (by decide +kernel)) ggX5_run_X5_expectSign
set_option maxRecDepth 20000 in
theorem ggX5_run_X5_readCommand : GoodIn wsX5_run wsX5_readCommand := goodIn_r _ [129, 1, 130, 5, 3, 4, 35, 36, 37, 12, 38, 20, 19, 39, 40, 41, 42, 43, 44, 14, 45, 46, 47, 48, 49, 50, 51, 52, 53, 54, 55, 56, 57, 58, 59, 131, 132, 133, 33, 134, 60, 61, 62, 63, 64, 65, 66, 67, 68, 69, 70, 71, 72, 73, 74, 75, 76, 77, 78, 79, 80, 81, 82, 83, 84, 85, 86, 87, 88, 89, 90, 91, 92, 93, 94, 95, 96, 97, 98, 99, 100, 101, 102, 103, 104, 105, 106, 107, 108, 109, 110, 111, 112, 122, 123, 124, 125, 135, 136, 137, 138, 139, 140, 141, 142, 118, 119, 120, 121, 6, 113, 114, 115, 116, 117, 7, 143, 144, 145, 146, 147, 148, 149, 150, 151, 294, 295, 296, 297, 298, 299, 300, 301, 302, 303, 304, 305, 306, 307, 308, 309, 310, 311, 312, 313] (by decide +kernel) (by decide +kernel)
set_option maxRecDepth 20000 in
theorem gX5_run_X5_readCommand : GoodIn wsX5_run (wsV RX5 80 RX5 yX5_readCommand wsX5_readCommand) := goodIn_app (goodIn_of _ (by decide +kernel)) ggX5_run_X5_readCommand
set_option maxRecDepth 20000 in
theorem ggX5_run_X5_readNumbers : GoodIn wsX5_run wsX5_readNumbers := goodIn_r _ [155, 156, 157, 158, 159, 2, 160, 147, 148, 149, 33, 150, 6, 1, 130, 151, 35, 36, 37, 12, 38, 20, 19, 39, 40, 41, 42, 43, 44, 14, 45, 46, 47, 48, 49, 50, 51, 52, 53, 54, 55, 56, 57, 58, 59, 113, 114, 115, 116, 117, 7, 161, 162, 163, 164, 165, 60, 61, 62, 63, 64, 65, 66, 67, 68, 69, 70, 71, 72, 73, 74, 75, 76, 77, 78, 79, 80, 81, 82, 83, 84, 85, 86, 87, 88, 89, 90, 91, 92, 93, 94, 95, 96, 97, 98, 99, 100, 101, 102, 103, 104, 105, 106, 107, 108, 109, 110, 111, 112, 118, 119, 120, 121, 122, 123, 124, 125, 294, 295, 296, 297, 298, 299, 300, 301, 302, 303, 304, 305, 306, 307, 314, 315, 316, 308, 309, 310, 311, 312, 313] (by decide +kernel) (by decide +kernel)
set_option maxRecDepth 20000 in
theorem gX5_run_X5_readNumbers : GoodIn wsX5_run (wsV RX5 84 RX5 yX5_readNumbers wsX5_readNumbers) := goodIn_app (goodIn_of _ (by decide +kernel)) ggX5_run_X5_readNumbers
set_option maxRecDepth 20000 in
theorem ggX5_run_X5_execute : GoodIn wsX5_run wsX5_execute := goodIn_r _ [169, 4, 2, 157, 158, 159, 170, 171, 172, 173, 24, 174, 26, 175, 176, 177, 178, 179, 180, 181, 182, 183, 184, 185, 27, 186, 187, 188, 189, 190, 191, 192, 193, 194, 195, 196, 197, 198, 199, 200, 201, 202, 203, 204, 205, 206, 207, 208, 209, 210, 211, 212, 213, 214, 215, 216, 217, 218, 219, 220, 221, 222, 223, 224, 225, 226, 227, 228, 16, 17, 18, 229, 230, 231, 232, 233, 234, 235, 236, 237, 238, 239, 240, 241, 242, 243, 244, 245, 246, 247, 248, 249, 250, 251, 252, 253, 254, 255, 33, 256, 257, 258, 259, 260, 261, 262, 263, 264, 265, 266, 267, 268, 269, 270, 271, 272, 273, 274, 165, 275, 276, 277, 278, 279, 280, 281, 282, 283, 284, 285, 286, 287, 288, 289, 290, 291, 292, 293, 113, 114, 115, 116, 6, 1, 117, 7, 294, 295, 296, 297, 298, 299, 300, 301, 302, 303, 304, 305, 306, 307, 314, 315, 316, 322, 323, 324, 325, 326, 327, 328, 329, 330, 331, 317, 318, 319, 320, 321, 308, 309, 310, 311, 312, 313] (by decide +kernel) (by decide +kernel)
set_option maxRecDepth 20000 in
theorem gX5_run_X5_execute : GoodIn wsX5_run (wsV RX5 87 RX5 yX5_execute wsX5_execute) := goodIn_app (goodIn_of _ (by decide +kernel)) ggX5_run_X5_execute
theorem dX5_run_0 : decode cX5_run 0 = .ok (.aload_n 0, 1) := by decide +kernel
theorem dX5_run_1 : decode cX5_run 1 = .ok (.getfield 55, 3) := by decide +kernel
theorem dX5_run_4 : decode cX5_run 4 = .ok (.iload_n 1, 1) := by decide +kernel
theorem dX5_run_5 : decode cX5_run 5 = .ok (.invokevirtual 63, 3) := by decide +kernel
theorem dX5_run_8 : decode cX5_run 8 = .ok (.aload_n 0, 1) := by decide +kernel
theorem dX5_run_9 : decode cX5_run 9 = .ok (.getfield 59, 3) := by decide +kernel
theorem dX5_run_12 : decode cX5_run 12 = .ok (.invokevirtual 67, 3) := by decide +kernel
theorem dX5_run_15 : decode cX5_run 15 = .ok (.aload_n 0, 1) := by decide +kernel
theorem dX5_run_16 : decode cX5_run 16 = .ok (.iconst 0, 1) := by decide +kernel
theorem dX5_run_17 : decode cX5_run 17 = .ok (.putfield 9, 3) := by decide +kernel
theorem dX5_run_20 : decode cX5_run 20 = .ok (.aload_n 0, 1) := by decide +kernel
theorem dX5_run_21 : decode cX5_run 21 = .ok (.iconst 0, 1) := by decide +kernel
theorem dX5_run_22 : decode cX5_run 22 = .ok (.putfield 15, 3) := by decide +kernel
theorem dX5_run_25 : decode cX5_run 25 = .ok (.aload_n 0, 1) := by decide +kernel
theorem dX5_run_26 : decode cX5_run 26 = .ok (.iconst 0, 1) := by decide +kernel
theorem dX5_run_27 : decode cX5_run 27 = .ok (.putfield 19, 3) := by decide +kernel
theorem dX5_run_30 : decode cX5_run 30 = .ok (.aload_n 0, 1) := by decide +kernel
theorem dX5_run_31 : decode cX5_run 31 = .ok (.iconst 0, 1) := by decide +kernel
theorem dX5_run_32 : decode cX5_run 32 = .ok (.putfield 44, 3) := by decide +kernel
theorem dX5_run_35 : decode cX5_run 35 = .ok (.aload_n 0, 1) := by decide +kernel
theorem dX5_run_36 : decode cX5_run 36 = .ok (.iconst (-1), 1) := by decide +kernel
theorem dX5_run_37 : decode cX5_run 37 = .ok (.putfield 47, 3) := by decide +kernel
theorem dX5_run_40 : decode cX5_run 40 = .ok (.aload_n 0, 1) := by decide +kernel
theorem dX5_run_41 : decode cX5_run 41 = .ok (.invokevirtual 72, 3) := by decide +kernel
theorem dX5_run_44 : decode cX5_run 44 = .ok (.aload_n 0, 1) := by decide +kernel
theorem dX5_run_45 : decode cX5_run 45 = .ok (.bipush 59, 2) := by decide +kernel
theorem dX5_run_47 : decode cX5_run 47 = .ok (.invokevirtual 75, 3) := by decide +kernel
theorem dX5_run_50 : decode cX5_run 50 = .ok (.iconst 0, 1) := by decide +kernel
theorem dX5_run_51 : decode cX5_run 51 = .ok (.istore_n 2, 1) := by decide +kernel
theorem dX5_run_52 : decode cX5_run 52 = .ok (.iload_n 2, 1) := by decide +kernel
theorem dX5_run_53 : decode cX5_run 53 = .ok (.ldc 79, 2) := by decide +kernel
theorem dX5_run_55 : decode cX5_run 55 = .ok (.if_icmp .ge 53, 3) := by decide +kernel
theorem dX5_run_58 : decode cX5_run 58 = .ok (.aload_n 0, 1) := by decide +kernel
theorem dX5_run_59 : decode cX5_run 59 = .ok (.getfield 9, 3) := by decide +kernel
theorem dX5_run_62 : decode cX5_run 62 = .ok (.ifCond .ne 46, 3) := by decide +kernel
theorem dX5_run_65 : decode cX5_run 65 = .ok (.aload_n 0, 1) := by decide +kernel
theorem dX5_run_66 : decode cX5_run 66 = .ok (.getfield 44, 3) := by decide +kernel
theorem dX5_run_69 : decode cX5_run 69 = .ok (.ifCond .ne 39, 3) := by decide +kernel
theorem dX5_run_72 : decode cX5_run 72 = .ok (.aload_n 0, 1) := by decide +kernel
theorem dX5_run_73 : decode cX5_run 73 = .ok (.invokevirtual 80, 3) := by decide +kernel
theorem dX5_run_76 : decode cX5_run 76 = .ok (.istore_n 3, 1) := by decide +kernel
theorem dX5_run_77 : decode cX5_run 77 = .ok (.iload_n 3, 1) := by decide +kernel
theorem dX5_run_78 : decode cX5_run 78 = .ok (.ifCond .eq 8, 3) := by decide +kernel
theorem dX5_run_81 : decode cX5_run 81 = .ok (.aload_n 0, 1) := by decide +kernel
theorem dX5_run_82 : decode cX5_run 82 = .ok (.iload_n 3, 1) := by decide +kernel
theorem dX5_run_83 : decode cX5_run 83 = .ok (.invokevirtual 84, 3) := by decide +kernel
theorem dX5_run_86 : decode cX5_run 86 = .ok (.iload_n 3, 1) := by decide +kernel
theorem dX5_run_87 : decode cX5_run 87 = .ok (.ifCond .eq 15, 3) := by decide +kernel
theorem dX5_run_90 : decode cX5_run 90 = .ok (.aload_n 0, 1) := by decide +kernel
theorem dX5_run_91 : decode cX5_run 91 = .ok (.getfield 44, 3) := by decide +kernel
theorem dX5_run_94 : decode cX5_run 94 = .ok (.ifCond .ne 8, 3) := by decide +kernel
theorem dX5_run_97 : decode cX5_run 97 = .ok (.aload_n 0, 1) := by decide +kernel
theorem dX5_run_98 : decode cX5_run 98 = .ok (.iload_n 3, 1) := by decide +kernel
theorem dX5_run_99 : decode cX5_run 99 = .ok (.invokevirtual 87, 3) := by decide +kernel
theorem dX5_run_102 : decode cX5_run 102 = .ok (.iinc 2 1, 3) := by decide +kernel
theorem dX5_run_105 : decode cX5_run 105 = .ok (.goto (-53), 3) := by decide +kernel
theorem dX5_run_108 : decode cX5_run 108 = .ok (.return_, 1) := by decide +kernel
theorem dX5_fail_0 : decode cX5_fail 0 = .ok (.aload_n 0, 1) := by decide +kernel
theorem dX5_fail_1 : decode cX5_fail 1 = .ok (.iload_n 1, 1) := by decide +kernel
theorem dX5_fail_2 : decode cX5_fail 2 = .ok (.putfield 44, 3) := by decide +kernel
theorem dX5_fail_5 : decode cX5_fail 5 = .ok (.aload_n 0, 1) := by decide +kernel
theorem dX5_fail_6 : decode cX5_fail 6 = .ok (.aload_n 0, 1) := by decide +kernel
theorem dX5_fail_7 : decode cX5_fail 7 = .ok (.getfield 55, 3) := by decide +kernel
theorem dX5_fail_10 : decode cX5_fail 10 = .ok (.getfield 90, 3) := by decide +kernel
theorem dX5_fail_13 : decode cX5_fail 13 = .ok (.putfield 47, 3) := by decide +kernel
theorem dX5_fail_16 : decode cX5_fail 16 = .ok (.return_, 1) := by decide +kernel
set_option maxRecDepth 20000 in
theorem ggX5_expectLoans_X6_advance : GoodIn wsX5_expectLoans wsX6_advance := goodIn_r _ [6, 7, 8, 9, 10, 11, 12, 13, 5, 14, 15, 16, 17, 18, 19, 20, 21, 22, 23, 24, 25, 26, 27, 28, 29, 30, 106, 107, 108, 109, 110, 111] (by decide +kernel) (by decide +kernel)
set_option maxRecDepth 20000 in
theorem gX5_expectLoans_X6_advance : GoodIn wsX5_expectLoans (wsV RX5 93 RX6 yX6_advance wsX6_advance) := goodIn_app (goodIn_of _ (by decide +kernel)) ggX5_expectLoans_X6_advance
set_option maxRecDepth 20000 in
theorem ggX5_expectLoans_X6_isWord : GoodIn wsX5_expectLoans wsX6_isWord := goodIn_r _ [34, 10, 7, 9, 35, 36, 37, 38, 39, 40, 41, 42, 43, 44, 45, 46, 11, 12, 13, 5, 14, 8, 15, 47, 48, 49, 50, 51, 52, 53, 54, 55, 56, 57, 58, 59, 60, 61, 62, 63, 64, 65, 66, 67, 68, 69, 70, 71, 72, 73, 74, 75, 76, 77, 78, 79, 80, 81, 82, 83, 106, 107, 108, 109, 110, 111] (by decide +kernel) (by decide +kernel)
set_option maxRecDepth 20000 in
theorem gX5_expectLoans_X6_isWord : GoodIn wsX5_expectLoans (wsV RX5 98 RX6 yX6_isWord wsX6_isWord) := goodIn_app (goodIn_of _ (by decide +kernel)) ggX5_expectLoans_X6_isWord
set_option maxRecDepth 20000 in
theorem ggX5_expectLoans_X5_fail : GoodIn wsX5_expectLoans wsX5_fail := goodIn_r _ [88, 89, 1, 90, 91, 92, 93, 94, 95, 96, 97, 98, 99, 100, 101, 102, 103, 104, 105, 106, 107, 108, 109, 110, 111] (by decide +kernel) (by decide +kernel)
set_option maxRecDepth 20000 in
theorem gX5_expectLoans_X5_fail : GoodIn wsX5_expectLoans (wsV RX5 102 RX5 yX5_fail wsX5_fail) := goodIn_app (goodIn_of _ (by decide +kernel)) ggX5_expectLoans_X5_fail
theorem dX5_expectLoans_0 : decode cX5_expectLoans 0 = .ok (.aload_n 0, 1) := by decide +kernel
theorem dX5_expectLoans_1 : decode cX5_expectLoans 1 = .ok (.getfield 55, 3) := by decide +kernel
theorem dX5_expectLoans_4 : decode cX5_expectLoans 4 = .ok (.invokevirtual 93, 3) := by decide +kernel
theorem dX5_expectLoans_7 : decode cX5_expectLoans 7 = .ok (.aload_n 0, 1) := by decide +kernel
theorem dX5_expectLoans_8 : decode cX5_expectLoans 8 = .ok (.getfield 55, 3) := by decide +kernel
theorem dX5_expectLoans_11 : decode cX5_expectLoans 11 = .ok (.ldc 96, 2) := by decide +kernel
theorem dX5_expectLoans_13 : decode cX5_expectLoans 13 = .ok (.invokevirtual 98, 3) := by decide +kernel
theorem dX5_expectLoans_16 : decode cX5_expectLoans 16 = .ok (.ifCond .ne 8, 3) := by decide +kernel
theorem dX5_expectLoans_19 : decode cX5_expectLoans 19 = .ok (.aload_n 0, 1) := by decide +kernel
theorem dX5_expectLoans_20 : decode cX5_expectLoans 20 = .ok (.iconst 1, 1) := by decide +kernel
theorem dX5_expectLoans_21 : decode cX5_expectLoans 21 = .ok (.invokevirtual 102, 3) := by decide +kernel
theorem dX5_expectLoans_24 : decode cX5_expectLoans 24 = .ok (.return_, 1) := by decide +kernel
set_option maxRecDepth 20000 in
theorem ggX5_expectSign_X6_advance : GoodIn wsX5_expectSign wsX6_advance := goodIn_r _ [7, 8, 9, 10, 11, 12, 13, 14, 6, 15, 16, 17, 18, 19, 20, 21, 22, 23, 24, 25, 26, 27, 28, 29, 30, 31, 57, 58, 59, 60, 61, 62] (by decide +kernel) (by decide +kernel)
set_option maxRecDepth 20000 in
theorem gX5_expectSign_X6_advance : GoodIn wsX5_expectSign (wsV RX5 93 RX6 yX6_advance wsX6_advance) := goodIn_app (goodIn_of _ (by decide +kernel)) ggX5_expectSign_X6_advance
set_option maxRecDepth 20000 in
theorem ggX5_expectSign_X6_isSign : GoodIn wsX5_expectSign wsX6_isSign := goodIn_r _ [35, 11, 10, 12, 13, 14, 6, 15, 9, 16, 57, 58, 59, 60, 61, 62] (by decide +kernel) (by decide +kernel)
set_option maxRecDepth 20000 in
theorem gX5_expectSign_X6_isSign : GoodIn wsX5_expectSign (wsV RX5 105 RX6 yX6_isSign wsX6_isSign) := goodIn_app (goodIn_of _ (by decide +kernel)) ggX5_expectSign_X6_isSign
set_option maxRecDepth 20000 in
theorem ggX5_expectSign_X5_fail : GoodIn wsX5_expectSign wsX5_fail := goodIn_r _ [40, 1, 2, 41, 42, 43, 44, 45, 46, 47, 48, 49, 50, 51, 52, 53, 54, 55, 56, 57, 58, 59, 60, 61, 62] (by decide +kernel) (by decide +kernel)
set_option maxRecDepth 20000 in
theorem gX5_expectSign_X5_fail : GoodIn wsX5_expectSign (wsV RX5 102 RX5 yX5_fail wsX5_fail) := goodIn_app (goodIn_of _ (by decide +kernel)) ggX5_expectSign_X5_fail
theorem dX5_expectSign_0 : decode cX5_expectSign 0 = .ok (.aload_n 0, 1) := by decide +kernel
theorem dX5_expectSign_1 : decode cX5_expectSign 1 = .ok (.getfield 44, 3) := by decide +kernel
theorem dX5_expectSign_4 : decode cX5_expectSign 4 = .ok (.ifCond .eq 4, 3) := by decide +kernel
theorem dX5_expectSign_7 : decode cX5_expectSign 7 = .ok (.return_, 1) := by decide +kernel
theorem dX5_expectSign_8 : decode cX5_expectSign 8 = .ok (.aload_n 0, 1) := by decide +kernel
theorem dX5_expectSign_9 : decode cX5_expectSign 9 = .ok (.getfield 55, 3) := by decide +kernel
theorem dX5_expectSign_12 : decode cX5_expectSign 12 = .ok (.invokevirtual 93, 3) := by decide +kernel
theorem dX5_expectSign_15 : decode cX5_expectSign 15 = .ok (.aload_n 0, 1) := by decide +kernel
theorem dX5_expectSign_16 : decode cX5_expectSign 16 = .ok (.getfield 55, 3) := by decide +kernel
theorem dX5_expectSign_19 : decode cX5_expectSign 19 = .ok (.iload_n 1, 1) := by decide +kernel
theorem dX5_expectSign_20 : decode cX5_expectSign 20 = .ok (.invokevirtual 105, 3) := by decide +kernel
theorem dX5_expectSign_23 : decode cX5_expectSign 23 = .ok (.ifCond .ne 8, 3) := by decide +kernel
theorem dX5_expectSign_26 : decode cX5_expectSign 26 = .ok (.aload_n 0, 1) := by decide +kernel
theorem dX5_expectSign_27 : decode cX5_expectSign 27 = .ok (.iconst 1, 1) := by decide +kernel
theorem dX5_expectSign_28 : decode cX5_expectSign 28 = .ok (.invokevirtual 102, 3) := by decide +kernel
theorem dX5_expectSign_31 : decode cX5_expectSign 31 = .ok (.return_, 1) := by decide +kernel
set_option maxRecDepth 20000 in
theorem ggX5_expectNumber_X6_advance : GoodIn wsX5_expectNumber wsX6_advance := goodIn_r _ [9, 10, 11, 12, 13, 14, 15, 16, 8, 17, 18, 19, 20, 21, 22, 23, 24, 25, 26, 27, 28, 29, 30, 31, 32, 33, 55, 56, 57, 58, 59, 60] (by decide +kernel) (by decide +kernel)
set_option maxRecDepth 20000 in
theorem gX5_expectNumber_X6_advance : GoodIn wsX5_expectNumber (wsV RX5 93 RX6 yX6_advance wsX6_advance) := goodIn_app (goodIn_of _ (by decide +kernel)) ggX5_expectNumber_X6_advance
set_option maxRecDepth 20000 in
theorem ggX5_expectNumber_X5_fail : GoodIn wsX5_expectNumber wsX5_fail := goodIn_r _ [38, 1, 2, 39, 40, 41, 42, 43, 44, 45, 46, 47, 48, 49, 50, 51, 52, 53, 54, 55, 56, 57, 58, 59, 60] (by decide +kernel) (by decide +kernel)
set_option maxRecDepth 20000 in
theorem gX5_expectNumber_X5_fail : GoodIn wsX5_expectNumber (wsV RX5 102 RX5 yX5_fail wsX5_fail) := goodIn_app (goodIn_of _ (by decide +kernel)) ggX5_expectNumber_X5_fail
theorem dX5_expectNumber_0 : decode cX5_expectNumber 0 = .ok (.aload_n 0, 1) := by decide +kernel
theorem dX5_expectNumber_1 : decode cX5_expectNumber 1 = .ok (.getfield 44, 3) := by decide +kernel
theorem dX5_expectNumber_4 : decode cX5_expectNumber 4 = .ok (.ifCond .eq 5, 3) := by decide +kernel
theorem dX5_expectNumber_7 : decode cX5_expectNumber 7 = .ok (.iconst 0, 1) := by decide +kernel
theorem dX5_expectNumber_8 : decode cX5_expectNumber 8 = .ok (.ireturn, 1) := by decide +kernel
theorem dX5_expectNumber_9 : decode cX5_expectNumber 9 = .ok (.aload_n 0, 1) := by decide +kernel
theorem dX5_expectNumber_10 : decode cX5_expectNumber 10 = .ok (.getfield 55, 3) := by decide +kernel
theorem dX5_expectNumber_13 : decode cX5_expectNumber 13 = .ok (.invokevirtual 93, 3) := by decide +kernel
theorem dX5_expectNumber_16 : decode cX5_expectNumber 16 = .ok (.aload_n 0, 1) := by decide +kernel
theorem dX5_expectNumber_17 : decode cX5_expectNumber 17 = .ok (.getfield 55, 3) := by decide +kernel
theorem dX5_expectNumber_20 : decode cX5_expectNumber 20 = .ok (.getfield 109, 3) := by decide +kernel
theorem dX5_expectNumber_23 : decode cX5_expectNumber 23 = .ok (.iconst 2, 1) := by decide +kernel
theorem dX5_expectNumber_24 : decode cX5_expectNumber 24 = .ok (.if_icmp .eq 11, 3) := by decide +kernel
theorem dX5_expectNumber_27 : decode cX5_expectNumber 27 = .ok (.aload_n 0, 1) := by decide +kernel
theorem dX5_expectNumber_28 : decode cX5_expectNumber 28 = .ok (.iconst 1, 1) := by decide +kernel
theorem dX5_expectNumber_29 : decode cX5_expectNumber 29 = .ok (.invokevirtual 102, 3) := by decide +kernel
theorem dX5_expectNumber_32 : decode cX5_expectNumber 32 = .ok (.goto 30, 3) := by decide +kernel
theorem dX5_expectNumber_35 : decode cX5_expectNumber 35 = .ok (.aload_n 0, 1) := by decide +kernel
theorem dX5_expectNumber_36 : decode cX5_expectNumber 36 = .ok (.getfield 55, 3) := by decide +kernel
theorem dX5_expectNumber_39 : decode cX5_expectNumber 39 = .ok (.getfield 112, 3) := by decide +kernel
theorem dX5_expectNumber_42 : decode cX5_expectNumber 42 = .ok (.iload_n 1, 1) := by decide +kernel
theorem dX5_expectNumber_43 : decode cX5_expectNumber 43 = .ok (.if_icmp .lt 14, 3) := by decide +kernel
theorem dX5_expectNumber_46 : decode cX5_expectNumber 46 = .ok (.aload_n 0, 1) := by decide +kernel
theorem dX5_expectNumber_47 : decode cX5_expectNumber 47 = .ok (.getfield 55, 3) := by decide +kernel
theorem dX5_expectNumber_50 : decode cX5_expectNumber 50 = .ok (.getfield 112, 3) := by decide +kernel
theorem dX5_expectNumber_53 : decode cX5_expectNumber 53 = .ok (.iload_n 2, 1) := by decide +kernel
theorem dX5_expectNumber_54 : decode cX5_expectNumber 54 = .ok (.if_icmp .le 8, 3) := by decide +kernel
theorem dX5_expectNumber_57 : decode cX5_expectNumber 57 = .ok (.aload_n 0, 1) := by decide +kernel
theorem dX5_expectNumber_58 : decode cX5_expectNumber 58 = .ok (.iconst 2, 1) := by decide +kernel
theorem dX5_expectNumber_59 : decode cX5_expectNumber 59 = .ok (.invokevirtual 102, 3) := by decide +kernel
theorem dX5_expectNumber_62 : decode cX5_expectNumber 62 = .ok (.aload_n 0, 1) := by decide +kernel
theorem dX5_expectNumber_63 : decode cX5_expectNumber 63 = .ok (.getfield 55, 3) := by decide +kernel
theorem dX5_expectNumber_66 : decode cX5_expectNumber 66 = .ok (.getfield 112, 3) := by decide +kernel
theorem dX5_expectNumber_69 : decode cX5_expectNumber 69 = .ok (.ireturn, 1) := by decide +kernel
set_option maxRecDepth 20000 in
theorem ggX5_readCommand_X6_advance : GoodIn wsX5_readCommand wsX6_advance := goodIn_r _ [10, 11, 12, 13, 14, 15, 16, 17, 9, 18, 19, 20, 21, 22, 23, 24, 25, 26, 27, 28, 29, 30, 31, 32, 33, 34, 139, 140, 141, 142, 143, 144] (by decide +kernel) (by decide +kernel)
set_option maxRecDepth 20000 in
theorem gX5_readCommand_X6_advance : GoodIn wsX5_readCommand (wsV RX5 93 RX6 yX6_advance wsX6_advance) := goodIn_app (goodIn_of _ (by decide +kernel)) ggX5_readCommand_X6_advance
set_option maxRecDepth 20000 in
theorem ggX5_readCommand_X5_commandOfWord : GoodIn wsX5_readCommand wsX5_commandOfWord := goodIn_r _ [39, 1, 40, 41, 42, 9, 43, 14, 11, 13, 44, 45, 46, 47, 48, 49, 50, 51, 52, 53, 54, 55, 15, 16, 17, 18, 12, 19, 56, 57, 58, 59, 60, 61, 62, 63, 64, 65, 66, 67, 68, 69, 70, 71, 72, 73, 74, 75, 76, 77, 78, 79, 80, 81, 82, 83, 84, 85, 86, 87, 88, 89, 90, 91, 92, 125, 126, 127, 128, 129, 130, 131, 132, 133, 134, 135, 136, 137, 138, 139, 140, 141, 142, 143, 144] (by decide +kernel) (by decide +kernel)
set_option maxRecDepth 20000 in
theorem gX5_readCommand_X5_commandOfWord : GoodIn wsX5_readCommand (wsV RX5 115 RX5 yX5_commandOfWord wsX5_commandOfWord) := goodIn_app (goodIn_of _ (by decide +kernel)) ggX5_readCommand_X5_commandOfWord
set_option maxRecDepth 20000 in
theorem ggX5_readCommand_X6_isSign : GoodIn wsX5_readCommand wsX6_isSign := goodIn_r _ [96, 14, 13, 15, 16, 17, 9, 18, 12, 19, 139, 140, 141, 142, 143, 144] (by decide +kernel) (by decide +kernel)
set_option maxRecDepth 20000 in
theorem gX5_readCommand_X6_isSign : GoodIn wsX5_readCommand (wsV RX5 105 RX6 yX6_isSign wsX6_isSign) := goodIn_app (goodIn_of _ (by decide +kernel)) ggX5_readCommand_X6_isSign
set_option maxRecDepth 20000 in
theorem ggX5_readCommand_X5_endPass : GoodIn wsX5_readCommand wsX5_endPass := goodIn_r _ [100, 3, 101, 5, 102, 1, 103, 104, 105, 106, 107, 38, 108, 109, 6, 7, 8, 9, 10, 11, 12, 13, 14, 15, 16, 17, 18, 19, 20, 21, 22, 23, 24, 25, 26, 27, 28, 29, 30, 31, 32, 33, 34, 93, 94, 95, 96, 110, 111, 112, 113, 114, 115, 125, 126, 127, 128, 129, 130, 131, 132, 133, 134, 135, 136, 137, 138, 139, 140, 141, 142, 143, 144] (by decide +kernel) (by decide +kernel)
set_option maxRecDepth 20000 in
theorem gX5_readCommand_X5_endPass : GoodIn wsX5_readCommand (wsV RX5 118 RX5 yX5_endPass wsX5_endPass) := goodIn_app (goodIn_of _ (by decide +kernel)) ggX5_readCommand_X5_endPass
set_option maxRecDepth 20000 in
theorem ggX5_readCommand_X5_fail : GoodIn wsX5_readCommand wsX5_fail := goodIn_r _ [113, 109, 1, 114, 115, 125, 126, 127, 128, 129, 130, 131, 132, 133, 134, 135, 136, 137, 138, 139, 140, 141, 142, 143, 144] (by decide +kernel) (by decide +kernel)
set_option maxRecDepth 20000 in
theorem gX5_readCommand_X5_fail : GoodIn wsX5_readCommand (wsV RX5 102 RX5 yX5_fail wsX5_fail) := goodIn_app (goodIn_of _ (by decide +kernel)) ggX5_readCommand_X5_fail
set_option maxRecDepth 20000 in
theorem ggX5_readCommand_X5_beginRepeat : GoodIn wsX5_readCommand wsX5_beginRepeat := goodIn_r _ [119, 3, 103, 1, 104, 101, 102, 5, 110, 111, 112, 38, 113, 109, 114, 115, 120, 121, 122, 123, 2, 124, 6, 7, 8, 9, 10, 11, 12, 13, 14, 15, 16, 17, 18, 19, 20, 21, 22, 23, 24, 25, 26, 27, 28, 29, 30, 31, 32, 33, 34, 105, 106, 107, 108, 93, 94, 95, 96, 125, 126, 127, 128, 129, 130, 131, 132, 133, 134, 135, 136, 137, 138, 139, 140, 141, 142, 143, 144] (by decide +kernel) (by decide +kernel)
set_option maxRecDepth 20000 in
theorem gX5_readCommand_X5_beginRepeat : GoodIn wsX5_readCommand (wsV RX5 121 RX5 yX5_beginRepeat wsX5_beginRepeat) := goodIn_app (goodIn_of _ (by decide +kernel)) ggX5_readCommand_X5_beginRepeat
theorem dX5_readCommand_0 : decode cX5_readCommand 0 = .ok (.aload_n 0, 1) := by decide +kernel
theorem dX5_readCommand_1 : decode cX5_readCommand 1 = .ok (.getfield 55, 3) := by decide +kernel
theorem dX5_readCommand_4 : decode cX5_readCommand 4 = .ok (.invokevirtual 93, 3) := by decide +kernel
theorem dX5_readCommand_7 : decode cX5_readCommand 7 = .ok (.aload_n 0, 1) := by decide +kernel
theorem dX5_readCommand_8 : decode cX5_readCommand 8 = .ok (.invokevirtual 115, 3) := by decide +kernel
theorem dX5_readCommand_11 : decode cX5_readCommand 11 = .ok (.istore_n 1, 1) := by decide +kernel
theorem dX5_readCommand_12 : decode cX5_readCommand 12 = .ok (.aload_n 0, 1) := by decide +kernel
theorem dX5_readCommand_13 : decode cX5_readCommand 13 = .ok (.getfield 55, 3) := by decide +kernel
theorem dX5_readCommand_16 : decode cX5_readCommand 16 = .ok (.getfield 109, 3) := by decide +kernel
theorem dX5_readCommand_19 : decode cX5_readCommand 19 = .ok (.ifCond .ne 18, 3) := by decide +kernel
theorem dX5_readCommand_22 : decode cX5_readCommand 22 = .ok (.aload_n 0, 1) := by decide +kernel
theorem dX5_readCommand_23 : decode cX5_readCommand 23 = .ok (.getfield 19, 3) := by decide +kernel
theorem dX5_readCommand_26 : decode cX5_readCommand 26 = .ok (.ifCond .ne 11, 3) := by decide +kernel
theorem dX5_readCommand_29 : decode cX5_readCommand 29 = .ok (.aload_n 0, 1) := by decide +kernel
theorem dX5_readCommand_30 : decode cX5_readCommand 30 = .ok (.iconst 1, 1) := by decide +kernel
theorem dX5_readCommand_31 : decode cX5_readCommand 31 = .ok (.putfield 9, 3) := by decide +kernel
theorem dX5_readCommand_34 : decode cX5_readCommand 34 = .ok (.goto 74, 3) := by decide +kernel
theorem dX5_readCommand_37 : decode cX5_readCommand 37 = .ok (.aload_n 0, 1) := by decide +kernel
theorem dX5_readCommand_38 : decode cX5_readCommand 38 = .ok (.getfield 55, 3) := by decide +kernel
theorem dX5_readCommand_41 : decode cX5_readCommand 41 = .ok (.bipush 41, 2) := by decide +kernel
theorem dX5_readCommand_43 : decode cX5_readCommand 43 = .ok (.invokevirtual 105, 3) := by decide +kernel
theorem dX5_readCommand_46 : decode cX5_readCommand 46 = .ok (.ifCond .eq 17, 3) := by decide +kernel
theorem dX5_readCommand_49 : decode cX5_readCommand 49 = .ok (.aload_n 0, 1) := by decide +kernel
theorem dX5_readCommand_50 : decode cX5_readCommand 50 = .ok (.getfield 19, 3) := by decide +kernel
theorem dX5_readCommand_53 : decode cX5_readCommand 53 = .ok (.ifCond .le 10, 3) := by decide +kernel
theorem dX5_readCommand_56 : decode cX5_readCommand 56 = .ok (.aload_n 0, 1) := by decide +kernel
theorem dX5_readCommand_57 : decode cX5_readCommand 57 = .ok (.invokevirtual 118, 3) := by decide +kernel
theorem dX5_readCommand_60 : decode cX5_readCommand 60 = .ok (.goto 48, 3) := by decide +kernel
theorem dX5_readCommand_63 : decode cX5_readCommand 63 = .ok (.iload_n 1, 1) := by decide +kernel
theorem dX5_readCommand_64 : decode cX5_readCommand 64 = .ok (.ifCond .ne 11, 3) := by decide +kernel
theorem dX5_readCommand_67 : decode cX5_readCommand 67 = .ok (.aload_n 0, 1) := by decide +kernel
theorem dX5_readCommand_68 : decode cX5_readCommand 68 = .ok (.iconst 1, 1) := by decide +kernel
theorem dX5_readCommand_69 : decode cX5_readCommand 69 = .ok (.invokevirtual 102, 3) := by decide +kernel
theorem dX5_readCommand_72 : decode cX5_readCommand 72 = .ok (.goto 36, 3) := by decide +kernel
theorem dX5_readCommand_75 : decode cX5_readCommand 75 = .ok (.iload_n 1, 1) := by decide +kernel
theorem dX5_readCommand_76 : decode cX5_readCommand 76 = .ok (.bipush 8, 2) := by decide +kernel
theorem dX5_readCommand_78 : decode cX5_readCommand 78 = .ok (.if_icmp .ne 10, 3) := by decide +kernel
theorem dX5_readCommand_81 : decode cX5_readCommand 81 = .ok (.aload_n 0, 1) := by decide +kernel
theorem dX5_readCommand_82 : decode cX5_readCommand 82 = .ok (.invokevirtual 121, 3) := by decide +kernel
theorem dX5_readCommand_85 : decode cX5_readCommand 85 = .ok (.goto 23, 3) := by decide +kernel
theorem dX5_readCommand_88 : decode cX5_readCommand 88 = .ok (.aload_n 0, 1) := by decide +kernel
theorem dX5_readCommand_89 : decode cX5_readCommand 89 = .ok (.getfield 15, 3) := by decide +kernel
theorem dX5_readCommand_92 : decode cX5_readCommand 92 = .ok (.sipush 300, 3) := by decide +kernel
theorem dX5_readCommand_95 : decode cX5_readCommand 95 = .ok (.if_icmp .lt 11, 3) := by decide +kernel
theorem dX5_readCommand_98 : decode cX5_readCommand 98 = .ok (.aload_n 0, 1) := by decide +kernel
theorem dX5_readCommand_99 : decode cX5_readCommand 99 = .ok (.iconst 5, 1) := by decide +kernel
theorem dX5_readCommand_100 : decode cX5_readCommand 100 = .ok (.invokevirtual 102, 3) := by decide +kernel
theorem dX5_readCommand_103 : decode cX5_readCommand 103 = .ok (.goto 5, 3) := by decide +kernel
theorem dX5_readCommand_106 : decode cX5_readCommand 106 = .ok (.iload_n 1, 1) := by decide +kernel
theorem dX5_readCommand_107 : decode cX5_readCommand 107 = .ok (.ireturn, 1) := by decide +kernel
theorem dX5_readCommand_108 : decode cX5_readCommand 108 = .ok (.iconst 0, 1) := by decide +kernel
theorem dX5_readCommand_109 : decode cX5_readCommand 109 = .ok (.ireturn, 1) := by decide +kernel
set_option maxRecDepth 20000 in
theorem ggX5_commandOfWord_X6_isWord : GoodIn wsX5_commandOfWord wsX6_isWord := goodIn_r _ [6, 7, 8, 9, 10, 11, 12, 13, 14, 15, 16, 17, 18, 19, 20, 21, 22, 23, 24, 5, 25, 26, 27, 28, 29, 30, 31, 32, 33, 34, 35, 36, 37, 38, 39, 40, 41, 42, 43, 44, 45, 46, 47, 48, 49, 50, 51, 52, 53, 54, 55, 56, 57, 58, 59, 60, 61, 62, 63, 64, 79, 80, 81, 82, 83, 84] (by decide +kernel) (by decide +kernel)
set_option maxRecDepth 20000 in
theorem gX5_commandOfWord_X6_isWord : GoodIn wsX5_commandOfWord (wsV RX5 98 RX6 yX6_isWord wsX6_isWord) := goodIn_app (goodIn_of _ (by decide +kernel)) ggX5_commandOfWord_X6_isWord
theorem dX5_commandOfWord_0 : decode cX5_commandOfWord 0 = .ok (.aload_n 0, 1) := by decide +kernel
theorem dX5_commandOfWord_1 : decode cX5_commandOfWord 1 = .ok (.getfield 55, 3) := by decide +kernel
theorem dX5_commandOfWord_4 : decode cX5_commandOfWord 4 = .ok (.ldc 124, 2) := by decide +kernel
theorem dX5_commandOfWord_6 : decode cX5_commandOfWord 6 = .ok (.invokevirtual 98, 3) := by decide +kernel
theorem dX5_commandOfWord_9 : decode cX5_commandOfWord 9 = .ok (.ifCond .eq 5, 3) := by decide +kernel
theorem dX5_commandOfWord_12 : decode cX5_commandOfWord 12 = .ok (.iconst 1, 1) := by decide +kernel
theorem dX5_commandOfWord_13 : decode cX5_commandOfWord 13 = .ok (.ireturn, 1) := by decide +kernel
theorem dX5_commandOfWord_14 : decode cX5_commandOfWord 14 = .ok (.aload_n 0, 1) := by decide +kernel
theorem dX5_commandOfWord_15 : decode cX5_commandOfWord 15 = .ok (.getfield 55, 3) := by decide +kernel
theorem dX5_commandOfWord_18 : decode cX5_commandOfWord 18 = .ok (.ldc 126, 2) := by decide +kernel
theorem dX5_commandOfWord_20 : decode cX5_commandOfWord 20 = .ok (.invokevirtual 98, 3) := by decide +kernel
theorem dX5_commandOfWord_23 : decode cX5_commandOfWord 23 = .ok (.ifCond .eq 5, 3) := by decide +kernel
theorem dX5_commandOfWord_26 : decode cX5_commandOfWord 26 = .ok (.iconst 2, 1) := by decide +kernel
theorem dX5_commandOfWord_27 : decode cX5_commandOfWord 27 = .ok (.ireturn, 1) := by decide +kernel
theorem dX5_commandOfWord_28 : decode cX5_commandOfWord 28 = .ok (.aload_n 0, 1) := by decide +kernel
theorem dX5_commandOfWord_29 : decode cX5_commandOfWord 29 = .ok (.getfield 55, 3) := by decide +kernel
theorem dX5_commandOfWord_32 : decode cX5_commandOfWord 32 = .ok (.ldc 128, 2) := by decide +kernel
theorem dX5_commandOfWord_34 : decode cX5_commandOfWord 34 = .ok (.invokevirtual 98, 3) := by decide +kernel
theorem dX5_commandOfWord_37 : decode cX5_commandOfWord 37 = .ok (.ifCond .eq 5, 3) := by decide +kernel
theorem dX5_commandOfWord_40 : decode cX5_commandOfWord 40 = .ok (.iconst 3, 1) := by decide +kernel
theorem dX5_commandOfWord_41 : decode cX5_commandOfWord 41 = .ok (.ireturn, 1) := by decide +kernel
theorem dX5_commandOfWord_42 : decode cX5_commandOfWord 42 = .ok (.aload_n 0, 1) := by decide +kernel
theorem dX5_commandOfWord_43 : decode cX5_commandOfWord 43 = .ok (.getfield 55, 3) := by decide +kernel
theorem dX5_commandOfWord_46 : decode cX5_commandOfWord 46 = .ok (.ldc 130, 2) := by decide +kernel
theorem dX5_commandOfWord_48 : decode cX5_commandOfWord 48 = .ok (.invokevirtual 98, 3) := by decide +kernel
theorem dX5_commandOfWord_51 : decode cX5_commandOfWord 51 = .ok (.ifCond .eq 5, 3) := by decide +kernel
theorem dX5_commandOfWord_54 : decode cX5_commandOfWord 54 = .ok (.iconst 4, 1) := by decide +kernel
theorem dX5_commandOfWord_55 : decode cX5_commandOfWord 55 = .ok (.ireturn, 1) := by decide +kernel
theorem dX5_commandOfWord_56 : decode cX5_commandOfWord 56 = .ok (.aload_n 0, 1) := by decide +kernel
theorem dX5_commandOfWord_57 : decode cX5_commandOfWord 57 = .ok (.getfield 55, 3) := by decide +kernel
theorem dX5_commandOfWord_60 : decode cX5_commandOfWord 60 = .ok (.ldc 132, 2) := by decide +kernel
theorem dX5_commandOfWord_62 : decode cX5_commandOfWord 62 = .ok (.invokevirtual 98, 3) := by decide +kernel
theorem dX5_commandOfWord_65 : decode cX5_commandOfWord 65 = .ok (.ifCond .eq 5, 3) := by decide +kernel
theorem dX5_commandOfWord_68 : decode cX5_commandOfWord 68 = .ok (.iconst 5, 1) := by decide +kernel
theorem dX5_commandOfWord_69 : decode cX5_commandOfWord 69 = .ok (.ireturn, 1) := by decide +kernel
theorem dX5_commandOfWord_70 : decode cX5_commandOfWord 70 = .ok (.aload_n 0, 1) := by decide +kernel
theorem dX5_commandOfWord_71 : decode cX5_commandOfWord 71 = .ok (.getfield 55, 3) := by decide +kernel
theorem dX5_commandOfWord_74 : decode cX5_commandOfWord 74 = .ok (.ldc 134, 2) := by decide +kernel
theorem dX5_commandOfWord_76 : decode cX5_commandOfWord 76 = .ok (.invokevirtual 98, 3) := by decide +kernel
theorem dX5_commandOfWord_79 : decode cX5_commandOfWord 79 = .ok (.ifCond .eq 6, 3) := by decide +kernel
theorem dX5_commandOfWord_82 : decode cX5_commandOfWord 82 = .ok (.bipush 6, 2) := by decide +kernel
theorem dX5_commandOfWord_84 : decode cX5_commandOfWord 84 = .ok (.ireturn, 1) := by decide +kernel
theorem dX5_commandOfWord_85 : decode cX5_commandOfWord 85 = .ok (.aload_n 0, 1) := by decide +kernel
theorem dX5_commandOfWord_86 : decode cX5_commandOfWord 86 = .ok (.getfield 55, 3) := by decide +kernel
theorem dX5_commandOfWord_89 : decode cX5_commandOfWord 89 = .ok (.ldc 136, 2) := by decide +kernel
theorem dX5_commandOfWord_91 : decode cX5_commandOfWord 91 = .ok (.invokevirtual 98, 3) := by decide +kernel
theorem dX5_commandOfWord_94 : decode cX5_commandOfWord 94 = .ok (.ifCond .eq 6, 3) := by decide +kernel
theorem dX5_commandOfWord_97 : decode cX5_commandOfWord 97 = .ok (.bipush 7, 2) := by decide +kernel
theorem dX5_commandOfWord_99 : decode cX5_commandOfWord 99 = .ok (.ireturn, 1) := by decide +kernel
theorem dX5_commandOfWord_100 : decode cX5_commandOfWord 100 = .ok (.aload_n 0, 1) := by decide +kernel
theorem dX5_commandOfWord_101 : decode cX5_commandOfWord 101 = .ok (.getfield 55, 3) := by decide +kernel
theorem dX5_commandOfWord_104 : decode cX5_commandOfWord 104 = .ok (.ldc 138, 2) := by decide +kernel
theorem dX5_commandOfWord_106 : decode cX5_commandOfWord 106 = .ok (.invokevirtual 98, 3) := by decide +kernel
theorem dX5_commandOfWord_109 : decode cX5_commandOfWord 109 = .ok (.ifCond .eq 8, 3) := by decide +kernel
theorem dX5_commandOfWord_112 : decode cX5_commandOfWord 112 = .ok (.bipush 8, 2) := by decide +kernel
theorem dX5_commandOfWord_114 : decode cX5_commandOfWord 114 = .ok (.goto 4, 3) := by decide +kernel
theorem dX5_commandOfWord_117 : decode cX5_commandOfWord 117 = .ok (.iconst 0, 1) := by decide +kernel
theorem dX5_commandOfWord_118 : decode cX5_commandOfWord 118 = .ok (.ireturn, 1) := by decide +kernel
set_option maxRecDepth 20000 in
theorem ggX5_beginRepeat_X5_fail : GoodIn wsX5_beginRepeat wsX5_fail := goodIn_r _ [12, 13, 3, 14, 15, 59, 60, 61, 62, 63, 64, 65, 66, 67, 68, 69, 70, 71, 72, 73, 74, 75, 76, 77, 78] (by decide +kernel) (by decide +kernel)
set_option maxRecDepth 20000 in
theorem gX5_beginRepeat_X5_fail : GoodIn wsX5_beginRepeat (wsV RX5 102 RX5 yX5_fail wsX5_fail) := goodIn_app (goodIn_of _ (by decide +kernel)) ggX5_beginRepeat_X5_fail
set_option maxRecDepth 20000 in
theorem ggX5_beginRepeat_X5_expectNumber : GoodIn wsX5_beginRepeat wsX5_expectNumber := goodIn_r _ [19, 13, 3, 20, 21, 22, 23, 24, 25, 26, 27, 28, 29, 30, 31, 32, 33, 34, 35, 36, 37, 38, 39, 40, 41, 42, 43, 44, 45, 46, 47, 48, 49, 50, 8, 9, 10, 11, 12, 14, 15, 59, 60, 61, 62, 63, 64, 65, 66, 67, 68, 69, 70, 71, 72, 73, 74, 75, 76, 77, 78] (by decide +kernel) (by decide +kernel)
set_option maxRecDepth 20000 in
theorem gX5_beginRepeat_X5_expectNumber : GoodIn wsX5_beginRepeat (wsV RX5 140 RX5 yX5_expectNumber wsX5_expectNumber) := goodIn_app (goodIn_of _ (by decide +kernel)) ggX5_beginRepeat_X5_expectNumber
set_option maxRecDepth 20000 in
theorem ggX5_beginRepeat_X5_expectSign : GoodIn wsX5_beginRepeat wsX5_expectSign := goodIn_r _ [54, 13, 3, 22, 23, 24, 25, 26, 27, 28, 29, 30, 31, 32, 33, 34, 35, 36, 37, 38, 39, 40, 41, 42, 43, 44, 45, 46, 47, 48, 49, 50, 55, 56, 57, 58, 8, 9, 10, 11, 12, 14, 15, 59, 60, 61, 62, 63, 64, 65, 66, 67, 68, 69, 70, 71, 72, 73, 74, 75, 76, 77, 78] (by decide +kernel) (by decide +kernel)
set_option maxRecDepth 20000 in
theorem gX5_beginRepeat_X5_expectSign : GoodIn wsX5_beginRepeat (wsV RX5 75 RX5 yX5_expectSign wsX5_expectSign) := goodIn_app (goodIn_of _ (by decide +kernel)) ggX5_beginRepeat_X5_expectSign
theorem dX5_beginRepeat_0 : decode cX5_beginRepeat 0 = .ok (.aload_n 0, 1) := by decide +kernel
theorem dX5_beginRepeat_1 : decode cX5_beginRepeat 1 = .ok (.getfield 19, 3) := by decide +kernel
theorem dX5_beginRepeat_4 : decode cX5_beginRepeat 4 = .ok (.ifCond .lt 11, 3) := by decide +kernel
theorem dX5_beginRepeat_7 : decode cX5_beginRepeat 7 = .ok (.aload_n 0, 1) := by decide +kernel
theorem dX5_beginRepeat_8 : decode cX5_beginRepeat 8 = .ok (.getfield 19, 3) := by decide +kernel
theorem dX5_beginRepeat_11 : decode cX5_beginRepeat 11 = .ok (.iconst 3, 1) := by decide +kernel
theorem dX5_beginRepeat_12 : decode cX5_beginRepeat 12 = .ok (.if_icmp .lt 9, 3) := by decide +kernel
theorem dX5_beginRepeat_15 : decode cX5_beginRepeat 15 = .ok (.aload_n 0, 1) := by decide +kernel
theorem dX5_beginRepeat_16 : decode cX5_beginRepeat 16 = .ok (.iconst 4, 1) := by decide +kernel
theorem dX5_beginRepeat_17 : decode cX5_beginRepeat 17 = .ok (.invokevirtual 102, 3) := by decide +kernel
theorem dX5_beginRepeat_20 : decode cX5_beginRepeat 20 = .ok (.return_, 1) := by decide +kernel
theorem dX5_beginRepeat_21 : decode cX5_beginRepeat 21 = .ok (.aload_n 0, 1) := by decide +kernel
theorem dX5_beginRepeat_22 : decode cX5_beginRepeat 22 = .ok (.iconst 1, 1) := by decide +kernel
theorem dX5_beginRepeat_23 : decode cX5_beginRepeat 23 = .ok (.bipush 24, 2) := by decide +kernel
theorem dX5_beginRepeat_25 : decode cX5_beginRepeat 25 = .ok (.invokevirtual 140, 3) := by decide +kernel
theorem dX5_beginRepeat_28 : decode cX5_beginRepeat 28 = .ok (.istore_n 1, 1) := by decide +kernel
theorem dX5_beginRepeat_29 : decode cX5_beginRepeat 29 = .ok (.aload_n 0, 1) := by decide +kernel
theorem dX5_beginRepeat_30 : decode cX5_beginRepeat 30 = .ok (.bipush 40, 2) := by decide +kernel
theorem dX5_beginRepeat_32 : decode cX5_beginRepeat 32 = .ok (.invokevirtual 75, 3) := by decide +kernel
theorem dX5_beginRepeat_35 : decode cX5_beginRepeat 35 = .ok (.aload_n 0, 1) := by decide +kernel
theorem dX5_beginRepeat_36 : decode cX5_beginRepeat 36 = .ok (.getfield 22, 3) := by decide +kernel
theorem dX5_beginRepeat_39 : decode cX5_beginRepeat 39 = .ok (.aload_n 0, 1) := by decide +kernel
theorem dX5_beginRepeat_40 : decode cX5_beginRepeat 40 = .ok (.getfield 19, 3) := by decide +kernel
theorem dX5_beginRepeat_43 : decode cX5_beginRepeat 43 = .ok (.aload_n 0, 1) := by decide +kernel
theorem dX5_beginRepeat_44 : decode cX5_beginRepeat 44 = .ok (.getfield 55, 3) := by decide +kernel
theorem dX5_beginRepeat_47 : decode cX5_beginRepeat 47 = .ok (.getfield 144, 3) := by decide +kernel
theorem dX5_beginRepeat_50 : decode cX5_beginRepeat 50 = .ok (.iastore, 1) := by decide +kernel
theorem dX5_beginRepeat_51 : decode cX5_beginRepeat 51 = .ok (.aload_n 0, 1) := by decide +kernel
theorem dX5_beginRepeat_52 : decode cX5_beginRepeat 52 = .ok (.getfield 26, 3) := by decide +kernel
theorem dX5_beginRepeat_55 : decode cX5_beginRepeat 55 = .ok (.aload_n 0, 1) := by decide +kernel
theorem dX5_beginRepeat_56 : decode cX5_beginRepeat 56 = .ok (.getfield 19, 3) := by decide +kernel
theorem dX5_beginRepeat_59 : decode cX5_beginRepeat 59 = .ok (.iload_n 1, 1) := by decide +kernel
theorem dX5_beginRepeat_60 : decode cX5_beginRepeat 60 = .ok (.iastore, 1) := by decide +kernel
theorem dX5_beginRepeat_61 : decode cX5_beginRepeat 61 = .ok (.aload_n 0, 1) := by decide +kernel
theorem dX5_beginRepeat_62 : decode cX5_beginRepeat 62 = .ok (.getfield 29, 3) := by decide +kernel
theorem dX5_beginRepeat_65 : decode cX5_beginRepeat 65 = .ok (.aload_n 0, 1) := by decide +kernel
theorem dX5_beginRepeat_66 : decode cX5_beginRepeat 66 = .ok (.getfield 19, 3) := by decide +kernel
theorem dX5_beginRepeat_69 : decode cX5_beginRepeat 69 = .ok (.aload_n 0, 1) := by decide +kernel
theorem dX5_beginRepeat_70 : decode cX5_beginRepeat 70 = .ok (.getfield 15, 3) := by decide +kernel
theorem dX5_beginRepeat_73 : decode cX5_beginRepeat 73 = .ok (.iastore, 1) := by decide +kernel
theorem dX5_beginRepeat_74 : decode cX5_beginRepeat 74 = .ok (.aload_n 0, 1) := by decide +kernel
theorem dX5_beginRepeat_75 : decode cX5_beginRepeat 75 = .ok (.dup, 1) := by decide +kernel
theorem dX5_beginRepeat_76 : decode cX5_beginRepeat 76 = .ok (.getfield 19, 3) := by decide +kernel
theorem dX5_beginRepeat_79 : decode cX5_beginRepeat 79 = .ok (.iconst 1, 1) := by decide +kernel
theorem dX5_beginRepeat_80 : decode cX5_beginRepeat 80 = .ok (.iadd, 1) := by decide +kernel
theorem dX5_beginRepeat_81 : decode cX5_beginRepeat 81 = .ok (.putfield 19, 3) := by decide +kernel
theorem dX5_beginRepeat_84 : decode cX5_beginRepeat 84 = .ok (.return_, 1) := by decide +kernel
set_option maxRecDepth 20000 in
theorem ggX5_endPass_X5_expectSign : GoodIn wsX5_endPass wsX5_expectSign := goodIn_r _ [12, 13, 5, 14, 15, 16, 17, 18, 19, 20, 21, 22, 23, 24, 25, 26, 27, 28, 29, 30, 31, 32, 33, 34, 35, 36, 37, 38, 39, 40, 41, 42, 43, 44, 45, 46, 47, 48, 49, 11, 50, 51, 52, 53, 54, 55, 56, 57, 58, 59, 60, 61, 62, 63, 64, 65, 66, 67, 68, 69, 70, 71, 72] (by decide +kernel) (by decide +kernel)
set_option maxRecDepth 20000 in
theorem gX5_endPass_X5_expectSign : GoodIn wsX5_endPass (wsV RX5 75 RX5 yX5_expectSign wsX5_expectSign) := goodIn_app (goodIn_of _ (by decide +kernel)) ggX5_endPass_X5_expectSign
theorem dX5_endPass_0 : decode cX5_endPass 0 = .ok (.aload_n 0, 1) := by decide +kernel
theorem dX5_endPass_1 : decode cX5_endPass 1 = .ok (.getfield 19, 3) := by decide +kernel
theorem dX5_endPass_4 : decode cX5_endPass 4 = .ok (.iconst 1, 1) := by decide +kernel
theorem dX5_endPass_5 : decode cX5_endPass 5 = .ok (.isub, 1) := by decide +kernel
theorem dX5_endPass_6 : decode cX5_endPass 6 = .ok (.istore_n 1, 1) := by decide +kernel
theorem dX5_endPass_7 : decode cX5_endPass 7 = .ok (.iload_n 1, 1) := by decide +kernel
theorem dX5_endPass_8 : decode cX5_endPass 8 = .ok (.ifCond .lt 8, 3) := by decide +kernel
theorem dX5_endPass_11 : decode cX5_endPass 11 = .ok (.iload_n 1, 1) := by decide +kernel
theorem dX5_endPass_12 : decode cX5_endPass 12 = .ok (.iconst 3, 1) := by decide +kernel
theorem dX5_endPass_13 : decode cX5_endPass 13 = .ok (.if_icmp .lt 4, 3) := by decide +kernel
theorem dX5_endPass_16 : decode cX5_endPass 16 = .ok (.return_, 1) := by decide +kernel
theorem dX5_endPass_17 : decode cX5_endPass 17 = .ok (.aload_n 0, 1) := by decide +kernel
theorem dX5_endPass_18 : decode cX5_endPass 18 = .ok (.getfield 26, 3) := by decide +kernel
theorem dX5_endPass_21 : decode cX5_endPass 21 = .ok (.iload_n 1, 1) := by decide +kernel
theorem dX5_endPass_22 : decode cX5_endPass 22 = .ok (.dup2, 1) := by decide +kernel
theorem dX5_endPass_23 : decode cX5_endPass 23 = .ok (.iaload, 1) := by decide +kernel
theorem dX5_endPass_24 : decode cX5_endPass 24 = .ok (.iconst 1, 1) := by decide +kernel
theorem dX5_endPass_25 : decode cX5_endPass 25 = .ok (.isub, 1) := by decide +kernel
theorem dX5_endPass_26 : decode cX5_endPass 26 = .ok (.iastore, 1) := by decide +kernel
theorem dX5_endPass_27 : decode cX5_endPass 27 = .ok (.aload_n 0, 1) := by decide +kernel
theorem dX5_endPass_28 : decode cX5_endPass 28 = .ok (.getfield 26, 3) := by decide +kernel
theorem dX5_endPass_31 : decode cX5_endPass 31 = .ok (.iload_n 1, 1) := by decide +kernel
theorem dX5_endPass_32 : decode cX5_endPass 32 = .ok (.iaload, 1) := by decide +kernel
theorem dX5_endPass_33 : decode cX5_endPass 33 = .ok (.ifCond .le 42, 3) := by decide +kernel
theorem dX5_endPass_36 : decode cX5_endPass 36 = .ok (.aload_n 0, 1) := by decide +kernel
theorem dX5_endPass_37 : decode cX5_endPass 37 = .ok (.getfield 15, 3) := by decide +kernel
theorem dX5_endPass_40 : decode cX5_endPass 40 = .ok (.aload_n 0, 1) := by decide +kernel
theorem dX5_endPass_41 : decode cX5_endPass 41 = .ok (.getfield 29, 3) := by decide +kernel
theorem dX5_endPass_44 : decode cX5_endPass 44 = .ok (.iload_n 1, 1) := by decide +kernel
theorem dX5_endPass_45 : decode cX5_endPass 45 = .ok (.iaload, 1) := by decide +kernel
theorem dX5_endPass_46 : decode cX5_endPass 46 = .ok (.if_icmp .le 29, 3) := by decide +kernel
theorem dX5_endPass_49 : decode cX5_endPass 49 = .ok (.aload_n 0, 1) := by decide +kernel
theorem dX5_endPass_50 : decode cX5_endPass 50 = .ok (.getfield 29, 3) := by decide +kernel
theorem dX5_endPass_53 : decode cX5_endPass 53 = .ok (.iload_n 1, 1) := by decide +kernel
theorem dX5_endPass_54 : decode cX5_endPass 54 = .ok (.aload_n 0, 1) := by decide +kernel
theorem dX5_endPass_55 : decode cX5_endPass 55 = .ok (.getfield 15, 3) := by decide +kernel
theorem dX5_endPass_58 : decode cX5_endPass 58 = .ok (.iastore, 1) := by decide +kernel
theorem dX5_endPass_59 : decode cX5_endPass 59 = .ok (.aload_n 0, 1) := by decide +kernel
theorem dX5_endPass_60 : decode cX5_endPass 60 = .ok (.getfield 55, 3) := by decide +kernel
theorem dX5_endPass_63 : decode cX5_endPass 63 = .ok (.aload_n 0, 1) := by decide +kernel
theorem dX5_endPass_64 : decode cX5_endPass 64 = .ok (.getfield 22, 3) := by decide +kernel
theorem dX5_endPass_67 : decode cX5_endPass 67 = .ok (.iload_n 1, 1) := by decide +kernel
theorem dX5_endPass_68 : decode cX5_endPass 68 = .ok (.iaload, 1) := by decide +kernel
theorem dX5_endPass_69 : decode cX5_endPass 69 = .ok (.putfield 144, 3) := by decide +kernel
theorem dX5_endPass_72 : decode cX5_endPass 72 = .ok (.goto 19, 3) := by decide +kernel
theorem dX5_endPass_75 : decode cX5_endPass 75 = .ok (.aload_n 0, 1) := by decide +kernel
theorem dX5_endPass_76 : decode cX5_endPass 76 = .ok (.dup, 1) := by decide +kernel
theorem dX5_endPass_77 : decode cX5_endPass 77 = .ok (.getfield 19, 3) := by decide +kernel
theorem dX5_endPass_80 : decode cX5_endPass 80 = .ok (.iconst 1, 1) := by decide +kernel
theorem dX5_endPass_81 : decode cX5_endPass 81 = .ok (.isub, 1) := by decide +kernel
theorem dX5_endPass_82 : decode cX5_endPass 82 = .ok (.putfield 19, 3) := by decide +kernel
theorem dX5_endPass_85 : decode cX5_endPass 85 = .ok (.aload_n 0, 1) := by decide +kernel
theorem dX5_endPass_86 : decode cX5_endPass 86 = .ok (.bipush 59, 2) := by decide +kernel
theorem dX5_endPass_88 : decode cX5_endPass 88 = .ok (.invokevirtual 75, 3) := by decide +kernel
theorem dX5_endPass_91 : decode cX5_endPass 91 = .ok (.return_, 1) := by decide +kernel
set_option maxRecDepth 20000 in
theorem ggX5_readNumbers_X5_expectNumber : GoodIn wsX5_readNumbers wsX5_expectNumber := goodIn_r _ [11, 12, 13, 14, 15, 16, 17, 18, 19, 20, 21, 22, 23, 24, 25, 26, 27, 28, 29, 30, 31, 32, 33, 34, 35, 36, 37, 38, 39, 40, 41, 42, 43, 44, 45, 46, 47, 10, 48, 49, 50, 117, 118, 119, 120, 121, 122, 123, 124, 125, 126, 127, 128, 129, 130, 134, 135, 136, 137, 138, 139] (by decide +kernel) (by decide +kernel)
set_option maxRecDepth 20000 in
theorem gX5_readNumbers_X5_expectNumber : GoodIn wsX5_readNumbers (wsV RX5 140 RX5 yX5_expectNumber wsX5_expectNumber) := goodIn_app (goodIn_of _ (by decide +kernel)) ggX5_readNumbers_X5_expectNumber
set_option maxRecDepth 20000 in
theorem ggX5_readNumbers_X5_readKeep : GoodIn wsX5_readNumbers wsX5_readKeep := goodIn_r _ [54, 12, 13, 55, 16, 17, 18, 19, 20, 21, 22, 23, 24, 25, 26, 27, 28, 29, 30, 31, 32, 33, 34, 35, 36, 37, 38, 39, 40, 41, 42, 43, 44, 56, 57, 58, 59, 60, 61, 62, 63, 64, 65, 66, 67, 68, 69, 70, 71, 72, 73, 74, 75, 76, 77, 78, 79, 80, 81, 82, 83, 84, 85, 86, 87, 88, 89, 90, 91, 92, 93, 94, 95, 96, 97, 98, 99, 100, 101, 102, 103, 104, 105, 106, 107, 108, 109, 110, 111, 10, 112, 113, 114, 115, 116, 45, 46, 47, 48, 49, 50, 117, 118, 119, 120, 121, 122, 123, 124, 125, 126, 127, 128, 129, 130, 134, 135, 136, 137, 138, 139] (by decide +kernel) (by decide +kernel)
set_option maxRecDepth 20000 in
theorem gX5_readNumbers_X5_readKeep : GoodIn wsX5_readNumbers (wsV RX5 151 RX5 yX5_readKeep wsX5_readKeep) := goodIn_app (goodIn_of _ (by decide +kernel)) ggX5_readNumbers_X5_readKeep
set_option maxRecDepth 20000 in
theorem ggX5_readNumbers_X5_expectSign : GoodIn wsX5_readNumbers wsX5_expectSign := goodIn_r _ [112, 12, 13, 16, 17, 18, 19, 20, 21, 22, 23, 24, 25, 26, 27, 28, 29, 30, 31, 32, 33, 34, 35, 36, 37, 38, 39, 40, 41, 42, 43, 44, 113, 114, 115, 116, 45, 46, 47, 10, 48, 49, 50, 117, 118, 119, 120, 121, 122, 123, 124, 125, 126, 127, 128, 129, 130, 134, 135, 136, 137, 138, 139] (by decide +kernel) (by decide +kernel)
set_option maxRecDepth 20000 in
theorem gX5_readNumbers_X5_expectSign : GoodIn wsX5_readNumbers (wsV RX5 75 RX5 yX5_expectSign wsX5_expectSign) := goodIn_app (goodIn_of _ (by decide +kernel)) ggX5_readNumbers_X5_expectSign
theorem dX5_readNumbers_0 : decode cX5_readNumbers 0 = .ok (.iload_n 1, 1) := by decide +kernel
theorem dX5_readNumbers_1 : decode cX5_readNumbers 1 = .ok (.iconst 1, 1) := by decide +kernel
theorem dX5_readNumbers_2 : decode cX5_readNumbers 2 = .ok (.if_icmp .ne 40, 3) := by decide +kernel
theorem dX5_readNumbers_5 : decode cX5_readNumbers 5 = .ok (.aload_n 0, 1) := by decide +kernel
theorem dX5_readNumbers_6 : decode cX5_readNumbers 6 = .ok (.aload_n 0, 1) := by decide +kernel
theorem dX5_readNumbers_7 : decode cX5_readNumbers 7 = .ok (.iconst 1, 1) := by decide +kernel
theorem dX5_readNumbers_8 : decode cX5_readNumbers 8 = .ok (.ldc 147, 2) := by decide +kernel
theorem dX5_readNumbers_10 : decode cX5_readNumbers 10 = .ok (.invokevirtual 140, 3) := by decide +kernel
theorem dX5_readNumbers_13 : decode cX5_readNumbers 13 = .ok (.putfield 32, 3) := by decide +kernel
theorem dX5_readNumbers_16 : decode cX5_readNumbers 16 = .ok (.aload_n 0, 1) := by decide +kernel
theorem dX5_readNumbers_17 : decode cX5_readNumbers 17 = .ok (.aload_n 0, 1) := by decide +kernel
theorem dX5_readNumbers_18 : decode cX5_readNumbers 18 = .ok (.iconst 0, 1) := by decide +kernel
theorem dX5_readNumbers_19 : decode cX5_readNumbers 19 = .ok (.sipush 3000, 3) := by decide +kernel
theorem dX5_readNumbers_22 : decode cX5_readNumbers 22 = .ok (.invokevirtual 140, 3) := by decide +kernel
theorem dX5_readNumbers_25 : decode cX5_readNumbers 25 = .ok (.putfield 35, 3) := by decide +kernel
theorem dX5_readNumbers_28 : decode cX5_readNumbers 28 = .ok (.aload_n 0, 1) := by decide +kernel
theorem dX5_readNumbers_29 : decode cX5_readNumbers 29 = .ok (.aload_n 0, 1) := by decide +kernel
theorem dX5_readNumbers_30 : decode cX5_readNumbers 30 = .ok (.iconst 1, 1) := by decide +kernel
theorem dX5_readNumbers_31 : decode cX5_readNumbers 31 = .ok (.bipush 120, 2) := by decide +kernel
theorem dX5_readNumbers_33 : decode cX5_readNumbers 33 = .ok (.invokevirtual 140, 3) := by decide +kernel
theorem dX5_readNumbers_36 : decode cX5_readNumbers 36 = .ok (.putfield 38, 3) := by decide +kernel
theorem dX5_readNumbers_39 : decode cX5_readNumbers 39 = .ok (.goto 26, 3) := by decide +kernel
theorem dX5_readNumbers_42 : decode cX5_readNumbers 42 = .ok (.iload_n 1, 1) := by decide +kernel
theorem dX5_readNumbers_43 : decode cX5_readNumbers 43 = .ok (.iconst 3, 1) := by decide +kernel
theorem dX5_readNumbers_44 : decode cX5_readNumbers 44 = .ok (.if_icmp .eq 21, 3) := by decide +kernel
theorem dX5_readNumbers_47 : decode cX5_readNumbers 47 = .ok (.aload_n 0, 1) := by decide +kernel
theorem dX5_readNumbers_48 : decode cX5_readNumbers 48 = .ok (.aload_n 0, 1) := by decide +kernel
theorem dX5_readNumbers_49 : decode cX5_readNumbers 49 = .ok (.iconst 0, 1) := by decide +kernel
theorem dX5_readNumbers_50 : decode cX5_readNumbers 50 = .ok (.aload_n 0, 1) := by decide +kernel
theorem dX5_readNumbers_51 : decode cX5_readNumbers 51 = .ok (.getfield 59, 3) := by decide +kernel
theorem dX5_readNumbers_54 : decode cX5_readNumbers 54 = .ok (.getfield 148, 3) := by decide +kernel
theorem dX5_readNumbers_57 : decode cX5_readNumbers 57 = .ok (.iconst 1, 1) := by decide +kernel
theorem dX5_readNumbers_58 : decode cX5_readNumbers 58 = .ok (.isub, 1) := by decide +kernel
theorem dX5_readNumbers_59 : decode cX5_readNumbers 59 = .ok (.invokevirtual 140, 3) := by decide +kernel
theorem dX5_readNumbers_62 : decode cX5_readNumbers 62 = .ok (.putfield 32, 3) := by decide +kernel
theorem dX5_readNumbers_65 : decode cX5_readNumbers 65 = .ok (.iload_n 1, 1) := by decide +kernel
theorem dX5_readNumbers_66 : decode cX5_readNumbers 66 = .ok (.bipush 6, 2) := by decide +kernel
theorem dX5_readNumbers_68 : decode cX5_readNumbers 68 = .ok (.if_icmp .ne 18, 3) := by decide +kernel
theorem dX5_readNumbers_71 : decode cX5_readNumbers 71 = .ok (.aload_n 0, 1) := by decide +kernel
theorem dX5_readNumbers_72 : decode cX5_readNumbers 72 = .ok (.aload_n 0, 1) := by decide +kernel
theorem dX5_readNumbers_73 : decode cX5_readNumbers 73 = .ok (.iconst 0, 1) := by decide +kernel
theorem dX5_readNumbers_74 : decode cX5_readNumbers 74 = .ok (.sipush 3000, 3) := by decide +kernel
theorem dX5_readNumbers_77 : decode cX5_readNumbers 77 = .ok (.invokevirtual 140, 3) := by decide +kernel
theorem dX5_readNumbers_80 : decode cX5_readNumbers 80 = .ok (.putfield 35, 3) := by decide +kernel
theorem dX5_readNumbers_83 : decode cX5_readNumbers 83 = .ok (.goto 44, 3) := by decide +kernel
theorem dX5_readNumbers_86 : decode cX5_readNumbers 86 = .ok (.iload_n 1, 1) := by decide +kernel
theorem dX5_readNumbers_87 : decode cX5_readNumbers 87 = .ok (.bipush 7, 2) := by decide +kernel
theorem dX5_readNumbers_89 : decode cX5_readNumbers 89 = .ok (.if_icmp .ne 17, 3) := by decide +kernel
theorem dX5_readNumbers_92 : decode cX5_readNumbers 92 = .ok (.aload_n 0, 1) := by decide +kernel
theorem dX5_readNumbers_93 : decode cX5_readNumbers 93 = .ok (.aload_n 0, 1) := by decide +kernel
theorem dX5_readNumbers_94 : decode cX5_readNumbers 94 = .ok (.iconst 1, 1) := by decide +kernel
theorem dX5_readNumbers_95 : decode cX5_readNumbers 95 = .ok (.bipush 60, 2) := by decide +kernel
theorem dX5_readNumbers_97 : decode cX5_readNumbers 97 = .ok (.invokevirtual 140, 3) := by decide +kernel
theorem dX5_readNumbers_100 : decode cX5_readNumbers 100 = .ok (.putfield 35, 3) := by decide +kernel
theorem dX5_readNumbers_103 : decode cX5_readNumbers 103 = .ok (.goto 24, 3) := by decide +kernel
theorem dX5_readNumbers_106 : decode cX5_readNumbers 106 = .ok (.iload_n 1, 1) := by decide +kernel
theorem dX5_readNumbers_107 : decode cX5_readNumbers 107 = .ok (.iconst 4, 1) := by decide +kernel
theorem dX5_readNumbers_108 : decode cX5_readNumbers 108 = .ok (.if_icmp .ne 19, 3) := by decide +kernel
theorem dX5_readNumbers_111 : decode cX5_readNumbers 111 = .ok (.aload_n 0, 1) := by decide +kernel
theorem dX5_readNumbers_112 : decode cX5_readNumbers 112 = .ok (.aload_n 0, 1) := by decide +kernel
theorem dX5_readNumbers_113 : decode cX5_readNumbers 113 = .ok (.iconst 1, 1) := by decide +kernel
theorem dX5_readNumbers_114 : decode cX5_readNumbers 114 = .ok (.ldc 147, 2) := by decide +kernel
theorem dX5_readNumbers_116 : decode cX5_readNumbers 116 = .ok (.invokevirtual 140, 3) := by decide +kernel
theorem dX5_readNumbers_119 : decode cX5_readNumbers 119 = .ok (.putfield 35, 3) := by decide +kernel
theorem dX5_readNumbers_122 : decode cX5_readNumbers 122 = .ok (.aload_n 0, 1) := by decide +kernel
theorem dX5_readNumbers_123 : decode cX5_readNumbers 123 = .ok (.invokevirtual 151, 3) := by decide +kernel
theorem dX5_readNumbers_126 : decode cX5_readNumbers 126 = .ok (.return_, 1) := by decide +kernel
theorem dX5_readNumbers_127 : decode cX5_readNumbers 127 = .ok (.aload_n 0, 1) := by decide +kernel
theorem dX5_readNumbers_128 : decode cX5_readNumbers 128 = .ok (.bipush 59, 2) := by decide +kernel
theorem dX5_readNumbers_130 : decode cX5_readNumbers 130 = .ok (.invokevirtual 75, 3) := by decide +kernel
theorem dX5_readNumbers_133 : decode cX5_readNumbers 133 = .ok (.return_, 1) := by decide +kernel
set_option maxRecDepth 20000 in
theorem ggX5_readKeep_X6_advance : GoodIn wsX5_readKeep wsX6_advance := goodIn_r _ [8, 9, 10, 11, 12, 13, 14, 15, 7, 16, 17, 18, 19, 20, 21, 22, 23, 24, 25, 26, 27, 28, 29, 30, 31, 32, 115, 116, 117, 118, 119, 120] (by decide +kernel) (by decide +kernel)
set_option maxRecDepth 20000 in
theorem gX5_readKeep_X6_advance : GoodIn wsX5_readKeep (wsV RX5 93 RX6 yX6_advance wsX6_advance) := goodIn_app (goodIn_of _ (by decide +kernel)) ggX5_readKeep_X6_advance
set_option maxRecDepth 20000 in
theorem ggX5_readKeep_X6_isWord : GoodIn wsX5_readKeep wsX6_isWord := goodIn_r _ [36, 12, 9, 11, 37, 38, 39, 40, 41, 42, 43, 44, 45, 46, 47, 48, 13, 14, 15, 7, 16, 10, 17, 49, 50, 51, 52, 53, 54, 55, 56, 57, 58, 59, 60, 61, 62, 63, 64, 65, 66, 67, 68, 69, 70, 71, 72, 73, 74, 75, 76, 77, 78, 79, 80, 81, 82, 83, 84, 85, 115, 116, 117, 118, 119, 120] (by decide +kernel) (by decide +kernel)
set_option maxRecDepth 20000 in
theorem gX5_readKeep_X6_isWord : GoodIn wsX5_readKeep (wsV RX5 98 RX6 yX6_isWord wsX6_isWord) := goodIn_app (goodIn_of _ (by decide +kernel)) ggX5_readKeep_X6_isWord
set_option maxRecDepth 20000 in
theorem ggX5_readKeep_X5_expectSign : GoodIn wsX5_readKeep wsX5_expectSign := goodIn_r _ [90, 1, 2, 4, 5, 6, 7, 8, 9, 10, 11, 12, 13, 14, 15, 16, 17, 18, 19, 20, 21, 22, 23, 24, 25, 26, 27, 28, 29, 30, 31, 32, 91, 92, 93, 94, 95, 96, 97, 89, 98, 99, 100, 101, 102, 103, 104, 105, 106, 107, 108, 109, 110, 111, 112, 113, 114, 115, 116, 117, 118, 119, 120] (by decide +kernel) (by decide +kernel)
set_option maxRecDepth 20000 in
theorem gX5_readKeep_X5_expectSign : GoodIn wsX5_readKeep (wsV RX5 75 RX5 yX5_expectSign wsX5_expectSign) := goodIn_app (goodIn_of _ (by decide +kernel)) ggX5_readKeep_X5_expectSign
set_option maxRecDepth 20000 in
theorem ggX5_readKeep_X6_isSign : GoodIn wsX5_readKeep wsX6_isSign := goodIn_r _ [94, 12, 11, 13, 14, 15, 7, 16, 10, 17, 115, 116, 117, 118, 119, 120] (by decide +kernel) (by decide +kernel)
set_option maxRecDepth 20000 in
theorem gX5_readKeep_X6_isSign : GoodIn wsX5_readKeep (wsV RX5 105 RX6 yX6_isSign wsX6_isSign) := goodIn_app (goodIn_of _ (by decide +kernel)) ggX5_readKeep_X6_isSign
set_option maxRecDepth 20000 in
theorem ggX5_readKeep_X5_fail : GoodIn wsX5_readKeep wsX5_fail := goodIn_r _ [98, 1, 2, 99, 100, 101, 102, 103, 104, 105, 106, 107, 108, 109, 110, 111, 112, 113, 114, 115, 116, 117, 118, 119, 120] (by decide +kernel) (by decide +kernel)
set_option maxRecDepth 20000 in
theorem gX5_readKeep_X5_fail : GoodIn wsX5_readKeep (wsV RX5 102 RX5 yX5_fail wsX5_fail) := goodIn_app (goodIn_of _ (by decide +kernel)) ggX5_readKeep_X5_fail
theorem dX5_readKeep_0 : decode cX5_readKeep 0 = .ok (.aload_n 0, 1) := by decide +kernel
theorem dX5_readKeep_1 : decode cX5_readKeep 1 = .ok (.getfield 44, 3) := by decide +kernel
theorem dX5_readKeep_4 : decode cX5_readKeep 4 = .ok (.ifCond .eq 4, 3) := by decide +kernel
theorem dX5_readKeep_7 : decode cX5_readKeep 7 = .ok (.return_, 1) := by decide +kernel
theorem dX5_readKeep_8 : decode cX5_readKeep 8 = .ok (.aload_n 0, 1) := by decide +kernel
theorem dX5_readKeep_9 : decode cX5_readKeep 9 = .ok (.getfield 55, 3) := by decide +kernel
theorem dX5_readKeep_12 : decode cX5_readKeep 12 = .ok (.invokevirtual 93, 3) := by decide +kernel
theorem dX5_readKeep_15 : decode cX5_readKeep 15 = .ok (.aload_n 0, 1) := by decide +kernel
theorem dX5_readKeep_16 : decode cX5_readKeep 16 = .ok (.aload_n 0, 1) := by decide +kernel
theorem dX5_readKeep_17 : decode cX5_readKeep 17 = .ok (.getfield 55, 3) := by decide +kernel
theorem dX5_readKeep_20 : decode cX5_readKeep 20 = .ok (.ldc 154, 2) := by decide +kernel
theorem dX5_readKeep_22 : decode cX5_readKeep 22 = .ok (.invokevirtual 98, 3) := by decide +kernel
theorem dX5_readKeep_25 : decode cX5_readKeep 25 = .ok (.putfield 41, 3) := by decide +kernel
theorem dX5_readKeep_28 : decode cX5_readKeep 28 = .ok (.aload_n 0, 1) := by decide +kernel
theorem dX5_readKeep_29 : decode cX5_readKeep 29 = .ok (.getfield 41, 3) := by decide +kernel
theorem dX5_readKeep_32 : decode cX5_readKeep 32 = .ok (.ifCond .eq 12, 3) := by decide +kernel
theorem dX5_readKeep_35 : decode cX5_readKeep 35 = .ok (.aload_n 0, 1) := by decide +kernel
theorem dX5_readKeep_36 : decode cX5_readKeep 36 = .ok (.bipush 59, 2) := by decide +kernel
theorem dX5_readKeep_38 : decode cX5_readKeep 38 = .ok (.invokevirtual 75, 3) := by decide +kernel
theorem dX5_readKeep_41 : decode cX5_readKeep 41 = .ok (.goto 20, 3) := by decide +kernel
theorem dX5_readKeep_44 : decode cX5_readKeep 44 = .ok (.aload_n 0, 1) := by decide +kernel
theorem dX5_readKeep_45 : decode cX5_readKeep 45 = .ok (.getfield 55, 3) := by decide +kernel
theorem dX5_readKeep_48 : decode cX5_readKeep 48 = .ok (.bipush 59, 2) := by decide +kernel
theorem dX5_readKeep_50 : decode cX5_readKeep 50 = .ok (.invokevirtual 105, 3) := by decide +kernel
theorem dX5_readKeep_53 : decode cX5_readKeep 53 = .ok (.ifCond .ne 8, 3) := by decide +kernel
theorem dX5_readKeep_56 : decode cX5_readKeep 56 = .ok (.aload_n 0, 1) := by decide +kernel
theorem dX5_readKeep_57 : decode cX5_readKeep 57 = .ok (.iconst 1, 1) := by decide +kernel
theorem dX5_readKeep_58 : decode cX5_readKeep 58 = .ok (.invokevirtual 102, 3) := by decide +kernel
theorem dX5_readKeep_61 : decode cX5_readKeep 61 = .ok (.return_, 1) := by decide +kernel
set_option maxRecDepth 20000 in
theorem ggX5_execute_X3_settleAll : GoodIn wsX5_execute wsX3_settleAll := goodIn_r _ [11, 12, 13, 14, 15, 16, 17, 18, 19, 20, 21, 22, 10, 23, 24, 25, 26, 27, 28, 29, 30, 31, 32, 33, 34, 35, 36, 37, 38, 39, 40, 41, 42, 43, 44, 45, 46, 47, 48, 49, 50, 51, 52, 53, 54, 55, 56, 57, 58, 59, 60, 61, 62, 63, 64, 65, 66, 67, 68, 69, 70, 160, 161, 162, 163, 164, 165, 166, 167, 168, 169, 170, 171, 172, 173, 174, 175, 176, 177] (by decide +kernel) (by decide +kernel)
set_option maxRecDepth 20000 in
theorem gX5_execute_X3_settleAll : GoodIn wsX5_execute (wsV RX5 156 RX3 yX3_settleAll wsX3_settleAll) := goodIn_app (goodIn_of _ (by decide +kernel)) ggX5_execute_X3_settleAll
set_option maxRecDepth 20000 in
theorem ggX5_execute_X3_hasRoom : GoodIn wsX5_execute wsX3_hasRoom := goodIn_r _ [74, 12, 160, 161, 162] (by decide +kernel) (by decide +kernel)
set_option maxRecDepth 20000 in
theorem gX5_execute_X3_hasRoom : GoodIn wsX5_execute (wsV RX5 159 RX3 yX3_hasRoom wsX3_hasRoom) := goodIn_app (goodIn_of _ (by decide +kernel)) ggX5_execute_X3_hasRoom
set_option maxRecDepth 20000 in
theorem ggX5_execute_X3_addLoan : GoodIn wsX5_execute wsX3_addLoan := goodIn_r _ [78, 12, 13, 79, 80, 81, 17, 82, 83, 19, 34, 46, 56, 41, 84, 33, 40, 51, 85, 86, 87, 88, 89, 30, 31, 32, 35, 90, 91, 92, 93, 160, 161, 162, 163, 164, 165, 166, 167, 168, 169, 170, 171, 172] (by decide +kernel) (by decide +kernel)
set_option maxRecDepth 20000 in
theorem gX5_execute_X3_addLoan : GoodIn wsX5_execute (wsV RX5 163 RX3 yX3_addLoan wsX3_addLoan) := goodIn_app (goodIn_of _ (by decide +kernel)) ggX5_execute_X3_addLoan
set_option maxRecDepth 20000 in
theorem ggX5_execute_X3_has : GoodIn wsX5_execute wsX3_has := goodIn_r _ [28, 12, 160, 161, 162] (by decide +kernel) (by decide +kernel)
set_option maxRecDepth 20000 in
theorem gX5_execute_X3_has : GoodIn wsX5_execute (wsV RX5 167 RX3 yX3_has wsX3_has) := goodIn_app (goodIn_of _ (by decide +kernel)) ggX5_execute_X3_has
set_option maxRecDepth 20000 in
theorem ggX5_execute_X5_isPossible : GoodIn wsX5_execute wsX5_isPossible := goodIn_r _ [99, 4, 100, 101, 102, 17, 103, 19, 104, 105, 106, 107, 84, 108, 89, 30, 31, 32, 33, 34, 35, 109, 110, 111, 112, 40, 113, 15, 16, 18, 146, 147, 148, 149, 150, 151, 152, 153, 154, 155, 156, 157, 158, 159, 163, 164, 165, 166, 167, 168, 169, 170, 171, 172] (by decide +kernel) (by decide +kernel)
set_option maxRecDepth 20000 in
theorem gX5_execute_X5_isPossible : GoodIn wsX5_execute (wsV RX5 174 RX5 yX5_isPossible wsX5_isPossible) := goodIn_app (goodIn_of _ (by decide +kernel)) ggX5_execute_X5_isPossible
set_option maxRecDepth 20000 in
theorem ggX5_execute_X5_change : GoodIn wsX5_execute wsX5_change := goodIn_r _ [117, 2, 3, 4, 118, 119, 120, 121, 21, 22, 10, 23, 13, 24, 25, 26, 27, 28, 12, 29, 30, 31, 17, 32, 19, 33, 34, 35, 36, 37, 38, 39, 40, 41, 42, 43, 44, 45, 46, 47, 48, 49, 50, 51, 52, 53, 54, 55, 56, 57, 58, 59, 60, 61, 62, 63, 64, 65, 66, 67, 68, 69, 70, 122, 123, 124, 125, 126, 127, 128, 129, 85, 86, 87, 88, 89, 90, 91, 92, 93, 130, 131, 132, 133, 84, 134, 135, 136, 137, 146, 147, 148, 149, 150, 151, 152, 153, 154, 155, 156, 157, 158, 159, 163, 164, 165, 166, 167, 168, 169, 170, 171, 172, 160, 161, 162, 173, 174, 175, 176, 177] (by decide +kernel) (by decide +kernel)
set_option maxRecDepth 20000 in
theorem gX5_execute_X5_change : GoodIn wsX5_execute (wsV RX5 178 RX5 yX5_change wsX5_change) := goodIn_app (goodIn_of _ (by decide +kernel)) ggX5_execute_X5_change
set_option maxRecDepth 20000 in
theorem ggX5_execute_X5_fail : GoodIn wsX5_execute wsX5_fail := goodIn_r _ [141, 142, 143, 144, 145, 146, 147, 148, 149, 150, 151, 152, 153, 154, 155, 156, 157, 158, 159, 178, 179, 180, 181, 182, 183] (by decide +kernel) (by decide +kernel)
set_option maxRecDepth 20000 in
theorem gX5_execute_X5_fail : GoodIn wsX5_execute (wsV RX5 102 RX5 yX5_fail wsX5_fail) := goodIn_app (goodIn_of _ (by decide +kernel)) ggX5_execute_X5_fail
theorem dX5_execute_0 : decode cX5_execute 0 = .ok (.aload_n 0, 1) := by decide +kernel
theorem dX5_execute_1 : decode cX5_execute 1 = .ok (.dup, 1) := by decide +kernel
theorem dX5_execute_2 : decode cX5_execute 2 = .ok (.getfield 15, 3) := by decide +kernel
theorem dX5_execute_5 : decode cX5_execute 5 = .ok (.iconst 1, 1) := by decide +kernel
theorem dX5_execute_6 : decode cX5_execute 6 = .ok (.iadd, 1) := by decide +kernel
theorem dX5_execute_7 : decode cX5_execute 7 = .ok (.putfield 15, 3) := by decide +kernel
theorem dX5_execute_10 : decode cX5_execute 10 = .ok (.iload_n 1, 1) := by decide +kernel
theorem dX5_execute_11 : decode cX5_execute 11 = .ok (.iconst 3, 1) := by decide +kernel
theorem dX5_execute_12 : decode cX5_execute 12 = .ok (.if_icmp .ne 14, 3) := by decide +kernel
theorem dX5_execute_15 : decode cX5_execute 15 = .ok (.aload_n 0, 1) := by decide +kernel
theorem dX5_execute_16 : decode cX5_execute 16 = .ok (.getfield 59, 3) := by decide +kernel
theorem dX5_execute_19 : decode cX5_execute 19 = .ok (.invokevirtual 156, 3) := by decide +kernel
theorem dX5_execute_22 : decode cX5_execute 22 = .ok (.pop, 1) := by decide +kernel
theorem dX5_execute_23 : decode cX5_execute 23 = .ok (.goto 104, 3) := by decide +kernel
theorem dX5_execute_26 : decode cX5_execute 26 = .ok (.iload_n 1, 1) := by decide +kernel
theorem dX5_execute_27 : decode cX5_execute 27 = .ok (.iconst 1, 1) := by decide +kernel
theorem dX5_execute_28 : decode cX5_execute 28 = .ok (.if_icmp .ne 35, 3) := by decide +kernel
theorem dX5_execute_31 : decode cX5_execute 31 = .ok (.aload_n 0, 1) := by decide +kernel
theorem dX5_execute_32 : decode cX5_execute 32 = .ok (.getfield 59, 3) := by decide +kernel
theorem dX5_execute_35 : decode cX5_execute 35 = .ok (.invokevirtual 159, 3) := by decide +kernel
theorem dX5_execute_38 : decode cX5_execute 38 = .ok (.ifCond .eq 25, 3) := by decide +kernel
theorem dX5_execute_41 : decode cX5_execute 41 = .ok (.aload_n 0, 1) := by decide +kernel
theorem dX5_execute_42 : decode cX5_execute 42 = .ok (.getfield 59, 3) := by decide +kernel
theorem dX5_execute_45 : decode cX5_execute 45 = .ok (.aload_n 0, 1) := by decide +kernel
theorem dX5_execute_46 : decode cX5_execute 46 = .ok (.getfield 32, 3) := by decide +kernel
theorem dX5_execute_49 : decode cX5_execute 49 = .ok (.aload_n 0, 1) := by decide +kernel
theorem dX5_execute_50 : decode cX5_execute 50 = .ok (.getfield 35, 3) := by decide +kernel
theorem dX5_execute_53 : decode cX5_execute 53 = .ok (.aload_n 0, 1) := by decide +kernel
theorem dX5_execute_54 : decode cX5_execute 54 = .ok (.getfield 38, 3) := by decide +kernel
theorem dX5_execute_57 : decode cX5_execute 57 = .ok (.invokevirtual 163, 3) := by decide +kernel
theorem dX5_execute_60 : decode cX5_execute 60 = .ok (.goto 67, 3) := by decide +kernel
theorem dX5_execute_63 : decode cX5_execute 63 = .ok (.iload_n 1, 1) := by decide +kernel
theorem dX5_execute_64 : decode cX5_execute 64 = .ok (.iconst 1, 1) := by decide +kernel
theorem dX5_execute_65 : decode cX5_execute 65 = .ok (.if_icmp .eq 57, 3) := by decide +kernel
theorem dX5_execute_68 : decode cX5_execute 68 = .ok (.aload_n 0, 1) := by decide +kernel
theorem dX5_execute_69 : decode cX5_execute 69 = .ok (.getfield 59, 3) := by decide +kernel
theorem dX5_execute_72 : decode cX5_execute 72 = .ok (.aload_n 0, 1) := by decide +kernel
theorem dX5_execute_73 : decode cX5_execute 73 = .ok (.getfield 32, 3) := by decide +kernel
theorem dX5_execute_76 : decode cX5_execute 76 = .ok (.invokevirtual 167, 3) := by decide +kernel
theorem dX5_execute_79 : decode cX5_execute 79 = .ok (.ifCond .eq 43, 3) := by decide +kernel
theorem dX5_execute_82 : decode cX5_execute 82 = .ok (.aload_n 0, 1) := by decide +kernel
theorem dX5_execute_83 : decode cX5_execute 83 = .ok (.iload_n 1, 1) := by decide +kernel
theorem dX5_execute_84 : decode cX5_execute 84 = .ok (.aload_n 0, 1) := by decide +kernel
theorem dX5_execute_85 : decode cX5_execute 85 = .ok (.getfield 59, 3) := by decide +kernel
theorem dX5_execute_88 : decode cX5_execute 88 = .ok (.getfield 171, 3) := by decide +kernel
theorem dX5_execute_91 : decode cX5_execute 91 = .ok (.aload_n 0, 1) := by decide +kernel
theorem dX5_execute_92 : decode cX5_execute 92 = .ok (.getfield 32, 3) := by decide +kernel
theorem dX5_execute_95 : decode cX5_execute 95 = .ok (.aaload, 1) := by decide +kernel
theorem dX5_execute_96 : decode cX5_execute 96 = .ok (.invokevirtual 174, 3) := by decide +kernel
theorem dX5_execute_99 : decode cX5_execute 99 = .ok (.ifCond .eq 23, 3) := by decide +kernel
theorem dX5_execute_102 : decode cX5_execute 102 = .ok (.aload_n 0, 1) := by decide +kernel
theorem dX5_execute_103 : decode cX5_execute 103 = .ok (.iload_n 1, 1) := by decide +kernel
theorem dX5_execute_104 : decode cX5_execute 104 = .ok (.aload_n 0, 1) := by decide +kernel
theorem dX5_execute_105 : decode cX5_execute 105 = .ok (.getfield 59, 3) := by decide +kernel
theorem dX5_execute_108 : decode cX5_execute 108 = .ok (.getfield 171, 3) := by decide +kernel
theorem dX5_execute_111 : decode cX5_execute 111 = .ok (.aload_n 0, 1) := by decide +kernel
theorem dX5_execute_112 : decode cX5_execute 112 = .ok (.getfield 32, 3) := by decide +kernel
theorem dX5_execute_115 : decode cX5_execute 115 = .ok (.aaload, 1) := by decide +kernel
theorem dX5_execute_116 : decode cX5_execute 116 = .ok (.invokevirtual 178, 3) := by decide +kernel
theorem dX5_execute_119 : decode cX5_execute 119 = .ok (.goto 8, 3) := by decide +kernel
theorem dX5_execute_122 : decode cX5_execute 122 = .ok (.aload_n 0, 1) := by decide +kernel
theorem dX5_execute_123 : decode cX5_execute 123 = .ok (.iconst 3, 1) := by decide +kernel
theorem dX5_execute_124 : decode cX5_execute 124 = .ok (.invokevirtual 102, 3) := by decide +kernel
theorem dX5_execute_127 : decode cX5_execute 127 = .ok (.return_, 1) := by decide +kernel
set_option maxRecDepth 20000 in
theorem ggX5_isPossible_X2_canReduce : GoodIn wsX5_isPossible wsX2_canReduce := goodIn_r _ [6, 7, 44, 45, 46, 47, 48, 49, 50, 51, 52, 53] (by decide +kernel) (by decide +kernel)
set_option maxRecDepth 20000 in
theorem gX5_isPossible_X2_canReduce : GoodIn wsX5_isPossible (wsV RX5 182 RX2 yX2_canReduce wsX2_canReduce) := goodIn_app (goodIn_of _ (by decide +kernel)) ggX5_isPossible_X2_canReduce
set_option maxRecDepth 20000 in
theorem ggX5_isPossible_X2_canDefer : GoodIn wsX5_isPossible wsX2_canDefer := goodIn_r _ [11, 7, 12, 13, 14, 15, 16, 5, 17, 18, 19, 20, 44, 45, 46, 47, 48, 49, 50, 51, 52, 53] (by decide +kernel) (by decide +kernel)
set_option maxRecDepth 20000 in
theorem gX5_isPossible_X2_canDefer : GoodIn wsX5_isPossible (wsV RX5 187 RX2 yX2_canDefer wsX2_canDefer) := goodIn_app (goodIn_of _ (by decide +kernel)) ggX5_isPossible_X2_canDefer
set_option maxRecDepth 20000 in
theorem ggX5_isPossible_X2_canLengthen : GoodIn wsX5_isPossible wsX2_canLengthen := goodIn_r _ [24, 7, 25, 44, 45, 46, 47, 48, 49, 50, 51, 52, 53] (by decide +kernel) (by decide +kernel)
set_option maxRecDepth 20000 in
theorem gX5_isPossible_X2_canLengthen : GoodIn wsX5_isPossible (wsV RX5 190 RX2 yX2_canLengthen wsX2_canLengthen) := goodIn_app (goodIn_of _ (by decide +kernel)) ggX5_isPossible_X2_canLengthen
set_option maxRecDepth 20000 in
theorem ggX5_isPossible_X2_isRunning : GoodIn wsX5_isPossible wsX2_isRunning := goodIn_r _ [29, 7, 44, 45, 46, 47, 48, 49, 50, 51, 52, 53] (by decide +kernel) (by decide +kernel)
set_option maxRecDepth 20000 in
theorem gX5_isPossible_X2_isRunning : GoodIn wsX5_isPossible (wsV RX5 193 RX2 yX2_isRunning wsX2_isRunning) := goodIn_app (goodIn_of _ (by decide +kernel)) ggX5_isPossible_X2_isRunning
theorem dX5_isPossible_0 : decode cX5_isPossible 0 = .ok (.iload_n 1, 1) := by decide +kernel
theorem dX5_isPossible_1 : decode cX5_isPossible 1 = .ok (.tableswitch 54 4 7 #[31, 40, 54, 45], 31) := by decide +kernel
theorem dX5_isPossible_32 : decode cX5_isPossible 32 = .ok (.aload_n 2, 1) := by decide +kernel
theorem dX5_isPossible_33 : decode cX5_isPossible 33 = .ok (.aload_n 0, 1) := by decide +kernel
theorem dX5_isPossible_34 : decode cX5_isPossible 34 = .ok (.getfield 35, 3) := by decide +kernel
theorem dX5_isPossible_37 : decode cX5_isPossible 37 = .ok (.invokevirtual 182, 3) := by decide +kernel
theorem dX5_isPossible_40 : decode cX5_isPossible 40 = .ok (.ireturn, 1) := by decide +kernel
theorem dX5_isPossible_41 : decode cX5_isPossible 41 = .ok (.aload_n 2, 1) := by decide +kernel
theorem dX5_isPossible_42 : decode cX5_isPossible 42 = .ok (.invokevirtual 187, 3) := by decide +kernel
theorem dX5_isPossible_45 : decode cX5_isPossible 45 = .ok (.ireturn, 1) := by decide +kernel
theorem dX5_isPossible_46 : decode cX5_isPossible 46 = .ok (.aload_n 2, 1) := by decide +kernel
theorem dX5_isPossible_47 : decode cX5_isPossible 47 = .ok (.aload_n 0, 1) := by decide +kernel
theorem dX5_isPossible_48 : decode cX5_isPossible 48 = .ok (.getfield 35, 3) := by decide +kernel
theorem dX5_isPossible_51 : decode cX5_isPossible 51 = .ok (.invokevirtual 190, 3) := by decide +kernel
theorem dX5_isPossible_54 : decode cX5_isPossible 54 = .ok (.ireturn, 1) := by decide +kernel
theorem dX5_isPossible_55 : decode cX5_isPossible 55 = .ok (.aload_n 2, 1) := by decide +kernel
theorem dX5_isPossible_56 : decode cX5_isPossible 56 = .ok (.invokevirtual 193, 3) := by decide +kernel
theorem dX5_isPossible_59 : decode cX5_isPossible 59 = .ok (.ireturn, 1) := by decide +kernel
set_option maxRecDepth 20000 in
theorem ggX5_change_X3_settle : GoodIn wsX5_change wsX3_settle := goodIn_r _ [11, 12, 13, 14, 15, 16, 10, 17, 18, 19, 20, 21, 22, 23, 24, 25, 26, 27, 28, 29, 30, 31, 32, 33, 34, 35, 36, 37, 38, 39, 40, 41, 42, 43, 44, 45, 46, 47, 48, 49, 50, 51, 52, 53, 54, 55, 56, 57, 58, 59, 60, 61, 62, 113, 114, 115, 103, 104, 105, 106, 107, 108, 109, 110, 111, 112, 116, 117, 118, 119, 120] (by decide +kernel) (by decide +kernel)
set_option maxRecDepth 20000 in
theorem gX5_change_X3_settle : GoodIn wsX5_change (wsV RX5 196 RX3 yX3_settle wsX3_settle) := goodIn_app (goodIn_of _ (by decide +kernel)) ggX5_change_X3_settle
set_option maxRecDepth 20000 in
theorem ggX5_change_X3_reduce : GoodIn wsX5_change wsX3_reduce := goodIn_r _ [66, 12, 13, 14, 15, 16, 10, 17, 18, 67, 68, 69, 22, 70, 24, 32, 43, 44, 45, 46, 47, 48, 26, 71, 72, 73, 74, 75, 20, 21, 23, 25, 27, 76, 77, 78, 79, 49, 50, 51, 52, 53, 54, 55, 56, 57, 58, 59, 60, 61, 62, 113, 114, 115, 103, 104, 105, 106, 107, 108, 109, 110, 111, 112, 116, 117, 118, 119, 120] (by decide +kernel) (by decide +kernel)
set_option maxRecDepth 20000 in
theorem gX5_change_X3_reduce : GoodIn wsX5_change (wsV RX5 200 RX3 yX3_reduce wsX3_reduce) := goodIn_app (goodIn_of _ (by decide +kernel)) ggX5_change_X3_reduce
set_option maxRecDepth 20000 in
theorem ggX5_change_X2_defer : GoodIn wsX5_change wsX2_defer := goodIn_r _ [83, 84, 32, 43, 34, 35, 36, 22, 37, 24, 25, 26, 27, 38, 71, 72, 73, 74, 75, 20, 21, 23, 76, 77, 78, 79, 103, 104, 105, 106, 107, 108, 109, 110, 111, 112] (by decide +kernel) (by decide +kernel)
set_option maxRecDepth 20000 in
theorem gX5_change_X2_defer : GoodIn wsX5_change (wsV RX5 204 RX2 yX2_defer wsX2_defer) := goodIn_app (goodIn_of _ (by decide +kernel)) ggX5_change_X2_defer
set_option maxRecDepth 20000 in
theorem ggX5_change_X2_setTerms : GoodIn wsX5_change wsX2_setTerms := goodIn_r _ [88, 25, 32, 43, 71, 72, 73, 22, 74, 24, 75, 20, 21, 23, 26, 27, 76, 77, 78, 79, 103, 104, 105, 106, 107, 108, 109, 110, 111, 112] (by decide +kernel) (by decide +kernel)
set_option maxRecDepth 20000 in
theorem gX5_change_X2_setTerms : GoodIn wsX5_change (wsV RX5 210 RX2 yX2_setTerms wsX2_setTerms) := goodIn_app (goodIn_of _ (by decide +kernel)) ggX5_change_X2_setTerms
theorem dX5_change_0 : decode cX5_change 0 = .ok (.iload_n 1, 1) := by decide +kernel
theorem dX5_change_1 : decode cX5_change 1 = .ok (.tableswitch 96 2 6 #[35, 96, 50, 72, 80], 35) := by decide +kernel
theorem dX5_change_36 : decode cX5_change 36 = .ok (.aload_n 0, 1) := by decide +kernel
theorem dX5_change_37 : decode cX5_change 37 = .ok (.getfield 59, 3) := by decide +kernel
theorem dX5_change_40 : decode cX5_change 40 = .ok (.aload_n 0, 1) := by decide +kernel
theorem dX5_change_41 : decode cX5_change 41 = .ok (.getfield 32, 3) := by decide +kernel
theorem dX5_change_44 : decode cX5_change 44 = .ok (.invokevirtual 196, 3) := by decide +kernel
theorem dX5_change_47 : decode cX5_change 47 = .ok (.pop, 1) := by decide +kernel
theorem dX5_change_48 : decode cX5_change 48 = .ok (.goto 67, 3) := by decide +kernel
theorem dX5_change_51 : decode cX5_change 51 = .ok (.aload_n 0, 1) := by decide +kernel
theorem dX5_change_52 : decode cX5_change 52 = .ok (.getfield 59, 3) := by decide +kernel
theorem dX5_change_55 : decode cX5_change 55 = .ok (.aload_n 0, 1) := by decide +kernel
theorem dX5_change_56 : decode cX5_change 56 = .ok (.getfield 32, 3) := by decide +kernel
theorem dX5_change_59 : decode cX5_change 59 = .ok (.aload_n 0, 1) := by decide +kernel
theorem dX5_change_60 : decode cX5_change 60 = .ok (.getfield 35, 3) := by decide +kernel
theorem dX5_change_63 : decode cX5_change 63 = .ok (.aload_n 0, 1) := by decide +kernel
theorem dX5_change_64 : decode cX5_change 64 = .ok (.getfield 41, 3) := by decide +kernel
theorem dX5_change_67 : decode cX5_change 67 = .ok (.invokevirtual 200, 3) := by decide +kernel
theorem dX5_change_70 : decode cX5_change 70 = .ok (.goto 45, 3) := by decide +kernel
theorem dX5_change_73 : decode cX5_change 73 = .ok (.aload_n 2, 1) := by decide +kernel
theorem dX5_change_74 : decode cX5_change 74 = .ok (.invokevirtual 204, 3) := by decide +kernel
theorem dX5_change_77 : decode cX5_change 77 = .ok (.pop, 1) := by decide +kernel
theorem dX5_change_78 : decode cX5_change 78 = .ok (.goto 37, 3) := by decide +kernel
theorem dX5_change_81 : decode cX5_change 81 = .ok (.aload_n 2, 1) := by decide +kernel
theorem dX5_change_82 : decode cX5_change 82 = .ok (.aload_n 0, 1) := by decide +kernel
theorem dX5_change_83 : decode cX5_change 83 = .ok (.getfield 35, 3) := by decide +kernel
theorem dX5_change_86 : decode cX5_change 86 = .ok (.aload_n 2, 1) := by decide +kernel
theorem dX5_change_87 : decode cX5_change 87 = .ok (.getfield 207, 3) := by decide +kernel
theorem dX5_change_90 : decode cX5_change 90 = .ok (.invokevirtual 210, 3) := by decide +kernel
theorem dX5_change_93 : decode cX5_change 93 = .ok (.pop, 1) := by decide +kernel
theorem dX5_change_94 : decode cX5_change 94 = .ok (.goto 21, 3) := by decide +kernel
theorem dX5_change_97 : decode cX5_change 97 = .ok (.aload_n 2, 1) := by decide +kernel
theorem dX5_change_98 : decode cX5_change 98 = .ok (.aload_n 2, 1) := by decide +kernel
theorem dX5_change_99 : decode cX5_change 99 = .ok (.getfield 213, 3) := by decide +kernel
theorem dX5_change_102 : decode cX5_change 102 = .ok (.aload_n 2, 1) := by decide +kernel
theorem dX5_change_103 : decode cX5_change 103 = .ok (.getfield 207, 3) := by decide +kernel
theorem dX5_change_106 : decode cX5_change 106 = .ok (.aload_n 0, 1) := by decide +kernel
theorem dX5_change_107 : decode cX5_change 107 = .ok (.getfield 35, 3) := by decide +kernel
theorem dX5_change_110 : decode cX5_change 110 = .ok (.iadd, 1) := by decide +kernel
theorem dX5_change_111 : decode cX5_change 111 = .ok (.invokevirtual 210, 3) := by decide +kernel
theorem dX5_change_114 : decode cX5_change 114 = .ok (.pop, 1) := by decide +kernel
theorem dX5_change_115 : decode cX5_change 115 = .ok (.return_, 1) := by decide +kernel
theorem dX6_init_0 : decode cX6_init 0 = .ok (.aload_n 0, 1) := by decide +kernel
theorem dX6_init_1 : decode cX6_init 1 = .ok (.invokespecial 3, 3) := by decide +kernel
theorem dX6_init_4 : decode cX6_init 4 = .ok (.aload_n 0, 1) := by decide +kernel
theorem dX6_init_5 : decode cX6_init 5 = .ok (.iconst 0, 1) := by decide +kernel
theorem dX6_init_6 : decode cX6_init 6 = .ok (.putfield 9, 3) := by decide +kernel
theorem dX6_init_9 : decode cX6_init 9 = .ok (.aload_n 0, 1) := by decide +kernel
theorem dX6_init_10 : decode cX6_init 10 = .ok (.iconst 0, 1) := by decide +kernel
theorem dX6_init_11 : decode cX6_init 11 = .ok (.putfield 15, 3) := by decide +kernel
theorem dX6_init_14 : decode cX6_init 14 = .ok (.aload_n 0, 1) := by decide +kernel
theorem dX6_init_15 : decode cX6_init 15 = .ok (.iconst 0, 1) := by decide +kernel
theorem dX6_init_16 : decode cX6_init 16 = .ok (.putfield 18, 3) := by decide +kernel
theorem dX6_init_19 : decode cX6_init 19 = .ok (.aload_n 0, 1) := by decide +kernel
theorem dX6_init_20 : decode cX6_init 20 = .ok (.iconst 0, 1) := by decide +kernel
theorem dX6_init_21 : decode cX6_init 21 = .ok (.putfield 21, 3) := by decide +kernel
theorem dX6_init_24 : decode cX6_init 24 = .ok (.aload_n 0, 1) := by decide +kernel
theorem dX6_init_25 : decode cX6_init 25 = .ok (.iconst 0, 1) := by decide +kernel
theorem dX6_init_26 : decode cX6_init 26 = .ok (.putfield 24, 3) := by decide +kernel
theorem dX6_init_29 : decode cX6_init 29 = .ok (.aload_n 0, 1) := by decide +kernel
theorem dX6_init_30 : decode cX6_init 30 = .ok (.aload_n 1, 1) := by decide +kernel
theorem dX6_init_31 : decode cX6_init 31 = .ok (.putfield 27, 3) := by decide +kernel
theorem dX6_init_34 : decode cX6_init 34 = .ok (.return_, 1) := by decide +kernel
theorem dX6_rewind_0 : decode cX6_rewind 0 = .ok (.aload_n 0, 1) := by decide +kernel
theorem dX6_rewind_1 : decode cX6_rewind 1 = .ok (.iload_n 1, 1) := by decide +kernel
theorem dX6_rewind_2 : decode cX6_rewind 2 = .ok (.aload_n 0, 1) := by decide +kernel
theorem dX6_rewind_3 : decode cX6_rewind 3 = .ok (.getfield 27, 3) := by decide +kernel
theorem dX6_rewind_6 : decode cX6_rewind 6 = .ok (.arraylength, 1) := by decide +kernel
theorem dX6_rewind_7 : decode cX6_rewind 7 = .ok (.invokestatic 31, 3) := by decide +kernel
theorem dX6_rewind_10 : decode cX6_rewind 10 = .ok (.putfield 9, 3) := by decide +kernel
theorem dX6_rewind_13 : decode cX6_rewind 13 = .ok (.aload_n 0, 1) := by decide +kernel
theorem dX6_rewind_14 : decode cX6_rewind 14 = .ok (.iconst 0, 1) := by decide +kernel
theorem dX6_rewind_15 : decode cX6_rewind 15 = .ok (.putfield 15, 3) := by decide +kernel
theorem dX6_rewind_18 : decode cX6_rewind 18 = .ok (.return_, 1) := by decide +kernel
set_option maxRecDepth 20000 in
theorem ggX6_advance_X6_byteAt : GoodIn wsX6_advance wsX6_byteAt := goodIn_r _ [9, 2, 10, 26, 27, 28, 29, 30, 31] (by decide +kernel) (by decide +kernel)
set_option maxRecDepth 20000 in
theorem gX6_advance_X6_byteAt : GoodIn wsX6_advance (wsV RX6 37 RX6 yX6_byteAt wsX6_byteAt) := goodIn_app (goodIn_of _ (by decide +kernel)) ggX6_advance_X6_byteAt
set_option maxRecDepth 20000 in
theorem ggX6_advance_X6_isLetter : GoodIn wsX6_advance wsX6_isLetter := goodIn_r _ [13] (by decide +kernel) (by decide +kernel)
set_option maxRecDepth 20000 in
theorem gX6_advance_X6_isLetter : GoodIn wsX6_advance (va_wsS RX6 41 yX6_isLetter wsX6_isLetter) := goodIn_app (goodIn_of _ (by decide +kernel)) ggX6_advance_X6_isLetter
set_option maxRecDepth 20000 in
theorem ggX6_advance_X6_readWord : GoodIn wsX6_advance wsX6_readWord := goodIn_r _ [17, 4, 1, 2, 5, 6, 7, 8, 9, 10, 11, 12, 13, 26, 27, 28, 29, 30, 31] (by decide +kernel) (by decide +kernel)
set_option maxRecDepth 20000 in
theorem gX6_advance_X6_readWord : GoodIn wsX6_advance (wsV RX6 45 RX6 yX6_readWord wsX6_readWord) := goodIn_app (goodIn_of _ (by decide +kernel)) ggX6_advance_X6_readWord
set_option maxRecDepth 20000 in
theorem ggX6_advance_X6_isDigit : GoodIn wsX6_advance wsX6_isDigit := goodIn_r _ [20] (by decide +kernel) (by decide +kernel)
set_option maxRecDepth 20000 in
theorem gX6_advance_X6_isDigit : GoodIn wsX6_advance (va_wsS RX6 48 yX6_isDigit wsX6_isDigit) := goodIn_app (goodIn_of _ (by decide +kernel)) ggX6_advance_X6_isDigit
set_option maxRecDepth 20000 in
theorem ggX6_advance_X6_readDigits : GoodIn wsX6_advance wsX6_readDigits := goodIn_r _ [24, 25, 1, 2, 3, 4, 5, 6, 7, 8, 9, 10, 18, 19, 20, 26, 27, 28, 29, 30, 31] (by decide +kernel) (by decide +kernel)
set_option maxRecDepth 20000 in
theorem gX6_advance_X6_readDigits : GoodIn wsX6_advance (wsV RX6 51 RX6 yX6_readDigits wsX6_readDigits) := goodIn_app (goodIn_of _ (by decide +kernel)) ggX6_advance_X6_readDigits
theorem dX6_advance_0 : decode cX6_advance 0 = .ok (.aload_n 0, 1) := by decide +kernel
theorem dX6_advance_1 : decode cX6_advance 1 = .ok (.getfield 15, 3) := by decide +kernel
theorem dX6_advance_4 : decode cX6_advance 4 = .ok (.aload_n 0, 1) := by decide +kernel
theorem dX6_advance_5 : decode cX6_advance 5 = .ok (.getfield 9, 3) := by decide +kernel
theorem dX6_advance_8 : decode cX6_advance 8 = .ok (.if_icmp .ge 42, 3) := by decide +kernel
theorem dX6_advance_11 : decode cX6_advance 11 = .ok (.aload_n 0, 1) := by decide +kernel
theorem dX6_advance_12 : decode cX6_advance 12 = .ok (.aload_n 0, 1) := by decide +kernel
theorem dX6_advance_13 : decode cX6_advance 13 = .ok (.getfield 15, 3) := by decide +kernel
theorem dX6_advance_16 : decode cX6_advance 16 = .ok (.invokevirtual 37, 3) := by decide +kernel
theorem dX6_advance_19 : decode cX6_advance 19 = .ok (.bipush 32, 2) := by decide +kernel
theorem dX6_advance_21 : decode cX6_advance 21 = .ok (.if_icmp .eq 16, 3) := by decide +kernel
theorem dX6_advance_24 : decode cX6_advance 24 = .ok (.aload_n 0, 1) := by decide +kernel
theorem dX6_advance_25 : decode cX6_advance 25 = .ok (.aload_n 0, 1) := by decide +kernel
theorem dX6_advance_26 : decode cX6_advance 26 = .ok (.getfield 15, 3) := by decide +kernel
theorem dX6_advance_29 : decode cX6_advance 29 = .ok (.invokevirtual 37, 3) := by decide +kernel
theorem dX6_advance_32 : decode cX6_advance 32 = .ok (.bipush 10, 2) := by decide +kernel
theorem dX6_advance_34 : decode cX6_advance 34 = .ok (.if_icmp .ne 16, 3) := by decide +kernel
theorem dX6_advance_37 : decode cX6_advance 37 = .ok (.aload_n 0, 1) := by decide +kernel
theorem dX6_advance_38 : decode cX6_advance 38 = .ok (.dup, 1) := by decide +kernel
theorem dX6_advance_39 : decode cX6_advance 39 = .ok (.getfield 15, 3) := by decide +kernel
theorem dX6_advance_42 : decode cX6_advance 42 = .ok (.iconst 1, 1) := by decide +kernel
theorem dX6_advance_43 : decode cX6_advance 43 = .ok (.iadd, 1) := by decide +kernel
theorem dX6_advance_44 : decode cX6_advance 44 = .ok (.putfield 15, 3) := by decide +kernel
theorem dX6_advance_47 : decode cX6_advance 47 = .ok (.goto (-47), 3) := by decide +kernel
theorem dX6_advance_50 : decode cX6_advance 50 = .ok (.aload_n 0, 1) := by decide +kernel
theorem dX6_advance_51 : decode cX6_advance 51 = .ok (.aload_n 0, 1) := by decide +kernel
theorem dX6_advance_52 : decode cX6_advance 52 = .ok (.getfield 15, 3) := by decide +kernel
theorem dX6_advance_55 : decode cX6_advance 55 = .ok (.putfield 18, 3) := by decide +kernel
theorem dX6_advance_58 : decode cX6_advance 58 = .ok (.aload_n 0, 1) := by decide +kernel
theorem dX6_advance_59 : decode cX6_advance 59 = .ok (.aload_n 0, 1) := by decide +kernel
theorem dX6_advance_60 : decode cX6_advance 60 = .ok (.getfield 18, 3) := by decide +kernel
theorem dX6_advance_63 : decode cX6_advance 63 = .ok (.invokevirtual 37, 3) := by decide +kernel
theorem dX6_advance_66 : decode cX6_advance 66 = .ok (.istore_n 1, 1) := by decide +kernel
theorem dX6_advance_67 : decode cX6_advance 67 = .ok (.aload_n 0, 1) := by decide +kernel
theorem dX6_advance_68 : decode cX6_advance 68 = .ok (.getfield 18, 3) := by decide +kernel
theorem dX6_advance_71 : decode cX6_advance 71 = .ok (.aload_n 0, 1) := by decide +kernel
theorem dX6_advance_72 : decode cX6_advance 72 = .ok (.getfield 9, 3) := by decide +kernel
theorem dX6_advance_75 : decode cX6_advance 75 = .ok (.if_icmp .lt 11, 3) := by decide +kernel
theorem dX6_advance_78 : decode cX6_advance 78 = .ok (.aload_n 0, 1) := by decide +kernel
theorem dX6_advance_79 : decode cX6_advance 79 = .ok (.iconst 0, 1) := by decide +kernel
theorem dX6_advance_80 : decode cX6_advance 80 = .ok (.putfield 21, 3) := by decide +kernel
theorem dX6_advance_83 : decode cX6_advance 83 = .ok (.goto 68, 3) := by decide +kernel
theorem dX6_advance_86 : decode cX6_advance 86 = .ok (.iload_n 1, 1) := by decide +kernel
theorem dX6_advance_87 : decode cX6_advance 87 = .ok (.invokestatic 41, 3) := by decide +kernel
theorem dX6_advance_90 : decode cX6_advance 90 = .ok (.ifCond .eq 10, 3) := by decide +kernel
theorem dX6_advance_93 : decode cX6_advance 93 = .ok (.aload_n 0, 1) := by decide +kernel
theorem dX6_advance_94 : decode cX6_advance 94 = .ok (.invokevirtual 45, 3) := by decide +kernel
theorem dX6_advance_97 : decode cX6_advance 97 = .ok (.goto 54, 3) := by decide +kernel
theorem dX6_advance_100 : decode cX6_advance 100 = .ok (.iload_n 1, 1) := by decide +kernel
theorem dX6_advance_101 : decode cX6_advance 101 = .ok (.invokestatic 48, 3) := by decide +kernel
theorem dX6_advance_104 : decode cX6_advance 104 = .ok (.ifCond .eq 10, 3) := by decide +kernel
theorem dX6_advance_107 : decode cX6_advance 107 = .ok (.aload_n 0, 1) := by decide +kernel
theorem dX6_advance_108 : decode cX6_advance 108 = .ok (.invokevirtual 51, 3) := by decide +kernel
theorem dX6_advance_111 : decode cX6_advance 111 = .ok (.goto 40, 3) := by decide +kernel
theorem dX6_advance_114 : decode cX6_advance 114 = .ok (.aload_n 0, 1) := by decide +kernel
theorem dX6_advance_115 : decode cX6_advance 115 = .ok (.iload_n 1, 1) := by decide +kernel
theorem dX6_advance_116 : decode cX6_advance 116 = .ok (.bipush 40, 2) := by decide +kernel
theorem dX6_advance_118 : decode cX6_advance 118 = .ok (.if_icmp .eq 15, 3) := by decide +kernel
theorem dX6_advance_121 : decode cX6_advance 121 = .ok (.iload_n 1, 1) := by decide +kernel
theorem dX6_advance_122 : decode cX6_advance 122 = .ok (.bipush 41, 2) := by decide +kernel
theorem dX6_advance_124 : decode cX6_advance 124 = .ok (.if_icmp .eq 9, 3) := by decide +kernel
theorem dX6_advance_127 : decode cX6_advance 127 = .ok (.iload_n 1, 1) := by decide +kernel
theorem dX6_advance_128 : decode cX6_advance 128 = .ok (.bipush 59, 2) := by decide +kernel
theorem dX6_advance_130 : decode cX6_advance 130 = .ok (.if_icmp .ne 7, 3) := by decide +kernel
theorem dX6_advance_133 : decode cX6_advance 133 = .ok (.iconst 3, 1) := by decide +kernel
theorem dX6_advance_134 : decode cX6_advance 134 = .ok (.goto 4, 3) := by decide +kernel
theorem dX6_advance_137 : decode cX6_advance 137 = .ok (.iconst 4, 1) := by decide +kernel
theorem dX6_advance_138 : decode cX6_advance 138 = .ok (.putfield 21, 3) := by decide +kernel
theorem dX6_advance_141 : decode cX6_advance 141 = .ok (.aload_n 0, 1) := by decide +kernel
theorem dX6_advance_142 : decode cX6_advance 142 = .ok (.dup, 1) := by decide +kernel
theorem dX6_advance_143 : decode cX6_advance 143 = .ok (.getfield 15, 3) := by decide +kernel
theorem dX6_advance_146 : decode cX6_advance 146 = .ok (.iconst 1, 1) := by decide +kernel
theorem dX6_advance_147 : decode cX6_advance 147 = .ok (.iadd, 1) := by decide +kernel
theorem dX6_advance_148 : decode cX6_advance 148 = .ok (.putfield 15, 3) := by decide +kernel
theorem dX6_advance_151 : decode cX6_advance 151 = .ok (.return_, 1) := by decide +kernel
set_option maxRecDepth 20000 in
theorem ggX6_isSign_X6_byteAt : GoodIn wsX6_isSign wsX6_byteAt := goodIn_r _ [7, 8, 9, 10, 11, 12, 13, 14, 15] (by decide +kernel) (by decide +kernel)
set_option maxRecDepth 20000 in
theorem gX6_isSign_X6_byteAt : GoodIn wsX6_isSign (wsV RX6 37 RX6 yX6_byteAt wsX6_byteAt) := goodIn_app (goodIn_of _ (by decide +kernel)) ggX6_isSign_X6_byteAt
theorem dX6_isSign_0 : decode cX6_isSign 0 = .ok (.aload_n 0, 1) := by decide +kernel
theorem dX6_isSign_1 : decode cX6_isSign 1 = .ok (.getfield 21, 3) := by decide +kernel
theorem dX6_isSign_4 : decode cX6_isSign 4 = .ok (.iconst 3, 1) := by decide +kernel
theorem dX6_isSign_5 : decode cX6_isSign 5 = .ok (.if_icmp .ne 19, 3) := by decide +kernel
theorem dX6_isSign_8 : decode cX6_isSign 8 = .ok (.aload_n 0, 1) := by decide +kernel
theorem dX6_isSign_9 : decode cX6_isSign 9 = .ok (.aload_n 0, 1) := by decide +kernel
theorem dX6_isSign_10 : decode cX6_isSign 10 = .ok (.getfield 18, 3) := by decide +kernel
theorem dX6_isSign_13 : decode cX6_isSign 13 = .ok (.invokevirtual 37, 3) := by decide +kernel
theorem dX6_isSign_16 : decode cX6_isSign 16 = .ok (.iload_n 1, 1) := by decide +kernel
theorem dX6_isSign_17 : decode cX6_isSign 17 = .ok (.if_icmp .ne 7, 3) := by decide +kernel
theorem dX6_isSign_20 : decode cX6_isSign 20 = .ok (.iconst 1, 1) := by decide +kernel
theorem dX6_isSign_21 : decode cX6_isSign 21 = .ok (.goto 4, 3) := by decide +kernel
theorem dX6_isSign_24 : decode cX6_isSign 24 = .ok (.iconst 0, 1) := by decide +kernel
theorem dX6_isSign_25 : decode cX6_isSign 25 = .ok (.ireturn, 1) := by decide +kernel
set_option maxRecDepth 20000 in
theorem ggX6_isWord_J0_length_8abf5 : GoodIn wsX6_isWord wsJ0_length_8abf5 := goodIn_r _ [8, 9, 10, 11, 12, 7, 13, 14, 15] (by decide +kernel) (by decide +kernel)
set_option maxRecDepth 20000 in
theorem gX6_isWord_J0_length_8abf5 : GoodIn wsX6_isWord (wsV RX6 54 RJ0 yJ0_length_8abf5 wsJ0_length_8abf5) := goodIn_app (goodIn_of _ (by decide +kernel)) ggX6_isWord_J0_length_8abf5
set_option maxRecDepth 20000 in
theorem ggX6_isWord_X6_byteAt : GoodIn wsX6_isWord wsX6_byteAt := goodIn_r _ [20, 21, 22, 60, 61, 62, 63, 64, 65] (by decide +kernel) (by decide +kernel)
set_option maxRecDepth 20000 in
theorem gX6_isWord_X6_byteAt : GoodIn wsX6_isWord (wsV RX6 37 RX6 yX6_byteAt wsX6_byteAt) := goodIn_app (goodIn_of _ (by decide +kernel)) ggX6_isWord_X6_byteAt
set_option maxRecDepth 20000 in
theorem ggX6_isWord_J0_charAt_5068e : GoodIn wsX6_isWord wsJ0_charAt_5068e := goodIn_r _ [26, 9, 27, 28, 29, 7, 30, 14, 15, 31, 32, 33, 34, 35, 36, 37, 38, 39, 40, 41, 42, 43, 44, 45, 46, 47, 48, 49, 50, 51, 52, 53, 54, 55, 56, 57, 58, 59] (by decide +kernel) (by decide +kernel)
set_option maxRecDepth 20000 in
theorem gX6_isWord_J0_charAt_5068e : GoodIn wsX6_isWord (wsV RX6 59 RJ0 yJ0_charAt_5068e wsJ0_charAt_5068e) := goodIn_app (goodIn_of _ (by decide +kernel)) ggX6_isWord_J0_charAt_5068e
theorem dX6_isWord_0 : decode cX6_isWord 0 = .ok (.aload_n 0, 1) := by decide +kernel
theorem dX6_isWord_1 : decode cX6_isWord 1 = .ok (.getfield 21, 3) := by decide +kernel
theorem dX6_isWord_4 : decode cX6_isWord 4 = .ok (.iconst 1, 1) := by decide +kernel
theorem dX6_isWord_5 : decode cX6_isWord 5 = .ok (.if_icmp .ne 19, 3) := by decide +kernel
theorem dX6_isWord_8 : decode cX6_isWord 8 = .ok (.aload_n 0, 1) := by decide +kernel
theorem dX6_isWord_9 : decode cX6_isWord 9 = .ok (.getfield 15, 3) := by decide +kernel
theorem dX6_isWord_12 : decode cX6_isWord 12 = .ok (.aload_n 0, 1) := by decide +kernel
theorem dX6_isWord_13 : decode cX6_isWord 13 = .ok (.getfield 18, 3) := by decide +kernel
theorem dX6_isWord_16 : decode cX6_isWord 16 = .ok (.isub, 1) := by decide +kernel
theorem dX6_isWord_17 : decode cX6_isWord 17 = .ok (.aload_n 1, 1) := by decide +kernel
theorem dX6_isWord_18 : decode cX6_isWord 18 = .ok (.invokevirtual 54, 3) := by decide +kernel
theorem dX6_isWord_21 : decode cX6_isWord 21 = .ok (.if_icmp .eq 5, 3) := by decide +kernel
theorem dX6_isWord_24 : decode cX6_isWord 24 = .ok (.iconst 0, 1) := by decide +kernel
theorem dX6_isWord_25 : decode cX6_isWord 25 = .ok (.ireturn, 1) := by decide +kernel
theorem dX6_isWord_26 : decode cX6_isWord 26 = .ok (.iconst 0, 1) := by decide +kernel
theorem dX6_isWord_27 : decode cX6_isWord 27 = .ok (.istore_n 2, 1) := by decide +kernel
theorem dX6_isWord_28 : decode cX6_isWord 28 = .ok (.iload_n 2, 1) := by decide +kernel
theorem dX6_isWord_29 : decode cX6_isWord 29 = .ok (.aload_n 1, 1) := by decide +kernel
theorem dX6_isWord_30 : decode cX6_isWord 30 = .ok (.invokevirtual 54, 3) := by decide +kernel
theorem dX6_isWord_33 : decode cX6_isWord 33 = .ok (.if_icmp .ge 29, 3) := by decide +kernel
theorem dX6_isWord_36 : decode cX6_isWord 36 = .ok (.aload_n 0, 1) := by decide +kernel
theorem dX6_isWord_37 : decode cX6_isWord 37 = .ok (.aload_n 0, 1) := by decide +kernel
theorem dX6_isWord_38 : decode cX6_isWord 38 = .ok (.getfield 18, 3) := by decide +kernel
theorem dX6_isWord_41 : decode cX6_isWord 41 = .ok (.iload_n 2, 1) := by decide +kernel
theorem dX6_isWord_42 : decode cX6_isWord 42 = .ok (.iadd, 1) := by decide +kernel
theorem dX6_isWord_43 : decode cX6_isWord 43 = .ok (.invokevirtual 37, 3) := by decide +kernel
theorem dX6_isWord_46 : decode cX6_isWord 46 = .ok (.aload_n 1, 1) := by decide +kernel
theorem dX6_isWord_47 : decode cX6_isWord 47 = .ok (.iload_n 2, 1) := by decide +kernel
theorem dX6_isWord_48 : decode cX6_isWord 48 = .ok (.invokevirtual 59, 3) := by decide +kernel
theorem dX6_isWord_51 : decode cX6_isWord 51 = .ok (.if_icmp .eq 5, 3) := by decide +kernel
theorem dX6_isWord_54 : decode cX6_isWord 54 = .ok (.iconst 0, 1) := by decide +kernel
theorem dX6_isWord_55 : decode cX6_isWord 55 = .ok (.ireturn, 1) := by decide +kernel
theorem dX6_isWord_56 : decode cX6_isWord 56 = .ok (.iinc 2 1, 3) := by decide +kernel
theorem dX6_isWord_59 : decode cX6_isWord 59 = .ok (.goto (-31), 3) := by decide +kernel
theorem dX6_isWord_62 : decode cX6_isWord 62 = .ok (.iconst 1, 1) := by decide +kernel
theorem dX6_isWord_63 : decode cX6_isWord 63 = .ok (.ireturn, 1) := by decide +kernel
set_option maxRecDepth 20000 in
theorem ggX6_readWord_X6_byteAt : GoodIn wsX6_readWord wsX6_byteAt := goodIn_r _ [8, 3, 9, 13, 14, 15, 16, 17, 18] (by decide +kernel) (by decide +kernel)
set_option maxRecDepth 20000 in
theorem gX6_readWord_X6_byteAt : GoodIn wsX6_readWord (wsV RX6 37 RX6 yX6_byteAt wsX6_byteAt) := goodIn_app (goodIn_of _ (by decide +kernel)) ggX6_readWord_X6_byteAt
set_option maxRecDepth 20000 in
theorem ggX6_readWord_X6_isLetter : GoodIn wsX6_readWord wsX6_isLetter := goodIn_r _ [12] (by decide +kernel) (by decide +kernel)
set_option maxRecDepth 20000 in
theorem gX6_readWord_X6_isLetter : GoodIn wsX6_readWord (va_wsS RX6 41 yX6_isLetter wsX6_isLetter) := goodIn_app (goodIn_of _ (by decide +kernel)) ggX6_readWord_X6_isLetter
theorem dX6_readWord_0 : decode cX6_readWord 0 = .ok (.aload_n 0, 1) := by decide +kernel
theorem dX6_readWord_1 : decode cX6_readWord 1 = .ok (.iconst 1, 1) := by decide +kernel
theorem dX6_readWord_2 : decode cX6_readWord 2 = .ok (.putfield 21, 3) := by decide +kernel
theorem dX6_readWord_5 : decode cX6_readWord 5 = .ok (.aload_n 0, 1) := by decide +kernel
theorem dX6_readWord_6 : decode cX6_readWord 6 = .ok (.getfield 15, 3) := by decide +kernel
theorem dX6_readWord_9 : decode cX6_readWord 9 = .ok (.aload_n 0, 1) := by decide +kernel
theorem dX6_readWord_10 : decode cX6_readWord 10 = .ok (.getfield 9, 3) := by decide +kernel
theorem dX6_readWord_13 : decode cX6_readWord 13 = .ok (.if_icmp .ge 30, 3) := by decide +kernel
theorem dX6_readWord_16 : decode cX6_readWord 16 = .ok (.aload_n 0, 1) := by decide +kernel
theorem dX6_readWord_17 : decode cX6_readWord 17 = .ok (.aload_n 0, 1) := by decide +kernel
theorem dX6_readWord_18 : decode cX6_readWord 18 = .ok (.getfield 15, 3) := by decide +kernel
theorem dX6_readWord_21 : decode cX6_readWord 21 = .ok (.invokevirtual 37, 3) := by decide +kernel
theorem dX6_readWord_24 : decode cX6_readWord 24 = .ok (.invokestatic 41, 3) := by decide +kernel
theorem dX6_readWord_27 : decode cX6_readWord 27 = .ok (.ifCond .eq 16, 3) := by decide +kernel
theorem dX6_readWord_30 : decode cX6_readWord 30 = .ok (.aload_n 0, 1) := by decide +kernel
theorem dX6_readWord_31 : decode cX6_readWord 31 = .ok (.dup, 1) := by decide +kernel
theorem dX6_readWord_32 : decode cX6_readWord 32 = .ok (.getfield 15, 3) := by decide +kernel
theorem dX6_readWord_35 : decode cX6_readWord 35 = .ok (.iconst 1, 1) := by decide +kernel
theorem dX6_readWord_36 : decode cX6_readWord 36 = .ok (.iadd, 1) := by decide +kernel
theorem dX6_readWord_37 : decode cX6_readWord 37 = .ok (.putfield 15, 3) := by decide +kernel
theorem dX6_readWord_40 : decode cX6_readWord 40 = .ok (.goto (-35), 3) := by decide +kernel
theorem dX6_readWord_43 : decode cX6_readWord 43 = .ok (.return_, 1) := by decide +kernel
set_option maxRecDepth 20000 in
theorem ggX6_readDigits_X6_byteAt : GoodIn wsX6_readDigits wsX6_byteAt := goodIn_r _ [10, 3, 11, 15, 16, 17, 18, 19, 20] (by decide +kernel) (by decide +kernel)
set_option maxRecDepth 20000 in
theorem gX6_readDigits_X6_byteAt : GoodIn wsX6_readDigits (wsV RX6 37 RX6 yX6_byteAt wsX6_byteAt) := goodIn_app (goodIn_of _ (by decide +kernel)) ggX6_readDigits_X6_byteAt
set_option maxRecDepth 20000 in
theorem ggX6_readDigits_X6_isDigit : GoodIn wsX6_readDigits wsX6_isDigit := goodIn_r _ [14] (by decide +kernel) (by decide +kernel)
set_option maxRecDepth 20000 in
theorem gX6_readDigits_X6_isDigit : GoodIn wsX6_readDigits (va_wsS RX6 48 yX6_isDigit wsX6_isDigit) := goodIn_app (goodIn_of _ (by decide +kernel)) ggX6_readDigits_X6_isDigit
theorem dX6_readDigits_0 : decode cX6_readDigits 0 = .ok (.aload_n 0, 1) := by decide +kernel
theorem dX6_readDigits_1 : decode cX6_readDigits 1 = .ok (.iconst 0, 1) := by decide +kernel
theorem dX6_readDigits_2 : decode cX6_readDigits 2 = .ok (.putfield 24, 3) := by decide +kernel
theorem dX6_readDigits_5 : decode cX6_readDigits 5 = .ok (.aload_n 0, 1) := by decide +kernel
theorem dX6_readDigits_6 : decode cX6_readDigits 6 = .ok (.getfield 15, 3) := by decide +kernel
theorem dX6_readDigits_9 : decode cX6_readDigits 9 = .ok (.aload_n 0, 1) := by decide +kernel
theorem dX6_readDigits_10 : decode cX6_readDigits 10 = .ok (.getfield 9, 3) := by decide +kernel
theorem dX6_readDigits_13 : decode cX6_readDigits 13 = .ok (.if_icmp .ge 67, 3) := by decide +kernel
theorem dX6_readDigits_16 : decode cX6_readDigits 16 = .ok (.aload_n 0, 1) := by decide +kernel
theorem dX6_readDigits_17 : decode cX6_readDigits 17 = .ok (.aload_n 0, 1) := by decide +kernel
theorem dX6_readDigits_18 : decode cX6_readDigits 18 = .ok (.getfield 15, 3) := by decide +kernel
theorem dX6_readDigits_21 : decode cX6_readDigits 21 = .ok (.invokevirtual 37, 3) := by decide +kernel
theorem dX6_readDigits_24 : decode cX6_readDigits 24 = .ok (.invokestatic 48, 3) := by decide +kernel
theorem dX6_readDigits_27 : decode cX6_readDigits 27 = .ok (.ifCond .eq 53, 3) := by decide +kernel
theorem dX6_readDigits_30 : decode cX6_readDigits 30 = .ok (.aload_n 0, 1) := by decide +kernel
theorem dX6_readDigits_31 : decode cX6_readDigits 31 = .ok (.getfield 15, 3) := by decide +kernel
theorem dX6_readDigits_34 : decode cX6_readDigits 34 = .ok (.aload_n 0, 1) := by decide +kernel
theorem dX6_readDigits_35 : decode cX6_readDigits 35 = .ok (.getfield 18, 3) := by decide +kernel
theorem dX6_readDigits_38 : decode cX6_readDigits 38 = .ok (.isub, 1) := by decide +kernel
theorem dX6_readDigits_39 : decode cX6_readDigits 39 = .ok (.bipush 7, 2) := by decide +kernel
theorem dX6_readDigits_41 : decode cX6_readDigits 41 = .ok (.if_icmp .ge 26, 3) := by decide +kernel
theorem dX6_readDigits_44 : decode cX6_readDigits 44 = .ok (.aload_n 0, 1) := by decide +kernel
theorem dX6_readDigits_45 : decode cX6_readDigits 45 = .ok (.aload_n 0, 1) := by decide +kernel
theorem dX6_readDigits_46 : decode cX6_readDigits 46 = .ok (.getfield 24, 3) := by decide +kernel
theorem dX6_readDigits_49 : decode cX6_readDigits 49 = .ok (.bipush 10, 2) := by decide +kernel
theorem dX6_readDigits_51 : decode cX6_readDigits 51 = .ok (.imul, 1) := by decide +kernel
theorem dX6_readDigits_52 : decode cX6_readDigits 52 = .ok (.aload_n 0, 1) := by decide +kernel
theorem dX6_readDigits_53 : decode cX6_readDigits 53 = .ok (.aload_n 0, 1) := by decide +kernel
theorem dX6_readDigits_54 : decode cX6_readDigits 54 = .ok (.getfield 15, 3) := by decide +kernel
theorem dX6_readDigits_57 : decode cX6_readDigits 57 = .ok (.invokevirtual 37, 3) := by decide +kernel
theorem dX6_readDigits_60 : decode cX6_readDigits 60 = .ok (.iadd, 1) := by decide +kernel
theorem dX6_readDigits_61 : decode cX6_readDigits 61 = .ok (.bipush 48, 2) := by decide +kernel
theorem dX6_readDigits_63 : decode cX6_readDigits 63 = .ok (.isub, 1) := by decide +kernel
theorem dX6_readDigits_64 : decode cX6_readDigits 64 = .ok (.putfield 24, 3) := by decide +kernel
theorem dX6_readDigits_67 : decode cX6_readDigits 67 = .ok (.aload_n 0, 1) := by decide +kernel
theorem dX6_readDigits_68 : decode cX6_readDigits 68 = .ok (.dup, 1) := by decide +kernel
theorem dX6_readDigits_69 : decode cX6_readDigits 69 = .ok (.getfield 15, 3) := by decide +kernel
theorem dX6_readDigits_72 : decode cX6_readDigits 72 = .ok (.iconst 1, 1) := by decide +kernel
theorem dX6_readDigits_73 : decode cX6_readDigits 73 = .ok (.iadd, 1) := by decide +kernel
theorem dX6_readDigits_74 : decode cX6_readDigits 74 = .ok (.putfield 15, 3) := by decide +kernel
theorem dX6_readDigits_77 : decode cX6_readDigits 77 = .ok (.goto (-72), 3) := by decide +kernel
theorem dX6_readDigits_80 : decode cX6_readDigits 80 = .ok (.aload_n 0, 1) := by decide +kernel
theorem dX6_readDigits_81 : decode cX6_readDigits 81 = .ok (.aload_n 0, 1) := by decide +kernel
theorem dX6_readDigits_82 : decode cX6_readDigits 82 = .ok (.getfield 15, 3) := by decide +kernel
theorem dX6_readDigits_85 : decode cX6_readDigits 85 = .ok (.aload_n 0, 1) := by decide +kernel
theorem dX6_readDigits_86 : decode cX6_readDigits 86 = .ok (.getfield 18, 3) := by decide +kernel
theorem dX6_readDigits_89 : decode cX6_readDigits 89 = .ok (.isub, 1) := by decide +kernel
theorem dX6_readDigits_90 : decode cX6_readDigits 90 = .ok (.bipush 7, 2) := by decide +kernel
theorem dX6_readDigits_92 : decode cX6_readDigits 92 = .ok (.if_icmp .le 7, 3) := by decide +kernel
theorem dX6_readDigits_95 : decode cX6_readDigits 95 = .ok (.iconst 4, 1) := by decide +kernel
theorem dX6_readDigits_96 : decode cX6_readDigits 96 = .ok (.goto 4, 3) := by decide +kernel
theorem dX6_readDigits_99 : decode cX6_readDigits 99 = .ok (.iconst 2, 1) := by decide +kernel
theorem dX6_readDigits_100 : decode cX6_readDigits 100 = .ok (.putfield 21, 3) := by decide +kernel
theorem dX6_readDigits_103 : decode cX6_readDigits 103 = .ok (.return_, 1) := by decide +kernel
theorem dX6_byteAt_0 : decode cX6_byteAt 0 = .ok (.iload_n 1, 1) := by decide +kernel
theorem dX6_byteAt_1 : decode cX6_byteAt 1 = .ok (.ifCond .lt 20, 3) := by decide +kernel
theorem dX6_byteAt_4 : decode cX6_byteAt 4 = .ok (.iload_n 1, 1) := by decide +kernel
theorem dX6_byteAt_5 : decode cX6_byteAt 5 = .ok (.aload_n 0, 1) := by decide +kernel
theorem dX6_byteAt_6 : decode cX6_byteAt 6 = .ok (.getfield 9, 3) := by decide +kernel
theorem dX6_byteAt_9 : decode cX6_byteAt 9 = .ok (.if_icmp .ge 12, 3) := by decide +kernel
theorem dX6_byteAt_12 : decode cX6_byteAt 12 = .ok (.iload_n 1, 1) := by decide +kernel
theorem dX6_byteAt_13 : decode cX6_byteAt 13 = .ok (.aload_n 0, 1) := by decide +kernel
theorem dX6_byteAt_14 : decode cX6_byteAt 14 = .ok (.getfield 27, 3) := by decide +kernel
theorem dX6_byteAt_17 : decode cX6_byteAt 17 = .ok (.arraylength, 1) := by decide +kernel
theorem dX6_byteAt_18 : decode cX6_byteAt 18 = .ok (.if_icmp .lt 7, 3) := by decide +kernel
theorem dX6_byteAt_21 : decode cX6_byteAt 21 = .ok (.iconst (-1), 1) := by decide +kernel
theorem dX6_byteAt_22 : decode cX6_byteAt 22 = .ok (.goto 9, 3) := by decide +kernel
theorem dX6_byteAt_25 : decode cX6_byteAt 25 = .ok (.aload_n 0, 1) := by decide +kernel
theorem dX6_byteAt_26 : decode cX6_byteAt 26 = .ok (.getfield 27, 3) := by decide +kernel
theorem dX6_byteAt_29 : decode cX6_byteAt 29 = .ok (.iload_n 1, 1) := by decide +kernel
theorem dX6_byteAt_30 : decode cX6_byteAt 30 = .ok (.baload, 1) := by decide +kernel
theorem dX6_byteAt_31 : decode cX6_byteAt 31 = .ok (.ireturn, 1) := by decide +kernel
theorem dX6_isLetter_0 : decode cX6_isLetter 0 = .ok (.iload_n 0, 1) := by decide +kernel
theorem dX6_isLetter_1 : decode cX6_isLetter 1 = .ok (.bipush 97, 2) := by decide +kernel
theorem dX6_isLetter_3 : decode cX6_isLetter 3 = .ok (.if_icmp .lt 13, 3) := by decide +kernel
theorem dX6_isLetter_6 : decode cX6_isLetter 6 = .ok (.iload_n 0, 1) := by decide +kernel
theorem dX6_isLetter_7 : decode cX6_isLetter 7 = .ok (.bipush 122, 2) := by decide +kernel
theorem dX6_isLetter_9 : decode cX6_isLetter 9 = .ok (.if_icmp .gt 7, 3) := by decide +kernel
theorem dX6_isLetter_12 : decode cX6_isLetter 12 = .ok (.iconst 1, 1) := by decide +kernel
theorem dX6_isLetter_13 : decode cX6_isLetter 13 = .ok (.goto 4, 3) := by decide +kernel
theorem dX6_isLetter_16 : decode cX6_isLetter 16 = .ok (.iconst 0, 1) := by decide +kernel
theorem dX6_isLetter_17 : decode cX6_isLetter 17 = .ok (.ireturn, 1) := by decide +kernel
theorem dX6_isDigit_0 : decode cX6_isDigit 0 = .ok (.iload_n 0, 1) := by decide +kernel
theorem dX6_isDigit_1 : decode cX6_isDigit 1 = .ok (.bipush 48, 2) := by decide +kernel
theorem dX6_isDigit_3 : decode cX6_isDigit 3 = .ok (.if_icmp .lt 13, 3) := by decide +kernel
theorem dX6_isDigit_6 : decode cX6_isDigit 6 = .ok (.iload_n 0, 1) := by decide +kernel
theorem dX6_isDigit_7 : decode cX6_isDigit 7 = .ok (.bipush 57, 2) := by decide +kernel
theorem dX6_isDigit_9 : decode cX6_isDigit 9 = .ok (.if_icmp .gt 7, 3) := by decide +kernel
theorem dX6_isDigit_12 : decode cX6_isDigit 12 = .ok (.iconst 1, 1) := by decide +kernel
theorem dX6_isDigit_13 : decode cX6_isDigit 13 = .ok (.goto 4, 3) := by decide +kernel
theorem dX6_isDigit_16 : decode cX6_isDigit 16 = .ok (.iconst 0, 1) := by decide +kernel
theorem dX6_isDigit_17 : decode cX6_isDigit 17 = .ok (.ireturn, 1) := by decide +kernel
set_option maxRecDepth 20000 in
theorem ggX7_init_X3_init : GoodIn wsX7_init wsX3_init := goodIn_r _ [33, 34, 2, 3, 35, 36, 37, 38, 39, 40, 41, 23, 24, 42, 43, 44, 45, 46, 47, 48, 49, 50, 51, 52, 53, 392, 393, 394, 424, 425, 426, 427, 428, 400, 401, 402, 403, 404, 405, 406, 407, 408, 409] (by decide +kernel) (by decide +kernel)
set_option maxRecDepth 20000 in
theorem gX7_init_X3_init : GoodIn wsX7_init (wsX3_init) := ggX7_init_X3_init
set_option maxRecDepth 20000 in
theorem ggX7_init_X1_init : GoodIn wsX7_init wsX1_init := goodIn_r _ [56, 57, 2, 3, 58, 59, 60, 61, 8, 9, 62, 32, 33, 34, 35, 36, 37, 38, 39, 40, 41, 23, 24, 42, 43, 44, 45, 46, 47, 48, 49, 50, 51, 52, 53, 395, 396, 397, 392, 393, 394, 424, 425, 426, 427, 428, 400, 401, 402, 403, 404, 405, 406, 407, 408, 409] (by decide +kernel) (by decide +kernel)
set_option maxRecDepth 20000 in
theorem gX7_init_X1_init : GoodIn wsX7_init (wsX1_init) := ggX7_init_X1_init
set_option maxRecDepth 20000 in
theorem ggX7_init_X4_init : GoodIn wsX7_init wsX4_init := goodIn_r _ [64, 65, 2, 3, 4, 66, 67, 398, 399] (by decide +kernel) (by decide +kernel)
set_option maxRecDepth 20000 in
theorem gX7_init_X4_init_n40 : GoodIn wsX7_init (wsX4_init) := ggX7_init_X4_init
set_option maxRecDepth 20000 in
theorem ggX7_init_X2_init : GoodIn wsX7_init wsX2_init := goodIn_r _ [52, 53, 2, 3] (by decide +kernel) (by decide +kernel)
set_option maxRecDepth 20000 in
theorem gX7_init_X2_init_n50 : GoodIn wsX7_init (wsX2_init) := ggX7_init_X2_init
set_option maxRecDepth 20000 in
theorem ggX7_init_X5_init : GoodIn wsX7_init wsX5_init := goodIn_r _ [70, 71, 2, 3, 72, 73, 74, 45, 75, 76, 77, 78, 79, 80, 81, 82, 83, 84, 85, 86, 87, 88, 89, 90, 91, 92, 93, 94, 95, 96, 97, 98, 410, 411, 412, 413, 414, 415, 416, 417, 418, 419, 420, 421, 422, 423, 429, 430, 431, 432, 433, 434] (by decide +kernel) (by decide +kernel)
set_option maxRecDepth 20000 in
theorem gX7_init_X5_init : GoodIn wsX7_init (wsX5_init) := ggX7_init_X5_init
set_option maxRecDepth 20000 in
theorem ggX7_init_J0_length_8abf5 : GoodIn wsX7_init wsJ0_length_8abf5 := goodIn_r _ [103, 104, 105, 106, 107, 102, 108, 109, 110] (by decide +kernel) (by decide +kernel)
set_option maxRecDepth 20000 in
theorem gX7_init_J0_length_8abf5 : GoodIn wsX7_init (wsV RX7 69 RJ0 yJ0_length_8abf5 wsJ0_length_8abf5) := goodIn_app (goodIn_of _ (by decide +kernel)) ggX7_init_J0_length_8abf5
set_option maxRecDepth 20000 in
theorem ggX7_init_J0_charAt_5068e : GoodIn wsX7_init wsJ0_charAt_5068e := goodIn_r _ [114, 104, 115, 116, 117, 102, 118, 109, 110, 119, 120, 121, 122, 123, 124, 125, 126, 127, 128, 129, 130, 131, 132, 133, 134, 135, 136, 137, 138, 139, 140, 141, 142, 143, 144, 145, 146, 147] (by decide +kernel) (by decide +kernel)
set_option maxRecDepth 20000 in
theorem gX7_init_J0_charAt_5068e : GoodIn wsX7_init (wsV RX7 75 RJ0 yJ0_charAt_5068e wsJ0_charAt_5068e) := goodIn_app (goodIn_of _ (by decide +kernel)) ggX7_init_J0_charAt_5068e
set_option maxRecDepth 20000 in
theorem ggX7_init_X5_run : GoodIn wsX7_init wsX5_run := goodIn_r _ [151, 87, 88, 72, 73, 74, 82, 83, 152, 153, 154, 155, 86, 156, 98, 157, 158, 159, 160, 93, 94, 161, 162, 163, 9, 164, 41, 40, 165, 166, 167, 168, 169, 29, 170, 171, 172, 173, 174, 95, 96, 175, 176, 177, 178, 179, 180, 181, 182, 183, 184, 185, 186, 187, 188, 189, 190, 191, 192, 97, 193, 194, 195, 196, 197, 100, 101, 102, 103, 104, 105, 106, 107, 108, 109, 110, 198, 112, 113, 114, 115, 116, 117, 118, 119, 120, 121, 122, 123, 124, 125, 126, 127, 128, 129, 130, 131, 132, 133, 134, 135, 136, 137, 138, 139, 140, 141, 142, 143, 144, 145, 146, 147, 199, 200, 201, 202, 203, 204, 205, 206, 207, 208, 209, 210, 211, 212, 213, 214, 215, 216, 217, 218, 219, 220, 221, 222, 223, 224, 76, 77, 75, 225, 226, 227, 228, 229, 230, 231, 232, 233, 234, 235, 236, 237, 238, 239, 78, 79, 80, 240, 241, 242, 243, 244, 81, 245, 246, 247, 248, 249, 250, 251, 252, 253, 36, 254, 255, 256, 24, 257, 258, 259, 260, 261, 262, 263, 264, 265, 266, 267, 268, 269, 270, 271, 272, 273, 274, 275, 276, 277, 278, 279, 280, 281, 282, 283, 284, 285, 286, 287, 288, 289, 290, 291, 292, 293, 294, 295, 296, 297, 39, 298, 49, 46, 47, 48, 50, 299, 300, 301, 302, 303, 304, 305, 306, 307, 308, 309, 310, 311, 312, 313, 314, 315, 316, 317, 318, 319, 320, 321, 322, 323, 324, 325, 326, 327, 328, 329, 330, 331, 332, 333, 334, 335, 336, 337, 338, 339, 340, 341, 342, 343, 344, 345, 346, 347, 348, 349, 350, 351, 352, 353, 354, 355, 356, 357, 358, 359, 360, 361, 362, 363, 364, 410, 411, 412, 413, 414, 415, 416, 417, 418, 419, 420, 421, 422, 423, 429, 430, 431, 432, 433, 434, 392, 393, 394, 424, 425, 426, 427, 428, 400, 401, 402, 403, 404, 405, 406, 407, 408, 409] (by decide +kernel) (by decide +kernel)
set_option maxRecDepth 20000 in
theorem gX7_init_X5_run : GoodIn wsX7_init (wsV RX7 79 RX5 yX5_run wsX5_run) := goodIn_app (goodIn_of _ (by decide +kernel)) ggX7_init_X5_run
set_option maxRecDepth 20000 in
theorem ggX7_init_X3_copyFrom : GoodIn wsX7_init wsX3_copyFrom := goodIn_r _ [368, 41, 36, 40, 369, 370, 371, 24, 372, 312, 258, 271, 278, 289, 272, 284, 294, 279, 313, 373, 374, 375, 39, 376, 46, 377, 378, 379, 380, 47, 48, 49, 50, 392, 393, 394, 400, 401, 402, 403, 404, 405, 406, 407, 408, 409, 424, 425, 426, 427, 428] (by decide +kernel) (by decide +kernel)
set_option maxRecDepth 20000 in
theorem gX7_init_X3_copyFrom : GoodIn wsX7_init (wsV RX7 83 RX3 yX3_copyFrom wsX3_copyFrom) := goodIn_app (goodIn_of _ (by decide +kernel)) ggX7_init_X3_copyFrom
theorem dX7_init_0 : decode cX7_init 0 = .ok (.aload_n 0, 1) := by decide +kernel
theorem dX7_init_1 : decode cX7_init 1 = .ok (.invokespecial 1, 3) := by decide +kernel
theorem dX7_init_4 : decode cX7_init 4 = .ok (.aload_n 0, 1) := by decide +kernel
theorem dX7_init_5 : decode cX7_init 5 = .ok (.sipush 500, 3) := by decide +kernel
theorem dX7_init_8 : decode cX7_init 8 = .ok (.newarray .byte, 2) := by decide +kernel
theorem dX7_init_10 : decode cX7_init 10 = .ok (.putfield 9, 3) := by decide +kernel
theorem dX7_init_13 : decode cX7_init 13 = .ok (.aload_n 0, 1) := by decide +kernel
theorem dX7_init_14 : decode cX7_init 14 = .ok (.iconst 0, 1) := by decide +kernel
theorem dX7_init_15 : decode cX7_init 15 = .ok (.putfield 13, 3) := by decide +kernel
theorem dX7_init_18 : decode cX7_init 18 = .ok (.aload_n 0, 1) := by decide +kernel
theorem dX7_init_19 : decode cX7_init 19 = .ok (.new 17, 3) := by decide +kernel
theorem dX7_init_22 : decode cX7_init 22 = .ok (.dup, 1) := by decide +kernel
theorem dX7_init_23 : decode cX7_init 23 = .ok (.invokespecial 19, 3) := by decide +kernel
theorem dX7_init_26 : decode cX7_init 26 = .ok (.putfield 20, 3) := by decide +kernel
theorem dX7_init_29 : decode cX7_init 29 = .ok (.aload_n 0, 1) := by decide +kernel
theorem dX7_init_30 : decode cX7_init 30 = .ok (.new 24, 3) := by decide +kernel
theorem dX7_init_33 : decode cX7_init 33 = .ok (.dup, 1) := by decide +kernel
theorem dX7_init_34 : decode cX7_init 34 = .ok (.invokespecial 26, 3) := by decide +kernel
theorem dX7_init_37 : decode cX7_init 37 = .ok (.putfield 27, 3) := by decide +kernel
theorem dX7_init_40 : decode cX7_init 40 = .ok (.aload_n 0, 1) := by decide +kernel
theorem dX7_init_41 : decode cX7_init 41 = .ok (.new 17, 3) := by decide +kernel
theorem dX7_init_44 : decode cX7_init 44 = .ok (.dup, 1) := by decide +kernel
theorem dX7_init_45 : decode cX7_init 45 = .ok (.invokespecial 19, 3) := by decide +kernel
theorem dX7_init_48 : decode cX7_init 48 = .ok (.putfield 31, 3) := by decide +kernel
theorem dX7_init_51 : decode cX7_init 51 = .ok (.aload_n 0, 1) := by decide +kernel
theorem dX7_init_52 : decode cX7_init 52 = .ok (.iconst 0, 1) := by decide +kernel
theorem dX7_init_53 : decode cX7_init 53 = .ok (.putfield 34, 3) := by decide +kernel
theorem dX7_init_56 : decode cX7_init 56 = .ok (.aload_n 0, 1) := by decide +kernel
theorem dX7_init_57 : decode cX7_init 57 = .ok (.new 38, 3) := by decide +kernel
theorem dX7_init_60 : decode cX7_init 60 = .ok (.dup, 1) := by decide +kernel
theorem dX7_init_61 : decode cX7_init 61 = .ok (.invokespecial 40, 3) := by decide +kernel
theorem dX7_init_64 : decode cX7_init 64 = .ok (.putfield 41, 3) := by decide +kernel
theorem dX7_init_67 : decode cX7_init 67 = .ok (.aload_n 0, 1) := by decide +kernel
theorem dX7_init_68 : decode cX7_init 68 = .ok (.new 17, 3) := by decide +kernel
theorem dX7_init_71 : decode cX7_init 71 = .ok (.dup, 1) := by decide +kernel
theorem dX7_init_72 : decode cX7_init 72 = .ok (.invokespecial 19, 3) := by decide +kernel
theorem dX7_init_75 : decode cX7_init 75 = .ok (.putfield 45, 3) := by decide +kernel
theorem dX7_init_78 : decode cX7_init 78 = .ok (.aload_n 0, 1) := by decide +kernel
theorem dX7_init_79 : decode cX7_init 79 = .ok (.new 48, 3) := by decide +kernel
theorem dX7_init_82 : decode cX7_init 82 = .ok (.dup, 1) := by decide +kernel
theorem dX7_init_83 : decode cX7_init 83 = .ok (.invokespecial 50, 3) := by decide +kernel
theorem dX7_init_86 : decode cX7_init 86 = .ok (.putfield 51, 3) := by decide +kernel
theorem dX7_init_89 : decode cX7_init 89 = .ok (.aload_n 0, 1) := by decide +kernel
theorem dX7_init_90 : decode cX7_init 90 = .ok (.new 48, 3) := by decide +kernel
theorem dX7_init_93 : decode cX7_init 93 = .ok (.dup, 1) := by decide +kernel
theorem dX7_init_94 : decode cX7_init 94 = .ok (.invokespecial 50, 3) := by decide +kernel
theorem dX7_init_97 : decode cX7_init 97 = .ok (.putfield 55, 3) := by decide +kernel
theorem dX7_init_100 : decode cX7_init 100 = .ok (.aload_n 0, 1) := by decide +kernel
theorem dX7_init_101 : decode cX7_init 101 = .ok (.new 58, 3) := by decide +kernel
theorem dX7_init_104 : decode cX7_init 104 = .ok (.dup, 1) := by decide +kernel
theorem dX7_init_105 : decode cX7_init 105 = .ok (.aload_n 0, 1) := by decide +kernel
theorem dX7_init_106 : decode cX7_init 106 = .ok (.getfield 9, 3) := by decide +kernel
theorem dX7_init_109 : decode cX7_init 109 = .ok (.aload_n 0, 1) := by decide +kernel
theorem dX7_init_110 : decode cX7_init 110 = .ok (.getfield 45, 3) := by decide +kernel
theorem dX7_init_113 : decode cX7_init 113 = .ok (.invokespecial 60, 3) := by decide +kernel
theorem dX7_init_116 : decode cX7_init 116 = .ok (.putfield 63, 3) := by decide +kernel
theorem dX7_init_119 : decode cX7_init 119 = .ok (.ldc 67, 2) := by decide +kernel
theorem dX7_init_121 : decode cX7_init 121 = .ok (.invokevirtual 69, 3) := by decide +kernel
theorem dX7_init_124 : decode cX7_init 124 = .ok (.istore_n 1, 1) := by decide +kernel
theorem dX7_init_125 : decode cX7_init 125 = .ok (.iconst 0, 1) := by decide +kernel
theorem dX7_init_126 : decode cX7_init 126 = .ok (.istore_n 2, 1) := by decide +kernel
theorem dX7_init_127 : decode cX7_init 127 = .ok (.iload_n 2, 1) := by decide +kernel
theorem dX7_init_128 : decode cX7_init 128 = .ok (.iload_n 1, 1) := by decide +kernel
theorem dX7_init_129 : decode cX7_init 129 = .ok (.if_icmp .ge 29, 3) := by decide +kernel
theorem dX7_init_132 : decode cX7_init 132 = .ok (.iload_n 2, 1) := by decide +kernel
theorem dX7_init_133 : decode cX7_init 133 = .ok (.sipush 500, 3) := by decide +kernel
theorem dX7_init_136 : decode cX7_init 136 = .ok (.if_icmp .ge 22, 3) := by decide +kernel
theorem dX7_init_139 : decode cX7_init 139 = .ok (.aload_n 0, 1) := by decide +kernel
theorem dX7_init_140 : decode cX7_init 140 = .ok (.getfield 9, 3) := by decide +kernel
theorem dX7_init_143 : decode cX7_init 143 = .ok (.iload_n 2, 1) := by decide +kernel
theorem dX7_init_144 : decode cX7_init 144 = .ok (.ldc 67, 2) := by decide +kernel
theorem dX7_init_146 : decode cX7_init 146 = .ok (.iload_n 2, 1) := by decide +kernel
theorem dX7_init_147 : decode cX7_init 147 = .ok (.invokevirtual 75, 3) := by decide +kernel
theorem dX7_init_150 : decode cX7_init 150 = .ok (.i2b, 1) := by decide +kernel
theorem dX7_init_151 : decode cX7_init 151 = .ok (.bastore, 1) := by decide +kernel
theorem dX7_init_152 : decode cX7_init 152 = .ok (.iinc 2 1, 3) := by decide +kernel
theorem dX7_init_155 : decode cX7_init 155 = .ok (.goto (-28), 3) := by decide +kernel
theorem dX7_init_158 : decode cX7_init 158 = .ok (.aload_n 0, 1) := by decide +kernel
theorem dX7_init_159 : decode cX7_init 159 = .ok (.getfield 63, 3) := by decide +kernel
theorem dX7_init_162 : decode cX7_init 162 = .ok (.iload_n 1, 1) := by decide +kernel
theorem dX7_init_163 : decode cX7_init 163 = .ok (.invokevirtual 79, 3) := by decide +kernel
theorem dX7_init_166 : decode cX7_init 166 = .ok (.aload_n 0, 1) := by decide +kernel
theorem dX7_init_167 : decode cX7_init 167 = .ok (.getfield 20, 3) := by decide +kernel
theorem dX7_init_170 : decode cX7_init 170 = .ok (.aload_n 0, 1) := by decide +kernel
theorem dX7_init_171 : decode cX7_init 171 = .ok (.getfield 45, 3) := by decide +kernel
theorem dX7_init_174 : decode cX7_init 174 = .ok (.invokevirtual 83, 3) := by decide +kernel
theorem dX7_init_177 : decode cX7_init 177 = .ok (.return_, 1) := by decide +kernel
set_option maxRecDepth 20000 in
theorem ggX7_append_X7_putWord : GoodIn wsX7_append wsX7_putWord := goodIn_r _ [6, 1, 7, 8, 9, 10, 11, 12, 13, 14, 15, 16, 17, 18] (by decide +kernel) (by decide +kernel)
set_option maxRecDepth 20000 in
theorem gX7_append_X7_putWord : GoodIn wsX7_append (wsV RX7 87 RX7 yX7_putWord wsX7_putWord) := goodIn_app (goodIn_of _ (by decide +kernel)) ggX7_append_X7_putWord
theorem dX7_append_0 : decode cX7_append 0 = .ok (.aload_n 0, 1) := by decide +kernel
theorem dX7_append_1 : decode cX7_append 1 = .ok (.getfield 13, 3) := by decide +kernel
theorem dX7_append_4 : decode cX7_append 4 = .ok (.bipush 20, 2) := by decide +kernel
theorem dX7_append_6 : decode cX7_append 6 = .ok (.iadd, 1) := by decide +kernel
theorem dX7_append_7 : decode cX7_append 7 = .ok (.sipush 500, 3) := by decide +kernel
theorem dX7_append_10 : decode cX7_append 10 = .ok (.if_icmp .le 6, 3) := by decide +kernel
theorem dX7_append_13 : decode cX7_append 13 = .ok (.bipush (-2), 2) := by decide +kernel
theorem dX7_append_15 : decode cX7_append 15 = .ok (.ireturn, 1) := by decide +kernel
theorem dX7_append_16 : decode cX7_append 16 = .ok (.aload_n 0, 1) := by decide +kernel
theorem dX7_append_17 : decode cX7_append 17 = .ok (.iload_n 1, 1) := by decide +kernel
theorem dX7_append_18 : decode cX7_append 18 = .ok (.invokevirtual 87, 3) := by decide +kernel
theorem dX7_append_21 : decode cX7_append 21 = .ok (.aload_n 0, 1) := by decide +kernel
theorem dX7_append_22 : decode cX7_append 22 = .ok (.iload_n 2, 1) := by decide +kernel
theorem dX7_append_23 : decode cX7_append 23 = .ok (.invokevirtual 87, 3) := by decide +kernel
theorem dX7_append_26 : decode cX7_append 26 = .ok (.aload_n 0, 1) := by decide +kernel
theorem dX7_append_27 : decode cX7_append 27 = .ok (.iload_n 3, 1) := by decide +kernel
theorem dX7_append_28 : decode cX7_append 28 = .ok (.invokevirtual 87, 3) := by decide +kernel
theorem dX7_append_31 : decode cX7_append 31 = .ok (.aload_n 0, 1) := by decide +kernel
theorem dX7_append_32 : decode cX7_append 32 = .ok (.iload 4, 2) := by decide +kernel
theorem dX7_append_34 : decode cX7_append 34 = .ok (.invokevirtual 87, 3) := by decide +kernel
theorem dX7_append_37 : decode cX7_append 37 = .ok (.aload_n 0, 1) := by decide +kernel
theorem dX7_append_38 : decode cX7_append 38 = .ok (.iload 5, 2) := by decide +kernel
theorem dX7_append_40 : decode cX7_append 40 = .ok (.invokevirtual 87, 3) := by decide +kernel
theorem dX7_append_43 : decode cX7_append 43 = .ok (.aload_n 0, 1) := by decide +kernel
theorem dX7_append_44 : decode cX7_append 44 = .ok (.getfield 13, 3) := by decide +kernel
theorem dX7_append_47 : decode cX7_append 47 = .ok (.ireturn, 1) := by decide +kernel
theorem dX7_putWord_0 : decode cX7_putWord 0 = .ok (.bipush 24, 2) := by decide +kernel
theorem dX7_putWord_2 : decode cX7_putWord 2 = .ok (.istore_n 2, 1) := by decide +kernel
theorem dX7_putWord_3 : decode cX7_putWord 3 = .ok (.iload_n 2, 1) := by decide +kernel
theorem dX7_putWord_4 : decode cX7_putWord 4 = .ok (.ifCond .lt 42, 3) := by decide +kernel
theorem dX7_putWord_7 : decode cX7_putWord 7 = .ok (.aload_n 0, 1) := by decide +kernel
theorem dX7_putWord_8 : decode cX7_putWord 8 = .ok (.getfield 13, 3) := by decide +kernel
theorem dX7_putWord_11 : decode cX7_putWord 11 = .ok (.sipush 500, 3) := by decide +kernel
theorem dX7_putWord_14 : decode cX7_putWord 14 = .ok (.if_icmp .ge 32, 3) := by decide +kernel
theorem dX7_putWord_17 : decode cX7_putWord 17 = .ok (.aload_n 0, 1) := by decide +kernel
theorem dX7_putWord_18 : decode cX7_putWord 18 = .ok (.getfield 9, 3) := by decide +kernel
theorem dX7_putWord_21 : decode cX7_putWord 21 = .ok (.aload_n 0, 1) := by decide +kernel
theorem dX7_putWord_22 : decode cX7_putWord 22 = .ok (.getfield 13, 3) := by decide +kernel
theorem dX7_putWord_25 : decode cX7_putWord 25 = .ok (.iload_n 1, 1) := by decide +kernel
theorem dX7_putWord_26 : decode cX7_putWord 26 = .ok (.iload_n 2, 1) := by decide +kernel
theorem dX7_putWord_27 : decode cX7_putWord 27 = .ok (.ishr, 1) := by decide +kernel
theorem dX7_putWord_28 : decode cX7_putWord 28 = .ok (.i2b, 1) := by decide +kernel
theorem dX7_putWord_29 : decode cX7_putWord 29 = .ok (.bastore, 1) := by decide +kernel
theorem dX7_putWord_30 : decode cX7_putWord 30 = .ok (.aload_n 0, 1) := by decide +kernel
theorem dX7_putWord_31 : decode cX7_putWord 31 = .ok (.dup, 1) := by decide +kernel
theorem dX7_putWord_32 : decode cX7_putWord 32 = .ok (.getfield 13, 3) := by decide +kernel
theorem dX7_putWord_35 : decode cX7_putWord 35 = .ok (.iconst 1, 1) := by decide +kernel
theorem dX7_putWord_36 : decode cX7_putWord 36 = .ok (.iadd, 1) := by decide +kernel
theorem dX7_putWord_37 : decode cX7_putWord 37 = .ok (.putfield 13, 3) := by decide +kernel
theorem dX7_putWord_40 : decode cX7_putWord 40 = .ok (.iinc 2 (-8), 3) := by decide +kernel
theorem dX7_putWord_43 : decode cX7_putWord 43 = .ok (.goto (-40), 3) := by decide +kernel
theorem dX7_putWord_46 : decode cX7_putWord 46 = .ok (.return_, 1) := by decide +kernel
set_option maxRecDepth 20000 in
theorem ggX7_truncateInput_X7_requireRange : GoodIn wsX7_truncateInput wsX7_requireRange := goodIn_ca (goodIn_r _ [5, 6, 7] (by decide +kernel) (by decide +kernel)) (goodIn_sub (fun _ h => List.mem_cons_of_mem _ (List.mem_append_right _ h)) (by decide +kernel))
set_option maxRecDepth 20000 in
theorem gX7_truncateInput_X7_requireRange : GoodIn wsX7_truncateInput (va_wsS RX7 90 yX7_requireRange wsX7_requireRange) := goodIn_app (goodIn_of _ (by decide +kernel)) ggX7_truncateInput_X7_requireRange
theorem dX7_truncateInput_0 : decode cX7_truncateInput 0 = .ok (.iload_n 1, 1) := by decide +kernel
theorem dX7_truncateInput_1 : decode cX7_truncateInput 1 = .ok (.iconst 0, 1) := by decide +kernel
theorem dX7_truncateInput_2 : decode cX7_truncateInput 2 = .ok (.aload_n 0, 1) := by decide +kernel
theorem dX7_truncateInput_3 : decode cX7_truncateInput 3 = .ok (.getfield 13, 3) := by decide +kernel
theorem dX7_truncateInput_6 : decode cX7_truncateInput 6 = .ok (.invokestatic 90, 3) := by decide +kernel
theorem dX7_truncateInput_9 : decode cX7_truncateInput 9 = .ok (.aload_n 0, 1) := by decide +kernel
theorem dX7_truncateInput_10 : decode cX7_truncateInput 10 = .ok (.iload_n 1, 1) := by decide +kernel
theorem dX7_truncateInput_11 : decode cX7_truncateInput 11 = .ok (.putfield 13, 3) := by decide +kernel
theorem dX7_truncateInput_14 : decode cX7_truncateInput 14 = .ok (.aload_n 0, 1) := by decide +kernel
theorem dX7_truncateInput_15 : decode cX7_truncateInput 15 = .ok (.getfield 13, 3) := by decide +kernel
theorem dX7_truncateInput_18 : decode cX7_truncateInput 18 = .ok (.ireturn, 1) := by decide +kernel
theorem dX7_inputLength_0 : decode cX7_inputLength 0 = .ok (.aload_n 0, 1) := by decide +kernel
theorem dX7_inputLength_1 : decode cX7_inputLength 1 = .ok (.getfield 13, 3) := by decide +kernel
theorem dX7_inputLength_4 : decode cX7_inputLength 4 = .ok (.ireturn, 1) := by decide +kernel
set_option maxRecDepth 20000 in
theorem ggX7_runScript_X5_run : GoodIn wsX7_runScript wsX5_run := goodIn_r _ [12, 13, 14, 15, 16, 17, 18, 19, 20, 21, 22, 23, 24, 25, 26, 27, 28, 29, 30, 31, 32, 33, 34, 35, 36, 37, 38, 39, 40, 41, 42, 43, 44, 11, 45, 46, 47, 48, 49, 50, 51, 52, 53, 54, 55, 56, 57, 58, 59, 60, 61, 62, 63, 64, 65, 66, 67, 68, 69, 70, 71, 72, 73, 74, 75, 76, 77, 78, 79, 80, 81, 82, 83, 84, 85, 86, 87, 88, 89, 90, 91, 92, 93, 94, 95, 96, 97, 98, 99, 100, 101, 102, 103, 104, 105, 106, 107, 108, 109, 110, 111, 112, 113, 114, 115, 116, 117, 118, 119, 120, 121, 122, 123, 124, 125, 126, 127, 128, 129, 130, 131, 132, 133, 134, 135, 136, 137, 138, 139, 140, 141, 142, 143, 144, 145, 146, 147, 148, 149, 150, 151, 152, 153, 154, 155, 156, 157, 158, 159, 160, 161, 162, 163, 164, 165, 166, 167, 168, 169, 170, 171, 172, 173, 174, 175, 176, 177, 178, 179, 180, 181, 182, 183, 184, 185, 186, 187, 188, 189, 190, 191, 192, 193, 194, 195, 196, 197, 198, 199, 200, 201, 202, 203, 204, 205, 206, 207, 208, 209, 210, 211, 212, 213, 214, 215, 216, 217, 218, 219, 220, 221, 222, 223, 224, 225, 226, 227, 228, 229, 230, 231, 232, 233, 234, 235, 236, 237, 238, 239, 240, 241, 242, 243, 244, 245, 246, 247, 248, 249, 250, 251, 252, 253, 254, 255, 256, 257, 258, 259, 260, 261, 262, 263, 264, 265, 266, 267, 268, 269, 270, 271, 272, 273, 274, 275, 276, 277, 278, 279, 280, 281, 282, 283, 284, 285, 286, 287, 288, 289, 290, 291, 292, 293, 294, 295, 296, 297, 298, 299, 300, 301, 302, 303, 304, 342, 343, 344, 345, 346, 347, 348, 349, 350, 351, 352, 353, 354, 355, 359, 360, 361, 362, 363, 364, 356, 357, 358, 365, 366, 367, 368, 369, 370, 371, 372, 373, 374, 375, 376, 377, 378, 379] (by decide +kernel) (by decide +kernel)
set_option maxRecDepth 20000 in
theorem gX7_runScript_X5_run : GoodIn wsX7_runScript (wsV RX7 79 RX5 yX5_run wsX5_run) := goodIn_app (goodIn_of _ (by decide +kernel)) ggX7_runScript_X5_run
set_option maxRecDepth 20000 in
theorem ggX7_runScript_X1_remember : GoodIn wsX7_runScript wsX1_remember := goodIn_r _ [309, 310, 311, 312, 313, 28, 29, 30, 314, 315, 316, 36, 317, 38, 186, 39, 318, 319, 320, 190, 321, 252, 192, 205, 212, 223, 206, 218, 228, 213, 253, 322, 323, 324, 232, 325, 235, 326, 327, 328, 329, 236, 237, 234, 238, 380, 381, 382, 356, 357, 358, 370, 371, 372, 373, 374, 375, 376, 377, 378, 379, 365, 366, 367, 368, 369] (by decide +kernel) (by decide +kernel)
set_option maxRecDepth 20000 in
theorem gX7_runScript_X1_remember : GoodIn wsX7_runScript (wsV RX7 97 RX1 yX1_remember wsX1_remember) := goodIn_app (goodIn_of _ (by decide +kernel)) ggX7_runScript_X1_remember
set_option maxRecDepth 20000 in
theorem ggX7_runScript_X3_copyFrom : GoodIn wsX7_runScript wsX3_copyFrom := goodIn_r _ [317, 38, 186, 39, 318, 319, 320, 190, 321, 252, 192, 205, 212, 223, 206, 218, 228, 213, 253, 322, 323, 324, 232, 325, 235, 326, 327, 328, 329, 236, 237, 234, 238, 356, 357, 358, 370, 371, 372, 373, 374, 375, 376, 377, 378, 379, 365, 366, 367, 368, 369] (by decide +kernel) (by decide +kernel)
set_option maxRecDepth 20000 in
theorem gX7_runScript_X3_copyFrom : GoodIn wsX7_runScript (wsV RX7 83 RX3 yX3_copyFrom wsX3_copyFrom) := goodIn_app (goodIn_of _ (by decide +kernel)) ggX7_runScript_X3_copyFrom
theorem dX7_runScript_0 : decode cX7_runScript 0 = .ok (.aload_n 0, 1) := by decide +kernel
theorem dX7_runScript_1 : decode cX7_runScript 1 = .ok (.getfield 63, 3) := by decide +kernel
theorem dX7_runScript_4 : decode cX7_runScript 4 = .ok (.aload_n 0, 1) := by decide +kernel
theorem dX7_runScript_5 : decode cX7_runScript 5 = .ok (.getfield 13, 3) := by decide +kernel
theorem dX7_runScript_8 : decode cX7_runScript 8 = .ok (.invokevirtual 79, 3) := by decide +kernel
theorem dX7_runScript_11 : decode cX7_runScript 11 = .ok (.aload_n 0, 1) := by decide +kernel
theorem dX7_runScript_12 : decode cX7_runScript 12 = .ok (.iconst 0, 1) := by decide +kernel
theorem dX7_runScript_13 : decode cX7_runScript 13 = .ok (.putfield 13, 3) := by decide +kernel
theorem dX7_runScript_16 : decode cX7_runScript 16 = .ok (.aload_n 0, 1) := by decide +kernel
theorem dX7_runScript_17 : decode cX7_runScript 17 = .ok (.getfield 63, 3) := by decide +kernel
theorem dX7_runScript_20 : decode cX7_runScript 20 = .ok (.getfield 94, 3) := by decide +kernel
theorem dX7_runScript_23 : decode cX7_runScript 23 = .ok (.ifCond .eq 5, 3) := by decide +kernel
theorem dX7_runScript_26 : decode cX7_runScript 26 = .ok (.iconst (-1), 1) := by decide +kernel
theorem dX7_runScript_27 : decode cX7_runScript 27 = .ok (.ireturn, 1) := by decide +kernel
theorem dX7_runScript_28 : decode cX7_runScript 28 = .ok (.aload_n 0, 1) := by decide +kernel
theorem dX7_runScript_29 : decode cX7_runScript 29 = .ok (.getfield 27, 3) := by decide +kernel
theorem dX7_runScript_32 : decode cX7_runScript 32 = .ok (.aload_n 0, 1) := by decide +kernel
theorem dX7_runScript_33 : decode cX7_runScript 33 = .ok (.getfield 20, 3) := by decide +kernel
theorem dX7_runScript_36 : decode cX7_runScript 36 = .ok (.invokevirtual 97, 3) := by decide +kernel
theorem dX7_runScript_39 : decode cX7_runScript 39 = .ok (.aload_n 0, 1) := by decide +kernel
theorem dX7_runScript_40 : decode cX7_runScript 40 = .ok (.getfield 20, 3) := by decide +kernel
theorem dX7_runScript_43 : decode cX7_runScript 43 = .ok (.aload_n 0, 1) := by decide +kernel
theorem dX7_runScript_44 : decode cX7_runScript 44 = .ok (.getfield 45, 3) := by decide +kernel
theorem dX7_runScript_47 : decode cX7_runScript 47 = .ok (.invokevirtual 83, 3) := by decide +kernel
theorem dX7_runScript_50 : decode cX7_runScript 50 = .ok (.aload_n 0, 1) := by decide +kernel
theorem dX7_runScript_51 : decode cX7_runScript 51 = .ok (.getfield 20, 3) := by decide +kernel
theorem dX7_runScript_54 : decode cX7_runScript 54 = .ok (.getfield 100, 3) := by decide +kernel
theorem dX7_runScript_57 : decode cX7_runScript 57 = .ok (.ireturn, 1) := by decide +kernel
set_option maxRecDepth 20000 in
theorem ggX7_openLoan_X7_requireRange : GoodIn wsX7_openLoan wsX7_requireRange := goodIn_ca (goodIn_r _ [8, 9, 10] (by decide +kernel) (by decide +kernel)) (goodIn_sub (fun _ h => List.mem_cons_of_mem _ (List.mem_append_left _ (List.mem_append_right _ h))) (by decide +kernel))
set_option maxRecDepth 20000 in
theorem gX7_openLoan_X7_requireRange : GoodIn wsX7_openLoan (va_wsS RX7 90 yX7_requireRange wsX7_requireRange) := goodIn_app (goodIn_of _ (by decide +kernel)) ggX7_openLoan_X7_requireRange
set_option maxRecDepth 20000 in
theorem ggX7_openLoan_X3_hasRoom : GoodIn wsX7_openLoan wsX3_hasRoom := goodIn_r _ [15, 16, 101, 102, 103] (by decide +kernel) (by decide +kernel)
set_option maxRecDepth 20000 in
theorem gX7_openLoan_X3_hasRoom : GoodIn wsX7_openLoan (wsV RX7 104 RX3 yX3_hasRoom wsX3_hasRoom) := goodIn_app (goodIn_of _ (by decide +kernel)) ggX7_openLoan_X3_hasRoom
set_option maxRecDepth 20000 in
theorem ggX7_openLoan_X7_requireState : GoodIn wsX7_openLoan wsX7_requireState := goodIn_ca (goodIn_r _ [19, 20, 21] (by decide +kernel) (by decide +kernel)) (goodIn_sub (fun _ h => List.mem_cons_of_mem _ (List.mem_append_right _ h)) (by decide +kernel))
set_option maxRecDepth 20000 in
theorem gX7_openLoan_X7_requireState : GoodIn wsX7_openLoan (va_wsS RX7 108 yX7_requireState wsX7_requireState) := goodIn_app (goodIn_of _ (by decide +kernel)) ggX7_openLoan_X7_requireState
set_option maxRecDepth 20000 in
theorem ggX7_openLoan_X1_remember : GoodIn wsX7_openLoan wsX1_remember := goodIn_r _ [26, 27, 28, 29, 30, 31, 32, 33, 34, 35, 36, 14, 37, 16, 38, 39, 40, 41, 42, 43, 44, 45, 46, 47, 48, 49, 50, 51, 52, 53, 54, 55, 56, 57, 58, 59, 60, 61, 62, 63, 64, 65, 66, 67, 68, 104, 105, 106, 101, 102, 103, 107, 108, 109, 110, 111, 112, 113, 114, 115, 116, 117, 118, 119, 120, 121] (by decide +kernel) (by decide +kernel)
set_option maxRecDepth 20000 in
theorem gX7_openLoan_X1_remember : GoodIn wsX7_openLoan (wsV RX7 97 RX1 yX1_remember wsX1_remember) := goodIn_app (goodIn_of _ (by decide +kernel)) ggX7_openLoan_X1_remember
set_option maxRecDepth 20000 in
theorem ggX7_openLoan_X3_addLoan : GoodIn wsX7_openLoan wsX3_addLoan := goodIn_r _ [72, 16, 38, 73, 74, 75, 43, 76, 45, 46, 50, 51, 52, 53, 54, 47, 48, 49, 77, 78, 79, 80, 81, 82, 83, 84, 85, 86, 87, 88, 89, 101, 102, 103, 107, 108, 109, 110, 111, 112, 113, 114, 115, 116] (by decide +kernel) (by decide +kernel)
set_option maxRecDepth 20000 in
theorem gX7_openLoan_X3_addLoan : GoodIn wsX7_openLoan (wsV RX7 112 RX3 yX3_addLoan wsX3_addLoan) := goodIn_app (goodIn_of _ (by decide +kernel)) ggX7_openLoan_X3_addLoan
theorem dX7_openLoan_0 : decode cX7_openLoan 0 = .ok (.iload_n 1, 1) := by decide +kernel
theorem dX7_openLoan_1 : decode cX7_openLoan 1 = .ok (.iconst 1, 1) := by decide +kernel
theorem dX7_openLoan_2 : decode cX7_openLoan 2 = .ok (.ldc 103, 2) := by decide +kernel
theorem dX7_openLoan_4 : decode cX7_openLoan 4 = .ok (.invokestatic 90, 3) := by decide +kernel
theorem dX7_openLoan_7 : decode cX7_openLoan 7 = .ok (.iload_n 2, 1) := by decide +kernel
theorem dX7_openLoan_8 : decode cX7_openLoan 8 = .ok (.iconst 0, 1) := by decide +kernel
theorem dX7_openLoan_9 : decode cX7_openLoan 9 = .ok (.sipush 3000, 3) := by decide +kernel
theorem dX7_openLoan_12 : decode cX7_openLoan 12 = .ok (.invokestatic 90, 3) := by decide +kernel
theorem dX7_openLoan_15 : decode cX7_openLoan 15 = .ok (.iload_n 3, 1) := by decide +kernel
theorem dX7_openLoan_16 : decode cX7_openLoan 16 = .ok (.iconst 1, 1) := by decide +kernel
theorem dX7_openLoan_17 : decode cX7_openLoan 17 = .ok (.bipush 120, 2) := by decide +kernel
theorem dX7_openLoan_19 : decode cX7_openLoan 19 = .ok (.invokestatic 90, 3) := by decide +kernel
theorem dX7_openLoan_22 : decode cX7_openLoan 22 = .ok (.aload_n 0, 1) := by decide +kernel
theorem dX7_openLoan_23 : decode cX7_openLoan 23 = .ok (.getfield 20, 3) := by decide +kernel
theorem dX7_openLoan_26 : decode cX7_openLoan 26 = .ok (.invokevirtual 104, 3) := by decide +kernel
theorem dX7_openLoan_29 : decode cX7_openLoan 29 = .ok (.invokestatic 108, 3) := by decide +kernel
theorem dX7_openLoan_32 : decode cX7_openLoan 32 = .ok (.aload_n 0, 1) := by decide +kernel
theorem dX7_openLoan_33 : decode cX7_openLoan 33 = .ok (.getfield 27, 3) := by decide +kernel
theorem dX7_openLoan_36 : decode cX7_openLoan 36 = .ok (.aload_n 0, 1) := by decide +kernel
theorem dX7_openLoan_37 : decode cX7_openLoan 37 = .ok (.getfield 20, 3) := by decide +kernel
theorem dX7_openLoan_40 : decode cX7_openLoan 40 = .ok (.invokevirtual 97, 3) := by decide +kernel
theorem dX7_openLoan_43 : decode cX7_openLoan 43 = .ok (.aload_n 0, 1) := by decide +kernel
theorem dX7_openLoan_44 : decode cX7_openLoan 44 = .ok (.getfield 20, 3) := by decide +kernel
theorem dX7_openLoan_47 : decode cX7_openLoan 47 = .ok (.iload_n 1, 1) := by decide +kernel
theorem dX7_openLoan_48 : decode cX7_openLoan 48 = .ok (.iload_n 2, 1) := by decide +kernel
theorem dX7_openLoan_49 : decode cX7_openLoan 49 = .ok (.iload_n 3, 1) := by decide +kernel
theorem dX7_openLoan_50 : decode cX7_openLoan 50 = .ok (.invokevirtual 112, 3) := by decide +kernel
theorem dX7_openLoan_53 : decode cX7_openLoan 53 = .ok (.aload_n 0, 1) := by decide +kernel
theorem dX7_openLoan_54 : decode cX7_openLoan 54 = .ok (.getfield 20, 3) := by decide +kernel
theorem dX7_openLoan_57 : decode cX7_openLoan 57 = .ok (.getfield 100, 3) := by decide +kernel
theorem dX7_openLoan_60 : decode cX7_openLoan 60 = .ok (.iconst 1, 1) := by decide +kernel
theorem dX7_openLoan_61 : decode cX7_openLoan 61 = .ok (.isub, 1) := by decide +kernel
theorem dX7_openLoan_62 : decode cX7_openLoan 62 = .ok (.ireturn, 1) := by decide +kernel
set_option maxRecDepth 20000 in
theorem ggX7_pay_X7_loanAt : GoodIn wsX7_pay wsX7_loanAt := goodIn_ca (goodIn_r _ [7, 8, 9, 2, 10, 11, 104, 105, 106, 107, 108, 109, 110, 111, 112, 113, 114, 115, 116, 117] (by decide +kernel) (by decide +kernel)) (goodIn_sub (fun _ h => List.mem_cons_of_mem _ (List.mem_append_left _ (List.mem_append_right _ h))) (by decide +kernel))
set_option maxRecDepth 20000 in
theorem gX7_pay_X7_loanAt : GoodIn wsX7_pay (wsV RX7 115 RX7 yX7_loanAt wsX7_loanAt) := goodIn_app (goodIn_of _ (by decide +kernel)) ggX7_pay_X7_loanAt
set_option maxRecDepth 20000 in
theorem ggX7_pay_X2_isRunning : GoodIn wsX7_pay wsX2_isRunning := goodIn_r _ [16, 17, 118, 119, 120, 121, 122, 123, 124, 125, 126, 127] (by decide +kernel) (by decide +kernel)
set_option maxRecDepth 20000 in
theorem gX7_pay_X2_isRunning : GoodIn wsX7_pay (wsV RX7 119 RX2 yX2_isRunning wsX2_isRunning) := goodIn_app (goodIn_of _ (by decide +kernel)) ggX7_pay_X2_isRunning
set_option maxRecDepth 20000 in
theorem ggX7_pay_X7_requireState : GoodIn wsX7_pay wsX7_requireState := goodIn_ca (goodIn_r _ [20, 21, 22] (by decide +kernel) (by decide +kernel)) (goodIn_sub (fun _ h => List.mem_cons_of_mem _ (List.mem_append_right _ h)) (by decide +kernel))
set_option maxRecDepth 20000 in
theorem gX7_pay_X7_requireState : GoodIn wsX7_pay (va_wsS RX7 108 yX7_requireState wsX7_requireState) := goodIn_app (goodIn_of _ (by decide +kernel)) ggX7_pay_X7_requireState
set_option maxRecDepth 20000 in
theorem ggX7_pay_X1_remember : GoodIn wsX7_pay wsX1_remember := goodIn_r _ [27, 28, 29, 30, 31, 32, 33, 34, 35, 36, 37, 38, 39, 40, 41, 42, 43, 44, 45, 15, 46, 47, 17, 48, 49, 50, 51, 52, 53, 54, 55, 56, 57, 58, 59, 60, 61, 62, 63, 64, 65, 66, 67, 68, 69, 128, 129, 130, 115, 116, 117, 118, 119, 120, 121, 122, 123, 124, 125, 126, 127, 131, 132, 133, 134, 135] (by decide +kernel) (by decide +kernel)
set_option maxRecDepth 20000 in
theorem gX7_pay_X1_remember : GoodIn wsX7_pay (wsV RX7 97 RX1 yX1_remember wsX1_remember) := goodIn_app (goodIn_of _ (by decide +kernel)) ggX7_pay_X1_remember
set_option maxRecDepth 20000 in
theorem ggX7_pay_X3_settle : GoodIn wsX7_pay wsX3_settle := goodIn_r _ [73, 41, 42, 74, 75, 76, 38, 77, 40, 78, 79, 80, 15, 81, 17, 48, 51, 82, 83, 84, 85, 86, 49, 54, 87, 88, 89, 90, 52, 91, 92, 93, 94, 50, 95, 96, 97, 98, 53, 99, 100, 101, 59, 102, 68, 61, 66, 67, 69, 103, 32, 33, 34, 115, 116, 117, 118, 119, 120, 121, 122, 123, 124, 125, 126, 127, 131, 132, 133, 134, 135] (by decide +kernel) (by decide +kernel)
set_option maxRecDepth 20000 in
theorem gX7_pay_X3_settle : GoodIn wsX7_pay (wsV RX7 122 RX3 yX3_settle wsX3_settle) := goodIn_app (goodIn_of _ (by decide +kernel)) ggX7_pay_X3_settle
theorem dX7_pay_0 : decode cX7_pay 0 = .ok (.aload_n 0, 1) := by decide +kernel
theorem dX7_pay_1 : decode cX7_pay 1 = .ok (.iload_n 1, 1) := by decide +kernel
theorem dX7_pay_2 : decode cX7_pay 2 = .ok (.invokevirtual 115, 3) := by decide +kernel
theorem dX7_pay_5 : decode cX7_pay 5 = .ok (.invokevirtual 119, 3) := by decide +kernel
theorem dX7_pay_8 : decode cX7_pay 8 = .ok (.invokestatic 108, 3) := by decide +kernel
theorem dX7_pay_11 : decode cX7_pay 11 = .ok (.aload_n 0, 1) := by decide +kernel
theorem dX7_pay_12 : decode cX7_pay 12 = .ok (.getfield 27, 3) := by decide +kernel
theorem dX7_pay_15 : decode cX7_pay 15 = .ok (.aload_n 0, 1) := by decide +kernel
theorem dX7_pay_16 : decode cX7_pay 16 = .ok (.getfield 20, 3) := by decide +kernel
theorem dX7_pay_19 : decode cX7_pay 19 = .ok (.invokevirtual 97, 3) := by decide +kernel
theorem dX7_pay_22 : decode cX7_pay 22 = .ok (.aload_n 0, 1) := by decide +kernel
theorem dX7_pay_23 : decode cX7_pay 23 = .ok (.getfield 20, 3) := by decide +kernel
theorem dX7_pay_26 : decode cX7_pay 26 = .ok (.iload_n 1, 1) := by decide +kernel
theorem dX7_pay_27 : decode cX7_pay 27 = .ok (.invokevirtual 122, 3) := by decide +kernel
theorem dX7_pay_30 : decode cX7_pay 30 = .ok (.ireturn, 1) := by decide +kernel
set_option maxRecDepth 20000 in
theorem ggX7_payAll_X1_remember : GoodIn wsX7_payAll wsX1_remember := goodIn_r _ [7, 8, 9, 10, 11, 12, 13, 14, 15, 16, 17, 18, 19, 20, 21, 22, 23, 24, 25, 26, 27, 28, 29, 30, 31, 32, 33, 34, 35, 36, 37, 38, 39, 40, 41, 42, 43, 44, 45, 46, 47, 48, 49, 50, 51, 105, 106, 107, 108, 109, 110, 111, 112, 113, 114, 115, 116, 117, 118, 119, 120, 121, 122, 123, 124, 125] (by decide +kernel) (by decide +kernel)
set_option maxRecDepth 20000 in
theorem gX7_payAll_X1_remember : GoodIn wsX7_payAll (wsV RX7 97 RX1 yX1_remember wsX1_remember) := goodIn_app (goodIn_of _ (by decide +kernel)) ggX7_payAll_X1_remember
set_option maxRecDepth 20000 in
theorem ggX7_payAll_X3_settleAll : GoodIn wsX7_payAll wsX3_settleAll := goodIn_r _ [55, 20, 21, 56, 57, 58, 26, 59, 29, 60, 61, 62, 18, 63, 22, 64, 65, 66, 67, 68, 69, 70, 71, 30, 33, 72, 73, 74, 75, 76, 31, 36, 77, 78, 79, 80, 34, 81, 82, 83, 84, 32, 85, 86, 87, 88, 35, 89, 90, 91, 41, 92, 50, 43, 48, 49, 51, 93, 12, 13, 14, 108, 109, 110, 111, 112, 113, 114, 115, 116, 117, 118, 119, 120, 121, 122, 123, 124, 125] (by decide +kernel) (by decide +kernel)
set_option maxRecDepth 20000 in
theorem gX7_payAll_X3_settleAll : GoodIn wsX7_payAll (wsV RX7 126 RX3 yX3_settleAll wsX3_settleAll) := goodIn_app (goodIn_of _ (by decide +kernel)) ggX7_payAll_X3_settleAll
theorem dX7_payAll_0 : decode cX7_payAll 0 = .ok (.aload_n 0, 1) := by decide +kernel
theorem dX7_payAll_1 : decode cX7_payAll 1 = .ok (.getfield 27, 3) := by decide +kernel
theorem dX7_payAll_4 : decode cX7_payAll 4 = .ok (.aload_n 0, 1) := by decide +kernel
theorem dX7_payAll_5 : decode cX7_payAll 5 = .ok (.getfield 20, 3) := by decide +kernel
theorem dX7_payAll_8 : decode cX7_payAll 8 = .ok (.invokevirtual 97, 3) := by decide +kernel
theorem dX7_payAll_11 : decode cX7_payAll 11 = .ok (.aload_n 0, 1) := by decide +kernel
theorem dX7_payAll_12 : decode cX7_payAll 12 = .ok (.getfield 20, 3) := by decide +kernel
theorem dX7_payAll_15 : decode cX7_payAll 15 = .ok (.invokevirtual 126, 3) := by decide +kernel
theorem dX7_payAll_18 : decode cX7_payAll 18 = .ok (.ireturn, 1) := by decide +kernel
set_option maxRecDepth 20000 in
theorem ggX7_payExtra_X7_loanAt : GoodIn wsX7_payExtra wsX7_loanAt := goodIn_ca (goodIn_r _ [9, 10, 11, 3, 12, 13, 111, 112, 113, 114, 115, 116, 117, 118, 119, 120, 121, 132, 133, 134] (by decide +kernel) (by decide +kernel)) (goodIn_sub (fun _ h => List.mem_cons_of_mem _ (List.mem_append_left _ (List.mem_append_left _ (List.mem_append_right _ h)))) (by decide +kernel))
set_option maxRecDepth 20000 in
theorem gX7_payExtra_X7_loanAt : GoodIn wsX7_payExtra (wsV RX7 115 RX7 yX7_loanAt wsX7_loanAt) := goodIn_app (goodIn_of _ (by decide +kernel)) ggX7_payExtra_X7_loanAt
set_option maxRecDepth 20000 in
theorem ggX7_payExtra_X7_requireRange : GoodIn wsX7_payExtra wsX7_requireRange := goodIn_ca (goodIn_r _ [16, 17, 18] (by decide +kernel) (by decide +kernel)) (goodIn_sub (fun _ h => List.mem_cons_of_mem _ (List.mem_append_left _ (List.mem_append_right _ h))) (by decide +kernel))
set_option maxRecDepth 20000 in
theorem gX7_payExtra_X7_requireRange : GoodIn wsX7_payExtra (va_wsS RX7 90 yX7_requireRange wsX7_requireRange) := goodIn_app (goodIn_of _ (by decide +kernel)) ggX7_payExtra_X7_requireRange
set_option maxRecDepth 20000 in
theorem ggX7_payExtra_X2_canReduce : GoodIn wsX7_payExtra wsX2_canReduce := goodIn_r _ [23, 24, 122, 123, 124, 125, 126, 127, 128, 129, 130, 131] (by decide +kernel) (by decide +kernel)
set_option maxRecDepth 20000 in
theorem gX7_payExtra_X2_canReduce : GoodIn wsX7_payExtra (wsV RX7 129 RX2 yX2_canReduce wsX2_canReduce) := goodIn_app (goodIn_of _ (by decide +kernel)) ggX7_payExtra_X2_canReduce
set_option maxRecDepth 20000 in
theorem ggX7_payExtra_X7_requireState : GoodIn wsX7_payExtra wsX7_requireState := goodIn_ca (goodIn_r _ [27, 28, 29] (by decide +kernel) (by decide +kernel)) (goodIn_sub (fun _ h => List.mem_cons_of_mem _ (List.mem_append_right _ h)) (by decide +kernel))
set_option maxRecDepth 20000 in
theorem gX7_payExtra_X7_requireState : GoodIn wsX7_payExtra (va_wsS RX7 108 yX7_requireState wsX7_requireState) := goodIn_app (goodIn_of _ (by decide +kernel)) ggX7_payExtra_X7_requireState
set_option maxRecDepth 20000 in
theorem ggX7_payExtra_X1_remember : GoodIn wsX7_payExtra wsX1_remember := goodIn_r _ [34, 35, 36, 37, 38, 39, 40, 41, 42, 43, 44, 45, 46, 47, 48, 49, 50, 51, 52, 22, 53, 54, 24, 55, 56, 57, 58, 59, 60, 61, 62, 63, 64, 65, 66, 67, 68, 69, 70, 71, 72, 73, 74, 75, 76, 135, 136, 137, 132, 133, 134, 122, 123, 124, 125, 126, 127, 128, 129, 130, 131, 138, 139, 140, 141, 142] (by decide +kernel) (by decide +kernel)
set_option maxRecDepth 20000 in
theorem gX7_payExtra_X1_remember : GoodIn wsX7_payExtra (wsV RX7 97 RX1 yX1_remember wsX1_remember) := goodIn_app (goodIn_of _ (by decide +kernel)) ggX7_payExtra_X1_remember
set_option maxRecDepth 20000 in
theorem ggX7_payExtra_X3_reduce : GoodIn wsX7_payExtra wsX3_reduce := goodIn_r _ [80, 48, 49, 81, 82, 83, 45, 84, 47, 85, 86, 87, 22, 88, 24, 56, 57, 89, 90, 91, 92, 60, 58, 93, 94, 95, 96, 97, 98, 99, 100, 55, 101, 102, 103, 104, 105, 106, 107, 108, 66, 109, 75, 68, 73, 74, 76, 110, 39, 40, 41, 132, 133, 134, 122, 123, 124, 125, 126, 127, 128, 129, 130, 131, 138, 139, 140, 141, 142] (by decide +kernel) (by decide +kernel)
set_option maxRecDepth 20000 in
theorem gX7_payExtra_X3_reduce : GoodIn wsX7_payExtra (wsV RX7 133 RX3 yX3_reduce wsX3_reduce) := goodIn_app (goodIn_of _ (by decide +kernel)) ggX7_payExtra_X3_reduce
theorem dX7_payExtra_0 : decode cX7_payExtra 0 = .ok (.aload_n 0, 1) := by decide +kernel
theorem dX7_payExtra_1 : decode cX7_payExtra 1 = .ok (.iload_n 1, 1) := by decide +kernel
theorem dX7_payExtra_2 : decode cX7_payExtra 2 = .ok (.invokevirtual 115, 3) := by decide +kernel
theorem dX7_payExtra_5 : decode cX7_payExtra 5 = .ok (.astore 4, 2) := by decide +kernel
theorem dX7_payExtra_7 : decode cX7_payExtra 7 = .ok (.iload_n 2, 1) := by decide +kernel
theorem dX7_payExtra_8 : decode cX7_payExtra 8 = .ok (.iconst 1, 1) := by decide +kernel
theorem dX7_payExtra_9 : decode cX7_payExtra 9 = .ok (.ldc 103, 2) := by decide +kernel
theorem dX7_payExtra_11 : decode cX7_payExtra 11 = .ok (.invokestatic 90, 3) := by decide +kernel
theorem dX7_payExtra_14 : decode cX7_payExtra 14 = .ok (.aload 4, 2) := by decide +kernel
theorem dX7_payExtra_16 : decode cX7_payExtra 16 = .ok (.iload_n 2, 1) := by decide +kernel
theorem dX7_payExtra_17 : decode cX7_payExtra 17 = .ok (.invokevirtual 129, 3) := by decide +kernel
theorem dX7_payExtra_20 : decode cX7_payExtra 20 = .ok (.invokestatic 108, 3) := by decide +kernel
theorem dX7_payExtra_23 : decode cX7_payExtra 23 = .ok (.aload_n 0, 1) := by decide +kernel
theorem dX7_payExtra_24 : decode cX7_payExtra 24 = .ok (.getfield 27, 3) := by decide +kernel
theorem dX7_payExtra_27 : decode cX7_payExtra 27 = .ok (.aload_n 0, 1) := by decide +kernel
theorem dX7_payExtra_28 : decode cX7_payExtra 28 = .ok (.getfield 20, 3) := by decide +kernel
theorem dX7_payExtra_31 : decode cX7_payExtra 31 = .ok (.invokevirtual 97, 3) := by decide +kernel
theorem dX7_payExtra_34 : decode cX7_payExtra 34 = .ok (.aload_n 0, 1) := by decide +kernel
theorem dX7_payExtra_35 : decode cX7_payExtra 35 = .ok (.getfield 20, 3) := by decide +kernel
theorem dX7_payExtra_38 : decode cX7_payExtra 38 = .ok (.iload_n 1, 1) := by decide +kernel
theorem dX7_payExtra_39 : decode cX7_payExtra 39 = .ok (.iload_n 2, 1) := by decide +kernel
theorem dX7_payExtra_40 : decode cX7_payExtra 40 = .ok (.iload_n 3, 1) := by decide +kernel
theorem dX7_payExtra_41 : decode cX7_payExtra 41 = .ok (.invokevirtual 133, 3) := by decide +kernel
theorem dX7_payExtra_44 : decode cX7_payExtra 44 = .ok (.aload 4, 2) := by decide +kernel
theorem dX7_payExtra_46 : decode cX7_payExtra 46 = .ok (.getfield 137, 3) := by decide +kernel
theorem dX7_payExtra_49 : decode cX7_payExtra 49 = .ok (.ireturn, 1) := by decide +kernel
set_option maxRecDepth 20000 in
theorem ggX7_skipMonth_X7_loanAt : GoodIn wsX7_skipMonth wsX7_loanAt := goodIn_ca (goodIn_r _ [7, 8, 9, 2, 10, 11, 92, 93, 94, 95, 96, 97, 98, 99, 100, 101, 102, 103, 104, 105] (by decide +kernel) (by decide +kernel)) (goodIn_sub (fun _ h => List.mem_cons_of_mem _ (List.mem_append_left _ (List.mem_append_right _ h))) (by decide +kernel))
set_option maxRecDepth 20000 in
theorem gX7_skipMonth_X7_loanAt : GoodIn wsX7_skipMonth (wsV RX7 115 RX7 yX7_loanAt wsX7_loanAt) := goodIn_app (goodIn_of _ (by decide +kernel)) ggX7_skipMonth_X7_loanAt
set_option maxRecDepth 20000 in
theorem ggX7_skipMonth_X2_canDefer : GoodIn wsX7_skipMonth wsX2_canDefer := goodIn_r _ [16, 17, 18, 19, 20, 21, 22, 15, 23, 24, 25, 26, 106, 107, 108, 109, 110, 111, 112, 113, 114, 115] (by decide +kernel) (by decide +kernel)
set_option maxRecDepth 20000 in
theorem gX7_skipMonth_X2_canDefer : GoodIn wsX7_skipMonth (wsV RX7 140 RX2 yX2_canDefer wsX2_canDefer) := goodIn_app (goodIn_of _ (by decide +kernel)) ggX7_skipMonth_X2_canDefer
set_option maxRecDepth 20000 in
theorem ggX7_skipMonth_X7_requireState : GoodIn wsX7_skipMonth wsX7_requireState := goodIn_ca (goodIn_r _ [29, 30, 31] (by decide +kernel) (by decide +kernel)) (goodIn_sub (fun _ h => List.mem_cons_of_mem _ (List.mem_append_right _ h)) (by decide +kernel))
set_option maxRecDepth 20000 in
theorem gX7_skipMonth_X7_requireState : GoodIn wsX7_skipMonth (va_wsS RX7 108 yX7_requireState wsX7_requireState) := goodIn_app (goodIn_of _ (by decide +kernel)) ggX7_skipMonth_X7_requireState
set_option maxRecDepth 20000 in
theorem ggX7_skipMonth_X1_remember : GoodIn wsX7_skipMonth wsX1_remember := goodIn_r _ [36, 37, 38, 39, 40, 41, 42, 43, 44, 45, 46, 47, 48, 49, 50, 51, 52, 53, 54, 15, 55, 56, 17, 24, 57, 58, 25, 59, 60, 61, 18, 62, 63, 64, 65, 66, 67, 68, 69, 70, 71, 72, 73, 74, 75, 116, 117, 118, 103, 104, 105, 106, 107, 108, 109, 110, 111, 112, 113, 114, 115, 119, 120, 121, 122, 123] (by decide +kernel) (by decide +kernel)
set_option maxRecDepth 20000 in
theorem gX7_skipMonth_X1_remember : GoodIn wsX7_skipMonth (wsV RX7 97 RX1 yX1_remember wsX1_remember) := goodIn_app (goodIn_of _ (by decide +kernel)) ggX7_skipMonth_X1_remember
set_option maxRecDepth 20000 in
theorem ggX7_skipMonth_X2_defer : GoodIn wsX7_skipMonth wsX2_defer := goodIn_r _ [79, 18, 57, 58, 80, 81, 82, 15, 83, 17, 24, 25, 26, 59, 84, 85, 86, 87, 20, 21, 22, 23, 88, 89, 90, 91, 106, 107, 108, 109, 110, 111, 112, 113, 114, 115] (by decide +kernel) (by decide +kernel)
set_option maxRecDepth 20000 in
theorem gX7_skipMonth_X2_defer : GoodIn wsX7_skipMonth (wsV RX7 143 RX2 yX2_defer wsX2_defer) := goodIn_app (goodIn_of _ (by decide +kernel)) ggX7_skipMonth_X2_defer
theorem dX7_skipMonth_0 : decode cX7_skipMonth 0 = .ok (.aload_n 0, 1) := by decide +kernel
theorem dX7_skipMonth_1 : decode cX7_skipMonth 1 = .ok (.iload_n 1, 1) := by decide +kernel
theorem dX7_skipMonth_2 : decode cX7_skipMonth 2 = .ok (.invokevirtual 115, 3) := by decide +kernel
theorem dX7_skipMonth_5 : decode cX7_skipMonth 5 = .ok (.astore_n 2, 1) := by decide +kernel
theorem dX7_skipMonth_6 : decode cX7_skipMonth 6 = .ok (.aload_n 2, 1) := by decide +kernel
theorem dX7_skipMonth_7 : decode cX7_skipMonth 7 = .ok (.invokevirtual 140, 3) := by decide +kernel
theorem dX7_skipMonth_10 : decode cX7_skipMonth 10 = .ok (.invokestatic 108, 3) := by decide +kernel
theorem dX7_skipMonth_13 : decode cX7_skipMonth 13 = .ok (.aload_n 0, 1) := by decide +kernel
theorem dX7_skipMonth_14 : decode cX7_skipMonth 14 = .ok (.getfield 27, 3) := by decide +kernel
theorem dX7_skipMonth_17 : decode cX7_skipMonth 17 = .ok (.aload_n 0, 1) := by decide +kernel
theorem dX7_skipMonth_18 : decode cX7_skipMonth 18 = .ok (.getfield 20, 3) := by decide +kernel
theorem dX7_skipMonth_21 : decode cX7_skipMonth 21 = .ok (.invokevirtual 97, 3) := by decide +kernel
theorem dX7_skipMonth_24 : decode cX7_skipMonth 24 = .ok (.aload_n 2, 1) := by decide +kernel
theorem dX7_skipMonth_25 : decode cX7_skipMonth 25 = .ok (.invokevirtual 143, 3) := by decide +kernel
theorem dX7_skipMonth_28 : decode cX7_skipMonth 28 = .ok (.ireturn, 1) := by decide +kernel
set_option maxRecDepth 20000 in
theorem ggX7_changeRate_X7_loanAt : GoodIn wsX7_changeRate wsX7_loanAt := goodIn_ca (goodIn_r _ [8, 9, 10, 2, 11, 12, 93, 94, 95, 96, 97, 98, 99, 100, 101, 102, 103, 114, 115, 116] (by decide +kernel) (by decide +kernel)) (goodIn_sub (fun _ h => List.mem_cons_of_mem _ (List.mem_append_left _ (List.mem_append_left _ (List.mem_append_right _ h)))) (by decide +kernel))
set_option maxRecDepth 20000 in
theorem gX7_changeRate_X7_loanAt : GoodIn wsX7_changeRate (wsV RX7 115 RX7 yX7_loanAt wsX7_loanAt) := goodIn_app (goodIn_of _ (by decide +kernel)) ggX7_changeRate_X7_loanAt
set_option maxRecDepth 20000 in
theorem ggX7_changeRate_X7_requireRange : GoodIn wsX7_changeRate wsX7_requireRange := goodIn_ca (goodIn_r _ [15, 16, 17] (by decide +kernel) (by decide +kernel)) (goodIn_sub (fun _ h => List.mem_cons_of_mem _ (List.mem_append_left _ (List.mem_append_right _ h))) (by decide +kernel))
set_option maxRecDepth 20000 in
theorem gX7_changeRate_X7_requireRange : GoodIn wsX7_changeRate (va_wsS RX7 90 yX7_requireRange wsX7_requireRange) := goodIn_app (goodIn_of _ (by decide +kernel)) ggX7_changeRate_X7_requireRange
set_option maxRecDepth 20000 in
theorem ggX7_changeRate_X2_isRunning : GoodIn wsX7_changeRate wsX2_isRunning := goodIn_r _ [22, 23, 104, 105, 106, 107, 108, 109, 110, 111, 112, 113] (by decide +kernel) (by decide +kernel)
set_option maxRecDepth 20000 in
theorem gX7_changeRate_X2_isRunning : GoodIn wsX7_changeRate (wsV RX7 119 RX2 yX2_isRunning wsX2_isRunning) := goodIn_app (goodIn_of _ (by decide +kernel)) ggX7_changeRate_X2_isRunning
set_option maxRecDepth 20000 in
theorem ggX7_changeRate_X7_requireState : GoodIn wsX7_changeRate wsX7_requireState := goodIn_ca (goodIn_r _ [26, 27, 28] (by decide +kernel) (by decide +kernel)) (goodIn_sub (fun _ h => List.mem_cons_of_mem _ (List.mem_append_right _ h)) (by decide +kernel))
set_option maxRecDepth 20000 in
theorem gX7_changeRate_X7_requireState : GoodIn wsX7_changeRate (va_wsS RX7 108 yX7_requireState wsX7_requireState) := goodIn_app (goodIn_of _ (by decide +kernel)) ggX7_changeRate_X7_requireState
set_option maxRecDepth 20000 in
theorem ggX7_changeRate_X1_remember : GoodIn wsX7_changeRate wsX1_remember := goodIn_r _ [33, 34, 35, 36, 37, 38, 39, 40, 41, 42, 43, 44, 45, 46, 47, 48, 49, 50, 51, 21, 52, 53, 23, 54, 55, 56, 57, 58, 59, 60, 61, 62, 63, 64, 65, 66, 67, 68, 69, 70, 71, 72, 73, 74, 75, 117, 118, 119, 114, 115, 116, 104, 105, 106, 107, 108, 109, 110, 111, 112, 113, 120, 121, 122, 123, 124] (by decide +kernel) (by decide +kernel)
set_option maxRecDepth 20000 in
theorem gX7_changeRate_X1_remember : GoodIn wsX7_changeRate (wsV RX7 97 RX1 yX1_remember wsX1_remember) := goodIn_app (goodIn_of _ (by decide +kernel)) ggX7_changeRate_X1_remember
set_option maxRecDepth 20000 in
theorem ggX7_changeRate_X2_setTerms : GoodIn wsX7_changeRate wsX2_setTerms := goodIn_r _ [79, 54, 55, 56, 80, 81, 82, 21, 83, 23, 84, 85, 86, 87, 57, 88, 89, 90, 91, 92, 104, 105, 106, 107, 108, 109, 110, 111, 112, 113] (by decide +kernel) (by decide +kernel)
set_option maxRecDepth 20000 in
theorem gX7_changeRate_X2_setTerms : GoodIn wsX7_changeRate (wsV RX7 149 RX2 yX2_setTerms wsX2_setTerms) := goodIn_app (goodIn_of _ (by decide +kernel)) ggX7_changeRate_X2_setTerms
theorem dX7_changeRate_0 : decode cX7_changeRate 0 = .ok (.aload_n 0, 1) := by decide +kernel
theorem dX7_changeRate_1 : decode cX7_changeRate 1 = .ok (.iload_n 1, 1) := by decide +kernel
theorem dX7_changeRate_2 : decode cX7_changeRate 2 = .ok (.invokevirtual 115, 3) := by decide +kernel
theorem dX7_changeRate_5 : decode cX7_changeRate 5 = .ok (.astore_n 3, 1) := by decide +kernel
theorem dX7_changeRate_6 : decode cX7_changeRate 6 = .ok (.iload_n 2, 1) := by decide +kernel
theorem dX7_changeRate_7 : decode cX7_changeRate 7 = .ok (.iconst 0, 1) := by decide +kernel
theorem dX7_changeRate_8 : decode cX7_changeRate 8 = .ok (.sipush 3000, 3) := by decide +kernel
theorem dX7_changeRate_11 : decode cX7_changeRate 11 = .ok (.invokestatic 90, 3) := by decide +kernel
theorem dX7_changeRate_14 : decode cX7_changeRate 14 = .ok (.aload_n 3, 1) := by decide +kernel
theorem dX7_changeRate_15 : decode cX7_changeRate 15 = .ok (.invokevirtual 119, 3) := by decide +kernel
theorem dX7_changeRate_18 : decode cX7_changeRate 18 = .ok (.invokestatic 108, 3) := by decide +kernel
theorem dX7_changeRate_21 : decode cX7_changeRate 21 = .ok (.aload_n 0, 1) := by decide +kernel
theorem dX7_changeRate_22 : decode cX7_changeRate 22 = .ok (.getfield 27, 3) := by decide +kernel
theorem dX7_changeRate_25 : decode cX7_changeRate 25 = .ok (.aload_n 0, 1) := by decide +kernel
theorem dX7_changeRate_26 : decode cX7_changeRate 26 = .ok (.getfield 20, 3) := by decide +kernel
theorem dX7_changeRate_29 : decode cX7_changeRate 29 = .ok (.invokevirtual 97, 3) := by decide +kernel
theorem dX7_changeRate_32 : decode cX7_changeRate 32 = .ok (.aload_n 3, 1) := by decide +kernel
theorem dX7_changeRate_33 : decode cX7_changeRate 33 = .ok (.iload_n 2, 1) := by decide +kernel
theorem dX7_changeRate_34 : decode cX7_changeRate 34 = .ok (.aload_n 3, 1) := by decide +kernel
theorem dX7_changeRate_35 : decode cX7_changeRate 35 = .ok (.getfield 146, 3) := by decide +kernel
theorem dX7_changeRate_38 : decode cX7_changeRate 38 = .ok (.invokevirtual 149, 3) := by decide +kernel
theorem dX7_changeRate_41 : decode cX7_changeRate 41 = .ok (.ireturn, 1) := by decide +kernel
set_option maxRecDepth 20000 in
theorem ggX7_extendTerm_X7_loanAt : GoodIn wsX7_extendTerm wsX7_loanAt := goodIn_ca (goodIn_r _ [9, 10, 11, 2, 12, 13, 94, 95, 96, 97, 98, 99, 100, 101, 102, 103, 104, 115, 116, 117] (by decide +kernel) (by decide +kernel)) (goodIn_sub (fun _ h => List.mem_cons_of_mem _ (List.mem_append_left _ (List.mem_append_left _ (List.mem_append_right _ h)))) (by decide +kernel))
set_option maxRecDepth 20000 in
theorem gX7_extendTerm_X7_loanAt : GoodIn wsX7_extendTerm (wsV RX7 115 RX7 yX7_loanAt wsX7_loanAt) := goodIn_app (goodIn_of _ (by decide +kernel)) ggX7_extendTerm_X7_loanAt
set_option maxRecDepth 20000 in
theorem ggX7_extendTerm_X7_requireRange : GoodIn wsX7_extendTerm wsX7_requireRange := goodIn_ca (goodIn_r _ [16, 17, 18] (by decide +kernel) (by decide +kernel)) (goodIn_sub (fun _ h => List.mem_cons_of_mem _ (List.mem_append_left _ (List.mem_append_right _ h))) (by decide +kernel))
set_option maxRecDepth 20000 in
theorem gX7_extendTerm_X7_requireRange : GoodIn wsX7_extendTerm (va_wsS RX7 90 yX7_requireRange wsX7_requireRange) := goodIn_app (goodIn_of _ (by decide +kernel)) ggX7_extendTerm_X7_requireRange
set_option maxRecDepth 20000 in
theorem ggX7_extendTerm_X2_canLengthen : GoodIn wsX7_extendTerm wsX2_canLengthen := goodIn_r _ [23, 24, 25, 105, 106, 107, 108, 109, 110, 111, 112, 113, 114] (by decide +kernel) (by decide +kernel)
set_option maxRecDepth 20000 in
theorem gX7_extendTerm_X2_canLengthen : GoodIn wsX7_extendTerm (wsV RX7 153 RX2 yX2_canLengthen wsX2_canLengthen) := goodIn_app (goodIn_of _ (by decide +kernel)) ggX7_extendTerm_X2_canLengthen
set_option maxRecDepth 20000 in
theorem ggX7_extendTerm_X7_requireState : GoodIn wsX7_extendTerm wsX7_requireState := goodIn_ca (goodIn_r _ [28, 29, 30] (by decide +kernel) (by decide +kernel)) (goodIn_sub (fun _ h => List.mem_cons_of_mem _ (List.mem_append_right _ h)) (by decide +kernel))
set_option maxRecDepth 20000 in
theorem gX7_extendTerm_X7_requireState : GoodIn wsX7_extendTerm (va_wsS RX7 108 yX7_requireState wsX7_requireState) := goodIn_app (goodIn_of _ (by decide +kernel)) ggX7_extendTerm_X7_requireState
set_option maxRecDepth 20000 in
theorem ggX7_extendTerm_X1_remember : GoodIn wsX7_extendTerm wsX1_remember := goodIn_r _ [35, 36, 37, 38, 39, 40, 41, 42, 43, 44, 45, 46, 47, 48, 49, 50, 51, 52, 53, 22, 54, 55, 24, 56, 25, 57, 58, 59, 60, 61, 62, 63, 64, 65, 66, 67, 68, 69, 70, 71, 72, 73, 74, 75, 76, 118, 119, 120, 115, 116, 117, 105, 106, 107, 108, 109, 110, 111, 112, 113, 114, 121, 122, 123, 124, 125] (by decide +kernel) (by decide +kernel)
set_option maxRecDepth 20000 in
theorem gX7_extendTerm_X1_remember : GoodIn wsX7_extendTerm (wsV RX7 97 RX1 yX1_remember wsX1_remember) := goodIn_app (goodIn_of _ (by decide +kernel)) ggX7_extendTerm_X1_remember
set_option maxRecDepth 20000 in
theorem ggX7_extendTerm_X2_setTerms : GoodIn wsX7_extendTerm wsX2_setTerms := goodIn_r _ [80, 56, 25, 57, 81, 82, 83, 22, 84, 24, 85, 86, 87, 88, 58, 89, 90, 91, 92, 93, 105, 106, 107, 108, 109, 110, 111, 112, 113, 114] (by decide +kernel) (by decide +kernel)
set_option maxRecDepth 20000 in
theorem gX7_extendTerm_X2_setTerms : GoodIn wsX7_extendTerm (wsV RX7 149 RX2 yX2_setTerms wsX2_setTerms) := goodIn_app (goodIn_of _ (by decide +kernel)) ggX7_extendTerm_X2_setTerms
theorem dX7_extendTerm_0 : decode cX7_extendTerm 0 = .ok (.aload_n 0, 1) := by decide +kernel
theorem dX7_extendTerm_1 : decode cX7_extendTerm 1 = .ok (.iload_n 1, 1) := by decide +kernel
theorem dX7_extendTerm_2 : decode cX7_extendTerm 2 = .ok (.invokevirtual 115, 3) := by decide +kernel
theorem dX7_extendTerm_5 : decode cX7_extendTerm 5 = .ok (.astore_n 3, 1) := by decide +kernel
theorem dX7_extendTerm_6 : decode cX7_extendTerm 6 = .ok (.iload_n 2, 1) := by decide +kernel
theorem dX7_extendTerm_7 : decode cX7_extendTerm 7 = .ok (.iconst 1, 1) := by decide +kernel
theorem dX7_extendTerm_8 : decode cX7_extendTerm 8 = .ok (.bipush 60, 2) := by decide +kernel
theorem dX7_extendTerm_10 : decode cX7_extendTerm 10 = .ok (.invokestatic 90, 3) := by decide +kernel
theorem dX7_extendTerm_13 : decode cX7_extendTerm 13 = .ok (.aload_n 3, 1) := by decide +kernel
theorem dX7_extendTerm_14 : decode cX7_extendTerm 14 = .ok (.iload_n 2, 1) := by decide +kernel
theorem dX7_extendTerm_15 : decode cX7_extendTerm 15 = .ok (.invokevirtual 153, 3) := by decide +kernel
theorem dX7_extendTerm_18 : decode cX7_extendTerm 18 = .ok (.invokestatic 108, 3) := by decide +kernel
theorem dX7_extendTerm_21 : decode cX7_extendTerm 21 = .ok (.aload_n 0, 1) := by decide +kernel
theorem dX7_extendTerm_22 : decode cX7_extendTerm 22 = .ok (.getfield 27, 3) := by decide +kernel
theorem dX7_extendTerm_25 : decode cX7_extendTerm 25 = .ok (.aload_n 0, 1) := by decide +kernel
theorem dX7_extendTerm_26 : decode cX7_extendTerm 26 = .ok (.getfield 20, 3) := by decide +kernel
theorem dX7_extendTerm_29 : decode cX7_extendTerm 29 = .ok (.invokevirtual 97, 3) := by decide +kernel
theorem dX7_extendTerm_32 : decode cX7_extendTerm 32 = .ok (.aload_n 3, 1) := by decide +kernel
theorem dX7_extendTerm_33 : decode cX7_extendTerm 33 = .ok (.aload_n 3, 1) := by decide +kernel
theorem dX7_extendTerm_34 : decode cX7_extendTerm 34 = .ok (.getfield 156, 3) := by decide +kernel
theorem dX7_extendTerm_37 : decode cX7_extendTerm 37 = .ok (.aload_n 3, 1) := by decide +kernel
theorem dX7_extendTerm_38 : decode cX7_extendTerm 38 = .ok (.getfield 146, 3) := by decide +kernel
theorem dX7_extendTerm_41 : decode cX7_extendTerm 41 = .ok (.iload_n 2, 1) := by decide +kernel
theorem dX7_extendTerm_42 : decode cX7_extendTerm 42 = .ok (.iadd, 1) := by decide +kernel
theorem dX7_extendTerm_43 : decode cX7_extendTerm 43 = .ok (.invokevirtual 149, 3) := by decide +kernel
theorem dX7_extendTerm_46 : decode cX7_extendTerm 46 = .ok (.ireturn, 1) := by decide +kernel
set_option maxRecDepth 20000 in
theorem ggX7_refinance_X7_loanAt : GoodIn wsX7_refinance wsX7_loanAt := goodIn_ca (goodIn_r _ [7, 8, 9, 2, 10, 11, 92, 93, 94, 95, 96, 97, 98, 99, 100, 101, 102, 103, 104, 105] (by decide +kernel) (by decide +kernel)) (goodIn_sub (fun _ h => List.mem_cons_of_mem _ (List.mem_append_left _ (List.mem_append_left _ (List.mem_append_right _ h)))) (by decide +kernel))
set_option maxRecDepth 20000 in
theorem gX7_refinance_X7_loanAt : GoodIn wsX7_refinance (wsV RX7 115 RX7 yX7_loanAt wsX7_loanAt) := goodIn_app (goodIn_of _ (by decide +kernel)) ggX7_refinance_X7_loanAt
set_option maxRecDepth 20000 in
theorem ggX7_refinance_X7_requireRange : GoodIn wsX7_refinance wsX7_requireRange := goodIn_ca (goodIn_r _ [14, 15, 16] (by decide +kernel) (by decide +kernel)) (goodIn_sub (fun _ h => List.mem_cons_of_mem _ (List.mem_append_left _ (List.mem_append_right _ h))) (by decide +kernel))
set_option maxRecDepth 20000 in
theorem gX7_refinance_X7_requireRange : GoodIn wsX7_refinance (va_wsS RX7 90 yX7_requireRange wsX7_requireRange) := goodIn_app (goodIn_of _ (by decide +kernel)) ggX7_refinance_X7_requireRange
set_option maxRecDepth 20000 in
theorem ggX7_refinance_X2_isRunning : GoodIn wsX7_refinance wsX2_isRunning := goodIn_r _ [21, 22, 106, 107, 108, 109, 110, 111, 112, 113, 114, 115] (by decide +kernel) (by decide +kernel)
set_option maxRecDepth 20000 in
theorem gX7_refinance_X2_isRunning : GoodIn wsX7_refinance (wsV RX7 119 RX2 yX2_isRunning wsX2_isRunning) := goodIn_app (goodIn_of _ (by decide +kernel)) ggX7_refinance_X2_isRunning
set_option maxRecDepth 20000 in
theorem ggX7_refinance_X7_requireState : GoodIn wsX7_refinance wsX7_requireState := goodIn_ca (goodIn_r _ [25, 26, 27] (by decide +kernel) (by decide +kernel)) (goodIn_sub (fun _ h => List.mem_cons_of_mem _ (List.mem_append_right _ h)) (by decide +kernel))
set_option maxRecDepth 20000 in
theorem gX7_refinance_X7_requireState : GoodIn wsX7_refinance (va_wsS RX7 108 yX7_requireState wsX7_requireState) := goodIn_app (goodIn_of _ (by decide +kernel)) ggX7_refinance_X7_requireState
set_option maxRecDepth 20000 in
theorem ggX7_refinance_X1_remember : GoodIn wsX7_refinance wsX1_remember := goodIn_r _ [32, 33, 34, 35, 36, 37, 38, 39, 40, 41, 42, 43, 44, 45, 46, 47, 48, 49, 50, 20, 51, 52, 22, 53, 54, 55, 56, 57, 58, 59, 60, 61, 62, 63, 64, 65, 66, 67, 68, 69, 70, 71, 72, 73, 74, 116, 117, 118, 103, 104, 105, 106, 107, 108, 109, 110, 111, 112, 113, 114, 115, 119, 120, 121, 122, 123] (by decide +kernel) (by decide +kernel)
set_option maxRecDepth 20000 in
theorem gX7_refinance_X1_remember : GoodIn wsX7_refinance (wsV RX7 97 RX1 yX1_remember wsX1_remember) := goodIn_app (goodIn_of _ (by decide +kernel)) ggX7_refinance_X1_remember
set_option maxRecDepth 20000 in
theorem ggX7_refinance_X2_setTerms : GoodIn wsX7_refinance wsX2_setTerms := goodIn_r _ [78, 53, 54, 55, 79, 80, 81, 20, 82, 22, 83, 84, 85, 86, 56, 87, 88, 89, 90, 91, 106, 107, 108, 109, 110, 111, 112, 113, 114, 115] (by decide +kernel) (by decide +kernel)
set_option maxRecDepth 20000 in
theorem gX7_refinance_X2_setTerms : GoodIn wsX7_refinance (wsV RX7 149 RX2 yX2_setTerms wsX2_setTerms) := goodIn_app (goodIn_of _ (by decide +kernel)) ggX7_refinance_X2_setTerms
theorem dX7_refinance_0 : decode cX7_refinance 0 = .ok (.aload_n 0, 1) := by decide +kernel
theorem dX7_refinance_1 : decode cX7_refinance 1 = .ok (.iload_n 1, 1) := by decide +kernel
theorem dX7_refinance_2 : decode cX7_refinance 2 = .ok (.invokevirtual 115, 3) := by decide +kernel
theorem dX7_refinance_5 : decode cX7_refinance 5 = .ok (.astore 4, 2) := by decide +kernel
theorem dX7_refinance_7 : decode cX7_refinance 7 = .ok (.iload_n 2, 1) := by decide +kernel
theorem dX7_refinance_8 : decode cX7_refinance 8 = .ok (.iconst 0, 1) := by decide +kernel
theorem dX7_refinance_9 : decode cX7_refinance 9 = .ok (.sipush 3000, 3) := by decide +kernel
theorem dX7_refinance_12 : decode cX7_refinance 12 = .ok (.invokestatic 90, 3) := by decide +kernel
theorem dX7_refinance_15 : decode cX7_refinance 15 = .ok (.iload_n 3, 1) := by decide +kernel
theorem dX7_refinance_16 : decode cX7_refinance 16 = .ok (.iconst 1, 1) := by decide +kernel
theorem dX7_refinance_17 : decode cX7_refinance 17 = .ok (.bipush 120, 2) := by decide +kernel
theorem dX7_refinance_19 : decode cX7_refinance 19 = .ok (.invokestatic 90, 3) := by decide +kernel
theorem dX7_refinance_22 : decode cX7_refinance 22 = .ok (.aload 4, 2) := by decide +kernel
theorem dX7_refinance_24 : decode cX7_refinance 24 = .ok (.invokevirtual 119, 3) := by decide +kernel
theorem dX7_refinance_27 : decode cX7_refinance 27 = .ok (.invokestatic 108, 3) := by decide +kernel
theorem dX7_refinance_30 : decode cX7_refinance 30 = .ok (.aload_n 0, 1) := by decide +kernel
theorem dX7_refinance_31 : decode cX7_refinance 31 = .ok (.getfield 27, 3) := by decide +kernel
theorem dX7_refinance_34 : decode cX7_refinance 34 = .ok (.aload_n 0, 1) := by decide +kernel
theorem dX7_refinance_35 : decode cX7_refinance 35 = .ok (.getfield 20, 3) := by decide +kernel
theorem dX7_refinance_38 : decode cX7_refinance 38 = .ok (.invokevirtual 97, 3) := by decide +kernel
theorem dX7_refinance_41 : decode cX7_refinance 41 = .ok (.aload 4, 2) := by decide +kernel
theorem dX7_refinance_43 : decode cX7_refinance 43 = .ok (.iload_n 2, 1) := by decide +kernel
theorem dX7_refinance_44 : decode cX7_refinance 44 = .ok (.iload_n 3, 1) := by decide +kernel
theorem dX7_refinance_45 : decode cX7_refinance 45 = .ok (.invokevirtual 149, 3) := by decide +kernel
theorem dX7_refinance_48 : decode cX7_refinance 48 = .ok (.ireturn, 1) := by decide +kernel
set_option maxRecDepth 20000 in
theorem ggX7_spendExtra_X7_requireRange : GoodIn wsX7_spendExtra wsX7_requireRange := goodIn_ca (goodIn_r _ [7, 8, 9] (by decide +kernel) (by decide +kernel)) (goodIn_sub (fun _ h => List.mem_cons_of_mem _ (List.mem_append_right _ h)) (by decide +kernel))
set_option maxRecDepth 20000 in
theorem gX7_spendExtra_X7_requireRange : GoodIn wsX7_spendExtra (va_wsS RX7 90 yX7_requireRange wsX7_requireRange) := goodIn_app (goodIn_of _ (by decide +kernel)) ggX7_spendExtra_X7_requireRange
set_option maxRecDepth 20000 in
theorem ggX7_spendExtra_X1_remember : GoodIn wsX7_spendExtra wsX1_remember := goodIn_r _ [14, 15, 16, 17, 18, 19, 20, 21, 22, 23, 24, 25, 26, 27, 28, 29, 30, 31, 32, 33, 34, 35, 36, 37, 38, 39, 40, 41, 42, 43, 44, 45, 46, 47, 48, 49, 50, 51, 52, 53, 54, 55, 56, 57, 58, 124, 125, 126, 127, 128, 129, 130, 131, 132, 133, 134, 135, 136, 137, 138, 139, 140, 141, 142, 143, 144] (by decide +kernel) (by decide +kernel)
set_option maxRecDepth 20000 in
theorem gX7_spendExtra_X1_remember : GoodIn wsX7_spendExtra (wsV RX7 97 RX1 yX1_remember wsX1_remember) := goodIn_app (goodIn_of _ (by decide +kernel)) ggX7_spendExtra_X1_remember
set_option maxRecDepth 20000 in
theorem ggX7_spendExtra_X3_spend : GoodIn wsX7_spendExtra wsX3_spend := goodIn_r _ [62, 28, 63, 64, 19, 20, 21, 65, 66, 67, 25, 68, 27, 69, 70, 71, 72, 33, 73, 36, 74, 75, 76, 77, 78, 79, 80, 81, 82, 83, 84, 85, 86, 29, 87, 88, 89, 90, 38, 39, 91, 92, 93, 94, 42, 40, 95, 96, 97, 98, 99, 100, 101, 102, 37, 103, 104, 105, 106, 107, 108, 109, 110, 48, 111, 57, 50, 55, 56, 58, 112, 127, 128, 129, 130, 131, 132, 133, 134, 135, 136, 137, 138, 139, 140, 141, 142, 143, 144] (by decide +kernel) (by decide +kernel)
set_option maxRecDepth 20000 in
theorem gX7_spendExtra_X3_spend : GoodIn wsX7_spendExtra (wsV RX7 159 RX3 yX3_spend wsX3_spend) := goodIn_app (goodIn_of _ (by decide +kernel)) ggX7_spendExtra_X3_spend
theorem dX7_spendExtra_0 : decode cX7_spendExtra 0 = .ok (.iload_n 1, 1) := by decide +kernel
theorem dX7_spendExtra_1 : decode cX7_spendExtra 1 = .ok (.iconst 1, 1) := by decide +kernel
theorem dX7_spendExtra_2 : decode cX7_spendExtra 2 = .ok (.ldc 103, 2) := by decide +kernel
theorem dX7_spendExtra_4 : decode cX7_spendExtra 4 = .ok (.invokestatic 90, 3) := by decide +kernel
theorem dX7_spendExtra_7 : decode cX7_spendExtra 7 = .ok (.aload_n 0, 1) := by decide +kernel
theorem dX7_spendExtra_8 : decode cX7_spendExtra 8 = .ok (.getfield 27, 3) := by decide +kernel
theorem dX7_spendExtra_11 : decode cX7_spendExtra 11 = .ok (.aload_n 0, 1) := by decide +kernel
theorem dX7_spendExtra_12 : decode cX7_spendExtra 12 = .ok (.getfield 20, 3) := by decide +kernel
theorem dX7_spendExtra_15 : decode cX7_spendExtra 15 = .ok (.invokevirtual 97, 3) := by decide +kernel
theorem dX7_spendExtra_18 : decode cX7_spendExtra 18 = .ok (.aload_n 0, 1) := by decide +kernel
theorem dX7_spendExtra_19 : decode cX7_spendExtra 19 = .ok (.getfield 20, 3) := by decide +kernel
theorem dX7_spendExtra_22 : decode cX7_spendExtra 22 = .ok (.iload_n 1, 1) := by decide +kernel
theorem dX7_spendExtra_23 : decode cX7_spendExtra 23 = .ok (.iconst 1, 1) := by decide +kernel
theorem dX7_spendExtra_24 : decode cX7_spendExtra 24 = .ok (.invokevirtual 159, 3) := by decide +kernel
theorem dX7_spendExtra_27 : decode cX7_spendExtra 27 = .ok (.ireturn, 1) := by decide +kernel
set_option maxRecDepth 20000 in
theorem ggX7_undo_X1_takeBack : GoodIn wsX7_undo wsX1_takeBack := goodIn_r _ [8, 9, 10, 11, 12, 13, 14, 15, 16, 17, 18, 19, 20, 21, 22, 23, 24, 25, 26, 27, 28, 29, 30, 31, 32, 33, 34, 35, 36, 37, 38, 39, 40, 41, 42, 43, 44, 45, 46, 47, 48, 60, 61, 62, 63, 64, 65, 66, 67, 68, 69, 70, 71, 72, 73, 74, 75, 76, 77, 78, 79, 80] (by decide +kernel) (by decide +kernel)
set_option maxRecDepth 20000 in
theorem gX7_undo_X1_takeBack : GoodIn wsX7_undo (wsV RX7 163 RX1 yX1_takeBack wsX1_takeBack) := goodIn_app (goodIn_of _ (by decide +kernel)) ggX7_undo_X1_takeBack
theorem dX7_undo_0 : decode cX7_undo 0 = .ok (.aload_n 0, 1) := by decide +kernel
theorem dX7_undo_1 : decode cX7_undo 1 = .ok (.getfield 27, 3) := by decide +kernel
theorem dX7_undo_4 : decode cX7_undo 4 = .ok (.aload_n 0, 1) := by decide +kernel
theorem dX7_undo_5 : decode cX7_undo 5 = .ok (.getfield 20, 3) := by decide +kernel
theorem dX7_undo_8 : decode cX7_undo 8 = .ok (.invokevirtual 163, 3) := by decide +kernel
theorem dX7_undo_11 : decode cX7_undo 11 = .ok (.ifCond .ne 5, 3) := by decide +kernel
theorem dX7_undo_14 : decode cX7_undo 14 = .ok (.iconst (-1), 1) := by decide +kernel
theorem dX7_undo_15 : decode cX7_undo 15 = .ok (.ireturn, 1) := by decide +kernel
theorem dX7_undo_16 : decode cX7_undo 16 = .ok (.aload_n 0, 1) := by decide +kernel
theorem dX7_undo_17 : decode cX7_undo 17 = .ok (.getfield 27, 3) := by decide +kernel
theorem dX7_undo_20 : decode cX7_undo 20 = .ok (.getfield 167, 3) := by decide +kernel
theorem dX7_undo_23 : decode cX7_undo 23 = .ok (.ireturn, 1) := by decide +kernel
theorem dX7_undoCount_0 : decode cX7_undoCount 0 = .ok (.aload_n 0, 1) := by decide +kernel
theorem dX7_undoCount_1 : decode cX7_undoCount 1 = .ok (.getfield 27, 3) := by decide +kernel
theorem dX7_undoCount_4 : decode cX7_undoCount 4 = .ok (.getfield 167, 3) := by decide +kernel
theorem dX7_undoCount_7 : decode cX7_undoCount 7 = .ok (.ireturn, 1) := by decide +kernel
set_option maxRecDepth 20000 in
theorem ggX7_saveSnapshot_X3_copyFrom : GoodIn wsX7_saveSnapshot wsX3_copyFrom := goodIn_r _ [9, 10, 11, 12, 13, 14, 15, 16, 17, 18, 19, 20, 21, 22, 23, 24, 25, 26, 27, 28, 29, 30, 31, 32, 33, 34, 35, 36, 37, 38, 39, 40, 41, 53, 54, 55, 56, 57, 58, 59, 60, 61, 62, 63, 64, 65, 66, 67, 68, 69, 70] (by decide +kernel) (by decide +kernel)
set_option maxRecDepth 20000 in
theorem gX7_saveSnapshot_X3_copyFrom : GoodIn wsX7_saveSnapshot (wsV RX7 83 RX3 yX3_copyFrom wsX3_copyFrom) := goodIn_app (goodIn_of _ (by decide +kernel)) ggX7_saveSnapshot_X3_copyFrom
theorem dX7_saveSnapshot_0 : decode cX7_saveSnapshot 0 = .ok (.aload_n 0, 1) := by decide +kernel
theorem dX7_saveSnapshot_1 : decode cX7_saveSnapshot 1 = .ok (.getfield 31, 3) := by decide +kernel
theorem dX7_saveSnapshot_4 : decode cX7_saveSnapshot 4 = .ok (.aload_n 0, 1) := by decide +kernel
theorem dX7_saveSnapshot_5 : decode cX7_saveSnapshot 5 = .ok (.getfield 20, 3) := by decide +kernel
theorem dX7_saveSnapshot_8 : decode cX7_saveSnapshot 8 = .ok (.invokevirtual 83, 3) := by decide +kernel
theorem dX7_saveSnapshot_11 : decode cX7_saveSnapshot 11 = .ok (.aload_n 0, 1) := by decide +kernel
theorem dX7_saveSnapshot_12 : decode cX7_saveSnapshot 12 = .ok (.iconst 1, 1) := by decide +kernel
theorem dX7_saveSnapshot_13 : decode cX7_saveSnapshot 13 = .ok (.putfield 34, 3) := by decide +kernel
theorem dX7_saveSnapshot_16 : decode cX7_saveSnapshot 16 = .ok (.aload_n 0, 1) := by decide +kernel
theorem dX7_saveSnapshot_17 : decode cX7_saveSnapshot 17 = .ok (.getfield 20, 3) := by decide +kernel
theorem dX7_saveSnapshot_20 : decode cX7_saveSnapshot 20 = .ok (.getfield 100, 3) := by decide +kernel
theorem dX7_saveSnapshot_23 : decode cX7_saveSnapshot 23 = .ok (.ireturn, 1) := by decide +kernel
set_option maxRecDepth 20000 in
theorem ggX7_restoreSnapshot_X3_copyFrom : GoodIn wsX7_restoreSnapshot wsX3_copyFrom := goodIn_r _ [12, 13, 14, 15, 16, 17, 18, 19, 20, 21, 22, 23, 24, 25, 26, 27, 28, 29, 30, 31, 32, 33, 34, 35, 36, 37, 38, 39, 40, 41, 42, 43, 44, 62, 63, 64, 65, 66, 67, 68, 69, 70, 71, 72, 73, 74, 75, 76, 77, 78, 79] (by decide +kernel) (by decide +kernel)
set_option maxRecDepth 20000 in
theorem gX7_restoreSnapshot_X3_copyFrom : GoodIn wsX7_restoreSnapshot (wsV RX7 83 RX3 yX3_copyFrom wsX3_copyFrom) := goodIn_app (goodIn_of _ (by decide +kernel)) ggX7_restoreSnapshot_X3_copyFrom
set_option maxRecDepth 20000 in
theorem ggX7_restoreSnapshot_X1_forget : GoodIn wsX7_restoreSnapshot wsX1_forget := goodIn_r _ [49, 50, 80, 81, 82] (by decide +kernel) (by decide +kernel)
set_option maxRecDepth 20000 in
theorem gX7_restoreSnapshot_X1_forget : GoodIn wsX7_restoreSnapshot (wsV RX7 173 RX1 yX1_forget wsX1_forget) := goodIn_app (goodIn_of _ (by decide +kernel)) ggX7_restoreSnapshot_X1_forget
theorem dX7_restoreSnapshot_0 : decode cX7_restoreSnapshot 0 = .ok (.aload_n 0, 1) := by decide +kernel
theorem dX7_restoreSnapshot_1 : decode cX7_restoreSnapshot 1 = .ok (.getfield 34, 3) := by decide +kernel
theorem dX7_restoreSnapshot_4 : decode cX7_restoreSnapshot 4 = .ok (.ifCond .ne 11, 3) := by decide +kernel
theorem dX7_restoreSnapshot_7 : decode cX7_restoreSnapshot 7 = .ok (.new 170, 3) := by decide +kernel
theorem dX7_restoreSnapshot_10 : decode cX7_restoreSnapshot 10 = .ok (.dup, 1) := by decide +kernel
theorem dX7_restoreSnapshot_11 : decode cX7_restoreSnapshot 11 = .ok (.invokespecial 172, 3) := by decide +kernel
theorem dX7_restoreSnapshot_14 : decode cX7_restoreSnapshot 14 = .ok (.athrow, 1) := by decide +kernel
