theorem dX7_init_0 : decode cX7_init 0 = .ok (.aload_n 0, 1) := by decide +kernel
theorem dX7_init_1 : decode cX7_init 1 = .ok (.invokespecial 3, 3) := by decide +kernel
theorem dX7_init_4 : decode cX7_init 4 = .ok (.aload_n 0, 1) := by decide +kernel
theorem dX7_init_5 : decode cX7_init 5 = .ok (.bipush 30, 2) := by decide +kernel
theorem dX7_init_7 : decode cX7_init 7 = .ok (.newarray .int, 2) := by decide +kernel
theorem dX7_init_9 : decode cX7_init 9 = .ok (.putfield 9, 3) := by decide +kernel
theorem dX7_init_12 : decode cX7_init 12 = .ok (.aload_n 0, 1) := by decide +kernel
theorem dX7_init_13 : decode cX7_init 13 = .ok (.bipush 30, 2) := by decide +kernel
theorem dX7_init_15 : decode cX7_init 15 = .ok (.newarray .int, 2) := by decide +kernel
theorem dX7_init_17 : decode cX7_init 17 = .ok (.putfield 15, 3) := by decide +kernel
theorem dX7_init_20 : decode cX7_init 20 = .ok (.aload_n 0, 1) := by decide +kernel
theorem dX7_init_21 : decode cX7_init 21 = .ok (.bipush 30, 2) := by decide +kernel
theorem dX7_init_23 : decode cX7_init 23 = .ok (.newarray .int, 2) := by decide +kernel
theorem dX7_init_25 : decode cX7_init 25 = .ok (.putfield 18, 3) := by decide +kernel
theorem dX7_init_28 : decode cX7_init 28 = .ok (.aload_n 0, 1) := by decide +kernel
theorem dX7_init_29 : decode cX7_init 29 = .ok (.bipush 30, 2) := by decide +kernel
theorem dX7_init_31 : decode cX7_init 31 = .ok (.newarray .int, 2) := by decide +kernel
theorem dX7_init_33 : decode cX7_init 33 = .ok (.putfield 21, 3) := by decide +kernel
theorem dX7_init_36 : decode cX7_init 36 = .ok (.aload_n 0, 1) := by decide +kernel
theorem dX7_init_37 : decode cX7_init 37 = .ok (.bipush 30, 2) := by decide +kernel
theorem dX7_init_39 : decode cX7_init 39 = .ok (.newarray .int, 2) := by decide +kernel
theorem dX7_init_41 : decode cX7_init 41 = .ok (.putfield 24, 3) := by decide +kernel
theorem dX7_init_44 : decode cX7_init 44 = .ok (.aload_n 0, 1) := by decide +kernel
theorem dX7_init_45 : decode cX7_init 45 = .ok (.iconst 1, 1) := by decide +kernel
theorem dX7_init_46 : decode cX7_init 46 = .ok (.putfield 27, 3) := by decide +kernel
theorem dX7_init_49 : decode cX7_init 49 = .ok (.aload_n 0, 1) := by decide +kernel
theorem dX7_init_50 : decode cX7_init 50 = .ok (.iconst 0, 1) := by decide +kernel
theorem dX7_init_51 : decode cX7_init 51 = .ok (.putfield 31, 3) := by decide +kernel
theorem dX7_init_54 : decode cX7_init 54 = .ok (.aload_n 0, 1) := by decide +kernel
theorem dX7_init_55 : decode cX7_init 55 = .ok (.aload_n 1, 1) := by decide +kernel
theorem dX7_init_56 : decode cX7_init 56 = .ok (.putfield 34, 3) := by decide +kernel
theorem dX7_init_59 : decode cX7_init 59 = .ok (.return_, 1) := by decide +kernel
theorem dX7_pave_0 : decode cX7_pave 0 = .ok (.iconst 0, 1) := by decide +kernel
theorem dX7_pave_1 : decode cX7_pave 1 = .ok (.istore_n 2, 1) := by decide +kernel
theorem dX7_pave_2 : decode cX7_pave 2 = .ok (.iload_n 2, 1) := by decide +kernel
theorem dX7_pave_3 : decode cX7_pave 3 = .ok (.aload_n 0, 1) := by decide +kernel
theorem dX7_pave_4 : decode cX7_pave 4 = .ok (.getfield 34, 3) := by decide +kernel
theorem dX7_pave_7 : decode cX7_pave 7 = .ok (.getfield 38, 3) := by decide +kernel
theorem dX7_pave_10 : decode cX7_pave 10 = .ok (.if_icmp .ge 69, 3) := by decide +kernel
theorem dX7_pave_13 : decode cX7_pave 13 = .ok (.aload_n 0, 1) := by decide +kernel
theorem dX7_pave_14 : decode cX7_pave 14 = .ok (.getfield 9, 3) := by decide +kernel
theorem dX7_pave_17 : decode cX7_pave 17 = .ok (.iload_n 2, 1) := by decide +kernel
theorem dX7_pave_18 : decode cX7_pave 18 = .ok (.aload_n 1, 1) := by decide +kernel
theorem dX7_pave_19 : decode cX7_pave 19 = .ok (.getfield 43, 3) := by decide +kernel
theorem dX7_pave_22 : decode cX7_pave 22 = .ok (.iload_n 2, 1) := by decide +kernel
theorem dX7_pave_23 : decode cX7_pave 23 = .ok (.iaload, 1) := by decide +kernel
theorem dX7_pave_24 : decode cX7_pave 24 = .ok (.iastore, 1) := by decide +kernel
theorem dX7_pave_25 : decode cX7_pave 25 = .ok (.aload_n 0, 1) := by decide +kernel
theorem dX7_pave_26 : decode cX7_pave 26 = .ok (.getfield 15, 3) := by decide +kernel
theorem dX7_pave_29 : decode cX7_pave 29 = .ok (.iload_n 2, 1) := by decide +kernel
theorem dX7_pave_30 : decode cX7_pave 30 = .ok (.aload_n 1, 1) := by decide +kernel
theorem dX7_pave_31 : decode cX7_pave 31 = .ok (.getfield 46, 3) := by decide +kernel
theorem dX7_pave_34 : decode cX7_pave 34 = .ok (.iload_n 2, 1) := by decide +kernel
theorem dX7_pave_35 : decode cX7_pave 35 = .ok (.iaload, 1) := by decide +kernel
theorem dX7_pave_36 : decode cX7_pave 36 = .ok (.iastore, 1) := by decide +kernel
theorem dX7_pave_37 : decode cX7_pave 37 = .ok (.aload_n 0, 1) := by decide +kernel
theorem dX7_pave_38 : decode cX7_pave 38 = .ok (.getfield 18, 3) := by decide +kernel
theorem dX7_pave_41 : decode cX7_pave 41 = .ok (.iload_n 2, 1) := by decide +kernel
theorem dX7_pave_42 : decode cX7_pave 42 = .ok (.aload_n 0, 1) := by decide +kernel
theorem dX7_pave_43 : decode cX7_pave 43 = .ok (.getfield 9, 3) := by decide +kernel
theorem dX7_pave_46 : decode cX7_pave 46 = .ok (.iload_n 2, 1) := by decide +kernel
theorem dX7_pave_47 : decode cX7_pave 47 = .ok (.iaload, 1) := by decide +kernel
theorem dX7_pave_48 : decode cX7_pave 48 = .ok (.iconst (-1), 1) := by decide +kernel
theorem dX7_pave_49 : decode cX7_pave 49 = .ok (.if_icmp .ne 8, 3) := by decide +kernel
theorem dX7_pave_52 : decode cX7_pave 52 = .ok (.bipush (-5), 2) := by decide +kernel
theorem dX7_pave_54 : decode cX7_pave 54 = .ok (.goto 4, 3) := by decide +kernel
theorem dX7_pave_57 : decode cX7_pave 57 = .ok (.iconst 0, 1) := by decide +kernel
theorem dX7_pave_58 : decode cX7_pave 58 = .ok (.iastore, 1) := by decide +kernel
theorem dX7_pave_59 : decode cX7_pave 59 = .ok (.aload_n 0, 1) := by decide +kernel
theorem dX7_pave_60 : decode cX7_pave 60 = .ok (.getfield 21, 3) := by decide +kernel
theorem dX7_pave_63 : decode cX7_pave 63 = .ok (.iload_n 2, 1) := by decide +kernel
theorem dX7_pave_64 : decode cX7_pave 64 = .ok (.iconst 0, 1) := by decide +kernel
theorem dX7_pave_65 : decode cX7_pave 65 = .ok (.iastore, 1) := by decide +kernel
theorem dX7_pave_66 : decode cX7_pave 66 = .ok (.aload_n 0, 1) := by decide +kernel
theorem dX7_pave_67 : decode cX7_pave 67 = .ok (.getfield 24, 3) := by decide +kernel
theorem dX7_pave_70 : decode cX7_pave 70 = .ok (.iload_n 2, 1) := by decide +kernel
theorem dX7_pave_71 : decode cX7_pave 71 = .ok (.iconst 0, 1) := by decide +kernel
theorem dX7_pave_72 : decode cX7_pave 72 = .ok (.iastore, 1) := by decide +kernel
theorem dX7_pave_73 : decode cX7_pave 73 = .ok (.iinc 2 1, 3) := by decide +kernel
theorem dX7_pave_76 : decode cX7_pave 76 = .ok (.goto (-74), 3) := by decide +kernel
theorem dX7_pave_79 : decode cX7_pave 79 = .ok (.return_, 1) := by decide +kernel
theorem dX7_copyFrom_0 : decode cX7_copyFrom 0 = .ok (.iconst 0, 1) := by decide +kernel
theorem dX7_copyFrom_1 : decode cX7_copyFrom 1 = .ok (.istore_n 2, 1) := by decide +kernel
theorem dX7_copyFrom_2 : decode cX7_copyFrom 2 = .ok (.iload_n 2, 1) := by decide +kernel
theorem dX7_copyFrom_3 : decode cX7_copyFrom 3 = .ok (.aload_n 0, 1) := by decide +kernel
theorem dX7_copyFrom_4 : decode cX7_copyFrom 4 = .ok (.getfield 34, 3) := by decide +kernel
theorem dX7_copyFrom_7 : decode cX7_copyFrom 7 = .ok (.getfield 38, 3) := by decide +kernel
theorem dX7_copyFrom_10 : decode cX7_copyFrom 10 = .ok (.if_icmp .ge 69, 3) := by decide +kernel
theorem dX7_copyFrom_13 : decode cX7_copyFrom 13 = .ok (.aload_n 0, 1) := by decide +kernel
theorem dX7_copyFrom_14 : decode cX7_copyFrom 14 = .ok (.getfield 9, 3) := by decide +kernel
theorem dX7_copyFrom_17 : decode cX7_copyFrom 17 = .ok (.iload_n 2, 1) := by decide +kernel
theorem dX7_copyFrom_18 : decode cX7_copyFrom 18 = .ok (.aload_n 1, 1) := by decide +kernel
theorem dX7_copyFrom_19 : decode cX7_copyFrom 19 = .ok (.getfield 9, 3) := by decide +kernel
theorem dX7_copyFrom_22 : decode cX7_copyFrom 22 = .ok (.iload_n 2, 1) := by decide +kernel
theorem dX7_copyFrom_23 : decode cX7_copyFrom 23 = .ok (.iaload, 1) := by decide +kernel
theorem dX7_copyFrom_24 : decode cX7_copyFrom 24 = .ok (.iastore, 1) := by decide +kernel
theorem dX7_copyFrom_25 : decode cX7_copyFrom 25 = .ok (.aload_n 0, 1) := by decide +kernel
theorem dX7_copyFrom_26 : decode cX7_copyFrom 26 = .ok (.getfield 15, 3) := by decide +kernel
theorem dX7_copyFrom_29 : decode cX7_copyFrom 29 = .ok (.iload_n 2, 1) := by decide +kernel
theorem dX7_copyFrom_30 : decode cX7_copyFrom 30 = .ok (.aload_n 1, 1) := by decide +kernel
theorem dX7_copyFrom_31 : decode cX7_copyFrom 31 = .ok (.getfield 15, 3) := by decide +kernel
theorem dX7_copyFrom_34 : decode cX7_copyFrom 34 = .ok (.iload_n 2, 1) := by decide +kernel
theorem dX7_copyFrom_35 : decode cX7_copyFrom 35 = .ok (.iaload, 1) := by decide +kernel
theorem dX7_copyFrom_36 : decode cX7_copyFrom 36 = .ok (.iastore, 1) := by decide +kernel
theorem dX7_copyFrom_37 : decode cX7_copyFrom 37 = .ok (.aload_n 0, 1) := by decide +kernel
theorem dX7_copyFrom_38 : decode cX7_copyFrom 38 = .ok (.getfield 18, 3) := by decide +kernel
theorem dX7_copyFrom_41 : decode cX7_copyFrom 41 = .ok (.iload_n 2, 1) := by decide +kernel
theorem dX7_copyFrom_42 : decode cX7_copyFrom 42 = .ok (.aload_n 1, 1) := by decide +kernel
theorem dX7_copyFrom_43 : decode cX7_copyFrom 43 = .ok (.getfield 18, 3) := by decide +kernel
theorem dX7_copyFrom_46 : decode cX7_copyFrom 46 = .ok (.iload_n 2, 1) := by decide +kernel
theorem dX7_copyFrom_47 : decode cX7_copyFrom 47 = .ok (.iaload, 1) := by decide +kernel
theorem dX7_copyFrom_48 : decode cX7_copyFrom 48 = .ok (.iastore, 1) := by decide +kernel
theorem dX7_copyFrom_49 : decode cX7_copyFrom 49 = .ok (.aload_n 0, 1) := by decide +kernel
theorem dX7_copyFrom_50 : decode cX7_copyFrom 50 = .ok (.getfield 21, 3) := by decide +kernel
theorem dX7_copyFrom_53 : decode cX7_copyFrom 53 = .ok (.iload_n 2, 1) := by decide +kernel
theorem dX7_copyFrom_54 : decode cX7_copyFrom 54 = .ok (.aload_n 1, 1) := by decide +kernel
theorem dX7_copyFrom_55 : decode cX7_copyFrom 55 = .ok (.getfield 21, 3) := by decide +kernel
theorem dX7_copyFrom_58 : decode cX7_copyFrom 58 = .ok (.iload_n 2, 1) := by decide +kernel
theorem dX7_copyFrom_59 : decode cX7_copyFrom 59 = .ok (.iaload, 1) := by decide +kernel
theorem dX7_copyFrom_60 : decode cX7_copyFrom 60 = .ok (.iastore, 1) := by decide +kernel
theorem dX7_copyFrom_61 : decode cX7_copyFrom 61 = .ok (.aload_n 0, 1) := by decide +kernel
theorem dX7_copyFrom_62 : decode cX7_copyFrom 62 = .ok (.getfield 24, 3) := by decide +kernel
theorem dX7_copyFrom_65 : decode cX7_copyFrom 65 = .ok (.iload_n 2, 1) := by decide +kernel
theorem dX7_copyFrom_66 : decode cX7_copyFrom 66 = .ok (.aload_n 1, 1) := by decide +kernel
theorem dX7_copyFrom_67 : decode cX7_copyFrom 67 = .ok (.getfield 24, 3) := by decide +kernel
theorem dX7_copyFrom_70 : decode cX7_copyFrom 70 = .ok (.iload_n 2, 1) := by decide +kernel
theorem dX7_copyFrom_71 : decode cX7_copyFrom 71 = .ok (.iaload, 1) := by decide +kernel
theorem dX7_copyFrom_72 : decode cX7_copyFrom 72 = .ok (.iastore, 1) := by decide +kernel
theorem dX7_copyFrom_73 : decode cX7_copyFrom 73 = .ok (.iinc 2 1, 3) := by decide +kernel
theorem dX7_copyFrom_76 : decode cX7_copyFrom 76 = .ok (.goto (-74), 3) := by decide +kernel
theorem dX7_copyFrom_79 : decode cX7_copyFrom 79 = .ok (.aload_n 0, 1) := by decide +kernel
theorem dX7_copyFrom_80 : decode cX7_copyFrom 80 = .ok (.aload_n 1, 1) := by decide +kernel
theorem dX7_copyFrom_81 : decode cX7_copyFrom 81 = .ok (.getfield 27, 3) := by decide +kernel
theorem dX7_copyFrom_84 : decode cX7_copyFrom 84 = .ok (.putfield 27, 3) := by decide +kernel
theorem dX7_copyFrom_87 : decode cX7_copyFrom 87 = .ok (.return_, 1) := by decide +kernel
theorem dX7_tell_0 : decode cX7_tell 0 = .ok (.iload_n 2, 1) := by decide +kernel
theorem dX7_tell_1 : decode cX7_tell 1 = .ok (.tableswitch 80 0 5 #[39, 46, 53, 60, 67, 74], 39) := by decide +kernel
theorem dX7_tell_40 : decode cX7_tell 40 = .ok (.aload_n 0, 1) := by decide +kernel
theorem dX7_tell_41 : decode cX7_tell 41 = .ok (.getfield 9, 3) := by decide +kernel
theorem dX7_tell_44 : decode cX7_tell 44 = .ok (.iload_n 1, 1) := by decide +kernel
theorem dX7_tell_45 : decode cX7_tell 45 = .ok (.iaload, 1) := by decide +kernel
theorem dX7_tell_46 : decode cX7_tell 46 = .ok (.ireturn, 1) := by decide +kernel
theorem dX7_tell_47 : decode cX7_tell 47 = .ok (.aload_n 0, 1) := by decide +kernel
theorem dX7_tell_48 : decode cX7_tell 48 = .ok (.getfield 15, 3) := by decide +kernel
theorem dX7_tell_51 : decode cX7_tell 51 = .ok (.iload_n 1, 1) := by decide +kernel
theorem dX7_tell_52 : decode cX7_tell 52 = .ok (.iaload, 1) := by decide +kernel
theorem dX7_tell_53 : decode cX7_tell 53 = .ok (.ireturn, 1) := by decide +kernel
theorem dX7_tell_54 : decode cX7_tell 54 = .ok (.aload_n 0, 1) := by decide +kernel
theorem dX7_tell_55 : decode cX7_tell 55 = .ok (.getfield 18, 3) := by decide +kernel
theorem dX7_tell_58 : decode cX7_tell 58 = .ok (.iload_n 1, 1) := by decide +kernel
theorem dX7_tell_59 : decode cX7_tell 59 = .ok (.iaload, 1) := by decide +kernel
theorem dX7_tell_60 : decode cX7_tell 60 = .ok (.ireturn, 1) := by decide +kernel
theorem dX7_tell_61 : decode cX7_tell 61 = .ok (.aload_n 0, 1) := by decide +kernel
theorem dX7_tell_62 : decode cX7_tell 62 = .ok (.getfield 21, 3) := by decide +kernel
theorem dX7_tell_65 : decode cX7_tell 65 = .ok (.iload_n 1, 1) := by decide +kernel
theorem dX7_tell_66 : decode cX7_tell 66 = .ok (.iaload, 1) := by decide +kernel
theorem dX7_tell_67 : decode cX7_tell 67 = .ok (.ireturn, 1) := by decide +kernel
theorem dX7_tell_68 : decode cX7_tell 68 = .ok (.aload_n 0, 1) := by decide +kernel
theorem dX7_tell_69 : decode cX7_tell 69 = .ok (.getfield 24, 3) := by decide +kernel
theorem dX7_tell_72 : decode cX7_tell 72 = .ok (.iload_n 1, 1) := by decide +kernel
theorem dX7_tell_73 : decode cX7_tell 73 = .ok (.iaload, 1) := by decide +kernel
theorem dX7_tell_74 : decode cX7_tell 74 = .ok (.ireturn, 1) := by decide +kernel
theorem dX7_tell_75 : decode cX7_tell 75 = .ok (.aload_n 0, 1) := by decide +kernel
theorem dX7_tell_76 : decode cX7_tell 76 = .ok (.iload_n 1, 1) := by decide +kernel
theorem dX7_tell_77 : decode cX7_tell 77 = .ok (.invokevirtual 47, 3) := by decide +kernel
theorem dX7_tell_80 : decode cX7_tell 80 = .ok (.ireturn, 1) := by decide +kernel
theorem dX7_tell_81 : decode cX7_tell 81 = .ok (.sipush (-1002), 3) := by decide +kernel
theorem dX7_tell_84 : decode cX7_tell 84 = .ok (.ireturn, 1) := by decide +kernel
theorem dX7_isOf_0 : decode cX7_isOf 0 = .ok (.aload_n 0, 1) := by decide +kernel
theorem dX7_isOf_1 : decode cX7_isOf 1 = .ok (.getfield 9, 3) := by decide +kernel
theorem dX7_isOf_4 : decode cX7_isOf 4 = .ok (.iload_n 1, 1) := by decide +kernel
theorem dX7_isOf_5 : decode cX7_isOf 5 = .ok (.iaload, 1) := by decide +kernel
theorem dX7_isOf_6 : decode cX7_isOf 6 = .ok (.istore_n 3, 1) := by decide +kernel
theorem dX7_isOf_7 : decode cX7_isOf 7 = .ok (.iload_n 3, 1) := by decide +kernel
theorem dX7_isOf_8 : decode cX7_isOf 8 = .ok (.iconst (-1), 1) := by decide +kernel
theorem dX7_isOf_9 : decode cX7_isOf 9 = .ok (.if_icmp .ne 5, 3) := by decide +kernel
theorem dX7_isOf_12 : decode cX7_isOf 12 = .ok (.iconst 0, 1) := by decide +kernel
theorem dX7_isOf_13 : decode cX7_isOf 13 = .ok (.ireturn, 1) := by decide +kernel
theorem dX7_isOf_14 : decode cX7_isOf 14 = .ok (.iload_n 2, 1) := by decide +kernel
theorem dX7_isOf_15 : decode cX7_isOf 15 = .ok (.ifCond .eq 18, 3) := by decide +kernel
theorem dX7_isOf_18 : decode cX7_isOf 18 = .ok (.iload_n 3, 1) := by decide +kernel
theorem dX7_isOf_19 : decode cX7_isOf 19 = .ok (.iload_n 2, 1) := by decide +kernel
theorem dX7_isOf_20 : decode cX7_isOf 20 = .ok (.if_icmp .eq 13, 3) := by decide +kernel
theorem dX7_isOf_23 : decode cX7_isOf 23 = .ok (.iload_n 3, 1) := by decide +kernel
theorem dX7_isOf_24 : decode cX7_isOf 24 = .ok (.iconst 3, 1) := by decide +kernel
theorem dX7_isOf_25 : decode cX7_isOf 25 = .ok (.if_icmp .ne 12, 3) := by decide +kernel
theorem dX7_isOf_28 : decode cX7_isOf 28 = .ok (.iload_n 2, 1) := by decide +kernel
theorem dX7_isOf_29 : decode cX7_isOf 29 = .ok (.iconst 2, 1) := by decide +kernel
theorem dX7_isOf_30 : decode cX7_isOf 30 = .ok (.if_icmp .ne 7, 3) := by decide +kernel
theorem dX7_isOf_33 : decode cX7_isOf 33 = .ok (.iconst 1, 1) := by decide +kernel
theorem dX7_isOf_34 : decode cX7_isOf 34 = .ok (.goto 4, 3) := by decide +kernel
theorem dX7_isOf_37 : decode cX7_isOf 37 = .ok (.iconst 0, 1) := by decide +kernel
theorem dX7_isOf_38 : decode cX7_isOf 38 = .ok (.ireturn, 1) := by decide +kernel
theorem dX7_stones_0 : decode cX7_stones 0 = .ok (.iconst 0, 1) := by decide +kernel
theorem dX7_stones_1 : decode cX7_stones 1 = .ok (.istore_n 1, 1) := by decide +kernel
theorem dX7_stones_2 : decode cX7_stones 2 = .ok (.iconst 0, 1) := by decide +kernel
theorem dX7_stones_3 : decode cX7_stones 3 = .ok (.istore_n 2, 1) := by decide +kernel
theorem dX7_stones_4 : decode cX7_stones 4 = .ok (.iload_n 2, 1) := by decide +kernel
theorem dX7_stones_5 : decode cX7_stones 5 = .ok (.aload_n 0, 1) := by decide +kernel
theorem dX7_stones_6 : decode cX7_stones 6 = .ok (.getfield 34, 3) := by decide +kernel
theorem dX7_stones_9 : decode cX7_stones 9 = .ok (.getfield 38, 3) := by decide +kernel
theorem dX7_stones_12 : decode cX7_stones 12 = .ok (.if_icmp .ge 22, 3) := by decide +kernel
theorem dX7_stones_15 : decode cX7_stones 15 = .ok (.aload_n 0, 1) := by decide +kernel
theorem dX7_stones_16 : decode cX7_stones 16 = .ok (.getfield 9, 3) := by decide +kernel
theorem dX7_stones_19 : decode cX7_stones 19 = .ok (.iload_n 2, 1) := by decide +kernel
theorem dX7_stones_20 : decode cX7_stones 20 = .ok (.iaload, 1) := by decide +kernel
theorem dX7_stones_21 : decode cX7_stones 21 = .ok (.iconst (-1), 1) := by decide +kernel
theorem dX7_stones_22 : decode cX7_stones 22 = .ok (.if_icmp .eq 6, 3) := by decide +kernel
theorem dX7_stones_25 : decode cX7_stones 25 = .ok (.iinc 1 1, 3) := by decide +kernel
theorem dX7_stones_28 : decode cX7_stones 28 = .ok (.iinc 2 1, 3) := by decide +kernel
theorem dX7_stones_31 : decode cX7_stones 31 = .ok (.goto (-27), 3) := by decide +kernel
theorem dX7_stones_34 : decode cX7_stones 34 = .ok (.iload_n 1, 1) := by decide +kernel
theorem dX7_stones_35 : decode cX7_stones 35 = .ok (.ireturn, 1) := by decide +kernel
theorem dX7_grip_0 : decode cX7_grip 0 = .ok (.aload_n 0, 1) := by decide +kernel
theorem dX7_grip_1 : decode cX7_grip 1 = .ok (.getfield 9, 3) := by decide +kernel
theorem dX7_grip_4 : decode cX7_grip 4 = .ok (.iload_n 1, 1) := by decide +kernel
theorem dX7_grip_5 : decode cX7_grip 5 = .ok (.iaload, 1) := by decide +kernel
theorem dX7_grip_6 : decode cX7_grip 6 = .ok (.tableswitch 40 0 4 #[34, 36, 40, 40, 38], 34) := by decide +kernel
theorem dX7_grip_40 : decode cX7_grip 40 = .ok (.iconst 2, 1) := by decide +kernel
theorem dX7_grip_41 : decode cX7_grip 41 = .ok (.ireturn, 1) := by decide +kernel
theorem dX7_grip_42 : decode cX7_grip 42 = .ok (.iconst 1, 1) := by decide +kernel
theorem dX7_grip_43 : decode cX7_grip 43 = .ok (.ireturn, 1) := by decide +kernel
theorem dX7_grip_44 : decode cX7_grip 44 = .ok (.iconst 3, 1) := by decide +kernel
theorem dX7_grip_45 : decode cX7_grip 45 = .ok (.ireturn, 1) := by decide +kernel
theorem dX7_grip_46 : decode cX7_grip 46 = .ok (.iconst 0, 1) := by decide +kernel
theorem dX7_grip_47 : decode cX7_grip 47 = .ok (.ireturn, 1) := by decide +kernel
theorem dX7_hold_0 : decode cX7_hold 0 = .ok (.aload_n 0, 1) := by decide +kernel
theorem dX7_hold_1 : decode cX7_hold 1 = .ok (.getfield 24, 3) := by decide +kernel
theorem dX7_hold_4 : decode cX7_hold 4 = .ok (.iload_n 1, 1) := by decide +kernel
theorem dX7_hold_5 : decode cX7_hold 5 = .ok (.iaload, 1) := by decide +kernel
theorem dX7_hold_6 : decode cX7_hold 6 = .ok (.istore_n 2, 1) := by decide +kernel
theorem dX7_hold_7 : decode cX7_hold 7 = .ok (.iconst 0, 1) := by decide +kernel
theorem dX7_hold_8 : decode cX7_hold 8 = .ok (.istore_n 3, 1) := by decide +kernel
theorem dX7_hold_9 : decode cX7_hold 9 = .ok (.iload_n 3, 1) := by decide +kernel
theorem dX7_hold_10 : decode cX7_hold 10 = .ok (.iconst 4, 1) := by decide +kernel
theorem dX7_hold_11 : decode cX7_hold 11 = .ok (.if_icmp .ge 35, 3) := by decide +kernel
theorem dX7_hold_14 : decode cX7_hold 14 = .ok (.aload_n 0, 1) := by decide +kernel
theorem dX7_hold_15 : decode cX7_hold 15 = .ok (.getfield 34, 3) := by decide +kernel
theorem dX7_hold_18 : decode cX7_hold 18 = .ok (.iload_n 1, 1) := by decide +kernel
theorem dX7_hold_19 : decode cX7_hold 19 = .ok (.iload_n 3, 1) := by decide +kernel
theorem dX7_hold_20 : decode cX7_hold 20 = .ok (.invokevirtual 51, 3) := by decide +kernel
theorem dX7_hold_23 : decode cX7_hold 23 = .ok (.istore 4, 2) := by decide +kernel
theorem dX7_hold_25 : decode cX7_hold 25 = .ok (.iload 4, 2) := by decide +kernel
theorem dX7_hold_27 : decode cX7_hold 27 = .ok (.iconst (-1), 1) := by decide +kernel
theorem dX7_hold_28 : decode cX7_hold 28 = .ok (.if_icmp .eq 12, 3) := by decide +kernel
theorem dX7_hold_31 : decode cX7_hold 31 = .ok (.iload_n 2, 1) := by decide +kernel
theorem dX7_hold_32 : decode cX7_hold 32 = .ok (.aload_n 0, 1) := by decide +kernel
theorem dX7_hold_33 : decode cX7_hold 33 = .ok (.iload 4, 2) := by decide +kernel
theorem dX7_hold_35 : decode cX7_hold 35 = .ok (.invokevirtual 55, 3) := by decide +kernel
theorem dX7_hold_38 : decode cX7_hold 38 = .ok (.iadd, 1) := by decide +kernel
theorem dX7_hold_39 : decode cX7_hold 39 = .ok (.istore_n 2, 1) := by decide +kernel
theorem dX7_hold_40 : decode cX7_hold 40 = .ok (.iinc 3 1, 3) := by decide +kernel
theorem dX7_hold_43 : decode cX7_hold 43 = .ok (.goto (-34), 3) := by decide +kernel
theorem dX7_hold_46 : decode cX7_hold 46 = .ok (.iload_n 2, 1) := by decide +kernel
theorem dX7_hold_47 : decode cX7_hold 47 = .ok (.ireturn, 1) := by decide +kernel
theorem dX7_level_0 : decode cX7_level 0 = .ok (.iconst 0, 1) := by decide +kernel
theorem dX7_level_1 : decode cX7_level 1 = .ok (.istore_n 2, 1) := by decide +kernel
theorem dX7_level_2 : decode cX7_level 2 = .ok (.iload_n 2, 1) := by decide +kernel
theorem dX7_level_3 : decode cX7_level 3 = .ok (.aload_n 0, 1) := by decide +kernel
theorem dX7_level_4 : decode cX7_level 4 = .ok (.getfield 34, 3) := by decide +kernel
theorem dX7_level_7 : decode cX7_level 7 = .ok (.getfield 38, 3) := by decide +kernel
theorem dX7_level_10 : decode cX7_level 10 = .ok (.if_icmp .ge 33, 3) := by decide +kernel
theorem dX7_level_13 : decode cX7_level 13 = .ok (.aload_n 0, 1) := by decide +kernel
theorem dX7_level_14 : decode cX7_level 14 = .ok (.getfield 9, 3) := by decide +kernel
theorem dX7_level_17 : decode cX7_level 17 = .ok (.iload_n 2, 1) := by decide +kernel
theorem dX7_level_18 : decode cX7_level 18 = .ok (.iaload, 1) := by decide +kernel
theorem dX7_level_19 : decode cX7_level 19 = .ok (.iconst (-1), 1) := by decide +kernel
theorem dX7_level_20 : decode cX7_level 20 = .ok (.if_icmp .eq 17, 3) := by decide +kernel
theorem dX7_level_23 : decode cX7_level 23 = .ok (.aload_n 0, 1) := by decide +kernel
theorem dX7_level_24 : decode cX7_level 24 = .ok (.getfield 18, 3) := by decide +kernel
theorem dX7_level_27 : decode cX7_level 27 = .ok (.iload_n 2, 1) := by decide +kernel
theorem dX7_level_28 : decode cX7_level 28 = .ok (.iload_n 1, 1) := by decide +kernel
theorem dX7_level_29 : decode cX7_level 29 = .ok (.iastore, 1) := by decide +kernel
theorem dX7_level_30 : decode cX7_level 30 = .ok (.aload_n 0, 1) := by decide +kernel
theorem dX7_level_31 : decode cX7_level 31 = .ok (.getfield 21, 3) := by decide +kernel
theorem dX7_level_34 : decode cX7_level 34 = .ok (.iload_n 2, 1) := by decide +kernel
theorem dX7_level_35 : decode cX7_level 35 = .ok (.iconst 0, 1) := by decide +kernel
theorem dX7_level_36 : decode cX7_level 36 = .ok (.iastore, 1) := by decide +kernel
theorem dX7_level_37 : decode cX7_level 37 = .ok (.iinc 2 1, 3) := by decide +kernel
theorem dX7_level_40 : decode cX7_level 40 = .ok (.goto (-38), 3) := by decide +kernel
theorem dX7_level_43 : decode cX7_level 43 = .ok (.return_, 1) := by decide +kernel
theorem dX7_fillJoints_0 : decode cX7_fillJoints 0 = .ok (.iconst 0, 1) := by decide +kernel
theorem dX7_fillJoints_1 : decode cX7_fillJoints 1 = .ok (.istore_n 2, 1) := by decide +kernel
theorem dX7_fillJoints_2 : decode cX7_fillJoints 2 = .ok (.iload_n 2, 1) := by decide +kernel
theorem dX7_fillJoints_3 : decode cX7_fillJoints 3 = .ok (.aload_n 0, 1) := by decide +kernel
theorem dX7_fillJoints_4 : decode cX7_fillJoints 4 = .ok (.getfield 34, 3) := by decide +kernel
theorem dX7_fillJoints_7 : decode cX7_fillJoints 7 = .ok (.getfield 38, 3) := by decide +kernel
theorem dX7_fillJoints_10 : decode cX7_fillJoints 10 = .ok (.if_icmp .ge 26, 3) := by decide +kernel
theorem dX7_fillJoints_13 : decode cX7_fillJoints 13 = .ok (.aload_n 0, 1) := by decide +kernel
theorem dX7_fillJoints_14 : decode cX7_fillJoints 14 = .ok (.getfield 9, 3) := by decide +kernel
theorem dX7_fillJoints_17 : decode cX7_fillJoints 17 = .ok (.iload_n 2, 1) := by decide +kernel
theorem dX7_fillJoints_18 : decode cX7_fillJoints 18 = .ok (.iaload, 1) := by decide +kernel
theorem dX7_fillJoints_19 : decode cX7_fillJoints 19 = .ok (.iconst (-1), 1) := by decide +kernel
theorem dX7_fillJoints_20 : decode cX7_fillJoints 20 = .ok (.if_icmp .eq 10, 3) := by decide +kernel
theorem dX7_fillJoints_23 : decode cX7_fillJoints 23 = .ok (.aload_n 0, 1) := by decide +kernel
theorem dX7_fillJoints_24 : decode cX7_fillJoints 24 = .ok (.getfield 24, 3) := by decide +kernel
theorem dX7_fillJoints_27 : decode cX7_fillJoints 27 = .ok (.iload_n 2, 1) := by decide +kernel
theorem dX7_fillJoints_28 : decode cX7_fillJoints 28 = .ok (.iload_n 1, 1) := by decide +kernel
theorem dX7_fillJoints_29 : decode cX7_fillJoints 29 = .ok (.iastore, 1) := by decide +kernel
theorem dX7_fillJoints_30 : decode cX7_fillJoints 30 = .ok (.iinc 2 1, 3) := by decide +kernel
theorem dX7_fillJoints_33 : decode cX7_fillJoints 33 = .ok (.goto (-31), 3) := by decide +kernel
theorem dX7_fillJoints_36 : decode cX7_fillJoints 36 = .ok (.return_, 1) := by decide +kernel
theorem dX7_sinkBy_0 : decode cX7_sinkBy 0 = .ok (.aload_n 0, 1) := by decide +kernel
theorem dX7_sinkBy_1 : decode cX7_sinkBy 1 = .ok (.getfield 9, 3) := by decide +kernel
theorem dX7_sinkBy_4 : decode cX7_sinkBy 4 = .ok (.iload_n 1, 1) := by decide +kernel
theorem dX7_sinkBy_5 : decode cX7_sinkBy 5 = .ok (.iaload, 1) := by decide +kernel
theorem dX7_sinkBy_6 : decode cX7_sinkBy 6 = .ok (.istore_n 3, 1) := by decide +kernel
theorem dX7_sinkBy_7 : decode cX7_sinkBy 7 = .ok (.iload_n 3, 1) := by decide +kernel
theorem dX7_sinkBy_8 : decode cX7_sinkBy 8 = .ok (.iconst (-1), 1) := by decide +kernel
theorem dX7_sinkBy_9 : decode cX7_sinkBy 9 = .ok (.if_icmp .eq 8, 3) := by decide +kernel
theorem dX7_sinkBy_12 : decode cX7_sinkBy 12 = .ok (.iload_n 3, 1) := by decide +kernel
theorem dX7_sinkBy_13 : decode cX7_sinkBy 13 = .ok (.iconst 4, 1) := by decide +kernel
theorem dX7_sinkBy_14 : decode cX7_sinkBy 14 = .ok (.if_icmp .ne 5, 3) := by decide +kernel
theorem dX7_sinkBy_17 : decode cX7_sinkBy 17 = .ok (.iconst 0, 1) := by decide +kernel
theorem dX7_sinkBy_18 : decode cX7_sinkBy 18 = .ok (.ireturn, 1) := by decide +kernel
theorem dX7_sinkBy_19 : decode cX7_sinkBy 19 = .ok (.iload_n 2, 1) := by decide +kernel
theorem dX7_sinkBy_20 : decode cX7_sinkBy 20 = .ok (.iconst 4, 1) := by decide +kernel
theorem dX7_sinkBy_21 : decode cX7_sinkBy 21 = .ok (.aload_n 0, 1) := by decide +kernel
theorem dX7_sinkBy_22 : decode cX7_sinkBy 22 = .ok (.iload_n 1, 1) := by decide +kernel
theorem dX7_sinkBy_23 : decode cX7_sinkBy 23 = .ok (.invokevirtual 47, 3) := by decide +kernel
theorem dX7_sinkBy_26 : decode cX7_sinkBy 26 = .ok (.iadd, 1) := by decide +kernel
theorem dX7_sinkBy_27 : decode cX7_sinkBy 27 = .ok (.aload_n 0, 1) := by decide +kernel
theorem dX7_sinkBy_28 : decode cX7_sinkBy 28 = .ok (.getfield 21, 3) := by decide +kernel
theorem dX7_sinkBy_31 : decode cX7_sinkBy 31 = .ok (.iload_n 1, 1) := by decide +kernel
theorem dX7_sinkBy_32 : decode cX7_sinkBy 32 = .ok (.iaload, 1) := by decide +kernel
theorem dX7_sinkBy_33 : decode cX7_sinkBy 33 = .ok (.iadd, 1) := by decide +kernel
theorem dX7_sinkBy_34 : decode cX7_sinkBy 34 = .ok (.invokestatic 58, 3) := by decide +kernel
theorem dX7_sinkBy_37 : decode cX7_sinkBy 37 = .ok (.istore 4, 2) := by decide +kernel
theorem dX7_sinkBy_39 : decode cX7_sinkBy 39 = .ok (.iload_n 3, 1) := by decide +kernel
theorem dX7_sinkBy_40 : decode cX7_sinkBy 40 = .ok (.iconst 2, 1) := by decide +kernel
theorem dX7_sinkBy_41 : decode cX7_sinkBy 41 = .ok (.if_icmp .ne 8, 3) := by decide +kernel
theorem dX7_sinkBy_44 : decode cX7_sinkBy 44 = .ok (.iload 4, 2) := by decide +kernel
theorem dX7_sinkBy_46 : decode cX7_sinkBy 46 = .ok (.iconst 1, 1) := by decide +kernel
theorem dX7_sinkBy_47 : decode cX7_sinkBy 47 = .ok (.iadd, 1) := by decide +kernel
theorem dX7_sinkBy_48 : decode cX7_sinkBy 48 = .ok (.ireturn, 1) := by decide +kernel
theorem dX7_sinkBy_49 : decode cX7_sinkBy 49 = .ok (.iload_n 3, 1) := by decide +kernel
theorem dX7_sinkBy_50 : decode cX7_sinkBy 50 = .ok (.iconst 3, 1) := by decide +kernel
theorem dX7_sinkBy_51 : decode cX7_sinkBy 51 = .ok (.if_icmp .ne 12, 3) := by decide +kernel
theorem dX7_sinkBy_54 : decode cX7_sinkBy 54 = .ok (.iconst 2, 1) := by decide +kernel
theorem dX7_sinkBy_55 : decode cX7_sinkBy 55 = .ok (.iload 4, 2) := by decide +kernel
theorem dX7_sinkBy_57 : decode cX7_sinkBy 57 = .ok (.iconst 1, 1) := by decide +kernel
theorem dX7_sinkBy_58 : decode cX7_sinkBy 58 = .ok (.iadd, 1) := by decide +kernel
theorem dX7_sinkBy_59 : decode cX7_sinkBy 59 = .ok (.imul, 1) := by decide +kernel
theorem dX7_sinkBy_60 : decode cX7_sinkBy 60 = .ok (.goto 5, 3) := by decide +kernel
theorem dX7_sinkBy_63 : decode cX7_sinkBy 63 = .ok (.iload 4, 2) := by decide +kernel
theorem dX7_sinkBy_65 : decode cX7_sinkBy 65 = .ok (.ireturn, 1) := by decide +kernel
theorem dX7_strike_0 : decode cX7_strike 0 = .ok (.aload_n 0, 1) := by decide +kernel
theorem dX7_strike_1 : decode cX7_strike 1 = .ok (.iload_n 1, 1) := by decide +kernel
theorem dX7_strike_2 : decode cX7_strike 2 = .ok (.iload_n 2, 1) := by decide +kernel
theorem dX7_strike_3 : decode cX7_strike 3 = .ok (.invokevirtual 61, 3) := by decide +kernel
theorem dX7_strike_6 : decode cX7_strike 6 = .ok (.istore_n 3, 1) := by decide +kernel
theorem dX7_strike_7 : decode cX7_strike 7 = .ok (.aload_n 0, 1) := by decide +kernel
theorem dX7_strike_8 : decode cX7_strike 8 = .ok (.getfield 18, 3) := by decide +kernel
theorem dX7_strike_11 : decode cX7_strike 11 = .ok (.iload_n 1, 1) := by decide +kernel
theorem dX7_strike_12 : decode cX7_strike 12 = .ok (.dup2, 1) := by decide +kernel
theorem dX7_strike_13 : decode cX7_strike 13 = .ok (.iaload, 1) := by decide +kernel
theorem dX7_strike_14 : decode cX7_strike 14 = .ok (.iload_n 3, 1) := by decide +kernel
theorem dX7_strike_15 : decode cX7_strike 15 = .ok (.isub, 1) := by decide +kernel
theorem dX7_strike_16 : decode cX7_strike 16 = .ok (.iastore, 1) := by decide +kernel
theorem dX7_strike_17 : decode cX7_strike 17 = .ok (.aload_n 0, 1) := by decide +kernel
theorem dX7_strike_18 : decode cX7_strike 18 = .ok (.iload_n 1, 1) := by decide +kernel
theorem dX7_strike_19 : decode cX7_strike 19 = .ok (.invokevirtual 64, 3) := by decide +kernel
theorem dX7_strike_22 : decode cX7_strike 22 = .ok (.iload_n 3, 1) := by decide +kernel
theorem dX7_strike_23 : decode cX7_strike 23 = .ok (.ireturn, 1) := by decide +kernel
theorem dX7_seatFirmer_0 : decode cX7_seatFirmer 0 = .ok (.aload_n 0, 1) := by decide +kernel
theorem dX7_seatFirmer_1 : decode cX7_seatFirmer 1 = .ok (.getfield 9, 3) := by decide +kernel
theorem dX7_seatFirmer_4 : decode cX7_seatFirmer 4 = .ok (.iload_n 1, 1) := by decide +kernel
theorem dX7_seatFirmer_5 : decode cX7_seatFirmer 5 = .ok (.iaload, 1) := by decide +kernel
theorem dX7_seatFirmer_6 : decode cX7_seatFirmer 6 = .ok (.istore_n 2, 1) := by decide +kernel
theorem dX7_seatFirmer_7 : decode cX7_seatFirmer 7 = .ok (.iload_n 2, 1) := by decide +kernel
theorem dX7_seatFirmer_8 : decode cX7_seatFirmer 8 = .ok (.iconst (-1), 1) := by decide +kernel
theorem dX7_seatFirmer_9 : decode cX7_seatFirmer 9 = .ok (.if_icmp .eq 8, 3) := by decide +kernel
theorem dX7_seatFirmer_12 : decode cX7_seatFirmer 12 = .ok (.iload_n 2, 1) := by decide +kernel
theorem dX7_seatFirmer_13 : decode cX7_seatFirmer 13 = .ok (.iconst 4, 1) := by decide +kernel
theorem dX7_seatFirmer_14 : decode cX7_seatFirmer 14 = .ok (.if_icmp .ne 4, 3) := by decide +kernel
theorem dX7_seatFirmer_17 : decode cX7_seatFirmer 17 = .ok (.return_, 1) := by decide +kernel
theorem dX7_seatFirmer_18 : decode cX7_seatFirmer 18 = .ok (.aload_n 0, 1) := by decide +kernel
theorem dX7_seatFirmer_19 : decode cX7_seatFirmer 19 = .ok (.getfield 21, 3) := by decide +kernel
theorem dX7_seatFirmer_22 : decode cX7_seatFirmer 22 = .ok (.iload_n 1, 1) := by decide +kernel
theorem dX7_seatFirmer_23 : decode cX7_seatFirmer 23 = .ok (.bipush 99, 2) := by decide +kernel
theorem dX7_seatFirmer_25 : decode cX7_seatFirmer 25 = .ok (.aload_n 0, 1) := by decide +kernel
theorem dX7_seatFirmer_26 : decode cX7_seatFirmer 26 = .ok (.getfield 21, 3) := by decide +kernel
theorem dX7_seatFirmer_29 : decode cX7_seatFirmer 29 = .ok (.iload_n 1, 1) := by decide +kernel
theorem dX7_seatFirmer_30 : decode cX7_seatFirmer 30 = .ok (.iaload, 1) := by decide +kernel
theorem dX7_seatFirmer_31 : decode cX7_seatFirmer 31 = .ok (.iconst 1, 1) := by decide +kernel
theorem dX7_seatFirmer_32 : decode cX7_seatFirmer 32 = .ok (.iadd, 1) := by decide +kernel
theorem dX7_seatFirmer_33 : decode cX7_seatFirmer 33 = .ok (.invokestatic 68, 3) := by decide +kernel
theorem dX7_seatFirmer_36 : decode cX7_seatFirmer 36 = .ok (.iastore, 1) := by decide +kernel
theorem dX7_seatFirmer_37 : decode cX7_seatFirmer 37 = .ok (.iload_n 2, 1) := by decide +kernel
theorem dX7_seatFirmer_38 : decode cX7_seatFirmer 38 = .ok (.iconst 3, 1) := by decide +kernel
theorem dX7_seatFirmer_39 : decode cX7_seatFirmer 39 = .ok (.if_icmp .ne 23, 3) := by decide +kernel
theorem dX7_seatFirmer_42 : decode cX7_seatFirmer 42 = .ok (.aload_n 0, 1) := by decide +kernel
theorem dX7_seatFirmer_43 : decode cX7_seatFirmer 43 = .ok (.getfield 21, 3) := by decide +kernel
theorem dX7_seatFirmer_46 : decode cX7_seatFirmer 46 = .ok (.iload_n 1, 1) := by decide +kernel
theorem dX7_seatFirmer_47 : decode cX7_seatFirmer 47 = .ok (.iaload, 1) := by decide +kernel
theorem dX7_seatFirmer_48 : decode cX7_seatFirmer 48 = .ok (.iconst 2, 1) := by decide +kernel
theorem dX7_seatFirmer_49 : decode cX7_seatFirmer 49 = .ok (.if_icmp .ne 13, 3) := by decide +kernel
theorem dX7_seatFirmer_52 : decode cX7_seatFirmer 52 = .ok (.aload_n 0, 1) := by decide +kernel
theorem dX7_seatFirmer_53 : decode cX7_seatFirmer 53 = .ok (.getfield 9, 3) := by decide +kernel
theorem dX7_seatFirmer_56 : decode cX7_seatFirmer 56 = .ok (.iload_n 1, 1) := by decide +kernel
theorem dX7_seatFirmer_57 : decode cX7_seatFirmer 57 = .ok (.iconst 2, 1) := by decide +kernel
theorem dX7_seatFirmer_58 : decode cX7_seatFirmer 58 = .ok (.iastore, 1) := by decide +kernel
theorem dX7_seatFirmer_59 : decode cX7_seatFirmer 59 = .ok (.goto 25, 3) := by decide +kernel
theorem dX7_seatFirmer_62 : decode cX7_seatFirmer 62 = .ok (.iload_n 2, 1) := by decide +kernel
theorem dX7_seatFirmer_63 : decode cX7_seatFirmer 63 = .ok (.iconst 2, 1) := by decide +kernel
theorem dX7_seatFirmer_64 : decode cX7_seatFirmer 64 = .ok (.if_icmp .ne 20, 3) := by decide +kernel
theorem dX7_seatFirmer_67 : decode cX7_seatFirmer 67 = .ok (.aload_n 0, 1) := by decide +kernel
theorem dX7_seatFirmer_68 : decode cX7_seatFirmer 68 = .ok (.getfield 21, 3) := by decide +kernel
theorem dX7_seatFirmer_71 : decode cX7_seatFirmer 71 = .ok (.iload_n 1, 1) := by decide +kernel
theorem dX7_seatFirmer_72 : decode cX7_seatFirmer 72 = .ok (.iaload, 1) := by decide +kernel
theorem dX7_seatFirmer_73 : decode cX7_seatFirmer 73 = .ok (.iconst 4, 1) := by decide +kernel
theorem dX7_seatFirmer_74 : decode cX7_seatFirmer 74 = .ok (.if_icmp .ne 10, 3) := by decide +kernel
theorem dX7_seatFirmer_77 : decode cX7_seatFirmer 77 = .ok (.aload_n 0, 1) := by decide +kernel
theorem dX7_seatFirmer_78 : decode cX7_seatFirmer 78 = .ok (.getfield 9, 3) := by decide +kernel
theorem dX7_seatFirmer_81 : decode cX7_seatFirmer 81 = .ok (.iload_n 1, 1) := by decide +kernel
theorem dX7_seatFirmer_82 : decode cX7_seatFirmer 82 = .ok (.iconst 0, 1) := by decide +kernel
theorem dX7_seatFirmer_83 : decode cX7_seatFirmer 83 = .ok (.iastore, 1) := by decide +kernel
theorem dX7_seatFirmer_84 : decode cX7_seatFirmer 84 = .ok (.return_, 1) := by decide +kernel
theorem dX7_ringing_0 : decode cX7_ringing 0 = .ok (.iconst 0, 1) := by decide +kernel
theorem dX7_ringing_1 : decode cX7_ringing 1 = .ok (.istore_n 2, 1) := by decide +kernel
theorem dX7_ringing_2 : decode cX7_ringing 2 = .ok (.iconst 0, 1) := by decide +kernel
theorem dX7_ringing_3 : decode cX7_ringing 3 = .ok (.istore_n 3, 1) := by decide +kernel
theorem dX7_ringing_4 : decode cX7_ringing 4 = .ok (.iload_n 3, 1) := by decide +kernel
theorem dX7_ringing_5 : decode cX7_ringing 5 = .ok (.aload_n 0, 1) := by decide +kernel
theorem dX7_ringing_6 : decode cX7_ringing 6 = .ok (.getfield 34, 3) := by decide +kernel
theorem dX7_ringing_9 : decode cX7_ringing 9 = .ok (.getfield 38, 3) := by decide +kernel
theorem dX7_ringing_12 : decode cX7_ringing 12 = .ok (.if_icmp .ge 31, 3) := by decide +kernel
theorem dX7_ringing_15 : decode cX7_ringing 15 = .ok (.aload_n 0, 1) := by decide +kernel
theorem dX7_ringing_16 : decode cX7_ringing 16 = .ok (.getfield 9, 3) := by decide +kernel
theorem dX7_ringing_19 : decode cX7_ringing 19 = .ok (.iload_n 3, 1) := by decide +kernel
theorem dX7_ringing_20 : decode cX7_ringing 20 = .ok (.iaload, 1) := by decide +kernel
theorem dX7_ringing_21 : decode cX7_ringing 21 = .ok (.iconst (-1), 1) := by decide +kernel
theorem dX7_ringing_22 : decode cX7_ringing 22 = .ok (.if_icmp .eq 15, 3) := by decide +kernel
theorem dX7_ringing_25 : decode cX7_ringing 25 = .ok (.aload_n 0, 1) := by decide +kernel
theorem dX7_ringing_26 : decode cX7_ringing 26 = .ok (.iload_n 3, 1) := by decide +kernel
theorem dX7_ringing_27 : decode cX7_ringing 27 = .ok (.iload_n 1, 1) := by decide +kernel
theorem dX7_ringing_28 : decode cX7_ringing 28 = .ok (.invokevirtual 61, 3) := by decide +kernel
theorem dX7_ringing_31 : decode cX7_ringing 31 = .ok (.ifCond .ne 6, 3) := by decide +kernel
theorem dX7_ringing_34 : decode cX7_ringing 34 = .ok (.iinc 2 1, 3) := by decide +kernel
theorem dX7_ringing_37 : decode cX7_ringing 37 = .ok (.iinc 3 1, 3) := by decide +kernel
theorem dX7_ringing_40 : decode cX7_ringing 40 = .ok (.goto (-36), 3) := by decide +kernel
theorem dX7_ringing_43 : decode cX7_ringing 43 = .ok (.iload_n 2, 1) := by decide +kernel
theorem dX7_ringing_44 : decode cX7_ringing 44 = .ok (.ireturn, 1) := by decide +kernel
theorem dX7_spread_0 : decode cX7_spread 0 = .ok (.ldc 73, 2) := by decide +kernel
theorem dX7_spread_2 : decode cX7_spread 2 = .ok (.istore_n 1, 1) := by decide +kernel
theorem dX7_spread_3 : decode cX7_spread 3 = .ok (.ldc 74, 2) := by decide +kernel
theorem dX7_spread_5 : decode cX7_spread 5 = .ok (.istore_n 2, 1) := by decide +kernel
theorem dX7_spread_6 : decode cX7_spread 6 = .ok (.iconst 0, 1) := by decide +kernel
theorem dX7_spread_7 : decode cX7_spread 7 = .ok (.istore_n 3, 1) := by decide +kernel
theorem dX7_spread_8 : decode cX7_spread 8 = .ok (.iload_n 3, 1) := by decide +kernel
theorem dX7_spread_9 : decode cX7_spread 9 = .ok (.aload_n 0, 1) := by decide +kernel
theorem dX7_spread_10 : decode cX7_spread 10 = .ok (.getfield 34, 3) := by decide +kernel
theorem dX7_spread_13 : decode cX7_spread 13 = .ok (.getfield 38, 3) := by decide +kernel
theorem dX7_spread_16 : decode cX7_spread 16 = .ok (.if_icmp .ge 41, 3) := by decide +kernel
theorem dX7_spread_19 : decode cX7_spread 19 = .ok (.aload_n 0, 1) := by decide +kernel
theorem dX7_spread_20 : decode cX7_spread 20 = .ok (.getfield 9, 3) := by decide +kernel
theorem dX7_spread_23 : decode cX7_spread 23 = .ok (.iload_n 3, 1) := by decide +kernel
theorem dX7_spread_24 : decode cX7_spread 24 = .ok (.iaload, 1) := by decide +kernel
theorem dX7_spread_25 : decode cX7_spread 25 = .ok (.iconst (-1), 1) := by decide +kernel
theorem dX7_spread_26 : decode cX7_spread 26 = .ok (.if_icmp .eq 25, 3) := by decide +kernel
theorem dX7_spread_29 : decode cX7_spread 29 = .ok (.iload_n 1, 1) := by decide +kernel
theorem dX7_spread_30 : decode cX7_spread 30 = .ok (.aload_n 0, 1) := by decide +kernel
theorem dX7_spread_31 : decode cX7_spread 31 = .ok (.getfield 18, 3) := by decide +kernel
theorem dX7_spread_34 : decode cX7_spread 34 = .ok (.iload_n 3, 1) := by decide +kernel
theorem dX7_spread_35 : decode cX7_spread 35 = .ok (.iaload, 1) := by decide +kernel
theorem dX7_spread_36 : decode cX7_spread 36 = .ok (.invokestatic 68, 3) := by decide +kernel
theorem dX7_spread_39 : decode cX7_spread 39 = .ok (.istore_n 1, 1) := by decide +kernel
theorem dX7_spread_40 : decode cX7_spread 40 = .ok (.iload_n 2, 1) := by decide +kernel
theorem dX7_spread_41 : decode cX7_spread 41 = .ok (.aload_n 0, 1) := by decide +kernel
theorem dX7_spread_42 : decode cX7_spread 42 = .ok (.getfield 18, 3) := by decide +kernel
theorem dX7_spread_45 : decode cX7_spread 45 = .ok (.iload_n 3, 1) := by decide +kernel
theorem dX7_spread_46 : decode cX7_spread 46 = .ok (.iaload, 1) := by decide +kernel
theorem dX7_spread_47 : decode cX7_spread 47 = .ok (.invokestatic 75, 3) := by decide +kernel
theorem dX7_spread_50 : decode cX7_spread 50 = .ok (.istore_n 2, 1) := by decide +kernel
theorem dX7_spread_51 : decode cX7_spread 51 = .ok (.iinc 3 1, 3) := by decide +kernel
theorem dX7_spread_54 : decode cX7_spread 54 = .ok (.goto (-46), 3) := by decide +kernel
theorem dX7_spread_57 : decode cX7_spread 57 = .ok (.iload_n 1, 1) := by decide +kernel
theorem dX7_spread_58 : decode cX7_spread 58 = .ok (.iload_n 2, 1) := by decide +kernel
theorem dX7_spread_59 : decode cX7_spread 59 = .ok (.if_icmp .le 7, 3) := by decide +kernel
theorem dX7_spread_62 : decode cX7_spread 62 = .ok (.iconst 0, 1) := by decide +kernel
theorem dX7_spread_63 : decode cX7_spread 63 = .ok (.goto 6, 3) := by decide +kernel
theorem dX7_spread_66 : decode cX7_spread 66 = .ok (.iload_n 2, 1) := by decide +kernel
theorem dX7_spread_67 : decode cX7_spread 67 = .ok (.iload_n 1, 1) := by decide +kernel
theorem dX7_spread_68 : decode cX7_spread 68 = .ok (.isub, 1) := by decide +kernel
theorem dX7_spread_69 : decode cX7_spread 69 = .ok (.ireturn, 1) := by decide +kernel
theorem dX7_canBeMended_0 : decode cX7_canBeMended 0 = .ok (.aload_n 0, 1) := by decide +kernel
theorem dX7_canBeMended_1 : decode cX7_canBeMended 1 = .ok (.getfield 9, 3) := by decide +kernel
theorem dX7_canBeMended_4 : decode cX7_canBeMended 4 = .ok (.iload_n 1, 1) := by decide +kernel
theorem dX7_canBeMended_5 : decode cX7_canBeMended 5 = .ok (.iaload, 1) := by decide +kernel
theorem dX7_canBeMended_6 : decode cX7_canBeMended 6 = .ok (.istore_n 2, 1) := by decide +kernel
theorem dX7_canBeMended_7 : decode cX7_canBeMended 7 = .ok (.iload_n 2, 1) := by decide +kernel
theorem dX7_canBeMended_8 : decode cX7_canBeMended 8 = .ok (.iconst (-1), 1) := by decide +kernel
theorem dX7_canBeMended_9 : decode cX7_canBeMended 9 = .ok (.if_icmp .eq 13, 3) := by decide +kernel
theorem dX7_canBeMended_12 : decode cX7_canBeMended 12 = .ok (.iload_n 2, 1) := by decide +kernel
theorem dX7_canBeMended_13 : decode cX7_canBeMended 13 = .ok (.iconst 2, 1) := by decide +kernel
theorem dX7_canBeMended_14 : decode cX7_canBeMended 14 = .ok (.if_icmp .eq 8, 3) := by decide +kernel
theorem dX7_canBeMended_17 : decode cX7_canBeMended 17 = .ok (.iload_n 2, 1) := by decide +kernel
theorem dX7_canBeMended_18 : decode cX7_canBeMended 18 = .ok (.iconst 3, 1) := by decide +kernel
theorem dX7_canBeMended_19 : decode cX7_canBeMended 19 = .ok (.if_icmp .ne 7, 3) := by decide +kernel
theorem dX7_canBeMended_22 : decode cX7_canBeMended 22 = .ok (.iconst 1, 1) := by decide +kernel
theorem dX7_canBeMended_23 : decode cX7_canBeMended 23 = .ok (.goto 4, 3) := by decide +kernel
theorem dX7_canBeMended_26 : decode cX7_canBeMended 26 = .ok (.iconst 0, 1) := by decide +kernel
theorem dX7_canBeMended_27 : decode cX7_canBeMended 27 = .ok (.ireturn, 1) := by decide +kernel
theorem dX7_repair_0 : decode cX7_repair 0 = .ok (.aload_n 0, 1) := by decide +kernel
theorem dX7_repair_1 : decode cX7_repair 1 = .ok (.getfield 9, 3) := by decide +kernel
theorem dX7_repair_4 : decode cX7_repair 4 = .ok (.iload_n 1, 1) := by decide +kernel
theorem dX7_repair_5 : decode cX7_repair 5 = .ok (.iaload, 1) := by decide +kernel
theorem dX7_repair_6 : decode cX7_repair 6 = .ok (.iconst (-1), 1) := by decide +kernel
theorem dX7_repair_7 : decode cX7_repair 7 = .ok (.if_icmp .ne 20, 3) := by decide +kernel
theorem dX7_repair_10 : decode cX7_repair 10 = .ok (.aload_n 0, 1) := by decide +kernel
theorem dX7_repair_11 : decode cX7_repair 11 = .ok (.getfield 9, 3) := by decide +kernel
theorem dX7_repair_14 : decode cX7_repair 14 = .ok (.iload_n 1, 1) := by decide +kernel
theorem dX7_repair_15 : decode cX7_repair 15 = .ok (.iconst 1, 1) := by decide +kernel
theorem dX7_repair_16 : decode cX7_repair 16 = .ok (.iastore, 1) := by decide +kernel
theorem dX7_repair_17 : decode cX7_repair 17 = .ok (.aload_n 0, 1) := by decide +kernel
theorem dX7_repair_18 : decode cX7_repair 18 = .ok (.getfield 15, 3) := by decide +kernel
theorem dX7_repair_21 : decode cX7_repair 21 = .ok (.iload_n 1, 1) := by decide +kernel
theorem dX7_repair_22 : decode cX7_repair 22 = .ok (.iload_n 2, 1) := by decide +kernel
theorem dX7_repair_23 : decode cX7_repair 23 = .ok (.iastore, 1) := by decide +kernel
theorem dX7_repair_24 : decode cX7_repair 24 = .ok (.goto 10, 3) := by decide +kernel
theorem dX7_repair_27 : decode cX7_repair 27 = .ok (.aload_n 0, 1) := by decide +kernel
theorem dX7_repair_28 : decode cX7_repair 28 = .ok (.getfield 9, 3) := by decide +kernel
theorem dX7_repair_31 : decode cX7_repair 31 = .ok (.iload_n 1, 1) := by decide +kernel
theorem dX7_repair_32 : decode cX7_repair 32 = .ok (.iconst 0, 1) := by decide +kernel
theorem dX7_repair_33 : decode cX7_repair 33 = .ok (.iastore, 1) := by decide +kernel
theorem dX7_repair_34 : decode cX7_repair 34 = .ok (.aload_n 0, 1) := by decide +kernel
theorem dX7_repair_35 : decode cX7_repair 35 = .ok (.getfield 18, 3) := by decide +kernel
theorem dX7_repair_38 : decode cX7_repair 38 = .ok (.iload_n 1, 1) := by decide +kernel
theorem dX7_repair_39 : decode cX7_repair 39 = .ok (.iconst 0, 1) := by decide +kernel
theorem dX7_repair_40 : decode cX7_repair 40 = .ok (.iastore, 1) := by decide +kernel
theorem dX7_repair_41 : decode cX7_repair 41 = .ok (.aload_n 0, 1) := by decide +kernel
theorem dX7_repair_42 : decode cX7_repair 42 = .ok (.getfield 21, 3) := by decide +kernel
theorem dX7_repair_45 : decode cX7_repair 45 = .ok (.iload_n 1, 1) := by decide +kernel
theorem dX7_repair_46 : decode cX7_repair 46 = .ok (.iconst 0, 1) := by decide +kernel
theorem dX7_repair_47 : decode cX7_repair 47 = .ok (.iastore, 1) := by decide +kernel
theorem dX7_repair_48 : decode cX7_repair 48 = .ok (.return_, 1) := by decide +kernel
theorem dX7_worsen_0 : decode cX7_worsen 0 = .ok (.aload_n 0, 1) := by decide +kernel
theorem dX7_worsen_1 : decode cX7_worsen 1 = .ok (.getfield 9, 3) := by decide +kernel
theorem dX7_worsen_4 : decode cX7_worsen 4 = .ok (.iload_n 1, 1) := by decide +kernel
theorem dX7_worsen_5 : decode cX7_worsen 5 = .ok (.iaload, 1) := by decide +kernel
theorem dX7_worsen_6 : decode cX7_worsen 6 = .ok (.istore_n 2, 1) := by decide +kernel
theorem dX7_worsen_7 : decode cX7_worsen 7 = .ok (.iload_n 2, 1) := by decide +kernel
theorem dX7_worsen_8 : decode cX7_worsen 8 = .ok (.iconst (-1), 1) := by decide +kernel
theorem dX7_worsen_9 : decode cX7_worsen 9 = .ok (.if_icmp .eq 8, 3) := by decide +kernel
theorem dX7_worsen_12 : decode cX7_worsen 12 = .ok (.iload_n 2, 1) := by decide +kernel
theorem dX7_worsen_13 : decode cX7_worsen 13 = .ok (.iconst 4, 1) := by decide +kernel
theorem dX7_worsen_14 : decode cX7_worsen 14 = .ok (.if_icmp .ne 5, 3) := by decide +kernel
theorem dX7_worsen_17 : decode cX7_worsen 17 = .ok (.iconst 0, 1) := by decide +kernel
theorem dX7_worsen_18 : decode cX7_worsen 18 = .ok (.ireturn, 1) := by decide +kernel
theorem dX7_worsen_19 : decode cX7_worsen 19 = .ok (.aload_n 0, 1) := by decide +kernel
theorem dX7_worsen_20 : decode cX7_worsen 20 = .ok (.dup, 1) := by decide +kernel
theorem dX7_worsen_21 : decode cX7_worsen 21 = .ok (.getfield 31, 3) := by decide +kernel
theorem dX7_worsen_24 : decode cX7_worsen 24 = .ok (.iconst 1, 1) := by decide +kernel
theorem dX7_worsen_25 : decode cX7_worsen 25 = .ok (.iadd, 1) := by decide +kernel
theorem dX7_worsen_26 : decode cX7_worsen 26 = .ok (.putfield 31, 3) := by decide +kernel
theorem dX7_worsen_29 : decode cX7_worsen 29 = .ok (.aload_n 0, 1) := by decide +kernel
theorem dX7_worsen_30 : decode cX7_worsen 30 = .ok (.getfield 21, 3) := by decide +kernel
theorem dX7_worsen_33 : decode cX7_worsen 33 = .ok (.iload_n 1, 1) := by decide +kernel
theorem dX7_worsen_34 : decode cX7_worsen 34 = .ok (.iconst 0, 1) := by decide +kernel
theorem dX7_worsen_35 : decode cX7_worsen 35 = .ok (.iastore, 1) := by decide +kernel
theorem dX7_worsen_36 : decode cX7_worsen 36 = .ok (.iload_n 2, 1) := by decide +kernel
theorem dX7_worsen_37 : decode cX7_worsen 37 = .ok (.ifCond .eq 8, 3) := by decide +kernel
theorem dX7_worsen_40 : decode cX7_worsen 40 = .ok (.iload_n 2, 1) := by decide +kernel
theorem dX7_worsen_41 : decode cX7_worsen 41 = .ok (.iconst 1, 1) := by decide +kernel
theorem dX7_worsen_42 : decode cX7_worsen 42 = .ok (.if_icmp .ne 12, 3) := by decide +kernel
theorem dX7_worsen_45 : decode cX7_worsen 45 = .ok (.aload_n 0, 1) := by decide +kernel
theorem dX7_worsen_46 : decode cX7_worsen 46 = .ok (.getfield 9, 3) := by decide +kernel
theorem dX7_worsen_49 : decode cX7_worsen 49 = .ok (.iload_n 1, 1) := by decide +kernel
theorem dX7_worsen_50 : decode cX7_worsen 50 = .ok (.iconst 2, 1) := by decide +kernel
theorem dX7_worsen_51 : decode cX7_worsen 51 = .ok (.iastore, 1) := by decide +kernel
theorem dX7_worsen_52 : decode cX7_worsen 52 = .ok (.iconst 0, 1) := by decide +kernel
theorem dX7_worsen_53 : decode cX7_worsen 53 = .ok (.ireturn, 1) := by decide +kernel
theorem dX7_worsen_54 : decode cX7_worsen 54 = .ok (.aload_n 0, 1) := by decide +kernel
theorem dX7_worsen_55 : decode cX7_worsen 55 = .ok (.getfield 9, 3) := by decide +kernel
theorem dX7_worsen_58 : decode cX7_worsen 58 = .ok (.iload_n 1, 1) := by decide +kernel
theorem dX7_worsen_59 : decode cX7_worsen 59 = .ok (.iconst (-1), 1) := by decide +kernel
theorem dX7_worsen_60 : decode cX7_worsen 60 = .ok (.iastore, 1) := by decide +kernel
theorem dX7_worsen_61 : decode cX7_worsen 61 = .ok (.aload_n 0, 1) := by decide +kernel
theorem dX7_worsen_62 : decode cX7_worsen 62 = .ok (.getfield 15, 3) := by decide +kernel
theorem dX7_worsen_65 : decode cX7_worsen 65 = .ok (.iload_n 1, 1) := by decide +kernel
theorem dX7_worsen_66 : decode cX7_worsen 66 = .ok (.iconst 0, 1) := by decide +kernel
theorem dX7_worsen_67 : decode cX7_worsen 67 = .ok (.iastore, 1) := by decide +kernel
theorem dX7_worsen_68 : decode cX7_worsen 68 = .ok (.aload_n 0, 1) := by decide +kernel
theorem dX7_worsen_69 : decode cX7_worsen 69 = .ok (.getfield 18, 3) := by decide +kernel
theorem dX7_worsen_72 : decode cX7_worsen 72 = .ok (.iload_n 1, 1) := by decide +kernel
theorem dX7_worsen_73 : decode cX7_worsen 73 = .ok (.dup2, 1) := by decide +kernel
theorem dX7_worsen_74 : decode cX7_worsen 74 = .ok (.iaload, 1) := by decide +kernel
theorem dX7_worsen_75 : decode cX7_worsen 75 = .ok (.iconst 5, 1) := by decide +kernel
theorem dX7_worsen_76 : decode cX7_worsen 76 = .ok (.isub, 1) := by decide +kernel
theorem dX7_worsen_77 : decode cX7_worsen 77 = .ok (.iastore, 1) := by decide +kernel
theorem dX7_worsen_78 : decode cX7_worsen 78 = .ok (.aload_n 0, 1) := by decide +kernel
theorem dX7_worsen_79 : decode cX7_worsen 79 = .ok (.getfield 24, 3) := by decide +kernel
theorem dX7_worsen_82 : decode cX7_worsen 82 = .ok (.iload_n 1, 1) := by decide +kernel
theorem dX7_worsen_83 : decode cX7_worsen 83 = .ok (.iconst 0, 1) := by decide +kernel
theorem dX7_worsen_84 : decode cX7_worsen 84 = .ok (.iastore, 1) := by decide +kernel
theorem dX7_worsen_85 : decode cX7_worsen 85 = .ok (.iconst 1, 1) := by decide +kernel
theorem dX7_worsen_86 : decode cX7_worsen 86 = .ok (.ireturn, 1) := by decide +kernel
theorem dX7_loseGrit_0 : decode cX7_loseGrit 0 = .ok (.aload_n 0, 1) := by decide +kernel
theorem dX7_loseGrit_1 : decode cX7_loseGrit 1 = .ok (.getfield 24, 3) := by decide +kernel
theorem dX7_loseGrit_4 : decode cX7_loseGrit 4 = .ok (.iload_n 1, 1) := by decide +kernel
theorem dX7_loseGrit_5 : decode cX7_loseGrit 5 = .ok (.iconst 0, 1) := by decide +kernel
theorem dX7_loseGrit_6 : decode cX7_loseGrit 6 = .ok (.aload_n 0, 1) := by decide +kernel
theorem dX7_loseGrit_7 : decode cX7_loseGrit 7 = .ok (.getfield 24, 3) := by decide +kernel
theorem dX7_loseGrit_10 : decode cX7_loseGrit 10 = .ok (.iload_n 1, 1) := by decide +kernel
theorem dX7_loseGrit_11 : decode cX7_loseGrit 11 = .ok (.iaload, 1) := by decide +kernel
theorem dX7_loseGrit_12 : decode cX7_loseGrit 12 = .ok (.iconst 1, 1) := by decide +kernel
theorem dX7_loseGrit_13 : decode cX7_loseGrit 13 = .ok (.isub, 1) := by decide +kernel
theorem dX7_loseGrit_14 : decode cX7_loseGrit 14 = .ok (.invokestatic 75, 3) := by decide +kernel
theorem dX7_loseGrit_17 : decode cX7_loseGrit 17 = .ok (.iastore, 1) := by decide +kernel
theorem dX7_loseGrit_18 : decode cX7_loseGrit 18 = .ok (.return_, 1) := by decide +kernel
theorem dX7_freeze_0 : decode cX7_freeze 0 = .ok (.aload_n 0, 1) := by decide +kernel
theorem dX7_freeze_1 : decode cX7_freeze 1 = .ok (.getfield 9, 3) := by decide +kernel
theorem dX7_freeze_4 : decode cX7_freeze 4 = .ok (.iload_n 1, 1) := by decide +kernel
theorem dX7_freeze_5 : decode cX7_freeze 5 = .ok (.iaload, 1) := by decide +kernel
theorem dX7_freeze_6 : decode cX7_freeze 6 = .ok (.ifCond .eq 13, 3) := by decide +kernel
theorem dX7_freeze_9 : decode cX7_freeze 9 = .ok (.aload_n 0, 1) := by decide +kernel
theorem dX7_freeze_10 : decode cX7_freeze 10 = .ok (.getfield 9, 3) := by decide +kernel
theorem dX7_freeze_13 : decode cX7_freeze 13 = .ok (.iload_n 1, 1) := by decide +kernel
theorem dX7_freeze_14 : decode cX7_freeze 14 = .ok (.iaload, 1) := by decide +kernel
theorem dX7_freeze_15 : decode cX7_freeze 15 = .ok (.iconst 1, 1) := by decide +kernel
theorem dX7_freeze_16 : decode cX7_freeze 16 = .ok (.if_icmp .ne 7, 3) := by decide +kernel
theorem dX7_freeze_19 : decode cX7_freeze 19 = .ok (.iconst 1, 1) := by decide +kernel
theorem dX7_freeze_20 : decode cX7_freeze 20 = .ok (.goto 4, 3) := by decide +kernel
theorem dX7_freeze_23 : decode cX7_freeze 23 = .ok (.iconst 0, 1) := by decide +kernel
theorem dX7_freeze_24 : decode cX7_freeze 24 = .ok (.istore_n 3, 1) := by decide +kernel
theorem dX7_freeze_25 : decode cX7_freeze 25 = .ok (.iload_n 3, 1) := by decide +kernel
theorem dX7_freeze_26 : decode cX7_freeze 26 = .ok (.ifCond .eq 45, 3) := by decide +kernel
theorem dX7_freeze_29 : decode cX7_freeze 29 = .ok (.aload_n 0, 1) := by decide +kernel
theorem dX7_freeze_30 : decode cX7_freeze 30 = .ok (.invokevirtual 78, 3) := by decide +kernel
theorem dX7_freeze_33 : decode cX7_freeze 33 = .ok (.iload_n 2, 1) := by decide +kernel
theorem dX7_freeze_34 : decode cX7_freeze 34 = .ok (.if_icmp .ge 37, 3) := by decide +kernel
theorem dX7_freeze_37 : decode cX7_freeze 37 = .ok (.aload_n 0, 1) := by decide +kernel
theorem dX7_freeze_38 : decode cX7_freeze 38 = .ok (.dup, 1) := by decide +kernel
theorem dX7_freeze_39 : decode cX7_freeze 39 = .ok (.getfield 31, 3) := by decide +kernel
theorem dX7_freeze_42 : decode cX7_freeze 42 = .ok (.iconst 1, 1) := by decide +kernel
theorem dX7_freeze_43 : decode cX7_freeze 43 = .ok (.iadd, 1) := by decide +kernel
theorem dX7_freeze_44 : decode cX7_freeze 44 = .ok (.putfield 31, 3) := by decide +kernel
theorem dX7_freeze_47 : decode cX7_freeze 47 = .ok (.aload_n 0, 1) := by decide +kernel
theorem dX7_freeze_48 : decode cX7_freeze 48 = .ok (.getfield 9, 3) := by decide +kernel
theorem dX7_freeze_51 : decode cX7_freeze 51 = .ok (.iload_n 1, 1) := by decide +kernel
theorem dX7_freeze_52 : decode cX7_freeze 52 = .ok (.iconst 3, 1) := by decide +kernel
theorem dX7_freeze_53 : decode cX7_freeze 53 = .ok (.iastore, 1) := by decide +kernel
theorem dX7_freeze_54 : decode cX7_freeze 54 = .ok (.aload_n 0, 1) := by decide +kernel
theorem dX7_freeze_55 : decode cX7_freeze 55 = .ok (.getfield 18, 3) := by decide +kernel
theorem dX7_freeze_58 : decode cX7_freeze 58 = .ok (.iload_n 1, 1) := by decide +kernel
theorem dX7_freeze_59 : decode cX7_freeze 59 = .ok (.dup2, 1) := by decide +kernel
theorem dX7_freeze_60 : decode cX7_freeze 60 = .ok (.iaload, 1) := by decide +kernel
theorem dX7_freeze_61 : decode cX7_freeze 61 = .ok (.iconst 2, 1) := by decide +kernel
theorem dX7_freeze_62 : decode cX7_freeze 62 = .ok (.iadd, 1) := by decide +kernel
theorem dX7_freeze_63 : decode cX7_freeze 63 = .ok (.iastore, 1) := by decide +kernel
theorem dX7_freeze_64 : decode cX7_freeze 64 = .ok (.aload_n 0, 1) := by decide +kernel
theorem dX7_freeze_65 : decode cX7_freeze 65 = .ok (.getfield 21, 3) := by decide +kernel
theorem dX7_freeze_68 : decode cX7_freeze 68 = .ok (.iload_n 1, 1) := by decide +kernel
theorem dX7_freeze_69 : decode cX7_freeze 69 = .ok (.iconst 0, 1) := by decide +kernel
theorem dX7_freeze_70 : decode cX7_freeze 70 = .ok (.iastore, 1) := by decide +kernel
theorem dX7_freeze_71 : decode cX7_freeze 71 = .ok (.return_, 1) := by decide +kernel
theorem dX7_drawOfTen_0 : decode cX7_drawOfTen 0 = .ok (.aload_n 0, 1) := by decide +kernel
theorem dX7_drawOfTen_1 : decode cX7_drawOfTen 1 = .ok (.ldc2_w 82, 3) := by decide +kernel
theorem dX7_drawOfTen_4 : decode cX7_drawOfTen 4 = .ok (.aload_n 0, 1) := by decide +kernel
theorem dX7_drawOfTen_5 : decode cX7_drawOfTen 5 = .ok (.getfield 27, 3) := by decide +kernel
theorem dX7_drawOfTen_8 : decode cX7_drawOfTen 8 = .ok (.i2l, 1) := by decide +kernel
theorem dX7_drawOfTen_9 : decode cX7_drawOfTen 9 = .ok (.lmul, 1) := by decide +kernel
theorem dX7_drawOfTen_10 : decode cX7_drawOfTen 10 = .ok (.ldc2_w 84, 3) := by decide +kernel
theorem dX7_drawOfTen_13 : decode cX7_drawOfTen 13 = .ok (.ladd, 1) := by decide +kernel
theorem dX7_drawOfTen_14 : decode cX7_drawOfTen 14 = .ok (.ldc2_w 86, 3) := by decide +kernel
theorem dX7_drawOfTen_17 : decode cX7_drawOfTen 17 = .ok (.land, 1) := by decide +kernel
theorem dX7_drawOfTen_18 : decode cX7_drawOfTen 18 = .ok (.l2i, 1) := by decide +kernel
theorem dX7_drawOfTen_19 : decode cX7_drawOfTen 19 = .ok (.putfield 27, 3) := by decide +kernel
theorem dX7_drawOfTen_22 : decode cX7_drawOfTen 22 = .ok (.aload_n 0, 1) := by decide +kernel
theorem dX7_drawOfTen_23 : decode cX7_drawOfTen 23 = .ok (.getfield 27, 3) := by decide +kernel
theorem dX7_drawOfTen_26 : decode cX7_drawOfTen 26 = .ok (.ldc 88, 2) := by decide +kernel
theorem dX7_drawOfTen_28 : decode cX7_drawOfTen 28 = .ok (.idiv, 1) := by decide +kernel
theorem dX7_drawOfTen_29 : decode cX7_drawOfTen 29 = .ok (.bipush 10, 2) := by decide +kernel
theorem dX7_drawOfTen_31 : decode cX7_drawOfTen 31 = .ok (.irem, 1) := by decide +kernel
theorem dX7_drawOfTen_32 : decode cX7_drawOfTen 32 = .ok (.ireturn, 1) := by decide +kernel
theorem dX7_isBesideSand_0 : decode cX7_isBesideSand 0 = .ok (.iconst 0, 1) := by decide +kernel
theorem dX7_isBesideSand_1 : decode cX7_isBesideSand 1 = .ok (.istore_n 2, 1) := by decide +kernel
theorem dX7_isBesideSand_2 : decode cX7_isBesideSand 2 = .ok (.iload_n 2, 1) := by decide +kernel
theorem dX7_isBesideSand_3 : decode cX7_isBesideSand 3 = .ok (.iconst 4, 1) := by decide +kernel
theorem dX7_isBesideSand_4 : decode cX7_isBesideSand 4 = .ok (.if_icmp .ge 36, 3) := by decide +kernel
theorem dX7_isBesideSand_7 : decode cX7_isBesideSand 7 = .ok (.aload_n 0, 1) := by decide +kernel
theorem dX7_isBesideSand_8 : decode cX7_isBesideSand 8 = .ok (.getfield 34, 3) := by decide +kernel
theorem dX7_isBesideSand_11 : decode cX7_isBesideSand 11 = .ok (.iload_n 1, 1) := by decide +kernel
theorem dX7_isBesideSand_12 : decode cX7_isBesideSand 12 = .ok (.iload_n 2, 1) := by decide +kernel
theorem dX7_isBesideSand_13 : decode cX7_isBesideSand 13 = .ok (.invokevirtual 51, 3) := by decide +kernel
theorem dX7_isBesideSand_16 : decode cX7_isBesideSand 16 = .ok (.istore_n 3, 1) := by decide +kernel
theorem dX7_isBesideSand_17 : decode cX7_isBesideSand 17 = .ok (.iload_n 3, 1) := by decide +kernel
theorem dX7_isBesideSand_18 : decode cX7_isBesideSand 18 = .ok (.iconst (-1), 1) := by decide +kernel
theorem dX7_isBesideSand_19 : decode cX7_isBesideSand 19 = .ok (.if_icmp .eq 15, 3) := by decide +kernel
theorem dX7_isBesideSand_22 : decode cX7_isBesideSand 22 = .ok (.aload_n 0, 1) := by decide +kernel
theorem dX7_isBesideSand_23 : decode cX7_isBesideSand 23 = .ok (.getfield 9, 3) := by decide +kernel
theorem dX7_isBesideSand_26 : decode cX7_isBesideSand 26 = .ok (.iload_n 3, 1) := by decide +kernel
theorem dX7_isBesideSand_27 : decode cX7_isBesideSand 27 = .ok (.iaload, 1) := by decide +kernel
theorem dX7_isBesideSand_28 : decode cX7_isBesideSand 28 = .ok (.iconst (-1), 1) := by decide +kernel
theorem dX7_isBesideSand_29 : decode cX7_isBesideSand 29 = .ok (.if_icmp .ne 5, 3) := by decide +kernel
theorem dX7_isBesideSand_32 : decode cX7_isBesideSand 32 = .ok (.iconst 1, 1) := by decide +kernel
theorem dX7_isBesideSand_33 : decode cX7_isBesideSand 33 = .ok (.ireturn, 1) := by decide +kernel
theorem dX7_isBesideSand_34 : decode cX7_isBesideSand 34 = .ok (.iinc 2 1, 3) := by decide +kernel
theorem dX7_isBesideSand_37 : decode cX7_isBesideSand 37 = .ok (.goto (-35), 3) := by decide +kernel
theorem dX7_isBesideSand_40 : decode cX7_isBesideSand 40 = .ok (.iconst 0, 1) := by decide +kernel
theorem dX7_isBesideSand_41 : decode cX7_isBesideSand 41 = .ok (.ireturn, 1) := by decide +kernel
theorem dX7_jolts_0 : decode cX7_jolts 0 = .ok (.iconst 0, 1) := by decide +kernel
theorem dX7_jolts_1 : decode cX7_jolts 1 = .ok (.istore_n 3, 1) := by decide +kernel
theorem dX7_jolts_2 : decode cX7_jolts 2 = .ok (.aload_n 0, 1) := by decide +kernel
theorem dX7_jolts_3 : decode cX7_jolts 3 = .ok (.getfield 34, 3) := by decide +kernel
theorem dX7_jolts_6 : decode cX7_jolts 6 = .ok (.iload_n 2, 1) := by decide +kernel
theorem dX7_jolts_7 : decode cX7_jolts 7 = .ok (.invokevirtual 89, 3) := by decide +kernel
theorem dX7_jolts_10 : decode cX7_jolts 10 = .ok (.istore 4, 2) := by decide +kernel
theorem dX7_jolts_12 : decode cX7_jolts 12 = .ok (.iconst 0, 1) := by decide +kernel
theorem dX7_jolts_13 : decode cX7_jolts 13 = .ok (.istore 5, 2) := by decide +kernel
theorem dX7_jolts_15 : decode cX7_jolts 15 = .ok (.iload 5, 2) := by decide +kernel
theorem dX7_jolts_17 : decode cX7_jolts 17 = .ok (.iload 4, 2) := by decide +kernel
theorem dX7_jolts_19 : decode cX7_jolts 19 = .ok (.if_icmp .ge 72, 3) := by decide +kernel
theorem dX7_jolts_22 : decode cX7_jolts 22 = .ok (.aload_n 0, 1) := by decide +kernel
theorem dX7_jolts_23 : decode cX7_jolts 23 = .ok (.getfield 34, 3) := by decide +kernel
theorem dX7_jolts_26 : decode cX7_jolts 26 = .ok (.iload_n 1, 1) := by decide +kernel
theorem dX7_jolts_27 : decode cX7_jolts 27 = .ok (.iload 5, 2) := by decide +kernel
theorem dX7_jolts_29 : decode cX7_jolts 29 = .ok (.iload_n 2, 1) := by decide +kernel
theorem dX7_jolts_30 : decode cX7_jolts 30 = .ok (.imul, 1) := by decide +kernel
theorem dX7_jolts_31 : decode cX7_jolts 31 = .ok (.invokevirtual 92, 3) := by decide +kernel
theorem dX7_jolts_34 : decode cX7_jolts 34 = .ok (.istore 6, 2) := by decide +kernel
theorem dX7_jolts_36 : decode cX7_jolts 36 = .ok (.aload_n 0, 1) := by decide +kernel
theorem dX7_jolts_37 : decode cX7_jolts 37 = .ok (.getfield 34, 3) := by decide +kernel
theorem dX7_jolts_40 : decode cX7_jolts 40 = .ok (.iload_n 1, 1) := by decide +kernel
theorem dX7_jolts_41 : decode cX7_jolts 41 = .ok (.iload 5, 2) := by decide +kernel
theorem dX7_jolts_43 : decode cX7_jolts 43 = .ok (.iload_n 2, 1) := by decide +kernel
theorem dX7_jolts_44 : decode cX7_jolts 44 = .ok (.imul, 1) := by decide +kernel
theorem dX7_jolts_45 : decode cX7_jolts 45 = .ok (.iload_n 2, 1) := by decide +kernel
theorem dX7_jolts_46 : decode cX7_jolts 46 = .ok (.iadd, 1) := by decide +kernel
theorem dX7_jolts_47 : decode cX7_jolts 47 = .ok (.invokevirtual 92, 3) := by decide +kernel
theorem dX7_jolts_50 : decode cX7_jolts 50 = .ok (.istore 7, 2) := by decide +kernel
theorem dX7_jolts_52 : decode cX7_jolts 52 = .ok (.iload 6, 2) := by decide +kernel
theorem dX7_jolts_54 : decode cX7_jolts 54 = .ok (.iconst (-1), 1) := by decide +kernel
theorem dX7_jolts_55 : decode cX7_jolts 55 = .ok (.if_icmp .eq 30, 3) := by decide +kernel
theorem dX7_jolts_58 : decode cX7_jolts 58 = .ok (.iload 7, 2) := by decide +kernel
theorem dX7_jolts_60 : decode cX7_jolts 60 = .ok (.iconst (-1), 1) := by decide +kernel
theorem dX7_jolts_61 : decode cX7_jolts 61 = .ok (.if_icmp .eq 24, 3) := by decide +kernel
theorem dX7_jolts_64 : decode cX7_jolts 64 = .ok (.iload_n 3, 1) := by decide +kernel
theorem dX7_jolts_65 : decode cX7_jolts 65 = .ok (.aload_n 0, 1) := by decide +kernel
theorem dX7_jolts_66 : decode cX7_jolts 66 = .ok (.getfield 18, 3) := by decide +kernel
theorem dX7_jolts_69 : decode cX7_jolts 69 = .ok (.iload 6, 2) := by decide +kernel
theorem dX7_jolts_71 : decode cX7_jolts 71 = .ok (.iaload, 1) := by decide +kernel
theorem dX7_jolts_72 : decode cX7_jolts 72 = .ok (.aload_n 0, 1) := by decide +kernel
theorem dX7_jolts_73 : decode cX7_jolts 73 = .ok (.getfield 18, 3) := by decide +kernel
theorem dX7_jolts_76 : decode cX7_jolts 76 = .ok (.iload 7, 2) := by decide +kernel
theorem dX7_jolts_78 : decode cX7_jolts 78 = .ok (.iaload, 1) := by decide +kernel
theorem dX7_jolts_79 : decode cX7_jolts 79 = .ok (.isub, 1) := by decide +kernel
theorem dX7_jolts_80 : decode cX7_jolts 80 = .ok (.invokestatic 95, 3) := by decide +kernel
theorem dX7_jolts_83 : decode cX7_jolts 83 = .ok (.iadd, 1) := by decide +kernel
theorem dX7_jolts_84 : decode cX7_jolts 84 = .ok (.istore_n 3, 1) := by decide +kernel
theorem dX7_jolts_85 : decode cX7_jolts 85 = .ok (.iinc 5 1, 3) := by decide +kernel
theorem dX7_jolts_88 : decode cX7_jolts 88 = .ok (.goto (-73), 3) := by decide +kernel
theorem dX7_jolts_91 : decode cX7_jolts 91 = .ok (.iload_n 3, 1) := by decide +kernel
theorem dX7_jolts_92 : decode cX7_jolts 92 = .ok (.ireturn, 1) := by decide +kernel
theorem dX8_init_0 : decode cX8_init 0 = .ok (.aload_n 0, 1) := by decide +kernel
theorem dX8_init_1 : decode cX8_init 1 = .ok (.invokespecial 3, 3) := by decide +kernel
theorem dX8_init_4 : decode cX8_init 4 = .ok (.aload_n 0, 1) := by decide +kernel
theorem dX8_init_5 : decode cX8_init 5 = .ok (.bipush 30, 2) := by decide +kernel
theorem dX8_init_7 : decode cX8_init 7 = .ok (.newarray .int, 2) := by decide +kernel
theorem dX8_init_9 : decode cX8_init 9 = .ok (.putfield 9, 3) := by decide +kernel
theorem dX8_init_12 : decode cX8_init 12 = .ok (.aload_n 0, 1) := by decide +kernel
theorem dX8_init_13 : decode cX8_init 13 = .ok (.bipush 30, 2) := by decide +kernel
theorem dX8_init_15 : decode cX8_init 15 = .ok (.newarray .int, 2) := by decide +kernel
theorem dX8_init_17 : decode cX8_init 17 = .ok (.putfield 15, 3) := by decide +kernel
theorem dX8_init_20 : decode cX8_init 20 = .ok (.aload_n 0, 1) := by decide +kernel
theorem dX8_init_21 : decode cX8_init 21 = .ok (.iconst 0, 1) := by decide +kernel
theorem dX8_init_22 : decode cX8_init 22 = .ok (.putfield 18, 3) := by decide +kernel
theorem dX8_init_25 : decode cX8_init 25 = .ok (.aload_n 0, 1) := by decide +kernel
theorem dX8_init_26 : decode cX8_init 26 = .ok (.iconst 0, 1) := by decide +kernel
theorem dX8_init_27 : decode cX8_init 27 = .ok (.putfield 22, 3) := by decide +kernel
theorem dX8_init_30 : decode cX8_init 30 = .ok (.aload_n 0, 1) := by decide +kernel
theorem dX8_init_31 : decode cX8_init 31 = .ok (.iconst 0, 1) := by decide +kernel
theorem dX8_init_32 : decode cX8_init 32 = .ok (.putfield 25, 3) := by decide +kernel
theorem dX8_init_35 : decode cX8_init 35 = .ok (.aload_n 0, 1) := by decide +kernel
theorem dX8_init_36 : decode cX8_init 36 = .ok (.iconst 0, 1) := by decide +kernel
theorem dX8_init_37 : decode cX8_init 37 = .ok (.putfield 28, 3) := by decide +kernel
theorem dX8_init_40 : decode cX8_init 40 = .ok (.aload_n 0, 1) := by decide +kernel
theorem dX8_init_41 : decode cX8_init 41 = .ok (.iconst 0, 1) := by decide +kernel
theorem dX8_init_42 : decode cX8_init 42 = .ok (.putfield 31, 3) := by decide +kernel
theorem dX8_init_45 : decode cX8_init 45 = .ok (.return_, 1) := by decide +kernel
theorem dX8_begin_0 : decode cX8_begin 0 = .ok (.aload_n 0, 1) := by decide +kernel
theorem dX8_begin_1 : decode cX8_begin 1 = .ok (.iconst 0, 1) := by decide +kernel
theorem dX8_begin_2 : decode cX8_begin 2 = .ok (.putfield 18, 3) := by decide +kernel
theorem dX8_begin_5 : decode cX8_begin 5 = .ok (.aload_n 0, 1) := by decide +kernel
theorem dX8_begin_6 : decode cX8_begin 6 = .ok (.iconst 0, 1) := by decide +kernel
theorem dX8_begin_7 : decode cX8_begin 7 = .ok (.putfield 22, 3) := by decide +kernel
theorem dX8_begin_10 : decode cX8_begin 10 = .ok (.aload_n 0, 1) := by decide +kernel
theorem dX8_begin_11 : decode cX8_begin 11 = .ok (.iconst 0, 1) := by decide +kernel
theorem dX8_begin_12 : decode cX8_begin 12 = .ok (.putfield 25, 3) := by decide +kernel
theorem dX8_begin_15 : decode cX8_begin 15 = .ok (.aload_n 0, 1) := by decide +kernel
theorem dX8_begin_16 : decode cX8_begin 16 = .ok (.iconst 0, 1) := by decide +kernel
theorem dX8_begin_17 : decode cX8_begin 17 = .ok (.putfield 28, 3) := by decide +kernel
theorem dX8_begin_20 : decode cX8_begin 20 = .ok (.aload_n 0, 1) := by decide +kernel
theorem dX8_begin_21 : decode cX8_begin 21 = .ok (.iconst 0, 1) := by decide +kernel
theorem dX8_begin_22 : decode cX8_begin 22 = .ok (.putfield 31, 3) := by decide +kernel
theorem dX8_begin_25 : decode cX8_begin 25 = .ok (.return_, 1) := by decide +kernel
theorem dX8_takes_0 : decode cX8_takes 0 = .ok (.aload_n 0, 1) := by decide +kernel
theorem dX8_takes_1 : decode cX8_takes 1 = .ok (.getfield 31, 3) := by decide +kernel
theorem dX8_takes_4 : decode cX8_takes 4 = .ok (.ifCond .eq 9, 3) := by decide +kernel
theorem dX8_takes_7 : decode cX8_takes 7 = .ok (.aload_n 0, 1) := by decide +kernel
theorem dX8_takes_8 : decode cX8_takes 8 = .ok (.iload_n 1, 1) := by decide +kernel
theorem dX8_takes_9 : decode cX8_takes 9 = .ok (.invokevirtual 35, 3) := by decide +kernel
theorem dX8_takes_12 : decode cX8_takes 12 = .ok (.ireturn, 1) := by decide +kernel
theorem dX8_takes_13 : decode cX8_takes 13 = .ok (.iload_n 1, 1) := by decide +kernel
theorem dX8_takes_14 : decode cX8_takes 14 = .ok (.bipush 47, 2) := by decide +kernel
theorem dX8_takes_16 : decode cX8_takes 16 = .ok (.if_icmp .ne 10, 3) := by decide +kernel
theorem dX8_takes_19 : decode cX8_takes 19 = .ok (.aload_n 0, 1) := by decide +kernel
theorem dX8_takes_20 : decode cX8_takes 20 = .ok (.invokevirtual 39, 3) := by decide +kernel
theorem dX8_takes_23 : decode cX8_takes 23 = .ok (.goto 8, 3) := by decide +kernel
theorem dX8_takes_26 : decode cX8_takes 26 = .ok (.aload_n 0, 1) := by decide +kernel
theorem dX8_takes_27 : decode cX8_takes 27 = .ok (.iload_n 1, 1) := by decide +kernel
theorem dX8_takes_28 : decode cX8_takes 28 = .ok (.invokevirtual 43, 3) := by decide +kernel
theorem dX8_takes_31 : decode cX8_takes 31 = .ok (.ireturn, 1) := by decide +kernel
theorem dX8_isWhole_0 : decode cX8_isWhole 0 = .ok (.aload_n 0, 1) := by decide +kernel
theorem dX8_isWhole_1 : decode cX8_isWhole 1 = .ok (.getfield 31, 3) := by decide +kernel
theorem dX8_isWhole_4 : decode cX8_isWhole 4 = .ok (.ifCond .ne 25, 3) := by decide +kernel
theorem dX8_isWhole_7 : decode cX8_isWhole 7 = .ok (.aload_n 0, 1) := by decide +kernel
theorem dX8_isWhole_8 : decode cX8_isWhole 8 = .ok (.getfield 18, 3) := by decide +kernel
theorem dX8_isWhole_11 : decode cX8_isWhole 11 = .ok (.ifCond .le 18, 3) := by decide +kernel
theorem dX8_isWhole_14 : decode cX8_isWhole 14 = .ok (.aload_n 0, 1) := by decide +kernel
theorem dX8_isWhole_15 : decode cX8_isWhole 15 = .ok (.getfield 25, 3) := by decide +kernel
theorem dX8_isWhole_18 : decode cX8_isWhole 18 = .ok (.aload_n 0, 1) := by decide +kernel
theorem dX8_isWhole_19 : decode cX8_isWhole 19 = .ok (.getfield 22, 3) := by decide +kernel
theorem dX8_isWhole_22 : decode cX8_isWhole 22 = .ok (.if_icmp .ne 7, 3) := by decide +kernel
theorem dX8_isWhole_25 : decode cX8_isWhole 25 = .ok (.iconst 1, 1) := by decide +kernel
theorem dX8_isWhole_26 : decode cX8_isWhole 26 = .ok (.goto 4, 3) := by decide +kernel
theorem dX8_isWhole_29 : decode cX8_isWhole 29 = .ok (.iconst 0, 1) := by decide +kernel
theorem dX8_isWhole_30 : decode cX8_isWhole 30 = .ok (.ireturn, 1) := by decide +kernel
theorem dX8_takesSize_0 : decode cX8_takesSize 0 = .ok (.iload_n 1, 1) := by decide +kernel
theorem dX8_takesSize_1 : decode cX8_takesSize 1 = .ok (.bipush 49, 2) := by decide +kernel
theorem dX8_takesSize_3 : decode cX8_takesSize 3 = .ok (.if_icmp .lt 26, 3) := by decide +kernel
theorem dX8_takesSize_6 : decode cX8_takesSize 6 = .ok (.iload_n 1, 1) := by decide +kernel
theorem dX8_takesSize_7 : decode cX8_takesSize 7 = .ok (.bipush 57, 2) := by decide +kernel
theorem dX8_takesSize_9 : decode cX8_takesSize 9 = .ok (.if_icmp .gt 20, 3) := by decide +kernel
theorem dX8_takesSize_12 : decode cX8_takesSize 12 = .ok (.aload_n 0, 1) := by decide +kernel
theorem dX8_takesSize_13 : decode cX8_takesSize 13 = .ok (.getfield 28, 3) := by decide +kernel
theorem dX8_takesSize_16 : decode cX8_takesSize 16 = .ok (.iconst 1, 1) := by decide +kernel
theorem dX8_takesSize_17 : decode cX8_takesSize 17 = .ok (.if_icmp .lt 12, 3) := by decide +kernel
theorem dX8_takesSize_20 : decode cX8_takesSize 20 = .ok (.aload_n 0, 1) := by decide +kernel
theorem dX8_takesSize_21 : decode cX8_takesSize 21 = .ok (.getfield 28, 3) := by decide +kernel
theorem dX8_takesSize_24 : decode cX8_takesSize 24 = .ok (.bipush 30, 2) := by decide +kernel
theorem dX8_takesSize_26 : decode cX8_takesSize 26 = .ok (.if_icmp .le 5, 3) := by decide +kernel
theorem dX8_takesSize_29 : decode cX8_takesSize 29 = .ok (.iconst 0, 1) := by decide +kernel
theorem dX8_takesSize_30 : decode cX8_takesSize 30 = .ok (.ireturn, 1) := by decide +kernel
theorem dX8_takesSize_31 : decode cX8_takesSize 31 = .ok (.aload_n 0, 1) := by decide +kernel
theorem dX8_takesSize_32 : decode cX8_takesSize 32 = .ok (.getfield 15, 3) := by decide +kernel
theorem dX8_takesSize_35 : decode cX8_takesSize 35 = .ok (.aload_n 0, 1) := by decide +kernel
theorem dX8_takesSize_36 : decode cX8_takesSize 36 = .ok (.getfield 28, 3) := by decide +kernel
theorem dX8_takesSize_39 : decode cX8_takesSize 39 = .ok (.iconst 1, 1) := by decide +kernel
theorem dX8_takesSize_40 : decode cX8_takesSize 40 = .ok (.isub, 1) := by decide +kernel
theorem dX8_takesSize_41 : decode cX8_takesSize 41 = .ok (.iload_n 1, 1) := by decide +kernel
theorem dX8_takesSize_42 : decode cX8_takesSize 42 = .ok (.bipush 48, 2) := by decide +kernel
theorem dX8_takesSize_44 : decode cX8_takesSize 44 = .ok (.isub, 1) := by decide +kernel
theorem dX8_takesSize_45 : decode cX8_takesSize 45 = .ok (.iastore, 1) := by decide +kernel
theorem dX8_takesSize_46 : decode cX8_takesSize 46 = .ok (.aload_n 0, 1) := by decide +kernel
theorem dX8_takesSize_47 : decode cX8_takesSize 47 = .ok (.iconst 0, 1) := by decide +kernel
theorem dX8_takesSize_48 : decode cX8_takesSize 48 = .ok (.putfield 31, 3) := by decide +kernel
theorem dX8_takesSize_51 : decode cX8_takesSize 51 = .ok (.iconst 1, 1) := by decide +kernel
theorem dX8_takesSize_52 : decode cX8_takesSize 52 = .ok (.ireturn, 1) := by decide +kernel
theorem dX8_takesRowEnd_0 : decode cX8_takesRowEnd 0 = .ok (.aload_n 0, 1) := by decide +kernel
theorem dX8_takesRowEnd_1 : decode cX8_takesRowEnd 1 = .ok (.getfield 18, 3) := by decide +kernel
theorem dX8_takesRowEnd_4 : decode cX8_takesRowEnd 4 = .ok (.ifCond .ne 11, 3) := by decide +kernel
theorem dX8_takesRowEnd_7 : decode cX8_takesRowEnd 7 = .ok (.aload_n 0, 1) := by decide +kernel
theorem dX8_takesRowEnd_8 : decode cX8_takesRowEnd 8 = .ok (.aload_n 0, 1) := by decide +kernel
theorem dX8_takesRowEnd_9 : decode cX8_takesRowEnd 9 = .ok (.getfield 25, 3) := by decide +kernel
theorem dX8_takesRowEnd_12 : decode cX8_takesRowEnd 12 = .ok (.putfield 22, 3) := by decide +kernel
theorem dX8_takesRowEnd_15 : decode cX8_takesRowEnd 15 = .ok (.aload_n 0, 1) := by decide +kernel
theorem dX8_takesRowEnd_16 : decode cX8_takesRowEnd 16 = .ok (.getfield 25, 3) := by decide +kernel
theorem dX8_takesRowEnd_19 : decode cX8_takesRowEnd 19 = .ok (.iconst 2, 1) := by decide +kernel
theorem dX8_takesRowEnd_20 : decode cX8_takesRowEnd 20 = .ok (.if_icmp .lt 24, 3) := by decide +kernel
theorem dX8_takesRowEnd_23 : decode cX8_takesRowEnd 23 = .ok (.aload_n 0, 1) := by decide +kernel
theorem dX8_takesRowEnd_24 : decode cX8_takesRowEnd 24 = .ok (.getfield 25, 3) := by decide +kernel
theorem dX8_takesRowEnd_27 : decode cX8_takesRowEnd 27 = .ok (.aload_n 0, 1) := by decide +kernel
theorem dX8_takesRowEnd_28 : decode cX8_takesRowEnd 28 = .ok (.getfield 22, 3) := by decide +kernel
theorem dX8_takesRowEnd_31 : decode cX8_takesRowEnd 31 = .ok (.if_icmp .ne 13, 3) := by decide +kernel
theorem dX8_takesRowEnd_34 : decode cX8_takesRowEnd 34 = .ok (.aload_n 0, 1) := by decide +kernel
theorem dX8_takesRowEnd_35 : decode cX8_takesRowEnd 35 = .ok (.getfield 18, 3) := by decide +kernel
theorem dX8_takesRowEnd_38 : decode cX8_takesRowEnd 38 = .ok (.iconst 1, 1) := by decide +kernel
theorem dX8_takesRowEnd_39 : decode cX8_takesRowEnd 39 = .ok (.iadd, 1) := by decide +kernel
theorem dX8_takesRowEnd_40 : decode cX8_takesRowEnd 40 = .ok (.iconst 5, 1) := by decide +kernel
theorem dX8_takesRowEnd_41 : decode cX8_takesRowEnd 41 = .ok (.if_icmp .lt 5, 3) := by decide +kernel
theorem dX8_takesRowEnd_44 : decode cX8_takesRowEnd 44 = .ok (.iconst 0, 1) := by decide +kernel
theorem dX8_takesRowEnd_45 : decode cX8_takesRowEnd 45 = .ok (.ireturn, 1) := by decide +kernel
theorem dX8_takesRowEnd_46 : decode cX8_takesRowEnd 46 = .ok (.aload_n 0, 1) := by decide +kernel
theorem dX8_takesRowEnd_47 : decode cX8_takesRowEnd 47 = .ok (.dup, 1) := by decide +kernel
theorem dX8_takesRowEnd_48 : decode cX8_takesRowEnd 48 = .ok (.getfield 18, 3) := by decide +kernel
theorem dX8_takesRowEnd_51 : decode cX8_takesRowEnd 51 = .ok (.iconst 1, 1) := by decide +kernel
theorem dX8_takesRowEnd_52 : decode cX8_takesRowEnd 52 = .ok (.iadd, 1) := by decide +kernel
theorem dX8_takesRowEnd_53 : decode cX8_takesRowEnd 53 = .ok (.putfield 18, 3) := by decide +kernel
theorem dX8_takesRowEnd_56 : decode cX8_takesRowEnd 56 = .ok (.aload_n 0, 1) := by decide +kernel
theorem dX8_takesRowEnd_57 : decode cX8_takesRowEnd 57 = .ok (.iconst 0, 1) := by decide +kernel
theorem dX8_takesRowEnd_58 : decode cX8_takesRowEnd 58 = .ok (.putfield 25, 3) := by decide +kernel
theorem dX8_takesRowEnd_61 : decode cX8_takesRowEnd 61 = .ok (.iconst 1, 1) := by decide +kernel
theorem dX8_takesRowEnd_62 : decode cX8_takesRowEnd 62 = .ok (.ireturn, 1) := by decide +kernel
theorem dX8_takesCell_0 : decode cX8_takesCell 0 = .ok (.iload_n 1, 1) := by decide +kernel
theorem dX8_takesCell_1 : decode cX8_takesCell 1 = .ok (.invokestatic 46, 3) := by decide +kernel
theorem dX8_takesCell_4 : decode cX8_takesCell 4 = .ok (.istore_n 2, 1) := by decide +kernel
theorem dX8_takesCell_5 : decode cX8_takesCell 5 = .ok (.aload_n 0, 1) := by decide +kernel
theorem dX8_takesCell_6 : decode cX8_takesCell 6 = .ok (.getfield 18, 3) := by decide +kernel
theorem dX8_takesCell_9 : decode cX8_takesCell 9 = .ok (.ifCond .ne 8, 3) := by decide +kernel
theorem dX8_takesCell_12 : decode cX8_takesCell 12 = .ok (.bipush 6, 2) := by decide +kernel
theorem dX8_takesCell_14 : decode cX8_takesCell 14 = .ok (.goto 7, 3) := by decide +kernel
theorem dX8_takesCell_17 : decode cX8_takesCell 17 = .ok (.aload_n 0, 1) := by decide +kernel
theorem dX8_takesCell_18 : decode cX8_takesCell 18 = .ok (.getfield 22, 3) := by decide +kernel
theorem dX8_takesCell_21 : decode cX8_takesCell 21 = .ok (.istore_n 3, 1) := by decide +kernel
theorem dX8_takesCell_22 : decode cX8_takesCell 22 = .ok (.aload_n 0, 1) := by decide +kernel
theorem dX8_takesCell_23 : decode cX8_takesCell 23 = .ok (.getfield 25, 3) := by decide +kernel
theorem dX8_takesCell_26 : decode cX8_takesCell 26 = .ok (.iload_n 3, 1) := by decide +kernel
theorem dX8_takesCell_27 : decode cX8_takesCell 27 = .ok (.if_icmp .ge 23, 3) := by decide +kernel
theorem dX8_takesCell_30 : decode cX8_takesCell 30 = .ok (.aload_n 0, 1) := by decide +kernel
theorem dX8_takesCell_31 : decode cX8_takesCell 31 = .ok (.getfield 28, 3) := by decide +kernel
theorem dX8_takesCell_34 : decode cX8_takesCell 34 = .ok (.bipush 30, 2) := by decide +kernel
theorem dX8_takesCell_36 : decode cX8_takesCell 36 = .ok (.if_icmp .ge 14, 3) := by decide +kernel
theorem dX8_takesCell_39 : decode cX8_takesCell 39 = .ok (.iload_n 2, 1) := by decide +kernel
theorem dX8_takesCell_40 : decode cX8_takesCell 40 = .ok (.iconst (-1), 1) := by decide +kernel
theorem dX8_takesCell_41 : decode cX8_takesCell 41 = .ok (.if_icmp .ne 11, 3) := by decide +kernel
theorem dX8_takesCell_44 : decode cX8_takesCell 44 = .ok (.iload_n 1, 1) := by decide +kernel
theorem dX8_takesCell_45 : decode cX8_takesCell 45 = .ok (.bipush 46, 2) := by decide +kernel
theorem dX8_takesCell_47 : decode cX8_takesCell 47 = .ok (.if_icmp .eq 5, 3) := by decide +kernel
theorem dX8_takesCell_50 : decode cX8_takesCell 50 = .ok (.iconst 0, 1) := by decide +kernel
theorem dX8_takesCell_51 : decode cX8_takesCell 51 = .ok (.ireturn, 1) := by decide +kernel
theorem dX8_takesCell_52 : decode cX8_takesCell 52 = .ok (.aload_n 0, 1) := by decide +kernel
theorem dX8_takesCell_53 : decode cX8_takesCell 53 = .ok (.getfield 9, 3) := by decide +kernel
theorem dX8_takesCell_56 : decode cX8_takesCell 56 = .ok (.aload_n 0, 1) := by decide +kernel
theorem dX8_takesCell_57 : decode cX8_takesCell 57 = .ok (.getfield 28, 3) := by decide +kernel
theorem dX8_takesCell_60 : decode cX8_takesCell 60 = .ok (.iload_n 2, 1) := by decide +kernel
theorem dX8_takesCell_61 : decode cX8_takesCell 61 = .ok (.iastore, 1) := by decide +kernel
theorem dX8_takesCell_62 : decode cX8_takesCell 62 = .ok (.aload_n 0, 1) := by decide +kernel
theorem dX8_takesCell_63 : decode cX8_takesCell 63 = .ok (.getfield 15, 3) := by decide +kernel
theorem dX8_takesCell_66 : decode cX8_takesCell 66 = .ok (.aload_n 0, 1) := by decide +kernel
theorem dX8_takesCell_67 : decode cX8_takesCell 67 = .ok (.getfield 28, 3) := by decide +kernel
theorem dX8_takesCell_70 : decode cX8_takesCell 70 = .ok (.iconst 0, 1) := by decide +kernel
theorem dX8_takesCell_71 : decode cX8_takesCell 71 = .ok (.iastore, 1) := by decide +kernel
theorem dX8_takesCell_72 : decode cX8_takesCell 72 = .ok (.aload_n 0, 1) := by decide +kernel
theorem dX8_takesCell_73 : decode cX8_takesCell 73 = .ok (.iload_n 2, 1) := by decide +kernel
theorem dX8_takesCell_74 : decode cX8_takesCell 74 = .ok (.iconst (-1), 1) := by decide +kernel
theorem dX8_takesCell_75 : decode cX8_takesCell 75 = .ok (.if_icmp .eq 7, 3) := by decide +kernel
theorem dX8_takesCell_78 : decode cX8_takesCell 78 = .ok (.iconst 1, 1) := by decide +kernel
theorem dX8_takesCell_79 : decode cX8_takesCell 79 = .ok (.goto 4, 3) := by decide +kernel
theorem dX8_takesCell_82 : decode cX8_takesCell 82 = .ok (.iconst 0, 1) := by decide +kernel
theorem dX8_takesCell_83 : decode cX8_takesCell 83 = .ok (.putfield 31, 3) := by decide +kernel
theorem dX8_takesCell_86 : decode cX8_takesCell 86 = .ok (.aload_n 0, 1) := by decide +kernel
theorem dX8_takesCell_87 : decode cX8_takesCell 87 = .ok (.dup, 1) := by decide +kernel
theorem dX8_takesCell_88 : decode cX8_takesCell 88 = .ok (.getfield 28, 3) := by decide +kernel
theorem dX8_takesCell_91 : decode cX8_takesCell 91 = .ok (.iconst 1, 1) := by decide +kernel
theorem dX8_takesCell_92 : decode cX8_takesCell 92 = .ok (.iadd, 1) := by decide +kernel
theorem dX8_takesCell_93 : decode cX8_takesCell 93 = .ok (.putfield 28, 3) := by decide +kernel
theorem dX8_takesCell_96 : decode cX8_takesCell 96 = .ok (.aload_n 0, 1) := by decide +kernel
theorem dX8_takesCell_97 : decode cX8_takesCell 97 = .ok (.dup, 1) := by decide +kernel
theorem dX8_takesCell_98 : decode cX8_takesCell 98 = .ok (.getfield 25, 3) := by decide +kernel
theorem dX8_takesCell_101 : decode cX8_takesCell 101 = .ok (.iconst 1, 1) := by decide +kernel
theorem dX8_takesCell_102 : decode cX8_takesCell 102 = .ok (.iadd, 1) := by decide +kernel
theorem dX8_takesCell_103 : decode cX8_takesCell 103 = .ok (.putfield 25, 3) := by decide +kernel
theorem dX8_takesCell_106 : decode cX8_takesCell 106 = .ok (.iconst 1, 1) := by decide +kernel
theorem dX8_takesCell_107 : decode cX8_takesCell 107 = .ok (.ireturn, 1) := by decide +kernel
theorem dX8_kindOf_0 : decode cX8_kindOf 0 = .ok (.iload_n 0, 1) := by decide +kernel
theorem dX8_kindOf_1 : decode cX8_kindOf 1 = .ok (.tableswitch 65 107 116 #[63, 59, 65, 65, 57, 65, 65, 65, 55, 61], 55) := by decide +kernel
theorem dX8_kindOf_56 : decode cX8_kindOf 56 = .ok (.iconst 0, 1) := by decide +kernel
theorem dX8_kindOf_57 : decode cX8_kindOf 57 = .ok (.ireturn, 1) := by decide +kernel
theorem dX8_kindOf_58 : decode cX8_kindOf 58 = .ok (.iconst 1, 1) := by decide +kernel
theorem dX8_kindOf_59 : decode cX8_kindOf 59 = .ok (.ireturn, 1) := by decide +kernel
theorem dX8_kindOf_60 : decode cX8_kindOf 60 = .ok (.iconst 2, 1) := by decide +kernel
theorem dX8_kindOf_61 : decode cX8_kindOf 61 = .ok (.ireturn, 1) := by decide +kernel
theorem dX8_kindOf_62 : decode cX8_kindOf 62 = .ok (.iconst 3, 1) := by decide +kernel
theorem dX8_kindOf_63 : decode cX8_kindOf 63 = .ok (.ireturn, 1) := by decide +kernel
theorem dX8_kindOf_64 : decode cX8_kindOf 64 = .ok (.iconst 4, 1) := by decide +kernel
theorem dX8_kindOf_65 : decode cX8_kindOf 65 = .ok (.ireturn, 1) := by decide +kernel
theorem dX8_kindOf_66 : decode cX8_kindOf 66 = .ok (.iconst (-1), 1) := by decide +kernel
theorem dX8_kindOf_67 : decode cX8_kindOf 67 = .ok (.ireturn, 1) := by decide +kernel
theorem dX9_init_0 : decode cX9_init 0 = .ok (.aload_n 0, 1) := by decide +kernel
theorem dX9_init_1 : decode cX9_init 1 = .ok (.invokespecial 3, 3) := by decide +kernel
theorem dX9_init_4 : decode cX9_init 4 = .ok (.aload_n 0, 1) := by decide +kernel
theorem dX9_init_5 : decode cX9_init 5 = .ok (.bipush 30, 2) := by decide +kernel
theorem dX9_init_7 : decode cX9_init 7 = .ok (.newarray .int, 2) := by decide +kernel
theorem dX9_init_9 : decode cX9_init 9 = .ok (.putfield 9, 3) := by decide +kernel
theorem dX9_init_12 : decode cX9_init 12 = .ok (.aload_n 0, 1) := by decide +kernel
theorem dX9_init_13 : decode cX9_init 13 = .ok (.aload_n 1, 1) := by decide +kernel
theorem dX9_init_14 : decode cX9_init 14 = .ok (.putfield 15, 3) := by decide +kernel
theorem dX9_init_17 : decode cX9_init 17 = .ok (.return_, 1) := by decide +kernel
theorem dX9_fill_0 : decode cX9_fill 0 = .ok (.iconst 0, 1) := by decide +kernel
theorem dX9_fill_1 : decode cX9_fill 1 = .ok (.istore_n 2, 1) := by decide +kernel
theorem dX9_fill_2 : decode cX9_fill 2 = .ok (.iload_n 2, 1) := by decide +kernel
theorem dX9_fill_3 : decode cX9_fill 3 = .ok (.aload_n 0, 1) := by decide +kernel
theorem dX9_fill_4 : decode cX9_fill 4 = .ok (.getfield 15, 3) := by decide +kernel
theorem dX9_fill_7 : decode cX9_fill 7 = .ok (.getfield 19, 3) := by decide +kernel
theorem dX9_fill_10 : decode cX9_fill 10 = .ok (.if_icmp .ge 38, 3) := by decide +kernel
theorem dX9_fill_13 : decode cX9_fill 13 = .ok (.aload_n 0, 1) := by decide +kernel
theorem dX9_fill_14 : decode cX9_fill 14 = .ok (.getfield 9, 3) := by decide +kernel
theorem dX9_fill_17 : decode cX9_fill 17 = .ok (.iload_n 2, 1) := by decide +kernel
theorem dX9_fill_18 : decode cX9_fill 18 = .ok (.aload_n 0, 1) := by decide +kernel
theorem dX9_fill_19 : decode cX9_fill 19 = .ok (.getfield 15, 3) := by decide +kernel
theorem dX9_fill_22 : decode cX9_fill 22 = .ok (.getfield 25, 3) := by decide +kernel
theorem dX9_fill_25 : decode cX9_fill 25 = .ok (.iload_n 2, 1) := by decide +kernel
theorem dX9_fill_26 : decode cX9_fill 26 = .ok (.baload, 1) := by decide +kernel
theorem dX9_fill_27 : decode cX9_fill 27 = .ok (.ifCond .eq 12, 3) := by decide +kernel
theorem dX9_fill_30 : decode cX9_fill 30 = .ok (.aload_n 1, 1) := by decide +kernel
theorem dX9_fill_31 : decode cX9_fill 31 = .ok (.getfield 29, 3) := by decide +kernel
theorem dX9_fill_34 : decode cX9_fill 34 = .ok (.iload_n 2, 1) := by decide +kernel
theorem dX9_fill_35 : decode cX9_fill 35 = .ok (.iaload, 1) := by decide +kernel
theorem dX9_fill_36 : decode cX9_fill 36 = .ok (.goto 5, 3) := by decide +kernel
theorem dX9_fill_39 : decode cX9_fill 39 = .ok (.ldc 34, 2) := by decide +kernel
theorem dX9_fill_41 : decode cX9_fill 41 = .ok (.iastore, 1) := by decide +kernel
theorem dX9_fill_42 : decode cX9_fill 42 = .ok (.iinc 2 1, 3) := by decide +kernel
theorem dX9_fill_45 : decode cX9_fill 45 = .ok (.goto (-43), 3) := by decide +kernel
theorem dX9_fill_48 : decode cX9_fill 48 = .ok (.iconst 1, 1) := by decide +kernel
theorem dX9_fill_49 : decode cX9_fill 49 = .ok (.istore_n 2, 1) := by decide +kernel
theorem dX9_fill_50 : decode cX9_fill 50 = .ok (.iconst 0, 1) := by decide +kernel
theorem dX9_fill_51 : decode cX9_fill 51 = .ok (.istore_n 3, 1) := by decide +kernel
theorem dX9_fill_52 : decode cX9_fill 52 = .ok (.iload_n 3, 1) := by decide +kernel
theorem dX9_fill_53 : decode cX9_fill 53 = .ok (.bipush 30, 2) := by decide +kernel
theorem dX9_fill_55 : decode cX9_fill 55 = .ok (.if_icmp .ge 69, 3) := by decide +kernel
theorem dX9_fill_58 : decode cX9_fill 58 = .ok (.iload_n 2, 1) := by decide +kernel
theorem dX9_fill_59 : decode cX9_fill 59 = .ok (.ifCond .eq 65, 3) := by decide +kernel
theorem dX9_fill_62 : decode cX9_fill 62 = .ok (.iconst 0, 1) := by decide +kernel
theorem dX9_fill_63 : decode cX9_fill 63 = .ok (.istore_n 2, 1) := by decide +kernel
theorem dX9_fill_64 : decode cX9_fill 64 = .ok (.iconst 0, 1) := by decide +kernel
theorem dX9_fill_65 : decode cX9_fill 65 = .ok (.istore 4, 2) := by decide +kernel
theorem dX9_fill_67 : decode cX9_fill 67 = .ok (.iload 4, 2) := by decide +kernel
theorem dX9_fill_69 : decode cX9_fill 69 = .ok (.aload_n 0, 1) := by decide +kernel
theorem dX9_fill_70 : decode cX9_fill 70 = .ok (.getfield 15, 3) := by decide +kernel
theorem dX9_fill_73 : decode cX9_fill 73 = .ok (.getfield 19, 3) := by decide +kernel
theorem dX9_fill_76 : decode cX9_fill 76 = .ok (.if_icmp .ge 42, 3) := by decide +kernel
theorem dX9_fill_79 : decode cX9_fill 79 = .ok (.aload_n 0, 1) := by decide +kernel
theorem dX9_fill_80 : decode cX9_fill 80 = .ok (.getfield 15, 3) := by decide +kernel
theorem dX9_fill_83 : decode cX9_fill 83 = .ok (.getfield 25, 3) := by decide +kernel
theorem dX9_fill_86 : decode cX9_fill 86 = .ok (.iload 4, 2) := by decide +kernel
theorem dX9_fill_88 : decode cX9_fill 88 = .ok (.baload, 1) := by decide +kernel
theorem dX9_fill_89 : decode cX9_fill 89 = .ok (.ifCond .ne 13, 3) := by decide +kernel
theorem dX9_fill_92 : decode cX9_fill 92 = .ok (.aload_n 0, 1) := by decide +kernel
theorem dX9_fill_93 : decode cX9_fill 93 = .ok (.aload_n 1, 1) := by decide +kernel
theorem dX9_fill_94 : decode cX9_fill 94 = .ok (.iload 4, 2) := by decide +kernel
theorem dX9_fill_96 : decode cX9_fill 96 = .ok (.invokevirtual 35, 3) := by decide +kernel
theorem dX9_fill_99 : decode cX9_fill 99 = .ok (.ifCond .ne 7, 3) := by decide +kernel
theorem dX9_fill_102 : decode cX9_fill 102 = .ok (.iload_n 2, 1) := by decide +kernel
theorem dX9_fill_103 : decode cX9_fill 103 = .ok (.ifCond .eq 7, 3) := by decide +kernel
theorem dX9_fill_106 : decode cX9_fill 106 = .ok (.iconst 1, 1) := by decide +kernel
theorem dX9_fill_107 : decode cX9_fill 107 = .ok (.goto 4, 3) := by decide +kernel
theorem dX9_fill_110 : decode cX9_fill 110 = .ok (.iconst 0, 1) := by decide +kernel
theorem dX9_fill_111 : decode cX9_fill 111 = .ok (.istore_n 2, 1) := by decide +kernel
theorem dX9_fill_112 : decode cX9_fill 112 = .ok (.iinc 4 1, 3) := by decide +kernel
theorem dX9_fill_115 : decode cX9_fill 115 = .ok (.goto (-48), 3) := by decide +kernel
theorem dX9_fill_118 : decode cX9_fill 118 = .ok (.iinc 3 1, 3) := by decide +kernel
theorem dX9_fill_121 : decode cX9_fill 121 = .ok (.goto (-69), 3) := by decide +kernel
theorem dX9_fill_124 : decode cX9_fill 124 = .ok (.return_, 1) := by decide +kernel
theorem dX9_depth_0 : decode cX9_depth 0 = .ok (.aload_n 0, 1) := by decide +kernel
theorem dX9_depth_1 : decode cX9_depth 1 = .ok (.getfield 9, 3) := by decide +kernel
theorem dX9_depth_4 : decode cX9_depth 4 = .ok (.iload_n 2, 1) := by decide +kernel
theorem dX9_depth_5 : decode cX9_depth 5 = .ok (.iaload, 1) := by decide +kernel
theorem dX9_depth_6 : decode cX9_depth 6 = .ok (.aload_n 1, 1) := by decide +kernel
theorem dX9_depth_7 : decode cX9_depth 7 = .ok (.getfield 29, 3) := by decide +kernel
theorem dX9_depth_10 : decode cX9_depth 10 = .ok (.iload_n 2, 1) := by decide +kernel
theorem dX9_depth_11 : decode cX9_depth 11 = .ok (.iaload, 1) := by decide +kernel
theorem dX9_depth_12 : decode cX9_depth 12 = .ok (.isub, 1) := by decide +kernel
theorem dX9_depth_13 : decode cX9_depth 13 = .ok (.ireturn, 1) := by decide +kernel
theorem dX9_fallsIn_0 : decode cX9_fallsIn 0 = .ok (.aload_n 0, 1) := by decide +kernel
theorem dX9_fallsIn_1 : decode cX9_fallsIn 1 = .ok (.getfield 9, 3) := by decide +kernel
theorem dX9_fallsIn_4 : decode cX9_fallsIn 4 = .ok (.iload_n 2, 1) := by decide +kernel
theorem dX9_fallsIn_5 : decode cX9_fallsIn 5 = .ok (.iaload, 1) := by decide +kernel
theorem dX9_fallsIn_6 : decode cX9_fallsIn 6 = .ok (.istore_n 3, 1) := by decide +kernel
theorem dX9_fallsIn_7 : decode cX9_fallsIn 7 = .ok (.iconst 0, 1) := by decide +kernel
theorem dX9_fallsIn_8 : decode cX9_fallsIn 8 = .ok (.istore 4, 2) := by decide +kernel
theorem dX9_fallsIn_10 : decode cX9_fallsIn 10 = .ok (.iload 4, 2) := by decide +kernel
theorem dX9_fallsIn_12 : decode cX9_fallsIn 12 = .ok (.iconst 4, 1) := by decide +kernel
theorem dX9_fallsIn_13 : decode cX9_fallsIn 13 = .ok (.if_icmp .ge 39, 3) := by decide +kernel
theorem dX9_fallsIn_16 : decode cX9_fallsIn 16 = .ok (.aload_n 0, 1) := by decide +kernel
theorem dX9_fallsIn_17 : decode cX9_fallsIn 17 = .ok (.getfield 15, 3) := by decide +kernel
theorem dX9_fallsIn_20 : decode cX9_fallsIn 20 = .ok (.iload_n 2, 1) := by decide +kernel
theorem dX9_fallsIn_21 : decode cX9_fallsIn 21 = .ok (.iload 4, 2) := by decide +kernel
theorem dX9_fallsIn_23 : decode cX9_fallsIn 23 = .ok (.invokevirtual 39, 3) := by decide +kernel
theorem dX9_fallsIn_26 : decode cX9_fallsIn 26 = .ok (.istore 5, 2) := by decide +kernel
theorem dX9_fallsIn_28 : decode cX9_fallsIn 28 = .ok (.iload 5, 2) := by decide +kernel
theorem dX9_fallsIn_30 : decode cX9_fallsIn 30 = .ok (.iconst (-1), 1) := by decide +kernel
theorem dX9_fallsIn_31 : decode cX9_fallsIn 31 = .ok (.if_icmp .eq 15, 3) := by decide +kernel
theorem dX9_fallsIn_34 : decode cX9_fallsIn 34 = .ok (.iload_n 3, 1) := by decide +kernel
theorem dX9_fallsIn_35 : decode cX9_fallsIn 35 = .ok (.aload_n 0, 1) := by decide +kernel
theorem dX9_fallsIn_36 : decode cX9_fallsIn 36 = .ok (.getfield 9, 3) := by decide +kernel
theorem dX9_fallsIn_39 : decode cX9_fallsIn 39 = .ok (.iload 5, 2) := by decide +kernel
theorem dX9_fallsIn_41 : decode cX9_fallsIn 41 = .ok (.iaload, 1) := by decide +kernel
theorem dX9_fallsIn_42 : decode cX9_fallsIn 42 = .ok (.invokestatic 43, 3) := by decide +kernel
theorem dX9_fallsIn_45 : decode cX9_fallsIn 45 = .ok (.istore_n 3, 1) := by decide +kernel
theorem dX9_fallsIn_46 : decode cX9_fallsIn 46 = .ok (.iinc 4 1, 3) := by decide +kernel
theorem dX9_fallsIn_49 : decode cX9_fallsIn 49 = .ok (.goto (-39), 3) := by decide +kernel
theorem dX9_fallsIn_52 : decode cX9_fallsIn 52 = .ok (.aload_n 1, 1) := by decide +kernel
theorem dX9_fallsIn_53 : decode cX9_fallsIn 53 = .ok (.getfield 29, 3) := by decide +kernel
theorem dX9_fallsIn_56 : decode cX9_fallsIn 56 = .ok (.iload_n 2, 1) := by decide +kernel
theorem dX9_fallsIn_57 : decode cX9_fallsIn 57 = .ok (.iaload, 1) := by decide +kernel
theorem dX9_fallsIn_58 : decode cX9_fallsIn 58 = .ok (.iload_n 3, 1) := by decide +kernel
theorem dX9_fallsIn_59 : decode cX9_fallsIn 59 = .ok (.invokestatic 48, 3) := by decide +kernel
theorem dX9_fallsIn_62 : decode cX9_fallsIn 62 = .ok (.istore 4, 2) := by decide +kernel
theorem dX9_fallsIn_64 : decode cX9_fallsIn 64 = .ok (.iload 4, 2) := by decide +kernel
theorem dX9_fallsIn_66 : decode cX9_fallsIn 66 = .ok (.aload_n 0, 1) := by decide +kernel
theorem dX9_fallsIn_67 : decode cX9_fallsIn 67 = .ok (.getfield 9, 3) := by decide +kernel
theorem dX9_fallsIn_70 : decode cX9_fallsIn 70 = .ok (.iload_n 2, 1) := by decide +kernel
theorem dX9_fallsIn_71 : decode cX9_fallsIn 71 = .ok (.iaload, 1) := by decide +kernel
theorem dX9_fallsIn_72 : decode cX9_fallsIn 72 = .ok (.if_icmp .ge 7, 3) := by decide +kernel
theorem dX9_fallsIn_75 : decode cX9_fallsIn 75 = .ok (.iconst 1, 1) := by decide +kernel
theorem dX9_fallsIn_76 : decode cX9_fallsIn 76 = .ok (.goto 4, 3) := by decide +kernel
theorem dX9_fallsIn_79 : decode cX9_fallsIn 79 = .ok (.iconst 0, 1) := by decide +kernel
theorem dX9_fallsIn_80 : decode cX9_fallsIn 80 = .ok (.istore 5, 2) := by decide +kernel
theorem dX9_fallsIn_82 : decode cX9_fallsIn 82 = .ok (.aload_n 0, 1) := by decide +kernel
theorem dX9_fallsIn_83 : decode cX9_fallsIn 83 = .ok (.getfield 9, 3) := by decide +kernel
theorem dX9_fallsIn_86 : decode cX9_fallsIn 86 = .ok (.iload_n 2, 1) := by decide +kernel
theorem dX9_fallsIn_87 : decode cX9_fallsIn 87 = .ok (.iload 4, 2) := by decide +kernel
theorem dX9_fallsIn_89 : decode cX9_fallsIn 89 = .ok (.iastore, 1) := by decide +kernel
theorem dX9_fallsIn_90 : decode cX9_fallsIn 90 = .ok (.iload 5, 2) := by decide +kernel
theorem dX9_fallsIn_92 : decode cX9_fallsIn 92 = .ok (.ireturn, 1) := by decide +kernel
theorem dX10_init_0 : decode cX10_init 0 = .ok (.aload_n 0, 1) := by decide +kernel
theorem dX10_init_1 : decode cX10_init 1 = .ok (.invokespecial 3, 3) := by decide +kernel
theorem dX10_init_4 : decode cX10_init 4 = .ok (.aload_n 0, 1) := by decide +kernel
theorem dX10_init_5 : decode cX10_init 5 = .ok (.bipush 30, 2) := by decide +kernel
theorem dX10_init_7 : decode cX10_init 7 = .ok (.newarray .boolean, 2) := by decide +kernel
theorem dX10_init_9 : decode cX10_init 9 = .ok (.putfield 9, 3) := by decide +kernel
theorem dX10_init_12 : decode cX10_init 12 = .ok (.aload_n 0, 1) := by decide +kernel
theorem dX10_init_13 : decode cX10_init 13 = .ok (.aload_n 1, 1) := by decide +kernel
theorem dX10_init_14 : decode cX10_init 14 = .ok (.putfield 15, 3) := by decide +kernel
theorem dX10_init_17 : decode cX10_init 17 = .ok (.aload_n 0, 1) := by decide +kernel
theorem dX10_init_18 : decode cX10_init 18 = .ok (.aload_n 2, 1) := by decide +kernel
theorem dX10_init_19 : decode cX10_init 19 = .ok (.putfield 19, 3) := by decide +kernel
theorem dX10_init_22 : decode cX10_init 22 = .ok (.aload_n 0, 1) := by decide +kernel
theorem dX10_init_23 : decode cX10_init 23 = .ok (.aload_n 3, 1) := by decide +kernel
theorem dX10_init_24 : decode cX10_init 24 = .ok (.putfield 23, 3) := by decide +kernel
theorem dX10_init_27 : decode cX10_init 27 = .ok (.return_, 1) := by decide +kernel
theorem dX10_pass_0 : decode cX10_pass 0 = .ok (.iconst 0, 1) := by decide +kernel
theorem dX10_pass_1 : decode cX10_pass 1 = .ok (.istore 5, 2) := by decide +kernel
theorem dX10_pass_3 : decode cX10_pass 3 = .ok (.iconst 0, 1) := by decide +kernel
theorem dX10_pass_4 : decode cX10_pass 4 = .ok (.istore 6, 2) := by decide +kernel
theorem dX10_pass_6 : decode cX10_pass 6 = .ok (.iconst 0, 1) := by decide +kernel
theorem dX10_pass_7 : decode cX10_pass 7 = .ok (.istore 7, 2) := by decide +kernel
theorem dX10_pass_9 : decode cX10_pass 9 = .ok (.iload 7, 2) := by decide +kernel
theorem dX10_pass_11 : decode cX10_pass 11 = .ok (.iload_n 3, 1) := by decide +kernel
theorem dX10_pass_12 : decode cX10_pass 12 = .ok (.if_icmp .ge 64, 3) := by decide +kernel
theorem dX10_pass_15 : decode cX10_pass 15 = .ok (.iload 6, 2) := by decide +kernel
theorem dX10_pass_17 : decode cX10_pass 17 = .ok (.ifCond .ne 9, 3) := by decide +kernel
theorem dX10_pass_20 : decode cX10_pass 20 = .ok (.aload_n 0, 1) := by decide +kernel
theorem dX10_pass_21 : decode cX10_pass 21 = .ok (.aload_n 1, 1) := by decide +kernel
theorem dX10_pass_22 : decode cX10_pass 22 = .ok (.aload_n 2, 1) := by decide +kernel
theorem dX10_pass_23 : decode cX10_pass 23 = .ok (.invokevirtual 27, 3) := by decide +kernel
theorem dX10_pass_26 : decode cX10_pass 26 = .ok (.aload_n 1, 1) := by decide +kernel
theorem dX10_pass_27 : decode cX10_pass 27 = .ok (.getfield 31, 3) := by decide +kernel
theorem dX10_pass_30 : decode cX10_pass 30 = .ok (.istore 8, 2) := by decide +kernel
theorem dX10_pass_32 : decode cX10_pass 32 = .ok (.iload 5, 2) := by decide +kernel
theorem dX10_pass_34 : decode cX10_pass 34 = .ok (.aload_n 0, 1) := by decide +kernel
theorem dX10_pass_35 : decode cX10_pass 35 = .ok (.aload_n 1, 1) := by decide +kernel
theorem dX10_pass_36 : decode cX10_pass 36 = .ok (.invokevirtual 37, 3) := by decide +kernel
theorem dX10_pass_39 : decode cX10_pass 39 = .ok (.iadd, 1) := by decide +kernel
theorem dX10_pass_40 : decode cX10_pass 40 = .ok (.istore 5, 2) := by decide +kernel
theorem dX10_pass_42 : decode cX10_pass 42 = .ok (.aload_n 0, 1) := by decide +kernel
theorem dX10_pass_43 : decode cX10_pass 43 = .ok (.aload_n 1, 1) := by decide +kernel
theorem dX10_pass_44 : decode cX10_pass 44 = .ok (.iload 4, 2) := by decide +kernel
theorem dX10_pass_46 : decode cX10_pass 46 = .ok (.invokevirtual 41, 3) := by decide +kernel
theorem dX10_pass_49 : decode cX10_pass 49 = .ok (.aload_n 0, 1) := by decide +kernel
theorem dX10_pass_50 : decode cX10_pass 50 = .ok (.aload_n 1, 1) := by decide +kernel
theorem dX10_pass_51 : decode cX10_pass 51 = .ok (.invokevirtual 45, 3) := by decide +kernel
theorem dX10_pass_54 : decode cX10_pass 54 = .ok (.aload_n 1, 1) := by decide +kernel
theorem dX10_pass_55 : decode cX10_pass 55 = .ok (.getfield 31, 3) := by decide +kernel
theorem dX10_pass_58 : decode cX10_pass 58 = .ok (.iload 8, 2) := by decide +kernel
theorem dX10_pass_60 : decode cX10_pass 60 = .ok (.if_icmp .ne 7, 3) := by decide +kernel
theorem dX10_pass_63 : decode cX10_pass 63 = .ok (.iconst 1, 1) := by decide +kernel
theorem dX10_pass_64 : decode cX10_pass 64 = .ok (.goto 4, 3) := by decide +kernel
theorem dX10_pass_67 : decode cX10_pass 67 = .ok (.iconst 0, 1) := by decide +kernel
theorem dX10_pass_68 : decode cX10_pass 68 = .ok (.istore 6, 2) := by decide +kernel
theorem dX10_pass_70 : decode cX10_pass 70 = .ok (.iinc 7 1, 3) := by decide +kernel
theorem dX10_pass_73 : decode cX10_pass 73 = .ok (.goto (-64), 3) := by decide +kernel
theorem dX10_pass_76 : decode cX10_pass 76 = .ok (.iload 5, 2) := by decide +kernel
theorem dX10_pass_78 : decode cX10_pass 78 = .ok (.ireturn, 1) := by decide +kernel
theorem dX10_layCarts_0 : decode cX10_layCarts 0 = .ok (.aload_n 0, 1) := by decide +kernel
theorem dX10_layCarts_1 : decode cX10_layCarts 1 = .ok (.getfield 19, 3) := by decide +kernel
theorem dX10_layCarts_4 : decode cX10_layCarts 4 = .ok (.aload_n 1, 1) := by decide +kernel
theorem dX10_layCarts_5 : decode cX10_layCarts 5 = .ok (.invokevirtual 49, 3) := by decide +kernel
theorem dX10_layCarts_8 : decode cX10_layCarts 8 = .ok (.iconst 0, 1) := by decide +kernel
theorem dX10_layCarts_9 : decode cX10_layCarts 9 = .ok (.istore_n 3, 1) := by decide +kernel
theorem dX10_layCarts_10 : decode cX10_layCarts 10 = .ok (.iload_n 3, 1) := by decide +kernel
theorem dX10_layCarts_11 : decode cX10_layCarts 11 = .ok (.aload_n 2, 1) := by decide +kernel
theorem dX10_layCarts_12 : decode cX10_layCarts 12 = .ok (.getfield 54, 3) := by decide +kernel
theorem dX10_layCarts_15 : decode cX10_layCarts 15 = .ok (.if_icmp .ge 68, 3) := by decide +kernel
theorem dX10_layCarts_18 : decode cX10_layCarts 18 = .ok (.iconst 0, 1) := by decide +kernel
theorem dX10_layCarts_19 : decode cX10_layCarts 19 = .ok (.istore 4, 2) := by decide +kernel
theorem dX10_layCarts_21 : decode cX10_layCarts 21 = .ok (.iload 4, 2) := by decide +kernel
theorem dX10_layCarts_23 : decode cX10_layCarts 23 = .ok (.aload_n 0, 1) := by decide +kernel
theorem dX10_layCarts_24 : decode cX10_layCarts 24 = .ok (.getfield 15, 3) := by decide +kernel
theorem dX10_layCarts_27 : decode cX10_layCarts 27 = .ok (.getfield 59, 3) := by decide +kernel
theorem dX10_layCarts_30 : decode cX10_layCarts 30 = .ok (.if_icmp .ge 47, 3) := by decide +kernel
theorem dX10_layCarts_33 : decode cX10_layCarts 33 = .ok (.aload_n 0, 1) := by decide +kernel
theorem dX10_layCarts_34 : decode cX10_layCarts 34 = .ok (.getfield 15, 3) := by decide +kernel
theorem dX10_layCarts_37 : decode cX10_layCarts 37 = .ok (.aload_n 2, 1) := by decide +kernel
theorem dX10_layCarts_38 : decode cX10_layCarts 38 = .ok (.getfield 64, 3) := by decide +kernel
theorem dX10_layCarts_41 : decode cX10_layCarts 41 = .ok (.iload_n 3, 1) := by decide +kernel
theorem dX10_layCarts_42 : decode cX10_layCarts 42 = .ok (.iaload, 1) := by decide +kernel
theorem dX10_layCarts_43 : decode cX10_layCarts 43 = .ok (.iload 4, 2) := by decide +kernel
theorem dX10_layCarts_45 : decode cX10_layCarts 45 = .ok (.invokevirtual 68, 3) := by decide +kernel
theorem dX10_layCarts_48 : decode cX10_layCarts 48 = .ok (.istore 5, 2) := by decide +kernel
theorem dX10_layCarts_50 : decode cX10_layCarts 50 = .ok (.iload 5, 2) := by decide +kernel
theorem dX10_layCarts_52 : decode cX10_layCarts 52 = .ok (.iconst (-1), 1) := by decide +kernel
theorem dX10_layCarts_53 : decode cX10_layCarts 53 = .ok (.if_icmp .eq 18, 3) := by decide +kernel
theorem dX10_layCarts_56 : decode cX10_layCarts 56 = .ok (.aload_n 0, 1) := by decide +kernel
theorem dX10_layCarts_57 : decode cX10_layCarts 57 = .ok (.getfield 19, 3) := by decide +kernel
theorem dX10_layCarts_60 : decode cX10_layCarts 60 = .ok (.iload 5, 2) := by decide +kernel
theorem dX10_layCarts_62 : decode cX10_layCarts 62 = .ok (.aload_n 2, 1) := by decide +kernel
theorem dX10_layCarts_63 : decode cX10_layCarts 63 = .ok (.getfield 72, 3) := by decide +kernel
theorem dX10_layCarts_66 : decode cX10_layCarts 66 = .ok (.iload_n 3, 1) := by decide +kernel
theorem dX10_layCarts_67 : decode cX10_layCarts 67 = .ok (.iaload, 1) := by decide +kernel
theorem dX10_layCarts_68 : decode cX10_layCarts 68 = .ok (.invokevirtual 75, 3) := by decide +kernel
theorem dX10_layCarts_71 : decode cX10_layCarts 71 = .ok (.iinc 4 1, 3) := by decide +kernel
theorem dX10_layCarts_74 : decode cX10_layCarts 74 = .ok (.goto (-53), 3) := by decide +kernel
theorem dX10_layCarts_77 : decode cX10_layCarts 77 = .ok (.iinc 3 1, 3) := by decide +kernel
theorem dX10_layCarts_80 : decode cX10_layCarts 80 = .ok (.goto (-70), 3) := by decide +kernel
theorem dX10_layCarts_83 : decode cX10_layCarts 83 = .ok (.return_, 1) := by decide +kernel
theorem dX10_wearDown_0 : decode cX10_wearDown 0 = .ok (.iconst 0, 1) := by decide +kernel
theorem dX10_wearDown_1 : decode cX10_wearDown 1 = .ok (.istore_n 2, 1) := by decide +kernel
theorem dX10_wearDown_2 : decode cX10_wearDown 2 = .ok (.iload_n 2, 1) := by decide +kernel
theorem dX10_wearDown_3 : decode cX10_wearDown 3 = .ok (.aload_n 0, 1) := by decide +kernel
theorem dX10_wearDown_4 : decode cX10_wearDown 4 = .ok (.getfield 15, 3) := by decide +kernel
theorem dX10_wearDown_7 : decode cX10_wearDown 7 = .ok (.getfield 79, 3) := by decide +kernel
theorem dX10_wearDown_10 : decode cX10_wearDown 10 = .ok (.if_icmp .ge 52, 3) := by decide +kernel
theorem dX10_wearDown_13 : decode cX10_wearDown 13 = .ok (.bipush 20, 2) := by decide +kernel
theorem dX10_wearDown_15 : decode cX10_wearDown 15 = .ok (.aload_n 1, 1) := by decide +kernel
theorem dX10_wearDown_16 : decode cX10_wearDown 16 = .ok (.getfield 82, 3) := by decide +kernel
theorem dX10_wearDown_19 : decode cX10_wearDown 19 = .ok (.iload_n 2, 1) := by decide +kernel
theorem dX10_wearDown_20 : decode cX10_wearDown 20 = .ok (.iaload, 1) := by decide +kernel
theorem dX10_wearDown_21 : decode cX10_wearDown 21 = .ok (.imul, 1) := by decide +kernel
theorem dX10_wearDown_22 : decode cX10_wearDown 22 = .ok (.bipush 10, 2) := by decide +kernel
theorem dX10_wearDown_24 : decode cX10_wearDown 24 = .ok (.aload_n 1, 1) := by decide +kernel
theorem dX10_wearDown_25 : decode cX10_wearDown 25 = .ok (.iload_n 2, 1) := by decide +kernel
theorem dX10_wearDown_26 : decode cX10_wearDown 26 = .ok (.invokevirtual 85, 3) := by decide +kernel
theorem dX10_wearDown_29 : decode cX10_wearDown 29 = .ok (.imul, 1) := by decide +kernel
theorem dX10_wearDown_30 : decode cX10_wearDown 30 = .ok (.iadd, 1) := by decide +kernel
theorem dX10_wearDown_31 : decode cX10_wearDown 31 = .ok (.istore_n 3, 1) := by decide +kernel
theorem dX10_wearDown_32 : decode cX10_wearDown 32 = .ok (.aload_n 0, 1) := by decide +kernel
theorem dX10_wearDown_33 : decode cX10_wearDown 33 = .ok (.getfield 9, 3) := by decide +kernel
theorem dX10_wearDown_36 : decode cX10_wearDown 36 = .ok (.iload_n 2, 1) := by decide +kernel
theorem dX10_wearDown_37 : decode cX10_wearDown 37 = .ok (.aload_n 0, 1) := by decide +kernel
theorem dX10_wearDown_38 : decode cX10_wearDown 38 = .ok (.getfield 19, 3) := by decide +kernel
theorem dX10_wearDown_41 : decode cX10_wearDown 41 = .ok (.getfield 89, 3) := by decide +kernel
theorem dX10_wearDown_44 : decode cX10_wearDown 44 = .ok (.iload_n 2, 1) := by decide +kernel
theorem dX10_wearDown_45 : decode cX10_wearDown 45 = .ok (.iaload, 1) := by decide +kernel
theorem dX10_wearDown_46 : decode cX10_wearDown 46 = .ok (.iload_n 3, 1) := by decide +kernel
theorem dX10_wearDown_47 : decode cX10_wearDown 47 = .ok (.if_icmp .le 7, 3) := by decide +kernel
theorem dX10_wearDown_50 : decode cX10_wearDown 50 = .ok (.iconst 1, 1) := by decide +kernel
theorem dX10_wearDown_51 : decode cX10_wearDown 51 = .ok (.goto 4, 3) := by decide +kernel
theorem dX10_wearDown_54 : decode cX10_wearDown 54 = .ok (.iconst 0, 1) := by decide +kernel
theorem dX10_wearDown_55 : decode cX10_wearDown 55 = .ok (.bastore, 1) := by decide +kernel
theorem dX10_wearDown_56 : decode cX10_wearDown 56 = .ok (.iinc 2 1, 3) := by decide +kernel
theorem dX10_wearDown_59 : decode cX10_wearDown 59 = .ok (.goto (-57), 3) := by decide +kernel
theorem dX10_wearDown_62 : decode cX10_wearDown 62 = .ok (.iconst 0, 1) := by decide +kernel
theorem dX10_wearDown_63 : decode cX10_wearDown 63 = .ok (.istore_n 2, 1) := by decide +kernel
theorem dX10_wearDown_64 : decode cX10_wearDown 64 = .ok (.iconst 0, 1) := by decide +kernel
theorem dX10_wearDown_65 : decode cX10_wearDown 65 = .ok (.istore_n 3, 1) := by decide +kernel
theorem dX10_wearDown_66 : decode cX10_wearDown 66 = .ok (.iload_n 3, 1) := by decide +kernel
theorem dX10_wearDown_67 : decode cX10_wearDown 67 = .ok (.aload_n 0, 1) := by decide +kernel
theorem dX10_wearDown_68 : decode cX10_wearDown 68 = .ok (.getfield 15, 3) := by decide +kernel
theorem dX10_wearDown_71 : decode cX10_wearDown 71 = .ok (.getfield 79, 3) := by decide +kernel
theorem dX10_wearDown_74 : decode cX10_wearDown 74 = .ok (.if_icmp .ge 29, 3) := by decide +kernel
theorem dX10_wearDown_77 : decode cX10_wearDown 77 = .ok (.aload_n 0, 1) := by decide +kernel
theorem dX10_wearDown_78 : decode cX10_wearDown 78 = .ok (.getfield 9, 3) := by decide +kernel
theorem dX10_wearDown_81 : decode cX10_wearDown 81 = .ok (.iload_n 3, 1) := by decide +kernel
theorem dX10_wearDown_82 : decode cX10_wearDown 82 = .ok (.baload, 1) := by decide +kernel
theorem dX10_wearDown_83 : decode cX10_wearDown 83 = .ok (.ifCond .eq 14, 3) := by decide +kernel
theorem dX10_wearDown_86 : decode cX10_wearDown 86 = .ok (.aload_n 1, 1) := by decide +kernel
theorem dX10_wearDown_87 : decode cX10_wearDown 87 = .ok (.iload_n 3, 1) := by decide +kernel
theorem dX10_wearDown_88 : decode cX10_wearDown 88 = .ok (.invokevirtual 92, 3) := by decide +kernel
theorem dX10_wearDown_91 : decode cX10_wearDown 91 = .ok (.ifCond .eq 6, 3) := by decide +kernel
theorem dX10_wearDown_94 : decode cX10_wearDown 94 = .ok (.iinc 2 1, 3) := by decide +kernel
theorem dX10_wearDown_97 : decode cX10_wearDown 97 = .ok (.iinc 3 1, 3) := by decide +kernel
theorem dX10_wearDown_100 : decode cX10_wearDown 100 = .ok (.goto (-34), 3) := by decide +kernel
theorem dX10_wearDown_103 : decode cX10_wearDown 103 = .ok (.iload_n 2, 1) := by decide +kernel
theorem dX10_wearDown_104 : decode cX10_wearDown 104 = .ok (.ireturn, 1) := by decide +kernel
theorem dX10_freeze_0 : decode cX10_freeze 0 = .ok (.aload_n 0, 1) := by decide +kernel
theorem dX10_freeze_1 : decode cX10_freeze 1 = .ok (.getfield 23, 3) := by decide +kernel
theorem dX10_freeze_4 : decode cX10_freeze 4 = .ok (.aload_n 1, 1) := by decide +kernel
theorem dX10_freeze_5 : decode cX10_freeze 5 = .ok (.invokevirtual 96, 3) := by decide +kernel
theorem dX10_freeze_8 : decode cX10_freeze 8 = .ok (.iconst 0, 1) := by decide +kernel
theorem dX10_freeze_9 : decode cX10_freeze 9 = .ok (.istore_n 3, 1) := by decide +kernel
theorem dX10_freeze_10 : decode cX10_freeze 10 = .ok (.iload_n 3, 1) := by decide +kernel
theorem dX10_freeze_11 : decode cX10_freeze 11 = .ok (.aload_n 0, 1) := by decide +kernel
theorem dX10_freeze_12 : decode cX10_freeze 12 = .ok (.getfield 15, 3) := by decide +kernel
theorem dX10_freeze_15 : decode cX10_freeze 15 = .ok (.getfield 79, 3) := by decide +kernel
theorem dX10_freeze_18 : decode cX10_freeze 18 = .ok (.if_icmp .ge 32, 3) := by decide +kernel
theorem dX10_freeze_21 : decode cX10_freeze 21 = .ok (.aload_n 0, 1) := by decide +kernel
theorem dX10_freeze_22 : decode cX10_freeze 22 = .ok (.getfield 23, 3) := by decide +kernel
theorem dX10_freeze_25 : decode cX10_freeze 25 = .ok (.aload_n 1, 1) := by decide +kernel
theorem dX10_freeze_26 : decode cX10_freeze 26 = .ok (.iload_n 3, 1) := by decide +kernel
theorem dX10_freeze_27 : decode cX10_freeze 27 = .ok (.invokevirtual 101, 3) := by decide +kernel
theorem dX10_freeze_30 : decode cX10_freeze 30 = .ok (.ifCond .le 14, 3) := by decide +kernel
theorem dX10_freeze_33 : decode cX10_freeze 33 = .ok (.aload_n 1, 1) := by decide +kernel
theorem dX10_freeze_34 : decode cX10_freeze 34 = .ok (.iload_n 3, 1) := by decide +kernel
theorem dX10_freeze_35 : decode cX10_freeze 35 = .ok (.invokevirtual 105, 3) := by decide +kernel
theorem dX10_freeze_38 : decode cX10_freeze 38 = .ok (.aload_n 1, 1) := by decide +kernel
theorem dX10_freeze_39 : decode cX10_freeze 39 = .ok (.iload_n 3, 1) := by decide +kernel
theorem dX10_freeze_40 : decode cX10_freeze 40 = .ok (.iload_n 2, 1) := by decide +kernel
theorem dX10_freeze_41 : decode cX10_freeze 41 = .ok (.invokevirtual 109, 3) := by decide +kernel
theorem dX10_freeze_44 : decode cX10_freeze 44 = .ok (.iinc 3 1, 3) := by decide +kernel
theorem dX10_freeze_47 : decode cX10_freeze 47 = .ok (.goto (-37), 3) := by decide +kernel
theorem dX10_freeze_50 : decode cX10_freeze 50 = .ok (.return_, 1) := by decide +kernel
theorem dX10_washOut_0 : decode cX10_washOut 0 = .ok (.iconst 0, 1) := by decide +kernel
theorem dX10_washOut_1 : decode cX10_washOut 1 = .ok (.istore_n 2, 1) := by decide +kernel
theorem dX10_washOut_2 : decode cX10_washOut 2 = .ok (.iload_n 2, 1) := by decide +kernel
theorem dX10_washOut_3 : decode cX10_washOut 3 = .ok (.aload_n 0, 1) := by decide +kernel
theorem dX10_washOut_4 : decode cX10_washOut 4 = .ok (.getfield 15, 3) := by decide +kernel
theorem dX10_washOut_7 : decode cX10_washOut 7 = .ok (.getfield 79, 3) := by decide +kernel
theorem dX10_washOut_10 : decode cX10_washOut 10 = .ok (.if_icmp .ge 22, 3) := by decide +kernel
theorem dX10_washOut_13 : decode cX10_washOut 13 = .ok (.aload_n 1, 1) := by decide +kernel
theorem dX10_washOut_14 : decode cX10_washOut 14 = .ok (.iload_n 2, 1) := by decide +kernel
theorem dX10_washOut_15 : decode cX10_washOut 15 = .ok (.invokevirtual 111, 3) := by decide +kernel
theorem dX10_washOut_18 : decode cX10_washOut 18 = .ok (.ifCond .eq 8, 3) := by decide +kernel
theorem dX10_washOut_21 : decode cX10_washOut 21 = .ok (.aload_n 1, 1) := by decide +kernel
theorem dX10_washOut_22 : decode cX10_washOut 22 = .ok (.iload_n 2, 1) := by decide +kernel
theorem dX10_washOut_23 : decode cX10_washOut 23 = .ok (.invokevirtual 105, 3) := by decide +kernel
theorem dX10_washOut_26 : decode cX10_washOut 26 = .ok (.iinc 2 1, 3) := by decide +kernel
theorem dX10_washOut_29 : decode cX10_washOut 29 = .ok (.goto (-27), 3) := by decide +kernel
theorem dX10_washOut_32 : decode cX10_washOut 32 = .ok (.return_, 1) := by decide +kernel
theorem dJ6_numberOfTrailingZeros_0f7a4_0 : decode cJ6_numberOfTrailingZeros_0f7a4 0 = .ok (.iload_n 0, 1) := by decide +kernel
theorem dJ6_numberOfTrailingZeros_0f7a4_1 : decode cJ6_numberOfTrailingZeros_0f7a4 1 = .ok (.iconst (-1), 1) := by decide +kernel
theorem dJ6_numberOfTrailingZeros_0f7a4_2 : decode cJ6_numberOfTrailingZeros_0f7a4 2 = .ok (.ixor, 1) := by decide +kernel
theorem dJ6_numberOfTrailingZeros_0f7a4_3 : decode cJ6_numberOfTrailingZeros_0f7a4 3 = .ok (.iload_n 0, 1) := by decide +kernel
theorem dJ6_numberOfTrailingZeros_0f7a4_4 : decode cJ6_numberOfTrailingZeros_0f7a4 4 = .ok (.iconst 1, 1) := by decide +kernel
theorem dJ6_numberOfTrailingZeros_0f7a4_5 : decode cJ6_numberOfTrailingZeros_0f7a4 5 = .ok (.isub, 1) := by decide +kernel
theorem dJ6_numberOfTrailingZeros_0f7a4_6 : decode cJ6_numberOfTrailingZeros_0f7a4 6 = .ok (.iand, 1) := by decide +kernel
theorem dJ6_numberOfTrailingZeros_0f7a4_7 : decode cJ6_numberOfTrailingZeros_0f7a4 7 = .ok (.istore_n 0, 1) := by decide +kernel
theorem dJ6_numberOfTrailingZeros_0f7a4_8 : decode cJ6_numberOfTrailingZeros_0f7a4 8 = .ok (.iload_n 0, 1) := by decide +kernel
theorem dJ6_numberOfTrailingZeros_0f7a4_9 : decode cJ6_numberOfTrailingZeros_0f7a4 9 = .ok (.ifCond .gt 8, 3) := by decide +kernel
theorem dJ6_numberOfTrailingZeros_0f7a4_12 : decode cJ6_numberOfTrailingZeros_0f7a4 12 = .ok (.iload_n 0, 1) := by decide +kernel
theorem dJ6_numberOfTrailingZeros_0f7a4_13 : decode cJ6_numberOfTrailingZeros_0f7a4 13 = .ok (.bipush 32, 2) := by decide +kernel
theorem dJ6_numberOfTrailingZeros_0f7a4_15 : decode cJ6_numberOfTrailingZeros_0f7a4 15 = .ok (.iand, 1) := by decide +kernel
theorem dJ6_numberOfTrailingZeros_0f7a4_16 : decode cJ6_numberOfTrailingZeros_0f7a4 16 = .ok (.ireturn, 1) := by decide +kernel
theorem dJ6_numberOfTrailingZeros_0f7a4_17 : decode cJ6_numberOfTrailingZeros_0f7a4 17 = .ok (.iconst 1, 1) := by decide +kernel
theorem dJ6_numberOfTrailingZeros_0f7a4_18 : decode cJ6_numberOfTrailingZeros_0f7a4 18 = .ok (.istore_n 1, 1) := by decide +kernel
theorem dJ6_numberOfTrailingZeros_0f7a4_19 : decode cJ6_numberOfTrailingZeros_0f7a4 19 = .ok (.iload_n 0, 1) := by decide +kernel
theorem dJ6_numberOfTrailingZeros_0f7a4_20 : decode cJ6_numberOfTrailingZeros_0f7a4 20 = .ok (.ldc_w 264, 3) := by decide +kernel
theorem dJ6_numberOfTrailingZeros_0f7a4_23 : decode cJ6_numberOfTrailingZeros_0f7a4 23 = .ok (.if_icmp .le 11, 3) := by decide +kernel
theorem dJ6_numberOfTrailingZeros_0f7a4_26 : decode cJ6_numberOfTrailingZeros_0f7a4 26 = .ok (.iinc 1 16, 3) := by decide +kernel
theorem dJ6_numberOfTrailingZeros_0f7a4_29 : decode cJ6_numberOfTrailingZeros_0f7a4 29 = .ok (.iload_n 0, 1) := by decide +kernel
theorem dJ6_numberOfTrailingZeros_0f7a4_30 : decode cJ6_numberOfTrailingZeros_0f7a4 30 = .ok (.bipush 16, 2) := by decide +kernel
theorem dJ6_numberOfTrailingZeros_0f7a4_32 : decode cJ6_numberOfTrailingZeros_0f7a4 32 = .ok (.iushr, 1) := by decide +kernel
theorem dJ6_numberOfTrailingZeros_0f7a4_33 : decode cJ6_numberOfTrailingZeros_0f7a4 33 = .ok (.istore_n 0, 1) := by decide +kernel
theorem dJ6_numberOfTrailingZeros_0f7a4_34 : decode cJ6_numberOfTrailingZeros_0f7a4 34 = .ok (.iload_n 0, 1) := by decide +kernel
theorem dJ6_numberOfTrailingZeros_0f7a4_35 : decode cJ6_numberOfTrailingZeros_0f7a4 35 = .ok (.sipush 256, 3) := by decide +kernel
theorem dJ6_numberOfTrailingZeros_0f7a4_38 : decode cJ6_numberOfTrailingZeros_0f7a4 38 = .ok (.if_icmp .le 11, 3) := by decide +kernel
theorem dJ6_numberOfTrailingZeros_0f7a4_41 : decode cJ6_numberOfTrailingZeros_0f7a4 41 = .ok (.iinc 1 8, 3) := by decide +kernel
theorem dJ6_numberOfTrailingZeros_0f7a4_44 : decode cJ6_numberOfTrailingZeros_0f7a4 44 = .ok (.iload_n 0, 1) := by decide +kernel
theorem dJ6_numberOfTrailingZeros_0f7a4_45 : decode cJ6_numberOfTrailingZeros_0f7a4 45 = .ok (.bipush 8, 2) := by decide +kernel
theorem dJ6_numberOfTrailingZeros_0f7a4_47 : decode cJ6_numberOfTrailingZeros_0f7a4 47 = .ok (.iushr, 1) := by decide +kernel
theorem dJ6_numberOfTrailingZeros_0f7a4_48 : decode cJ6_numberOfTrailingZeros_0f7a4 48 = .ok (.istore_n 0, 1) := by decide +kernel
theorem dJ6_numberOfTrailingZeros_0f7a4_49 : decode cJ6_numberOfTrailingZeros_0f7a4 49 = .ok (.iload_n 0, 1) := by decide +kernel
theorem dJ6_numberOfTrailingZeros_0f7a4_50 : decode cJ6_numberOfTrailingZeros_0f7a4 50 = .ok (.bipush 16, 2) := by decide +kernel
theorem dJ6_numberOfTrailingZeros_0f7a4_52 : decode cJ6_numberOfTrailingZeros_0f7a4 52 = .ok (.if_icmp .le 10, 3) := by decide +kernel
theorem dJ6_numberOfTrailingZeros_0f7a4_55 : decode cJ6_numberOfTrailingZeros_0f7a4 55 = .ok (.iinc 1 4, 3) := by decide +kernel
theorem dJ6_numberOfTrailingZeros_0f7a4_58 : decode cJ6_numberOfTrailingZeros_0f7a4 58 = .ok (.iload_n 0, 1) := by decide +kernel
theorem dJ6_numberOfTrailingZeros_0f7a4_59 : decode cJ6_numberOfTrailingZeros_0f7a4 59 = .ok (.iconst 4, 1) := by decide +kernel
theorem dJ6_numberOfTrailingZeros_0f7a4_60 : decode cJ6_numberOfTrailingZeros_0f7a4 60 = .ok (.iushr, 1) := by decide +kernel
theorem dJ6_numberOfTrailingZeros_0f7a4_61 : decode cJ6_numberOfTrailingZeros_0f7a4 61 = .ok (.istore_n 0, 1) := by decide +kernel
theorem dJ6_numberOfTrailingZeros_0f7a4_62 : decode cJ6_numberOfTrailingZeros_0f7a4 62 = .ok (.iload_n 0, 1) := by decide +kernel
theorem dJ6_numberOfTrailingZeros_0f7a4_63 : decode cJ6_numberOfTrailingZeros_0f7a4 63 = .ok (.iconst 4, 1) := by decide +kernel
theorem dJ6_numberOfTrailingZeros_0f7a4_64 : decode cJ6_numberOfTrailingZeros_0f7a4 64 = .ok (.if_icmp .le 10, 3) := by decide +kernel
theorem dJ6_numberOfTrailingZeros_0f7a4_67 : decode cJ6_numberOfTrailingZeros_0f7a4 67 = .ok (.iinc 1 2, 3) := by decide +kernel
theorem dJ6_numberOfTrailingZeros_0f7a4_70 : decode cJ6_numberOfTrailingZeros_0f7a4 70 = .ok (.iload_n 0, 1) := by decide +kernel
theorem dJ6_numberOfTrailingZeros_0f7a4_71 : decode cJ6_numberOfTrailingZeros_0f7a4 71 = .ok (.iconst 2, 1) := by decide +kernel
theorem dJ6_numberOfTrailingZeros_0f7a4_72 : decode cJ6_numberOfTrailingZeros_0f7a4 72 = .ok (.iushr, 1) := by decide +kernel
theorem dJ6_numberOfTrailingZeros_0f7a4_73 : decode cJ6_numberOfTrailingZeros_0f7a4 73 = .ok (.istore_n 0, 1) := by decide +kernel
theorem dJ6_numberOfTrailingZeros_0f7a4_74 : decode cJ6_numberOfTrailingZeros_0f7a4 74 = .ok (.iload_n 1, 1) := by decide +kernel
theorem dJ6_numberOfTrailingZeros_0f7a4_75 : decode cJ6_numberOfTrailingZeros_0f7a4 75 = .ok (.iload_n 0, 1) := by decide +kernel
theorem dJ6_numberOfTrailingZeros_0f7a4_76 : decode cJ6_numberOfTrailingZeros_0f7a4 76 = .ok (.iconst 1, 1) := by decide +kernel
theorem dJ6_numberOfTrailingZeros_0f7a4_77 : decode cJ6_numberOfTrailingZeros_0f7a4 77 = .ok (.iushr, 1) := by decide +kernel
theorem dJ6_numberOfTrailingZeros_0f7a4_78 : decode cJ6_numberOfTrailingZeros_0f7a4 78 = .ok (.iadd, 1) := by decide +kernel
theorem dJ6_numberOfTrailingZeros_0f7a4_79 : decode cJ6_numberOfTrailingZeros_0f7a4 79 = .ok (.ireturn, 1) := by decide +kernel
theorem dJ6_bitCount_0f7a4_0 : decode cJ6_bitCount_0f7a4 0 = .ok (.iload_n 0, 1) := by decide +kernel
theorem dJ6_bitCount_0f7a4_1 : decode cJ6_bitCount_0f7a4 1 = .ok (.iload_n 0, 1) := by decide +kernel
theorem dJ6_bitCount_0f7a4_2 : decode cJ6_bitCount_0f7a4 2 = .ok (.iconst 1, 1) := by decide +kernel
theorem dJ6_bitCount_0f7a4_3 : decode cJ6_bitCount_0f7a4 3 = .ok (.iushr, 1) := by decide +kernel
theorem dJ6_bitCount_0f7a4_4 : decode cJ6_bitCount_0f7a4 4 = .ok (.ldc_w 265, 3) := by decide +kernel
theorem dJ6_bitCount_0f7a4_7 : decode cJ6_bitCount_0f7a4 7 = .ok (.iand, 1) := by decide +kernel
theorem dJ6_bitCount_0f7a4_8 : decode cJ6_bitCount_0f7a4 8 = .ok (.isub, 1) := by decide +kernel
theorem dJ6_bitCount_0f7a4_9 : decode cJ6_bitCount_0f7a4 9 = .ok (.istore_n 0, 1) := by decide +kernel
theorem dJ6_bitCount_0f7a4_10 : decode cJ6_bitCount_0f7a4 10 = .ok (.iload_n 0, 1) := by decide +kernel
theorem dJ6_bitCount_0f7a4_11 : decode cJ6_bitCount_0f7a4 11 = .ok (.ldc_w 266, 3) := by decide +kernel
theorem dJ6_bitCount_0f7a4_14 : decode cJ6_bitCount_0f7a4 14 = .ok (.iand, 1) := by decide +kernel
theorem dJ6_bitCount_0f7a4_15 : decode cJ6_bitCount_0f7a4 15 = .ok (.iload_n 0, 1) := by decide +kernel
theorem dJ6_bitCount_0f7a4_16 : decode cJ6_bitCount_0f7a4 16 = .ok (.iconst 2, 1) := by decide +kernel
theorem dJ6_bitCount_0f7a4_17 : decode cJ6_bitCount_0f7a4 17 = .ok (.iushr, 1) := by decide +kernel
theorem dJ6_bitCount_0f7a4_18 : decode cJ6_bitCount_0f7a4 18 = .ok (.ldc_w 266, 3) := by decide +kernel
theorem dJ6_bitCount_0f7a4_21 : decode cJ6_bitCount_0f7a4 21 = .ok (.iand, 1) := by decide +kernel
theorem dJ6_bitCount_0f7a4_22 : decode cJ6_bitCount_0f7a4 22 = .ok (.iadd, 1) := by decide +kernel
theorem dJ6_bitCount_0f7a4_23 : decode cJ6_bitCount_0f7a4 23 = .ok (.istore_n 0, 1) := by decide +kernel
theorem dJ6_bitCount_0f7a4_24 : decode cJ6_bitCount_0f7a4 24 = .ok (.iload_n 0, 1) := by decide +kernel
theorem dJ6_bitCount_0f7a4_25 : decode cJ6_bitCount_0f7a4 25 = .ok (.iload_n 0, 1) := by decide +kernel
theorem dJ6_bitCount_0f7a4_26 : decode cJ6_bitCount_0f7a4 26 = .ok (.iconst 4, 1) := by decide +kernel
theorem dJ6_bitCount_0f7a4_27 : decode cJ6_bitCount_0f7a4 27 = .ok (.iushr, 1) := by decide +kernel
theorem dJ6_bitCount_0f7a4_28 : decode cJ6_bitCount_0f7a4 28 = .ok (.iadd, 1) := by decide +kernel
theorem dJ6_bitCount_0f7a4_29 : decode cJ6_bitCount_0f7a4 29 = .ok (.ldc_w 267, 3) := by decide +kernel
theorem dJ6_bitCount_0f7a4_32 : decode cJ6_bitCount_0f7a4 32 = .ok (.iand, 1) := by decide +kernel
theorem dJ6_bitCount_0f7a4_33 : decode cJ6_bitCount_0f7a4 33 = .ok (.istore_n 0, 1) := by decide +kernel
theorem dJ6_bitCount_0f7a4_34 : decode cJ6_bitCount_0f7a4 34 = .ok (.iload_n 0, 1) := by decide +kernel
theorem dJ6_bitCount_0f7a4_35 : decode cJ6_bitCount_0f7a4 35 = .ok (.iload_n 0, 1) := by decide +kernel
theorem dJ6_bitCount_0f7a4_36 : decode cJ6_bitCount_0f7a4 36 = .ok (.bipush 8, 2) := by decide +kernel
theorem dJ6_bitCount_0f7a4_38 : decode cJ6_bitCount_0f7a4 38 = .ok (.iushr, 1) := by decide +kernel
theorem dJ6_bitCount_0f7a4_39 : decode cJ6_bitCount_0f7a4 39 = .ok (.iadd, 1) := by decide +kernel
theorem dJ6_bitCount_0f7a4_40 : decode cJ6_bitCount_0f7a4 40 = .ok (.istore_n 0, 1) := by decide +kernel
theorem dJ6_bitCount_0f7a4_41 : decode cJ6_bitCount_0f7a4 41 = .ok (.iload_n 0, 1) := by decide +kernel
theorem dJ6_bitCount_0f7a4_42 : decode cJ6_bitCount_0f7a4 42 = .ok (.iload_n 0, 1) := by decide +kernel
theorem dJ6_bitCount_0f7a4_43 : decode cJ6_bitCount_0f7a4 43 = .ok (.bipush 16, 2) := by decide +kernel
theorem dJ6_bitCount_0f7a4_45 : decode cJ6_bitCount_0f7a4 45 = .ok (.iushr, 1) := by decide +kernel
theorem dJ6_bitCount_0f7a4_46 : decode cJ6_bitCount_0f7a4 46 = .ok (.iadd, 1) := by decide +kernel
theorem dJ6_bitCount_0f7a4_47 : decode cJ6_bitCount_0f7a4 47 = .ok (.istore_n 0, 1) := by decide +kernel
theorem dJ6_bitCount_0f7a4_48 : decode cJ6_bitCount_0f7a4 48 = .ok (.iload_n 0, 1) := by decide +kernel
theorem dJ6_bitCount_0f7a4_49 : decode cJ6_bitCount_0f7a4 49 = .ok (.bipush 63, 2) := by decide +kernel
theorem dJ6_bitCount_0f7a4_51 : decode cJ6_bitCount_0f7a4 51 = .ok (.iand, 1) := by decide +kernel
theorem dJ6_bitCount_0f7a4_52 : decode cJ6_bitCount_0f7a4 52 = .ok (.ireturn, 1) := by decide +kernel
theorem dJ9_abs_0f7a4_0 : decode cJ9_abs_0f7a4 0 = .ok (.iload_n 0, 1) := by decide +kernel
theorem dJ9_abs_0f7a4_1 : decode cJ9_abs_0f7a4 1 = .ok (.ifCond .ge 8, 3) := by decide +kernel
theorem dJ9_abs_0f7a4_4 : decode cJ9_abs_0f7a4 4 = .ok (.iload_n 0, 1) := by decide +kernel
theorem dJ9_abs_0f7a4_5 : decode cJ9_abs_0f7a4 5 = .ok (.ineg, 1) := by decide +kernel
theorem dJ9_abs_0f7a4_6 : decode cJ9_abs_0f7a4 6 = .ok (.goto 4, 3) := by decide +kernel
theorem dJ9_abs_0f7a4_9 : decode cJ9_abs_0f7a4 9 = .ok (.iload_n 0, 1) := by decide +kernel
theorem dJ9_abs_0f7a4_10 : decode cJ9_abs_0f7a4 10 = .ok (.ireturn, 1) := by decide +kernel
theorem dJ9_max_7cf53_0 : decode cJ9_max_7cf53 0 = .ok (.iload_n 0, 1) := by decide +kernel
theorem dJ9_max_7cf53_1 : decode cJ9_max_7cf53 1 = .ok (.iload_n 1, 1) := by decide +kernel
theorem dJ9_max_7cf53_2 : decode cJ9_max_7cf53 2 = .ok (.if_icmp .lt 7, 3) := by decide +kernel
theorem dJ9_max_7cf53_5 : decode cJ9_max_7cf53 5 = .ok (.iload_n 0, 1) := by decide +kernel
theorem dJ9_max_7cf53_6 : decode cJ9_max_7cf53 6 = .ok (.goto 4, 3) := by decide +kernel
theorem dJ9_max_7cf53_9 : decode cJ9_max_7cf53 9 = .ok (.iload_n 1, 1) := by decide +kernel
theorem dJ9_max_7cf53_10 : decode cJ9_max_7cf53 10 = .ok (.ireturn, 1) := by decide +kernel
theorem dJ9_min_7cf53_0 : decode cJ9_min_7cf53 0 = .ok (.iload_n 0, 1) := by decide +kernel
theorem dJ9_min_7cf53_1 : decode cJ9_min_7cf53 1 = .ok (.iload_n 1, 1) := by decide +kernel
theorem dJ9_min_7cf53_2 : decode cJ9_min_7cf53 2 = .ok (.if_icmp .gt 7, 3) := by decide +kernel
theorem dJ9_min_7cf53_5 : decode cJ9_min_7cf53 5 = .ok (.iload_n 0, 1) := by decide +kernel
theorem dJ9_min_7cf53_6 : decode cJ9_min_7cf53 6 = .ok (.goto 4, 3) := by decide +kernel
theorem dJ9_min_7cf53_9 : decode cJ9_min_7cf53 9 = .ok (.iload_n 1, 1) := by decide +kernel
theorem dJ9_min_7cf53_10 : decode cJ9_min_7cf53 10 = .ok (.ireturn, 1) := by decide +kernel
