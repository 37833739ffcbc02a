theorem dX0_init_0 : decode cX0_init 0 = .ok (.aload_n 0, 1) := by decide +kernel
theorem dX0_init_1 : decode cX0_init 1 = .ok (.invokespecial 3, 3) := by decide +kernel
theorem dX0_init_4 : decode cX0_init 4 = .ok (.aload_n 0, 1) := by decide +kernel
theorem dX0_init_5 : decode cX0_init 5 = .ok (.bipush 6, 2) := by decide +kernel
theorem dX0_init_7 : decode cX0_init 7 = .ok (.newarray .int, 2) := by decide +kernel
theorem dX0_init_9 : decode cX0_init 9 = .ok (.putfield 9, 3) := by decide +kernel
theorem dX0_init_12 : decode cX0_init 12 = .ok (.aload_n 0, 1) := by decide +kernel
theorem dX0_init_13 : decode cX0_init 13 = .ok (.bipush 6, 2) := by decide +kernel
theorem dX0_init_15 : decode cX0_init 15 = .ok (.newarray .int, 2) := by decide +kernel
theorem dX0_init_17 : decode cX0_init 17 = .ok (.putfield 15, 3) := by decide +kernel
theorem dX0_init_20 : decode cX0_init 20 = .ok (.aload_n 0, 1) := by decide +kernel
theorem dX0_init_21 : decode cX0_init 21 = .ok (.iconst 0, 1) := by decide +kernel
theorem dX0_init_22 : decode cX0_init 22 = .ok (.putfield 18, 3) := by decide +kernel
theorem dX0_init_25 : decode cX0_init 25 = .ok (.aload_n 0, 1) := by decide +kernel
theorem dX0_init_26 : decode cX0_init 26 = .ok (.iconst 0, 1) := by decide +kernel
theorem dX0_init_27 : decode cX0_init 27 = .ok (.putfield 22, 3) := by decide +kernel
theorem dX0_init_30 : decode cX0_init 30 = .ok (.return_, 1) := by decide +kernel
theorem dX0_copyFrom_0 : decode cX0_copyFrom 0 = .ok (.iconst 0, 1) := by decide +kernel
theorem dX0_copyFrom_1 : decode cX0_copyFrom 1 = .ok (.istore_n 2, 1) := by decide +kernel
theorem dX0_copyFrom_2 : decode cX0_copyFrom 2 = .ok (.iload_n 2, 1) := by decide +kernel
theorem dX0_copyFrom_3 : decode cX0_copyFrom 3 = .ok (.bipush 6, 2) := by decide +kernel
theorem dX0_copyFrom_5 : decode cX0_copyFrom 5 = .ok (.if_icmp .ge 33, 3) := by decide +kernel
theorem dX0_copyFrom_8 : decode cX0_copyFrom 8 = .ok (.aload_n 0, 1) := by decide +kernel
theorem dX0_copyFrom_9 : decode cX0_copyFrom 9 = .ok (.getfield 9, 3) := by decide +kernel
theorem dX0_copyFrom_12 : decode cX0_copyFrom 12 = .ok (.iload_n 2, 1) := by decide +kernel
theorem dX0_copyFrom_13 : decode cX0_copyFrom 13 = .ok (.aload_n 1, 1) := by decide +kernel
theorem dX0_copyFrom_14 : decode cX0_copyFrom 14 = .ok (.getfield 9, 3) := by decide +kernel
theorem dX0_copyFrom_17 : decode cX0_copyFrom 17 = .ok (.iload_n 2, 1) := by decide +kernel
theorem dX0_copyFrom_18 : decode cX0_copyFrom 18 = .ok (.iaload, 1) := by decide +kernel
theorem dX0_copyFrom_19 : decode cX0_copyFrom 19 = .ok (.iastore, 1) := by decide +kernel
theorem dX0_copyFrom_20 : decode cX0_copyFrom 20 = .ok (.aload_n 0, 1) := by decide +kernel
theorem dX0_copyFrom_21 : decode cX0_copyFrom 21 = .ok (.getfield 15, 3) := by decide +kernel
theorem dX0_copyFrom_24 : decode cX0_copyFrom 24 = .ok (.iload_n 2, 1) := by decide +kernel
theorem dX0_copyFrom_25 : decode cX0_copyFrom 25 = .ok (.aload_n 1, 1) := by decide +kernel
theorem dX0_copyFrom_26 : decode cX0_copyFrom 26 = .ok (.getfield 15, 3) := by decide +kernel
theorem dX0_copyFrom_29 : decode cX0_copyFrom 29 = .ok (.iload_n 2, 1) := by decide +kernel
theorem dX0_copyFrom_30 : decode cX0_copyFrom 30 = .ok (.iaload, 1) := by decide +kernel
theorem dX0_copyFrom_31 : decode cX0_copyFrom 31 = .ok (.iastore, 1) := by decide +kernel
theorem dX0_copyFrom_32 : decode cX0_copyFrom 32 = .ok (.iinc 2 1, 3) := by decide +kernel
theorem dX0_copyFrom_35 : decode cX0_copyFrom 35 = .ok (.goto (-33), 3) := by decide +kernel
theorem dX0_copyFrom_38 : decode cX0_copyFrom 38 = .ok (.aload_n 0, 1) := by decide +kernel
theorem dX0_copyFrom_39 : decode cX0_copyFrom 39 = .ok (.aload_n 1, 1) := by decide +kernel
theorem dX0_copyFrom_40 : decode cX0_copyFrom 40 = .ok (.getfield 18, 3) := by decide +kernel
theorem dX0_copyFrom_43 : decode cX0_copyFrom 43 = .ok (.putfield 18, 3) := by decide +kernel
theorem dX0_copyFrom_46 : decode cX0_copyFrom 46 = .ok (.return_, 1) := by decide +kernel
theorem dX0_begin_0 : decode cX0_begin 0 = .ok (.aload_n 0, 1) := by decide +kernel
theorem dX0_begin_1 : decode cX0_begin 1 = .ok (.iconst 0, 1) := by decide +kernel
theorem dX0_begin_2 : decode cX0_begin 2 = .ok (.putfield 18, 3) := by decide +kernel
theorem dX0_begin_5 : decode cX0_begin 5 = .ok (.aload_n 0, 1) := by decide +kernel
theorem dX0_begin_6 : decode cX0_begin 6 = .ok (.iconst 0, 1) := by decide +kernel
theorem dX0_begin_7 : decode cX0_begin 7 = .ok (.putfield 22, 3) := by decide +kernel
theorem dX0_begin_10 : decode cX0_begin 10 = .ok (.return_, 1) := by decide +kernel
theorem dX0_takes_0 : decode cX0_takes 0 = .ok (.iload_n 1, 1) := by decide +kernel
theorem dX0_takes_1 : decode cX0_takes 1 = .ok (.bipush 48, 2) := by decide +kernel
theorem dX0_takes_3 : decode cX0_takes 3 = .ok (.if_icmp .lt 13, 3) := by decide +kernel
theorem dX0_takes_6 : decode cX0_takes 6 = .ok (.iload_n 1, 1) := by decide +kernel
theorem dX0_takes_7 : decode cX0_takes 7 = .ok (.bipush 57, 2) := by decide +kernel
theorem dX0_takes_9 : decode cX0_takes 9 = .ok (.if_icmp .gt 7, 3) := by decide +kernel
theorem dX0_takes_12 : decode cX0_takes 12 = .ok (.iconst 1, 1) := by decide +kernel
theorem dX0_takes_13 : decode cX0_takes 13 = .ok (.goto 4, 3) := by decide +kernel
theorem dX0_takes_16 : decode cX0_takes 16 = .ok (.iconst 0, 1) := by decide +kernel
theorem dX0_takes_17 : decode cX0_takes 17 = .ok (.istore_n 2, 1) := by decide +kernel
theorem dX0_takes_18 : decode cX0_takes 18 = .ok (.aload_n 0, 1) := by decide +kernel
theorem dX0_takes_19 : decode cX0_takes 19 = .ok (.getfield 22, 3) := by decide +kernel
theorem dX0_takes_22 : decode cX0_takes 22 = .ok (.tableswitch 118 0 3 #[30, 51, 68, 96], 30) := by decide +kernel
theorem dX0_takes_52 : decode cX0_takes 52 = .ok (.iload_n 2, 1) := by decide +kernel
theorem dX0_takes_53 : decode cX0_takes 53 = .ok (.ifCond .eq 18, 3) := by decide +kernel
theorem dX0_takes_56 : decode cX0_takes 56 = .ok (.aload_n 0, 1) := by decide +kernel
theorem dX0_takes_57 : decode cX0_takes 57 = .ok (.iload_n 1, 1) := by decide +kernel
theorem dX0_takes_58 : decode cX0_takes 58 = .ok (.bipush 48, 2) := by decide +kernel
theorem dX0_takes_60 : decode cX0_takes 60 = .ok (.isub, 1) := by decide +kernel
theorem dX0_takes_61 : decode cX0_takes 61 = .ok (.invokevirtual 25, 3) := by decide +kernel
theorem dX0_takes_64 : decode cX0_takes 64 = .ok (.ifCond .eq 7, 3) := by decide +kernel
theorem dX0_takes_67 : decode cX0_takes 67 = .ok (.iconst 1, 1) := by decide +kernel
theorem dX0_takes_68 : decode cX0_takes 68 = .ok (.goto 4, 3) := by decide +kernel
theorem dX0_takes_71 : decode cX0_takes 71 = .ok (.iconst 0, 1) := by decide +kernel
theorem dX0_takes_72 : decode cX0_takes 72 = .ok (.ireturn, 1) := by decide +kernel
theorem dX0_takes_73 : decode cX0_takes 73 = .ok (.aload_n 0, 1) := by decide +kernel
theorem dX0_takes_74 : decode cX0_takes 74 = .ok (.iconst 2, 1) := by decide +kernel
theorem dX0_takes_75 : decode cX0_takes 75 = .ok (.putfield 22, 3) := by decide +kernel
theorem dX0_takes_78 : decode cX0_takes 78 = .ok (.iload_n 1, 1) := by decide +kernel
theorem dX0_takes_79 : decode cX0_takes 79 = .ok (.bipush 120, 2) := by decide +kernel
theorem dX0_takes_81 : decode cX0_takes 81 = .ok (.if_icmp .ne 7, 3) := by decide +kernel
theorem dX0_takes_84 : decode cX0_takes 84 = .ok (.iconst 1, 1) := by decide +kernel
theorem dX0_takes_85 : decode cX0_takes 85 = .ok (.goto 4, 3) := by decide +kernel
theorem dX0_takes_88 : decode cX0_takes 88 = .ok (.iconst 0, 1) := by decide +kernel
theorem dX0_takes_89 : decode cX0_takes 89 = .ok (.ireturn, 1) := by decide +kernel
theorem dX0_takes_90 : decode cX0_takes 90 = .ok (.iload_n 2, 1) := by decide +kernel
theorem dX0_takes_91 : decode cX0_takes 91 = .ok (.ifCond .eq 25, 3) := by decide +kernel
theorem dX0_takes_94 : decode cX0_takes 94 = .ok (.iload_n 1, 1) := by decide +kernel
theorem dX0_takes_95 : decode cX0_takes 95 = .ok (.bipush 48, 2) := by decide +kernel
theorem dX0_takes_97 : decode cX0_takes 97 = .ok (.if_icmp .eq 19, 3) := by decide +kernel
theorem dX0_takes_100 : decode cX0_takes 100 = .ok (.aload_n 0, 1) := by decide +kernel
theorem dX0_takes_101 : decode cX0_takes 101 = .ok (.iload_n 1, 1) := by decide +kernel
theorem dX0_takes_102 : decode cX0_takes 102 = .ok (.bipush 48, 2) := by decide +kernel
theorem dX0_takes_104 : decode cX0_takes 104 = .ok (.isub, 1) := by decide +kernel
theorem dX0_takes_105 : decode cX0_takes 105 = .ok (.iconst 3, 1) := by decide +kernel
theorem dX0_takes_106 : decode cX0_takes 106 = .ok (.invokevirtual 29, 3) := by decide +kernel
theorem dX0_takes_109 : decode cX0_takes 109 = .ok (.ifCond .eq 7, 3) := by decide +kernel
theorem dX0_takes_112 : decode cX0_takes 112 = .ok (.iconst 1, 1) := by decide +kernel
theorem dX0_takes_113 : decode cX0_takes 113 = .ok (.goto 4, 3) := by decide +kernel
theorem dX0_takes_116 : decode cX0_takes 116 = .ok (.iconst 0, 1) := by decide +kernel
theorem dX0_takes_117 : decode cX0_takes 117 = .ok (.ireturn, 1) := by decide +kernel
theorem dX0_takes_118 : decode cX0_takes 118 = .ok (.iload_n 2, 1) := by decide +kernel
theorem dX0_takes_119 : decode cX0_takes 119 = .ok (.ifCond .eq 15, 3) := by decide +kernel
theorem dX0_takes_122 : decode cX0_takes 122 = .ok (.aload_n 0, 1) := by decide +kernel
theorem dX0_takes_123 : decode cX0_takes 123 = .ok (.iload_n 1, 1) := by decide +kernel
theorem dX0_takes_124 : decode cX0_takes 124 = .ok (.bipush 48, 2) := by decide +kernel
theorem dX0_takes_126 : decode cX0_takes 126 = .ok (.isub, 1) := by decide +kernel
theorem dX0_takes_127 : decode cX0_takes 127 = .ok (.iconst 4, 1) := by decide +kernel
theorem dX0_takes_128 : decode cX0_takes 128 = .ok (.invokevirtual 29, 3) := by decide +kernel
theorem dX0_takes_131 : decode cX0_takes 131 = .ok (.goto 8, 3) := by decide +kernel
theorem dX0_takes_134 : decode cX0_takes 134 = .ok (.aload_n 0, 1) := by decide +kernel
theorem dX0_takes_135 : decode cX0_takes 135 = .ok (.iload_n 1, 1) := by decide +kernel
theorem dX0_takes_136 : decode cX0_takes 136 = .ok (.invokevirtual 33, 3) := by decide +kernel
theorem dX0_takes_139 : decode cX0_takes 139 = .ok (.ireturn, 1) := by decide +kernel
theorem dX0_takes_140 : decode cX0_takes 140 = .ok (.aload_n 0, 1) := by decide +kernel
theorem dX0_takes_141 : decode cX0_takes 141 = .ok (.iload_n 1, 1) := by decide +kernel
theorem dX0_takes_142 : decode cX0_takes 142 = .ok (.invokevirtual 33, 3) := by decide +kernel
theorem dX0_takes_145 : decode cX0_takes 145 = .ok (.ireturn, 1) := by decide +kernel
theorem dX0_isWhole_0 : decode cX0_isWhole 0 = .ok (.aload_n 0, 1) := by decide +kernel
theorem dX0_isWhole_1 : decode cX0_isWhole 1 = .ok (.getfield 22, 3) := by decide +kernel
theorem dX0_isWhole_4 : decode cX0_isWhole 4 = .ok (.iconst 3, 1) := by decide +kernel
theorem dX0_isWhole_5 : decode cX0_isWhole 5 = .ok (.if_icmp .eq 11, 3) := by decide +kernel
theorem dX0_isWhole_8 : decode cX0_isWhole 8 = .ok (.aload_n 0, 1) := by decide +kernel
theorem dX0_isWhole_9 : decode cX0_isWhole 9 = .ok (.getfield 22, 3) := by decide +kernel
theorem dX0_isWhole_12 : decode cX0_isWhole 12 = .ok (.iconst 4, 1) := by decide +kernel
theorem dX0_isWhole_13 : decode cX0_isWhole 13 = .ok (.if_icmp .ne 7, 3) := by decide +kernel
theorem dX0_isWhole_16 : decode cX0_isWhole 16 = .ok (.iconst 1, 1) := by decide +kernel
theorem dX0_isWhole_17 : decode cX0_isWhole 17 = .ok (.goto 4, 3) := by decide +kernel
theorem dX0_isWhole_20 : decode cX0_isWhole 20 = .ok (.iconst 0, 1) := by decide +kernel
theorem dX0_isWhole_21 : decode cX0_isWhole 21 = .ok (.ireturn, 1) := by decide +kernel
theorem dX0_takesRow_0 : decode cX0_takesRow 0 = .ok (.aload_n 0, 1) := by decide +kernel
theorem dX0_takesRow_1 : decode cX0_takesRow 1 = .ok (.getfield 18, 3) := by decide +kernel
theorem dX0_takesRow_4 : decode cX0_takesRow 4 = .ok (.bipush 6, 2) := by decide +kernel
theorem dX0_takesRow_6 : decode cX0_takesRow 6 = .ok (.if_icmp .lt 5, 3) := by decide +kernel
theorem dX0_takesRow_9 : decode cX0_takesRow 9 = .ok (.iconst 0, 1) := by decide +kernel
theorem dX0_takesRow_10 : decode cX0_takesRow 10 = .ok (.ireturn, 1) := by decide +kernel
theorem dX0_takesRow_11 : decode cX0_takesRow 11 = .ok (.aload_n 0, 1) := by decide +kernel
theorem dX0_takesRow_12 : decode cX0_takesRow 12 = .ok (.getfield 9, 3) := by decide +kernel
theorem dX0_takesRow_15 : decode cX0_takesRow 15 = .ok (.aload_n 0, 1) := by decide +kernel
theorem dX0_takesRow_16 : decode cX0_takesRow 16 = .ok (.getfield 18, 3) := by decide +kernel
theorem dX0_takesRow_19 : decode cX0_takesRow 19 = .ok (.iload_n 1, 1) := by decide +kernel
theorem dX0_takesRow_20 : decode cX0_takesRow 20 = .ok (.iastore, 1) := by decide +kernel
theorem dX0_takesRow_21 : decode cX0_takesRow 21 = .ok (.aload_n 0, 1) := by decide +kernel
theorem dX0_takesRow_22 : decode cX0_takesRow 22 = .ok (.getfield 15, 3) := by decide +kernel
theorem dX0_takesRow_25 : decode cX0_takesRow 25 = .ok (.aload_n 0, 1) := by decide +kernel
theorem dX0_takesRow_26 : decode cX0_takesRow 26 = .ok (.getfield 18, 3) := by decide +kernel
theorem dX0_takesRow_29 : decode cX0_takesRow 29 = .ok (.iconst 0, 1) := by decide +kernel
theorem dX0_takesRow_30 : decode cX0_takesRow 30 = .ok (.iastore, 1) := by decide +kernel
theorem dX0_takesRow_31 : decode cX0_takesRow 31 = .ok (.aload_n 0, 1) := by decide +kernel
theorem dX0_takesRow_32 : decode cX0_takesRow 32 = .ok (.dup, 1) := by decide +kernel
theorem dX0_takesRow_33 : decode cX0_takesRow 33 = .ok (.getfield 18, 3) := by decide +kernel
theorem dX0_takesRow_36 : decode cX0_takesRow 36 = .ok (.iconst 1, 1) := by decide +kernel
theorem dX0_takesRow_37 : decode cX0_takesRow 37 = .ok (.iadd, 1) := by decide +kernel
theorem dX0_takesRow_38 : decode cX0_takesRow 38 = .ok (.putfield 18, 3) := by decide +kernel
theorem dX0_takesRow_41 : decode cX0_takesRow 41 = .ok (.aload_n 0, 1) := by decide +kernel
theorem dX0_takesRow_42 : decode cX0_takesRow 42 = .ok (.iconst 1, 1) := by decide +kernel
theorem dX0_takesRow_43 : decode cX0_takesRow 43 = .ok (.putfield 22, 3) := by decide +kernel
theorem dX0_takesRow_46 : decode cX0_takesRow 46 = .ok (.iconst 1, 1) := by decide +kernel
theorem dX0_takesRow_47 : decode cX0_takesRow 47 = .ok (.ireturn, 1) := by decide +kernel
theorem dX0_takesDigit_0 : decode cX0_takesDigit 0 = .ok (.aload_n 0, 1) := by decide +kernel
theorem dX0_takesDigit_1 : decode cX0_takesDigit 1 = .ok (.getfield 18, 3) := by decide +kernel
theorem dX0_takesDigit_4 : decode cX0_takesDigit 4 = .ok (.iconst 1, 1) := by decide +kernel
theorem dX0_takesDigit_5 : decode cX0_takesDigit 5 = .ok (.if_icmp .lt 12, 3) := by decide +kernel
theorem dX0_takesDigit_8 : decode cX0_takesDigit 8 = .ok (.aload_n 0, 1) := by decide +kernel
theorem dX0_takesDigit_9 : decode cX0_takesDigit 9 = .ok (.getfield 18, 3) := by decide +kernel
theorem dX0_takesDigit_12 : decode cX0_takesDigit 12 = .ok (.bipush 6, 2) := by decide +kernel
theorem dX0_takesDigit_14 : decode cX0_takesDigit 14 = .ok (.if_icmp .le 5, 3) := by decide +kernel
theorem dX0_takesDigit_17 : decode cX0_takesDigit 17 = .ok (.iconst 0, 1) := by decide +kernel
theorem dX0_takesDigit_18 : decode cX0_takesDigit 18 = .ok (.ireturn, 1) := by decide +kernel
theorem dX0_takesDigit_19 : decode cX0_takesDigit 19 = .ok (.aload_n 0, 1) := by decide +kernel
theorem dX0_takesDigit_20 : decode cX0_takesDigit 20 = .ok (.getfield 15, 3) := by decide +kernel
theorem dX0_takesDigit_23 : decode cX0_takesDigit 23 = .ok (.aload_n 0, 1) := by decide +kernel
theorem dX0_takesDigit_24 : decode cX0_takesDigit 24 = .ok (.getfield 18, 3) := by decide +kernel
theorem dX0_takesDigit_27 : decode cX0_takesDigit 27 = .ok (.iconst 1, 1) := by decide +kernel
theorem dX0_takesDigit_28 : decode cX0_takesDigit 28 = .ok (.isub, 1) := by decide +kernel
theorem dX0_takesDigit_29 : decode cX0_takesDigit 29 = .ok (.bipush 10, 2) := by decide +kernel
theorem dX0_takesDigit_31 : decode cX0_takesDigit 31 = .ok (.aload_n 0, 1) := by decide +kernel
theorem dX0_takesDigit_32 : decode cX0_takesDigit 32 = .ok (.getfield 15, 3) := by decide +kernel
theorem dX0_takesDigit_35 : decode cX0_takesDigit 35 = .ok (.aload_n 0, 1) := by decide +kernel
theorem dX0_takesDigit_36 : decode cX0_takesDigit 36 = .ok (.getfield 18, 3) := by decide +kernel
theorem dX0_takesDigit_39 : decode cX0_takesDigit 39 = .ok (.iconst 1, 1) := by decide +kernel
theorem dX0_takesDigit_40 : decode cX0_takesDigit 40 = .ok (.isub, 1) := by decide +kernel
theorem dX0_takesDigit_41 : decode cX0_takesDigit 41 = .ok (.iaload, 1) := by decide +kernel
theorem dX0_takesDigit_42 : decode cX0_takesDigit 42 = .ok (.imul, 1) := by decide +kernel
theorem dX0_takesDigit_43 : decode cX0_takesDigit 43 = .ok (.iload_n 1, 1) := by decide +kernel
theorem dX0_takesDigit_44 : decode cX0_takesDigit 44 = .ok (.iadd, 1) := by decide +kernel
theorem dX0_takesDigit_45 : decode cX0_takesDigit 45 = .ok (.iastore, 1) := by decide +kernel
theorem dX0_takesDigit_46 : decode cX0_takesDigit 46 = .ok (.aload_n 0, 1) := by decide +kernel
theorem dX0_takesDigit_47 : decode cX0_takesDigit 47 = .ok (.iload_n 2, 1) := by decide +kernel
theorem dX0_takesDigit_48 : decode cX0_takesDigit 48 = .ok (.putfield 22, 3) := by decide +kernel
theorem dX0_takesDigit_51 : decode cX0_takesDigit 51 = .ok (.iconst 1, 1) := by decide +kernel
theorem dX0_takesDigit_52 : decode cX0_takesDigit 52 = .ok (.ireturn, 1) := by decide +kernel
theorem dX0_takesEnd_0 : decode cX0_takesEnd 0 = .ok (.aload_n 0, 1) := by decide +kernel
theorem dX0_takesEnd_1 : decode cX0_takesEnd 1 = .ok (.iconst 0, 1) := by decide +kernel
theorem dX0_takesEnd_2 : decode cX0_takesEnd 2 = .ok (.putfield 22, 3) := by decide +kernel
theorem dX0_takesEnd_5 : decode cX0_takesEnd 5 = .ok (.iload_n 1, 1) := by decide +kernel
theorem dX0_takesEnd_6 : decode cX0_takesEnd 6 = .ok (.bipush 44, 2) := by decide +kernel
theorem dX0_takesEnd_8 : decode cX0_takesEnd 8 = .ok (.if_icmp .ne 16, 3) := by decide +kernel
theorem dX0_takesEnd_11 : decode cX0_takesEnd 11 = .ok (.aload_n 0, 1) := by decide +kernel
theorem dX0_takesEnd_12 : decode cX0_takesEnd 12 = .ok (.getfield 18, 3) := by decide +kernel
theorem dX0_takesEnd_15 : decode cX0_takesEnd 15 = .ok (.bipush 6, 2) := by decide +kernel
theorem dX0_takesEnd_17 : decode cX0_takesEnd 17 = .ok (.if_icmp .ge 7, 3) := by decide +kernel
theorem dX0_takesEnd_20 : decode cX0_takesEnd 20 = .ok (.iconst 1, 1) := by decide +kernel
theorem dX0_takesEnd_21 : decode cX0_takesEnd 21 = .ok (.goto 4, 3) := by decide +kernel
theorem dX0_takesEnd_24 : decode cX0_takesEnd 24 = .ok (.iconst 0, 1) := by decide +kernel
theorem dX0_takesEnd_25 : decode cX0_takesEnd 25 = .ok (.ireturn, 1) := by decide +kernel
theorem dX1_init_0 : decode cX1_init 0 = .ok (.aload_n 0, 1) := by decide +kernel
theorem dX1_init_1 : decode cX1_init 1 = .ok (.invokespecial 3, 3) := by decide +kernel
theorem dX1_init_4 : decode cX1_init 4 = .ok (.aload_n 0, 1) := by decide +kernel
theorem dX1_init_5 : decode cX1_init 5 = .ok (.bipush 10, 2) := by decide +kernel
theorem dX1_init_7 : decode cX1_init 7 = .ok (.newarray .int, 2) := by decide +kernel
theorem dX1_init_9 : decode cX1_init 9 = .ok (.putfield 9, 3) := by decide +kernel
theorem dX1_init_12 : decode cX1_init 12 = .ok (.aload_n 0, 1) := by decide +kernel
theorem dX1_init_13 : decode cX1_init 13 = .ok (.bipush 10, 2) := by decide +kernel
theorem dX1_init_15 : decode cX1_init 15 = .ok (.newarray .int, 2) := by decide +kernel
theorem dX1_init_17 : decode cX1_init 17 = .ok (.putfield 15, 3) := by decide +kernel
theorem dX1_init_20 : decode cX1_init 20 = .ok (.aload_n 0, 1) := by decide +kernel
theorem dX1_init_21 : decode cX1_init 21 = .ok (.iconst 0, 1) := by decide +kernel
theorem dX1_init_22 : decode cX1_init 22 = .ok (.putfield 18, 3) := by decide +kernel
theorem dX1_init_25 : decode cX1_init 25 = .ok (.aload_n 0, 1) := by decide +kernel
theorem dX1_init_26 : decode cX1_init 26 = .ok (.iconst 0, 1) := by decide +kernel
theorem dX1_init_27 : decode cX1_init 27 = .ok (.putfield 22, 3) := by decide +kernel
theorem dX1_init_30 : decode cX1_init 30 = .ok (.aload_n 0, 1) := by decide +kernel
theorem dX1_init_31 : decode cX1_init 31 = .ok (.iconst 0, 1) := by decide +kernel
theorem dX1_init_32 : decode cX1_init 32 = .ok (.putfield 25, 3) := by decide +kernel
theorem dX1_init_35 : decode cX1_init 35 = .ok (.return_, 1) := by decide +kernel
theorem dX1_put_0 : decode cX1_put 0 = .ok (.aload_n 0, 1) := by decide +kernel
theorem dX1_put_1 : decode cX1_put 1 = .ok (.getfield 18, 3) := by decide +kernel
theorem dX1_put_4 : decode cX1_put 4 = .ok (.ifCond .lt 75, 3) := by decide +kernel
theorem dX1_put_7 : decode cX1_put 7 = .ok (.aload_n 0, 1) := by decide +kernel
theorem dX1_put_8 : decode cX1_put 8 = .ok (.getfield 18, 3) := by decide +kernel
theorem dX1_put_11 : decode cX1_put 11 = .ok (.bipush 10, 2) := by decide +kernel
theorem dX1_put_13 : decode cX1_put 13 = .ok (.if_icmp .ge 66, 3) := by decide +kernel
theorem dX1_put_16 : decode cX1_put 16 = .ok (.aload_n 0, 1) := by decide +kernel
theorem dX1_put_17 : decode cX1_put 17 = .ok (.getfield 9, 3) := by decide +kernel
theorem dX1_put_20 : decode cX1_put 20 = .ok (.aload_n 0, 1) := by decide +kernel
theorem dX1_put_21 : decode cX1_put 21 = .ok (.getfield 18, 3) := by decide +kernel
theorem dX1_put_24 : decode cX1_put 24 = .ok (.iload_n 1, 1) := by decide +kernel
theorem dX1_put_25 : decode cX1_put 25 = .ok (.iastore, 1) := by decide +kernel
theorem dX1_put_26 : decode cX1_put 26 = .ok (.aload_n 0, 1) := by decide +kernel
theorem dX1_put_27 : decode cX1_put 27 = .ok (.getfield 15, 3) := by decide +kernel
theorem dX1_put_30 : decode cX1_put 30 = .ok (.aload_n 0, 1) := by decide +kernel
theorem dX1_put_31 : decode cX1_put 31 = .ok (.getfield 18, 3) := by decide +kernel
theorem dX1_put_34 : decode cX1_put 34 = .ok (.aload_n 0, 1) := by decide +kernel
theorem dX1_put_35 : decode cX1_put 35 = .ok (.getfield 18, 3) := by decide +kernel
theorem dX1_put_38 : decode cX1_put 38 = .ok (.ifCond .ne 7, 3) := by decide +kernel
theorem dX1_put_41 : decode cX1_put 41 = .ok (.iconst 0, 1) := by decide +kernel
theorem dX1_put_42 : decode cX1_put 42 = .ok (.goto 26, 3) := by decide +kernel
theorem dX1_put_45 : decode cX1_put 45 = .ok (.aload_n 0, 1) := by decide +kernel
theorem dX1_put_46 : decode cX1_put 46 = .ok (.getfield 15, 3) := by decide +kernel
theorem dX1_put_49 : decode cX1_put 49 = .ok (.aload_n 0, 1) := by decide +kernel
theorem dX1_put_50 : decode cX1_put 50 = .ok (.getfield 18, 3) := by decide +kernel
theorem dX1_put_53 : decode cX1_put 53 = .ok (.iconst 1, 1) := by decide +kernel
theorem dX1_put_54 : decode cX1_put 54 = .ok (.isub, 1) := by decide +kernel
theorem dX1_put_55 : decode cX1_put 55 = .ok (.iaload, 1) := by decide +kernel
theorem dX1_put_56 : decode cX1_put 56 = .ok (.aload_n 0, 1) := by decide +kernel
theorem dX1_put_57 : decode cX1_put 57 = .ok (.getfield 9, 3) := by decide +kernel
theorem dX1_put_60 : decode cX1_put 60 = .ok (.aload_n 0, 1) := by decide +kernel
theorem dX1_put_61 : decode cX1_put 61 = .ok (.getfield 18, 3) := by decide +kernel
theorem dX1_put_64 : decode cX1_put 64 = .ok (.iconst 1, 1) := by decide +kernel
theorem dX1_put_65 : decode cX1_put 65 = .ok (.isub, 1) := by decide +kernel
theorem dX1_put_66 : decode cX1_put 66 = .ok (.iaload, 1) := by decide +kernel
theorem dX1_put_67 : decode cX1_put 67 = .ok (.iadd, 1) := by decide +kernel
theorem dX1_put_68 : decode cX1_put 68 = .ok (.iastore, 1) := by decide +kernel
theorem dX1_put_69 : decode cX1_put 69 = .ok (.aload_n 0, 1) := by decide +kernel
theorem dX1_put_70 : decode cX1_put 70 = .ok (.dup, 1) := by decide +kernel
theorem dX1_put_71 : decode cX1_put 71 = .ok (.getfield 18, 3) := by decide +kernel
theorem dX1_put_74 : decode cX1_put 74 = .ok (.iconst 1, 1) := by decide +kernel
theorem dX1_put_75 : decode cX1_put 75 = .ok (.iadd, 1) := by decide +kernel
theorem dX1_put_76 : decode cX1_put 76 = .ok (.putfield 18, 3) := by decide +kernel
theorem dX1_put_79 : decode cX1_put 79 = .ok (.return_, 1) := by decide +kernel
theorem dX1_choose_0 : decode cX1_choose 0 = .ok (.aload_n 0, 1) := by decide +kernel
theorem dX1_choose_1 : decode cX1_choose 1 = .ok (.iconst 0, 1) := by decide +kernel
theorem dX1_choose_2 : decode cX1_choose 2 = .ok (.putfield 22, 3) := by decide +kernel
theorem dX1_choose_5 : decode cX1_choose 5 = .ok (.aload_n 0, 1) := by decide +kernel
theorem dX1_choose_6 : decode cX1_choose 6 = .ok (.iconst 0, 1) := by decide +kernel
theorem dX1_choose_7 : decode cX1_choose 7 = .ok (.putfield 25, 3) := by decide +kernel
theorem dX1_choose_10 : decode cX1_choose 10 = .ok (.iconst 0, 1) := by decide +kernel
theorem dX1_choose_11 : decode cX1_choose 11 = .ok (.istore_n 2, 1) := by decide +kernel
theorem dX1_choose_12 : decode cX1_choose 12 = .ok (.iconst 1, 1) := by decide +kernel
theorem dX1_choose_13 : decode cX1_choose 13 = .ok (.aload_n 0, 1) := by decide +kernel
theorem dX1_choose_14 : decode cX1_choose 14 = .ok (.getfield 18, 3) := by decide +kernel
theorem dX1_choose_17 : decode cX1_choose 17 = .ok (.ishl, 1) := by decide +kernel
theorem dX1_choose_18 : decode cX1_choose 18 = .ok (.istore_n 3, 1) := by decide +kernel
theorem dX1_choose_19 : decode cX1_choose 19 = .ok (.iconst 1, 1) := by decide +kernel
theorem dX1_choose_20 : decode cX1_choose 20 = .ok (.istore 4, 2) := by decide +kernel
theorem dX1_choose_22 : decode cX1_choose 22 = .ok (.iload 4, 2) := by decide +kernel
theorem dX1_choose_24 : decode cX1_choose 24 = .ok (.iload_n 3, 1) := by decide +kernel
theorem dX1_choose_25 : decode cX1_choose 25 = .ok (.if_icmp .ge 69, 3) := by decide +kernel
theorem dX1_choose_28 : decode cX1_choose 28 = .ok (.iload 4, 2) := by decide +kernel
theorem dX1_choose_30 : decode cX1_choose 30 = .ok (.invokestatic 28, 3) := by decide +kernel
theorem dX1_choose_33 : decode cX1_choose 33 = .ok (.istore 5, 2) := by decide +kernel
theorem dX1_choose_35 : decode cX1_choose 35 = .ok (.iload 5, 2) := by decide +kernel
theorem dX1_choose_37 : decode cX1_choose 37 = .ok (.aload_n 0, 1) := by decide +kernel
theorem dX1_choose_38 : decode cX1_choose 38 = .ok (.getfield 18, 3) := by decide +kernel
theorem dX1_choose_41 : decode cX1_choose 41 = .ok (.if_icmp .ge 21, 3) := by decide +kernel
theorem dX1_choose_44 : decode cX1_choose 44 = .ok (.iload_n 2, 1) := by decide +kernel
theorem dX1_choose_45 : decode cX1_choose 45 = .ok (.aload_n 0, 1) := by decide +kernel
theorem dX1_choose_46 : decode cX1_choose 46 = .ok (.getfield 9, 3) := by decide +kernel
theorem dX1_choose_49 : decode cX1_choose 49 = .ok (.iload 5, 2) := by decide +kernel
theorem dX1_choose_51 : decode cX1_choose 51 = .ok (.iaload, 1) := by decide +kernel
theorem dX1_choose_52 : decode cX1_choose 52 = .ok (.aload_n 0, 1) := by decide +kernel
theorem dX1_choose_53 : decode cX1_choose 53 = .ok (.getfield 15, 3) := by decide +kernel
theorem dX1_choose_56 : decode cX1_choose 56 = .ok (.iload 5, 2) := by decide +kernel
theorem dX1_choose_58 : decode cX1_choose 58 = .ok (.iaload, 1) := by decide +kernel
theorem dX1_choose_59 : decode cX1_choose 59 = .ok (.isub, 1) := by decide +kernel
theorem dX1_choose_60 : decode cX1_choose 60 = .ok (.iadd, 1) := by decide +kernel
theorem dX1_choose_61 : decode cX1_choose 61 = .ok (.istore_n 2, 1) := by decide +kernel
theorem dX1_choose_62 : decode cX1_choose 62 = .ok (.iload_n 2, 1) := by decide +kernel
theorem dX1_choose_63 : decode cX1_choose 63 = .ok (.iload_n 1, 1) := by decide +kernel
theorem dX1_choose_64 : decode cX1_choose 64 = .ok (.if_icmp .gt 24, 3) := by decide +kernel
theorem dX1_choose_67 : decode cX1_choose 67 = .ok (.aload_n 0, 1) := by decide +kernel
theorem dX1_choose_68 : decode cX1_choose 68 = .ok (.iload 4, 2) := by decide +kernel
theorem dX1_choose_70 : decode cX1_choose 70 = .ok (.iload_n 2, 1) := by decide +kernel
theorem dX1_choose_71 : decode cX1_choose 71 = .ok (.invokevirtual 34, 3) := by decide +kernel
theorem dX1_choose_74 : decode cX1_choose 74 = .ok (.ifCond .eq 14, 3) := by decide +kernel
theorem dX1_choose_77 : decode cX1_choose 77 = .ok (.aload_n 0, 1) := by decide +kernel
theorem dX1_choose_78 : decode cX1_choose 78 = .ok (.iload 4, 2) := by decide +kernel
theorem dX1_choose_80 : decode cX1_choose 80 = .ok (.putfield 22, 3) := by decide +kernel
theorem dX1_choose_83 : decode cX1_choose 83 = .ok (.aload_n 0, 1) := by decide +kernel
theorem dX1_choose_84 : decode cX1_choose 84 = .ok (.iload_n 2, 1) := by decide +kernel
theorem dX1_choose_85 : decode cX1_choose 85 = .ok (.putfield 25, 3) := by decide +kernel
theorem dX1_choose_88 : decode cX1_choose 88 = .ok (.iinc 4 1, 3) := by decide +kernel
theorem dX1_choose_91 : decode cX1_choose 91 = .ok (.goto (-69), 3) := by decide +kernel
theorem dX1_choose_94 : decode cX1_choose 94 = .ok (.return_, 1) := by decide +kernel
theorem dX1_isBetter_0 : decode cX1_isBetter 0 = .ok (.iload_n 2, 1) := by decide +kernel
theorem dX1_isBetter_1 : decode cX1_isBetter 1 = .ok (.aload_n 0, 1) := by decide +kernel
theorem dX1_isBetter_2 : decode cX1_isBetter 2 = .ok (.getfield 25, 3) := by decide +kernel
theorem dX1_isBetter_5 : decode cX1_isBetter 5 = .ok (.if_icmp .eq 17, 3) := by decide +kernel
theorem dX1_isBetter_8 : decode cX1_isBetter 8 = .ok (.iload_n 2, 1) := by decide +kernel
theorem dX1_isBetter_9 : decode cX1_isBetter 9 = .ok (.aload_n 0, 1) := by decide +kernel
theorem dX1_isBetter_10 : decode cX1_isBetter 10 = .ok (.getfield 25, 3) := by decide +kernel
theorem dX1_isBetter_13 : decode cX1_isBetter 13 = .ok (.if_icmp .le 7, 3) := by decide +kernel
theorem dX1_isBetter_16 : decode cX1_isBetter 16 = .ok (.iconst 1, 1) := by decide +kernel
theorem dX1_isBetter_17 : decode cX1_isBetter 17 = .ok (.goto 4, 3) := by decide +kernel
theorem dX1_isBetter_20 : decode cX1_isBetter 20 = .ok (.iconst 0, 1) := by decide +kernel
theorem dX1_isBetter_21 : decode cX1_isBetter 21 = .ok (.ireturn, 1) := by decide +kernel
theorem dX1_isBetter_22 : decode cX1_isBetter 22 = .ok (.iload_n 1, 1) := by decide +kernel
theorem dX1_isBetter_23 : decode cX1_isBetter 23 = .ok (.invokestatic 38, 3) := by decide +kernel
theorem dX1_isBetter_26 : decode cX1_isBetter 26 = .ok (.aload_n 0, 1) := by decide +kernel
theorem dX1_isBetter_27 : decode cX1_isBetter 27 = .ok (.getfield 22, 3) := by decide +kernel
theorem dX1_isBetter_30 : decode cX1_isBetter 30 = .ok (.invokestatic 38, 3) := by decide +kernel
theorem dX1_isBetter_33 : decode cX1_isBetter 33 = .ok (.if_icmp .ge 7, 3) := by decide +kernel
theorem dX1_isBetter_36 : decode cX1_isBetter 36 = .ok (.iconst 1, 1) := by decide +kernel
theorem dX1_isBetter_37 : decode cX1_isBetter 37 = .ok (.goto 4, 3) := by decide +kernel
theorem dX1_isBetter_40 : decode cX1_isBetter 40 = .ok (.iconst 0, 1) := by decide +kernel
theorem dX1_isBetter_41 : decode cX1_isBetter 41 = .ok (.ireturn, 1) := by decide +kernel
theorem dX2_init_0 : decode cX2_init 0 = .ok (.aload_n 0, 1) := by decide +kernel
theorem dX2_init_1 : decode cX2_init 1 = .ok (.invokespecial 3, 3) := by decide +kernel
theorem dX2_init_4 : decode cX2_init 4 = .ok (.aload_n 0, 1) := by decide +kernel
theorem dX2_init_5 : decode cX2_init 5 = .ok (.bipush 30, 2) := by decide +kernel
theorem dX2_init_7 : decode cX2_init 7 = .ok (.newarray .int, 2) := by decide +kernel
theorem dX2_init_9 : decode cX2_init 9 = .ok (.putfield 9, 3) := by decide +kernel
theorem dX2_init_12 : decode cX2_init 12 = .ok (.aload_n 0, 1) := by decide +kernel
theorem dX2_init_13 : decode cX2_init 13 = .ok (.bipush 30, 2) := by decide +kernel
theorem dX2_init_15 : decode cX2_init 15 = .ok (.newarray .int, 2) := by decide +kernel
theorem dX2_init_17 : decode cX2_init 17 = .ok (.putfield 15, 3) := by decide +kernel
theorem dX2_init_20 : decode cX2_init 20 = .ok (.aload_n 0, 1) := by decide +kernel
theorem dX2_init_21 : decode cX2_init 21 = .ok (.aload_n 1, 1) := by decide +kernel
theorem dX2_init_22 : decode cX2_init 22 = .ok (.putfield 18, 3) := by decide +kernel
theorem dX2_init_25 : decode cX2_init 25 = .ok (.return_, 1) := by decide +kernel
theorem dX2_begin_0 : decode cX2_begin 0 = .ok (.iconst 0, 1) := by decide +kernel
theorem dX2_begin_1 : decode cX2_begin 1 = .ok (.istore_n 2, 1) := by decide +kernel
theorem dX2_begin_2 : decode cX2_begin 2 = .ok (.iload_n 2, 1) := by decide +kernel
theorem dX2_begin_3 : decode cX2_begin 3 = .ok (.aload_n 0, 1) := by decide +kernel
theorem dX2_begin_4 : decode cX2_begin 4 = .ok (.getfield 18, 3) := by decide +kernel
theorem dX2_begin_7 : decode cX2_begin 7 = .ok (.getfield 22, 3) := by decide +kernel
theorem dX2_begin_10 : decode cX2_begin 10 = .ok (.if_icmp .ge 41, 3) := by decide +kernel
theorem dX2_begin_13 : decode cX2_begin 13 = .ok (.aload_n 0, 1) := by decide +kernel
theorem dX2_begin_14 : decode cX2_begin 14 = .ok (.getfield 15, 3) := by decide +kernel
theorem dX2_begin_17 : decode cX2_begin 17 = .ok (.iload_n 2, 1) := by decide +kernel
theorem dX2_begin_18 : decode cX2_begin 18 = .ok (.iconst 0, 1) := by decide +kernel
theorem dX2_begin_19 : decode cX2_begin 19 = .ok (.iastore, 1) := by decide +kernel
theorem dX2_begin_20 : decode cX2_begin 20 = .ok (.aload_n 0, 1) := by decide +kernel
theorem dX2_begin_21 : decode cX2_begin 21 = .ok (.getfield 9, 3) := by decide +kernel
theorem dX2_begin_24 : decode cX2_begin 24 = .ok (.iload_n 2, 1) := by decide +kernel
theorem dX2_begin_25 : decode cX2_begin 25 = .ok (.aload_n 1, 1) := by decide +kernel
theorem dX2_begin_26 : decode cX2_begin 26 = .ok (.getfield 28, 3) := by decide +kernel
theorem dX2_begin_29 : decode cX2_begin 29 = .ok (.iload_n 2, 1) := by decide +kernel
theorem dX2_begin_30 : decode cX2_begin 30 = .ok (.iaload, 1) := by decide +kernel
theorem dX2_begin_31 : decode cX2_begin 31 = .ok (.iconst (-1), 1) := by decide +kernel
theorem dX2_begin_32 : decode cX2_begin 32 = .ok (.if_icmp .ne 7, 3) := by decide +kernel
theorem dX2_begin_35 : decode cX2_begin 35 = .ok (.iconst (-1), 1) := by decide +kernel
theorem dX2_begin_36 : decode cX2_begin 36 = .ok (.goto 8, 3) := by decide +kernel
theorem dX2_begin_39 : decode cX2_begin 39 = .ok (.aload_n 1, 1) := by decide +kernel
theorem dX2_begin_40 : decode cX2_begin 40 = .ok (.iload_n 2, 1) := by decide +kernel
theorem dX2_begin_41 : decode cX2_begin 41 = .ok (.invokevirtual 33, 3) := by decide +kernel
theorem dX2_begin_44 : decode cX2_begin 44 = .ok (.iastore, 1) := by decide +kernel
theorem dX2_begin_45 : decode cX2_begin 45 = .ok (.iinc 2 1, 3) := by decide +kernel
theorem dX2_begin_48 : decode cX2_begin 48 = .ok (.goto (-46), 3) := by decide +kernel
theorem dX2_begin_51 : decode cX2_begin 51 = .ok (.return_, 1) := by decide +kernel
theorem dX2_lay_0 : decode cX2_lay 0 = .ok (.aload_n 0, 1) := by decide +kernel
theorem dX2_lay_1 : decode cX2_lay 1 = .ok (.getfield 9, 3) := by decide +kernel
theorem dX2_lay_4 : decode cX2_lay 4 = .ok (.iload_n 1, 1) := by decide +kernel
theorem dX2_lay_5 : decode cX2_lay 5 = .ok (.iaload, 1) := by decide +kernel
theorem dX2_lay_6 : decode cX2_lay 6 = .ok (.iconst (-1), 1) := by decide +kernel
theorem dX2_lay_7 : decode cX2_lay 7 = .ok (.if_icmp .ne 4, 3) := by decide +kernel
theorem dX2_lay_10 : decode cX2_lay 10 = .ok (.return_, 1) := by decide +kernel
theorem dX2_lay_11 : decode cX2_lay 11 = .ok (.iload_n 2, 1) := by decide +kernel
theorem dX2_lay_12 : decode cX2_lay 12 = .ok (.istore_n 3, 1) := by decide +kernel
theorem dX2_lay_13 : decode cX2_lay 13 = .ok (.iconst 0, 1) := by decide +kernel
theorem dX2_lay_14 : decode cX2_lay 14 = .ok (.istore 4, 2) := by decide +kernel
theorem dX2_lay_16 : decode cX2_lay 16 = .ok (.iload 4, 2) := by decide +kernel
theorem dX2_lay_18 : decode cX2_lay 18 = .ok (.iconst 4, 1) := by decide +kernel
theorem dX2_lay_19 : decode cX2_lay 19 = .ok (.if_icmp .ge 65, 3) := by decide +kernel
theorem dX2_lay_22 : decode cX2_lay 22 = .ok (.aload_n 0, 1) := by decide +kernel
theorem dX2_lay_23 : decode cX2_lay 23 = .ok (.getfield 18, 3) := by decide +kernel
theorem dX2_lay_26 : decode cX2_lay 26 = .ok (.iload_n 1, 1) := by decide +kernel
theorem dX2_lay_27 : decode cX2_lay 27 = .ok (.iload 4, 2) := by decide +kernel
theorem dX2_lay_29 : decode cX2_lay 29 = .ok (.invokevirtual 37, 3) := by decide +kernel
theorem dX2_lay_32 : decode cX2_lay 32 = .ok (.istore 5, 2) := by decide +kernel
theorem dX2_lay_34 : decode cX2_lay 34 = .ok (.iload 5, 2) := by decide +kernel
theorem dX2_lay_36 : decode cX2_lay 36 = .ok (.iconst (-1), 1) := by decide +kernel
theorem dX2_lay_37 : decode cX2_lay 37 = .ok (.if_icmp .eq 41, 3) := by decide +kernel
theorem dX2_lay_40 : decode cX2_lay 40 = .ok (.aload_n 0, 1) := by decide +kernel
theorem dX2_lay_41 : decode cX2_lay 41 = .ok (.getfield 9, 3) := by decide +kernel
theorem dX2_lay_44 : decode cX2_lay 44 = .ok (.iload 5, 2) := by decide +kernel
theorem dX2_lay_46 : decode cX2_lay 46 = .ok (.iaload, 1) := by decide +kernel
theorem dX2_lay_47 : decode cX2_lay 47 = .ok (.ifCond .le 31, 3) := by decide +kernel
theorem dX2_lay_50 : decode cX2_lay 50 = .ok (.iload_n 2, 1) := by decide +kernel
theorem dX2_lay_51 : decode cX2_lay 51 = .ok (.aload_n 0, 1) := by decide +kernel
theorem dX2_lay_52 : decode cX2_lay 52 = .ok (.getfield 9, 3) := by decide +kernel
theorem dX2_lay_55 : decode cX2_lay 55 = .ok (.iload 5, 2) := by decide +kernel
theorem dX2_lay_57 : decode cX2_lay 57 = .ok (.iaload, 1) := by decide +kernel
theorem dX2_lay_58 : decode cX2_lay 58 = .ok (.imul, 1) := by decide +kernel
theorem dX2_lay_59 : decode cX2_lay 59 = .ok (.bipush 20, 2) := by decide +kernel
theorem dX2_lay_61 : decode cX2_lay 61 = .ok (.idiv, 1) := by decide +kernel
theorem dX2_lay_62 : decode cX2_lay 62 = .ok (.istore 6, 2) := by decide +kernel
theorem dX2_lay_64 : decode cX2_lay 64 = .ok (.iload_n 3, 1) := by decide +kernel
theorem dX2_lay_65 : decode cX2_lay 65 = .ok (.iload 6, 2) := by decide +kernel
theorem dX2_lay_67 : decode cX2_lay 67 = .ok (.isub, 1) := by decide +kernel
theorem dX2_lay_68 : decode cX2_lay 68 = .ok (.istore_n 3, 1) := by decide +kernel
theorem dX2_lay_69 : decode cX2_lay 69 = .ok (.aload_n 0, 1) := by decide +kernel
theorem dX2_lay_70 : decode cX2_lay 70 = .ok (.iload 5, 2) := by decide +kernel
theorem dX2_lay_72 : decode cX2_lay 72 = .ok (.iload 6, 2) := by decide +kernel
theorem dX2_lay_74 : decode cX2_lay 74 = .ok (.iload_n 1, 1) := by decide +kernel
theorem dX2_lay_75 : decode cX2_lay 75 = .ok (.invokevirtual 41, 3) := by decide +kernel
theorem dX2_lay_78 : decode cX2_lay 78 = .ok (.iinc 4 1, 3) := by decide +kernel
theorem dX2_lay_81 : decode cX2_lay 81 = .ok (.goto (-65), 3) := by decide +kernel
theorem dX2_lay_84 : decode cX2_lay 84 = .ok (.aload_n 0, 1) := by decide +kernel
theorem dX2_lay_85 : decode cX2_lay 85 = .ok (.getfield 15, 3) := by decide +kernel
theorem dX2_lay_88 : decode cX2_lay 88 = .ok (.iload_n 1, 1) := by decide +kernel
theorem dX2_lay_89 : decode cX2_lay 89 = .ok (.dup2, 1) := by decide +kernel
theorem dX2_lay_90 : decode cX2_lay 90 = .ok (.iaload, 1) := by decide +kernel
theorem dX2_lay_91 : decode cX2_lay 91 = .ok (.iload_n 3, 1) := by decide +kernel
theorem dX2_lay_92 : decode cX2_lay 92 = .ok (.iadd, 1) := by decide +kernel
theorem dX2_lay_93 : decode cX2_lay 93 = .ok (.iastore, 1) := by decide +kernel
theorem dX2_lay_94 : decode cX2_lay 94 = .ok (.return_, 1) := by decide +kernel
theorem dX2_passOn_0 : decode cX2_passOn 0 = .ok (.iload_n 2, 1) := by decide +kernel
theorem dX2_passOn_1 : decode cX2_passOn 1 = .ok (.istore 4, 2) := by decide +kernel
theorem dX2_passOn_3 : decode cX2_passOn 3 = .ok (.iconst 0, 1) := by decide +kernel
theorem dX2_passOn_4 : decode cX2_passOn 4 = .ok (.istore 5, 2) := by decide +kernel
theorem dX2_passOn_6 : decode cX2_passOn 6 = .ok (.iload 5, 2) := by decide +kernel
theorem dX2_passOn_8 : decode cX2_passOn 8 = .ok (.iconst 4, 1) := by decide +kernel
theorem dX2_passOn_9 : decode cX2_passOn 9 = .ok (.if_icmp .ge 76, 3) := by decide +kernel
theorem dX2_passOn_12 : decode cX2_passOn 12 = .ok (.aload_n 0, 1) := by decide +kernel
theorem dX2_passOn_13 : decode cX2_passOn 13 = .ok (.getfield 18, 3) := by decide +kernel
theorem dX2_passOn_16 : decode cX2_passOn 16 = .ok (.iload_n 1, 1) := by decide +kernel
theorem dX2_passOn_17 : decode cX2_passOn 17 = .ok (.iload 5, 2) := by decide +kernel
theorem dX2_passOn_19 : decode cX2_passOn 19 = .ok (.invokevirtual 37, 3) := by decide +kernel
theorem dX2_passOn_22 : decode cX2_passOn 22 = .ok (.istore 6, 2) := by decide +kernel
theorem dX2_passOn_24 : decode cX2_passOn 24 = .ok (.iload 6, 2) := by decide +kernel
theorem dX2_passOn_26 : decode cX2_passOn 26 = .ok (.iconst (-1), 1) := by decide +kernel
theorem dX2_passOn_27 : decode cX2_passOn 27 = .ok (.if_icmp .eq 52, 3) := by decide +kernel
theorem dX2_passOn_30 : decode cX2_passOn 30 = .ok (.iload 6, 2) := by decide +kernel
theorem dX2_passOn_32 : decode cX2_passOn 32 = .ok (.iload_n 3, 1) := by decide +kernel
theorem dX2_passOn_33 : decode cX2_passOn 33 = .ok (.if_icmp .eq 46, 3) := by decide +kernel
theorem dX2_passOn_36 : decode cX2_passOn 36 = .ok (.aload_n 0, 1) := by decide +kernel
theorem dX2_passOn_37 : decode cX2_passOn 37 = .ok (.getfield 9, 3) := by decide +kernel
theorem dX2_passOn_40 : decode cX2_passOn 40 = .ok (.iload 6, 2) := by decide +kernel
theorem dX2_passOn_42 : decode cX2_passOn 42 = .ok (.iaload, 1) := by decide +kernel
theorem dX2_passOn_43 : decode cX2_passOn 43 = .ok (.ifCond .le 36, 3) := by decide +kernel
theorem dX2_passOn_46 : decode cX2_passOn 46 = .ok (.iload_n 2, 1) := by decide +kernel
theorem dX2_passOn_47 : decode cX2_passOn 47 = .ok (.aload_n 0, 1) := by decide +kernel
theorem dX2_passOn_48 : decode cX2_passOn 48 = .ok (.getfield 9, 3) := by decide +kernel
theorem dX2_passOn_51 : decode cX2_passOn 51 = .ok (.iload 6, 2) := by decide +kernel
theorem dX2_passOn_53 : decode cX2_passOn 53 = .ok (.iaload, 1) := by decide +kernel
theorem dX2_passOn_54 : decode cX2_passOn 54 = .ok (.imul, 1) := by decide +kernel
theorem dX2_passOn_55 : decode cX2_passOn 55 = .ok (.bipush 20, 2) := by decide +kernel
theorem dX2_passOn_57 : decode cX2_passOn 57 = .ok (.idiv, 1) := by decide +kernel
theorem dX2_passOn_58 : decode cX2_passOn 58 = .ok (.istore 7, 2) := by decide +kernel
theorem dX2_passOn_60 : decode cX2_passOn 60 = .ok (.iload 4, 2) := by decide +kernel
theorem dX2_passOn_62 : decode cX2_passOn 62 = .ok (.iload 7, 2) := by decide +kernel
theorem dX2_passOn_64 : decode cX2_passOn 64 = .ok (.isub, 1) := by decide +kernel
theorem dX2_passOn_65 : decode cX2_passOn 65 = .ok (.istore 4, 2) := by decide +kernel
theorem dX2_passOn_67 : decode cX2_passOn 67 = .ok (.aload_n 0, 1) := by decide +kernel
theorem dX2_passOn_68 : decode cX2_passOn 68 = .ok (.getfield 15, 3) := by decide +kernel
theorem dX2_passOn_71 : decode cX2_passOn 71 = .ok (.iload 6, 2) := by decide +kernel
theorem dX2_passOn_73 : decode cX2_passOn 73 = .ok (.dup2, 1) := by decide +kernel
theorem dX2_passOn_74 : decode cX2_passOn 74 = .ok (.iaload, 1) := by decide +kernel
theorem dX2_passOn_75 : decode cX2_passOn 75 = .ok (.iload 7, 2) := by decide +kernel
theorem dX2_passOn_77 : decode cX2_passOn 77 = .ok (.iadd, 1) := by decide +kernel
theorem dX2_passOn_78 : decode cX2_passOn 78 = .ok (.iastore, 1) := by decide +kernel
theorem dX2_passOn_79 : decode cX2_passOn 79 = .ok (.iinc 5 1, 3) := by decide +kernel
theorem dX2_passOn_82 : decode cX2_passOn 82 = .ok (.goto (-76), 3) := by decide +kernel
theorem dX2_passOn_85 : decode cX2_passOn 85 = .ok (.aload_n 0, 1) := by decide +kernel
theorem dX2_passOn_86 : decode cX2_passOn 86 = .ok (.getfield 15, 3) := by decide +kernel
theorem dX2_passOn_89 : decode cX2_passOn 89 = .ok (.iload_n 1, 1) := by decide +kernel
theorem dX2_passOn_90 : decode cX2_passOn 90 = .ok (.dup2, 1) := by decide +kernel
theorem dX2_passOn_91 : decode cX2_passOn 91 = .ok (.iaload, 1) := by decide +kernel
theorem dX2_passOn_92 : decode cX2_passOn 92 = .ok (.iload 4, 2) := by decide +kernel
theorem dX2_passOn_94 : decode cX2_passOn 94 = .ok (.iadd, 1) := by decide +kernel
theorem dX2_passOn_95 : decode cX2_passOn 95 = .ok (.iastore, 1) := by decide +kernel
theorem dX2_passOn_96 : decode cX2_passOn 96 = .ok (.return_, 1) := by decide +kernel
theorem dX2_greatest_0 : decode cX2_greatest 0 = .ok (.iconst (-1), 1) := by decide +kernel
theorem dX2_greatest_1 : decode cX2_greatest 1 = .ok (.istore_n 1, 1) := by decide +kernel
theorem dX2_greatest_2 : decode cX2_greatest 2 = .ok (.iconst 0, 1) := by decide +kernel
theorem dX2_greatest_3 : decode cX2_greatest 3 = .ok (.istore_n 2, 1) := by decide +kernel
theorem dX2_greatest_4 : decode cX2_greatest 4 = .ok (.iconst 0, 1) := by decide +kernel
theorem dX2_greatest_5 : decode cX2_greatest 5 = .ok (.istore_n 3, 1) := by decide +kernel
theorem dX2_greatest_6 : decode cX2_greatest 6 = .ok (.iload_n 3, 1) := by decide +kernel
theorem dX2_greatest_7 : decode cX2_greatest 7 = .ok (.aload_n 0, 1) := by decide +kernel
theorem dX2_greatest_8 : decode cX2_greatest 8 = .ok (.getfield 18, 3) := by decide +kernel
theorem dX2_greatest_11 : decode cX2_greatest 11 = .ok (.getfield 22, 3) := by decide +kernel
theorem dX2_greatest_14 : decode cX2_greatest 14 = .ok (.if_icmp .ge 28, 3) := by decide +kernel
theorem dX2_greatest_17 : decode cX2_greatest 17 = .ok (.aload_n 0, 1) := by decide +kernel
theorem dX2_greatest_18 : decode cX2_greatest 18 = .ok (.getfield 15, 3) := by decide +kernel
theorem dX2_greatest_21 : decode cX2_greatest 21 = .ok (.iload_n 3, 1) := by decide +kernel
theorem dX2_greatest_22 : decode cX2_greatest 22 = .ok (.iaload, 1) := by decide +kernel
theorem dX2_greatest_23 : decode cX2_greatest 23 = .ok (.iload_n 2, 1) := by decide +kernel
theorem dX2_greatest_24 : decode cX2_greatest 24 = .ok (.if_icmp .le 12, 3) := by decide +kernel
theorem dX2_greatest_27 : decode cX2_greatest 27 = .ok (.aload_n 0, 1) := by decide +kernel
theorem dX2_greatest_28 : decode cX2_greatest 28 = .ok (.getfield 15, 3) := by decide +kernel
theorem dX2_greatest_31 : decode cX2_greatest 31 = .ok (.iload_n 3, 1) := by decide +kernel
theorem dX2_greatest_32 : decode cX2_greatest 32 = .ok (.iaload, 1) := by decide +kernel
theorem dX2_greatest_33 : decode cX2_greatest 33 = .ok (.istore_n 2, 1) := by decide +kernel
theorem dX2_greatest_34 : decode cX2_greatest 34 = .ok (.iload_n 3, 1) := by decide +kernel
theorem dX2_greatest_35 : decode cX2_greatest 35 = .ok (.istore_n 1, 1) := by decide +kernel
theorem dX2_greatest_36 : decode cX2_greatest 36 = .ok (.iinc 3 1, 3) := by decide +kernel
theorem dX2_greatest_39 : decode cX2_greatest 39 = .ok (.goto (-33), 3) := by decide +kernel
theorem dX2_greatest_42 : decode cX2_greatest 42 = .ok (.iload_n 1, 1) := by decide +kernel
theorem dX2_greatest_43 : decode cX2_greatest 43 = .ok (.ireturn, 1) := by decide +kernel
theorem dX3_init_0 : decode cX3_init 0 = .ok (.aload_n 0, 1) := by decide +kernel
theorem dX3_init_1 : decode cX3_init 1 = .ok (.invokespecial 3, 3) := by decide +kernel
theorem dX3_init_4 : decode cX3_init 4 = .ok (.aload_n 0, 1) := by decide +kernel
theorem dX3_init_5 : decode cX3_init 5 = .ok (.bipush 64, 2) := by decide +kernel
theorem dX3_init_7 : decode cX3_init 7 = .ok (.newarray .int, 2) := by decide +kernel
theorem dX3_init_9 : decode cX3_init 9 = .ok (.putfield 9, 3) := by decide +kernel
theorem dX3_init_12 : decode cX3_init 12 = .ok (.aload_n 0, 1) := by decide +kernel
theorem dX3_init_13 : decode cX3_init 13 = .ok (.iconst 0, 1) := by decide +kernel
theorem dX3_init_14 : decode cX3_init 14 = .ok (.putfield 15, 3) := by decide +kernel
theorem dX3_init_17 : decode cX3_init 17 = .ok (.return_, 1) := by decide +kernel
theorem dX3_append_0 : decode cX3_append 0 = .ok (.aload_n 0, 1) := by decide +kernel
theorem dX3_append_1 : decode cX3_append 1 = .ok (.getfield 15, 3) := by decide +kernel
theorem dX3_append_4 : decode cX3_append 4 = .ok (.ifCond .lt 35, 3) := by decide +kernel
theorem dX3_append_7 : decode cX3_append 7 = .ok (.aload_n 0, 1) := by decide +kernel
theorem dX3_append_8 : decode cX3_append 8 = .ok (.getfield 15, 3) := by decide +kernel
theorem dX3_append_11 : decode cX3_append 11 = .ok (.aload_n 0, 1) := by decide +kernel
theorem dX3_append_12 : decode cX3_append 12 = .ok (.getfield 9, 3) := by decide +kernel
theorem dX3_append_15 : decode cX3_append 15 = .ok (.arraylength, 1) := by decide +kernel
theorem dX3_append_16 : decode cX3_append 16 = .ok (.if_icmp .ge 23, 3) := by decide +kernel
theorem dX3_append_19 : decode cX3_append 19 = .ok (.aload_n 0, 1) := by decide +kernel
theorem dX3_append_20 : decode cX3_append 20 = .ok (.getfield 9, 3) := by decide +kernel
theorem dX3_append_23 : decode cX3_append 23 = .ok (.aload_n 0, 1) := by decide +kernel
theorem dX3_append_24 : decode cX3_append 24 = .ok (.getfield 15, 3) := by decide +kernel
theorem dX3_append_27 : decode cX3_append 27 = .ok (.iload_n 1, 1) := by decide +kernel
theorem dX3_append_28 : decode cX3_append 28 = .ok (.iastore, 1) := by decide +kernel
theorem dX3_append_29 : decode cX3_append 29 = .ok (.aload_n 0, 1) := by decide +kernel
theorem dX3_append_30 : decode cX3_append 30 = .ok (.dup, 1) := by decide +kernel
theorem dX3_append_31 : decode cX3_append 31 = .ok (.getfield 15, 3) := by decide +kernel
theorem dX3_append_34 : decode cX3_append 34 = .ok (.iconst 1, 1) := by decide +kernel
theorem dX3_append_35 : decode cX3_append 35 = .ok (.iadd, 1) := by decide +kernel
theorem dX3_append_36 : decode cX3_append 36 = .ok (.putfield 15, 3) := by decide +kernel
theorem dX3_append_39 : decode cX3_append 39 = .ok (.return_, 1) := by decide +kernel
theorem dX4_init_0 : decode cX4_init 0 = .ok (.aload_n 0, 1) := by decide +kernel
theorem dX4_init_1 : decode cX4_init 1 = .ok (.invokespecial 3, 3) := by decide +kernel
theorem dX4_init_4 : decode cX4_init 4 = .ok (.aload_n 0, 1) := by decide +kernel
theorem dX4_init_5 : decode cX4_init 5 = .ok (.bipush 120, 2) := by decide +kernel
theorem dX4_init_7 : decode cX4_init 7 = .ok (.newarray .int, 2) := by decide +kernel
theorem dX4_init_9 : decode cX4_init 9 = .ok (.putfield 9, 3) := by decide +kernel
theorem dX4_init_12 : decode cX4_init 12 = .ok (.aload_n 0, 1) := by decide +kernel
theorem dX4_init_13 : decode cX4_init 13 = .ok (.bipush 30, 2) := by decide +kernel
theorem dX4_init_15 : decode cX4_init 15 = .ok (.newarray .boolean, 2) := by decide +kernel
theorem dX4_init_17 : decode cX4_init 17 = .ok (.putfield 15, 3) := by decide +kernel
theorem dX4_init_20 : decode cX4_init 20 = .ok (.aload_n 0, 1) := by decide +kernel
theorem dX4_init_21 : decode cX4_init 21 = .ok (.iconst 0, 1) := by decide +kernel
theorem dX4_init_22 : decode cX4_init 22 = .ok (.putfield 19, 3) := by decide +kernel
theorem dX4_init_25 : decode cX4_init 25 = .ok (.aload_n 0, 1) := by decide +kernel
theorem dX4_init_26 : decode cX4_init 26 = .ok (.iconst 0, 1) := by decide +kernel
theorem dX4_init_27 : decode cX4_init 27 = .ok (.putfield 23, 3) := by decide +kernel
theorem dX4_init_30 : decode cX4_init 30 = .ok (.aload_n 0, 1) := by decide +kernel
theorem dX4_init_31 : decode cX4_init 31 = .ok (.iconst 0, 1) := by decide +kernel
theorem dX4_init_32 : decode cX4_init 32 = .ok (.putfield 26, 3) := by decide +kernel
theorem dX4_init_35 : decode cX4_init 35 = .ok (.return_, 1) := by decide +kernel
theorem dX4_draw_0 : decode cX4_draw 0 = .ok (.aload_n 0, 1) := by decide +kernel
theorem dX4_draw_1 : decode cX4_draw 1 = .ok (.iload_n 1, 1) := by decide +kernel
theorem dX4_draw_2 : decode cX4_draw 2 = .ok (.putfield 19, 3) := by decide +kernel
theorem dX4_draw_5 : decode cX4_draw 5 = .ok (.aload_n 0, 1) := by decide +kernel
theorem dX4_draw_6 : decode cX4_draw 6 = .ok (.iload_n 2, 1) := by decide +kernel
theorem dX4_draw_7 : decode cX4_draw 7 = .ok (.putfield 23, 3) := by decide +kernel
theorem dX4_draw_10 : decode cX4_draw 10 = .ok (.aload_n 0, 1) := by decide +kernel
theorem dX4_draw_11 : decode cX4_draw 11 = .ok (.iload_n 1, 1) := by decide +kernel
theorem dX4_draw_12 : decode cX4_draw 12 = .ok (.iload_n 2, 1) := by decide +kernel
theorem dX4_draw_13 : decode cX4_draw 13 = .ok (.imul, 1) := by decide +kernel
theorem dX4_draw_14 : decode cX4_draw 14 = .ok (.putfield 26, 3) := by decide +kernel
theorem dX4_draw_17 : decode cX4_draw 17 = .ok (.iconst 0, 1) := by decide +kernel
theorem dX4_draw_18 : decode cX4_draw 18 = .ok (.istore_n 3, 1) := by decide +kernel
theorem dX4_draw_19 : decode cX4_draw 19 = .ok (.iload_n 3, 1) := by decide +kernel
theorem dX4_draw_20 : decode cX4_draw 20 = .ok (.aload_n 0, 1) := by decide +kernel
theorem dX4_draw_21 : decode cX4_draw 21 = .ok (.getfield 19, 3) := by decide +kernel
theorem dX4_draw_24 : decode cX4_draw 24 = .ok (.if_icmp .ge 158, 3) := by decide +kernel
theorem dX4_draw_27 : decode cX4_draw 27 = .ok (.iconst 0, 1) := by decide +kernel
theorem dX4_draw_28 : decode cX4_draw 28 = .ok (.istore 4, 2) := by decide +kernel
theorem dX4_draw_30 : decode cX4_draw 30 = .ok (.iload 4, 2) := by decide +kernel
theorem dX4_draw_32 : decode cX4_draw 32 = .ok (.aload_n 0, 1) := by decide +kernel
theorem dX4_draw_33 : decode cX4_draw 33 = .ok (.getfield 23, 3) := by decide +kernel
theorem dX4_draw_36 : decode cX4_draw 36 = .ok (.if_icmp .ge 140, 3) := by decide +kernel
theorem dX4_draw_39 : decode cX4_draw 39 = .ok (.iload_n 3, 1) := by decide +kernel
theorem dX4_draw_40 : decode cX4_draw 40 = .ok (.aload_n 0, 1) := by decide +kernel
theorem dX4_draw_41 : decode cX4_draw 41 = .ok (.getfield 23, 3) := by decide +kernel
theorem dX4_draw_44 : decode cX4_draw 44 = .ok (.imul, 1) := by decide +kernel
theorem dX4_draw_45 : decode cX4_draw 45 = .ok (.iload 4, 2) := by decide +kernel
theorem dX4_draw_47 : decode cX4_draw 47 = .ok (.iadd, 1) := by decide +kernel
theorem dX4_draw_48 : decode cX4_draw 48 = .ok (.istore 5, 2) := by decide +kernel
theorem dX4_draw_50 : decode cX4_draw 50 = .ok (.aload_n 0, 1) := by decide +kernel
theorem dX4_draw_51 : decode cX4_draw 51 = .ok (.getfield 9, 3) := by decide +kernel
theorem dX4_draw_54 : decode cX4_draw 54 = .ok (.iload 5, 2) := by decide +kernel
theorem dX4_draw_56 : decode cX4_draw 56 = .ok (.iconst 4, 1) := by decide +kernel
theorem dX4_draw_57 : decode cX4_draw 57 = .ok (.imul, 1) := by decide +kernel
theorem dX4_draw_58 : decode cX4_draw 58 = .ok (.aload_n 0, 1) := by decide +kernel
theorem dX4_draw_59 : decode cX4_draw 59 = .ok (.iload_n 3, 1) := by decide +kernel
theorem dX4_draw_60 : decode cX4_draw 60 = .ok (.iconst 1, 1) := by decide +kernel
theorem dX4_draw_61 : decode cX4_draw 61 = .ok (.isub, 1) := by decide +kernel
theorem dX4_draw_62 : decode cX4_draw 62 = .ok (.iload 4, 2) := by decide +kernel
theorem dX4_draw_64 : decode cX4_draw 64 = .ok (.invokevirtual 29, 3) := by decide +kernel
theorem dX4_draw_67 : decode cX4_draw 67 = .ok (.iastore, 1) := by decide +kernel
theorem dX4_draw_68 : decode cX4_draw 68 = .ok (.aload_n 0, 1) := by decide +kernel
theorem dX4_draw_69 : decode cX4_draw 69 = .ok (.getfield 9, 3) := by decide +kernel
theorem dX4_draw_72 : decode cX4_draw 72 = .ok (.iload 5, 2) := by decide +kernel
theorem dX4_draw_74 : decode cX4_draw 74 = .ok (.iconst 4, 1) := by decide +kernel
theorem dX4_draw_75 : decode cX4_draw 75 = .ok (.imul, 1) := by decide +kernel
theorem dX4_draw_76 : decode cX4_draw 76 = .ok (.iconst 1, 1) := by decide +kernel
theorem dX4_draw_77 : decode cX4_draw 77 = .ok (.iadd, 1) := by decide +kernel
theorem dX4_draw_78 : decode cX4_draw 78 = .ok (.aload_n 0, 1) := by decide +kernel
theorem dX4_draw_79 : decode cX4_draw 79 = .ok (.iload_n 3, 1) := by decide +kernel
theorem dX4_draw_80 : decode cX4_draw 80 = .ok (.iload 4, 2) := by decide +kernel
theorem dX4_draw_82 : decode cX4_draw 82 = .ok (.iconst 1, 1) := by decide +kernel
theorem dX4_draw_83 : decode cX4_draw 83 = .ok (.iadd, 1) := by decide +kernel
theorem dX4_draw_84 : decode cX4_draw 84 = .ok (.invokevirtual 29, 3) := by decide +kernel
theorem dX4_draw_87 : decode cX4_draw 87 = .ok (.iastore, 1) := by decide +kernel
theorem dX4_draw_88 : decode cX4_draw 88 = .ok (.aload_n 0, 1) := by decide +kernel
theorem dX4_draw_89 : decode cX4_draw 89 = .ok (.getfield 9, 3) := by decide +kernel
theorem dX4_draw_92 : decode cX4_draw 92 = .ok (.iload 5, 2) := by decide +kernel
theorem dX4_draw_94 : decode cX4_draw 94 = .ok (.iconst 4, 1) := by decide +kernel
theorem dX4_draw_95 : decode cX4_draw 95 = .ok (.imul, 1) := by decide +kernel
theorem dX4_draw_96 : decode cX4_draw 96 = .ok (.iconst 2, 1) := by decide +kernel
theorem dX4_draw_97 : decode cX4_draw 97 = .ok (.iadd, 1) := by decide +kernel
theorem dX4_draw_98 : decode cX4_draw 98 = .ok (.aload_n 0, 1) := by decide +kernel
theorem dX4_draw_99 : decode cX4_draw 99 = .ok (.iload_n 3, 1) := by decide +kernel
theorem dX4_draw_100 : decode cX4_draw 100 = .ok (.iconst 1, 1) := by decide +kernel
theorem dX4_draw_101 : decode cX4_draw 101 = .ok (.iadd, 1) := by decide +kernel
theorem dX4_draw_102 : decode cX4_draw 102 = .ok (.iload 4, 2) := by decide +kernel
theorem dX4_draw_104 : decode cX4_draw 104 = .ok (.invokevirtual 29, 3) := by decide +kernel
theorem dX4_draw_107 : decode cX4_draw 107 = .ok (.iastore, 1) := by decide +kernel
theorem dX4_draw_108 : decode cX4_draw 108 = .ok (.aload_n 0, 1) := by decide +kernel
theorem dX4_draw_109 : decode cX4_draw 109 = .ok (.getfield 9, 3) := by decide +kernel
theorem dX4_draw_112 : decode cX4_draw 112 = .ok (.iload 5, 2) := by decide +kernel
theorem dX4_draw_114 : decode cX4_draw 114 = .ok (.iconst 4, 1) := by decide +kernel
theorem dX4_draw_115 : decode cX4_draw 115 = .ok (.imul, 1) := by decide +kernel
theorem dX4_draw_116 : decode cX4_draw 116 = .ok (.iconst 3, 1) := by decide +kernel
theorem dX4_draw_117 : decode cX4_draw 117 = .ok (.iadd, 1) := by decide +kernel
theorem dX4_draw_118 : decode cX4_draw 118 = .ok (.aload_n 0, 1) := by decide +kernel
theorem dX4_draw_119 : decode cX4_draw 119 = .ok (.iload_n 3, 1) := by decide +kernel
theorem dX4_draw_120 : decode cX4_draw 120 = .ok (.iload 4, 2) := by decide +kernel
theorem dX4_draw_122 : decode cX4_draw 122 = .ok (.iconst 1, 1) := by decide +kernel
theorem dX4_draw_123 : decode cX4_draw 123 = .ok (.isub, 1) := by decide +kernel
theorem dX4_draw_124 : decode cX4_draw 124 = .ok (.invokevirtual 29, 3) := by decide +kernel
theorem dX4_draw_127 : decode cX4_draw 127 = .ok (.iastore, 1) := by decide +kernel
theorem dX4_draw_128 : decode cX4_draw 128 = .ok (.aload_n 0, 1) := by decide +kernel
theorem dX4_draw_129 : decode cX4_draw 129 = .ok (.getfield 15, 3) := by decide +kernel
theorem dX4_draw_132 : decode cX4_draw 132 = .ok (.iload 5, 2) := by decide +kernel
theorem dX4_draw_134 : decode cX4_draw 134 = .ok (.iload_n 3, 1) := by decide +kernel
theorem dX4_draw_135 : decode cX4_draw 135 = .ok (.ifCond .eq 29, 3) := by decide +kernel
theorem dX4_draw_138 : decode cX4_draw 138 = .ok (.iload_n 3, 1) := by decide +kernel
theorem dX4_draw_139 : decode cX4_draw 139 = .ok (.aload_n 0, 1) := by decide +kernel
theorem dX4_draw_140 : decode cX4_draw 140 = .ok (.getfield 19, 3) := by decide +kernel
theorem dX4_draw_143 : decode cX4_draw 143 = .ok (.iconst 1, 1) := by decide +kernel
theorem dX4_draw_144 : decode cX4_draw 144 = .ok (.isub, 1) := by decide +kernel
theorem dX4_draw_145 : decode cX4_draw 145 = .ok (.if_icmp .eq 19, 3) := by decide +kernel
theorem dX4_draw_148 : decode cX4_draw 148 = .ok (.iload 4, 2) := by decide +kernel
theorem dX4_draw_150 : decode cX4_draw 150 = .ok (.ifCond .eq 14, 3) := by decide +kernel
theorem dX4_draw_153 : decode cX4_draw 153 = .ok (.iload 4, 2) := by decide +kernel
theorem dX4_draw_155 : decode cX4_draw 155 = .ok (.aload_n 0, 1) := by decide +kernel
theorem dX4_draw_156 : decode cX4_draw 156 = .ok (.getfield 23, 3) := by decide +kernel
theorem dX4_draw_159 : decode cX4_draw 159 = .ok (.iconst 1, 1) := by decide +kernel
theorem dX4_draw_160 : decode cX4_draw 160 = .ok (.isub, 1) := by decide +kernel
theorem dX4_draw_161 : decode cX4_draw 161 = .ok (.if_icmp .ne 7, 3) := by decide +kernel
theorem dX4_draw_164 : decode cX4_draw 164 = .ok (.iconst 1, 1) := by decide +kernel
theorem dX4_draw_165 : decode cX4_draw 165 = .ok (.goto 4, 3) := by decide +kernel
theorem dX4_draw_168 : decode cX4_draw 168 = .ok (.iconst 0, 1) := by decide +kernel
theorem dX4_draw_169 : decode cX4_draw 169 = .ok (.bastore, 1) := by decide +kernel
theorem dX4_draw_170 : decode cX4_draw 170 = .ok (.iinc 4 1, 3) := by decide +kernel
theorem dX4_draw_173 : decode cX4_draw 173 = .ok (.goto (-143), 3) := by decide +kernel
theorem dX4_draw_176 : decode cX4_draw 176 = .ok (.iinc 3 1, 3) := by decide +kernel
theorem dX4_draw_179 : decode cX4_draw 179 = .ok (.goto (-160), 3) := by decide +kernel
theorem dX4_draw_182 : decode cX4_draw 182 = .ok (.return_, 1) := by decide +kernel
theorem dX4_numberOf_0 : decode cX4_numberOf 0 = .ok (.iload_n 1, 1) := by decide +kernel
theorem dX4_numberOf_1 : decode cX4_numberOf 1 = .ok (.ifCond .lt 27, 3) := by decide +kernel
theorem dX4_numberOf_4 : decode cX4_numberOf 4 = .ok (.iload_n 1, 1) := by decide +kernel
theorem dX4_numberOf_5 : decode cX4_numberOf 5 = .ok (.aload_n 0, 1) := by decide +kernel
theorem dX4_numberOf_6 : decode cX4_numberOf 6 = .ok (.getfield 19, 3) := by decide +kernel
theorem dX4_numberOf_9 : decode cX4_numberOf 9 = .ok (.if_icmp .ge 19, 3) := by decide +kernel
theorem dX4_numberOf_12 : decode cX4_numberOf 12 = .ok (.iload_n 2, 1) := by decide +kernel
theorem dX4_numberOf_13 : decode cX4_numberOf 13 = .ok (.ifCond .lt 15, 3) := by decide +kernel
theorem dX4_numberOf_16 : decode cX4_numberOf 16 = .ok (.iload_n 2, 1) := by decide +kernel
theorem dX4_numberOf_17 : decode cX4_numberOf 17 = .ok (.aload_n 0, 1) := by decide +kernel
theorem dX4_numberOf_18 : decode cX4_numberOf 18 = .ok (.getfield 23, 3) := by decide +kernel
theorem dX4_numberOf_21 : decode cX4_numberOf 21 = .ok (.if_icmp .ge 7, 3) := by decide +kernel
theorem dX4_numberOf_24 : decode cX4_numberOf 24 = .ok (.iconst 1, 1) := by decide +kernel
theorem dX4_numberOf_25 : decode cX4_numberOf 25 = .ok (.goto 4, 3) := by decide +kernel
theorem dX4_numberOf_28 : decode cX4_numberOf 28 = .ok (.iconst 0, 1) := by decide +kernel
theorem dX4_numberOf_29 : decode cX4_numberOf 29 = .ok (.istore_n 3, 1) := by decide +kernel
theorem dX4_numberOf_30 : decode cX4_numberOf 30 = .ok (.iload_n 3, 1) := by decide +kernel
theorem dX4_numberOf_31 : decode cX4_numberOf 31 = .ok (.ifCond .eq 14, 3) := by decide +kernel
theorem dX4_numberOf_34 : decode cX4_numberOf 34 = .ok (.iload_n 1, 1) := by decide +kernel
theorem dX4_numberOf_35 : decode cX4_numberOf 35 = .ok (.aload_n 0, 1) := by decide +kernel
theorem dX4_numberOf_36 : decode cX4_numberOf 36 = .ok (.getfield 23, 3) := by decide +kernel
theorem dX4_numberOf_39 : decode cX4_numberOf 39 = .ok (.imul, 1) := by decide +kernel
theorem dX4_numberOf_40 : decode cX4_numberOf 40 = .ok (.iload_n 2, 1) := by decide +kernel
theorem dX4_numberOf_41 : decode cX4_numberOf 41 = .ok (.iadd, 1) := by decide +kernel
theorem dX4_numberOf_42 : decode cX4_numberOf 42 = .ok (.goto 4, 3) := by decide +kernel
theorem dX4_numberOf_45 : decode cX4_numberOf 45 = .ok (.iconst (-1), 1) := by decide +kernel
theorem dX4_numberOf_46 : decode cX4_numberOf 46 = .ok (.ireturn, 1) := by decide +kernel
theorem dX4_beside_0 : decode cX4_beside 0 = .ok (.aload_n 0, 1) := by decide +kernel
theorem dX4_beside_1 : decode cX4_beside 1 = .ok (.getfield 9, 3) := by decide +kernel
theorem dX4_beside_4 : decode cX4_beside 4 = .ok (.iload_n 1, 1) := by decide +kernel
theorem dX4_beside_5 : decode cX4_beside 5 = .ok (.iconst 4, 1) := by decide +kernel
theorem dX4_beside_6 : decode cX4_beside 6 = .ok (.imul, 1) := by decide +kernel
theorem dX4_beside_7 : decode cX4_beside 7 = .ok (.iload_n 2, 1) := by decide +kernel
theorem dX4_beside_8 : decode cX4_beside 8 = .ok (.iadd, 1) := by decide +kernel
theorem dX4_beside_9 : decode cX4_beside 9 = .ok (.iaload, 1) := by decide +kernel
theorem dX4_beside_10 : decode cX4_beside 10 = .ok (.ireturn, 1) := by decide +kernel
theorem dX4_steps_0 : decode cX4_steps 0 = .ok (.aload_n 0, 1) := by decide +kernel
theorem dX4_steps_1 : decode cX4_steps 1 = .ok (.getfield 23, 3) := by decide +kernel
theorem dX4_steps_4 : decode cX4_steps 4 = .ok (.iconst 1, 1) := by decide +kernel
theorem dX4_steps_5 : decode cX4_steps 5 = .ok (.isub, 1) := by decide +kernel
theorem dX4_steps_6 : decode cX4_steps 6 = .ok (.iload_n 1, 1) := by decide +kernel
theorem dX4_steps_7 : decode cX4_steps 7 = .ok (.invokestatic 33, 3) := by decide +kernel
theorem dX4_steps_10 : decode cX4_steps 10 = .ok (.ireturn, 1) := by decide +kernel
theorem dX5_init_0 : decode cX5_init 0 = .ok (.aload_n 0, 1) := by decide +kernel
theorem dX5_init_1 : decode cX5_init 1 = .ok (.invokespecial 3, 3) := by decide +kernel
theorem dX5_init_4 : decode cX5_init 4 = .ok (.aload_n 0, 1) := by decide +kernel
theorem dX5_init_5 : decode cX5_init 5 = .ok (.bipush 30, 2) := by decide +kernel
theorem dX5_init_7 : decode cX5_init 7 = .ok (.newarray .int, 2) := by decide +kernel
theorem dX5_init_9 : decode cX5_init 9 = .ok (.putfield 9, 3) := by decide +kernel
theorem dX5_init_12 : decode cX5_init 12 = .ok (.aload_n 0, 1) := by decide +kernel
theorem dX5_init_13 : decode cX5_init 13 = .ok (.aload_n 1, 1) := by decide +kernel
theorem dX5_init_14 : decode cX5_init 14 = .ok (.putfield 15, 3) := by decide +kernel
theorem dX5_init_17 : decode cX5_init 17 = .ok (.return_, 1) := by decide +kernel
theorem dX5_go_0 : decode cX5_go 0 = .ok (.aload_n 0, 1) := by decide +kernel
theorem dX5_go_1 : decode cX5_go 1 = .ok (.iload 4, 2) := by decide +kernel
theorem dX5_go_3 : decode cX5_go 3 = .ok (.invokevirtual 19, 3) := by decide +kernel
theorem dX5_go_6 : decode cX5_go 6 = .ok (.iconst 0, 1) := by decide +kernel
theorem dX5_go_7 : decode cX5_go 7 = .ok (.istore 5, 2) := by decide +kernel
theorem dX5_go_9 : decode cX5_go 9 = .ok (.iconst 0, 1) := by decide +kernel
theorem dX5_go_10 : decode cX5_go 10 = .ok (.istore 6, 2) := by decide +kernel
theorem dX5_go_12 : decode cX5_go 12 = .ok (.iload 6, 2) := by decide +kernel
theorem dX5_go_14 : decode cX5_go 14 = .ok (.iload_n 3, 1) := by decide +kernel
theorem dX5_go_15 : decode cX5_go 15 = .ok (.if_icmp .ge 20, 3) := by decide +kernel
theorem dX5_go_18 : decode cX5_go 18 = .ok (.iload 5, 2) := by decide +kernel
theorem dX5_go_20 : decode cX5_go 20 = .ok (.aload_n 0, 1) := by decide +kernel
theorem dX5_go_21 : decode cX5_go 21 = .ok (.aload_n 1, 1) := by decide +kernel
theorem dX5_go_22 : decode cX5_go 22 = .ok (.iload_n 2, 1) := by decide +kernel
theorem dX5_go_23 : decode cX5_go 23 = .ok (.invokevirtual 23, 3) := by decide +kernel
theorem dX5_go_26 : decode cX5_go 26 = .ok (.iadd, 1) := by decide +kernel
theorem dX5_go_27 : decode cX5_go 27 = .ok (.istore 5, 2) := by decide +kernel
theorem dX5_go_29 : decode cX5_go 29 = .ok (.iinc 6 1, 3) := by decide +kernel
theorem dX5_go_32 : decode cX5_go 32 = .ok (.goto (-20), 3) := by decide +kernel
theorem dX5_go_35 : decode cX5_go 35 = .ok (.iload 5, 2) := by decide +kernel
theorem dX5_go_37 : decode cX5_go 37 = .ok (.ireturn, 1) := by decide +kernel
theorem dX5_roundsTillAllRing_0 : decode cX5_roundsTillAllRing 0 = .ok (.aload_n 0, 1) := by decide +kernel
theorem dX5_roundsTillAllRing_1 : decode cX5_roundsTillAllRing 1 = .ok (.iload_n 3, 1) := by decide +kernel
theorem dX5_roundsTillAllRing_2 : decode cX5_roundsTillAllRing 2 = .ok (.invokevirtual 19, 3) := by decide +kernel
theorem dX5_roundsTillAllRing_5 : decode cX5_roundsTillAllRing 5 = .ok (.aload_n 1, 1) := by decide +kernel
theorem dX5_roundsTillAllRing_6 : decode cX5_roundsTillAllRing 6 = .ok (.invokevirtual 27, 3) := by decide +kernel
theorem dX5_roundsTillAllRing_9 : decode cX5_roundsTillAllRing 9 = .ok (.istore 4, 2) := by decide +kernel
theorem dX5_roundsTillAllRing_11 : decode cX5_roundsTillAllRing 11 = .ok (.iconst 0, 1) := by decide +kernel
theorem dX5_roundsTillAllRing_12 : decode cX5_roundsTillAllRing 12 = .ok (.istore 5, 2) := by decide +kernel
theorem dX5_roundsTillAllRing_14 : decode cX5_roundsTillAllRing 14 = .ok (.iload 5, 2) := by decide +kernel
theorem dX5_roundsTillAllRing_16 : decode cX5_roundsTillAllRing 16 = .ok (.bipush 99, 2) := by decide +kernel
theorem dX5_roundsTillAllRing_18 : decode cX5_roundsTillAllRing 18 = .ok (.if_icmp .gt 29, 3) := by decide +kernel
theorem dX5_roundsTillAllRing_21 : decode cX5_roundsTillAllRing 21 = .ok (.aload_n 1, 1) := by decide +kernel
theorem dX5_roundsTillAllRing_22 : decode cX5_roundsTillAllRing 22 = .ok (.iload_n 2, 1) := by decide +kernel
theorem dX5_roundsTillAllRing_23 : decode cX5_roundsTillAllRing 23 = .ok (.invokevirtual 33, 3) := by decide +kernel
theorem dX5_roundsTillAllRing_26 : decode cX5_roundsTillAllRing 26 = .ok (.iload 4, 2) := by decide +kernel
theorem dX5_roundsTillAllRing_28 : decode cX5_roundsTillAllRing 28 = .ok (.if_icmp .ne 6, 3) := by decide +kernel
theorem dX5_roundsTillAllRing_31 : decode cX5_roundsTillAllRing 31 = .ok (.iload 5, 2) := by decide +kernel
theorem dX5_roundsTillAllRing_33 : decode cX5_roundsTillAllRing 33 = .ok (.ireturn, 1) := by decide +kernel
theorem dX5_roundsTillAllRing_34 : decode cX5_roundsTillAllRing 34 = .ok (.aload_n 0, 1) := by decide +kernel
theorem dX5_roundsTillAllRing_35 : decode cX5_roundsTillAllRing 35 = .ok (.aload_n 1, 1) := by decide +kernel
theorem dX5_roundsTillAllRing_36 : decode cX5_roundsTillAllRing 36 = .ok (.iload_n 2, 1) := by decide +kernel
theorem dX5_roundsTillAllRing_37 : decode cX5_roundsTillAllRing 37 = .ok (.invokevirtual 23, 3) := by decide +kernel
theorem dX5_roundsTillAllRing_40 : decode cX5_roundsTillAllRing 40 = .ok (.pop, 1) := by decide +kernel
theorem dX5_roundsTillAllRing_41 : decode cX5_roundsTillAllRing 41 = .ok (.iinc 5 1, 3) := by decide +kernel
theorem dX5_roundsTillAllRing_44 : decode cX5_roundsTillAllRing 44 = .ok (.goto (-30), 3) := by decide +kernel
theorem dX5_roundsTillAllRing_47 : decode cX5_roundsTillAllRing 47 = .ok (.iconst (-1), 1) := by decide +kernel
theorem dX5_roundsTillAllRing_48 : decode cX5_roundsTillAllRing 48 = .ok (.ireturn, 1) := by decide +kernel
theorem dX5_goRound_0 : decode cX5_goRound 0 = .ok (.iconst 0, 1) := by decide +kernel
theorem dX5_goRound_1 : decode cX5_goRound 1 = .ok (.istore_n 3, 1) := by decide +kernel
theorem dX5_goRound_2 : decode cX5_goRound 2 = .ok (.iconst 0, 1) := by decide +kernel
theorem dX5_goRound_3 : decode cX5_goRound 3 = .ok (.istore 4, 2) := by decide +kernel
theorem dX5_goRound_5 : decode cX5_goRound 5 = .ok (.iload 4, 2) := by decide +kernel
theorem dX5_goRound_7 : decode cX5_goRound 7 = .ok (.aload_n 0, 1) := by decide +kernel
theorem dX5_goRound_8 : decode cX5_goRound 8 = .ok (.getfield 15, 3) := by decide +kernel
theorem dX5_goRound_11 : decode cX5_goRound 11 = .ok (.getfield 37, 3) := by decide +kernel
theorem dX5_goRound_14 : decode cX5_goRound 14 = .ok (.if_icmp .ge 24, 3) := by decide +kernel
theorem dX5_goRound_17 : decode cX5_goRound 17 = .ok (.iload_n 3, 1) := by decide +kernel
theorem dX5_goRound_18 : decode cX5_goRound 18 = .ok (.aload_n 1, 1) := by decide +kernel
theorem dX5_goRound_19 : decode cX5_goRound 19 = .ok (.aload_n 0, 1) := by decide +kernel
theorem dX5_goRound_20 : decode cX5_goRound 20 = .ok (.getfield 9, 3) := by decide +kernel
theorem dX5_goRound_23 : decode cX5_goRound 23 = .ok (.iload 4, 2) := by decide +kernel
theorem dX5_goRound_25 : decode cX5_goRound 25 = .ok (.iaload, 1) := by decide +kernel
theorem dX5_goRound_26 : decode cX5_goRound 26 = .ok (.iload_n 2, 1) := by decide +kernel
theorem dX5_goRound_27 : decode cX5_goRound 27 = .ok (.invokevirtual 43, 3) := by decide +kernel
theorem dX5_goRound_30 : decode cX5_goRound 30 = .ok (.iadd, 1) := by decide +kernel
theorem dX5_goRound_31 : decode cX5_goRound 31 = .ok (.istore_n 3, 1) := by decide +kernel
theorem dX5_goRound_32 : decode cX5_goRound 32 = .ok (.iinc 4 1, 3) := by decide +kernel
theorem dX5_goRound_35 : decode cX5_goRound 35 = .ok (.goto (-30), 3) := by decide +kernel
theorem dX5_goRound_38 : decode cX5_goRound 38 = .ok (.iload_n 3, 1) := by decide +kernel
theorem dX5_goRound_39 : decode cX5_goRound 39 = .ok (.ireturn, 1) := by decide +kernel
theorem dX5_arrange_0 : decode cX5_arrange 0 = .ok (.iload_n 1, 1) := by decide +kernel
theorem dX5_arrange_1 : decode cX5_arrange 1 = .ok (.iconst 2, 1) := by decide +kernel
theorem dX5_arrange_2 : decode cX5_arrange 2 = .ok (.if_icmp .ne 8, 3) := by decide +kernel
theorem dX5_arrange_5 : decode cX5_arrange 5 = .ok (.aload_n 0, 1) := by decide +kernel
theorem dX5_arrange_6 : decode cX5_arrange 6 = .ok (.invokevirtual 47, 3) := by decide +kernel
theorem dX5_arrange_9 : decode cX5_arrange 9 = .ok (.return_, 1) := by decide +kernel
theorem dX5_arrange_10 : decode cX5_arrange 10 = .ok (.aload_n 0, 1) := by decide +kernel
theorem dX5_arrange_11 : decode cX5_arrange 11 = .ok (.getfield 15, 3) := by decide +kernel
theorem dX5_arrange_14 : decode cX5_arrange 14 = .ok (.getfield 37, 3) := by decide +kernel
theorem dX5_arrange_17 : decode cX5_arrange 17 = .ok (.iconst 1, 1) := by decide +kernel
theorem dX5_arrange_18 : decode cX5_arrange 18 = .ok (.iadd, 1) := by decide +kernel
theorem dX5_arrange_19 : decode cX5_arrange 19 = .ok (.iconst 2, 1) := by decide +kernel
theorem dX5_arrange_20 : decode cX5_arrange 20 = .ok (.idiv, 1) := by decide +kernel
theorem dX5_arrange_21 : decode cX5_arrange 21 = .ok (.istore_n 2, 1) := by decide +kernel
theorem dX5_arrange_22 : decode cX5_arrange 22 = .ok (.iconst 0, 1) := by decide +kernel
theorem dX5_arrange_23 : decode cX5_arrange 23 = .ok (.istore_n 3, 1) := by decide +kernel
theorem dX5_arrange_24 : decode cX5_arrange 24 = .ok (.iload_n 3, 1) := by decide +kernel
theorem dX5_arrange_25 : decode cX5_arrange 25 = .ok (.aload_n 0, 1) := by decide +kernel
theorem dX5_arrange_26 : decode cX5_arrange 26 = .ok (.getfield 15, 3) := by decide +kernel
theorem dX5_arrange_29 : decode cX5_arrange 29 = .ok (.getfield 37, 3) := by decide +kernel
theorem dX5_arrange_32 : decode cX5_arrange 32 = .ok (.if_icmp .ge 72, 3) := by decide +kernel
theorem dX5_arrange_35 : decode cX5_arrange 35 = .ok (.iload_n 1, 1) := by decide +kernel
theorem dX5_arrange_36 : decode cX5_arrange 36 = .ok (.ifCond .ne 13, 3) := by decide +kernel
theorem dX5_arrange_39 : decode cX5_arrange 39 = .ok (.aload_n 0, 1) := by decide +kernel
theorem dX5_arrange_40 : decode cX5_arrange 40 = .ok (.getfield 9, 3) := by decide +kernel
theorem dX5_arrange_43 : decode cX5_arrange 43 = .ok (.iload_n 3, 1) := by decide +kernel
theorem dX5_arrange_44 : decode cX5_arrange 44 = .ok (.iload_n 3, 1) := by decide +kernel
theorem dX5_arrange_45 : decode cX5_arrange 45 = .ok (.iastore, 1) := by decide +kernel
theorem dX5_arrange_46 : decode cX5_arrange 46 = .ok (.goto 52, 3) := by decide +kernel
theorem dX5_arrange_49 : decode cX5_arrange 49 = .ok (.iload_n 1, 1) := by decide +kernel
theorem dX5_arrange_50 : decode cX5_arrange 50 = .ok (.iconst 1, 1) := by decide +kernel
theorem dX5_arrange_51 : decode cX5_arrange 51 = .ok (.if_icmp .ne 23, 3) := by decide +kernel
theorem dX5_arrange_54 : decode cX5_arrange 54 = .ok (.aload_n 0, 1) := by decide +kernel
theorem dX5_arrange_55 : decode cX5_arrange 55 = .ok (.getfield 9, 3) := by decide +kernel
theorem dX5_arrange_58 : decode cX5_arrange 58 = .ok (.iload_n 3, 1) := by decide +kernel
theorem dX5_arrange_59 : decode cX5_arrange 59 = .ok (.aload_n 0, 1) := by decide +kernel
theorem dX5_arrange_60 : decode cX5_arrange 60 = .ok (.getfield 15, 3) := by decide +kernel
theorem dX5_arrange_63 : decode cX5_arrange 63 = .ok (.getfield 37, 3) := by decide +kernel
theorem dX5_arrange_66 : decode cX5_arrange 66 = .ok (.iconst 1, 1) := by decide +kernel
theorem dX5_arrange_67 : decode cX5_arrange 67 = .ok (.isub, 1) := by decide +kernel
theorem dX5_arrange_68 : decode cX5_arrange 68 = .ok (.iload_n 3, 1) := by decide +kernel
theorem dX5_arrange_69 : decode cX5_arrange 69 = .ok (.isub, 1) := by decide +kernel
theorem dX5_arrange_70 : decode cX5_arrange 70 = .ok (.iastore, 1) := by decide +kernel
theorem dX5_arrange_71 : decode cX5_arrange 71 = .ok (.goto 27, 3) := by decide +kernel
theorem dX5_arrange_74 : decode cX5_arrange 74 = .ok (.aload_n 0, 1) := by decide +kernel
theorem dX5_arrange_75 : decode cX5_arrange 75 = .ok (.getfield 9, 3) := by decide +kernel
theorem dX5_arrange_78 : decode cX5_arrange 78 = .ok (.iload_n 3, 1) := by decide +kernel
theorem dX5_arrange_79 : decode cX5_arrange 79 = .ok (.iload_n 3, 1) := by decide +kernel
theorem dX5_arrange_80 : decode cX5_arrange 80 = .ok (.iload_n 2, 1) := by decide +kernel
theorem dX5_arrange_81 : decode cX5_arrange 81 = .ok (.if_icmp .ge 9, 3) := by decide +kernel
theorem dX5_arrange_84 : decode cX5_arrange 84 = .ok (.iconst 2, 1) := by decide +kernel
theorem dX5_arrange_85 : decode cX5_arrange 85 = .ok (.iload_n 3, 1) := by decide +kernel
theorem dX5_arrange_86 : decode cX5_arrange 86 = .ok (.imul, 1) := by decide +kernel
theorem dX5_arrange_87 : decode cX5_arrange 87 = .ok (.goto 10, 3) := by decide +kernel
theorem dX5_arrange_90 : decode cX5_arrange 90 = .ok (.iconst 2, 1) := by decide +kernel
theorem dX5_arrange_91 : decode cX5_arrange 91 = .ok (.iload_n 3, 1) := by decide +kernel
theorem dX5_arrange_92 : decode cX5_arrange 92 = .ok (.iload_n 2, 1) := by decide +kernel
theorem dX5_arrange_93 : decode cX5_arrange 93 = .ok (.isub, 1) := by decide +kernel
theorem dX5_arrange_94 : decode cX5_arrange 94 = .ok (.imul, 1) := by decide +kernel
theorem dX5_arrange_95 : decode cX5_arrange 95 = .ok (.iconst 1, 1) := by decide +kernel
theorem dX5_arrange_96 : decode cX5_arrange 96 = .ok (.iadd, 1) := by decide +kernel
theorem dX5_arrange_97 : decode cX5_arrange 97 = .ok (.iastore, 1) := by decide +kernel
theorem dX5_arrange_98 : decode cX5_arrange 98 = .ok (.iinc 3 1, 3) := by decide +kernel
theorem dX5_arrange_101 : decode cX5_arrange 101 = .ok (.goto (-77), 3) := by decide +kernel
theorem dX5_arrange_104 : decode cX5_arrange 104 = .ok (.return_, 1) := by decide +kernel
theorem dX5_arrangeByColumns_0 : decode cX5_arrangeByColumns 0 = .ok (.iconst 0, 1) := by decide +kernel
theorem dX5_arrangeByColumns_1 : decode cX5_arrangeByColumns 1 = .ok (.istore_n 1, 1) := by decide +kernel
theorem dX5_arrangeByColumns_2 : decode cX5_arrangeByColumns 2 = .ok (.iconst 0, 1) := by decide +kernel
theorem dX5_arrangeByColumns_3 : decode cX5_arrangeByColumns 3 = .ok (.istore_n 2, 1) := by decide +kernel
theorem dX5_arrangeByColumns_4 : decode cX5_arrangeByColumns 4 = .ok (.iload_n 2, 1) := by decide +kernel
theorem dX5_arrangeByColumns_5 : decode cX5_arrangeByColumns 5 = .ok (.aload_n 0, 1) := by decide +kernel
theorem dX5_arrangeByColumns_6 : decode cX5_arrangeByColumns 6 = .ok (.getfield 15, 3) := by decide +kernel
theorem dX5_arrangeByColumns_9 : decode cX5_arrangeByColumns 9 = .ok (.getfield 50, 3) := by decide +kernel
theorem dX5_arrangeByColumns_12 : decode cX5_arrangeByColumns 12 = .ok (.if_icmp .ge 46, 3) := by decide +kernel
theorem dX5_arrangeByColumns_15 : decode cX5_arrangeByColumns 15 = .ok (.iconst 0, 1) := by decide +kernel
theorem dX5_arrangeByColumns_16 : decode cX5_arrangeByColumns 16 = .ok (.istore_n 3, 1) := by decide +kernel
theorem dX5_arrangeByColumns_17 : decode cX5_arrangeByColumns 17 = .ok (.iload_n 3, 1) := by decide +kernel
theorem dX5_arrangeByColumns_18 : decode cX5_arrangeByColumns 18 = .ok (.aload_n 0, 1) := by decide +kernel
theorem dX5_arrangeByColumns_19 : decode cX5_arrangeByColumns 19 = .ok (.getfield 15, 3) := by decide +kernel
theorem dX5_arrangeByColumns_22 : decode cX5_arrangeByColumns 22 = .ok (.getfield 53, 3) := by decide +kernel
theorem dX5_arrangeByColumns_25 : decode cX5_arrangeByColumns 25 = .ok (.if_icmp .ge 27, 3) := by decide +kernel
theorem dX5_arrangeByColumns_28 : decode cX5_arrangeByColumns 28 = .ok (.aload_n 0, 1) := by decide +kernel
theorem dX5_arrangeByColumns_29 : decode cX5_arrangeByColumns 29 = .ok (.getfield 9, 3) := by decide +kernel
theorem dX5_arrangeByColumns_32 : decode cX5_arrangeByColumns 32 = .ok (.iload_n 1, 1) := by decide +kernel
theorem dX5_arrangeByColumns_33 : decode cX5_arrangeByColumns 33 = .ok (.aload_n 0, 1) := by decide +kernel
theorem dX5_arrangeByColumns_34 : decode cX5_arrangeByColumns 34 = .ok (.getfield 15, 3) := by decide +kernel
theorem dX5_arrangeByColumns_37 : decode cX5_arrangeByColumns 37 = .ok (.iload_n 3, 1) := by decide +kernel
theorem dX5_arrangeByColumns_38 : decode cX5_arrangeByColumns 38 = .ok (.iload_n 2, 1) := by decide +kernel
theorem dX5_arrangeByColumns_39 : decode cX5_arrangeByColumns 39 = .ok (.invokevirtual 56, 3) := by decide +kernel
theorem dX5_arrangeByColumns_42 : decode cX5_arrangeByColumns 42 = .ok (.iastore, 1) := by decide +kernel
theorem dX5_arrangeByColumns_43 : decode cX5_arrangeByColumns 43 = .ok (.iinc 1 1, 3) := by decide +kernel
theorem dX5_arrangeByColumns_46 : decode cX5_arrangeByColumns 46 = .ok (.iinc 3 1, 3) := by decide +kernel
theorem dX5_arrangeByColumns_49 : decode cX5_arrangeByColumns 49 = .ok (.goto (-32), 3) := by decide +kernel
theorem dX5_arrangeByColumns_52 : decode cX5_arrangeByColumns 52 = .ok (.iinc 2 1, 3) := by decide +kernel
theorem dX5_arrangeByColumns_55 : decode cX5_arrangeByColumns 55 = .ok (.goto (-51), 3) := by decide +kernel
theorem dX5_arrangeByColumns_58 : decode cX5_arrangeByColumns 58 = .ok (.return_, 1) := by decide +kernel
theorem dX6_init_0 : decode cX6_init 0 = .ok (.aload_n 0, 1) := by decide +kernel
theorem dX6_init_1 : decode cX6_init 1 = .ok (.invokespecial 1, 3) := by decide +kernel
theorem dX6_init_4 : decode cX6_init 4 = .ok (.return_, 1) := by decide +kernel
theorem dX6_faultIn_0 : decode cX6_faultIn 0 = .ok (.aload_n 0, 1) := by decide +kernel
theorem dX6_faultIn_1 : decode cX6_faultIn 1 = .ok (.invokevirtual 7, 3) := by decide +kernel
theorem dX6_faultIn_4 : decode cX6_faultIn 4 = .ok (.iconst 0, 1) := by decide +kernel
theorem dX6_faultIn_5 : decode cX6_faultIn 5 = .ok (.istore_n 2, 1) := by decide +kernel
theorem dX6_faultIn_6 : decode cX6_faultIn 6 = .ok (.iload_n 2, 1) := by decide +kernel
theorem dX6_faultIn_7 : decode cX6_faultIn 7 = .ok (.aload_n 1, 1) := by decide +kernel
theorem dX6_faultIn_8 : decode cX6_faultIn 8 = .ok (.getfield 12, 3) := by decide +kernel
theorem dX6_faultIn_11 : decode cX6_faultIn 11 = .ok (.if_icmp .ge 24, 3) := by decide +kernel
theorem dX6_faultIn_14 : decode cX6_faultIn 14 = .ok (.aload_n 0, 1) := by decide +kernel
theorem dX6_faultIn_15 : decode cX6_faultIn 15 = .ok (.aload_n 1, 1) := by decide +kernel
theorem dX6_faultIn_16 : decode cX6_faultIn 16 = .ok (.getfield 18, 3) := by decide +kernel
theorem dX6_faultIn_19 : decode cX6_faultIn 19 = .ok (.iload_n 2, 1) := by decide +kernel
theorem dX6_faultIn_20 : decode cX6_faultIn 20 = .ok (.iaload, 1) := by decide +kernel
theorem dX6_faultIn_21 : decode cX6_faultIn 21 = .ok (.invokevirtual 22, 3) := by decide +kernel
theorem dX6_faultIn_24 : decode cX6_faultIn 24 = .ok (.ifCond .ne 5, 3) := by decide +kernel
theorem dX6_faultIn_27 : decode cX6_faultIn 27 = .ok (.iload_n 2, 1) := by decide +kernel
theorem dX6_faultIn_28 : decode cX6_faultIn 28 = .ok (.ireturn, 1) := by decide +kernel
theorem dX6_faultIn_29 : decode cX6_faultIn 29 = .ok (.iinc 2 1, 3) := by decide +kernel
theorem dX6_faultIn_32 : decode cX6_faultIn 32 = .ok (.goto (-26), 3) := by decide +kernel
theorem dX6_faultIn_35 : decode cX6_faultIn 35 = .ok (.aload_n 1, 1) := by decide +kernel
theorem dX6_faultIn_36 : decode cX6_faultIn 36 = .ok (.getfield 12, 3) := by decide +kernel
theorem dX6_faultIn_39 : decode cX6_faultIn 39 = .ok (.ireturn, 1) := by decide +kernel
theorem dX6_reads_0 : decode cX6_reads 0 = .ok (.aload_n 0, 1) := by decide +kernel
theorem dX6_reads_1 : decode cX6_reads 1 = .ok (.aload_n 1, 1) := by decide +kernel
theorem dX6_reads_2 : decode cX6_reads 2 = .ok (.invokevirtual 26, 3) := by decide +kernel
theorem dX6_reads_5 : decode cX6_reads 5 = .ok (.aload_n 1, 1) := by decide +kernel
theorem dX6_reads_6 : decode cX6_reads 6 = .ok (.getfield 12, 3) := by decide +kernel
theorem dX6_reads_9 : decode cX6_reads 9 = .ok (.if_icmp .ne 14, 3) := by decide +kernel
theorem dX6_reads_12 : decode cX6_reads 12 = .ok (.aload_n 0, 1) := by decide +kernel
theorem dX6_reads_13 : decode cX6_reads 13 = .ok (.invokevirtual 30, 3) := by decide +kernel
theorem dX6_reads_16 : decode cX6_reads 16 = .ok (.ifCond .eq 7, 3) := by decide +kernel
theorem dX6_reads_19 : decode cX6_reads 19 = .ok (.iconst 1, 1) := by decide +kernel
theorem dX6_reads_20 : decode cX6_reads 20 = .ok (.goto 4, 3) := by decide +kernel
theorem dX6_reads_23 : decode cX6_reads 23 = .ok (.iconst 0, 1) := by decide +kernel
theorem dX6_reads_24 : decode cX6_reads 24 = .ok (.ireturn, 1) := by decide +kernel
