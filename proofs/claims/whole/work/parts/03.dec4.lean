theorem dX12_init_0 : decode cX12_init 0 = .ok (.aload_n 0, 1) := by decide +kernel
theorem dX12_init_1 : decode cX12_init 1 = .ok (.invokespecial 1, 3) := by decide +kernel
theorem dX12_init_4 : decode cX12_init 4 = .ok (.aload_n 0, 1) := by decide +kernel
theorem dX12_init_5 : decode cX12_init 5 = .ok (.bipush 30, 2) := by decide +kernel
theorem dX12_init_7 : decode cX12_init 7 = .ok (.newarray .int, 2) := by decide +kernel
theorem dX12_init_9 : decode cX12_init 9 = .ok (.putfield 7, 3) := by decide +kernel
theorem dX12_init_12 : decode cX12_init 12 = .ok (.aload_n 0, 1) := by decide +kernel
theorem dX12_init_13 : decode cX12_init 13 = .ok (.bipush 30, 2) := by decide +kernel
theorem dX12_init_15 : decode cX12_init 15 = .ok (.newarray .int, 2) := by decide +kernel
theorem dX12_init_17 : decode cX12_init 17 = .ok (.putfield 13, 3) := by decide +kernel
theorem dX12_init_20 : decode cX12_init 20 = .ok (.aload_n 0, 1) := by decide +kernel
theorem dX12_init_21 : decode cX12_init 21 = .ok (.bipush 30, 2) := by decide +kernel
theorem dX12_init_23 : decode cX12_init 23 = .ok (.newarray .int, 2) := by decide +kernel
theorem dX12_init_25 : decode cX12_init 25 = .ok (.putfield 16, 3) := by decide +kernel
theorem dX12_init_28 : decode cX12_init 28 = .ok (.aload_n 0, 1) := by decide +kernel
theorem dX12_init_29 : decode cX12_init 29 = .ok (.bipush 30, 2) := by decide +kernel
theorem dX12_init_31 : decode cX12_init 31 = .ok (.newarray .int, 2) := by decide +kernel
theorem dX12_init_33 : decode cX12_init 33 = .ok (.putfield 19, 3) := by decide +kernel
theorem dX12_init_36 : decode cX12_init 36 = .ok (.aload_n 0, 1) := by decide +kernel
theorem dX12_init_37 : decode cX12_init 37 = .ok (.bipush 30, 2) := by decide +kernel
theorem dX12_init_39 : decode cX12_init 39 = .ok (.newarray .int, 2) := by decide +kernel
theorem dX12_init_41 : decode cX12_init 41 = .ok (.putfield 22, 3) := by decide +kernel
theorem dX12_init_44 : decode cX12_init 44 = .ok (.aload_n 0, 1) := by decide +kernel
theorem dX12_init_45 : decode cX12_init 45 = .ok (.lconst 1, 1) := by decide +kernel
theorem dX12_init_46 : decode cX12_init 46 = .ok (.putfield 25, 3) := by decide +kernel
theorem dX12_init_49 : decode cX12_init 49 = .ok (.aload_n 0, 1) := by decide +kernel
theorem dX12_init_50 : decode cX12_init 50 = .ok (.bipush 6, 2) := by decide +kernel
theorem dX12_init_52 : decode cX12_init 52 = .ok (.newarray .int, 2) := by decide +kernel
theorem dX12_init_54 : decode cX12_init 54 = .ok (.putfield 29, 3) := by decide +kernel
theorem dX12_init_57 : decode cX12_init 57 = .ok (.aload_n 0, 1) := by decide +kernel
theorem dX12_init_58 : decode cX12_init 58 = .ok (.bipush 6, 2) := by decide +kernel
theorem dX12_init_60 : decode cX12_init 60 = .ok (.newarray .int, 2) := by decide +kernel
theorem dX12_init_62 : decode cX12_init 62 = .ok (.putfield 32, 3) := by decide +kernel
theorem dX12_init_65 : decode cX12_init 65 = .ok (.aload_n 0, 1) := by decide +kernel
theorem dX12_init_66 : decode cX12_init 66 = .ok (.bipush 10, 2) := by decide +kernel
theorem dX12_init_68 : decode cX12_init 68 = .ok (.newarray .int, 2) := by decide +kernel
theorem dX12_init_70 : decode cX12_init 70 = .ok (.putfield 35, 3) := by decide +kernel
theorem dX12_init_73 : decode cX12_init 73 = .ok (.aload_n 0, 1) := by decide +kernel
theorem dX12_init_74 : decode cX12_init 74 = .ok (.bipush 64, 2) := by decide +kernel
theorem dX12_init_76 : decode cX12_init 76 = .ok (.newarray .byte, 2) := by decide +kernel
theorem dX12_init_78 : decode cX12_init 78 = .ok (.putfield 38, 3) := by decide +kernel
theorem dX12_init_81 : decode cX12_init 81 = .ok (.aload_n 0, 1) := by decide +kernel
theorem dX12_init_82 : decode cX12_init 82 = .ok (.sipush 150, 3) := by decide +kernel
theorem dX12_init_85 : decode cX12_init 85 = .ok (.newarray .int, 2) := by decide +kernel
theorem dX12_init_87 : decode cX12_init 87 = .ok (.putfield 42, 3) := by decide +kernel
theorem dX12_init_90 : decode cX12_init 90 = .ok (.aload_n 0, 1) := by decide +kernel
theorem dX12_init_91 : decode cX12_init 91 = .ok (.sipush 150, 3) := by decide +kernel
theorem dX12_init_94 : decode cX12_init 94 = .ok (.newarray .int, 2) := by decide +kernel
theorem dX12_init_96 : decode cX12_init 96 = .ok (.putfield 45, 3) := by decide +kernel
theorem dX12_init_99 : decode cX12_init 99 = .ok (.aload_n 0, 1) := by decide +kernel
theorem dX12_init_100 : decode cX12_init 100 = .ok (.bipush 30, 2) := by decide +kernel
theorem dX12_init_102 : decode cX12_init 102 = .ok (.newarray .int, 2) := by decide +kernel
theorem dX12_init_104 : decode cX12_init 104 = .ok (.putfield 48, 3) := by decide +kernel
theorem dX12_init_107 : decode cX12_init 107 = .ok (.aload_n 0, 1) := by decide +kernel
theorem dX12_init_108 : decode cX12_init 108 = .ok (.bipush 30, 2) := by decide +kernel
theorem dX12_init_110 : decode cX12_init 110 = .ok (.newarray .int, 2) := by decide +kernel
theorem dX12_init_112 : decode cX12_init 112 = .ok (.putfield 51, 3) := by decide +kernel
theorem dX12_init_115 : decode cX12_init 115 = .ok (.aload_n 0, 1) := by decide +kernel
theorem dX12_init_116 : decode cX12_init 116 = .ok (.bipush 6, 2) := by decide +kernel
theorem dX12_init_118 : decode cX12_init 118 = .ok (.newarray .int, 2) := by decide +kernel
theorem dX12_init_120 : decode cX12_init 120 = .ok (.putfield 54, 3) := by decide +kernel
theorem dX12_init_123 : decode cX12_init 123 = .ok (.aload_n 0, 1) := by decide +kernel
theorem dX12_init_124 : decode cX12_init 124 = .ok (.bipush 6, 2) := by decide +kernel
theorem dX12_init_126 : decode cX12_init 126 = .ok (.newarray .int, 2) := by decide +kernel
theorem dX12_init_128 : decode cX12_init 128 = .ok (.putfield 57, 3) := by decide +kernel
theorem dX12_init_131 : decode cX12_init 131 = .ok (.aload_n 0, 1) := by decide +kernel
theorem dX12_init_132 : decode cX12_init 132 = .ok (.bipush 30, 2) := by decide +kernel
theorem dX12_init_134 : decode cX12_init 134 = .ok (.newarray .int, 2) := by decide +kernel
theorem dX12_init_136 : decode cX12_init 136 = .ok (.putfield 60, 3) := by decide +kernel
theorem dX12_init_139 : decode cX12_init 139 = .ok (.aload_n 0, 1) := by decide +kernel
theorem dX12_init_140 : decode cX12_init 140 = .ok (.bipush 30, 2) := by decide +kernel
theorem dX12_init_142 : decode cX12_init 142 = .ok (.newarray .int, 2) := by decide +kernel
theorem dX12_init_144 : decode cX12_init 144 = .ok (.putfield 63, 3) := by decide +kernel
theorem dX12_init_147 : decode cX12_init 147 = .ok (.aload_n 0, 1) := by decide +kernel
theorem dX12_init_148 : decode cX12_init 148 = .ok (.bipush 30, 2) := by decide +kernel
theorem dX12_init_150 : decode cX12_init 150 = .ok (.newarray .int, 2) := by decide +kernel
theorem dX12_init_152 : decode cX12_init 152 = .ok (.putfield 66, 3) := by decide +kernel
theorem dX12_init_155 : decode cX12_init 155 = .ok (.aload_n 0, 1) := by decide +kernel
theorem dX12_init_156 : decode cX12_init 156 = .ok (.bipush 8, 2) := by decide +kernel
theorem dX12_init_158 : decode cX12_init 158 = .ok (.newarray .int, 2) := by decide +kernel
theorem dX12_init_160 : decode cX12_init 160 = .ok (.putfield 69, 3) := by decide +kernel
theorem dX12_init_163 : decode cX12_init 163 = .ok (.return_, 1) := by decide +kernel
theorem dX12_within_0 : decode cX12_within 0 = .ok (.iload_n 0, 1) := by decide +kernel
theorem dX12_within_1 : decode cX12_within 1 = .ok (.iload_n 1, 1) := by decide +kernel
theorem dX12_within_2 : decode cX12_within 2 = .ok (.if_icmp .lt 12, 3) := by decide +kernel
theorem dX12_within_5 : decode cX12_within 5 = .ok (.iload_n 0, 1) := by decide +kernel
theorem dX12_within_6 : decode cX12_within 6 = .ok (.iload_n 2, 1) := by decide +kernel
theorem dX12_within_7 : decode cX12_within 7 = .ok (.if_icmp .gt 7, 3) := by decide +kernel
theorem dX12_within_10 : decode cX12_within 10 = .ok (.iconst 1, 1) := by decide +kernel
theorem dX12_within_11 : decode cX12_within 11 = .ok (.goto 4, 3) := by decide +kernel
theorem dX12_within_14 : decode cX12_within 14 = .ok (.iconst 0, 1) := by decide +kernel
theorem dX12_within_15 : decode cX12_within 15 = .ok (.ireturn, 1) := by decide +kernel
theorem dX12_atLeast_0 : decode cX12_atLeast 0 = .ok (.iload_n 0, 1) := by decide +kernel
theorem dX12_atLeast_1 : decode cX12_atLeast 1 = .ok (.ifCond .ge 7, 3) := by decide +kernel
theorem dX12_atLeast_4 : decode cX12_atLeast 4 = .ok (.iconst 0, 1) := by decide +kernel
theorem dX12_atLeast_5 : decode cX12_atLeast 5 = .ok (.goto 4, 3) := by decide +kernel
theorem dX12_atLeast_8 : decode cX12_atLeast 8 = .ok (.iload_n 0, 1) := by decide +kernel
theorem dX12_atLeast_9 : decode cX12_atLeast 9 = .ok (.ireturn, 1) := by decide +kernel
theorem dX12_letters_0 : decode cX12_letters 0 = .ok (.iconst 0, 1) := by decide +kernel
theorem dX12_letters_1 : decode cX12_letters 1 = .ok (.istore_n 3, 1) := by decide +kernel
theorem dX12_letters_2 : decode cX12_letters 2 = .ok (.iconst 0, 1) := by decide +kernel
theorem dX12_letters_3 : decode cX12_letters 3 = .ok (.istore 4, 2) := by decide +kernel
theorem dX12_letters_5 : decode cX12_letters 5 = .ok (.iconst 0, 1) := by decide +kernel
theorem dX12_letters_6 : decode cX12_letters 6 = .ok (.istore 5, 2) := by decide +kernel
theorem dX12_letters_8 : decode cX12_letters 8 = .ok (.iload 5, 2) := by decide +kernel
theorem dX12_letters_10 : decode cX12_letters 10 = .ok (.bipush 8, 2) := by decide +kernel
theorem dX12_letters_12 : decode cX12_letters 12 = .ok (.if_icmp .ge 73, 3) := by decide +kernel
theorem dX12_letters_15 : decode cX12_letters 15 = .ok (.lload_n 1, 1) := by decide +kernel
theorem dX12_letters_16 : decode cX12_letters 16 = .ok (.bipush 8, 2) := by decide +kernel
theorem dX12_letters_18 : decode cX12_letters 18 = .ok (.iload 5, 2) := by decide +kernel
theorem dX12_letters_20 : decode cX12_letters 20 = .ok (.imul, 1) := by decide +kernel
theorem dX12_letters_21 : decode cX12_letters 21 = .ok (.lshr, 1) := by decide +kernel
theorem dX12_letters_22 : decode cX12_letters 22 = .ok (.ldc2_w 72, 3) := by decide +kernel
theorem dX12_letters_25 : decode cX12_letters 25 = .ok (.land, 1) := by decide +kernel
theorem dX12_letters_26 : decode cX12_letters 26 = .ok (.l2i, 1) := by decide +kernel
theorem dX12_letters_27 : decode cX12_letters 27 = .ok (.istore 6, 2) := by decide +kernel
theorem dX12_letters_29 : decode cX12_letters 29 = .ok (.iload 6, 2) := by decide +kernel
theorem dX12_letters_31 : decode cX12_letters 31 = .ok (.bipush 126, 2) := by decide +kernel
theorem dX12_letters_33 : decode cX12_letters 33 = .ok (.if_icmp .gt 13, 3) := by decide +kernel
theorem dX12_letters_36 : decode cX12_letters 36 = .ok (.iload 4, 2) := by decide +kernel
theorem dX12_letters_38 : decode cX12_letters 38 = .ok (.ifCond .eq 11, 3) := by decide +kernel
theorem dX12_letters_41 : decode cX12_letters 41 = .ok (.iload 6, 2) := by decide +kernel
theorem dX12_letters_43 : decode cX12_letters 43 = .ok (.ifCond .eq 6, 3) := by decide +kernel
theorem dX12_letters_46 : decode cX12_letters 46 = .ok (.bipush (-102), 2) := by decide +kernel
theorem dX12_letters_48 : decode cX12_letters 48 = .ok (.ireturn, 1) := by decide +kernel
theorem dX12_letters_49 : decode cX12_letters 49 = .ok (.iload 4, 2) := by decide +kernel
theorem dX12_letters_51 : decode cX12_letters 51 = .ok (.ifCond .ne 8, 3) := by decide +kernel
theorem dX12_letters_54 : decode cX12_letters 54 = .ok (.iload 6, 2) := by decide +kernel
theorem dX12_letters_56 : decode cX12_letters 56 = .ok (.ifCond .ne 7, 3) := by decide +kernel
theorem dX12_letters_59 : decode cX12_letters 59 = .ok (.iconst 1, 1) := by decide +kernel
theorem dX12_letters_60 : decode cX12_letters 60 = .ok (.goto 4, 3) := by decide +kernel
theorem dX12_letters_63 : decode cX12_letters 63 = .ok (.iconst 0, 1) := by decide +kernel
theorem dX12_letters_64 : decode cX12_letters 64 = .ok (.istore 4, 2) := by decide +kernel
theorem dX12_letters_66 : decode cX12_letters 66 = .ok (.iload_n 3, 1) := by decide +kernel
theorem dX12_letters_67 : decode cX12_letters 67 = .ok (.iload 6, 2) := by decide +kernel
theorem dX12_letters_69 : decode cX12_letters 69 = .ok (.ifCond .ne 7, 3) := by decide +kernel
theorem dX12_letters_72 : decode cX12_letters 72 = .ok (.iconst 0, 1) := by decide +kernel
theorem dX12_letters_73 : decode cX12_letters 73 = .ok (.goto 4, 3) := by decide +kernel
theorem dX12_letters_76 : decode cX12_letters 76 = .ok (.iconst 1, 1) := by decide +kernel
theorem dX12_letters_77 : decode cX12_letters 77 = .ok (.iadd, 1) := by decide +kernel
theorem dX12_letters_78 : decode cX12_letters 78 = .ok (.istore_n 3, 1) := by decide +kernel
theorem dX12_letters_79 : decode cX12_letters 79 = .ok (.iinc 5 1, 3) := by decide +kernel
theorem dX12_letters_82 : decode cX12_letters 82 = .ok (.goto (-74), 3) := by decide +kernel
theorem dX12_letters_85 : decode cX12_letters 85 = .ok (.aload_n 0, 1) := by decide +kernel
theorem dX12_letters_86 : decode cX12_letters 86 = .ok (.getfield 74, 3) := by decide +kernel
theorem dX12_letters_89 : decode cX12_letters 89 = .ok (.iload_n 3, 1) := by decide +kernel
theorem dX12_letters_90 : decode cX12_letters 90 = .ok (.iadd, 1) := by decide +kernel
theorem dX12_letters_91 : decode cX12_letters 91 = .ok (.bipush 64, 2) := by decide +kernel
theorem dX12_letters_93 : decode cX12_letters 93 = .ok (.if_icmp .le 6, 3) := by decide +kernel
theorem dX12_letters_96 : decode cX12_letters 96 = .ok (.bipush (-104), 2) := by decide +kernel
theorem dX12_letters_98 : decode cX12_letters 98 = .ok (.ireturn, 1) := by decide +kernel
theorem dX12_letters_99 : decode cX12_letters 99 = .ok (.iconst 0, 1) := by decide +kernel
theorem dX12_letters_100 : decode cX12_letters 100 = .ok (.istore 5, 2) := by decide +kernel
theorem dX12_letters_102 : decode cX12_letters 102 = .ok (.iload 5, 2) := by decide +kernel
theorem dX12_letters_104 : decode cX12_letters 104 = .ok (.iload_n 3, 1) := by decide +kernel
theorem dX12_letters_105 : decode cX12_letters 105 = .ok (.if_icmp .ge 30, 3) := by decide +kernel
theorem dX12_letters_108 : decode cX12_letters 108 = .ok (.aload_n 0, 1) := by decide +kernel
theorem dX12_letters_109 : decode cX12_letters 109 = .ok (.getfield 38, 3) := by decide +kernel
theorem dX12_letters_112 : decode cX12_letters 112 = .ok (.aload_n 0, 1) := by decide +kernel
theorem dX12_letters_113 : decode cX12_letters 113 = .ok (.getfield 74, 3) := by decide +kernel
theorem dX12_letters_116 : decode cX12_letters 116 = .ok (.iload 5, 2) := by decide +kernel
theorem dX12_letters_118 : decode cX12_letters 118 = .ok (.iadd, 1) := by decide +kernel
theorem dX12_letters_119 : decode cX12_letters 119 = .ok (.lload_n 1, 1) := by decide +kernel
theorem dX12_letters_120 : decode cX12_letters 120 = .ok (.bipush 8, 2) := by decide +kernel
theorem dX12_letters_122 : decode cX12_letters 122 = .ok (.iload 5, 2) := by decide +kernel
theorem dX12_letters_124 : decode cX12_letters 124 = .ok (.imul, 1) := by decide +kernel
theorem dX12_letters_125 : decode cX12_letters 125 = .ok (.lshr, 1) := by decide +kernel
theorem dX12_letters_126 : decode cX12_letters 126 = .ok (.l2i, 1) := by decide +kernel
theorem dX12_letters_127 : decode cX12_letters 127 = .ok (.i2b, 1) := by decide +kernel
theorem dX12_letters_128 : decode cX12_letters 128 = .ok (.bastore, 1) := by decide +kernel
theorem dX12_letters_129 : decode cX12_letters 129 = .ok (.iinc 5 1, 3) := by decide +kernel
theorem dX12_letters_132 : decode cX12_letters 132 = .ok (.goto (-30), 3) := by decide +kernel
theorem dX12_letters_135 : decode cX12_letters 135 = .ok (.aload_n 0, 1) := by decide +kernel
theorem dX12_letters_136 : decode cX12_letters 136 = .ok (.dup, 1) := by decide +kernel
theorem dX12_letters_137 : decode cX12_letters 137 = .ok (.getfield 74, 3) := by decide +kernel
theorem dX12_letters_140 : decode cX12_letters 140 = .ok (.iload_n 3, 1) := by decide +kernel
theorem dX12_letters_141 : decode cX12_letters 141 = .ok (.iadd, 1) := by decide +kernel
theorem dX12_letters_142 : decode cX12_letters 142 = .ok (.putfield 74, 3) := by decide +kernel
theorem dX12_letters_145 : decode cX12_letters 145 = .ok (.aload_n 0, 1) := by decide +kernel
theorem dX12_letters_146 : decode cX12_letters 146 = .ok (.getfield 74, 3) := by decide +kernel
theorem dX12_letters_149 : decode cX12_letters 149 = .ok (.ireturn, 1) := by decide +kernel
theorem dX12_blank_0 : decode cX12_blank 0 = .ok (.aload_n 0, 1) := by decide +kernel
theorem dX12_blank_1 : decode cX12_blank 1 = .ok (.getfield 74, 3) := by decide +kernel
theorem dX12_blank_4 : decode cX12_blank 4 = .ok (.istore_n 1, 1) := by decide +kernel
theorem dX12_blank_5 : decode cX12_blank 5 = .ok (.aload_n 0, 1) := by decide +kernel
theorem dX12_blank_6 : decode cX12_blank 6 = .ok (.iconst 0, 1) := by decide +kernel
theorem dX12_blank_7 : decode cX12_blank 7 = .ok (.putfield 74, 3) := by decide +kernel
theorem dX12_blank_10 : decode cX12_blank 10 = .ok (.iload_n 1, 1) := by decide +kernel
theorem dX12_blank_11 : decode cX12_blank 11 = .ok (.ireturn, 1) := by decide +kernel
theorem dX12_isDigit_0 : decode cX12_isDigit 0 = .ok (.iload_n 0, 1) := by decide +kernel
theorem dX12_isDigit_1 : decode cX12_isDigit 1 = .ok (.bipush 48, 2) := by decide +kernel
theorem dX12_isDigit_3 : decode cX12_isDigit 3 = .ok (.bipush 57, 2) := by decide +kernel
theorem dX12_isDigit_5 : decode cX12_isDigit 5 = .ok (.invokestatic 78, 3) := by decide +kernel
theorem dX12_isDigit_8 : decode cX12_isDigit 8 = .ok (.ireturn, 1) := by decide +kernel
theorem dX12_kindBy_0 : decode cX12_kindBy 0 = .ok (.iload_n 0, 1) := by decide +kernel
theorem dX12_kindBy_1 : decode cX12_kindBy 1 = .ok (.bipush 115, 2) := by decide +kernel
theorem dX12_kindBy_3 : decode cX12_kindBy 3 = .ok (.if_icmp .ne 7, 3) := by decide +kernel
theorem dX12_kindBy_6 : decode cX12_kindBy 6 = .ok (.iconst 0, 1) := by decide +kernel
theorem dX12_kindBy_7 : decode cX12_kindBy 7 = .ok (.goto 44, 3) := by decide +kernel
theorem dX12_kindBy_10 : decode cX12_kindBy 10 = .ok (.iload_n 0, 1) := by decide +kernel
theorem dX12_kindBy_11 : decode cX12_kindBy 11 = .ok (.bipush 111, 2) := by decide +kernel
theorem dX12_kindBy_13 : decode cX12_kindBy 13 = .ok (.if_icmp .ne 7, 3) := by decide +kernel
theorem dX12_kindBy_16 : decode cX12_kindBy 16 = .ok (.iconst 1, 1) := by decide +kernel
theorem dX12_kindBy_17 : decode cX12_kindBy 17 = .ok (.goto 34, 3) := by decide +kernel
theorem dX12_kindBy_20 : decode cX12_kindBy 20 = .ok (.iload_n 0, 1) := by decide +kernel
theorem dX12_kindBy_21 : decode cX12_kindBy 21 = .ok (.bipush 108, 2) := by decide +kernel
theorem dX12_kindBy_23 : decode cX12_kindBy 23 = .ok (.if_icmp .ne 7, 3) := by decide +kernel
theorem dX12_kindBy_26 : decode cX12_kindBy 26 = .ok (.iconst 2, 1) := by decide +kernel
theorem dX12_kindBy_27 : decode cX12_kindBy 27 = .ok (.goto 24, 3) := by decide +kernel
theorem dX12_kindBy_30 : decode cX12_kindBy 30 = .ok (.iload_n 0, 1) := by decide +kernel
theorem dX12_kindBy_31 : decode cX12_kindBy 31 = .ok (.bipush 116, 2) := by decide +kernel
theorem dX12_kindBy_33 : decode cX12_kindBy 33 = .ok (.if_icmp .ne 7, 3) := by decide +kernel
theorem dX12_kindBy_36 : decode cX12_kindBy 36 = .ok (.iconst 3, 1) := by decide +kernel
theorem dX12_kindBy_37 : decode cX12_kindBy 37 = .ok (.goto 14, 3) := by decide +kernel
theorem dX12_kindBy_40 : decode cX12_kindBy 40 = .ok (.iload_n 0, 1) := by decide +kernel
theorem dX12_kindBy_41 : decode cX12_kindBy 41 = .ok (.bipush 107, 2) := by decide +kernel
theorem dX12_kindBy_43 : decode cX12_kindBy 43 = .ok (.if_icmp .ne 7, 3) := by decide +kernel
theorem dX12_kindBy_46 : decode cX12_kindBy 46 = .ok (.iconst 4, 1) := by decide +kernel
theorem dX12_kindBy_47 : decode cX12_kindBy 47 = .ok (.goto 4, 3) := by decide +kernel
theorem dX12_kindBy_50 : decode cX12_kindBy 50 = .ok (.iconst (-1), 1) := by decide +kernel
theorem dX12_kindBy_51 : decode cX12_kindBy 51 = .ok (.ireturn, 1) := by decide +kernel
theorem dX12_takeStreet_0 : decode cX12_takeStreet 0 = .ok (.aload_n 0, 1) := by decide +kernel
theorem dX12_takeStreet_1 : decode cX12_takeStreet 1 = .ok (.getfield 82, 3) := by decide +kernel
theorem dX12_takeStreet_4 : decode cX12_takeStreet 4 = .ok (.aload_n 0, 1) := by decide +kernel
theorem dX12_takeStreet_5 : decode cX12_takeStreet 5 = .ok (.getfield 85, 3) := by decide +kernel
theorem dX12_takeStreet_8 : decode cX12_takeStreet 8 = .ok (.imul, 1) := by decide +kernel
theorem dX12_takeStreet_9 : decode cX12_takeStreet 9 = .ok (.aload_n 0, 1) := by decide +kernel
theorem dX12_takeStreet_10 : decode cX12_takeStreet 10 = .ok (.getfield 88, 3) := by decide +kernel
theorem dX12_takeStreet_13 : decode cX12_takeStreet 13 = .ok (.iadd, 1) := by decide +kernel
theorem dX12_takeStreet_14 : decode cX12_takeStreet 14 = .ok (.istore_n 2, 1) := by decide +kernel
theorem dX12_takeStreet_15 : decode cX12_takeStreet 15 = .ok (.aload_n 0, 1) := by decide +kernel
theorem dX12_takeStreet_16 : decode cX12_takeStreet 16 = .ok (.getfield 91, 3) := by decide +kernel
theorem dX12_takeStreet_19 : decode cX12_takeStreet 19 = .ok (.ifCond .eq 29, 3) := by decide +kernel
theorem dX12_takeStreet_22 : decode cX12_takeStreet 22 = .ok (.aload_n 0, 1) := by decide +kernel
theorem dX12_takeStreet_23 : decode cX12_takeStreet 23 = .ok (.getfield 51, 3) := by decide +kernel
theorem dX12_takeStreet_26 : decode cX12_takeStreet 26 = .ok (.iload_n 2, 1) := by decide +kernel
theorem dX12_takeStreet_27 : decode cX12_takeStreet 27 = .ok (.iconst 1, 1) := by decide +kernel
theorem dX12_takeStreet_28 : decode cX12_takeStreet 28 = .ok (.isub, 1) := by decide +kernel
theorem dX12_takeStreet_29 : decode cX12_takeStreet 29 = .ok (.iload_n 1, 1) := by decide +kernel
theorem dX12_takeStreet_30 : decode cX12_takeStreet 30 = .ok (.bipush 48, 2) := by decide +kernel
theorem dX12_takeStreet_32 : decode cX12_takeStreet 32 = .ok (.isub, 1) := by decide +kernel
theorem dX12_takeStreet_33 : decode cX12_takeStreet 33 = .ok (.iastore, 1) := by decide +kernel
theorem dX12_takeStreet_34 : decode cX12_takeStreet 34 = .ok (.aload_n 0, 1) := by decide +kernel
theorem dX12_takeStreet_35 : decode cX12_takeStreet 35 = .ok (.iconst 0, 1) := by decide +kernel
theorem dX12_takeStreet_36 : decode cX12_takeStreet 36 = .ok (.putfield 91, 3) := by decide +kernel
theorem dX12_takeStreet_39 : decode cX12_takeStreet 39 = .ok (.iload_n 1, 1) := by decide +kernel
theorem dX12_takeStreet_40 : decode cX12_takeStreet 40 = .ok (.bipush 49, 2) := by decide +kernel
theorem dX12_takeStreet_42 : decode cX12_takeStreet 42 = .ok (.bipush 57, 2) := by decide +kernel
theorem dX12_takeStreet_44 : decode cX12_takeStreet 44 = .ok (.invokestatic 78, 3) := by decide +kernel
theorem dX12_takeStreet_47 : decode cX12_takeStreet 47 = .ok (.ireturn, 1) := by decide +kernel
theorem dX12_takeStreet_48 : decode cX12_takeStreet 48 = .ok (.iload_n 1, 1) := by decide +kernel
theorem dX12_takeStreet_49 : decode cX12_takeStreet 49 = .ok (.bipush 46, 2) := by decide +kernel
theorem dX12_takeStreet_51 : decode cX12_takeStreet 51 = .ok (.if_icmp .eq 11, 3) := by decide +kernel
theorem dX12_takeStreet_54 : decode cX12_takeStreet 54 = .ok (.iload_n 1, 1) := by decide +kernel
theorem dX12_takeStreet_55 : decode cX12_takeStreet 55 = .ok (.invokestatic 95, 3) := by decide +kernel
theorem dX12_takeStreet_58 : decode cX12_takeStreet 58 = .ok (.iconst (-1), 1) := by decide +kernel
theorem dX12_takeStreet_59 : decode cX12_takeStreet 59 = .ok (.if_icmp .eq 72, 3) := by decide +kernel
theorem dX12_takeStreet_62 : decode cX12_takeStreet 62 = .ok (.aload_n 0, 1) := by decide +kernel
theorem dX12_takeStreet_63 : decode cX12_takeStreet 63 = .ok (.getfield 88, 3) := by decide +kernel
theorem dX12_takeStreet_66 : decode cX12_takeStreet 66 = .ok (.aload_n 0, 1) := by decide +kernel
theorem dX12_takeStreet_67 : decode cX12_takeStreet 67 = .ok (.getfield 82, 3) := by decide +kernel
theorem dX12_takeStreet_70 : decode cX12_takeStreet 70 = .ok (.ifCond .ne 8, 3) := by decide +kernel
theorem dX12_takeStreet_73 : decode cX12_takeStreet 73 = .ok (.bipush 6, 2) := by decide +kernel
theorem dX12_takeStreet_75 : decode cX12_takeStreet 75 = .ok (.goto 7, 3) := by decide +kernel
theorem dX12_takeStreet_78 : decode cX12_takeStreet 78 = .ok (.aload_n 0, 1) := by decide +kernel
theorem dX12_takeStreet_79 : decode cX12_takeStreet 79 = .ok (.getfield 85, 3) := by decide +kernel
theorem dX12_takeStreet_82 : decode cX12_takeStreet 82 = .ok (.if_icmp .ne 5, 3) := by decide +kernel
theorem dX12_takeStreet_85 : decode cX12_takeStreet 85 = .ok (.iconst 0, 1) := by decide +kernel
theorem dX12_takeStreet_86 : decode cX12_takeStreet 86 = .ok (.ireturn, 1) := by decide +kernel
theorem dX12_takeStreet_87 : decode cX12_takeStreet 87 = .ok (.aload_n 0, 1) := by decide +kernel
theorem dX12_takeStreet_88 : decode cX12_takeStreet 88 = .ok (.getfield 48, 3) := by decide +kernel
theorem dX12_takeStreet_91 : decode cX12_takeStreet 91 = .ok (.iload_n 2, 1) := by decide +kernel
theorem dX12_takeStreet_92 : decode cX12_takeStreet 92 = .ok (.iload_n 1, 1) := by decide +kernel
theorem dX12_takeStreet_93 : decode cX12_takeStreet 93 = .ok (.invokestatic 95, 3) := by decide +kernel
theorem dX12_takeStreet_96 : decode cX12_takeStreet 96 = .ok (.iastore, 1) := by decide +kernel
theorem dX12_takeStreet_97 : decode cX12_takeStreet 97 = .ok (.aload_n 0, 1) := by decide +kernel
theorem dX12_takeStreet_98 : decode cX12_takeStreet 98 = .ok (.getfield 51, 3) := by decide +kernel
theorem dX12_takeStreet_101 : decode cX12_takeStreet 101 = .ok (.iload_n 2, 1) := by decide +kernel
theorem dX12_takeStreet_102 : decode cX12_takeStreet 102 = .ok (.iconst 0, 1) := by decide +kernel
theorem dX12_takeStreet_103 : decode cX12_takeStreet 103 = .ok (.iastore, 1) := by decide +kernel
theorem dX12_takeStreet_104 : decode cX12_takeStreet 104 = .ok (.aload_n 0, 1) := by decide +kernel
theorem dX12_takeStreet_105 : decode cX12_takeStreet 105 = .ok (.iload_n 1, 1) := by decide +kernel
theorem dX12_takeStreet_106 : decode cX12_takeStreet 106 = .ok (.bipush 46, 2) := by decide +kernel
theorem dX12_takeStreet_108 : decode cX12_takeStreet 108 = .ok (.if_icmp .eq 7, 3) := by decide +kernel
theorem dX12_takeStreet_111 : decode cX12_takeStreet 111 = .ok (.iconst 1, 1) := by decide +kernel
theorem dX12_takeStreet_112 : decode cX12_takeStreet 112 = .ok (.goto 4, 3) := by decide +kernel
theorem dX12_takeStreet_115 : decode cX12_takeStreet 115 = .ok (.iconst 0, 1) := by decide +kernel
theorem dX12_takeStreet_116 : decode cX12_takeStreet 116 = .ok (.putfield 91, 3) := by decide +kernel
theorem dX12_takeStreet_119 : decode cX12_takeStreet 119 = .ok (.aload_n 0, 1) := by decide +kernel
theorem dX12_takeStreet_120 : decode cX12_takeStreet 120 = .ok (.dup, 1) := by decide +kernel
theorem dX12_takeStreet_121 : decode cX12_takeStreet 121 = .ok (.getfield 88, 3) := by decide +kernel
theorem dX12_takeStreet_124 : decode cX12_takeStreet 124 = .ok (.iconst 1, 1) := by decide +kernel
theorem dX12_takeStreet_125 : decode cX12_takeStreet 125 = .ok (.iadd, 1) := by decide +kernel
theorem dX12_takeStreet_126 : decode cX12_takeStreet 126 = .ok (.putfield 88, 3) := by decide +kernel
theorem dX12_takeStreet_129 : decode cX12_takeStreet 129 = .ok (.iconst 1, 1) := by decide +kernel
theorem dX12_takeStreet_130 : decode cX12_takeStreet 130 = .ok (.ireturn, 1) := by decide +kernel
theorem dX12_takeStreet_131 : decode cX12_takeStreet 131 = .ok (.iload_n 1, 1) := by decide +kernel
theorem dX12_takeStreet_132 : decode cX12_takeStreet 132 = .ok (.bipush 47, 2) := by decide +kernel
theorem dX12_takeStreet_134 : decode cX12_takeStreet 134 = .ok (.if_icmp .ne 44, 3) := by decide +kernel
theorem dX12_takeStreet_137 : decode cX12_takeStreet 137 = .ok (.aload_n 0, 1) := by decide +kernel
theorem dX12_takeStreet_138 : decode cX12_takeStreet 138 = .ok (.getfield 82, 3) := by decide +kernel
theorem dX12_takeStreet_141 : decode cX12_takeStreet 141 = .ok (.iconst 4, 1) := by decide +kernel
theorem dX12_takeStreet_142 : decode cX12_takeStreet 142 = .ok (.if_icmp .ge 36, 3) := by decide +kernel
theorem dX12_takeStreet_145 : decode cX12_takeStreet 145 = .ok (.aload_n 0, 1) := by decide +kernel
theorem dX12_takeStreet_146 : decode cX12_takeStreet 146 = .ok (.getfield 82, 3) := by decide +kernel
theorem dX12_takeStreet_149 : decode cX12_takeStreet 149 = .ok (.ifCond .ne 14, 3) := by decide +kernel
theorem dX12_takeStreet_152 : decode cX12_takeStreet 152 = .ok (.aload_n 0, 1) := by decide +kernel
theorem dX12_takeStreet_153 : decode cX12_takeStreet 153 = .ok (.getfield 88, 3) := by decide +kernel
theorem dX12_takeStreet_156 : decode cX12_takeStreet 156 = .ok (.iconst 1, 1) := by decide +kernel
theorem dX12_takeStreet_157 : decode cX12_takeStreet 157 = .ok (.if_icmp .le 21, 3) := by decide +kernel
theorem dX12_takeStreet_160 : decode cX12_takeStreet 160 = .ok (.goto 14, 3) := by decide +kernel
theorem dX12_takeStreet_163 : decode cX12_takeStreet 163 = .ok (.aload_n 0, 1) := by decide +kernel
theorem dX12_takeStreet_164 : decode cX12_takeStreet 164 = .ok (.getfield 88, 3) := by decide +kernel
theorem dX12_takeStreet_167 : decode cX12_takeStreet 167 = .ok (.aload_n 0, 1) := by decide +kernel
theorem dX12_takeStreet_168 : decode cX12_takeStreet 168 = .ok (.getfield 85, 3) := by decide +kernel
theorem dX12_takeStreet_171 : decode cX12_takeStreet 171 = .ok (.if_icmp .ne 7, 3) := by decide +kernel
theorem dX12_takeStreet_174 : decode cX12_takeStreet 174 = .ok (.iconst 1, 1) := by decide +kernel
theorem dX12_takeStreet_175 : decode cX12_takeStreet 175 = .ok (.goto 4, 3) := by decide +kernel
theorem dX12_takeStreet_178 : decode cX12_takeStreet 178 = .ok (.iconst 0, 1) := by decide +kernel
theorem dX12_takeStreet_179 : decode cX12_takeStreet 179 = .ok (.istore_n 3, 1) := by decide +kernel
theorem dX12_takeStreet_180 : decode cX12_takeStreet 180 = .ok (.iload_n 3, 1) := by decide +kernel
theorem dX12_takeStreet_181 : decode cX12_takeStreet 181 = .ok (.ifCond .eq 26, 3) := by decide +kernel
theorem dX12_takeStreet_184 : decode cX12_takeStreet 184 = .ok (.aload_n 0, 1) := by decide +kernel
theorem dX12_takeStreet_185 : decode cX12_takeStreet 185 = .ok (.aload_n 0, 1) := by decide +kernel
theorem dX12_takeStreet_186 : decode cX12_takeStreet 186 = .ok (.getfield 88, 3) := by decide +kernel
theorem dX12_takeStreet_189 : decode cX12_takeStreet 189 = .ok (.putfield 85, 3) := by decide +kernel
theorem dX12_takeStreet_192 : decode cX12_takeStreet 192 = .ok (.aload_n 0, 1) := by decide +kernel
theorem dX12_takeStreet_193 : decode cX12_takeStreet 193 = .ok (.dup, 1) := by decide +kernel
theorem dX12_takeStreet_194 : decode cX12_takeStreet 194 = .ok (.getfield 82, 3) := by decide +kernel
theorem dX12_takeStreet_197 : decode cX12_takeStreet 197 = .ok (.iconst 1, 1) := by decide +kernel
theorem dX12_takeStreet_198 : decode cX12_takeStreet 198 = .ok (.iadd, 1) := by decide +kernel
theorem dX12_takeStreet_199 : decode cX12_takeStreet 199 = .ok (.putfield 82, 3) := by decide +kernel
theorem dX12_takeStreet_202 : decode cX12_takeStreet 202 = .ok (.aload_n 0, 1) := by decide +kernel
theorem dX12_takeStreet_203 : decode cX12_takeStreet 203 = .ok (.iconst 0, 1) := by decide +kernel
theorem dX12_takeStreet_204 : decode cX12_takeStreet 204 = .ok (.putfield 88, 3) := by decide +kernel
theorem dX12_takeStreet_207 : decode cX12_takeStreet 207 = .ok (.iload_n 3, 1) := by decide +kernel
theorem dX12_takeStreet_208 : decode cX12_takeStreet 208 = .ok (.ireturn, 1) := by decide +kernel
theorem dX12_readStreet_0 : decode cX12_readStreet 0 = .ok (.aload_n 0, 1) := by decide +kernel
theorem dX12_readStreet_1 : decode cX12_readStreet 1 = .ok (.iconst 0, 1) := by decide +kernel
theorem dX12_readStreet_2 : decode cX12_readStreet 2 = .ok (.putfield 82, 3) := by decide +kernel
theorem dX12_readStreet_5 : decode cX12_readStreet 5 = .ok (.aload_n 0, 1) := by decide +kernel
theorem dX12_readStreet_6 : decode cX12_readStreet 6 = .ok (.iconst 0, 1) := by decide +kernel
theorem dX12_readStreet_7 : decode cX12_readStreet 7 = .ok (.putfield 85, 3) := by decide +kernel
theorem dX12_readStreet_10 : decode cX12_readStreet 10 = .ok (.aload_n 0, 1) := by decide +kernel
theorem dX12_readStreet_11 : decode cX12_readStreet 11 = .ok (.iconst 0, 1) := by decide +kernel
theorem dX12_readStreet_12 : decode cX12_readStreet 12 = .ok (.putfield 88, 3) := by decide +kernel
theorem dX12_readStreet_15 : decode cX12_readStreet 15 = .ok (.aload_n 0, 1) := by decide +kernel
theorem dX12_readStreet_16 : decode cX12_readStreet 16 = .ok (.iconst 0, 1) := by decide +kernel
theorem dX12_readStreet_17 : decode cX12_readStreet 17 = .ok (.putfield 91, 3) := by decide +kernel
theorem dX12_readStreet_20 : decode cX12_readStreet 20 = .ok (.iconst 0, 1) := by decide +kernel
theorem dX12_readStreet_21 : decode cX12_readStreet 21 = .ok (.istore_n 1, 1) := by decide +kernel
theorem dX12_readStreet_22 : decode cX12_readStreet 22 = .ok (.iload_n 1, 1) := by decide +kernel
theorem dX12_readStreet_23 : decode cX12_readStreet 23 = .ok (.aload_n 0, 1) := by decide +kernel
theorem dX12_readStreet_24 : decode cX12_readStreet 24 = .ok (.getfield 74, 3) := by decide +kernel
theorem dX12_readStreet_27 : decode cX12_readStreet 27 = .ok (.if_icmp .ge 22, 3) := by decide +kernel
theorem dX12_readStreet_30 : decode cX12_readStreet 30 = .ok (.aload_n 0, 1) := by decide +kernel
theorem dX12_readStreet_31 : decode cX12_readStreet 31 = .ok (.aload_n 0, 1) := by decide +kernel
theorem dX12_readStreet_32 : decode cX12_readStreet 32 = .ok (.getfield 38, 3) := by decide +kernel
theorem dX12_readStreet_35 : decode cX12_readStreet 35 = .ok (.iload_n 1, 1) := by decide +kernel
theorem dX12_readStreet_36 : decode cX12_readStreet 36 = .ok (.baload, 1) := by decide +kernel
theorem dX12_readStreet_37 : decode cX12_readStreet 37 = .ok (.invokevirtual 99, 3) := by decide +kernel
theorem dX12_readStreet_40 : decode cX12_readStreet 40 = .ok (.ifCond .eq 9, 3) := by decide +kernel
theorem dX12_readStreet_43 : decode cX12_readStreet 43 = .ok (.iinc 1 1, 3) := by decide +kernel
theorem dX12_readStreet_46 : decode cX12_readStreet 46 = .ok (.goto (-24), 3) := by decide +kernel
theorem dX12_readStreet_49 : decode cX12_readStreet 49 = .ok (.aload_n 0, 1) := by decide +kernel
theorem dX12_readStreet_50 : decode cX12_readStreet 50 = .ok (.iload_n 1, 1) := by decide +kernel
theorem dX12_readStreet_51 : decode cX12_readStreet 51 = .ok (.putfield 103, 3) := by decide +kernel
theorem dX12_readStreet_54 : decode cX12_readStreet 54 = .ok (.aload_n 0, 1) := by decide +kernel
theorem dX12_readStreet_55 : decode cX12_readStreet 55 = .ok (.iload_n 1, 1) := by decide +kernel
theorem dX12_readStreet_56 : decode cX12_readStreet 56 = .ok (.aload_n 0, 1) := by decide +kernel
theorem dX12_readStreet_57 : decode cX12_readStreet 57 = .ok (.getfield 74, 3) := by decide +kernel
theorem dX12_readStreet_60 : decode cX12_readStreet 60 = .ok (.if_icmp .ne 32, 3) := by decide +kernel
theorem dX12_readStreet_63 : decode cX12_readStreet 63 = .ok (.aload_n 0, 1) := by decide +kernel
theorem dX12_readStreet_64 : decode cX12_readStreet 64 = .ok (.getfield 91, 3) := by decide +kernel
theorem dX12_readStreet_67 : decode cX12_readStreet 67 = .ok (.ifCond .ne 25, 3) := by decide +kernel
theorem dX12_readStreet_70 : decode cX12_readStreet 70 = .ok (.aload_n 0, 1) := by decide +kernel
theorem dX12_readStreet_71 : decode cX12_readStreet 71 = .ok (.getfield 82, 3) := by decide +kernel
theorem dX12_readStreet_74 : decode cX12_readStreet 74 = .ok (.ifCond .le 18, 3) := by decide +kernel
theorem dX12_readStreet_77 : decode cX12_readStreet 77 = .ok (.aload_n 0, 1) := by decide +kernel
theorem dX12_readStreet_78 : decode cX12_readStreet 78 = .ok (.getfield 88, 3) := by decide +kernel
theorem dX12_readStreet_81 : decode cX12_readStreet 81 = .ok (.aload_n 0, 1) := by decide +kernel
theorem dX12_readStreet_82 : decode cX12_readStreet 82 = .ok (.getfield 85, 3) := by decide +kernel
theorem dX12_readStreet_85 : decode cX12_readStreet 85 = .ok (.if_icmp .ne 7, 3) := by decide +kernel
theorem dX12_readStreet_88 : decode cX12_readStreet 88 = .ok (.iconst 1, 1) := by decide +kernel
theorem dX12_readStreet_89 : decode cX12_readStreet 89 = .ok (.goto 4, 3) := by decide +kernel
theorem dX12_readStreet_92 : decode cX12_readStreet 92 = .ok (.iconst 0, 1) := by decide +kernel
theorem dX12_readStreet_93 : decode cX12_readStreet 93 = .ok (.putfield 106, 3) := by decide +kernel
theorem dX12_readStreet_96 : decode cX12_readStreet 96 = .ok (.return_, 1) := by decide +kernel
theorem dX12_nextCart_0 : decode cX12_nextCart 0 = .ok (.iload_n 1, 1) := by decide +kernel
theorem dX12_nextCart_1 : decode cX12_nextCart 1 = .ok (.tableswitch 120 0 2 #[27, 53, 65], 27) := by decide +kernel
theorem dX12_nextCart_28 : decode cX12_nextCart 28 = .ok (.aload_n 0, 1) := by decide +kernel
theorem dX12_nextCart_29 : decode cX12_nextCart 29 = .ok (.getfield 54, 3) := by decide +kernel
theorem dX12_nextCart_32 : decode cX12_nextCart 32 = .ok (.aload_n 0, 1) := by decide +kernel
theorem dX12_nextCart_33 : decode cX12_nextCart 33 = .ok (.getfield 109, 3) := by decide +kernel
theorem dX12_nextCart_36 : decode cX12_nextCart 36 = .ok (.iload_n 2, 1) := by decide +kernel
theorem dX12_nextCart_37 : decode cX12_nextCart 37 = .ok (.bipush 48, 2) := by decide +kernel
theorem dX12_nextCart_39 : decode cX12_nextCart 39 = .ok (.isub, 1) := by decide +kernel
theorem dX12_nextCart_40 : decode cX12_nextCart 40 = .ok (.iastore, 1) := by decide +kernel
theorem dX12_nextCart_41 : decode cX12_nextCart 41 = .ok (.iload_n 2, 1) := by decide +kernel
theorem dX12_nextCart_42 : decode cX12_nextCart 42 = .ok (.invokestatic 112, 3) := by decide +kernel
theorem dX12_nextCart_45 : decode cX12_nextCart 45 = .ok (.ifCond .eq 7, 3) := by decide +kernel
theorem dX12_nextCart_48 : decode cX12_nextCart 48 = .ok (.iconst 1, 1) := by decide +kernel
theorem dX12_nextCart_49 : decode cX12_nextCart 49 = .ok (.goto 4, 3) := by decide +kernel
theorem dX12_nextCart_52 : decode cX12_nextCart 52 = .ok (.iconst (-1), 1) := by decide +kernel
theorem dX12_nextCart_53 : decode cX12_nextCart 53 = .ok (.ireturn, 1) := by decide +kernel
theorem dX12_nextCart_54 : decode cX12_nextCart 54 = .ok (.iload_n 2, 1) := by decide +kernel
theorem dX12_nextCart_55 : decode cX12_nextCart 55 = .ok (.bipush 120, 2) := by decide +kernel
theorem dX12_nextCart_57 : decode cX12_nextCart 57 = .ok (.if_icmp .ne 7, 3) := by decide +kernel
theorem dX12_nextCart_60 : decode cX12_nextCart 60 = .ok (.iconst 2, 1) := by decide +kernel
theorem dX12_nextCart_61 : decode cX12_nextCart 61 = .ok (.goto 4, 3) := by decide +kernel
theorem dX12_nextCart_64 : decode cX12_nextCart 64 = .ok (.iconst (-1), 1) := by decide +kernel
theorem dX12_nextCart_65 : decode cX12_nextCart 65 = .ok (.ireturn, 1) := by decide +kernel
theorem dX12_nextCart_66 : decode cX12_nextCart 66 = .ok (.aload_n 0, 1) := by decide +kernel
theorem dX12_nextCart_67 : decode cX12_nextCart 67 = .ok (.getfield 57, 3) := by decide +kernel
theorem dX12_nextCart_70 : decode cX12_nextCart 70 = .ok (.aload_n 0, 1) := by decide +kernel
theorem dX12_nextCart_71 : decode cX12_nextCart 71 = .ok (.getfield 109, 3) := by decide +kernel
theorem dX12_nextCart_74 : decode cX12_nextCart 74 = .ok (.iload_n 2, 1) := by decide +kernel
theorem dX12_nextCart_75 : decode cX12_nextCart 75 = .ok (.bipush 48, 2) := by decide +kernel
theorem dX12_nextCart_77 : decode cX12_nextCart 77 = .ok (.isub, 1) := by decide +kernel
theorem dX12_nextCart_78 : decode cX12_nextCart 78 = .ok (.iastore, 1) := by decide +kernel
theorem dX12_nextCart_79 : decode cX12_nextCart 79 = .ok (.aload_n 0, 1) := by decide +kernel
theorem dX12_nextCart_80 : decode cX12_nextCart 80 = .ok (.dup, 1) := by decide +kernel
theorem dX12_nextCart_81 : decode cX12_nextCart 81 = .ok (.getfield 109, 3) := by decide +kernel
theorem dX12_nextCart_84 : decode cX12_nextCart 84 = .ok (.iload_n 2, 1) := by decide +kernel
theorem dX12_nextCart_85 : decode cX12_nextCart 85 = .ok (.bipush 49, 2) := by decide +kernel
theorem dX12_nextCart_87 : decode cX12_nextCart 87 = .ok (.bipush 57, 2) := by decide +kernel
theorem dX12_nextCart_89 : decode cX12_nextCart 89 = .ok (.invokestatic 78, 3) := by decide +kernel
theorem dX12_nextCart_92 : decode cX12_nextCart 92 = .ok (.ifCond .eq 7, 3) := by decide +kernel
theorem dX12_nextCart_95 : decode cX12_nextCart 95 = .ok (.iconst 1, 1) := by decide +kernel
theorem dX12_nextCart_96 : decode cX12_nextCart 96 = .ok (.goto 4, 3) := by decide +kernel
theorem dX12_nextCart_99 : decode cX12_nextCart 99 = .ok (.iconst 0, 1) := by decide +kernel
theorem dX12_nextCart_100 : decode cX12_nextCart 100 = .ok (.iadd, 1) := by decide +kernel
theorem dX12_nextCart_101 : decode cX12_nextCart 101 = .ok (.putfield 109, 3) := by decide +kernel
theorem dX12_nextCart_104 : decode cX12_nextCart 104 = .ok (.iload_n 2, 1) := by decide +kernel
theorem dX12_nextCart_105 : decode cX12_nextCart 105 = .ok (.bipush 49, 2) := by decide +kernel
theorem dX12_nextCart_107 : decode cX12_nextCart 107 = .ok (.bipush 57, 2) := by decide +kernel
theorem dX12_nextCart_109 : decode cX12_nextCart 109 = .ok (.invokestatic 78, 3) := by decide +kernel
theorem dX12_nextCart_112 : decode cX12_nextCart 112 = .ok (.ifCond .eq 7, 3) := by decide +kernel
theorem dX12_nextCart_115 : decode cX12_nextCart 115 = .ok (.iconst 3, 1) := by decide +kernel
theorem dX12_nextCart_116 : decode cX12_nextCart 116 = .ok (.goto 4, 3) := by decide +kernel
theorem dX12_nextCart_119 : decode cX12_nextCart 119 = .ok (.iconst (-1), 1) := by decide +kernel
theorem dX12_nextCart_120 : decode cX12_nextCart 120 = .ok (.ireturn, 1) := by decide +kernel
theorem dX12_nextCart_121 : decode cX12_nextCart 121 = .ok (.iload_n 1, 1) := by decide +kernel
theorem dX12_nextCart_122 : decode cX12_nextCart 122 = .ok (.iconst 3, 1) := by decide +kernel
theorem dX12_nextCart_123 : decode cX12_nextCart 123 = .ok (.if_icmp .ne 42, 3) := by decide +kernel
theorem dX12_nextCart_126 : decode cX12_nextCart 126 = .ok (.iload_n 2, 1) := by decide +kernel
theorem dX12_nextCart_127 : decode cX12_nextCart 127 = .ok (.invokestatic 112, 3) := by decide +kernel
theorem dX12_nextCart_130 : decode cX12_nextCart 130 = .ok (.ifCond .eq 35, 3) := by decide +kernel
theorem dX12_nextCart_133 : decode cX12_nextCart 133 = .ok (.aload_n 0, 1) := by decide +kernel
theorem dX12_nextCart_134 : decode cX12_nextCart 134 = .ok (.getfield 57, 3) := by decide +kernel
theorem dX12_nextCart_137 : decode cX12_nextCart 137 = .ok (.aload_n 0, 1) := by decide +kernel
theorem dX12_nextCart_138 : decode cX12_nextCart 138 = .ok (.getfield 109, 3) := by decide +kernel
theorem dX12_nextCart_141 : decode cX12_nextCart 141 = .ok (.iconst 1, 1) := by decide +kernel
theorem dX12_nextCart_142 : decode cX12_nextCart 142 = .ok (.isub, 1) := by decide +kernel
theorem dX12_nextCart_143 : decode cX12_nextCart 143 = .ok (.bipush 10, 2) := by decide +kernel
theorem dX12_nextCart_145 : decode cX12_nextCart 145 = .ok (.aload_n 0, 1) := by decide +kernel
theorem dX12_nextCart_146 : decode cX12_nextCart 146 = .ok (.getfield 57, 3) := by decide +kernel
theorem dX12_nextCart_149 : decode cX12_nextCart 149 = .ok (.aload_n 0, 1) := by decide +kernel
theorem dX12_nextCart_150 : decode cX12_nextCart 150 = .ok (.getfield 109, 3) := by decide +kernel
theorem dX12_nextCart_153 : decode cX12_nextCart 153 = .ok (.iconst 1, 1) := by decide +kernel
theorem dX12_nextCart_154 : decode cX12_nextCart 154 = .ok (.isub, 1) := by decide +kernel
theorem dX12_nextCart_155 : decode cX12_nextCart 155 = .ok (.iaload, 1) := by decide +kernel
theorem dX12_nextCart_156 : decode cX12_nextCart 156 = .ok (.imul, 1) := by decide +kernel
theorem dX12_nextCart_157 : decode cX12_nextCart 157 = .ok (.iload_n 2, 1) := by decide +kernel
theorem dX12_nextCart_158 : decode cX12_nextCart 158 = .ok (.iadd, 1) := by decide +kernel
theorem dX12_nextCart_159 : decode cX12_nextCart 159 = .ok (.bipush 48, 2) := by decide +kernel
theorem dX12_nextCart_161 : decode cX12_nextCart 161 = .ok (.isub, 1) := by decide +kernel
theorem dX12_nextCart_162 : decode cX12_nextCart 162 = .ok (.iastore, 1) := by decide +kernel
theorem dX12_nextCart_163 : decode cX12_nextCart 163 = .ok (.iconst 4, 1) := by decide +kernel
theorem dX12_nextCart_164 : decode cX12_nextCart 164 = .ok (.ireturn, 1) := by decide +kernel
theorem dX12_nextCart_165 : decode cX12_nextCart 165 = .ok (.iload_n 2, 1) := by decide +kernel
theorem dX12_nextCart_166 : decode cX12_nextCart 166 = .ok (.bipush 44, 2) := by decide +kernel
theorem dX12_nextCart_168 : decode cX12_nextCart 168 = .ok (.if_icmp .ne 16, 3) := by decide +kernel
theorem dX12_nextCart_171 : decode cX12_nextCart 171 = .ok (.aload_n 0, 1) := by decide +kernel
theorem dX12_nextCart_172 : decode cX12_nextCart 172 = .ok (.getfield 109, 3) := by decide +kernel
theorem dX12_nextCart_175 : decode cX12_nextCart 175 = .ok (.bipush 6, 2) := by decide +kernel
theorem dX12_nextCart_177 : decode cX12_nextCart 177 = .ok (.if_icmp .ge 7, 3) := by decide +kernel
theorem dX12_nextCart_180 : decode cX12_nextCart 180 = .ok (.iconst 0, 1) := by decide +kernel
theorem dX12_nextCart_181 : decode cX12_nextCart 181 = .ok (.goto 4, 3) := by decide +kernel
theorem dX12_nextCart_184 : decode cX12_nextCart 184 = .ok (.iconst (-1), 1) := by decide +kernel
theorem dX12_nextCart_185 : decode cX12_nextCart 185 = .ok (.ireturn, 1) := by decide +kernel
theorem dX12_readCarts_0 : decode cX12_readCarts 0 = .ok (.aload_n 0, 1) := by decide +kernel
theorem dX12_readCarts_1 : decode cX12_readCarts 1 = .ok (.iconst 0, 1) := by decide +kernel
theorem dX12_readCarts_2 : decode cX12_readCarts 2 = .ok (.putfield 109, 3) := by decide +kernel
theorem dX12_readCarts_5 : decode cX12_readCarts 5 = .ok (.iconst 0, 1) := by decide +kernel
theorem dX12_readCarts_6 : decode cX12_readCarts 6 = .ok (.istore_n 1, 1) := by decide +kernel
theorem dX12_readCarts_7 : decode cX12_readCarts 7 = .ok (.iconst 0, 1) := by decide +kernel
theorem dX12_readCarts_8 : decode cX12_readCarts 8 = .ok (.istore_n 2, 1) := by decide +kernel
theorem dX12_readCarts_9 : decode cX12_readCarts 9 = .ok (.iconst 1, 1) := by decide +kernel
theorem dX12_readCarts_10 : decode cX12_readCarts 10 = .ok (.istore_n 3, 1) := by decide +kernel
theorem dX12_readCarts_11 : decode cX12_readCarts 11 = .ok (.iload_n 2, 1) := by decide +kernel
theorem dX12_readCarts_12 : decode cX12_readCarts 12 = .ok (.aload_n 0, 1) := by decide +kernel
theorem dX12_readCarts_13 : decode cX12_readCarts 13 = .ok (.getfield 74, 3) := by decide +kernel
theorem dX12_readCarts_16 : decode cX12_readCarts 16 = .ok (.if_icmp .ge 58, 3) := by decide +kernel
theorem dX12_readCarts_19 : decode cX12_readCarts 19 = .ok (.iload_n 3, 1) := by decide +kernel
theorem dX12_readCarts_20 : decode cX12_readCarts 20 = .ok (.ifCond .eq 54, 3) := by decide +kernel
theorem dX12_readCarts_23 : decode cX12_readCarts 23 = .ok (.aload_n 0, 1) := by decide +kernel
theorem dX12_readCarts_24 : decode cX12_readCarts 24 = .ok (.iload_n 1, 1) := by decide +kernel
theorem dX12_readCarts_25 : decode cX12_readCarts 25 = .ok (.aload_n 0, 1) := by decide +kernel
theorem dX12_readCarts_26 : decode cX12_readCarts 26 = .ok (.getfield 38, 3) := by decide +kernel
theorem dX12_readCarts_29 : decode cX12_readCarts 29 = .ok (.iload_n 2, 1) := by decide +kernel
theorem dX12_readCarts_30 : decode cX12_readCarts 30 = .ok (.baload, 1) := by decide +kernel
theorem dX12_readCarts_31 : decode cX12_readCarts 31 = .ok (.invokevirtual 115, 3) := by decide +kernel
theorem dX12_readCarts_34 : decode cX12_readCarts 34 = .ok (.istore 4, 2) := by decide +kernel
theorem dX12_readCarts_36 : decode cX12_readCarts 36 = .ok (.iload 4, 2) := by decide +kernel
theorem dX12_readCarts_38 : decode cX12_readCarts 38 = .ok (.iconst (-1), 1) := by decide +kernel
theorem dX12_readCarts_39 : decode cX12_readCarts 39 = .ok (.if_icmp .eq 7, 3) := by decide +kernel
theorem dX12_readCarts_42 : decode cX12_readCarts 42 = .ok (.iconst 1, 1) := by decide +kernel
theorem dX12_readCarts_43 : decode cX12_readCarts 43 = .ok (.goto 4, 3) := by decide +kernel
theorem dX12_readCarts_46 : decode cX12_readCarts 46 = .ok (.iconst 0, 1) := by decide +kernel
theorem dX12_readCarts_47 : decode cX12_readCarts 47 = .ok (.istore_n 3, 1) := by decide +kernel
theorem dX12_readCarts_48 : decode cX12_readCarts 48 = .ok (.iload_n 3, 1) := by decide +kernel
theorem dX12_readCarts_49 : decode cX12_readCarts 49 = .ok (.ifCond .eq 8, 3) := by decide +kernel
theorem dX12_readCarts_52 : decode cX12_readCarts 52 = .ok (.iload 4, 2) := by decide +kernel
theorem dX12_readCarts_54 : decode cX12_readCarts 54 = .ok (.goto 4, 3) := by decide +kernel
theorem dX12_readCarts_57 : decode cX12_readCarts 57 = .ok (.iload_n 1, 1) := by decide +kernel
theorem dX12_readCarts_58 : decode cX12_readCarts 58 = .ok (.istore_n 1, 1) := by decide +kernel
theorem dX12_readCarts_59 : decode cX12_readCarts 59 = .ok (.iload_n 2, 1) := by decide +kernel
theorem dX12_readCarts_60 : decode cX12_readCarts 60 = .ok (.iload_n 3, 1) := by decide +kernel
theorem dX12_readCarts_61 : decode cX12_readCarts 61 = .ok (.ifCond .eq 7, 3) := by decide +kernel
theorem dX12_readCarts_64 : decode cX12_readCarts 64 = .ok (.iconst 1, 1) := by decide +kernel
theorem dX12_readCarts_65 : decode cX12_readCarts 65 = .ok (.goto 4, 3) := by decide +kernel
theorem dX12_readCarts_68 : decode cX12_readCarts 68 = .ok (.iconst 0, 1) := by decide +kernel
theorem dX12_readCarts_69 : decode cX12_readCarts 69 = .ok (.iadd, 1) := by decide +kernel
theorem dX12_readCarts_70 : decode cX12_readCarts 70 = .ok (.istore_n 2, 1) := by decide +kernel
theorem dX12_readCarts_71 : decode cX12_readCarts 71 = .ok (.goto (-60), 3) := by decide +kernel
theorem dX12_readCarts_74 : decode cX12_readCarts 74 = .ok (.aload_n 0, 1) := by decide +kernel
theorem dX12_readCarts_75 : decode cX12_readCarts 75 = .ok (.iload_n 2, 1) := by decide +kernel
theorem dX12_readCarts_76 : decode cX12_readCarts 76 = .ok (.putfield 103, 3) := by decide +kernel
theorem dX12_readCarts_79 : decode cX12_readCarts 79 = .ok (.aload_n 0, 1) := by decide +kernel
theorem dX12_readCarts_80 : decode cX12_readCarts 80 = .ok (.iload_n 2, 1) := by decide +kernel
theorem dX12_readCarts_81 : decode cX12_readCarts 81 = .ok (.aload_n 0, 1) := by decide +kernel
theorem dX12_readCarts_82 : decode cX12_readCarts 82 = .ok (.getfield 74, 3) := by decide +kernel
theorem dX12_readCarts_85 : decode cX12_readCarts 85 = .ok (.if_icmp .ne 12, 3) := by decide +kernel
theorem dX12_readCarts_88 : decode cX12_readCarts 88 = .ok (.iload_n 1, 1) := by decide +kernel
theorem dX12_readCarts_89 : decode cX12_readCarts 89 = .ok (.iconst 2, 1) := by decide +kernel
theorem dX12_readCarts_90 : decode cX12_readCarts 90 = .ok (.if_icmp .le 7, 3) := by decide +kernel
theorem dX12_readCarts_93 : decode cX12_readCarts 93 = .ok (.iconst 1, 1) := by decide +kernel
theorem dX12_readCarts_94 : decode cX12_readCarts 94 = .ok (.goto 4, 3) := by decide +kernel
theorem dX12_readCarts_97 : decode cX12_readCarts 97 = .ok (.iconst 0, 1) := by decide +kernel
theorem dX12_readCarts_98 : decode cX12_readCarts 98 = .ok (.putfield 106, 3) := by decide +kernel
theorem dX12_readCarts_101 : decode cX12_readCarts 101 = .ok (.return_, 1) := by decide +kernel
theorem dX12_fault_0 : decode cX12_fault 0 = .ok (.iload_n 1, 1) := by decide +kernel
theorem dX12_fault_1 : decode cX12_fault 1 = .ok (.iconst 0, 1) := by decide +kernel
theorem dX12_fault_2 : decode cX12_fault 2 = .ok (.iconst 1, 1) := by decide +kernel
theorem dX12_fault_3 : decode cX12_fault 3 = .ok (.invokestatic 78, 3) := by decide +kernel
theorem dX12_fault_6 : decode cX12_fault 6 = .ok (.ifCond .ne 6, 3) := by decide +kernel
theorem dX12_fault_9 : decode cX12_fault 9 = .ok (.bipush (-102), 2) := by decide +kernel
theorem dX12_fault_11 : decode cX12_fault 11 = .ok (.ireturn, 1) := by decide +kernel
theorem dX12_fault_12 : decode cX12_fault 12 = .ok (.iload_n 1, 1) := by decide +kernel
theorem dX12_fault_13 : decode cX12_fault 13 = .ok (.ifCond .ne 10, 3) := by decide +kernel
theorem dX12_fault_16 : decode cX12_fault 16 = .ok (.aload_n 0, 1) := by decide +kernel
theorem dX12_fault_17 : decode cX12_fault 17 = .ok (.invokevirtual 119, 3) := by decide +kernel
theorem dX12_fault_20 : decode cX12_fault 20 = .ok (.goto 7, 3) := by decide +kernel
theorem dX12_fault_23 : decode cX12_fault 23 = .ok (.aload_n 0, 1) := by decide +kernel
theorem dX12_fault_24 : decode cX12_fault 24 = .ok (.invokevirtual 122, 3) := by decide +kernel
theorem dX12_fault_27 : decode cX12_fault 27 = .ok (.aload_n 0, 1) := by decide +kernel
theorem dX12_fault_28 : decode cX12_fault 28 = .ok (.getfield 103, 3) := by decide +kernel
theorem dX12_fault_31 : decode cX12_fault 31 = .ok (.ireturn, 1) := by decide +kernel
theorem dX12_street_0 : decode cX12_street 0 = .ok (.aload_n 0, 1) := by decide +kernel
theorem dX12_street_1 : decode cX12_street 1 = .ok (.invokevirtual 119, 3) := by decide +kernel
theorem dX12_street_4 : decode cX12_street 4 = .ok (.aload_n 0, 1) := by decide +kernel
theorem dX12_street_5 : decode cX12_street 5 = .ok (.getfield 106, 3) := by decide +kernel
theorem dX12_street_8 : decode cX12_street 8 = .ok (.ifCond .ne 6, 3) := by decide +kernel
theorem dX12_street_11 : decode cX12_street 11 = .ok (.bipush (-103), 2) := by decide +kernel
theorem dX12_street_13 : decode cX12_street 13 = .ok (.ireturn, 1) := by decide +kernel
theorem dX12_street_14 : decode cX12_street 14 = .ok (.aload_n 0, 1) := by decide +kernel
theorem dX12_street_15 : decode cX12_street 15 = .ok (.aload_n 0, 1) := by decide +kernel
theorem dX12_street_16 : decode cX12_street 16 = .ok (.getfield 82, 3) := by decide +kernel
theorem dX12_street_19 : decode cX12_street 19 = .ok (.iconst 1, 1) := by decide +kernel
theorem dX12_street_20 : decode cX12_street 20 = .ok (.iadd, 1) := by decide +kernel
theorem dX12_street_21 : decode cX12_street 21 = .ok (.putfield 125, 3) := by decide +kernel
theorem dX12_street_24 : decode cX12_street 24 = .ok (.aload_n 0, 1) := by decide +kernel
theorem dX12_street_25 : decode cX12_street 25 = .ok (.aload_n 0, 1) := by decide +kernel
theorem dX12_street_26 : decode cX12_street 26 = .ok (.getfield 85, 3) := by decide +kernel
theorem dX12_street_29 : decode cX12_street 29 = .ok (.putfield 128, 3) := by decide +kernel
theorem dX12_street_32 : decode cX12_street 32 = .ok (.iconst 0, 1) := by decide +kernel
theorem dX12_street_33 : decode cX12_street 33 = .ok (.istore_n 1, 1) := by decide +kernel
theorem dX12_street_34 : decode cX12_street 34 = .ok (.iload_n 1, 1) := by decide +kernel
theorem dX12_street_35 : decode cX12_street 35 = .ok (.aload_n 0, 1) := by decide +kernel
theorem dX12_street_36 : decode cX12_street 36 = .ok (.getfield 125, 3) := by decide +kernel
theorem dX12_street_39 : decode cX12_street 39 = .ok (.aload_n 0, 1) := by decide +kernel
theorem dX12_street_40 : decode cX12_street 40 = .ok (.getfield 128, 3) := by decide +kernel
theorem dX12_street_43 : decode cX12_street 43 = .ok (.imul, 1) := by decide +kernel
theorem dX12_street_44 : decode cX12_street 44 = .ok (.if_icmp .ge 69, 3) := by decide +kernel
theorem dX12_street_47 : decode cX12_street 47 = .ok (.aload_n 0, 1) := by decide +kernel
theorem dX12_street_48 : decode cX12_street 48 = .ok (.getfield 7, 3) := by decide +kernel
theorem dX12_street_51 : decode cX12_street 51 = .ok (.iload_n 1, 1) := by decide +kernel
theorem dX12_street_52 : decode cX12_street 52 = .ok (.aload_n 0, 1) := by decide +kernel
theorem dX12_street_53 : decode cX12_street 53 = .ok (.getfield 48, 3) := by decide +kernel
theorem dX12_street_56 : decode cX12_street 56 = .ok (.iload_n 1, 1) := by decide +kernel
theorem dX12_street_57 : decode cX12_street 57 = .ok (.iaload, 1) := by decide +kernel
theorem dX12_street_58 : decode cX12_street 58 = .ok (.iastore, 1) := by decide +kernel
theorem dX12_street_59 : decode cX12_street 59 = .ok (.aload_n 0, 1) := by decide +kernel
theorem dX12_street_60 : decode cX12_street 60 = .ok (.getfield 13, 3) := by decide +kernel
theorem dX12_street_63 : decode cX12_street 63 = .ok (.iload_n 1, 1) := by decide +kernel
theorem dX12_street_64 : decode cX12_street 64 = .ok (.aload_n 0, 1) := by decide +kernel
theorem dX12_street_65 : decode cX12_street 65 = .ok (.getfield 51, 3) := by decide +kernel
theorem dX12_street_68 : decode cX12_street 68 = .ok (.iload_n 1, 1) := by decide +kernel
theorem dX12_street_69 : decode cX12_street 69 = .ok (.iaload, 1) := by decide +kernel
theorem dX12_street_70 : decode cX12_street 70 = .ok (.iastore, 1) := by decide +kernel
theorem dX12_street_71 : decode cX12_street 71 = .ok (.aload_n 0, 1) := by decide +kernel
theorem dX12_street_72 : decode cX12_street 72 = .ok (.getfield 16, 3) := by decide +kernel
theorem dX12_street_75 : decode cX12_street 75 = .ok (.iload_n 1, 1) := by decide +kernel
theorem dX12_street_76 : decode cX12_street 76 = .ok (.aload_n 0, 1) := by decide +kernel
theorem dX12_street_77 : decode cX12_street 77 = .ok (.getfield 48, 3) := by decide +kernel
theorem dX12_street_80 : decode cX12_street 80 = .ok (.iload_n 1, 1) := by decide +kernel
theorem dX12_street_81 : decode cX12_street 81 = .ok (.iaload, 1) := by decide +kernel
theorem dX12_street_82 : decode cX12_street 82 = .ok (.iconst (-1), 1) := by decide +kernel
theorem dX12_street_83 : decode cX12_street 83 = .ok (.if_icmp .ne 8, 3) := by decide +kernel
theorem dX12_street_86 : decode cX12_street 86 = .ok (.bipush (-5), 2) := by decide +kernel
theorem dX12_street_88 : decode cX12_street 88 = .ok (.goto 4, 3) := by decide +kernel
theorem dX12_street_91 : decode cX12_street 91 = .ok (.iconst 0, 1) := by decide +kernel
theorem dX12_street_92 : decode cX12_street 92 = .ok (.iastore, 1) := by decide +kernel
theorem dX12_street_93 : decode cX12_street 93 = .ok (.aload_n 0, 1) := by decide +kernel
theorem dX12_street_94 : decode cX12_street 94 = .ok (.getfield 19, 3) := by decide +kernel
theorem dX12_street_97 : decode cX12_street 97 = .ok (.iload_n 1, 1) := by decide +kernel
theorem dX12_street_98 : decode cX12_street 98 = .ok (.iconst 0, 1) := by decide +kernel
theorem dX12_street_99 : decode cX12_street 99 = .ok (.iastore, 1) := by decide +kernel
theorem dX12_street_100 : decode cX12_street 100 = .ok (.aload_n 0, 1) := by decide +kernel
theorem dX12_street_101 : decode cX12_street 101 = .ok (.getfield 22, 3) := by decide +kernel
theorem dX12_street_104 : decode cX12_street 104 = .ok (.iload_n 1, 1) := by decide +kernel
theorem dX12_street_105 : decode cX12_street 105 = .ok (.iconst 0, 1) := by decide +kernel
theorem dX12_street_106 : decode cX12_street 106 = .ok (.iastore, 1) := by decide +kernel
theorem dX12_street_107 : decode cX12_street 107 = .ok (.iinc 1 1, 3) := by decide +kernel
theorem dX12_street_110 : decode cX12_street 110 = .ok (.goto (-76), 3) := by decide +kernel
theorem dX12_street_113 : decode cX12_street 113 = .ok (.aload_n 0, 1) := by decide +kernel
theorem dX12_street_114 : decode cX12_street 114 = .ok (.dup, 1) := by decide +kernel
theorem dX12_street_115 : decode cX12_street 115 = .ok (.getfield 131, 3) := by decide +kernel
theorem dX12_street_118 : decode cX12_street 118 = .ok (.iconst 1, 1) := by decide +kernel
theorem dX12_street_119 : decode cX12_street 119 = .ok (.iadd, 1) := by decide +kernel
theorem dX12_street_120 : decode cX12_street 120 = .ok (.putfield 131, 3) := by decide +kernel
theorem dX12_street_123 : decode cX12_street 123 = .ok (.aload_n 0, 1) := by decide +kernel
theorem dX12_street_124 : decode cX12_street 124 = .ok (.iconst 0, 1) := by decide +kernel
theorem dX12_street_125 : decode cX12_street 125 = .ok (.putfield 74, 3) := by decide +kernel
theorem dX12_street_128 : decode cX12_street 128 = .ok (.aload_n 0, 1) := by decide +kernel
theorem dX12_street_129 : decode cX12_street 129 = .ok (.getfield 125, 3) := by decide +kernel
theorem dX12_street_132 : decode cX12_street 132 = .ok (.aload_n 0, 1) := by decide +kernel
theorem dX12_street_133 : decode cX12_street 133 = .ok (.getfield 128, 3) := by decide +kernel
theorem dX12_street_136 : decode cX12_street 136 = .ok (.imul, 1) := by decide +kernel
theorem dX12_street_137 : decode cX12_street 137 = .ok (.ireturn, 1) := by decide +kernel
theorem dX12_carts_0 : decode cX12_carts 0 = .ok (.aload_n 0, 1) := by decide +kernel
theorem dX12_carts_1 : decode cX12_carts 1 = .ok (.invokevirtual 122, 3) := by decide +kernel
theorem dX12_carts_4 : decode cX12_carts 4 = .ok (.aload_n 0, 1) := by decide +kernel
theorem dX12_carts_5 : decode cX12_carts 5 = .ok (.getfield 106, 3) := by decide +kernel
theorem dX12_carts_8 : decode cX12_carts 8 = .ok (.ifCond .ne 6, 3) := by decide +kernel
theorem dX12_carts_11 : decode cX12_carts 11 = .ok (.bipush (-103), 2) := by decide +kernel
theorem dX12_carts_13 : decode cX12_carts 13 = .ok (.ireturn, 1) := by decide +kernel
theorem dX12_carts_14 : decode cX12_carts 14 = .ok (.aload_n 0, 1) := by decide +kernel
theorem dX12_carts_15 : decode cX12_carts 15 = .ok (.aload_n 0, 1) := by decide +kernel
theorem dX12_carts_16 : decode cX12_carts 16 = .ok (.getfield 109, 3) := by decide +kernel
theorem dX12_carts_19 : decode cX12_carts 19 = .ok (.putfield 134, 3) := by decide +kernel
theorem dX12_carts_22 : decode cX12_carts 22 = .ok (.iconst 0, 1) := by decide +kernel
theorem dX12_carts_23 : decode cX12_carts 23 = .ok (.istore_n 1, 1) := by decide +kernel
theorem dX12_carts_24 : decode cX12_carts 24 = .ok (.iload_n 1, 1) := by decide +kernel
theorem dX12_carts_25 : decode cX12_carts 25 = .ok (.aload_n 0, 1) := by decide +kernel
theorem dX12_carts_26 : decode cX12_carts 26 = .ok (.getfield 134, 3) := by decide +kernel
theorem dX12_carts_29 : decode cX12_carts 29 = .ok (.if_icmp .ge 33, 3) := by decide +kernel
theorem dX12_carts_32 : decode cX12_carts 32 = .ok (.aload_n 0, 1) := by decide +kernel
theorem dX12_carts_33 : decode cX12_carts 33 = .ok (.getfield 29, 3) := by decide +kernel
theorem dX12_carts_36 : decode cX12_carts 36 = .ok (.iload_n 1, 1) := by decide +kernel
theorem dX12_carts_37 : decode cX12_carts 37 = .ok (.aload_n 0, 1) := by decide +kernel
theorem dX12_carts_38 : decode cX12_carts 38 = .ok (.getfield 54, 3) := by decide +kernel
theorem dX12_carts_41 : decode cX12_carts 41 = .ok (.iload_n 1, 1) := by decide +kernel
theorem dX12_carts_42 : decode cX12_carts 42 = .ok (.iaload, 1) := by decide +kernel
theorem dX12_carts_43 : decode cX12_carts 43 = .ok (.iastore, 1) := by decide +kernel
theorem dX12_carts_44 : decode cX12_carts 44 = .ok (.aload_n 0, 1) := by decide +kernel
theorem dX12_carts_45 : decode cX12_carts 45 = .ok (.getfield 32, 3) := by decide +kernel
theorem dX12_carts_48 : decode cX12_carts 48 = .ok (.iload_n 1, 1) := by decide +kernel
theorem dX12_carts_49 : decode cX12_carts 49 = .ok (.aload_n 0, 1) := by decide +kernel
theorem dX12_carts_50 : decode cX12_carts 50 = .ok (.getfield 57, 3) := by decide +kernel
theorem dX12_carts_53 : decode cX12_carts 53 = .ok (.iload_n 1, 1) := by decide +kernel
theorem dX12_carts_54 : decode cX12_carts 54 = .ok (.iaload, 1) := by decide +kernel
theorem dX12_carts_55 : decode cX12_carts 55 = .ok (.iastore, 1) := by decide +kernel
theorem dX12_carts_56 : decode cX12_carts 56 = .ok (.iinc 1 1, 3) := by decide +kernel
theorem dX12_carts_59 : decode cX12_carts 59 = .ok (.goto (-35), 3) := by decide +kernel
theorem dX12_carts_62 : decode cX12_carts 62 = .ok (.aload_n 0, 1) := by decide +kernel
theorem dX12_carts_63 : decode cX12_carts 63 = .ok (.iconst 0, 1) := by decide +kernel
theorem dX12_carts_64 : decode cX12_carts 64 = .ok (.putfield 74, 3) := by decide +kernel
theorem dX12_carts_67 : decode cX12_carts 67 = .ok (.aload_n 0, 1) := by decide +kernel
theorem dX12_carts_68 : decode cX12_carts 68 = .ok (.getfield 134, 3) := by decide +kernel
theorem dX12_carts_71 : decode cX12_carts 71 = .ok (.ireturn, 1) := by decide +kernel
theorem dX12_cartNow_0 : decode cX12_cartNow 0 = .ok (.iload_n 2, 1) := by decide +kernel
theorem dX12_cartNow_1 : decode cX12_cartNow 1 = .ok (.ifCond .ne 12, 3) := by decide +kernel
theorem dX12_cartNow_4 : decode cX12_cartNow 4 = .ok (.aload_n 0, 1) := by decide +kernel
theorem dX12_cartNow_5 : decode cX12_cartNow 5 = .ok (.getfield 29, 3) := by decide +kernel
theorem dX12_cartNow_8 : decode cX12_cartNow 8 = .ok (.iload_n 1, 1) := by decide +kernel
theorem dX12_cartNow_9 : decode cX12_cartNow 9 = .ok (.iaload, 1) := by decide +kernel
theorem dX12_cartNow_10 : decode cX12_cartNow 10 = .ok (.goto 9, 3) := by decide +kernel
theorem dX12_cartNow_13 : decode cX12_cartNow 13 = .ok (.aload_n 0, 1) := by decide +kernel
theorem dX12_cartNow_14 : decode cX12_cartNow 14 = .ok (.getfield 32, 3) := by decide +kernel
theorem dX12_cartNow_17 : decode cX12_cartNow 17 = .ok (.iload_n 1, 1) := by decide +kernel
theorem dX12_cartNow_18 : decode cX12_cartNow 18 = .ok (.iaload, 1) := by decide +kernel
theorem dX12_cartNow_19 : decode cX12_cartNow 19 = .ok (.ireturn, 1) := by decide +kernel
theorem dX12_cart_0 : decode cX12_cart 0 = .ok (.iload_n 1, 1) := by decide +kernel
theorem dX12_cart_1 : decode cX12_cart 1 = .ok (.iconst 0, 1) := by decide +kernel
theorem dX12_cart_2 : decode cX12_cart 2 = .ok (.aload_n 0, 1) := by decide +kernel
theorem dX12_cart_3 : decode cX12_cart 3 = .ok (.getfield 134, 3) := by decide +kernel
theorem dX12_cart_6 : decode cX12_cart 6 = .ok (.iconst 1, 1) := by decide +kernel
theorem dX12_cart_7 : decode cX12_cart 7 = .ok (.isub, 1) := by decide +kernel
theorem dX12_cart_8 : decode cX12_cart 8 = .ok (.invokestatic 78, 3) := by decide +kernel
theorem dX12_cart_11 : decode cX12_cart 11 = .ok (.ifCond .ne 8, 3) := by decide +kernel
theorem dX12_cart_14 : decode cX12_cart 14 = .ok (.bipush (-101), 2) := by decide +kernel
theorem dX12_cart_16 : decode cX12_cart 16 = .ok (.goto 23, 3) := by decide +kernel
theorem dX12_cart_19 : decode cX12_cart 19 = .ok (.iload_n 2, 1) := by decide +kernel
theorem dX12_cart_20 : decode cX12_cart 20 = .ok (.iconst 0, 1) := by decide +kernel
theorem dX12_cart_21 : decode cX12_cart 21 = .ok (.iconst 1, 1) := by decide +kernel
theorem dX12_cart_22 : decode cX12_cart 22 = .ok (.invokestatic 78, 3) := by decide +kernel
theorem dX12_cart_25 : decode cX12_cart 25 = .ok (.ifCond .eq 12, 3) := by decide +kernel
theorem dX12_cart_28 : decode cX12_cart 28 = .ok (.aload_n 0, 1) := by decide +kernel
theorem dX12_cart_29 : decode cX12_cart 29 = .ok (.iload_n 1, 1) := by decide +kernel
theorem dX12_cart_30 : decode cX12_cart 30 = .ok (.iload_n 2, 1) := by decide +kernel
theorem dX12_cart_31 : decode cX12_cart 31 = .ok (.invokevirtual 137, 3) := by decide +kernel
theorem dX12_cart_34 : decode cX12_cart 34 = .ok (.goto 5, 3) := by decide +kernel
theorem dX12_cart_37 : decode cX12_cart 37 = .ok (.bipush (-102), 2) := by decide +kernel
theorem dX12_cart_39 : decode cX12_cart 39 = .ok (.ireturn, 1) := by decide +kernel
theorem dX12_cells_0 : decode cX12_cells 0 = .ok (.aload_n 0, 1) := by decide +kernel
theorem dX12_cells_1 : decode cX12_cells 1 = .ok (.getfield 125, 3) := by decide +kernel
theorem dX12_cells_4 : decode cX12_cells 4 = .ok (.aload_n 0, 1) := by decide +kernel
theorem dX12_cells_5 : decode cX12_cells 5 = .ok (.getfield 128, 3) := by decide +kernel
theorem dX12_cells_8 : decode cX12_cells 8 = .ok (.imul, 1) := by decide +kernel
theorem dX12_cells_9 : decode cX12_cells 9 = .ok (.ireturn, 1) := by decide +kernel
theorem dX12_isCell_0 : decode cX12_isCell 0 = .ok (.iload_n 1, 1) := by decide +kernel
theorem dX12_isCell_1 : decode cX12_isCell 1 = .ok (.iconst 0, 1) := by decide +kernel
theorem dX12_isCell_2 : decode cX12_isCell 2 = .ok (.aload_n 0, 1) := by decide +kernel
theorem dX12_isCell_3 : decode cX12_isCell 3 = .ok (.invokevirtual 140, 3) := by decide +kernel
theorem dX12_isCell_6 : decode cX12_isCell 6 = .ok (.iconst 1, 1) := by decide +kernel
theorem dX12_isCell_7 : decode cX12_isCell 7 = .ok (.isub, 1) := by decide +kernel
theorem dX12_isCell_8 : decode cX12_isCell 8 = .ok (.invokestatic 78, 3) := by decide +kernel
theorem dX12_isCell_11 : decode cX12_isCell 11 = .ok (.ireturn, 1) := by decide +kernel
theorem dX12_isStone_0 : decode cX12_isStone 0 = .ok (.aload_n 0, 1) := by decide +kernel
theorem dX12_isStone_1 : decode cX12_isStone 1 = .ok (.iload_n 1, 1) := by decide +kernel
theorem dX12_isStone_2 : decode cX12_isStone 2 = .ok (.invokevirtual 144, 3) := by decide +kernel
theorem dX12_isStone_5 : decode cX12_isStone 5 = .ok (.ifCond .eq 17, 3) := by decide +kernel
theorem dX12_isStone_8 : decode cX12_isStone 8 = .ok (.aload_n 0, 1) := by decide +kernel
theorem dX12_isStone_9 : decode cX12_isStone 9 = .ok (.getfield 7, 3) := by decide +kernel
theorem dX12_isStone_12 : decode cX12_isStone 12 = .ok (.iload_n 1, 1) := by decide +kernel
theorem dX12_isStone_13 : decode cX12_isStone 13 = .ok (.iaload, 1) := by decide +kernel
theorem dX12_isStone_14 : decode cX12_isStone 14 = .ok (.iconst (-1), 1) := by decide +kernel
theorem dX12_isStone_15 : decode cX12_isStone 15 = .ok (.if_icmp .eq 7, 3) := by decide +kernel
theorem dX12_isStone_18 : decode cX12_isStone 18 = .ok (.iconst 1, 1) := by decide +kernel
theorem dX12_isStone_19 : decode cX12_isStone 19 = .ok (.goto 4, 3) := by decide +kernel
theorem dX12_isStone_22 : decode cX12_isStone 22 = .ok (.iconst 0, 1) := by decide +kernel
theorem dX12_isStone_23 : decode cX12_isStone 23 = .ok (.ireturn, 1) := by decide +kernel
theorem dX12_beside_0 : decode cX12_beside 0 = .ok (.iload_n 1, 1) := by decide +kernel
theorem dX12_beside_1 : decode cX12_beside 1 = .ok (.aload_n 0, 1) := by decide +kernel
theorem dX12_beside_2 : decode cX12_beside 2 = .ok (.getfield 128, 3) := by decide +kernel
theorem dX12_beside_5 : decode cX12_beside 5 = .ok (.idiv, 1) := by decide +kernel
theorem dX12_beside_6 : decode cX12_beside 6 = .ok (.iload_n 2, 1) := by decide +kernel
theorem dX12_beside_7 : decode cX12_beside 7 = .ok (.ifCond .ne 7, 3) := by decide +kernel
theorem dX12_beside_10 : decode cX12_beside 10 = .ok (.iconst (-1), 1) := by decide +kernel
theorem dX12_beside_11 : decode cX12_beside 11 = .ok (.goto 13, 3) := by decide +kernel
theorem dX12_beside_14 : decode cX12_beside 14 = .ok (.iload_n 2, 1) := by decide +kernel
theorem dX12_beside_15 : decode cX12_beside 15 = .ok (.iconst 2, 1) := by decide +kernel
theorem dX12_beside_16 : decode cX12_beside 16 = .ok (.if_icmp .ne 7, 3) := by decide +kernel
theorem dX12_beside_19 : decode cX12_beside 19 = .ok (.iconst 1, 1) := by decide +kernel
theorem dX12_beside_20 : decode cX12_beside 20 = .ok (.goto 4, 3) := by decide +kernel
theorem dX12_beside_23 : decode cX12_beside 23 = .ok (.iconst 0, 1) := by decide +kernel
theorem dX12_beside_24 : decode cX12_beside 24 = .ok (.iadd, 1) := by decide +kernel
theorem dX12_beside_25 : decode cX12_beside 25 = .ok (.istore_n 3, 1) := by decide +kernel
theorem dX12_beside_26 : decode cX12_beside 26 = .ok (.iload_n 1, 1) := by decide +kernel
theorem dX12_beside_27 : decode cX12_beside 27 = .ok (.aload_n 0, 1) := by decide +kernel
theorem dX12_beside_28 : decode cX12_beside 28 = .ok (.getfield 128, 3) := by decide +kernel
theorem dX12_beside_31 : decode cX12_beside 31 = .ok (.irem, 1) := by decide +kernel
theorem dX12_beside_32 : decode cX12_beside 32 = .ok (.iload_n 2, 1) := by decide +kernel
theorem dX12_beside_33 : decode cX12_beside 33 = .ok (.iconst 1, 1) := by decide +kernel
theorem dX12_beside_34 : decode cX12_beside 34 = .ok (.if_icmp .ne 7, 3) := by decide +kernel
theorem dX12_beside_37 : decode cX12_beside 37 = .ok (.iconst 1, 1) := by decide +kernel
theorem dX12_beside_38 : decode cX12_beside 38 = .ok (.goto 13, 3) := by decide +kernel
theorem dX12_beside_41 : decode cX12_beside 41 = .ok (.iload_n 2, 1) := by decide +kernel
theorem dX12_beside_42 : decode cX12_beside 42 = .ok (.iconst 3, 1) := by decide +kernel
theorem dX12_beside_43 : decode cX12_beside 43 = .ok (.if_icmp .ne 7, 3) := by decide +kernel
theorem dX12_beside_46 : decode cX12_beside 46 = .ok (.iconst (-1), 1) := by decide +kernel
theorem dX12_beside_47 : decode cX12_beside 47 = .ok (.goto 4, 3) := by decide +kernel
theorem dX12_beside_50 : decode cX12_beside 50 = .ok (.iconst 0, 1) := by decide +kernel
theorem dX12_beside_51 : decode cX12_beside 51 = .ok (.iadd, 1) := by decide +kernel
theorem dX12_beside_52 : decode cX12_beside 52 = .ok (.istore 4, 2) := by decide +kernel
theorem dX12_beside_54 : decode cX12_beside 54 = .ok (.iload_n 3, 1) := by decide +kernel
theorem dX12_beside_55 : decode cX12_beside 55 = .ok (.iconst 0, 1) := by decide +kernel
theorem dX12_beside_56 : decode cX12_beside 56 = .ok (.aload_n 0, 1) := by decide +kernel
theorem dX12_beside_57 : decode cX12_beside 57 = .ok (.getfield 125, 3) := by decide +kernel
theorem dX12_beside_60 : decode cX12_beside 60 = .ok (.iconst 1, 1) := by decide +kernel
theorem dX12_beside_61 : decode cX12_beside 61 = .ok (.isub, 1) := by decide +kernel
theorem dX12_beside_62 : decode cX12_beside 62 = .ok (.invokestatic 78, 3) := by decide +kernel
theorem dX12_beside_65 : decode cX12_beside 65 = .ok (.ifCond .eq 30, 3) := by decide +kernel
theorem dX12_beside_68 : decode cX12_beside 68 = .ok (.iload 4, 2) := by decide +kernel
theorem dX12_beside_70 : decode cX12_beside 70 = .ok (.iconst 0, 1) := by decide +kernel
theorem dX12_beside_71 : decode cX12_beside 71 = .ok (.aload_n 0, 1) := by decide +kernel
theorem dX12_beside_72 : decode cX12_beside 72 = .ok (.getfield 128, 3) := by decide +kernel
theorem dX12_beside_75 : decode cX12_beside 75 = .ok (.iconst 1, 1) := by decide +kernel
theorem dX12_beside_76 : decode cX12_beside 76 = .ok (.isub, 1) := by decide +kernel
theorem dX12_beside_77 : decode cX12_beside 77 = .ok (.invokestatic 78, 3) := by decide +kernel
theorem dX12_beside_80 : decode cX12_beside 80 = .ok (.ifCond .eq 15, 3) := by decide +kernel
theorem dX12_beside_83 : decode cX12_beside 83 = .ok (.iload_n 3, 1) := by decide +kernel
theorem dX12_beside_84 : decode cX12_beside 84 = .ok (.aload_n 0, 1) := by decide +kernel
theorem dX12_beside_85 : decode cX12_beside 85 = .ok (.getfield 128, 3) := by decide +kernel
theorem dX12_beside_88 : decode cX12_beside 88 = .ok (.imul, 1) := by decide +kernel
theorem dX12_beside_89 : decode cX12_beside 89 = .ok (.iload 4, 2) := by decide +kernel
theorem dX12_beside_91 : decode cX12_beside 91 = .ok (.iadd, 1) := by decide +kernel
theorem dX12_beside_92 : decode cX12_beside 92 = .ok (.goto 4, 3) := by decide +kernel
theorem dX12_beside_95 : decode cX12_beside 95 = .ok (.iconst (-1), 1) := by decide +kernel
theorem dX12_beside_96 : decode cX12_beside 96 = .ok (.ireturn, 1) := by decide +kernel
theorem dX12_grip_0 : decode cX12_grip 0 = .ok (.aload_n 0, 1) := by decide +kernel
theorem dX12_grip_1 : decode cX12_grip 1 = .ok (.getfield 7, 3) := by decide +kernel
theorem dX12_grip_4 : decode cX12_grip 4 = .ok (.iload_n 1, 1) := by decide +kernel
theorem dX12_grip_5 : decode cX12_grip 5 = .ok (.iaload, 1) := by decide +kernel
theorem dX12_grip_6 : decode cX12_grip 6 = .ok (.tableswitch 40 0 4 #[34, 36, 40, 40, 38], 34) := by decide +kernel
theorem dX12_grip_40 : decode cX12_grip 40 = .ok (.iconst 2, 1) := by decide +kernel
theorem dX12_grip_41 : decode cX12_grip 41 = .ok (.ireturn, 1) := by decide +kernel
theorem dX12_grip_42 : decode cX12_grip 42 = .ok (.iconst 1, 1) := by decide +kernel
theorem dX12_grip_43 : decode cX12_grip 43 = .ok (.ireturn, 1) := by decide +kernel
theorem dX12_grip_44 : decode cX12_grip 44 = .ok (.iconst 3, 1) := by decide +kernel
theorem dX12_grip_45 : decode cX12_grip 45 = .ok (.ireturn, 1) := by decide +kernel
theorem dX12_grip_46 : decode cX12_grip 46 = .ok (.iconst 0, 1) := by decide +kernel
theorem dX12_grip_47 : decode cX12_grip 47 = .ok (.ireturn, 1) := by decide +kernel
theorem dX12_hold_0 : decode cX12_hold 0 = .ok (.aload_n 0, 1) := by decide +kernel
theorem dX12_hold_1 : decode cX12_hold 1 = .ok (.getfield 22, 3) := by decide +kernel
theorem dX12_hold_4 : decode cX12_hold 4 = .ok (.iload_n 1, 1) := by decide +kernel
theorem dX12_hold_5 : decode cX12_hold 5 = .ok (.iaload, 1) := by decide +kernel
theorem dX12_hold_6 : decode cX12_hold 6 = .ok (.istore_n 2, 1) := by decide +kernel
theorem dX12_hold_7 : decode cX12_hold 7 = .ok (.iconst 0, 1) := by decide +kernel
theorem dX12_hold_8 : decode cX12_hold 8 = .ok (.istore_n 3, 1) := by decide +kernel
theorem dX12_hold_9 : decode cX12_hold 9 = .ok (.iload_n 3, 1) := by decide +kernel
theorem dX12_hold_10 : decode cX12_hold 10 = .ok (.iconst 4, 1) := by decide +kernel
theorem dX12_hold_11 : decode cX12_hold 11 = .ok (.if_icmp .ge 36, 3) := by decide +kernel
theorem dX12_hold_14 : decode cX12_hold 14 = .ok (.aload_n 0, 1) := by decide +kernel
theorem dX12_hold_15 : decode cX12_hold 15 = .ok (.iload_n 1, 1) := by decide +kernel
theorem dX12_hold_16 : decode cX12_hold 16 = .ok (.iload_n 3, 1) := by decide +kernel
theorem dX12_hold_17 : decode cX12_hold 17 = .ok (.invokevirtual 147, 3) := by decide +kernel
theorem dX12_hold_20 : decode cX12_hold 20 = .ok (.istore 4, 2) := by decide +kernel
theorem dX12_hold_22 : decode cX12_hold 22 = .ok (.iload_n 2, 1) := by decide +kernel
theorem dX12_hold_23 : decode cX12_hold 23 = .ok (.iload 4, 2) := by decide +kernel
theorem dX12_hold_25 : decode cX12_hold 25 = .ok (.iconst (-1), 1) := by decide +kernel
theorem dX12_hold_26 : decode cX12_hold 26 = .ok (.if_icmp .ne 7, 3) := by decide +kernel
theorem dX12_hold_29 : decode cX12_hold 29 = .ok (.iconst 0, 1) := by decide +kernel
theorem dX12_hold_30 : decode cX12_hold 30 = .ok (.goto 9, 3) := by decide +kernel
theorem dX12_hold_33 : decode cX12_hold 33 = .ok (.aload_n 0, 1) := by decide +kernel
theorem dX12_hold_34 : decode cX12_hold 34 = .ok (.iload 4, 2) := by decide +kernel
theorem dX12_hold_36 : decode cX12_hold 36 = .ok (.invokevirtual 150, 3) := by decide +kernel
theorem dX12_hold_39 : decode cX12_hold 39 = .ok (.iadd, 1) := by decide +kernel
theorem dX12_hold_40 : decode cX12_hold 40 = .ok (.istore_n 2, 1) := by decide +kernel
theorem dX12_hold_41 : decode cX12_hold 41 = .ok (.iinc 3 1, 3) := by decide +kernel
theorem dX12_hold_44 : decode cX12_hold 44 = .ok (.goto (-35), 3) := by decide +kernel
theorem dX12_hold_47 : decode cX12_hold 47 = .ok (.iload_n 2, 1) := by decide +kernel
theorem dX12_hold_48 : decode cX12_hold 48 = .ok (.ireturn, 1) := by decide +kernel
theorem dX12_cellNow_0 : decode cX12_cellNow 0 = .ok (.iload_n 2, 1) := by decide +kernel
theorem dX12_cellNow_1 : decode cX12_cellNow 1 = .ok (.tableswitch 70 0 4 #[35, 42, 49, 56, 63], 35) := by decide +kernel
theorem dX12_cellNow_36 : decode cX12_cellNow 36 = .ok (.aload_n 0, 1) := by decide +kernel
theorem dX12_cellNow_37 : decode cX12_cellNow 37 = .ok (.getfield 7, 3) := by decide +kernel
theorem dX12_cellNow_40 : decode cX12_cellNow 40 = .ok (.iload_n 1, 1) := by decide +kernel
theorem dX12_cellNow_41 : decode cX12_cellNow 41 = .ok (.iaload, 1) := by decide +kernel
theorem dX12_cellNow_42 : decode cX12_cellNow 42 = .ok (.ireturn, 1) := by decide +kernel
theorem dX12_cellNow_43 : decode cX12_cellNow 43 = .ok (.aload_n 0, 1) := by decide +kernel
theorem dX12_cellNow_44 : decode cX12_cellNow 44 = .ok (.getfield 13, 3) := by decide +kernel
theorem dX12_cellNow_47 : decode cX12_cellNow 47 = .ok (.iload_n 1, 1) := by decide +kernel
theorem dX12_cellNow_48 : decode cX12_cellNow 48 = .ok (.iaload, 1) := by decide +kernel
theorem dX12_cellNow_49 : decode cX12_cellNow 49 = .ok (.ireturn, 1) := by decide +kernel
theorem dX12_cellNow_50 : decode cX12_cellNow 50 = .ok (.aload_n 0, 1) := by decide +kernel
theorem dX12_cellNow_51 : decode cX12_cellNow 51 = .ok (.getfield 16, 3) := by decide +kernel
theorem dX12_cellNow_54 : decode cX12_cellNow 54 = .ok (.iload_n 1, 1) := by decide +kernel
theorem dX12_cellNow_55 : decode cX12_cellNow 55 = .ok (.iaload, 1) := by decide +kernel
theorem dX12_cellNow_56 : decode cX12_cellNow 56 = .ok (.ireturn, 1) := by decide +kernel
theorem dX12_cellNow_57 : decode cX12_cellNow 57 = .ok (.aload_n 0, 1) := by decide +kernel
theorem dX12_cellNow_58 : decode cX12_cellNow 58 = .ok (.getfield 19, 3) := by decide +kernel
theorem dX12_cellNow_61 : decode cX12_cellNow 61 = .ok (.iload_n 1, 1) := by decide +kernel
theorem dX12_cellNow_62 : decode cX12_cellNow 62 = .ok (.iaload, 1) := by decide +kernel
theorem dX12_cellNow_63 : decode cX12_cellNow 63 = .ok (.ireturn, 1) := by decide +kernel
theorem dX12_cellNow_64 : decode cX12_cellNow 64 = .ok (.aload_n 0, 1) := by decide +kernel
theorem dX12_cellNow_65 : decode cX12_cellNow 65 = .ok (.getfield 22, 3) := by decide +kernel
theorem dX12_cellNow_68 : decode cX12_cellNow 68 = .ok (.iload_n 1, 1) := by decide +kernel
theorem dX12_cellNow_69 : decode cX12_cellNow 69 = .ok (.iaload, 1) := by decide +kernel
theorem dX12_cellNow_70 : decode cX12_cellNow 70 = .ok (.ireturn, 1) := by decide +kernel
theorem dX12_cellNow_71 : decode cX12_cellNow 71 = .ok (.aload_n 0, 1) := by decide +kernel
theorem dX12_cellNow_72 : decode cX12_cellNow 72 = .ok (.iload_n 1, 1) := by decide +kernel
theorem dX12_cellNow_73 : decode cX12_cellNow 73 = .ok (.invokevirtual 153, 3) := by decide +kernel
theorem dX12_cellNow_76 : decode cX12_cellNow 76 = .ok (.ireturn, 1) := by decide +kernel
theorem dX12_cell_0 : decode cX12_cell 0 = .ok (.aload_n 0, 1) := by decide +kernel
theorem dX12_cell_1 : decode cX12_cell 1 = .ok (.iload_n 1, 1) := by decide +kernel
theorem dX12_cell_2 : decode cX12_cell 2 = .ok (.invokevirtual 144, 3) := by decide +kernel
theorem dX12_cell_5 : decode cX12_cell 5 = .ok (.ifCond .ne 9, 3) := by decide +kernel
theorem dX12_cell_8 : decode cX12_cell 8 = .ok (.sipush (-1001), 3) := by decide +kernel
theorem dX12_cell_11 : decode cX12_cell 11 = .ok (.goto 24, 3) := by decide +kernel
theorem dX12_cell_14 : decode cX12_cell 14 = .ok (.iload_n 2, 1) := by decide +kernel
theorem dX12_cell_15 : decode cX12_cell 15 = .ok (.iconst 0, 1) := by decide +kernel
theorem dX12_cell_16 : decode cX12_cell 16 = .ok (.iconst 5, 1) := by decide +kernel
theorem dX12_cell_17 : decode cX12_cell 17 = .ok (.invokestatic 78, 3) := by decide +kernel
theorem dX12_cell_20 : decode cX12_cell 20 = .ok (.ifCond .eq 12, 3) := by decide +kernel
theorem dX12_cell_23 : decode cX12_cell 23 = .ok (.aload_n 0, 1) := by decide +kernel
theorem dX12_cell_24 : decode cX12_cell 24 = .ok (.iload_n 1, 1) := by decide +kernel
theorem dX12_cell_25 : decode cX12_cell 25 = .ok (.iload_n 2, 1) := by decide +kernel
theorem dX12_cell_26 : decode cX12_cell 26 = .ok (.invokevirtual 156, 3) := by decide +kernel
theorem dX12_cell_29 : decode cX12_cell 29 = .ok (.goto 6, 3) := by decide +kernel
theorem dX12_cell_32 : decode cX12_cell 32 = .ok (.sipush (-1002), 3) := by decide +kernel
theorem dX12_cell_35 : decode cX12_cell 35 = .ok (.ireturn, 1) := by decide +kernel
theorem dX12_as_0 : decode cX12_as 0 = .ok (.aload_n 0, 1) := by decide +kernel
theorem dX12_as_1 : decode cX12_as 1 = .ok (.iload_n 1, 1) := by decide +kernel
theorem dX12_as_2 : decode cX12_as 2 = .ok (.invokevirtual 144, 3) := by decide +kernel
theorem dX12_as_5 : decode cX12_as 5 = .ok (.ifCond .ne 6, 3) := by decide +kernel
theorem dX12_as_8 : decode cX12_as 8 = .ok (.bipush (-101), 2) := by decide +kernel
theorem dX12_as_10 : decode cX12_as 10 = .ok (.ireturn, 1) := by decide +kernel
theorem dX12_as_11 : decode cX12_as 11 = .ok (.iload_n 2, 1) := by decide +kernel
theorem dX12_as_12 : decode cX12_as 12 = .ok (.iconst 0, 1) := by decide +kernel
theorem dX12_as_13 : decode cX12_as 13 = .ok (.iconst 4, 1) := by decide +kernel
theorem dX12_as_14 : decode cX12_as 14 = .ok (.invokestatic 78, 3) := by decide +kernel
theorem dX12_as_17 : decode cX12_as 17 = .ok (.ifCond .ne 6, 3) := by decide +kernel
theorem dX12_as_20 : decode cX12_as 20 = .ok (.bipush (-102), 2) := by decide +kernel
theorem dX12_as_22 : decode cX12_as 22 = .ok (.ireturn, 1) := by decide +kernel
theorem dX12_as_23 : decode cX12_as 23 = .ok (.aload_n 0, 1) := by decide +kernel
theorem dX12_as_24 : decode cX12_as 24 = .ok (.getfield 7, 3) := by decide +kernel
theorem dX12_as_27 : decode cX12_as 27 = .ok (.iload_n 1, 1) := by decide +kernel
theorem dX12_as_28 : decode cX12_as 28 = .ok (.iaload, 1) := by decide +kernel
theorem dX12_as_29 : decode cX12_as 29 = .ok (.istore_n 3, 1) := by decide +kernel
theorem dX12_as_30 : decode cX12_as 30 = .ok (.iload_n 3, 1) := by decide +kernel
theorem dX12_as_31 : decode cX12_as 31 = .ok (.iconst (-1), 1) := by decide +kernel
theorem dX12_as_32 : decode cX12_as 32 = .ok (.if_icmp .eq 26, 3) := by decide +kernel
theorem dX12_as_35 : decode cX12_as 35 = .ok (.iload_n 2, 1) := by decide +kernel
theorem dX12_as_36 : decode cX12_as 36 = .ok (.ifCond .eq 18, 3) := by decide +kernel
theorem dX12_as_39 : decode cX12_as 39 = .ok (.iload_n 3, 1) := by decide +kernel
theorem dX12_as_40 : decode cX12_as 40 = .ok (.iload_n 2, 1) := by decide +kernel
theorem dX12_as_41 : decode cX12_as 41 = .ok (.if_icmp .eq 13, 3) := by decide +kernel
theorem dX12_as_44 : decode cX12_as 44 = .ok (.iload_n 2, 1) := by decide +kernel
theorem dX12_as_45 : decode cX12_as 45 = .ok (.iconst 2, 1) := by decide +kernel
theorem dX12_as_46 : decode cX12_as 46 = .ok (.if_icmp .ne 12, 3) := by decide +kernel
theorem dX12_as_49 : decode cX12_as 49 = .ok (.iload_n 3, 1) := by decide +kernel
theorem dX12_as_50 : decode cX12_as 50 = .ok (.iconst 3, 1) := by decide +kernel
theorem dX12_as_51 : decode cX12_as 51 = .ok (.if_icmp .ne 7, 3) := by decide +kernel
theorem dX12_as_54 : decode cX12_as 54 = .ok (.iload_n 1, 1) := by decide +kernel
theorem dX12_as_55 : decode cX12_as 55 = .ok (.goto 4, 3) := by decide +kernel
theorem dX12_as_58 : decode cX12_as 58 = .ok (.iconst (-1), 1) := by decide +kernel
theorem dX12_as_59 : decode cX12_as 59 = .ok (.ireturn, 1) := by decide +kernel
theorem dX12_stoneMany_0 : decode cX12_stoneMany 0 = .ok (.iconst 0, 1) := by decide +kernel
theorem dX12_stoneMany_1 : decode cX12_stoneMany 1 = .ok (.istore_n 1, 1) := by decide +kernel
theorem dX12_stoneMany_2 : decode cX12_stoneMany 2 = .ok (.iconst 0, 1) := by decide +kernel
theorem dX12_stoneMany_3 : decode cX12_stoneMany 3 = .ok (.istore_n 2, 1) := by decide +kernel
theorem dX12_stoneMany_4 : decode cX12_stoneMany 4 = .ok (.iload_n 2, 1) := by decide +kernel
theorem dX12_stoneMany_5 : decode cX12_stoneMany 5 = .ok (.aload_n 0, 1) := by decide +kernel
theorem dX12_stoneMany_6 : decode cX12_stoneMany 6 = .ok (.invokevirtual 140, 3) := by decide +kernel
theorem dX12_stoneMany_9 : decode cX12_stoneMany 9 = .ok (.if_icmp .ge 27, 3) := by decide +kernel
theorem dX12_stoneMany_12 : decode cX12_stoneMany 12 = .ok (.iload_n 1, 1) := by decide +kernel
theorem dX12_stoneMany_13 : decode cX12_stoneMany 13 = .ok (.aload_n 0, 1) := by decide +kernel
theorem dX12_stoneMany_14 : decode cX12_stoneMany 14 = .ok (.getfield 7, 3) := by decide +kernel
theorem dX12_stoneMany_17 : decode cX12_stoneMany 17 = .ok (.iload_n 2, 1) := by decide +kernel
theorem dX12_stoneMany_18 : decode cX12_stoneMany 18 = .ok (.iaload, 1) := by decide +kernel
theorem dX12_stoneMany_19 : decode cX12_stoneMany 19 = .ok (.iconst (-1), 1) := by decide +kernel
theorem dX12_stoneMany_20 : decode cX12_stoneMany 20 = .ok (.if_icmp .ne 7, 3) := by decide +kernel
theorem dX12_stoneMany_23 : decode cX12_stoneMany 23 = .ok (.iconst 0, 1) := by decide +kernel
theorem dX12_stoneMany_24 : decode cX12_stoneMany 24 = .ok (.goto 4, 3) := by decide +kernel
theorem dX12_stoneMany_27 : decode cX12_stoneMany 27 = .ok (.iconst 1, 1) := by decide +kernel
theorem dX12_stoneMany_28 : decode cX12_stoneMany 28 = .ok (.iadd, 1) := by decide +kernel
theorem dX12_stoneMany_29 : decode cX12_stoneMany 29 = .ok (.istore_n 1, 1) := by decide +kernel
theorem dX12_stoneMany_30 : decode cX12_stoneMany 30 = .ok (.iinc 2 1, 3) := by decide +kernel
theorem dX12_stoneMany_33 : decode cX12_stoneMany 33 = .ok (.goto (-29), 3) := by decide +kernel
theorem dX12_stoneMany_36 : decode cX12_stoneMany 36 = .ok (.iload_n 1, 1) := by decide +kernel
theorem dX12_stoneMany_37 : decode cX12_stoneMany 37 = .ok (.ireturn, 1) := by decide +kernel
theorem dX12_set_0 : decode cX12_set 0 = .ok (.aload_n 0, 1) := by decide +kernel
theorem dX12_set_1 : decode cX12_set 1 = .ok (.getfield 131, 3) := by decide +kernel
theorem dX12_set_4 : decode cX12_set 4 = .ok (.ifCond .ne 6, 3) := by decide +kernel
theorem dX12_set_7 : decode cX12_set 7 = .ok (.bipush (-103), 2) := by decide +kernel
theorem dX12_set_9 : decode cX12_set 9 = .ok (.ireturn, 1) := by decide +kernel
theorem dX12_set_10 : decode cX12_set 10 = .ok (.iload_n 1, 1) := by decide +kernel
theorem dX12_set_11 : decode cX12_set 11 = .ok (.iconst 0, 1) := by decide +kernel
theorem dX12_set_12 : decode cX12_set 12 = .ok (.bipush 40, 2) := by decide +kernel
theorem dX12_set_14 : decode cX12_set 14 = .ok (.invokestatic 78, 3) := by decide +kernel
theorem dX12_set_17 : decode cX12_set 17 = .ok (.ifCond .ne 6, 3) := by decide +kernel
theorem dX12_set_20 : decode cX12_set 20 = .ok (.bipush (-102), 2) := by decide +kernel
theorem dX12_set_22 : decode cX12_set 22 = .ok (.ireturn, 1) := by decide +kernel
theorem dX12_set_23 : decode cX12_set 23 = .ok (.iconst 0, 1) := by decide +kernel
theorem dX12_set_24 : decode cX12_set 24 = .ok (.istore_n 2, 1) := by decide +kernel
theorem dX12_set_25 : decode cX12_set 25 = .ok (.iload_n 2, 1) := by decide +kernel
theorem dX12_set_26 : decode cX12_set 26 = .ok (.aload_n 0, 1) := by decide +kernel
theorem dX12_set_27 : decode cX12_set 27 = .ok (.invokevirtual 140, 3) := by decide +kernel
theorem dX12_set_30 : decode cX12_set 30 = .ok (.if_icmp .ge 33, 3) := by decide +kernel
theorem dX12_set_33 : decode cX12_set 33 = .ok (.aload_n 0, 1) := by decide +kernel
theorem dX12_set_34 : decode cX12_set 34 = .ok (.getfield 7, 3) := by decide +kernel
theorem dX12_set_37 : decode cX12_set 37 = .ok (.iload_n 2, 1) := by decide +kernel
theorem dX12_set_38 : decode cX12_set 38 = .ok (.iaload, 1) := by decide +kernel
theorem dX12_set_39 : decode cX12_set 39 = .ok (.iconst (-1), 1) := by decide +kernel
theorem dX12_set_40 : decode cX12_set 40 = .ok (.if_icmp .eq 17, 3) := by decide +kernel
theorem dX12_set_43 : decode cX12_set 43 = .ok (.aload_n 0, 1) := by decide +kernel
theorem dX12_set_44 : decode cX12_set 44 = .ok (.getfield 16, 3) := by decide +kernel
theorem dX12_set_47 : decode cX12_set 47 = .ok (.iload_n 2, 1) := by decide +kernel
theorem dX12_set_48 : decode cX12_set 48 = .ok (.iload_n 1, 1) := by decide +kernel
theorem dX12_set_49 : decode cX12_set 49 = .ok (.iastore, 1) := by decide +kernel
theorem dX12_set_50 : decode cX12_set 50 = .ok (.aload_n 0, 1) := by decide +kernel
theorem dX12_set_51 : decode cX12_set 51 = .ok (.getfield 19, 3) := by decide +kernel
theorem dX12_set_54 : decode cX12_set 54 = .ok (.iload_n 2, 1) := by decide +kernel
theorem dX12_set_55 : decode cX12_set 55 = .ok (.iconst 0, 1) := by decide +kernel
theorem dX12_set_56 : decode cX12_set 56 = .ok (.iastore, 1) := by decide +kernel
theorem dX12_set_57 : decode cX12_set 57 = .ok (.iinc 2 1, 3) := by decide +kernel
theorem dX12_set_60 : decode cX12_set 60 = .ok (.goto (-35), 3) := by decide +kernel
theorem dX12_set_63 : decode cX12_set 63 = .ok (.aload_n 0, 1) := by decide +kernel
theorem dX12_set_64 : decode cX12_set 64 = .ok (.invokevirtual 159, 3) := by decide +kernel
theorem dX12_set_67 : decode cX12_set 67 = .ok (.ireturn, 1) := by decide +kernel
theorem dX12_grit_0 : decode cX12_grit 0 = .ok (.aload_n 0, 1) := by decide +kernel
theorem dX12_grit_1 : decode cX12_grit 1 = .ok (.getfield 131, 3) := by decide +kernel
theorem dX12_grit_4 : decode cX12_grit 4 = .ok (.ifCond .ne 6, 3) := by decide +kernel
theorem dX12_grit_7 : decode cX12_grit 7 = .ok (.bipush (-103), 2) := by decide +kernel
theorem dX12_grit_9 : decode cX12_grit 9 = .ok (.ireturn, 1) := by decide +kernel
theorem dX12_grit_10 : decode cX12_grit 10 = .ok (.iload_n 1, 1) := by decide +kernel
theorem dX12_grit_11 : decode cX12_grit 11 = .ok (.iconst 0, 1) := by decide +kernel
theorem dX12_grit_12 : decode cX12_grit 12 = .ok (.bipush 9, 2) := by decide +kernel
theorem dX12_grit_14 : decode cX12_grit 14 = .ok (.invokestatic 78, 3) := by decide +kernel
theorem dX12_grit_17 : decode cX12_grit 17 = .ok (.ifCond .ne 6, 3) := by decide +kernel
theorem dX12_grit_20 : decode cX12_grit 20 = .ok (.bipush (-102), 2) := by decide +kernel
theorem dX12_grit_22 : decode cX12_grit 22 = .ok (.ireturn, 1) := by decide +kernel
theorem dX12_grit_23 : decode cX12_grit 23 = .ok (.iconst 0, 1) := by decide +kernel
theorem dX12_grit_24 : decode cX12_grit 24 = .ok (.istore_n 2, 1) := by decide +kernel
theorem dX12_grit_25 : decode cX12_grit 25 = .ok (.iload_n 2, 1) := by decide +kernel
theorem dX12_grit_26 : decode cX12_grit 26 = .ok (.aload_n 0, 1) := by decide +kernel
theorem dX12_grit_27 : decode cX12_grit 27 = .ok (.invokevirtual 140, 3) := by decide +kernel
theorem dX12_grit_30 : decode cX12_grit 30 = .ok (.if_icmp .ge 35, 3) := by decide +kernel
theorem dX12_grit_33 : decode cX12_grit 33 = .ok (.aload_n 0, 1) := by decide +kernel
theorem dX12_grit_34 : decode cX12_grit 34 = .ok (.getfield 22, 3) := by decide +kernel
theorem dX12_grit_37 : decode cX12_grit 37 = .ok (.iload_n 2, 1) := by decide +kernel
theorem dX12_grit_38 : decode cX12_grit 38 = .ok (.aload_n 0, 1) := by decide +kernel
theorem dX12_grit_39 : decode cX12_grit 39 = .ok (.getfield 7, 3) := by decide +kernel
theorem dX12_grit_42 : decode cX12_grit 42 = .ok (.iload_n 2, 1) := by decide +kernel
theorem dX12_grit_43 : decode cX12_grit 43 = .ok (.iaload, 1) := by decide +kernel
theorem dX12_grit_44 : decode cX12_grit 44 = .ok (.iconst (-1), 1) := by decide +kernel
theorem dX12_grit_45 : decode cX12_grit 45 = .ok (.if_icmp .ne 12, 3) := by decide +kernel
theorem dX12_grit_48 : decode cX12_grit 48 = .ok (.aload_n 0, 1) := by decide +kernel
theorem dX12_grit_49 : decode cX12_grit 49 = .ok (.getfield 22, 3) := by decide +kernel
theorem dX12_grit_52 : decode cX12_grit 52 = .ok (.iload_n 2, 1) := by decide +kernel
theorem dX12_grit_53 : decode cX12_grit 53 = .ok (.iaload, 1) := by decide +kernel
theorem dX12_grit_54 : decode cX12_grit 54 = .ok (.goto 4, 3) := by decide +kernel
theorem dX12_grit_57 : decode cX12_grit 57 = .ok (.iload_n 1, 1) := by decide +kernel
theorem dX12_grit_58 : decode cX12_grit 58 = .ok (.iastore, 1) := by decide +kernel
theorem dX12_grit_59 : decode cX12_grit 59 = .ok (.iinc 2 1, 3) := by decide +kernel
theorem dX12_grit_62 : decode cX12_grit 62 = .ok (.goto (-37), 3) := by decide +kernel
theorem dX12_grit_65 : decode cX12_grit 65 = .ok (.aload_n 0, 1) := by decide +kernel
theorem dX12_grit_66 : decode cX12_grit 66 = .ok (.invokevirtual 159, 3) := by decide +kernel
theorem dX12_grit_69 : decode cX12_grit 69 = .ok (.ireturn, 1) := by decide +kernel
theorem dX12_isWeight_0 : decode cX12_isWeight 0 = .ok (.iload_n 0, 1) := by decide +kernel
theorem dX12_isWeight_1 : decode cX12_isWeight 1 = .ok (.iconst 1, 1) := by decide +kernel
theorem dX12_isWeight_2 : decode cX12_isWeight 2 = .ok (.bipush 99, 2) := by decide +kernel
theorem dX12_isWeight_4 : decode cX12_isWeight 4 = .ok (.invokestatic 78, 3) := by decide +kernel
theorem dX12_isWeight_7 : decode cX12_isWeight 7 = .ok (.ireturn, 1) := by decide +kernel
theorem dX12_sinks_0 : decode cX12_sinks 0 = .ok (.iload_n 2, 1) := by decide +kernel
theorem dX12_sinks_1 : decode cX12_sinks 1 = .ok (.iconst 4, 1) := by decide +kernel
theorem dX12_sinks_2 : decode cX12_sinks 2 = .ok (.aload_n 0, 1) := by decide +kernel
theorem dX12_sinks_3 : decode cX12_sinks 3 = .ok (.iload_n 1, 1) := by decide +kernel
theorem dX12_sinks_4 : decode cX12_sinks 4 = .ok (.invokevirtual 153, 3) := by decide +kernel
theorem dX12_sinks_7 : decode cX12_sinks 7 = .ok (.iadd, 1) := by decide +kernel
theorem dX12_sinks_8 : decode cX12_sinks 8 = .ok (.aload_n 0, 1) := by decide +kernel
theorem dX12_sinks_9 : decode cX12_sinks 9 = .ok (.getfield 19, 3) := by decide +kernel
theorem dX12_sinks_12 : decode cX12_sinks 12 = .ok (.iload_n 1, 1) := by decide +kernel
theorem dX12_sinks_13 : decode cX12_sinks 13 = .ok (.iaload, 1) := by decide +kernel
theorem dX12_sinks_14 : decode cX12_sinks 14 = .ok (.iadd, 1) := by decide +kernel
theorem dX12_sinks_15 : decode cX12_sinks 15 = .ok (.idiv, 1) := by decide +kernel
theorem dX12_sinks_16 : decode cX12_sinks 16 = .ok (.istore_n 3, 1) := by decide +kernel
theorem dX12_sinks_17 : decode cX12_sinks 17 = .ok (.aload_n 0, 1) := by decide +kernel
theorem dX12_sinks_18 : decode cX12_sinks 18 = .ok (.getfield 7, 3) := by decide +kernel
theorem dX12_sinks_21 : decode cX12_sinks 21 = .ok (.iload_n 1, 1) := by decide +kernel
theorem dX12_sinks_22 : decode cX12_sinks 22 = .ok (.iaload, 1) := by decide +kernel
theorem dX12_sinks_23 : decode cX12_sinks 23 = .ok (.tableswitch 37 2 4 #[25, 29, 35], 25) := by decide +kernel
theorem dX12_sinks_48 : decode cX12_sinks 48 = .ok (.iload_n 3, 1) := by decide +kernel
theorem dX12_sinks_49 : decode cX12_sinks 49 = .ok (.iconst 1, 1) := by decide +kernel
theorem dX12_sinks_50 : decode cX12_sinks 50 = .ok (.iadd, 1) := by decide +kernel
theorem dX12_sinks_51 : decode cX12_sinks 51 = .ok (.ireturn, 1) := by decide +kernel
theorem dX12_sinks_52 : decode cX12_sinks 52 = .ok (.iconst 2, 1) := by decide +kernel
theorem dX12_sinks_53 : decode cX12_sinks 53 = .ok (.iload_n 3, 1) := by decide +kernel
theorem dX12_sinks_54 : decode cX12_sinks 54 = .ok (.iconst 1, 1) := by decide +kernel
theorem dX12_sinks_55 : decode cX12_sinks 55 = .ok (.iadd, 1) := by decide +kernel
theorem dX12_sinks_56 : decode cX12_sinks 56 = .ok (.imul, 1) := by decide +kernel
theorem dX12_sinks_57 : decode cX12_sinks 57 = .ok (.ireturn, 1) := by decide +kernel
theorem dX12_sinks_58 : decode cX12_sinks 58 = .ok (.iconst 0, 1) := by decide +kernel
theorem dX12_sinks_59 : decode cX12_sinks 59 = .ok (.ireturn, 1) := by decide +kernel
theorem dX12_sinks_60 : decode cX12_sinks 60 = .ok (.iload_n 3, 1) := by decide +kernel
theorem dX12_sinks_61 : decode cX12_sinks 61 = .ok (.ireturn, 1) := by decide +kernel
theorem dX12_goBlow_0 : decode cX12_goBlow 0 = .ok (.aload_n 0, 1) := by decide +kernel
theorem dX12_goBlow_1 : decode cX12_goBlow 1 = .ok (.iload_n 1, 1) := by decide +kernel
theorem dX12_goBlow_2 : decode cX12_goBlow 2 = .ok (.iload_n 2, 1) := by decide +kernel
theorem dX12_goBlow_3 : decode cX12_goBlow 3 = .ok (.invokevirtual 162, 3) := by decide +kernel
theorem dX12_goBlow_6 : decode cX12_goBlow 6 = .ok (.istore_n 3, 1) := by decide +kernel
theorem dX12_goBlow_7 : decode cX12_goBlow 7 = .ok (.aload_n 0, 1) := by decide +kernel
theorem dX12_goBlow_8 : decode cX12_goBlow 8 = .ok (.getfield 16, 3) := by decide +kernel
theorem dX12_goBlow_11 : decode cX12_goBlow 11 = .ok (.iload_n 1, 1) := by decide +kernel
theorem dX12_goBlow_12 : decode cX12_goBlow 12 = .ok (.dup2, 1) := by decide +kernel
theorem dX12_goBlow_13 : decode cX12_goBlow 13 = .ok (.iaload, 1) := by decide +kernel
theorem dX12_goBlow_14 : decode cX12_goBlow 14 = .ok (.iload_n 3, 1) := by decide +kernel
theorem dX12_goBlow_15 : decode cX12_goBlow 15 = .ok (.isub, 1) := by decide +kernel
theorem dX12_goBlow_16 : decode cX12_goBlow 16 = .ok (.iastore, 1) := by decide +kernel
theorem dX12_goBlow_17 : decode cX12_goBlow 17 = .ok (.aload_n 0, 1) := by decide +kernel
theorem dX12_goBlow_18 : decode cX12_goBlow 18 = .ok (.getfield 7, 3) := by decide +kernel
theorem dX12_goBlow_21 : decode cX12_goBlow 21 = .ok (.iload_n 1, 1) := by decide +kernel
theorem dX12_goBlow_22 : decode cX12_goBlow 22 = .ok (.iaload, 1) := by decide +kernel
theorem dX12_goBlow_23 : decode cX12_goBlow 23 = .ok (.iconst 4, 1) := by decide +kernel
theorem dX12_goBlow_24 : decode cX12_goBlow 24 = .ok (.if_icmp .eq 28, 3) := by decide +kernel
theorem dX12_goBlow_27 : decode cX12_goBlow 27 = .ok (.aload_n 0, 1) := by decide +kernel
theorem dX12_goBlow_28 : decode cX12_goBlow 28 = .ok (.getfield 19, 3) := by decide +kernel
theorem dX12_goBlow_31 : decode cX12_goBlow 31 = .ok (.iload_n 1, 1) := by decide +kernel
theorem dX12_goBlow_32 : decode cX12_goBlow 32 = .ok (.dup2, 1) := by decide +kernel
theorem dX12_goBlow_33 : decode cX12_goBlow 33 = .ok (.iaload, 1) := by decide +kernel
theorem dX12_goBlow_34 : decode cX12_goBlow 34 = .ok (.aload_n 0, 1) := by decide +kernel
theorem dX12_goBlow_35 : decode cX12_goBlow 35 = .ok (.getfield 19, 3) := by decide +kernel
theorem dX12_goBlow_38 : decode cX12_goBlow 38 = .ok (.iload_n 1, 1) := by decide +kernel
theorem dX12_goBlow_39 : decode cX12_goBlow 39 = .ok (.iaload, 1) := by decide +kernel
theorem dX12_goBlow_40 : decode cX12_goBlow 40 = .ok (.bipush 99, 2) := by decide +kernel
theorem dX12_goBlow_42 : decode cX12_goBlow 42 = .ok (.if_icmp .ge 7, 3) := by decide +kernel
theorem dX12_goBlow_45 : decode cX12_goBlow 45 = .ok (.iconst 1, 1) := by decide +kernel
theorem dX12_goBlow_46 : decode cX12_goBlow 46 = .ok (.goto 4, 3) := by decide +kernel
theorem dX12_goBlow_49 : decode cX12_goBlow 49 = .ok (.iconst 0, 1) := by decide +kernel
theorem dX12_goBlow_50 : decode cX12_goBlow 50 = .ok (.iadd, 1) := by decide +kernel
theorem dX12_goBlow_51 : decode cX12_goBlow 51 = .ok (.iastore, 1) := by decide +kernel
theorem dX12_goBlow_52 : decode cX12_goBlow 52 = .ok (.aload_n 0, 1) := by decide +kernel
theorem dX12_goBlow_53 : decode cX12_goBlow 53 = .ok (.getfield 7, 3) := by decide +kernel
theorem dX12_goBlow_56 : decode cX12_goBlow 56 = .ok (.iload_n 1, 1) := by decide +kernel
theorem dX12_goBlow_57 : decode cX12_goBlow 57 = .ok (.iaload, 1) := by decide +kernel
theorem dX12_goBlow_58 : decode cX12_goBlow 58 = .ok (.iconst 3, 1) := by decide +kernel
theorem dX12_goBlow_59 : decode cX12_goBlow 59 = .ok (.if_icmp .ne 23, 3) := by decide +kernel
theorem dX12_goBlow_62 : decode cX12_goBlow 62 = .ok (.aload_n 0, 1) := by decide +kernel
theorem dX12_goBlow_63 : decode cX12_goBlow 63 = .ok (.getfield 19, 3) := by decide +kernel
theorem dX12_goBlow_66 : decode cX12_goBlow 66 = .ok (.iload_n 1, 1) := by decide +kernel
theorem dX12_goBlow_67 : decode cX12_goBlow 67 = .ok (.iaload, 1) := by decide +kernel
theorem dX12_goBlow_68 : decode cX12_goBlow 68 = .ok (.iconst 2, 1) := by decide +kernel
theorem dX12_goBlow_69 : decode cX12_goBlow 69 = .ok (.if_icmp .lt 13, 3) := by decide +kernel
theorem dX12_goBlow_72 : decode cX12_goBlow 72 = .ok (.aload_n 0, 1) := by decide +kernel
theorem dX12_goBlow_73 : decode cX12_goBlow 73 = .ok (.getfield 7, 3) := by decide +kernel
theorem dX12_goBlow_76 : decode cX12_goBlow 76 = .ok (.iload_n 1, 1) := by decide +kernel
theorem dX12_goBlow_77 : decode cX12_goBlow 77 = .ok (.iconst 2, 1) := by decide +kernel
theorem dX12_goBlow_78 : decode cX12_goBlow 78 = .ok (.iastore, 1) := by decide +kernel
theorem dX12_goBlow_79 : decode cX12_goBlow 79 = .ok (.goto 30, 3) := by decide +kernel
theorem dX12_goBlow_82 : decode cX12_goBlow 82 = .ok (.aload_n 0, 1) := by decide +kernel
theorem dX12_goBlow_83 : decode cX12_goBlow 83 = .ok (.getfield 7, 3) := by decide +kernel
theorem dX12_goBlow_86 : decode cX12_goBlow 86 = .ok (.iload_n 1, 1) := by decide +kernel
theorem dX12_goBlow_87 : decode cX12_goBlow 87 = .ok (.iaload, 1) := by decide +kernel
theorem dX12_goBlow_88 : decode cX12_goBlow 88 = .ok (.iconst 2, 1) := by decide +kernel
theorem dX12_goBlow_89 : decode cX12_goBlow 89 = .ok (.if_icmp .ne 20, 3) := by decide +kernel
theorem dX12_goBlow_92 : decode cX12_goBlow 92 = .ok (.aload_n 0, 1) := by decide +kernel
theorem dX12_goBlow_93 : decode cX12_goBlow 93 = .ok (.getfield 19, 3) := by decide +kernel
theorem dX12_goBlow_96 : decode cX12_goBlow 96 = .ok (.iload_n 1, 1) := by decide +kernel
theorem dX12_goBlow_97 : decode cX12_goBlow 97 = .ok (.iaload, 1) := by decide +kernel
theorem dX12_goBlow_98 : decode cX12_goBlow 98 = .ok (.iconst 4, 1) := by decide +kernel
theorem dX12_goBlow_99 : decode cX12_goBlow 99 = .ok (.if_icmp .lt 10, 3) := by decide +kernel
theorem dX12_goBlow_102 : decode cX12_goBlow 102 = .ok (.aload_n 0, 1) := by decide +kernel
theorem dX12_goBlow_103 : decode cX12_goBlow 103 = .ok (.getfield 7, 3) := by decide +kernel
theorem dX12_goBlow_106 : decode cX12_goBlow 106 = .ok (.iload_n 1, 1) := by decide +kernel
theorem dX12_goBlow_107 : decode cX12_goBlow 107 = .ok (.iconst 0, 1) := by decide +kernel
theorem dX12_goBlow_108 : decode cX12_goBlow 108 = .ok (.iastore, 1) := by decide +kernel
theorem dX12_goBlow_109 : decode cX12_goBlow 109 = .ok (.iload_n 3, 1) := by decide +kernel
theorem dX12_goBlow_110 : decode cX12_goBlow 110 = .ok (.ireturn, 1) := by decide +kernel
theorem dX12_blow_0 : decode cX12_blow 0 = .ok (.aload_n 0, 1) := by decide +kernel
theorem dX12_blow_1 : decode cX12_blow 1 = .ok (.iload_n 1, 1) := by decide +kernel
theorem dX12_blow_2 : decode cX12_blow 2 = .ok (.invokevirtual 165, 3) := by decide +kernel
theorem dX12_blow_5 : decode cX12_blow 5 = .ok (.ifCond .ne 6, 3) := by decide +kernel
theorem dX12_blow_8 : decode cX12_blow 8 = .ok (.bipush (-101), 2) := by decide +kernel
theorem dX12_blow_10 : decode cX12_blow 10 = .ok (.ireturn, 1) := by decide +kernel
theorem dX12_blow_11 : decode cX12_blow 11 = .ok (.iload_n 2, 1) := by decide +kernel
theorem dX12_blow_12 : decode cX12_blow 12 = .ok (.invokestatic 168, 3) := by decide +kernel
theorem dX12_blow_15 : decode cX12_blow 15 = .ok (.ifCond .eq 12, 3) := by decide +kernel
theorem dX12_blow_18 : decode cX12_blow 18 = .ok (.aload_n 0, 1) := by decide +kernel
theorem dX12_blow_19 : decode cX12_blow 19 = .ok (.iload_n 1, 1) := by decide +kernel
theorem dX12_blow_20 : decode cX12_blow 20 = .ok (.iload_n 2, 1) := by decide +kernel
theorem dX12_blow_21 : decode cX12_blow 21 = .ok (.invokevirtual 171, 3) := by decide +kernel
theorem dX12_blow_24 : decode cX12_blow 24 = .ok (.goto 5, 3) := by decide +kernel
theorem dX12_blow_27 : decode cX12_blow 27 = .ok (.bipush (-102), 2) := by decide +kernel
theorem dX12_blow_29 : decode cX12_blow 29 = .ok (.ireturn, 1) := by decide +kernel
theorem dX12_byOrder_0 : decode cX12_byOrder 0 = .ok (.iload_n 1, 1) := by decide +kernel
theorem dX12_byOrder_1 : decode cX12_byOrder 1 = .ok (.tableswitch 57 0 2 #[27, 29, 38], 27) := by decide +kernel
theorem dX12_byOrder_28 : decode cX12_byOrder 28 = .ok (.iload_n 2, 1) := by decide +kernel
theorem dX12_byOrder_29 : decode cX12_byOrder 29 = .ok (.ireturn, 1) := by decide +kernel
theorem dX12_byOrder_30 : decode cX12_byOrder 30 = .ok (.aload_n 0, 1) := by decide +kernel
theorem dX12_byOrder_31 : decode cX12_byOrder 31 = .ok (.invokevirtual 140, 3) := by decide +kernel
theorem dX12_byOrder_34 : decode cX12_byOrder 34 = .ok (.iconst 1, 1) := by decide +kernel
theorem dX12_byOrder_35 : decode cX12_byOrder 35 = .ok (.isub, 1) := by decide +kernel
theorem dX12_byOrder_36 : decode cX12_byOrder 36 = .ok (.iload_n 2, 1) := by decide +kernel
theorem dX12_byOrder_37 : decode cX12_byOrder 37 = .ok (.isub, 1) := by decide +kernel
theorem dX12_byOrder_38 : decode cX12_byOrder 38 = .ok (.ireturn, 1) := by decide +kernel
theorem dX12_byOrder_39 : decode cX12_byOrder 39 = .ok (.iload_n 2, 1) := by decide +kernel
theorem dX12_byOrder_40 : decode cX12_byOrder 40 = .ok (.aload_n 0, 1) := by decide +kernel
theorem dX12_byOrder_41 : decode cX12_byOrder 41 = .ok (.getfield 125, 3) := by decide +kernel
theorem dX12_byOrder_44 : decode cX12_byOrder 44 = .ok (.irem, 1) := by decide +kernel
theorem dX12_byOrder_45 : decode cX12_byOrder 45 = .ok (.aload_n 0, 1) := by decide +kernel
theorem dX12_byOrder_46 : decode cX12_byOrder 46 = .ok (.getfield 128, 3) := by decide +kernel
theorem dX12_byOrder_49 : decode cX12_byOrder 49 = .ok (.imul, 1) := by decide +kernel
theorem dX12_byOrder_50 : decode cX12_byOrder 50 = .ok (.iload_n 2, 1) := by decide +kernel
theorem dX12_byOrder_51 : decode cX12_byOrder 51 = .ok (.aload_n 0, 1) := by decide +kernel
theorem dX12_byOrder_52 : decode cX12_byOrder 52 = .ok (.getfield 125, 3) := by decide +kernel
theorem dX12_byOrder_55 : decode cX12_byOrder 55 = .ok (.idiv, 1) := by decide +kernel
theorem dX12_byOrder_56 : decode cX12_byOrder 56 = .ok (.iadd, 1) := by decide +kernel
theorem dX12_byOrder_57 : decode cX12_byOrder 57 = .ok (.ireturn, 1) := by decide +kernel
theorem dX12_byOrder_58 : decode cX12_byOrder 58 = .ok (.aload_n 0, 1) := by decide +kernel
theorem dX12_byOrder_59 : decode cX12_byOrder 59 = .ok (.invokevirtual 140, 3) := by decide +kernel
theorem dX12_byOrder_62 : decode cX12_byOrder 62 = .ok (.iconst 1, 1) := by decide +kernel
theorem dX12_byOrder_63 : decode cX12_byOrder 63 = .ok (.iadd, 1) := by decide +kernel
theorem dX12_byOrder_64 : decode cX12_byOrder 64 = .ok (.iconst 2, 1) := by decide +kernel
theorem dX12_byOrder_65 : decode cX12_byOrder 65 = .ok (.idiv, 1) := by decide +kernel
theorem dX12_byOrder_66 : decode cX12_byOrder 66 = .ok (.istore_n 3, 1) := by decide +kernel
theorem dX12_byOrder_67 : decode cX12_byOrder 67 = .ok (.iload_n 2, 1) := by decide +kernel
theorem dX12_byOrder_68 : decode cX12_byOrder 68 = .ok (.iload_n 3, 1) := by decide +kernel
theorem dX12_byOrder_69 : decode cX12_byOrder 69 = .ok (.if_icmp .ge 9, 3) := by decide +kernel
theorem dX12_byOrder_72 : decode cX12_byOrder 72 = .ok (.iconst 2, 1) := by decide +kernel
theorem dX12_byOrder_73 : decode cX12_byOrder 73 = .ok (.iload_n 2, 1) := by decide +kernel
theorem dX12_byOrder_74 : decode cX12_byOrder 74 = .ok (.imul, 1) := by decide +kernel
theorem dX12_byOrder_75 : decode cX12_byOrder 75 = .ok (.goto 10, 3) := by decide +kernel
theorem dX12_byOrder_78 : decode cX12_byOrder 78 = .ok (.iconst 2, 1) := by decide +kernel
theorem dX12_byOrder_79 : decode cX12_byOrder 79 = .ok (.iload_n 2, 1) := by decide +kernel
theorem dX12_byOrder_80 : decode cX12_byOrder 80 = .ok (.iload_n 3, 1) := by decide +kernel
theorem dX12_byOrder_81 : decode cX12_byOrder 81 = .ok (.isub, 1) := by decide +kernel
theorem dX12_byOrder_82 : decode cX12_byOrder 82 = .ok (.imul, 1) := by decide +kernel
theorem dX12_byOrder_83 : decode cX12_byOrder 83 = .ok (.iconst 1, 1) := by decide +kernel
theorem dX12_byOrder_84 : decode cX12_byOrder 84 = .ok (.iadd, 1) := by decide +kernel
theorem dX12_byOrder_85 : decode cX12_byOrder 85 = .ok (.ireturn, 1) := by decide +kernel
theorem dX12_goRounds_0 : decode cX12_goRounds 0 = .ok (.iconst 0, 1) := by decide +kernel
theorem dX12_goRounds_1 : decode cX12_goRounds 1 = .ok (.istore 4, 2) := by decide +kernel
theorem dX12_goRounds_3 : decode cX12_goRounds 3 = .ok (.iconst 0, 1) := by decide +kernel
theorem dX12_goRounds_4 : decode cX12_goRounds 4 = .ok (.istore 5, 2) := by decide +kernel
theorem dX12_goRounds_6 : decode cX12_goRounds 6 = .ok (.iload 5, 2) := by decide +kernel
theorem dX12_goRounds_8 : decode cX12_goRounds 8 = .ok (.iload_n 2, 1) := by decide +kernel
theorem dX12_goRounds_9 : decode cX12_goRounds 9 = .ok (.if_icmp .ge 63, 3) := by decide +kernel
theorem dX12_goRounds_12 : decode cX12_goRounds 12 = .ok (.iconst 0, 1) := by decide +kernel
theorem dX12_goRounds_13 : decode cX12_goRounds 13 = .ok (.istore 6, 2) := by decide +kernel
theorem dX12_goRounds_15 : decode cX12_goRounds 15 = .ok (.iload 6, 2) := by decide +kernel
theorem dX12_goRounds_17 : decode cX12_goRounds 17 = .ok (.aload_n 0, 1) := by decide +kernel
theorem dX12_goRounds_18 : decode cX12_goRounds 18 = .ok (.invokevirtual 140, 3) := by decide +kernel
theorem dX12_goRounds_21 : decode cX12_goRounds 21 = .ok (.if_icmp .ge 45, 3) := by decide +kernel
theorem dX12_goRounds_24 : decode cX12_goRounds 24 = .ok (.aload_n 0, 1) := by decide +kernel
theorem dX12_goRounds_25 : decode cX12_goRounds 25 = .ok (.iload_n 3, 1) := by decide +kernel
theorem dX12_goRounds_26 : decode cX12_goRounds 26 = .ok (.iload 6, 2) := by decide +kernel
theorem dX12_goRounds_28 : decode cX12_goRounds 28 = .ok (.invokevirtual 174, 3) := by decide +kernel
theorem dX12_goRounds_31 : decode cX12_goRounds 31 = .ok (.istore 7, 2) := by decide +kernel
theorem dX12_goRounds_33 : decode cX12_goRounds 33 = .ok (.iload 4, 2) := by decide +kernel
theorem dX12_goRounds_35 : decode cX12_goRounds 35 = .ok (.aload_n 0, 1) := by decide +kernel
theorem dX12_goRounds_36 : decode cX12_goRounds 36 = .ok (.getfield 7, 3) := by decide +kernel
theorem dX12_goRounds_39 : decode cX12_goRounds 39 = .ok (.iload 7, 2) := by decide +kernel
theorem dX12_goRounds_41 : decode cX12_goRounds 41 = .ok (.iaload, 1) := by decide +kernel
theorem dX12_goRounds_42 : decode cX12_goRounds 42 = .ok (.iconst (-1), 1) := by decide +kernel
theorem dX12_goRounds_43 : decode cX12_goRounds 43 = .ok (.if_icmp .ne 7, 3) := by decide +kernel
theorem dX12_goRounds_46 : decode cX12_goRounds 46 = .ok (.iconst 0, 1) := by decide +kernel
theorem dX12_goRounds_47 : decode cX12_goRounds 47 = .ok (.goto 10, 3) := by decide +kernel
theorem dX12_goRounds_50 : decode cX12_goRounds 50 = .ok (.aload_n 0, 1) := by decide +kernel
theorem dX12_goRounds_51 : decode cX12_goRounds 51 = .ok (.iload 7, 2) := by decide +kernel
theorem dX12_goRounds_53 : decode cX12_goRounds 53 = .ok (.iload_n 1, 1) := by decide +kernel
theorem dX12_goRounds_54 : decode cX12_goRounds 54 = .ok (.invokevirtual 171, 3) := by decide +kernel
theorem dX12_goRounds_57 : decode cX12_goRounds 57 = .ok (.iadd, 1) := by decide +kernel
theorem dX12_goRounds_58 : decode cX12_goRounds 58 = .ok (.istore 4, 2) := by decide +kernel
theorem dX12_goRounds_60 : decode cX12_goRounds 60 = .ok (.iinc 6 1, 3) := by decide +kernel
theorem dX12_goRounds_63 : decode cX12_goRounds 63 = .ok (.goto (-48), 3) := by decide +kernel
theorem dX12_goRounds_66 : decode cX12_goRounds 66 = .ok (.iinc 5 1, 3) := by decide +kernel
theorem dX12_goRounds_69 : decode cX12_goRounds 69 = .ok (.goto (-63), 3) := by decide +kernel
theorem dX12_goRounds_72 : decode cX12_goRounds 72 = .ok (.iload 4, 2) := by decide +kernel
theorem dX12_goRounds_74 : decode cX12_goRounds 74 = .ok (.ireturn, 1) := by decide +kernel
theorem dX12_isOrder_0 : decode cX12_isOrder 0 = .ok (.iload_n 0, 1) := by decide +kernel
theorem dX12_isOrder_1 : decode cX12_isOrder 1 = .ok (.iconst 0, 1) := by decide +kernel
theorem dX12_isOrder_2 : decode cX12_isOrder 2 = .ok (.iconst 3, 1) := by decide +kernel
theorem dX12_isOrder_3 : decode cX12_isOrder 3 = .ok (.invokestatic 78, 3) := by decide +kernel
theorem dX12_isOrder_6 : decode cX12_isOrder 6 = .ok (.ireturn, 1) := by decide +kernel
theorem dX12_ram_0 : decode cX12_ram 0 = .ok (.aload_n 0, 1) := by decide +kernel
theorem dX12_ram_1 : decode cX12_ram 1 = .ok (.getfield 131, 3) := by decide +kernel
theorem dX12_ram_4 : decode cX12_ram 4 = .ok (.ifCond .ne 6, 3) := by decide +kernel
theorem dX12_ram_7 : decode cX12_ram 7 = .ok (.bipush (-103), 2) := by decide +kernel
theorem dX12_ram_9 : decode cX12_ram 9 = .ok (.ireturn, 1) := by decide +kernel
theorem dX12_ram_10 : decode cX12_ram 10 = .ok (.iload_n 1, 1) := by decide +kernel
theorem dX12_ram_11 : decode cX12_ram 11 = .ok (.invokestatic 168, 3) := by decide +kernel
theorem dX12_ram_14 : decode cX12_ram 14 = .ok (.ifCond .eq 30, 3) := by decide +kernel
theorem dX12_ram_17 : decode cX12_ram 17 = .ok (.iload_n 2, 1) := by decide +kernel
theorem dX12_ram_18 : decode cX12_ram 18 = .ok (.iconst 1, 1) := by decide +kernel
theorem dX12_ram_19 : decode cX12_ram 19 = .ok (.bipush 40, 2) := by decide +kernel
theorem dX12_ram_21 : decode cX12_ram 21 = .ok (.invokestatic 78, 3) := by decide +kernel
theorem dX12_ram_24 : decode cX12_ram 24 = .ok (.ifCond .eq 20, 3) := by decide +kernel
theorem dX12_ram_27 : decode cX12_ram 27 = .ok (.iload_n 3, 1) := by decide +kernel
theorem dX12_ram_28 : decode cX12_ram 28 = .ok (.invokestatic 177, 3) := by decide +kernel
theorem dX12_ram_31 : decode cX12_ram 31 = .ok (.ifCond .eq 13, 3) := by decide +kernel
theorem dX12_ram_34 : decode cX12_ram 34 = .ok (.aload_n 0, 1) := by decide +kernel
theorem dX12_ram_35 : decode cX12_ram 35 = .ok (.iload_n 1, 1) := by decide +kernel
theorem dX12_ram_36 : decode cX12_ram 36 = .ok (.iload_n 2, 1) := by decide +kernel
theorem dX12_ram_37 : decode cX12_ram 37 = .ok (.iload_n 3, 1) := by decide +kernel
theorem dX12_ram_38 : decode cX12_ram 38 = .ok (.invokevirtual 180, 3) := by decide +kernel
theorem dX12_ram_41 : decode cX12_ram 41 = .ok (.goto 5, 3) := by decide +kernel
theorem dX12_ram_44 : decode cX12_ram 44 = .ok (.bipush (-102), 2) := by decide +kernel
theorem dX12_ram_46 : decode cX12_ram 46 = .ok (.ireturn, 1) := by decide +kernel
theorem dX12_ringing_0 : decode cX12_ringing 0 = .ok (.iconst 0, 1) := by decide +kernel
theorem dX12_ringing_1 : decode cX12_ringing 1 = .ok (.istore_n 2, 1) := by decide +kernel
theorem dX12_ringing_2 : decode cX12_ringing 2 = .ok (.iconst 0, 1) := by decide +kernel
theorem dX12_ringing_3 : decode cX12_ringing 3 = .ok (.istore_n 3, 1) := by decide +kernel
theorem dX12_ringing_4 : decode cX12_ringing 4 = .ok (.iload_n 3, 1) := by decide +kernel
theorem dX12_ringing_5 : decode cX12_ringing 5 = .ok (.aload_n 0, 1) := by decide +kernel
theorem dX12_ringing_6 : decode cX12_ringing 6 = .ok (.invokevirtual 140, 3) := by decide +kernel
theorem dX12_ringing_9 : decode cX12_ringing 9 = .ok (.if_icmp .ge 36, 3) := by decide +kernel
theorem dX12_ringing_12 : decode cX12_ringing 12 = .ok (.iload_n 2, 1) := by decide +kernel
theorem dX12_ringing_13 : decode cX12_ringing 13 = .ok (.aload_n 0, 1) := by decide +kernel
theorem dX12_ringing_14 : decode cX12_ringing 14 = .ok (.getfield 7, 3) := by decide +kernel
theorem dX12_ringing_17 : decode cX12_ringing 17 = .ok (.iload_n 3, 1) := by decide +kernel
theorem dX12_ringing_18 : decode cX12_ringing 18 = .ok (.iaload, 1) := by decide +kernel
theorem dX12_ringing_19 : decode cX12_ringing 19 = .ok (.iconst (-1), 1) := by decide +kernel
theorem dX12_ringing_20 : decode cX12_ringing 20 = .ok (.if_icmp .eq 16, 3) := by decide +kernel
theorem dX12_ringing_23 : decode cX12_ringing 23 = .ok (.aload_n 0, 1) := by decide +kernel
theorem dX12_ringing_24 : decode cX12_ringing 24 = .ok (.iload_n 3, 1) := by decide +kernel
theorem dX12_ringing_25 : decode cX12_ringing 25 = .ok (.iload_n 1, 1) := by decide +kernel
theorem dX12_ringing_26 : decode cX12_ringing 26 = .ok (.invokevirtual 162, 3) := by decide +kernel
theorem dX12_ringing_29 : decode cX12_ringing 29 = .ok (.ifCond .ne 7, 3) := by decide +kernel
theorem dX12_ringing_32 : decode cX12_ringing 32 = .ok (.iconst 1, 1) := by decide +kernel
theorem dX12_ringing_33 : decode cX12_ringing 33 = .ok (.goto 4, 3) := by decide +kernel
theorem dX12_ringing_36 : decode cX12_ringing 36 = .ok (.iconst 0, 1) := by decide +kernel
theorem dX12_ringing_37 : decode cX12_ringing 37 = .ok (.iadd, 1) := by decide +kernel
theorem dX12_ringing_38 : decode cX12_ringing 38 = .ok (.istore_n 2, 1) := by decide +kernel
theorem dX12_ringing_39 : decode cX12_ringing 39 = .ok (.iinc 3 1, 3) := by decide +kernel
theorem dX12_ringing_42 : decode cX12_ringing 42 = .ok (.goto (-38), 3) := by decide +kernel
theorem dX12_ringing_45 : decode cX12_ringing 45 = .ok (.iload_n 2, 1) := by decide +kernel
theorem dX12_ringing_46 : decode cX12_ringing 46 = .ok (.ireturn, 1) := by decide +kernel
theorem dX12_rings_0 : decode cX12_rings 0 = .ok (.aload_n 0, 1) := by decide +kernel
theorem dX12_rings_1 : decode cX12_rings 1 = .ok (.getfield 131, 3) := by decide +kernel
theorem dX12_rings_4 : decode cX12_rings 4 = .ok (.ifCond .ne 6, 3) := by decide +kernel
theorem dX12_rings_7 : decode cX12_rings 7 = .ok (.bipush (-103), 2) := by decide +kernel
theorem dX12_rings_9 : decode cX12_rings 9 = .ok (.ireturn, 1) := by decide +kernel
theorem dX12_rings_10 : decode cX12_rings 10 = .ok (.iload_n 1, 1) := by decide +kernel
theorem dX12_rings_11 : decode cX12_rings 11 = .ok (.invokestatic 168, 3) := by decide +kernel
theorem dX12_rings_14 : decode cX12_rings 14 = .ok (.ifCond .eq 11, 3) := by decide +kernel
theorem dX12_rings_17 : decode cX12_rings 17 = .ok (.aload_n 0, 1) := by decide +kernel
theorem dX12_rings_18 : decode cX12_rings 18 = .ok (.iload_n 1, 1) := by decide +kernel
theorem dX12_rings_19 : decode cX12_rings 19 = .ok (.invokevirtual 184, 3) := by decide +kernel
theorem dX12_rings_22 : decode cX12_rings 22 = .ok (.goto 5, 3) := by decide +kernel
theorem dX12_rings_25 : decode cX12_rings 25 = .ok (.bipush (-102), 2) := by decide +kernel
theorem dX12_rings_27 : decode cX12_rings 27 = .ok (.ireturn, 1) := by decide +kernel
theorem dX12_save_0 : decode cX12_save 0 = .ok (.aload_n 0, 1) := by decide +kernel
theorem dX12_save_1 : decode cX12_save 1 = .ok (.aload_n 0, 1) := by decide +kernel
theorem dX12_save_2 : decode cX12_save 2 = .ok (.getfield 25, 3) := by decide +kernel
theorem dX12_save_5 : decode cX12_save 5 = .ok (.putfield 187, 3) := by decide +kernel
theorem dX12_save_8 : decode cX12_save 8 = .ok (.iconst 0, 1) := by decide +kernel
theorem dX12_save_9 : decode cX12_save 9 = .ok (.istore_n 1, 1) := by decide +kernel
theorem dX12_save_10 : decode cX12_save 10 = .ok (.iload_n 1, 1) := by decide +kernel
theorem dX12_save_11 : decode cX12_save 11 = .ok (.bipush 30, 2) := by decide +kernel
theorem dX12_save_13 : decode cX12_save 13 = .ok (.if_icmp .ge 87, 3) := by decide +kernel
theorem dX12_save_16 : decode cX12_save 16 = .ok (.aload_n 0, 1) := by decide +kernel
theorem dX12_save_17 : decode cX12_save 17 = .ok (.getfield 45, 3) := by decide +kernel
theorem dX12_save_20 : decode cX12_save 20 = .ok (.iconst 5, 1) := by decide +kernel
theorem dX12_save_21 : decode cX12_save 21 = .ok (.iload_n 1, 1) := by decide +kernel
theorem dX12_save_22 : decode cX12_save 22 = .ok (.imul, 1) := by decide +kernel
theorem dX12_save_23 : decode cX12_save 23 = .ok (.aload_n 0, 1) := by decide +kernel
theorem dX12_save_24 : decode cX12_save 24 = .ok (.getfield 7, 3) := by decide +kernel
theorem dX12_save_27 : decode cX12_save 27 = .ok (.iload_n 1, 1) := by decide +kernel
theorem dX12_save_28 : decode cX12_save 28 = .ok (.iaload, 1) := by decide +kernel
theorem dX12_save_29 : decode cX12_save 29 = .ok (.iastore, 1) := by decide +kernel
theorem dX12_save_30 : decode cX12_save 30 = .ok (.aload_n 0, 1) := by decide +kernel
theorem dX12_save_31 : decode cX12_save 31 = .ok (.getfield 45, 3) := by decide +kernel
theorem dX12_save_34 : decode cX12_save 34 = .ok (.iconst 5, 1) := by decide +kernel
theorem dX12_save_35 : decode cX12_save 35 = .ok (.iload_n 1, 1) := by decide +kernel
theorem dX12_save_36 : decode cX12_save 36 = .ok (.imul, 1) := by decide +kernel
theorem dX12_save_37 : decode cX12_save 37 = .ok (.iconst 1, 1) := by decide +kernel
theorem dX12_save_38 : decode cX12_save 38 = .ok (.iadd, 1) := by decide +kernel
theorem dX12_save_39 : decode cX12_save 39 = .ok (.aload_n 0, 1) := by decide +kernel
theorem dX12_save_40 : decode cX12_save 40 = .ok (.getfield 13, 3) := by decide +kernel
theorem dX12_save_43 : decode cX12_save 43 = .ok (.iload_n 1, 1) := by decide +kernel
theorem dX12_save_44 : decode cX12_save 44 = .ok (.iaload, 1) := by decide +kernel
theorem dX12_save_45 : decode cX12_save 45 = .ok (.iastore, 1) := by decide +kernel
theorem dX12_save_46 : decode cX12_save 46 = .ok (.aload_n 0, 1) := by decide +kernel
theorem dX12_save_47 : decode cX12_save 47 = .ok (.getfield 45, 3) := by decide +kernel
theorem dX12_save_50 : decode cX12_save 50 = .ok (.iconst 5, 1) := by decide +kernel
theorem dX12_save_51 : decode cX12_save 51 = .ok (.iload_n 1, 1) := by decide +kernel
theorem dX12_save_52 : decode cX12_save 52 = .ok (.imul, 1) := by decide +kernel
theorem dX12_save_53 : decode cX12_save 53 = .ok (.iconst 2, 1) := by decide +kernel
theorem dX12_save_54 : decode cX12_save 54 = .ok (.iadd, 1) := by decide +kernel
theorem dX12_save_55 : decode cX12_save 55 = .ok (.aload_n 0, 1) := by decide +kernel
theorem dX12_save_56 : decode cX12_save 56 = .ok (.getfield 16, 3) := by decide +kernel
theorem dX12_save_59 : decode cX12_save 59 = .ok (.iload_n 1, 1) := by decide +kernel
theorem dX12_save_60 : decode cX12_save 60 = .ok (.iaload, 1) := by decide +kernel
theorem dX12_save_61 : decode cX12_save 61 = .ok (.iastore, 1) := by decide +kernel
theorem dX12_save_62 : decode cX12_save 62 = .ok (.aload_n 0, 1) := by decide +kernel
theorem dX12_save_63 : decode cX12_save 63 = .ok (.getfield 45, 3) := by decide +kernel
theorem dX12_save_66 : decode cX12_save 66 = .ok (.iconst 5, 1) := by decide +kernel
theorem dX12_save_67 : decode cX12_save 67 = .ok (.iload_n 1, 1) := by decide +kernel
theorem dX12_save_68 : decode cX12_save 68 = .ok (.imul, 1) := by decide +kernel
theorem dX12_save_69 : decode cX12_save 69 = .ok (.iconst 3, 1) := by decide +kernel
theorem dX12_save_70 : decode cX12_save 70 = .ok (.iadd, 1) := by decide +kernel
theorem dX12_save_71 : decode cX12_save 71 = .ok (.aload_n 0, 1) := by decide +kernel
theorem dX12_save_72 : decode cX12_save 72 = .ok (.getfield 19, 3) := by decide +kernel
theorem dX12_save_75 : decode cX12_save 75 = .ok (.iload_n 1, 1) := by decide +kernel
theorem dX12_save_76 : decode cX12_save 76 = .ok (.iaload, 1) := by decide +kernel
theorem dX12_save_77 : decode cX12_save 77 = .ok (.iastore, 1) := by decide +kernel
theorem dX12_save_78 : decode cX12_save 78 = .ok (.aload_n 0, 1) := by decide +kernel
theorem dX12_save_79 : decode cX12_save 79 = .ok (.getfield 45, 3) := by decide +kernel
theorem dX12_save_82 : decode cX12_save 82 = .ok (.iconst 5, 1) := by decide +kernel
theorem dX12_save_83 : decode cX12_save 83 = .ok (.iload_n 1, 1) := by decide +kernel
theorem dX12_save_84 : decode cX12_save 84 = .ok (.imul, 1) := by decide +kernel
theorem dX12_save_85 : decode cX12_save 85 = .ok (.iconst 4, 1) := by decide +kernel
theorem dX12_save_86 : decode cX12_save 86 = .ok (.iadd, 1) := by decide +kernel
theorem dX12_save_87 : decode cX12_save 87 = .ok (.aload_n 0, 1) := by decide +kernel
theorem dX12_save_88 : decode cX12_save 88 = .ok (.getfield 22, 3) := by decide +kernel
theorem dX12_save_91 : decode cX12_save 91 = .ok (.iload_n 1, 1) := by decide +kernel
theorem dX12_save_92 : decode cX12_save 92 = .ok (.iaload, 1) := by decide +kernel
theorem dX12_save_93 : decode cX12_save 93 = .ok (.iastore, 1) := by decide +kernel
theorem dX12_save_94 : decode cX12_save 94 = .ok (.iinc 1 1, 3) := by decide +kernel
theorem dX12_save_97 : decode cX12_save 97 = .ok (.goto (-87), 3) := by decide +kernel
theorem dX12_save_100 : decode cX12_save 100 = .ok (.return_, 1) := by decide +kernel
theorem dX12_back_0 : decode cX12_back 0 = .ok (.aload_n 0, 1) := by decide +kernel
theorem dX12_back_1 : decode cX12_back 1 = .ok (.aload_n 0, 1) := by decide +kernel
theorem dX12_back_2 : decode cX12_back 2 = .ok (.getfield 187, 3) := by decide +kernel
theorem dX12_back_5 : decode cX12_back 5 = .ok (.putfield 25, 3) := by decide +kernel
theorem dX12_back_8 : decode cX12_back 8 = .ok (.iconst 0, 1) := by decide +kernel
theorem dX12_back_9 : decode cX12_back 9 = .ok (.istore_n 1, 1) := by decide +kernel
theorem dX12_back_10 : decode cX12_back 10 = .ok (.iload_n 1, 1) := by decide +kernel
theorem dX12_back_11 : decode cX12_back 11 = .ok (.bipush 30, 2) := by decide +kernel
theorem dX12_back_13 : decode cX12_back 13 = .ok (.if_icmp .ge 87, 3) := by decide +kernel
theorem dX12_back_16 : decode cX12_back 16 = .ok (.aload_n 0, 1) := by decide +kernel
theorem dX12_back_17 : decode cX12_back 17 = .ok (.getfield 7, 3) := by decide +kernel
theorem dX12_back_20 : decode cX12_back 20 = .ok (.iload_n 1, 1) := by decide +kernel
theorem dX12_back_21 : decode cX12_back 21 = .ok (.aload_n 0, 1) := by decide +kernel
theorem dX12_back_22 : decode cX12_back 22 = .ok (.getfield 45, 3) := by decide +kernel
theorem dX12_back_25 : decode cX12_back 25 = .ok (.iconst 5, 1) := by decide +kernel
theorem dX12_back_26 : decode cX12_back 26 = .ok (.iload_n 1, 1) := by decide +kernel
theorem dX12_back_27 : decode cX12_back 27 = .ok (.imul, 1) := by decide +kernel
theorem dX12_back_28 : decode cX12_back 28 = .ok (.iaload, 1) := by decide +kernel
theorem dX12_back_29 : decode cX12_back 29 = .ok (.iastore, 1) := by decide +kernel
theorem dX12_back_30 : decode cX12_back 30 = .ok (.aload_n 0, 1) := by decide +kernel
theorem dX12_back_31 : decode cX12_back 31 = .ok (.getfield 13, 3) := by decide +kernel
theorem dX12_back_34 : decode cX12_back 34 = .ok (.iload_n 1, 1) := by decide +kernel
theorem dX12_back_35 : decode cX12_back 35 = .ok (.aload_n 0, 1) := by decide +kernel
theorem dX12_back_36 : decode cX12_back 36 = .ok (.getfield 45, 3) := by decide +kernel
theorem dX12_back_39 : decode cX12_back 39 = .ok (.iconst 5, 1) := by decide +kernel
theorem dX12_back_40 : decode cX12_back 40 = .ok (.iload_n 1, 1) := by decide +kernel
theorem dX12_back_41 : decode cX12_back 41 = .ok (.imul, 1) := by decide +kernel
theorem dX12_back_42 : decode cX12_back 42 = .ok (.iconst 1, 1) := by decide +kernel
theorem dX12_back_43 : decode cX12_back 43 = .ok (.iadd, 1) := by decide +kernel
theorem dX12_back_44 : decode cX12_back 44 = .ok (.iaload, 1) := by decide +kernel
theorem dX12_back_45 : decode cX12_back 45 = .ok (.iastore, 1) := by decide +kernel
theorem dX12_back_46 : decode cX12_back 46 = .ok (.aload_n 0, 1) := by decide +kernel
theorem dX12_back_47 : decode cX12_back 47 = .ok (.getfield 16, 3) := by decide +kernel
theorem dX12_back_50 : decode cX12_back 50 = .ok (.iload_n 1, 1) := by decide +kernel
theorem dX12_back_51 : decode cX12_back 51 = .ok (.aload_n 0, 1) := by decide +kernel
theorem dX12_back_52 : decode cX12_back 52 = .ok (.getfield 45, 3) := by decide +kernel
theorem dX12_back_55 : decode cX12_back 55 = .ok (.iconst 5, 1) := by decide +kernel
theorem dX12_back_56 : decode cX12_back 56 = .ok (.iload_n 1, 1) := by decide +kernel
theorem dX12_back_57 : decode cX12_back 57 = .ok (.imul, 1) := by decide +kernel
theorem dX12_back_58 : decode cX12_back 58 = .ok (.iconst 2, 1) := by decide +kernel
theorem dX12_back_59 : decode cX12_back 59 = .ok (.iadd, 1) := by decide +kernel
theorem dX12_back_60 : decode cX12_back 60 = .ok (.iaload, 1) := by decide +kernel
theorem dX12_back_61 : decode cX12_back 61 = .ok (.iastore, 1) := by decide +kernel
theorem dX12_back_62 : decode cX12_back 62 = .ok (.aload_n 0, 1) := by decide +kernel
theorem dX12_back_63 : decode cX12_back 63 = .ok (.getfield 19, 3) := by decide +kernel
theorem dX12_back_66 : decode cX12_back 66 = .ok (.iload_n 1, 1) := by decide +kernel
theorem dX12_back_67 : decode cX12_back 67 = .ok (.aload_n 0, 1) := by decide +kernel
theorem dX12_back_68 : decode cX12_back 68 = .ok (.getfield 45, 3) := by decide +kernel
theorem dX12_back_71 : decode cX12_back 71 = .ok (.iconst 5, 1) := by decide +kernel
theorem dX12_back_72 : decode cX12_back 72 = .ok (.iload_n 1, 1) := by decide +kernel
theorem dX12_back_73 : decode cX12_back 73 = .ok (.imul, 1) := by decide +kernel
theorem dX12_back_74 : decode cX12_back 74 = .ok (.iconst 3, 1) := by decide +kernel
theorem dX12_back_75 : decode cX12_back 75 = .ok (.iadd, 1) := by decide +kernel
theorem dX12_back_76 : decode cX12_back 76 = .ok (.iaload, 1) := by decide +kernel
theorem dX12_back_77 : decode cX12_back 77 = .ok (.iastore, 1) := by decide +kernel
theorem dX12_back_78 : decode cX12_back 78 = .ok (.aload_n 0, 1) := by decide +kernel
theorem dX12_back_79 : decode cX12_back 79 = .ok (.getfield 22, 3) := by decide +kernel
theorem dX12_back_82 : decode cX12_back 82 = .ok (.iload_n 1, 1) := by decide +kernel
theorem dX12_back_83 : decode cX12_back 83 = .ok (.aload_n 0, 1) := by decide +kernel
theorem dX12_back_84 : decode cX12_back 84 = .ok (.getfield 45, 3) := by decide +kernel
theorem dX12_back_87 : decode cX12_back 87 = .ok (.iconst 5, 1) := by decide +kernel
theorem dX12_back_88 : decode cX12_back 88 = .ok (.iload_n 1, 1) := by decide +kernel
theorem dX12_back_89 : decode cX12_back 89 = .ok (.imul, 1) := by decide +kernel
theorem dX12_back_90 : decode cX12_back 90 = .ok (.iconst 4, 1) := by decide +kernel
theorem dX12_back_91 : decode cX12_back 91 = .ok (.iadd, 1) := by decide +kernel
theorem dX12_back_92 : decode cX12_back 92 = .ok (.iaload, 1) := by decide +kernel
theorem dX12_back_93 : decode cX12_back 93 = .ok (.iastore, 1) := by decide +kernel
theorem dX12_back_94 : decode cX12_back 94 = .ok (.iinc 1 1, 3) := by decide +kernel
theorem dX12_back_97 : decode cX12_back 97 = .ok (.goto (-87), 3) := by decide +kernel
theorem dX12_back_100 : decode cX12_back 100 = .ok (.return_, 1) := by decide +kernel
theorem dX12_proud_0 : decode cX12_proud 0 = .ok (.aload_n 0, 1) := by decide +kernel
theorem dX12_proud_1 : decode cX12_proud 1 = .ok (.iload_n 1, 1) := by decide +kernel
theorem dX12_proud_2 : decode cX12_proud 2 = .ok (.invokevirtual 165, 3) := by decide +kernel
theorem dX12_proud_5 : decode cX12_proud 5 = .ok (.ifCond .ne 6, 3) := by decide +kernel
theorem dX12_proud_8 : decode cX12_proud 8 = .ok (.bipush (-101), 2) := by decide +kernel
theorem dX12_proud_10 : decode cX12_proud 10 = .ok (.ireturn, 1) := by decide +kernel
theorem dX12_proud_11 : decode cX12_proud 11 = .ok (.iload_n 2, 1) := by decide +kernel
theorem dX12_proud_12 : decode cX12_proud 12 = .ok (.invokestatic 168, 3) := by decide +kernel
theorem dX12_proud_15 : decode cX12_proud 15 = .ok (.ifCond .eq 21, 3) := by decide +kernel
theorem dX12_proud_18 : decode cX12_proud 18 = .ok (.iload_n 3, 1) := by decide +kernel
theorem dX12_proud_19 : decode cX12_proud 19 = .ok (.iconst 0, 1) := by decide +kernel
theorem dX12_proud_20 : decode cX12_proud 20 = .ok (.bipush 40, 2) := by decide +kernel
theorem dX12_proud_22 : decode cX12_proud 22 = .ok (.invokestatic 78, 3) := by decide +kernel
theorem dX12_proud_25 : decode cX12_proud 25 = .ok (.ifCond .eq 11, 3) := by decide +kernel
theorem dX12_proud_28 : decode cX12_proud 28 = .ok (.iload 4, 2) := by decide +kernel
theorem dX12_proud_30 : decode cX12_proud 30 = .ok (.invokestatic 177, 3) := by decide +kernel
theorem dX12_proud_33 : decode cX12_proud 33 = .ok (.ifCond .ne 6, 3) := by decide +kernel
theorem dX12_proud_36 : decode cX12_proud 36 = .ok (.bipush (-102), 2) := by decide +kernel
theorem dX12_proud_38 : decode cX12_proud 38 = .ok (.ireturn, 1) := by decide +kernel
theorem dX12_proud_39 : decode cX12_proud 39 = .ok (.aload_n 0, 1) := by decide +kernel
theorem dX12_proud_40 : decode cX12_proud 40 = .ok (.invokevirtual 190, 3) := by decide +kernel
theorem dX12_proud_43 : decode cX12_proud 43 = .ok (.aload_n 0, 1) := by decide +kernel
theorem dX12_proud_44 : decode cX12_proud 44 = .ok (.getfield 16, 3) := by decide +kernel
theorem dX12_proud_47 : decode cX12_proud 47 = .ok (.iload_n 1, 1) := by decide +kernel
theorem dX12_proud_48 : decode cX12_proud 48 = .ok (.iaload, 1) := by decide +kernel
theorem dX12_proud_49 : decode cX12_proud 49 = .ok (.istore 5, 2) := by decide +kernel
theorem dX12_proud_51 : decode cX12_proud 51 = .ok (.aload_n 0, 1) := by decide +kernel
theorem dX12_proud_52 : decode cX12_proud 52 = .ok (.iload_n 2, 1) := by decide +kernel
theorem dX12_proud_53 : decode cX12_proud 53 = .ok (.iload_n 3, 1) := by decide +kernel
theorem dX12_proud_54 : decode cX12_proud 54 = .ok (.iload 4, 2) := by decide +kernel
theorem dX12_proud_56 : decode cX12_proud 56 = .ok (.invokevirtual 180, 3) := by decide +kernel
theorem dX12_proud_59 : decode cX12_proud 59 = .ok (.pop, 1) := by decide +kernel
theorem dX12_proud_60 : decode cX12_proud 60 = .ok (.iload 5, 2) := by decide +kernel
theorem dX12_proud_62 : decode cX12_proud 62 = .ok (.aload_n 0, 1) := by decide +kernel
theorem dX12_proud_63 : decode cX12_proud 63 = .ok (.getfield 16, 3) := by decide +kernel
theorem dX12_proud_66 : decode cX12_proud 66 = .ok (.iload_n 1, 1) := by decide +kernel
theorem dX12_proud_67 : decode cX12_proud 67 = .ok (.iaload, 1) := by decide +kernel
theorem dX12_proud_68 : decode cX12_proud 68 = .ok (.isub, 1) := by decide +kernel
theorem dX12_proud_69 : decode cX12_proud 69 = .ok (.istore 6, 2) := by decide +kernel
theorem dX12_proud_71 : decode cX12_proud 71 = .ok (.aload_n 0, 1) := by decide +kernel
theorem dX12_proud_72 : decode cX12_proud 72 = .ok (.invokevirtual 193, 3) := by decide +kernel
theorem dX12_proud_75 : decode cX12_proud 75 = .ok (.iload 6, 2) := by decide +kernel
theorem dX12_proud_77 : decode cX12_proud 77 = .ok (.ireturn, 1) := by decide +kernel
theorem dX12_until_0 : decode cX12_until 0 = .ok (.aload_n 0, 1) := by decide +kernel
theorem dX12_until_1 : decode cX12_until 1 = .ok (.getfield 131, 3) := by decide +kernel
theorem dX12_until_4 : decode cX12_until 4 = .ok (.ifCond .ne 6, 3) := by decide +kernel
theorem dX12_until_7 : decode cX12_until 7 = .ok (.bipush (-103), 2) := by decide +kernel
theorem dX12_until_9 : decode cX12_until 9 = .ok (.ireturn, 1) := by decide +kernel
theorem dX12_until_10 : decode cX12_until 10 = .ok (.iload_n 1, 1) := by decide +kernel
theorem dX12_until_11 : decode cX12_until 11 = .ok (.invokestatic 168, 3) := by decide +kernel
theorem dX12_until_14 : decode cX12_until 14 = .ok (.ifCond .eq 10, 3) := by decide +kernel
theorem dX12_until_17 : decode cX12_until 17 = .ok (.iload_n 2, 1) := by decide +kernel
theorem dX12_until_18 : decode cX12_until 18 = .ok (.invokestatic 177, 3) := by decide +kernel
theorem dX12_until_21 : decode cX12_until 21 = .ok (.ifCond .ne 6, 3) := by decide +kernel
theorem dX12_until_24 : decode cX12_until 24 = .ok (.bipush (-102), 2) := by decide +kernel
theorem dX12_until_26 : decode cX12_until 26 = .ok (.ireturn, 1) := by decide +kernel
theorem dX12_until_27 : decode cX12_until 27 = .ok (.aload_n 0, 1) := by decide +kernel
theorem dX12_until_28 : decode cX12_until 28 = .ok (.invokevirtual 190, 3) := by decide +kernel
theorem dX12_until_31 : decode cX12_until 31 = .ok (.iconst 0, 1) := by decide +kernel
theorem dX12_until_32 : decode cX12_until 32 = .ok (.istore_n 3, 1) := by decide +kernel
theorem dX12_until_33 : decode cX12_until 33 = .ok (.iload_n 3, 1) := by decide +kernel
theorem dX12_until_34 : decode cX12_until 34 = .ok (.bipush 99, 2) := by decide +kernel
theorem dX12_until_36 : decode cX12_until 36 = .ok (.if_icmp .gt 29, 3) := by decide +kernel
theorem dX12_until_39 : decode cX12_until 39 = .ok (.aload_n 0, 1) := by decide +kernel
theorem dX12_until_40 : decode cX12_until 40 = .ok (.iload_n 1, 1) := by decide +kernel
theorem dX12_until_41 : decode cX12_until 41 = .ok (.invokevirtual 184, 3) := by decide +kernel
theorem dX12_until_44 : decode cX12_until 44 = .ok (.aload_n 0, 1) := by decide +kernel
theorem dX12_until_45 : decode cX12_until 45 = .ok (.invokevirtual 159, 3) := by decide +kernel
theorem dX12_until_48 : decode cX12_until 48 = .ok (.if_icmp .ge 17, 3) := by decide +kernel
theorem dX12_until_51 : decode cX12_until 51 = .ok (.aload_n 0, 1) := by decide +kernel
theorem dX12_until_52 : decode cX12_until 52 = .ok (.iload_n 1, 1) := by decide +kernel
theorem dX12_until_53 : decode cX12_until 53 = .ok (.iconst 1, 1) := by decide +kernel
theorem dX12_until_54 : decode cX12_until 54 = .ok (.iload_n 2, 1) := by decide +kernel
theorem dX12_until_55 : decode cX12_until 55 = .ok (.invokevirtual 180, 3) := by decide +kernel
theorem dX12_until_58 : decode cX12_until 58 = .ok (.pop, 1) := by decide +kernel
theorem dX12_until_59 : decode cX12_until 59 = .ok (.iinc 3 1, 3) := by decide +kernel
theorem dX12_until_62 : decode cX12_until 62 = .ok (.goto (-29), 3) := by decide +kernel
theorem dX12_until_65 : decode cX12_until 65 = .ok (.aload_n 0, 1) := by decide +kernel
theorem dX12_until_66 : decode cX12_until 66 = .ok (.invokevirtual 193, 3) := by decide +kernel
theorem dX12_until_69 : decode cX12_until 69 = .ok (.iload_n 3, 1) := by decide +kernel
theorem dX12_until_70 : decode cX12_until 70 = .ok (.bipush 99, 2) := by decide +kernel
theorem dX12_until_72 : decode cX12_until 72 = .ok (.if_icmp .le 7, 3) := by decide +kernel
theorem dX12_until_75 : decode cX12_until 75 = .ok (.iconst (-1), 1) := by decide +kernel
theorem dX12_until_76 : decode cX12_until 76 = .ok (.goto 4, 3) := by decide +kernel
theorem dX12_until_79 : decode cX12_until 79 = .ok (.iload_n 3, 1) := by decide +kernel
theorem dX12_until_80 : decode cX12_until 80 = .ok (.ireturn, 1) := by decide +kernel
theorem dX12_unevenNow_0 : decode cX12_unevenNow 0 = .ok (.ldc 196, 2) := by decide +kernel
theorem dX12_unevenNow_2 : decode cX12_unevenNow 2 = .ok (.istore_n 1, 1) := by decide +kernel
theorem dX12_unevenNow_3 : decode cX12_unevenNow 3 = .ok (.ldc 197, 2) := by decide +kernel
theorem dX12_unevenNow_5 : decode cX12_unevenNow 5 = .ok (.istore_n 2, 1) := by decide +kernel
theorem dX12_unevenNow_6 : decode cX12_unevenNow 6 = .ok (.iconst 0, 1) := by decide +kernel
theorem dX12_unevenNow_7 : decode cX12_unevenNow 7 = .ok (.istore_n 3, 1) := by decide +kernel
theorem dX12_unevenNow_8 : decode cX12_unevenNow 8 = .ok (.iload_n 3, 1) := by decide +kernel
theorem dX12_unevenNow_9 : decode cX12_unevenNow 9 = .ok (.aload_n 0, 1) := by decide +kernel
theorem dX12_unevenNow_10 : decode cX12_unevenNow 10 = .ok (.invokevirtual 140, 3) := by decide +kernel
theorem dX12_unevenNow_13 : decode cX12_unevenNow 13 = .ok (.if_icmp .ge 61, 3) := by decide +kernel
theorem dX12_unevenNow_16 : decode cX12_unevenNow 16 = .ok (.aload_n 0, 1) := by decide +kernel
theorem dX12_unevenNow_17 : decode cX12_unevenNow 17 = .ok (.getfield 7, 3) := by decide +kernel
theorem dX12_unevenNow_20 : decode cX12_unevenNow 20 = .ok (.iload_n 3, 1) := by decide +kernel
theorem dX12_unevenNow_21 : decode cX12_unevenNow 21 = .ok (.iaload, 1) := by decide +kernel
theorem dX12_unevenNow_22 : decode cX12_unevenNow 22 = .ok (.iconst (-1), 1) := by decide +kernel
theorem dX12_unevenNow_23 : decode cX12_unevenNow 23 = .ok (.if_icmp .eq 45, 3) := by decide +kernel
theorem dX12_unevenNow_26 : decode cX12_unevenNow 26 = .ok (.aload_n 0, 1) := by decide +kernel
theorem dX12_unevenNow_27 : decode cX12_unevenNow 27 = .ok (.getfield 16, 3) := by decide +kernel
theorem dX12_unevenNow_30 : decode cX12_unevenNow 30 = .ok (.iload_n 3, 1) := by decide +kernel
theorem dX12_unevenNow_31 : decode cX12_unevenNow 31 = .ok (.iaload, 1) := by decide +kernel
theorem dX12_unevenNow_32 : decode cX12_unevenNow 32 = .ok (.iload_n 1, 1) := by decide +kernel
theorem dX12_unevenNow_33 : decode cX12_unevenNow 33 = .ok (.if_icmp .ge 12, 3) := by decide +kernel
theorem dX12_unevenNow_36 : decode cX12_unevenNow 36 = .ok (.aload_n 0, 1) := by decide +kernel
theorem dX12_unevenNow_37 : decode cX12_unevenNow 37 = .ok (.getfield 16, 3) := by decide +kernel
theorem dX12_unevenNow_40 : decode cX12_unevenNow 40 = .ok (.iload_n 3, 1) := by decide +kernel
theorem dX12_unevenNow_41 : decode cX12_unevenNow 41 = .ok (.iaload, 1) := by decide +kernel
theorem dX12_unevenNow_42 : decode cX12_unevenNow 42 = .ok (.goto 4, 3) := by decide +kernel
theorem dX12_unevenNow_45 : decode cX12_unevenNow 45 = .ok (.iload_n 1, 1) := by decide +kernel
theorem dX12_unevenNow_46 : decode cX12_unevenNow 46 = .ok (.istore_n 1, 1) := by decide +kernel
theorem dX12_unevenNow_47 : decode cX12_unevenNow 47 = .ok (.aload_n 0, 1) := by decide +kernel
theorem dX12_unevenNow_48 : decode cX12_unevenNow 48 = .ok (.getfield 16, 3) := by decide +kernel
theorem dX12_unevenNow_51 : decode cX12_unevenNow 51 = .ok (.iload_n 3, 1) := by decide +kernel
theorem dX12_unevenNow_52 : decode cX12_unevenNow 52 = .ok (.iaload, 1) := by decide +kernel
theorem dX12_unevenNow_53 : decode cX12_unevenNow 53 = .ok (.iload_n 2, 1) := by decide +kernel
theorem dX12_unevenNow_54 : decode cX12_unevenNow 54 = .ok (.if_icmp .le 12, 3) := by decide +kernel
theorem dX12_unevenNow_57 : decode cX12_unevenNow 57 = .ok (.aload_n 0, 1) := by decide +kernel
theorem dX12_unevenNow_58 : decode cX12_unevenNow 58 = .ok (.getfield 16, 3) := by decide +kernel
theorem dX12_unevenNow_61 : decode cX12_unevenNow 61 = .ok (.iload_n 3, 1) := by decide +kernel
theorem dX12_unevenNow_62 : decode cX12_unevenNow 62 = .ok (.iaload, 1) := by decide +kernel
theorem dX12_unevenNow_63 : decode cX12_unevenNow 63 = .ok (.goto 4, 3) := by decide +kernel
theorem dX12_unevenNow_66 : decode cX12_unevenNow 66 = .ok (.iload_n 2, 1) := by decide +kernel
theorem dX12_unevenNow_67 : decode cX12_unevenNow 67 = .ok (.istore_n 2, 1) := by decide +kernel
theorem dX12_unevenNow_68 : decode cX12_unevenNow 68 = .ok (.iinc 3 1, 3) := by decide +kernel
theorem dX12_unevenNow_71 : decode cX12_unevenNow 71 = .ok (.goto (-63), 3) := by decide +kernel
theorem dX12_unevenNow_74 : decode cX12_unevenNow 74 = .ok (.iload_n 1, 1) := by decide +kernel
theorem dX12_unevenNow_75 : decode cX12_unevenNow 75 = .ok (.ldc 196, 2) := by decide +kernel
theorem dX12_unevenNow_77 : decode cX12_unevenNow 77 = .ok (.if_icmp .ne 7, 3) := by decide +kernel
theorem dX12_unevenNow_80 : decode cX12_unevenNow 80 = .ok (.iconst 0, 1) := by decide +kernel
theorem dX12_unevenNow_81 : decode cX12_unevenNow 81 = .ok (.goto 6, 3) := by decide +kernel
theorem dX12_unevenNow_84 : decode cX12_unevenNow 84 = .ok (.iload_n 2, 1) := by decide +kernel
theorem dX12_unevenNow_85 : decode cX12_unevenNow 85 = .ok (.iload_n 1, 1) := by decide +kernel
theorem dX12_unevenNow_86 : decode cX12_unevenNow 86 = .ok (.isub, 1) := by decide +kernel
theorem dX12_unevenNow_87 : decode cX12_unevenNow 87 = .ok (.ireturn, 1) := by decide +kernel
theorem dX12_uneven_0 : decode cX12_uneven 0 = .ok (.aload_n 0, 1) := by decide +kernel
theorem dX12_uneven_1 : decode cX12_uneven 1 = .ok (.getfield 131, 3) := by decide +kernel
theorem dX12_uneven_4 : decode cX12_uneven 4 = .ok (.ifCond .ne 8, 3) := by decide +kernel
theorem dX12_uneven_7 : decode cX12_uneven 7 = .ok (.bipush (-103), 2) := by decide +kernel
theorem dX12_uneven_9 : decode cX12_uneven 9 = .ok (.goto 7, 3) := by decide +kernel
theorem dX12_uneven_12 : decode cX12_uneven 12 = .ok (.aload_n 0, 1) := by decide +kernel
theorem dX12_uneven_13 : decode cX12_uneven 13 = .ok (.invokevirtual 198, 3) := by decide +kernel
theorem dX12_uneven_16 : decode cX12_uneven 16 = .ok (.ireturn, 1) := by decide +kernel
theorem dX12_evenest_0 : decode cX12_evenest 0 = .ok (.aload_n 0, 1) := by decide +kernel
theorem dX12_evenest_1 : decode cX12_evenest 1 = .ok (.getfield 131, 3) := by decide +kernel
theorem dX12_evenest_4 : decode cX12_evenest 4 = .ok (.ifCond .ne 6, 3) := by decide +kernel
theorem dX12_evenest_7 : decode cX12_evenest 7 = .ok (.bipush (-103), 2) := by decide +kernel
theorem dX12_evenest_9 : decode cX12_evenest 9 = .ok (.ireturn, 1) := by decide +kernel
theorem dX12_evenest_10 : decode cX12_evenest 10 = .ok (.iload_n 1, 1) := by decide +kernel
theorem dX12_evenest_11 : decode cX12_evenest 11 = .ok (.invokestatic 168, 3) := by decide +kernel
theorem dX12_evenest_14 : decode cX12_evenest 14 = .ok (.ifCond .eq 13, 3) := by decide +kernel
theorem dX12_evenest_17 : decode cX12_evenest 17 = .ok (.iload_n 2, 1) := by decide +kernel
theorem dX12_evenest_18 : decode cX12_evenest 18 = .ok (.iconst 0, 1) := by decide +kernel
theorem dX12_evenest_19 : decode cX12_evenest 19 = .ok (.bipush 40, 2) := by decide +kernel
theorem dX12_evenest_21 : decode cX12_evenest 21 = .ok (.invokestatic 78, 3) := by decide +kernel
theorem dX12_evenest_24 : decode cX12_evenest 24 = .ok (.ifCond .ne 6, 3) := by decide +kernel
theorem dX12_evenest_27 : decode cX12_evenest 27 = .ok (.bipush (-102), 2) := by decide +kernel
theorem dX12_evenest_29 : decode cX12_evenest 29 = .ok (.ireturn, 1) := by decide +kernel
theorem dX12_evenest_30 : decode cX12_evenest 30 = .ok (.aload_n 0, 1) := by decide +kernel
theorem dX12_evenest_31 : decode cX12_evenest 31 = .ok (.invokevirtual 190, 3) := by decide +kernel
theorem dX12_evenest_34 : decode cX12_evenest 34 = .ok (.iconst 0, 1) := by decide +kernel
theorem dX12_evenest_35 : decode cX12_evenest 35 = .ok (.istore_n 3, 1) := by decide +kernel
theorem dX12_evenest_36 : decode cX12_evenest 36 = .ok (.ldc 196, 2) := by decide +kernel
theorem dX12_evenest_38 : decode cX12_evenest 38 = .ok (.istore 4, 2) := by decide +kernel
theorem dX12_evenest_40 : decode cX12_evenest 40 = .ok (.iconst 0, 1) := by decide +kernel
theorem dX12_evenest_41 : decode cX12_evenest 41 = .ok (.istore 5, 2) := by decide +kernel
theorem dX12_evenest_43 : decode cX12_evenest 43 = .ok (.iload 5, 2) := by decide +kernel
theorem dX12_evenest_45 : decode cX12_evenest 45 = .ok (.iconst 4, 1) := by decide +kernel
theorem dX12_evenest_46 : decode cX12_evenest 46 = .ok (.if_icmp .ge 58, 3) := by decide +kernel
theorem dX12_evenest_49 : decode cX12_evenest 49 = .ok (.aload_n 0, 1) := by decide +kernel
theorem dX12_evenest_50 : decode cX12_evenest 50 = .ok (.iload_n 1, 1) := by decide +kernel
theorem dX12_evenest_51 : decode cX12_evenest 51 = .ok (.iload_n 2, 1) := by decide +kernel
theorem dX12_evenest_52 : decode cX12_evenest 52 = .ok (.iload 5, 2) := by decide +kernel
theorem dX12_evenest_54 : decode cX12_evenest 54 = .ok (.invokevirtual 180, 3) := by decide +kernel
theorem dX12_evenest_57 : decode cX12_evenest 57 = .ok (.pop, 1) := by decide +kernel
theorem dX12_evenest_58 : decode cX12_evenest 58 = .ok (.aload_n 0, 1) := by decide +kernel
theorem dX12_evenest_59 : decode cX12_evenest 59 = .ok (.invokevirtual 198, 3) := by decide +kernel
theorem dX12_evenest_62 : decode cX12_evenest 62 = .ok (.istore 6, 2) := by decide +kernel
theorem dX12_evenest_64 : decode cX12_evenest 64 = .ok (.iload 6, 2) := by decide +kernel
theorem dX12_evenest_66 : decode cX12_evenest 66 = .ok (.iload 4, 2) := by decide +kernel
theorem dX12_evenest_68 : decode cX12_evenest 68 = .ok (.if_icmp .ge 8, 3) := by decide +kernel
theorem dX12_evenest_71 : decode cX12_evenest 71 = .ok (.iload 5, 2) := by decide +kernel
theorem dX12_evenest_73 : decode cX12_evenest 73 = .ok (.goto 4, 3) := by decide +kernel
theorem dX12_evenest_76 : decode cX12_evenest 76 = .ok (.iload_n 3, 1) := by decide +kernel
theorem dX12_evenest_77 : decode cX12_evenest 77 = .ok (.istore_n 3, 1) := by decide +kernel
theorem dX12_evenest_78 : decode cX12_evenest 78 = .ok (.iload 6, 2) := by decide +kernel
theorem dX12_evenest_80 : decode cX12_evenest 80 = .ok (.iload 4, 2) := by decide +kernel
theorem dX12_evenest_82 : decode cX12_evenest 82 = .ok (.if_icmp .ge 8, 3) := by decide +kernel
theorem dX12_evenest_85 : decode cX12_evenest 85 = .ok (.iload 6, 2) := by decide +kernel
theorem dX12_evenest_87 : decode cX12_evenest 87 = .ok (.goto 5, 3) := by decide +kernel
theorem dX12_evenest_90 : decode cX12_evenest 90 = .ok (.iload 4, 2) := by decide +kernel
theorem dX12_evenest_92 : decode cX12_evenest 92 = .ok (.istore 4, 2) := by decide +kernel
theorem dX12_evenest_94 : decode cX12_evenest 94 = .ok (.aload_n 0, 1) := by decide +kernel
theorem dX12_evenest_95 : decode cX12_evenest 95 = .ok (.invokevirtual 193, 3) := by decide +kernel
theorem dX12_evenest_98 : decode cX12_evenest 98 = .ok (.iinc 5 1, 3) := by decide +kernel
theorem dX12_evenest_101 : decode cX12_evenest 101 = .ok (.goto (-58), 3) := by decide +kernel
theorem dX12_evenest_104 : decode cX12_evenest 104 = .ok (.iload_n 3, 1) := by decide +kernel
theorem dX12_evenest_105 : decode cX12_evenest 105 = .ok (.ireturn, 1) := by decide +kernel
theorem dX12_bear_0 : decode cX12_bear 0 = .ok (.iload_n 2, 1) := by decide +kernel
theorem dX12_bear_1 : decode cX12_bear 1 = .ok (.istore_n 3, 1) := by decide +kernel
theorem dX12_bear_2 : decode cX12_bear 2 = .ok (.iconst 0, 1) := by decide +kernel
theorem dX12_bear_3 : decode cX12_bear 3 = .ok (.istore 4, 2) := by decide +kernel
theorem dX12_bear_5 : decode cX12_bear 5 = .ok (.iload 4, 2) := by decide +kernel
theorem dX12_bear_7 : decode cX12_bear 7 = .ok (.iconst 4, 1) := by decide +kernel
theorem dX12_bear_8 : decode cX12_bear 8 = .ok (.if_icmp .ge 62, 3) := by decide +kernel
theorem dX12_bear_11 : decode cX12_bear 11 = .ok (.aload_n 0, 1) := by decide +kernel
theorem dX12_bear_12 : decode cX12_bear 12 = .ok (.iload_n 1, 1) := by decide +kernel
theorem dX12_bear_13 : decode cX12_bear 13 = .ok (.iload 4, 2) := by decide +kernel
theorem dX12_bear_15 : decode cX12_bear 15 = .ok (.invokevirtual 147, 3) := by decide +kernel
theorem dX12_bear_18 : decode cX12_bear 18 = .ok (.istore 5, 2) := by decide +kernel
theorem dX12_bear_20 : decode cX12_bear 20 = .ok (.iload 5, 2) := by decide +kernel
theorem dX12_bear_22 : decode cX12_bear 22 = .ok (.iconst (-1), 1) := by decide +kernel
theorem dX12_bear_23 : decode cX12_bear 23 = .ok (.if_icmp .eq 41, 3) := by decide +kernel
theorem dX12_bear_26 : decode cX12_bear 26 = .ok (.aload_n 0, 1) := by decide +kernel
theorem dX12_bear_27 : decode cX12_bear 27 = .ok (.getfield 7, 3) := by decide +kernel
theorem dX12_bear_30 : decode cX12_bear 30 = .ok (.iload 5, 2) := by decide +kernel
theorem dX12_bear_32 : decode cX12_bear 32 = .ok (.iaload, 1) := by decide +kernel
theorem dX12_bear_33 : decode cX12_bear 33 = .ok (.iconst (-1), 1) := by decide +kernel
theorem dX12_bear_34 : decode cX12_bear 34 = .ok (.if_icmp .eq 30, 3) := by decide +kernel
theorem dX12_bear_37 : decode cX12_bear 37 = .ok (.iload_n 2, 1) := by decide +kernel
theorem dX12_bear_38 : decode cX12_bear 38 = .ok (.aload_n 0, 1) := by decide +kernel
theorem dX12_bear_39 : decode cX12_bear 39 = .ok (.iload 5, 2) := by decide +kernel
theorem dX12_bear_41 : decode cX12_bear 41 = .ok (.invokevirtual 150, 3) := by decide +kernel
theorem dX12_bear_44 : decode cX12_bear 44 = .ok (.imul, 1) := by decide +kernel
theorem dX12_bear_45 : decode cX12_bear 45 = .ok (.bipush 20, 2) := by decide +kernel
theorem dX12_bear_47 : decode cX12_bear 47 = .ok (.idiv, 1) := by decide +kernel
theorem dX12_bear_48 : decode cX12_bear 48 = .ok (.istore 6, 2) := by decide +kernel
theorem dX12_bear_50 : decode cX12_bear 50 = .ok (.iload_n 3, 1) := by decide +kernel
theorem dX12_bear_51 : decode cX12_bear 51 = .ok (.iload 6, 2) := by decide +kernel
theorem dX12_bear_53 : decode cX12_bear 53 = .ok (.isub, 1) := by decide +kernel
theorem dX12_bear_54 : decode cX12_bear 54 = .ok (.istore_n 3, 1) := by decide +kernel
theorem dX12_bear_55 : decode cX12_bear 55 = .ok (.aload_n 0, 1) := by decide +kernel
theorem dX12_bear_56 : decode cX12_bear 56 = .ok (.iload 5, 2) := by decide +kernel
theorem dX12_bear_58 : decode cX12_bear 58 = .ok (.iload_n 1, 1) := by decide +kernel
theorem dX12_bear_59 : decode cX12_bear 59 = .ok (.iload 6, 2) := by decide +kernel
theorem dX12_bear_61 : decode cX12_bear 61 = .ok (.invokevirtual 201, 3) := by decide +kernel
theorem dX12_bear_64 : decode cX12_bear 64 = .ok (.iinc 4 1, 3) := by decide +kernel
theorem dX12_bear_67 : decode cX12_bear 67 = .ok (.goto (-62), 3) := by decide +kernel
theorem dX12_bear_70 : decode cX12_bear 70 = .ok (.aload_n 0, 1) := by decide +kernel
theorem dX12_bear_71 : decode cX12_bear 71 = .ok (.getfield 60, 3) := by decide +kernel
theorem dX12_bear_74 : decode cX12_bear 74 = .ok (.iload_n 1, 1) := by decide +kernel
theorem dX12_bear_75 : decode cX12_bear 75 = .ok (.dup2, 1) := by decide +kernel
theorem dX12_bear_76 : decode cX12_bear 76 = .ok (.iaload, 1) := by decide +kernel
theorem dX12_bear_77 : decode cX12_bear 77 = .ok (.iload_n 3, 1) := by decide +kernel
theorem dX12_bear_78 : decode cX12_bear 78 = .ok (.iadd, 1) := by decide +kernel
theorem dX12_bear_79 : decode cX12_bear 79 = .ok (.iastore, 1) := by decide +kernel
theorem dX12_bear_80 : decode cX12_bear 80 = .ok (.return_, 1) := by decide +kernel
theorem dX12_bearSecond_0 : decode cX12_bearSecond 0 = .ok (.iload_n 3, 1) := by decide +kernel
theorem dX12_bearSecond_1 : decode cX12_bearSecond 1 = .ok (.istore 4, 2) := by decide +kernel
theorem dX12_bearSecond_3 : decode cX12_bearSecond 3 = .ok (.iconst 0, 1) := by decide +kernel
theorem dX12_bearSecond_4 : decode cX12_bearSecond 4 = .ok (.istore 5, 2) := by decide +kernel
theorem dX12_bearSecond_6 : decode cX12_bearSecond 6 = .ok (.iload 5, 2) := by decide +kernel
theorem dX12_bearSecond_8 : decode cX12_bearSecond 8 = .ok (.iconst 4, 1) := by decide +kernel
theorem dX12_bearSecond_9 : decode cX12_bearSecond 9 = .ok (.if_icmp .ge 73, 3) := by decide +kernel
theorem dX12_bearSecond_12 : decode cX12_bearSecond 12 = .ok (.aload_n 0, 1) := by decide +kernel
theorem dX12_bearSecond_13 : decode cX12_bearSecond 13 = .ok (.iload_n 1, 1) := by decide +kernel
theorem dX12_bearSecond_14 : decode cX12_bearSecond 14 = .ok (.iload 5, 2) := by decide +kernel
theorem dX12_bearSecond_16 : decode cX12_bearSecond 16 = .ok (.invokevirtual 147, 3) := by decide +kernel
theorem dX12_bearSecond_19 : decode cX12_bearSecond 19 = .ok (.istore 6, 2) := by decide +kernel
theorem dX12_bearSecond_21 : decode cX12_bearSecond 21 = .ok (.iload 6, 2) := by decide +kernel
theorem dX12_bearSecond_23 : decode cX12_bearSecond 23 = .ok (.iconst (-1), 1) := by decide +kernel
theorem dX12_bearSecond_24 : decode cX12_bearSecond 24 = .ok (.if_icmp .eq 52, 3) := by decide +kernel
theorem dX12_bearSecond_27 : decode cX12_bearSecond 27 = .ok (.iload 6, 2) := by decide +kernel
theorem dX12_bearSecond_29 : decode cX12_bearSecond 29 = .ok (.iload_n 2, 1) := by decide +kernel
theorem dX12_bearSecond_30 : decode cX12_bearSecond 30 = .ok (.if_icmp .eq 46, 3) := by decide +kernel
theorem dX12_bearSecond_33 : decode cX12_bearSecond 33 = .ok (.aload_n 0, 1) := by decide +kernel
theorem dX12_bearSecond_34 : decode cX12_bearSecond 34 = .ok (.getfield 7, 3) := by decide +kernel
theorem dX12_bearSecond_37 : decode cX12_bearSecond 37 = .ok (.iload 6, 2) := by decide +kernel
theorem dX12_bearSecond_39 : decode cX12_bearSecond 39 = .ok (.iaload, 1) := by decide +kernel
theorem dX12_bearSecond_40 : decode cX12_bearSecond 40 = .ok (.iconst (-1), 1) := by decide +kernel
theorem dX12_bearSecond_41 : decode cX12_bearSecond 41 = .ok (.if_icmp .eq 35, 3) := by decide +kernel
theorem dX12_bearSecond_44 : decode cX12_bearSecond 44 = .ok (.iload_n 3, 1) := by decide +kernel
theorem dX12_bearSecond_45 : decode cX12_bearSecond 45 = .ok (.aload_n 0, 1) := by decide +kernel
theorem dX12_bearSecond_46 : decode cX12_bearSecond 46 = .ok (.iload 6, 2) := by decide +kernel
theorem dX12_bearSecond_48 : decode cX12_bearSecond 48 = .ok (.invokevirtual 150, 3) := by decide +kernel
theorem dX12_bearSecond_51 : decode cX12_bearSecond 51 = .ok (.imul, 1) := by decide +kernel
theorem dX12_bearSecond_52 : decode cX12_bearSecond 52 = .ok (.bipush 20, 2) := by decide +kernel
theorem dX12_bearSecond_54 : decode cX12_bearSecond 54 = .ok (.idiv, 1) := by decide +kernel
theorem dX12_bearSecond_55 : decode cX12_bearSecond 55 = .ok (.istore 7, 2) := by decide +kernel
theorem dX12_bearSecond_57 : decode cX12_bearSecond 57 = .ok (.iload 4, 2) := by decide +kernel
theorem dX12_bearSecond_59 : decode cX12_bearSecond 59 = .ok (.iload 7, 2) := by decide +kernel
theorem dX12_bearSecond_61 : decode cX12_bearSecond 61 = .ok (.isub, 1) := by decide +kernel
theorem dX12_bearSecond_62 : decode cX12_bearSecond 62 = .ok (.istore 4, 2) := by decide +kernel
theorem dX12_bearSecond_64 : decode cX12_bearSecond 64 = .ok (.aload_n 0, 1) := by decide +kernel
theorem dX12_bearSecond_65 : decode cX12_bearSecond 65 = .ok (.getfield 60, 3) := by decide +kernel
theorem dX12_bearSecond_68 : decode cX12_bearSecond 68 = .ok (.iload 6, 2) := by decide +kernel
theorem dX12_bearSecond_70 : decode cX12_bearSecond 70 = .ok (.dup2, 1) := by decide +kernel
theorem dX12_bearSecond_71 : decode cX12_bearSecond 71 = .ok (.iaload, 1) := by decide +kernel
theorem dX12_bearSecond_72 : decode cX12_bearSecond 72 = .ok (.iload 7, 2) := by decide +kernel
theorem dX12_bearSecond_74 : decode cX12_bearSecond 74 = .ok (.iadd, 1) := by decide +kernel
theorem dX12_bearSecond_75 : decode cX12_bearSecond 75 = .ok (.iastore, 1) := by decide +kernel
theorem dX12_bearSecond_76 : decode cX12_bearSecond 76 = .ok (.iinc 5 1, 3) := by decide +kernel
theorem dX12_bearSecond_79 : decode cX12_bearSecond 79 = .ok (.goto (-73), 3) := by decide +kernel
theorem dX12_bearSecond_82 : decode cX12_bearSecond 82 = .ok (.aload_n 0, 1) := by decide +kernel
theorem dX12_bearSecond_83 : decode cX12_bearSecond 83 = .ok (.getfield 60, 3) := by decide +kernel
theorem dX12_bearSecond_86 : decode cX12_bearSecond 86 = .ok (.iload_n 1, 1) := by decide +kernel
theorem dX12_bearSecond_87 : decode cX12_bearSecond 87 = .ok (.dup2, 1) := by decide +kernel
theorem dX12_bearSecond_88 : decode cX12_bearSecond 88 = .ok (.iaload, 1) := by decide +kernel
theorem dX12_bearSecond_89 : decode cX12_bearSecond 89 = .ok (.iload 4, 2) := by decide +kernel
theorem dX12_bearSecond_91 : decode cX12_bearSecond 91 = .ok (.iadd, 1) := by decide +kernel
theorem dX12_bearSecond_92 : decode cX12_bearSecond 92 = .ok (.iastore, 1) := by decide +kernel
theorem dX12_bearSecond_93 : decode cX12_bearSecond 93 = .ok (.return_, 1) := by decide +kernel
theorem dX12_clearWear_0 : decode cX12_clearWear 0 = .ok (.iconst 0, 1) := by decide +kernel
theorem dX12_clearWear_1 : decode cX12_clearWear 1 = .ok (.istore_n 1, 1) := by decide +kernel
theorem dX12_clearWear_2 : decode cX12_clearWear 2 = .ok (.iload_n 1, 1) := by decide +kernel
theorem dX12_clearWear_3 : decode cX12_clearWear 3 = .ok (.bipush 30, 2) := by decide +kernel
theorem dX12_clearWear_5 : decode cX12_clearWear 5 = .ok (.if_icmp .ge 16, 3) := by decide +kernel
theorem dX12_clearWear_8 : decode cX12_clearWear 8 = .ok (.aload_n 0, 1) := by decide +kernel
theorem dX12_clearWear_9 : decode cX12_clearWear 9 = .ok (.getfield 60, 3) := by decide +kernel
theorem dX12_clearWear_12 : decode cX12_clearWear 12 = .ok (.iload_n 1, 1) := by decide +kernel
theorem dX12_clearWear_13 : decode cX12_clearWear 13 = .ok (.iconst 0, 1) := by decide +kernel
theorem dX12_clearWear_14 : decode cX12_clearWear 14 = .ok (.iastore, 1) := by decide +kernel
theorem dX12_clearWear_15 : decode cX12_clearWear 15 = .ok (.iinc 1 1, 3) := by decide +kernel
theorem dX12_clearWear_18 : decode cX12_clearWear 18 = .ok (.goto (-16), 3) := by decide +kernel
theorem dX12_clearWear_21 : decode cX12_clearWear 21 = .ok (.return_, 1) := by decide +kernel
theorem dX12_isLoad_0 : decode cX12_isLoad 0 = .ok (.iload_n 0, 1) := by decide +kernel
theorem dX12_isLoad_1 : decode cX12_isLoad 1 = .ok (.iconst 1, 1) := by decide +kernel
theorem dX12_isLoad_2 : decode cX12_isLoad 2 = .ok (.sipush 9999, 3) := by decide +kernel
theorem dX12_isLoad_5 : decode cX12_isLoad 5 = .ok (.invokestatic 78, 3) := by decide +kernel
theorem dX12_isLoad_8 : decode cX12_isLoad 8 = .ok (.ireturn, 1) := by decide +kernel
theorem dX12_layLoad_0 : decode cX12_layLoad 0 = .ok (.aload_n 0, 1) := by decide +kernel
theorem dX12_layLoad_1 : decode cX12_layLoad 1 = .ok (.invokevirtual 205, 3) := by decide +kernel
theorem dX12_layLoad_4 : decode cX12_layLoad 4 = .ok (.aload_n 0, 1) := by decide +kernel
theorem dX12_layLoad_5 : decode cX12_layLoad 5 = .ok (.getfield 7, 3) := by decide +kernel
theorem dX12_layLoad_8 : decode cX12_layLoad 8 = .ok (.iload_n 1, 1) := by decide +kernel
theorem dX12_layLoad_9 : decode cX12_layLoad 9 = .ok (.iaload, 1) := by decide +kernel
theorem dX12_layLoad_10 : decode cX12_layLoad 10 = .ok (.iconst (-1), 1) := by decide +kernel
theorem dX12_layLoad_11 : decode cX12_layLoad 11 = .ok (.if_icmp .eq 9, 3) := by decide +kernel
theorem dX12_layLoad_14 : decode cX12_layLoad 14 = .ok (.aload_n 0, 1) := by decide +kernel
theorem dX12_layLoad_15 : decode cX12_layLoad 15 = .ok (.iload_n 1, 1) := by decide +kernel
theorem dX12_layLoad_16 : decode cX12_layLoad 16 = .ok (.iload_n 2, 1) := by decide +kernel
theorem dX12_layLoad_17 : decode cX12_layLoad 17 = .ok (.invokevirtual 208, 3) := by decide +kernel
theorem dX12_layLoad_20 : decode cX12_layLoad 20 = .ok (.return_, 1) := by decide +kernel
theorem dX12_borne_0 : decode cX12_borne 0 = .ok (.aload_n 0, 1) := by decide +kernel
theorem dX12_borne_1 : decode cX12_borne 1 = .ok (.iload_n 1, 1) := by decide +kernel
theorem dX12_borne_2 : decode cX12_borne 2 = .ok (.invokevirtual 144, 3) := by decide +kernel
theorem dX12_borne_5 : decode cX12_borne 5 = .ok (.ifCond .eq 11, 3) := by decide +kernel
theorem dX12_borne_8 : decode cX12_borne 8 = .ok (.aload_n 0, 1) := by decide +kernel
theorem dX12_borne_9 : decode cX12_borne 9 = .ok (.iload_n 3, 1) := by decide +kernel
theorem dX12_borne_10 : decode cX12_borne 10 = .ok (.invokevirtual 144, 3) := by decide +kernel
theorem dX12_borne_13 : decode cX12_borne 13 = .ok (.ifCond .ne 6, 3) := by decide +kernel
theorem dX12_borne_16 : decode cX12_borne 16 = .ok (.bipush (-101), 2) := by decide +kernel
theorem dX12_borne_18 : decode cX12_borne 18 = .ok (.ireturn, 1) := by decide +kernel
theorem dX12_borne_19 : decode cX12_borne 19 = .ok (.iload_n 2, 1) := by decide +kernel
theorem dX12_borne_20 : decode cX12_borne 20 = .ok (.invokestatic 212, 3) := by decide +kernel
theorem dX12_borne_23 : decode cX12_borne 23 = .ok (.ifCond .ne 6, 3) := by decide +kernel
theorem dX12_borne_26 : decode cX12_borne 26 = .ok (.bipush (-102), 2) := by decide +kernel
theorem dX12_borne_28 : decode cX12_borne 28 = .ok (.ireturn, 1) := by decide +kernel
theorem dX12_borne_29 : decode cX12_borne 29 = .ok (.aload_n 0, 1) := by decide +kernel
theorem dX12_borne_30 : decode cX12_borne 30 = .ok (.iload_n 1, 1) := by decide +kernel
theorem dX12_borne_31 : decode cX12_borne 31 = .ok (.iload_n 2, 1) := by decide +kernel
theorem dX12_borne_32 : decode cX12_borne 32 = .ok (.invokevirtual 215, 3) := by decide +kernel
theorem dX12_borne_35 : decode cX12_borne 35 = .ok (.aload_n 0, 1) := by decide +kernel
theorem dX12_borne_36 : decode cX12_borne 36 = .ok (.getfield 60, 3) := by decide +kernel
theorem dX12_borne_39 : decode cX12_borne 39 = .ok (.iload_n 3, 1) := by decide +kernel
theorem dX12_borne_40 : decode cX12_borne 40 = .ok (.iaload, 1) := by decide +kernel
theorem dX12_borne_41 : decode cX12_borne 41 = .ok (.ireturn, 1) := by decide +kernel
theorem dX12_bearer_0 : decode cX12_bearer 0 = .ok (.aload_n 0, 1) := by decide +kernel
theorem dX12_bearer_1 : decode cX12_bearer 1 = .ok (.iload_n 1, 1) := by decide +kernel
theorem dX12_bearer_2 : decode cX12_bearer 2 = .ok (.invokevirtual 144, 3) := by decide +kernel
theorem dX12_bearer_5 : decode cX12_bearer 5 = .ok (.ifCond .ne 6, 3) := by decide +kernel
theorem dX12_bearer_8 : decode cX12_bearer 8 = .ok (.bipush (-101), 2) := by decide +kernel
theorem dX12_bearer_10 : decode cX12_bearer 10 = .ok (.ireturn, 1) := by decide +kernel
theorem dX12_bearer_11 : decode cX12_bearer 11 = .ok (.iload_n 2, 1) := by decide +kernel
theorem dX12_bearer_12 : decode cX12_bearer 12 = .ok (.invokestatic 212, 3) := by decide +kernel
theorem dX12_bearer_15 : decode cX12_bearer 15 = .ok (.ifCond .ne 6, 3) := by decide +kernel
theorem dX12_bearer_18 : decode cX12_bearer 18 = .ok (.bipush (-102), 2) := by decide +kernel
theorem dX12_bearer_20 : decode cX12_bearer 20 = .ok (.ireturn, 1) := by decide +kernel
theorem dX12_bearer_21 : decode cX12_bearer 21 = .ok (.aload_n 0, 1) := by decide +kernel
theorem dX12_bearer_22 : decode cX12_bearer 22 = .ok (.iload_n 1, 1) := by decide +kernel
theorem dX12_bearer_23 : decode cX12_bearer 23 = .ok (.iload_n 2, 1) := by decide +kernel
theorem dX12_bearer_24 : decode cX12_bearer 24 = .ok (.invokevirtual 215, 3) := by decide +kernel
theorem dX12_bearer_27 : decode cX12_bearer 27 = .ok (.iconst (-1), 1) := by decide +kernel
theorem dX12_bearer_28 : decode cX12_bearer 28 = .ok (.istore_n 3, 1) := by decide +kernel
theorem dX12_bearer_29 : decode cX12_bearer 29 = .ok (.iconst 0, 1) := by decide +kernel
theorem dX12_bearer_30 : decode cX12_bearer 30 = .ok (.istore 4, 2) := by decide +kernel
theorem dX12_bearer_32 : decode cX12_bearer 32 = .ok (.iload 4, 2) := by decide +kernel
theorem dX12_bearer_34 : decode cX12_bearer 34 = .ok (.aload_n 0, 1) := by decide +kernel
theorem dX12_bearer_35 : decode cX12_bearer 35 = .ok (.invokevirtual 140, 3) := by decide +kernel
theorem dX12_bearer_38 : decode cX12_bearer 38 = .ok (.if_icmp .ge 57, 3) := by decide +kernel
theorem dX12_bearer_41 : decode cX12_bearer 41 = .ok (.aload_n 0, 1) := by decide +kernel
theorem dX12_bearer_42 : decode cX12_bearer 42 = .ok (.getfield 7, 3) := by decide +kernel
theorem dX12_bearer_45 : decode cX12_bearer 45 = .ok (.iload_n 1, 1) := by decide +kernel
theorem dX12_bearer_46 : decode cX12_bearer 46 = .ok (.iaload, 1) := by decide +kernel
theorem dX12_bearer_47 : decode cX12_bearer 47 = .ok (.iconst (-1), 1) := by decide +kernel
theorem dX12_bearer_48 : decode cX12_bearer 48 = .ok (.if_icmp .eq 39, 3) := by decide +kernel
theorem dX12_bearer_51 : decode cX12_bearer 51 = .ok (.aload_n 0, 1) := by decide +kernel
theorem dX12_bearer_52 : decode cX12_bearer 52 = .ok (.getfield 60, 3) := by decide +kernel
theorem dX12_bearer_55 : decode cX12_bearer 55 = .ok (.iload 4, 2) := by decide +kernel
theorem dX12_bearer_57 : decode cX12_bearer 57 = .ok (.iaload, 1) := by decide +kernel
theorem dX12_bearer_58 : decode cX12_bearer 58 = .ok (.ifCond .le 29, 3) := by decide +kernel
theorem dX12_bearer_61 : decode cX12_bearer 61 = .ok (.iload_n 3, 1) := by decide +kernel
theorem dX12_bearer_62 : decode cX12_bearer 62 = .ok (.iconst (-1), 1) := by decide +kernel
theorem dX12_bearer_63 : decode cX12_bearer 63 = .ok (.if_icmp .eq 19, 3) := by decide +kernel
theorem dX12_bearer_66 : decode cX12_bearer 66 = .ok (.aload_n 0, 1) := by decide +kernel
theorem dX12_bearer_67 : decode cX12_bearer 67 = .ok (.getfield 60, 3) := by decide +kernel
theorem dX12_bearer_70 : decode cX12_bearer 70 = .ok (.iload 4, 2) := by decide +kernel
theorem dX12_bearer_72 : decode cX12_bearer 72 = .ok (.iaload, 1) := by decide +kernel
theorem dX12_bearer_73 : decode cX12_bearer 73 = .ok (.aload_n 0, 1) := by decide +kernel
theorem dX12_bearer_74 : decode cX12_bearer 74 = .ok (.getfield 60, 3) := by decide +kernel
theorem dX12_bearer_77 : decode cX12_bearer 77 = .ok (.iload_n 3, 1) := by decide +kernel
theorem dX12_bearer_78 : decode cX12_bearer 78 = .ok (.iaload, 1) := by decide +kernel
theorem dX12_bearer_79 : decode cX12_bearer 79 = .ok (.if_icmp .le 8, 3) := by decide +kernel
theorem dX12_bearer_82 : decode cX12_bearer 82 = .ok (.iload 4, 2) := by decide +kernel
theorem dX12_bearer_84 : decode cX12_bearer 84 = .ok (.goto 4, 3) := by decide +kernel
theorem dX12_bearer_87 : decode cX12_bearer 87 = .ok (.iload_n 3, 1) := by decide +kernel
theorem dX12_bearer_88 : decode cX12_bearer 88 = .ok (.istore_n 3, 1) := by decide +kernel
theorem dX12_bearer_89 : decode cX12_bearer 89 = .ok (.iinc 4 1, 3) := by decide +kernel
theorem dX12_bearer_92 : decode cX12_bearer 92 = .ok (.goto (-60), 3) := by decide +kernel
theorem dX12_bearer_95 : decode cX12_bearer 95 = .ok (.iload_n 3, 1) := by decide +kernel
theorem dX12_bearer_96 : decode cX12_bearer 96 = .ok (.ireturn, 1) := by decide +kernel
theorem dX12_isRim_0 : decode cX12_isRim 0 = .ok (.iload_n 1, 1) := by decide +kernel
theorem dX12_isRim_1 : decode cX12_isRim 1 = .ok (.aload_n 0, 1) := by decide +kernel
theorem dX12_isRim_2 : decode cX12_isRim 2 = .ok (.getfield 128, 3) := by decide +kernel
theorem dX12_isRim_5 : decode cX12_isRim 5 = .ok (.idiv, 1) := by decide +kernel
theorem dX12_isRim_6 : decode cX12_isRim 6 = .ok (.istore_n 2, 1) := by decide +kernel
theorem dX12_isRim_7 : decode cX12_isRim 7 = .ok (.iload_n 1, 1) := by decide +kernel
theorem dX12_isRim_8 : decode cX12_isRim 8 = .ok (.aload_n 0, 1) := by decide +kernel
theorem dX12_isRim_9 : decode cX12_isRim 9 = .ok (.getfield 128, 3) := by decide +kernel
theorem dX12_isRim_12 : decode cX12_isRim 12 = .ok (.irem, 1) := by decide +kernel
theorem dX12_isRim_13 : decode cX12_isRim 13 = .ok (.istore_n 3, 1) := by decide +kernel
theorem dX12_isRim_14 : decode cX12_isRim 14 = .ok (.iload_n 2, 1) := by decide +kernel
theorem dX12_isRim_15 : decode cX12_isRim 15 = .ok (.ifCond .eq 27, 3) := by decide +kernel
theorem dX12_isRim_18 : decode cX12_isRim 18 = .ok (.iload_n 2, 1) := by decide +kernel
theorem dX12_isRim_19 : decode cX12_isRim 19 = .ok (.aload_n 0, 1) := by decide +kernel
theorem dX12_isRim_20 : decode cX12_isRim 20 = .ok (.getfield 125, 3) := by decide +kernel
theorem dX12_isRim_23 : decode cX12_isRim 23 = .ok (.iconst 1, 1) := by decide +kernel
theorem dX12_isRim_24 : decode cX12_isRim 24 = .ok (.isub, 1) := by decide +kernel
theorem dX12_isRim_25 : decode cX12_isRim 25 = .ok (.if_icmp .eq 17, 3) := by decide +kernel
theorem dX12_isRim_28 : decode cX12_isRim 28 = .ok (.iload_n 3, 1) := by decide +kernel
theorem dX12_isRim_29 : decode cX12_isRim 29 = .ok (.ifCond .eq 13, 3) := by decide +kernel
theorem dX12_isRim_32 : decode cX12_isRim 32 = .ok (.iload_n 3, 1) := by decide +kernel
theorem dX12_isRim_33 : decode cX12_isRim 33 = .ok (.aload_n 0, 1) := by decide +kernel
theorem dX12_isRim_34 : decode cX12_isRim 34 = .ok (.getfield 128, 3) := by decide +kernel
theorem dX12_isRim_37 : decode cX12_isRim 37 = .ok (.iconst 1, 1) := by decide +kernel
theorem dX12_isRim_38 : decode cX12_isRim 38 = .ok (.isub, 1) := by decide +kernel
theorem dX12_isRim_39 : decode cX12_isRim 39 = .ok (.if_icmp .ne 7, 3) := by decide +kernel
theorem dX12_isRim_42 : decode cX12_isRim 42 = .ok (.iconst 1, 1) := by decide +kernel
theorem dX12_isRim_43 : decode cX12_isRim 43 = .ok (.goto 4, 3) := by decide +kernel
theorem dX12_isRim_46 : decode cX12_isRim 46 = .ok (.iconst 0, 1) := by decide +kernel
theorem dX12_isRim_47 : decode cX12_isRim 47 = .ok (.ireturn, 1) := by decide +kernel
theorem dX12_layWater_0 : decode cX12_layWater 0 = .ok (.iconst 0, 1) := by decide +kernel
theorem dX12_layWater_1 : decode cX12_layWater 1 = .ok (.istore_n 1, 1) := by decide +kernel
theorem dX12_layWater_2 : decode cX12_layWater 2 = .ok (.iload_n 1, 1) := by decide +kernel
theorem dX12_layWater_3 : decode cX12_layWater 3 = .ok (.aload_n 0, 1) := by decide +kernel
theorem dX12_layWater_4 : decode cX12_layWater 4 = .ok (.invokevirtual 140, 3) := by decide +kernel
theorem dX12_layWater_7 : decode cX12_layWater 7 = .ok (.if_icmp .ge 34, 3) := by decide +kernel
theorem dX12_layWater_10 : decode cX12_layWater 10 = .ok (.aload_n 0, 1) := by decide +kernel
theorem dX12_layWater_11 : decode cX12_layWater 11 = .ok (.getfield 63, 3) := by decide +kernel
theorem dX12_layWater_14 : decode cX12_layWater 14 = .ok (.iload_n 1, 1) := by decide +kernel
theorem dX12_layWater_15 : decode cX12_layWater 15 = .ok (.aload_n 0, 1) := by decide +kernel
theorem dX12_layWater_16 : decode cX12_layWater 16 = .ok (.iload_n 1, 1) := by decide +kernel
theorem dX12_layWater_17 : decode cX12_layWater 17 = .ok (.invokevirtual 218, 3) := by decide +kernel
theorem dX12_layWater_20 : decode cX12_layWater 20 = .ok (.ifCond .eq 12, 3) := by decide +kernel
theorem dX12_layWater_23 : decode cX12_layWater 23 = .ok (.aload_n 0, 1) := by decide +kernel
theorem dX12_layWater_24 : decode cX12_layWater 24 = .ok (.getfield 16, 3) := by decide +kernel
theorem dX12_layWater_27 : decode cX12_layWater 27 = .ok (.iload_n 1, 1) := by decide +kernel
theorem dX12_layWater_28 : decode cX12_layWater 28 = .ok (.iaload, 1) := by decide +kernel
theorem dX12_layWater_29 : decode cX12_layWater 29 = .ok (.goto 5, 3) := by decide +kernel
theorem dX12_layWater_32 : decode cX12_layWater 32 = .ok (.ldc 196, 2) := by decide +kernel
theorem dX12_layWater_34 : decode cX12_layWater 34 = .ok (.iastore, 1) := by decide +kernel
theorem dX12_layWater_35 : decode cX12_layWater 35 = .ok (.iinc 1 1, 3) := by decide +kernel
theorem dX12_layWater_38 : decode cX12_layWater 38 = .ok (.goto (-36), 3) := by decide +kernel
theorem dX12_layWater_41 : decode cX12_layWater 41 = .ok (.iconst 1, 1) := by decide +kernel
theorem dX12_layWater_42 : decode cX12_layWater 42 = .ok (.istore_n 1, 1) := by decide +kernel
theorem dX12_layWater_43 : decode cX12_layWater 43 = .ok (.iload_n 1, 1) := by decide +kernel
theorem dX12_layWater_44 : decode cX12_layWater 44 = .ok (.ifCond .eq 111, 3) := by decide +kernel
theorem dX12_layWater_47 : decode cX12_layWater 47 = .ok (.iconst 0, 1) := by decide +kernel
theorem dX12_layWater_48 : decode cX12_layWater 48 = .ok (.istore_n 1, 1) := by decide +kernel
theorem dX12_layWater_49 : decode cX12_layWater 49 = .ok (.iconst 0, 1) := by decide +kernel
theorem dX12_layWater_50 : decode cX12_layWater 50 = .ok (.istore_n 2, 1) := by decide +kernel
theorem dX12_layWater_51 : decode cX12_layWater 51 = .ok (.iload_n 2, 1) := by decide +kernel
theorem dX12_layWater_52 : decode cX12_layWater 52 = .ok (.aload_n 0, 1) := by decide +kernel
theorem dX12_layWater_53 : decode cX12_layWater 53 = .ok (.invokevirtual 140, 3) := by decide +kernel
theorem dX12_layWater_56 : decode cX12_layWater 56 = .ok (.if_icmp .ge 96, 3) := by decide +kernel
theorem dX12_layWater_59 : decode cX12_layWater 59 = .ok (.iconst 0, 1) := by decide +kernel
theorem dX12_layWater_60 : decode cX12_layWater 60 = .ok (.istore_n 3, 1) := by decide +kernel
theorem dX12_layWater_61 : decode cX12_layWater 61 = .ok (.iload_n 3, 1) := by decide +kernel
theorem dX12_layWater_62 : decode cX12_layWater 62 = .ok (.iconst 4, 1) := by decide +kernel
theorem dX12_layWater_63 : decode cX12_layWater 63 = .ok (.if_icmp .ge 83, 3) := by decide +kernel
theorem dX12_layWater_66 : decode cX12_layWater 66 = .ok (.aload_n 0, 1) := by decide +kernel
theorem dX12_layWater_67 : decode cX12_layWater 67 = .ok (.iload_n 2, 1) := by decide +kernel
theorem dX12_layWater_68 : decode cX12_layWater 68 = .ok (.iload_n 3, 1) := by decide +kernel
theorem dX12_layWater_69 : decode cX12_layWater 69 = .ok (.invokevirtual 147, 3) := by decide +kernel
theorem dX12_layWater_72 : decode cX12_layWater 72 = .ok (.istore 4, 2) := by decide +kernel
theorem dX12_layWater_74 : decode cX12_layWater 74 = .ok (.iload 4, 2) := by decide +kernel
theorem dX12_layWater_76 : decode cX12_layWater 76 = .ok (.iconst (-1), 1) := by decide +kernel
theorem dX12_layWater_77 : decode cX12_layWater 77 = .ok (.if_icmp .ne 8, 3) := by decide +kernel
theorem dX12_layWater_80 : decode cX12_layWater 80 = .ok (.ldc 196, 2) := by decide +kernel
theorem dX12_layWater_82 : decode cX12_layWater 82 = .ok (.goto 35, 3) := by decide +kernel
theorem dX12_layWater_85 : decode cX12_layWater 85 = .ok (.aload_n 0, 1) := by decide +kernel
theorem dX12_layWater_86 : decode cX12_layWater 86 = .ok (.getfield 63, 3) := by decide +kernel
theorem dX12_layWater_89 : decode cX12_layWater 89 = .ok (.iload 4, 2) := by decide +kernel
theorem dX12_layWater_91 : decode cX12_layWater 91 = .ok (.iaload, 1) := by decide +kernel
theorem dX12_layWater_92 : decode cX12_layWater 92 = .ok (.aload_n 0, 1) := by decide +kernel
theorem dX12_layWater_93 : decode cX12_layWater 93 = .ok (.getfield 16, 3) := by decide +kernel
theorem dX12_layWater_96 : decode cX12_layWater 96 = .ok (.iload_n 2, 1) := by decide +kernel
theorem dX12_layWater_97 : decode cX12_layWater 97 = .ok (.iaload, 1) := by decide +kernel
theorem dX12_layWater_98 : decode cX12_layWater 98 = .ok (.if_icmp .le 13, 3) := by decide +kernel
theorem dX12_layWater_101 : decode cX12_layWater 101 = .ok (.aload_n 0, 1) := by decide +kernel
theorem dX12_layWater_102 : decode cX12_layWater 102 = .ok (.getfield 63, 3) := by decide +kernel
theorem dX12_layWater_105 : decode cX12_layWater 105 = .ok (.iload 4, 2) := by decide +kernel
theorem dX12_layWater_107 : decode cX12_layWater 107 = .ok (.iaload, 1) := by decide +kernel
theorem dX12_layWater_108 : decode cX12_layWater 108 = .ok (.goto 9, 3) := by decide +kernel
theorem dX12_layWater_111 : decode cX12_layWater 111 = .ok (.aload_n 0, 1) := by decide +kernel
theorem dX12_layWater_112 : decode cX12_layWater 112 = .ok (.getfield 16, 3) := by decide +kernel
theorem dX12_layWater_115 : decode cX12_layWater 115 = .ok (.iload_n 2, 1) := by decide +kernel
theorem dX12_layWater_116 : decode cX12_layWater 116 = .ok (.iaload, 1) := by decide +kernel
theorem dX12_layWater_117 : decode cX12_layWater 117 = .ok (.istore 5, 2) := by decide +kernel
theorem dX12_layWater_119 : decode cX12_layWater 119 = .ok (.iload 5, 2) := by decide +kernel
theorem dX12_layWater_121 : decode cX12_layWater 121 = .ok (.aload_n 0, 1) := by decide +kernel
theorem dX12_layWater_122 : decode cX12_layWater 122 = .ok (.getfield 63, 3) := by decide +kernel
theorem dX12_layWater_125 : decode cX12_layWater 125 = .ok (.iload_n 2, 1) := by decide +kernel
theorem dX12_layWater_126 : decode cX12_layWater 126 = .ok (.iaload, 1) := by decide +kernel
theorem dX12_layWater_127 : decode cX12_layWater 127 = .ok (.if_icmp .ge 13, 3) := by decide +kernel
theorem dX12_layWater_130 : decode cX12_layWater 130 = .ok (.aload_n 0, 1) := by decide +kernel
theorem dX12_layWater_131 : decode cX12_layWater 131 = .ok (.getfield 63, 3) := by decide +kernel
theorem dX12_layWater_134 : decode cX12_layWater 134 = .ok (.iload_n 2, 1) := by decide +kernel
theorem dX12_layWater_135 : decode cX12_layWater 135 = .ok (.iload 5, 2) := by decide +kernel
theorem dX12_layWater_137 : decode cX12_layWater 137 = .ok (.iastore, 1) := by decide +kernel
theorem dX12_layWater_138 : decode cX12_layWater 138 = .ok (.iconst 1, 1) := by decide +kernel
theorem dX12_layWater_139 : decode cX12_layWater 139 = .ok (.istore_n 1, 1) := by decide +kernel
theorem dX12_layWater_140 : decode cX12_layWater 140 = .ok (.iinc 3 1, 3) := by decide +kernel
theorem dX12_layWater_143 : decode cX12_layWater 143 = .ok (.goto (-82), 3) := by decide +kernel
theorem dX12_layWater_146 : decode cX12_layWater 146 = .ok (.iinc 2 1, 3) := by decide +kernel
theorem dX12_layWater_149 : decode cX12_layWater 149 = .ok (.goto (-98), 3) := by decide +kernel
theorem dX12_layWater_152 : decode cX12_layWater 152 = .ok (.goto (-109), 3) := by decide +kernel
theorem dX12_layWater_155 : decode cX12_layWater 155 = .ok (.return_, 1) := by decide +kernel
theorem dX12_water_0 : decode cX12_water 0 = .ok (.aload_n 0, 1) := by decide +kernel
theorem dX12_water_1 : decode cX12_water 1 = .ok (.iload_n 1, 1) := by decide +kernel
theorem dX12_water_2 : decode cX12_water 2 = .ok (.invokevirtual 144, 3) := by decide +kernel
theorem dX12_water_5 : decode cX12_water 5 = .ok (.ifCond .ne 6, 3) := by decide +kernel
theorem dX12_water_8 : decode cX12_water 8 = .ok (.bipush (-101), 2) := by decide +kernel
theorem dX12_water_10 : decode cX12_water 10 = .ok (.ireturn, 1) := by decide +kernel
theorem dX12_water_11 : decode cX12_water 11 = .ok (.aload_n 0, 1) := by decide +kernel
theorem dX12_water_12 : decode cX12_water 12 = .ok (.invokevirtual 221, 3) := by decide +kernel
theorem dX12_water_15 : decode cX12_water 15 = .ok (.aload_n 0, 1) := by decide +kernel
theorem dX12_water_16 : decode cX12_water 16 = .ok (.getfield 63, 3) := by decide +kernel
theorem dX12_water_19 : decode cX12_water 19 = .ok (.iload_n 1, 1) := by decide +kernel
theorem dX12_water_20 : decode cX12_water 20 = .ok (.iaload, 1) := by decide +kernel
theorem dX12_water_21 : decode cX12_water 21 = .ok (.aload_n 0, 1) := by decide +kernel
theorem dX12_water_22 : decode cX12_water 22 = .ok (.getfield 16, 3) := by decide +kernel
theorem dX12_water_25 : decode cX12_water 25 = .ok (.iload_n 1, 1) := by decide +kernel
theorem dX12_water_26 : decode cX12_water 26 = .ok (.iaload, 1) := by decide +kernel
theorem dX12_water_27 : decode cX12_water 27 = .ok (.isub, 1) := by decide +kernel
theorem dX12_water_28 : decode cX12_water 28 = .ok (.ireturn, 1) := by decide +kernel
theorem dX12_seed_0 : decode cX12_seed 0 = .ok (.iload_n 1, 1) := by decide +kernel
theorem dX12_seed_1 : decode cX12_seed 1 = .ok (.ifCond .ge 6, 3) := by decide +kernel
theorem dX12_seed_4 : decode cX12_seed 4 = .ok (.bipush (-102), 2) := by decide +kernel
theorem dX12_seed_6 : decode cX12_seed 6 = .ok (.ireturn, 1) := by decide +kernel
theorem dX12_seed_7 : decode cX12_seed 7 = .ok (.aload_n 0, 1) := by decide +kernel
theorem dX12_seed_8 : decode cX12_seed 8 = .ok (.getfield 25, 3) := by decide +kernel
theorem dX12_seed_11 : decode cX12_seed 11 = .ok (.l2i, 1) := by decide +kernel
theorem dX12_seed_12 : decode cX12_seed 12 = .ok (.istore_n 2, 1) := by decide +kernel
theorem dX12_seed_13 : decode cX12_seed 13 = .ok (.aload_n 0, 1) := by decide +kernel
theorem dX12_seed_14 : decode cX12_seed 14 = .ok (.iload_n 1, 1) := by decide +kernel
theorem dX12_seed_15 : decode cX12_seed 15 = .ok (.i2l, 1) := by decide +kernel
theorem dX12_seed_16 : decode cX12_seed 16 = .ok (.putfield 25, 3) := by decide +kernel
theorem dX12_seed_19 : decode cX12_seed 19 = .ok (.iload_n 2, 1) := by decide +kernel
theorem dX12_seed_20 : decode cX12_seed 20 = .ok (.ireturn, 1) := by decide +kernel
theorem dX12_draw_0 : decode cX12_draw 0 = .ok (.aload_n 0, 1) := by decide +kernel
theorem dX12_draw_1 : decode cX12_draw 1 = .ok (.ldc2_w 224, 3) := by decide +kernel
theorem dX12_draw_4 : decode cX12_draw 4 = .ok (.aload_n 0, 1) := by decide +kernel
theorem dX12_draw_5 : decode cX12_draw 5 = .ok (.getfield 25, 3) := by decide +kernel
theorem dX12_draw_8 : decode cX12_draw 8 = .ok (.lmul, 1) := by decide +kernel
theorem dX12_draw_9 : decode cX12_draw 9 = .ok (.ldc2_w 226, 3) := by decide +kernel
theorem dX12_draw_12 : decode cX12_draw 12 = .ok (.ladd, 1) := by decide +kernel
theorem dX12_draw_13 : decode cX12_draw 13 = .ok (.ldc2_w 228, 3) := by decide +kernel
theorem dX12_draw_16 : decode cX12_draw 16 = .ok (.land, 1) := by decide +kernel
theorem dX12_draw_17 : decode cX12_draw 17 = .ok (.putfield 25, 3) := by decide +kernel
theorem dX12_draw_20 : decode cX12_draw 20 = .ok (.aload_n 0, 1) := by decide +kernel
theorem dX12_draw_21 : decode cX12_draw 21 = .ok (.getfield 25, 3) := by decide +kernel
theorem dX12_draw_24 : decode cX12_draw 24 = .ok (.ldc2_w 230, 3) := by decide +kernel
theorem dX12_draw_27 : decode cX12_draw 27 = .ok (.ldiv, 1) := by decide +kernel
theorem dX12_draw_28 : decode cX12_draw 28 = .ok (.ldc2_w 232, 3) := by decide +kernel
theorem dX12_draw_31 : decode cX12_draw 31 = .ok (.lrem, 1) := by decide +kernel
theorem dX12_draw_32 : decode cX12_draw 32 = .ok (.l2i, 1) := by decide +kernel
theorem dX12_draw_33 : decode cX12_draw 33 = .ok (.ireturn, 1) := by decide +kernel
theorem dX12_layWear_0 : decode cX12_layWear 0 = .ok (.aload_n 0, 1) := by decide +kernel
theorem dX12_layWear_1 : decode cX12_layWear 1 = .ok (.invokevirtual 205, 3) := by decide +kernel
theorem dX12_layWear_4 : decode cX12_layWear 4 = .ok (.iconst 0, 1) := by decide +kernel
theorem dX12_layWear_5 : decode cX12_layWear 5 = .ok (.istore_n 1, 1) := by decide +kernel
theorem dX12_layWear_6 : decode cX12_layWear 6 = .ok (.iload_n 1, 1) := by decide +kernel
theorem dX12_layWear_7 : decode cX12_layWear 7 = .ok (.aload_n 0, 1) := by decide +kernel
theorem dX12_layWear_8 : decode cX12_layWear 8 = .ok (.getfield 134, 3) := by decide +kernel
theorem dX12_layWear_11 : decode cX12_layWear 11 = .ok (.if_icmp .ge 73, 3) := by decide +kernel
theorem dX12_layWear_14 : decode cX12_layWear 14 = .ok (.iconst 0, 1) := by decide +kernel
theorem dX12_layWear_15 : decode cX12_layWear 15 = .ok (.istore_n 2, 1) := by decide +kernel
theorem dX12_layWear_16 : decode cX12_layWear 16 = .ok (.iload_n 2, 1) := by decide +kernel
theorem dX12_layWear_17 : decode cX12_layWear 17 = .ok (.aload_n 0, 1) := by decide +kernel
theorem dX12_layWear_18 : decode cX12_layWear 18 = .ok (.getfield 128, 3) := by decide +kernel
theorem dX12_layWear_21 : decode cX12_layWear 21 = .ok (.if_icmp .ge 57, 3) := by decide +kernel
theorem dX12_layWear_24 : decode cX12_layWear 24 = .ok (.aload_n 0, 1) := by decide +kernel
theorem dX12_layWear_25 : decode cX12_layWear 25 = .ok (.getfield 29, 3) := by decide +kernel
theorem dX12_layWear_28 : decode cX12_layWear 28 = .ok (.iload_n 1, 1) := by decide +kernel
theorem dX12_layWear_29 : decode cX12_layWear 29 = .ok (.iaload, 1) := by decide +kernel
theorem dX12_layWear_30 : decode cX12_layWear 30 = .ok (.aload_n 0, 1) := by decide +kernel
theorem dX12_layWear_31 : decode cX12_layWear 31 = .ok (.getfield 125, 3) := by decide +kernel
theorem dX12_layWear_34 : decode cX12_layWear 34 = .ok (.if_icmp .ge 44, 3) := by decide +kernel
theorem dX12_layWear_37 : decode cX12_layWear 37 = .ok (.aload_n 0, 1) := by decide +kernel
theorem dX12_layWear_38 : decode cX12_layWear 38 = .ok (.getfield 29, 3) := by decide +kernel
theorem dX12_layWear_41 : decode cX12_layWear 41 = .ok (.iload_n 1, 1) := by decide +kernel
theorem dX12_layWear_42 : decode cX12_layWear 42 = .ok (.iaload, 1) := by decide +kernel
theorem dX12_layWear_43 : decode cX12_layWear 43 = .ok (.aload_n 0, 1) := by decide +kernel
theorem dX12_layWear_44 : decode cX12_layWear 44 = .ok (.getfield 128, 3) := by decide +kernel
theorem dX12_layWear_47 : decode cX12_layWear 47 = .ok (.imul, 1) := by decide +kernel
theorem dX12_layWear_48 : decode cX12_layWear 48 = .ok (.iload_n 2, 1) := by decide +kernel
theorem dX12_layWear_49 : decode cX12_layWear 49 = .ok (.iadd, 1) := by decide +kernel
theorem dX12_layWear_50 : decode cX12_layWear 50 = .ok (.istore_n 3, 1) := by decide +kernel
theorem dX12_layWear_51 : decode cX12_layWear 51 = .ok (.aload_n 0, 1) := by decide +kernel
theorem dX12_layWear_52 : decode cX12_layWear 52 = .ok (.getfield 7, 3) := by decide +kernel
theorem dX12_layWear_55 : decode cX12_layWear 55 = .ok (.iload_n 3, 1) := by decide +kernel
theorem dX12_layWear_56 : decode cX12_layWear 56 = .ok (.iaload, 1) := by decide +kernel
theorem dX12_layWear_57 : decode cX12_layWear 57 = .ok (.iconst (-1), 1) := by decide +kernel
theorem dX12_layWear_58 : decode cX12_layWear 58 = .ok (.if_icmp .eq 14, 3) := by decide +kernel
theorem dX12_layWear_61 : decode cX12_layWear 61 = .ok (.aload_n 0, 1) := by decide +kernel
theorem dX12_layWear_62 : decode cX12_layWear 62 = .ok (.iload_n 3, 1) := by decide +kernel
theorem dX12_layWear_63 : decode cX12_layWear 63 = .ok (.aload_n 0, 1) := by decide +kernel
theorem dX12_layWear_64 : decode cX12_layWear 64 = .ok (.getfield 32, 3) := by decide +kernel
theorem dX12_layWear_67 : decode cX12_layWear 67 = .ok (.iload_n 1, 1) := by decide +kernel
theorem dX12_layWear_68 : decode cX12_layWear 68 = .ok (.iaload, 1) := by decide +kernel
theorem dX12_layWear_69 : decode cX12_layWear 69 = .ok (.invokevirtual 208, 3) := by decide +kernel
theorem dX12_layWear_72 : decode cX12_layWear 72 = .ok (.iinc 2 1, 3) := by decide +kernel
theorem dX12_layWear_75 : decode cX12_layWear 75 = .ok (.goto (-59), 3) := by decide +kernel
theorem dX12_layWear_78 : decode cX12_layWear 78 = .ok (.iinc 1 1, 3) := by decide +kernel
theorem dX12_layWear_81 : decode cX12_layWear 81 = .ok (.goto (-75), 3) := by decide +kernel
theorem dX12_layWear_84 : decode cX12_layWear 84 = .ok (.iconst 0, 1) := by decide +kernel
theorem dX12_layWear_85 : decode cX12_layWear 85 = .ok (.istore_n 1, 1) := by decide +kernel
theorem dX12_layWear_86 : decode cX12_layWear 86 = .ok (.iload_n 1, 1) := by decide +kernel
theorem dX12_layWear_87 : decode cX12_layWear 87 = .ok (.aload_n 0, 1) := by decide +kernel
theorem dX12_layWear_88 : decode cX12_layWear 88 = .ok (.invokevirtual 140, 3) := by decide +kernel
theorem dX12_layWear_91 : decode cX12_layWear 91 = .ok (.if_icmp .ge 20, 3) := by decide +kernel
theorem dX12_layWear_94 : decode cX12_layWear 94 = .ok (.aload_n 0, 1) := by decide +kernel
theorem dX12_layWear_95 : decode cX12_layWear 95 = .ok (.getfield 66, 3) := by decide +kernel
theorem dX12_layWear_98 : decode cX12_layWear 98 = .ok (.iload_n 1, 1) := by decide +kernel
theorem dX12_layWear_99 : decode cX12_layWear 99 = .ok (.aload_n 0, 1) := by decide +kernel
theorem dX12_layWear_100 : decode cX12_layWear 100 = .ok (.iload_n 1, 1) := by decide +kernel
theorem dX12_layWear_101 : decode cX12_layWear 101 = .ok (.invokevirtual 153, 3) := by decide +kernel
theorem dX12_layWear_104 : decode cX12_layWear 104 = .ok (.iastore, 1) := by decide +kernel
theorem dX12_layWear_105 : decode cX12_layWear 105 = .ok (.iinc 1 1, 3) := by decide +kernel
theorem dX12_layWear_108 : decode cX12_layWear 108 = .ok (.goto (-22), 3) := by decide +kernel
theorem dX12_layWear_111 : decode cX12_layWear 111 = .ok (.return_, 1) := by decide +kernel
theorem dX12_worsen_0 : decode cX12_worsen 0 = .ok (.aload_n 0, 1) := by decide +kernel
theorem dX12_worsen_1 : decode cX12_worsen 1 = .ok (.getfield 7, 3) := by decide +kernel
theorem dX12_worsen_4 : decode cX12_worsen 4 = .ok (.iload_n 1, 1) := by decide +kernel
theorem dX12_worsen_5 : decode cX12_worsen 5 = .ok (.iaload, 1) := by decide +kernel
theorem dX12_worsen_6 : decode cX12_worsen 6 = .ok (.ifCond .eq 13, 3) := by decide +kernel
theorem dX12_worsen_9 : decode cX12_worsen 9 = .ok (.aload_n 0, 1) := by decide +kernel
theorem dX12_worsen_10 : decode cX12_worsen 10 = .ok (.getfield 7, 3) := by decide +kernel
theorem dX12_worsen_13 : decode cX12_worsen 13 = .ok (.iload_n 1, 1) := by decide +kernel
theorem dX12_worsen_14 : decode cX12_worsen 14 = .ok (.iaload, 1) := by decide +kernel
theorem dX12_worsen_15 : decode cX12_worsen 15 = .ok (.iconst 1, 1) := by decide +kernel
theorem dX12_worsen_16 : decode cX12_worsen 16 = .ok (.if_icmp .ne 19, 3) := by decide +kernel
theorem dX12_worsen_19 : decode cX12_worsen 19 = .ok (.aload_n 0, 1) := by decide +kernel
theorem dX12_worsen_20 : decode cX12_worsen 20 = .ok (.getfield 7, 3) := by decide +kernel
theorem dX12_worsen_23 : decode cX12_worsen 23 = .ok (.iload_n 1, 1) := by decide +kernel
theorem dX12_worsen_24 : decode cX12_worsen 24 = .ok (.iconst 2, 1) := by decide +kernel
theorem dX12_worsen_25 : decode cX12_worsen 25 = .ok (.iastore, 1) := by decide +kernel
theorem dX12_worsen_26 : decode cX12_worsen 26 = .ok (.aload_n 0, 1) := by decide +kernel
theorem dX12_worsen_27 : decode cX12_worsen 27 = .ok (.getfield 19, 3) := by decide +kernel
theorem dX12_worsen_30 : decode cX12_worsen 30 = .ok (.iload_n 1, 1) := by decide +kernel
theorem dX12_worsen_31 : decode cX12_worsen 31 = .ok (.iconst 0, 1) := by decide +kernel
theorem dX12_worsen_32 : decode cX12_worsen 32 = .ok (.iastore, 1) := by decide +kernel
theorem dX12_worsen_33 : decode cX12_worsen 33 = .ok (.iconst 0, 1) := by decide +kernel
theorem dX12_worsen_34 : decode cX12_worsen 34 = .ok (.ireturn, 1) := by decide +kernel
theorem dX12_worsen_35 : decode cX12_worsen 35 = .ok (.aload_n 0, 1) := by decide +kernel
theorem dX12_worsen_36 : decode cX12_worsen 36 = .ok (.getfield 7, 3) := by decide +kernel
theorem dX12_worsen_39 : decode cX12_worsen 39 = .ok (.iload_n 1, 1) := by decide +kernel
theorem dX12_worsen_40 : decode cX12_worsen 40 = .ok (.iaload, 1) := by decide +kernel
theorem dX12_worsen_41 : decode cX12_worsen 41 = .ok (.iconst 4, 1) := by decide +kernel
theorem dX12_worsen_42 : decode cX12_worsen 42 = .ok (.if_icmp .ne 5, 3) := by decide +kernel
theorem dX12_worsen_45 : decode cX12_worsen 45 = .ok (.iconst 0, 1) := by decide +kernel
theorem dX12_worsen_46 : decode cX12_worsen 46 = .ok (.ireturn, 1) := by decide +kernel
theorem dX12_worsen_47 : decode cX12_worsen 47 = .ok (.aload_n 0, 1) := by decide +kernel
theorem dX12_worsen_48 : decode cX12_worsen 48 = .ok (.getfield 7, 3) := by decide +kernel
theorem dX12_worsen_51 : decode cX12_worsen 51 = .ok (.iload_n 1, 1) := by decide +kernel
theorem dX12_worsen_52 : decode cX12_worsen 52 = .ok (.iconst (-1), 1) := by decide +kernel
theorem dX12_worsen_53 : decode cX12_worsen 53 = .ok (.iastore, 1) := by decide +kernel
theorem dX12_worsen_54 : decode cX12_worsen 54 = .ok (.aload_n 0, 1) := by decide +kernel
theorem dX12_worsen_55 : decode cX12_worsen 55 = .ok (.getfield 13, 3) := by decide +kernel
theorem dX12_worsen_58 : decode cX12_worsen 58 = .ok (.iload_n 1, 1) := by decide +kernel
theorem dX12_worsen_59 : decode cX12_worsen 59 = .ok (.iconst 0, 1) := by decide +kernel
theorem dX12_worsen_60 : decode cX12_worsen 60 = .ok (.iastore, 1) := by decide +kernel
theorem dX12_worsen_61 : decode cX12_worsen 61 = .ok (.aload_n 0, 1) := by decide +kernel
theorem dX12_worsen_62 : decode cX12_worsen 62 = .ok (.getfield 16, 3) := by decide +kernel
theorem dX12_worsen_65 : decode cX12_worsen 65 = .ok (.iload_n 1, 1) := by decide +kernel
theorem dX12_worsen_66 : decode cX12_worsen 66 = .ok (.dup2, 1) := by decide +kernel
theorem dX12_worsen_67 : decode cX12_worsen 67 = .ok (.iaload, 1) := by decide +kernel
theorem dX12_worsen_68 : decode cX12_worsen 68 = .ok (.iconst 5, 1) := by decide +kernel
theorem dX12_worsen_69 : decode cX12_worsen 69 = .ok (.isub, 1) := by decide +kernel
theorem dX12_worsen_70 : decode cX12_worsen 70 = .ok (.iastore, 1) := by decide +kernel
theorem dX12_worsen_71 : decode cX12_worsen 71 = .ok (.aload_n 0, 1) := by decide +kernel
theorem dX12_worsen_72 : decode cX12_worsen 72 = .ok (.getfield 19, 3) := by decide +kernel
theorem dX12_worsen_75 : decode cX12_worsen 75 = .ok (.iload_n 1, 1) := by decide +kernel
theorem dX12_worsen_76 : decode cX12_worsen 76 = .ok (.iconst 0, 1) := by decide +kernel
theorem dX12_worsen_77 : decode cX12_worsen 77 = .ok (.iastore, 1) := by decide +kernel
theorem dX12_worsen_78 : decode cX12_worsen 78 = .ok (.aload_n 0, 1) := by decide +kernel
theorem dX12_worsen_79 : decode cX12_worsen 79 = .ok (.getfield 22, 3) := by decide +kernel
theorem dX12_worsen_82 : decode cX12_worsen 82 = .ok (.iload_n 1, 1) := by decide +kernel
theorem dX12_worsen_83 : decode cX12_worsen 83 = .ok (.iconst 0, 1) := by decide +kernel
theorem dX12_worsen_84 : decode cX12_worsen 84 = .ok (.iastore, 1) := by decide +kernel
theorem dX12_worsen_85 : decode cX12_worsen 85 = .ok (.iconst 1, 1) := by decide +kernel
theorem dX12_worsen_86 : decode cX12_worsen 86 = .ok (.ireturn, 1) := by decide +kernel
theorem dX12_isBesideSand_0 : decode cX12_isBesideSand 0 = .ok (.iconst 0, 1) := by decide +kernel
theorem dX12_isBesideSand_1 : decode cX12_isBesideSand 1 = .ok (.istore_n 2, 1) := by decide +kernel
theorem dX12_isBesideSand_2 : decode cX12_isBesideSand 2 = .ok (.iconst 0, 1) := by decide +kernel
theorem dX12_isBesideSand_3 : decode cX12_isBesideSand 3 = .ok (.istore_n 3, 1) := by decide +kernel
theorem dX12_isBesideSand_4 : decode cX12_isBesideSand 4 = .ok (.iload_n 3, 1) := by decide +kernel
theorem dX12_isBesideSand_5 : decode cX12_isBesideSand 5 = .ok (.iconst 4, 1) := by decide +kernel
theorem dX12_isBesideSand_6 : decode cX12_isBesideSand 6 = .ok (.if_icmp .ge 44, 3) := by decide +kernel
theorem dX12_isBesideSand_9 : decode cX12_isBesideSand 9 = .ok (.aload_n 0, 1) := by decide +kernel
theorem dX12_isBesideSand_10 : decode cX12_isBesideSand 10 = .ok (.iload_n 1, 1) := by decide +kernel
theorem dX12_isBesideSand_11 : decode cX12_isBesideSand 11 = .ok (.iload_n 3, 1) := by decide +kernel
theorem dX12_isBesideSand_12 : decode cX12_isBesideSand 12 = .ok (.invokevirtual 147, 3) := by decide +kernel
theorem dX12_isBesideSand_15 : decode cX12_isBesideSand 15 = .ok (.istore 4, 2) := by decide +kernel
theorem dX12_isBesideSand_17 : decode cX12_isBesideSand 17 = .ok (.iload_n 2, 1) := by decide +kernel
theorem dX12_isBesideSand_18 : decode cX12_isBesideSand 18 = .ok (.ifCond .ne 20, 3) := by decide +kernel
theorem dX12_isBesideSand_21 : decode cX12_isBesideSand 21 = .ok (.iload 4, 2) := by decide +kernel
theorem dX12_isBesideSand_23 : decode cX12_isBesideSand 23 = .ok (.iconst (-1), 1) := by decide +kernel
theorem dX12_isBesideSand_24 : decode cX12_isBesideSand 24 = .ok (.if_icmp .eq 18, 3) := by decide +kernel
theorem dX12_isBesideSand_27 : decode cX12_isBesideSand 27 = .ok (.aload_n 0, 1) := by decide +kernel
theorem dX12_isBesideSand_28 : decode cX12_isBesideSand 28 = .ok (.getfield 7, 3) := by decide +kernel
theorem dX12_isBesideSand_31 : decode cX12_isBesideSand 31 = .ok (.iload 4, 2) := by decide +kernel
theorem dX12_isBesideSand_33 : decode cX12_isBesideSand 33 = .ok (.iaload, 1) := by decide +kernel
theorem dX12_isBesideSand_34 : decode cX12_isBesideSand 34 = .ok (.iconst (-1), 1) := by decide +kernel
theorem dX12_isBesideSand_35 : decode cX12_isBesideSand 35 = .ok (.if_icmp .ne 7, 3) := by decide +kernel
theorem dX12_isBesideSand_38 : decode cX12_isBesideSand 38 = .ok (.iconst 1, 1) := by decide +kernel
theorem dX12_isBesideSand_39 : decode cX12_isBesideSand 39 = .ok (.goto 4, 3) := by decide +kernel
theorem dX12_isBesideSand_42 : decode cX12_isBesideSand 42 = .ok (.iconst 0, 1) := by decide +kernel
theorem dX12_isBesideSand_43 : decode cX12_isBesideSand 43 = .ok (.istore_n 2, 1) := by decide +kernel
theorem dX12_isBesideSand_44 : decode cX12_isBesideSand 44 = .ok (.iinc 3 1, 3) := by decide +kernel
theorem dX12_isBesideSand_47 : decode cX12_isBesideSand 47 = .ok (.goto (-43), 3) := by decide +kernel
theorem dX12_isBesideSand_50 : decode cX12_isBesideSand 50 = .ok (.iload_n 2, 1) := by decide +kernel
theorem dX12_isBesideSand_51 : decode cX12_isBesideSand 51 = .ok (.ireturn, 1) := by decide +kernel
theorem dX12_freeze_0 : decode cX12_freeze 0 = .ok (.aload_n 0, 1) := by decide +kernel
theorem dX12_freeze_1 : decode cX12_freeze 1 = .ok (.getfield 22, 3) := by decide +kernel
theorem dX12_freeze_4 : decode cX12_freeze 4 = .ok (.iload_n 1, 1) := by decide +kernel
theorem dX12_freeze_5 : decode cX12_freeze 5 = .ok (.aload_n 0, 1) := by decide +kernel
theorem dX12_freeze_6 : decode cX12_freeze 6 = .ok (.getfield 22, 3) := by decide +kernel
theorem dX12_freeze_9 : decode cX12_freeze 9 = .ok (.iload_n 1, 1) := by decide +kernel
theorem dX12_freeze_10 : decode cX12_freeze 10 = .ok (.iaload, 1) := by decide +kernel
theorem dX12_freeze_11 : decode cX12_freeze 11 = .ok (.iconst 1, 1) := by decide +kernel
theorem dX12_freeze_12 : decode cX12_freeze 12 = .ok (.isub, 1) := by decide +kernel
theorem dX12_freeze_13 : decode cX12_freeze 13 = .ok (.invokestatic 234, 3) := by decide +kernel
theorem dX12_freeze_16 : decode cX12_freeze 16 = .ok (.iastore, 1) := by decide +kernel
theorem dX12_freeze_17 : decode cX12_freeze 17 = .ok (.aload_n 0, 1) := by decide +kernel
theorem dX12_freeze_18 : decode cX12_freeze 18 = .ok (.getfield 7, 3) := by decide +kernel
theorem dX12_freeze_21 : decode cX12_freeze 21 = .ok (.iload_n 1, 1) := by decide +kernel
theorem dX12_freeze_22 : decode cX12_freeze 22 = .ok (.iaload, 1) := by decide +kernel
theorem dX12_freeze_23 : decode cX12_freeze 23 = .ok (.ifCond .eq 13, 3) := by decide +kernel
theorem dX12_freeze_26 : decode cX12_freeze 26 = .ok (.aload_n 0, 1) := by decide +kernel
theorem dX12_freeze_27 : decode cX12_freeze 27 = .ok (.getfield 7, 3) := by decide +kernel
theorem dX12_freeze_30 : decode cX12_freeze 30 = .ok (.iload_n 1, 1) := by decide +kernel
theorem dX12_freeze_31 : decode cX12_freeze 31 = .ok (.iaload, 1) := by decide +kernel
theorem dX12_freeze_32 : decode cX12_freeze 32 = .ok (.iconst 1, 1) := by decide +kernel
theorem dX12_freeze_33 : decode cX12_freeze 33 = .ok (.if_icmp .ne 35, 3) := by decide +kernel
theorem dX12_freeze_36 : decode cX12_freeze 36 = .ok (.aload_n 0, 1) := by decide +kernel
theorem dX12_freeze_37 : decode cX12_freeze 37 = .ok (.invokevirtual 237, 3) := by decide +kernel
theorem dX12_freeze_40 : decode cX12_freeze 40 = .ok (.iload_n 2, 1) := by decide +kernel
theorem dX12_freeze_41 : decode cX12_freeze 41 = .ok (.if_icmp .ge 27, 3) := by decide +kernel
theorem dX12_freeze_44 : decode cX12_freeze 44 = .ok (.aload_n 0, 1) := by decide +kernel
theorem dX12_freeze_45 : decode cX12_freeze 45 = .ok (.getfield 7, 3) := by decide +kernel
theorem dX12_freeze_48 : decode cX12_freeze 48 = .ok (.iload_n 1, 1) := by decide +kernel
theorem dX12_freeze_49 : decode cX12_freeze 49 = .ok (.iconst 3, 1) := by decide +kernel
theorem dX12_freeze_50 : decode cX12_freeze 50 = .ok (.iastore, 1) := by decide +kernel
theorem dX12_freeze_51 : decode cX12_freeze 51 = .ok (.aload_n 0, 1) := by decide +kernel
theorem dX12_freeze_52 : decode cX12_freeze 52 = .ok (.getfield 16, 3) := by decide +kernel
theorem dX12_freeze_55 : decode cX12_freeze 55 = .ok (.iload_n 1, 1) := by decide +kernel
theorem dX12_freeze_56 : decode cX12_freeze 56 = .ok (.dup2, 1) := by decide +kernel
theorem dX12_freeze_57 : decode cX12_freeze 57 = .ok (.iaload, 1) := by decide +kernel
theorem dX12_freeze_58 : decode cX12_freeze 58 = .ok (.iconst 2, 1) := by decide +kernel
theorem dX12_freeze_59 : decode cX12_freeze 59 = .ok (.iadd, 1) := by decide +kernel
theorem dX12_freeze_60 : decode cX12_freeze 60 = .ok (.iastore, 1) := by decide +kernel
theorem dX12_freeze_61 : decode cX12_freeze 61 = .ok (.aload_n 0, 1) := by decide +kernel
theorem dX12_freeze_62 : decode cX12_freeze 62 = .ok (.getfield 19, 3) := by decide +kernel
theorem dX12_freeze_65 : decode cX12_freeze 65 = .ok (.iload_n 1, 1) := by decide +kernel
theorem dX12_freeze_66 : decode cX12_freeze 66 = .ok (.iconst 0, 1) := by decide +kernel
theorem dX12_freeze_67 : decode cX12_freeze 67 = .ok (.iastore, 1) := by decide +kernel
theorem dX12_freeze_68 : decode cX12_freeze 68 = .ok (.return_, 1) := by decide +kernel
theorem dX12_goYear_0 : decode cX12_goYear 0 = .ok (.aload_n 0, 1) := by decide +kernel
theorem dX12_goYear_1 : decode cX12_goYear 1 = .ok (.invokevirtual 240, 3) := by decide +kernel
theorem dX12_goYear_4 : decode cX12_goYear 4 = .ok (.iconst 0, 1) := by decide +kernel
theorem dX12_goYear_5 : decode cX12_goYear 5 = .ok (.istore_n 2, 1) := by decide +kernel
theorem dX12_goYear_6 : decode cX12_goYear 6 = .ok (.iconst 0, 1) := by decide +kernel
theorem dX12_goYear_7 : decode cX12_goYear 7 = .ok (.istore_n 3, 1) := by decide +kernel
theorem dX12_goYear_8 : decode cX12_goYear 8 = .ok (.iload_n 3, 1) := by decide +kernel
theorem dX12_goYear_9 : decode cX12_goYear 9 = .ok (.aload_n 0, 1) := by decide +kernel
theorem dX12_goYear_10 : decode cX12_goYear 10 = .ok (.invokevirtual 140, 3) := by decide +kernel
theorem dX12_goYear_13 : decode cX12_goYear 13 = .ok (.if_icmp .ge 75, 3) := by decide +kernel
theorem dX12_goYear_16 : decode cX12_goYear 16 = .ok (.aload_n 0, 1) := by decide +kernel
theorem dX12_goYear_17 : decode cX12_goYear 17 = .ok (.getfield 7, 3) := by decide +kernel
theorem dX12_goYear_20 : decode cX12_goYear 20 = .ok (.iload_n 3, 1) := by decide +kernel
theorem dX12_goYear_21 : decode cX12_goYear 21 = .ok (.iaload, 1) := by decide +kernel
theorem dX12_goYear_22 : decode cX12_goYear 22 = .ok (.iconst (-1), 1) := by decide +kernel
theorem dX12_goYear_23 : decode cX12_goYear 23 = .ok (.if_icmp .eq 35, 3) := by decide +kernel
theorem dX12_goYear_26 : decode cX12_goYear 26 = .ok (.aload_n 0, 1) := by decide +kernel
theorem dX12_goYear_27 : decode cX12_goYear 27 = .ok (.getfield 60, 3) := by decide +kernel
theorem dX12_goYear_30 : decode cX12_goYear 30 = .ok (.iload_n 3, 1) := by decide +kernel
theorem dX12_goYear_31 : decode cX12_goYear 31 = .ok (.iaload, 1) := by decide +kernel
theorem dX12_goYear_32 : decode cX12_goYear 32 = .ok (.bipush 20, 2) := by decide +kernel
theorem dX12_goYear_34 : decode cX12_goYear 34 = .ok (.aload_n 0, 1) := by decide +kernel
theorem dX12_goYear_35 : decode cX12_goYear 35 = .ok (.getfield 13, 3) := by decide +kernel
theorem dX12_goYear_38 : decode cX12_goYear 38 = .ok (.iload_n 3, 1) := by decide +kernel
theorem dX12_goYear_39 : decode cX12_goYear 39 = .ok (.iaload, 1) := by decide +kernel
theorem dX12_goYear_40 : decode cX12_goYear 40 = .ok (.imul, 1) := by decide +kernel
theorem dX12_goYear_41 : decode cX12_goYear 41 = .ok (.bipush 10, 2) := by decide +kernel
theorem dX12_goYear_43 : decode cX12_goYear 43 = .ok (.aload_n 0, 1) := by decide +kernel
theorem dX12_goYear_44 : decode cX12_goYear 44 = .ok (.getfield 66, 3) := by decide +kernel
theorem dX12_goYear_47 : decode cX12_goYear 47 = .ok (.iload_n 3, 1) := by decide +kernel
theorem dX12_goYear_48 : decode cX12_goYear 48 = .ok (.iaload, 1) := by decide +kernel
theorem dX12_goYear_49 : decode cX12_goYear 49 = .ok (.imul, 1) := by decide +kernel
theorem dX12_goYear_50 : decode cX12_goYear 50 = .ok (.iadd, 1) := by decide +kernel
theorem dX12_goYear_51 : decode cX12_goYear 51 = .ok (.if_icmp .le 7, 3) := by decide +kernel
theorem dX12_goYear_54 : decode cX12_goYear 54 = .ok (.iconst 1, 1) := by decide +kernel
theorem dX12_goYear_55 : decode cX12_goYear 55 = .ok (.goto 4, 3) := by decide +kernel
theorem dX12_goYear_58 : decode cX12_goYear 58 = .ok (.iconst 0, 1) := by decide +kernel
theorem dX12_goYear_59 : decode cX12_goYear 59 = .ok (.istore 4, 2) := by decide +kernel
theorem dX12_goYear_61 : decode cX12_goYear 61 = .ok (.iload_n 2, 1) := by decide +kernel
theorem dX12_goYear_62 : decode cX12_goYear 62 = .ok (.iload 4, 2) := by decide +kernel
theorem dX12_goYear_64 : decode cX12_goYear 64 = .ok (.ifCond .eq 15, 3) := by decide +kernel
theorem dX12_goYear_67 : decode cX12_goYear 67 = .ok (.aload_n 0, 1) := by decide +kernel
theorem dX12_goYear_68 : decode cX12_goYear 68 = .ok (.iload_n 3, 1) := by decide +kernel
theorem dX12_goYear_69 : decode cX12_goYear 69 = .ok (.invokevirtual 243, 3) := by decide +kernel
theorem dX12_goYear_72 : decode cX12_goYear 72 = .ok (.ifCond .eq 7, 3) := by decide +kernel
theorem dX12_goYear_75 : decode cX12_goYear 75 = .ok (.iconst 1, 1) := by decide +kernel
theorem dX12_goYear_76 : decode cX12_goYear 76 = .ok (.goto 4, 3) := by decide +kernel
theorem dX12_goYear_79 : decode cX12_goYear 79 = .ok (.iconst 0, 1) := by decide +kernel
theorem dX12_goYear_80 : decode cX12_goYear 80 = .ok (.iadd, 1) := by decide +kernel
theorem dX12_goYear_81 : decode cX12_goYear 81 = .ok (.istore_n 2, 1) := by decide +kernel
theorem dX12_goYear_82 : decode cX12_goYear 82 = .ok (.iinc 3 1, 3) := by decide +kernel
theorem dX12_goYear_85 : decode cX12_goYear 85 = .ok (.goto (-77), 3) := by decide +kernel
theorem dX12_goYear_88 : decode cX12_goYear 88 = .ok (.aload_n 0, 1) := by decide +kernel
theorem dX12_goYear_89 : decode cX12_goYear 89 = .ok (.invokevirtual 221, 3) := by decide +kernel
theorem dX12_goYear_92 : decode cX12_goYear 92 = .ok (.iconst 0, 1) := by decide +kernel
theorem dX12_goYear_93 : decode cX12_goYear 93 = .ok (.istore_n 3, 1) := by decide +kernel
theorem dX12_goYear_94 : decode cX12_goYear 94 = .ok (.iload_n 3, 1) := by decide +kernel
theorem dX12_goYear_95 : decode cX12_goYear 95 = .ok (.aload_n 0, 1) := by decide +kernel
theorem dX12_goYear_96 : decode cX12_goYear 96 = .ok (.invokevirtual 140, 3) := by decide +kernel
theorem dX12_goYear_99 : decode cX12_goYear 99 = .ok (.if_icmp .ge 28, 3) := by decide +kernel
theorem dX12_goYear_102 : decode cX12_goYear 102 = .ok (.aload_n 0, 1) := by decide +kernel
theorem dX12_goYear_103 : decode cX12_goYear 103 = .ok (.getfield 60, 3) := by decide +kernel
theorem dX12_goYear_106 : decode cX12_goYear 106 = .ok (.iload_n 3, 1) := by decide +kernel
theorem dX12_goYear_107 : decode cX12_goYear 107 = .ok (.aload_n 0, 1) := by decide +kernel
theorem dX12_goYear_108 : decode cX12_goYear 108 = .ok (.getfield 63, 3) := by decide +kernel
theorem dX12_goYear_111 : decode cX12_goYear 111 = .ok (.iload_n 3, 1) := by decide +kernel
theorem dX12_goYear_112 : decode cX12_goYear 112 = .ok (.iaload, 1) := by decide +kernel
theorem dX12_goYear_113 : decode cX12_goYear 113 = .ok (.aload_n 0, 1) := by decide +kernel
theorem dX12_goYear_114 : decode cX12_goYear 114 = .ok (.getfield 16, 3) := by decide +kernel
theorem dX12_goYear_117 : decode cX12_goYear 117 = .ok (.iload_n 3, 1) := by decide +kernel
theorem dX12_goYear_118 : decode cX12_goYear 118 = .ok (.iaload, 1) := by decide +kernel
theorem dX12_goYear_119 : decode cX12_goYear 119 = .ok (.isub, 1) := by decide +kernel
theorem dX12_goYear_120 : decode cX12_goYear 120 = .ok (.iastore, 1) := by decide +kernel
theorem dX12_goYear_121 : decode cX12_goYear 121 = .ok (.iinc 3 1, 3) := by decide +kernel
theorem dX12_goYear_124 : decode cX12_goYear 124 = .ok (.goto (-30), 3) := by decide +kernel
theorem dX12_goYear_127 : decode cX12_goYear 127 = .ok (.iconst 0, 1) := by decide +kernel
theorem dX12_goYear_128 : decode cX12_goYear 128 = .ok (.istore_n 3, 1) := by decide +kernel
theorem dX12_goYear_129 : decode cX12_goYear 129 = .ok (.iload_n 3, 1) := by decide +kernel
theorem dX12_goYear_130 : decode cX12_goYear 130 = .ok (.aload_n 0, 1) := by decide +kernel
theorem dX12_goYear_131 : decode cX12_goYear 131 = .ok (.invokevirtual 140, 3) := by decide +kernel
theorem dX12_goYear_134 : decode cX12_goYear 134 = .ok (.if_icmp .ge 24, 3) := by decide +kernel
theorem dX12_goYear_137 : decode cX12_goYear 137 = .ok (.aload_n 0, 1) := by decide +kernel
theorem dX12_goYear_138 : decode cX12_goYear 138 = .ok (.getfield 60, 3) := by decide +kernel
theorem dX12_goYear_141 : decode cX12_goYear 141 = .ok (.iload_n 3, 1) := by decide +kernel
theorem dX12_goYear_142 : decode cX12_goYear 142 = .ok (.iaload, 1) := by decide +kernel
theorem dX12_goYear_143 : decode cX12_goYear 143 = .ok (.ifCond .le 9, 3) := by decide +kernel
theorem dX12_goYear_146 : decode cX12_goYear 146 = .ok (.aload_n 0, 1) := by decide +kernel
theorem dX12_goYear_147 : decode cX12_goYear 147 = .ok (.iload_n 3, 1) := by decide +kernel
theorem dX12_goYear_148 : decode cX12_goYear 148 = .ok (.iload_n 1, 1) := by decide +kernel
theorem dX12_goYear_149 : decode cX12_goYear 149 = .ok (.invokevirtual 246, 3) := by decide +kernel
theorem dX12_goYear_152 : decode cX12_goYear 152 = .ok (.iinc 3 1, 3) := by decide +kernel
theorem dX12_goYear_155 : decode cX12_goYear 155 = .ok (.goto (-26), 3) := by decide +kernel
theorem dX12_goYear_158 : decode cX12_goYear 158 = .ok (.iconst 0, 1) := by decide +kernel
theorem dX12_goYear_159 : decode cX12_goYear 159 = .ok (.istore_n 3, 1) := by decide +kernel
theorem dX12_goYear_160 : decode cX12_goYear 160 = .ok (.iload_n 3, 1) := by decide +kernel
theorem dX12_goYear_161 : decode cX12_goYear 161 = .ok (.aload_n 0, 1) := by decide +kernel
theorem dX12_goYear_162 : decode cX12_goYear 162 = .ok (.invokevirtual 140, 3) := by decide +kernel
theorem dX12_goYear_165 : decode cX12_goYear 165 = .ok (.if_icmp .ge 44, 3) := by decide +kernel
theorem dX12_goYear_168 : decode cX12_goYear 168 = .ok (.aload_n 0, 1) := by decide +kernel
theorem dX12_goYear_169 : decode cX12_goYear 169 = .ok (.getfield 7, 3) := by decide +kernel
theorem dX12_goYear_172 : decode cX12_goYear 172 = .ok (.iload_n 3, 1) := by decide +kernel
theorem dX12_goYear_173 : decode cX12_goYear 173 = .ok (.iaload, 1) := by decide +kernel
theorem dX12_goYear_174 : decode cX12_goYear 174 = .ok (.iconst (-1), 1) := by decide +kernel
theorem dX12_goYear_175 : decode cX12_goYear 175 = .ok (.if_icmp .eq 28, 3) := by decide +kernel
theorem dX12_goYear_178 : decode cX12_goYear 178 = .ok (.aload_n 0, 1) := by decide +kernel
theorem dX12_goYear_179 : decode cX12_goYear 179 = .ok (.iload_n 3, 1) := by decide +kernel
theorem dX12_goYear_180 : decode cX12_goYear 180 = .ok (.invokevirtual 249, 3) := by decide +kernel
theorem dX12_goYear_183 : decode cX12_goYear 183 = .ok (.ifCond .eq 20, 3) := by decide +kernel
theorem dX12_goYear_186 : decode cX12_goYear 186 = .ok (.aload_n 0, 1) := by decide +kernel
theorem dX12_goYear_187 : decode cX12_goYear 187 = .ok (.getfield 22, 3) := by decide +kernel
theorem dX12_goYear_190 : decode cX12_goYear 190 = .ok (.iload_n 3, 1) := by decide +kernel
theorem dX12_goYear_191 : decode cX12_goYear 191 = .ok (.aload_n 0, 1) := by decide +kernel
theorem dX12_goYear_192 : decode cX12_goYear 192 = .ok (.getfield 22, 3) := by decide +kernel
theorem dX12_goYear_195 : decode cX12_goYear 195 = .ok (.iload_n 3, 1) := by decide +kernel
theorem dX12_goYear_196 : decode cX12_goYear 196 = .ok (.iaload, 1) := by decide +kernel
theorem dX12_goYear_197 : decode cX12_goYear 197 = .ok (.iconst 1, 1) := by decide +kernel
theorem dX12_goYear_198 : decode cX12_goYear 198 = .ok (.isub, 1) := by decide +kernel
theorem dX12_goYear_199 : decode cX12_goYear 199 = .ok (.invokestatic 234, 3) := by decide +kernel
theorem dX12_goYear_202 : decode cX12_goYear 202 = .ok (.iastore, 1) := by decide +kernel
theorem dX12_goYear_203 : decode cX12_goYear 203 = .ok (.iinc 3 1, 3) := by decide +kernel
theorem dX12_goYear_206 : decode cX12_goYear 206 = .ok (.goto (-46), 3) := by decide +kernel
theorem dX12_goYear_209 : decode cX12_goYear 209 = .ok (.iload_n 2, 1) := by decide +kernel
theorem dX12_goYear_210 : decode cX12_goYear 210 = .ok (.ireturn, 1) := by decide +kernel
theorem dX12_goYears_0 : decode cX12_goYears 0 = .ok (.iconst 0, 1) := by decide +kernel
theorem dX12_goYears_1 : decode cX12_goYears 1 = .ok (.istore_n 3, 1) := by decide +kernel
theorem dX12_goYears_2 : decode cX12_goYears 2 = .ok (.iconst 0, 1) := by decide +kernel
theorem dX12_goYears_3 : decode cX12_goYears 3 = .ok (.istore 4, 2) := by decide +kernel
theorem dX12_goYears_5 : decode cX12_goYears 5 = .ok (.iload 4, 2) := by decide +kernel
theorem dX12_goYears_7 : decode cX12_goYears 7 = .ok (.iload_n 1, 1) := by decide +kernel
theorem dX12_goYears_8 : decode cX12_goYears 8 = .ok (.if_icmp .ge 17, 3) := by decide +kernel
theorem dX12_goYears_11 : decode cX12_goYears 11 = .ok (.iload_n 3, 1) := by decide +kernel
theorem dX12_goYears_12 : decode cX12_goYears 12 = .ok (.aload_n 0, 1) := by decide +kernel
theorem dX12_goYears_13 : decode cX12_goYears 13 = .ok (.iload_n 2, 1) := by decide +kernel
theorem dX12_goYears_14 : decode cX12_goYears 14 = .ok (.invokevirtual 252, 3) := by decide +kernel
theorem dX12_goYears_17 : decode cX12_goYears 17 = .ok (.iadd, 1) := by decide +kernel
theorem dX12_goYears_18 : decode cX12_goYears 18 = .ok (.istore_n 3, 1) := by decide +kernel
theorem dX12_goYears_19 : decode cX12_goYears 19 = .ok (.iinc 4 1, 3) := by decide +kernel
theorem dX12_goYears_22 : decode cX12_goYears 22 = .ok (.goto (-17), 3) := by decide +kernel
theorem dX12_goYears_25 : decode cX12_goYears 25 = .ok (.iload_n 3, 1) := by decide +kernel
theorem dX12_goYears_26 : decode cX12_goYears 26 = .ok (.ireturn, 1) := by decide +kernel
theorem dX12_isReady_0 : decode cX12_isReady 0 = .ok (.aload_n 0, 1) := by decide +kernel
theorem dX12_isReady_1 : decode cX12_isReady 1 = .ok (.getfield 131, 3) := by decide +kernel
theorem dX12_isReady_4 : decode cX12_isReady 4 = .ok (.ifCond .le 14, 3) := by decide +kernel
theorem dX12_isReady_7 : decode cX12_isReady 7 = .ok (.aload_n 0, 1) := by decide +kernel
theorem dX12_isReady_8 : decode cX12_isReady 8 = .ok (.getfield 134, 3) := by decide +kernel
theorem dX12_isReady_11 : decode cX12_isReady 11 = .ok (.ifCond .le 7, 3) := by decide +kernel
theorem dX12_isReady_14 : decode cX12_isReady 14 = .ok (.iconst 1, 1) := by decide +kernel
theorem dX12_isReady_15 : decode cX12_isReady 15 = .ok (.goto 4, 3) := by decide +kernel
theorem dX12_isReady_18 : decode cX12_isReady 18 = .ok (.iconst 0, 1) := by decide +kernel
theorem dX12_isReady_19 : decode cX12_isReady 19 = .ok (.ireturn, 1) := by decide +kernel
theorem dX12_areYears_0 : decode cX12_areYears 0 = .ok (.iload_n 0, 1) := by decide +kernel
theorem dX12_areYears_1 : decode cX12_areYears 1 = .ok (.iconst 1, 1) := by decide +kernel
theorem dX12_areYears_2 : decode cX12_areYears 2 = .ok (.bipush 20, 2) := by decide +kernel
theorem dX12_areYears_4 : decode cX12_areYears 4 = .ok (.invokestatic 78, 3) := by decide +kernel
theorem dX12_areYears_7 : decode cX12_areYears 7 = .ok (.ifCond .eq 17, 3) := by decide +kernel
theorem dX12_areYears_10 : decode cX12_areYears 10 = .ok (.iload_n 1, 1) := by decide +kernel
theorem dX12_areYears_11 : decode cX12_areYears 11 = .ok (.iconst 0, 1) := by decide +kernel
theorem dX12_areYears_12 : decode cX12_areYears 12 = .ok (.bipush 10, 2) := by decide +kernel
theorem dX12_areYears_14 : decode cX12_areYears 14 = .ok (.invokestatic 78, 3) := by decide +kernel
theorem dX12_areYears_17 : decode cX12_areYears 17 = .ok (.ifCond .eq 7, 3) := by decide +kernel
theorem dX12_areYears_20 : decode cX12_areYears 20 = .ok (.iconst 1, 1) := by decide +kernel
theorem dX12_areYears_21 : decode cX12_areYears 21 = .ok (.goto 4, 3) := by decide +kernel
theorem dX12_areYears_24 : decode cX12_areYears 24 = .ok (.iconst 0, 1) := by decide +kernel
theorem dX12_areYears_25 : decode cX12_areYears 25 = .ok (.ireturn, 1) := by decide +kernel
theorem dX12_years_0 : decode cX12_years 0 = .ok (.aload_n 0, 1) := by decide +kernel
theorem dX12_years_1 : decode cX12_years 1 = .ok (.invokevirtual 255, 3) := by decide +kernel
theorem dX12_years_4 : decode cX12_years 4 = .ok (.ifCond .ne 6, 3) := by decide +kernel
theorem dX12_years_7 : decode cX12_years 7 = .ok (.bipush (-103), 2) := by decide +kernel
theorem dX12_years_9 : decode cX12_years 9 = .ok (.ireturn, 1) := by decide +kernel
theorem dX12_years_10 : decode cX12_years 10 = .ok (.iload_n 1, 1) := by decide +kernel
theorem dX12_years_11 : decode cX12_years 11 = .ok (.iload_n 2, 1) := by decide +kernel
theorem dX12_years_12 : decode cX12_years 12 = .ok (.invokestatic 259, 3) := by decide +kernel
theorem dX12_years_15 : decode cX12_years 15 = .ok (.ifCond .eq 12, 3) := by decide +kernel
theorem dX12_years_18 : decode cX12_years 18 = .ok (.aload_n 0, 1) := by decide +kernel
theorem dX12_years_19 : decode cX12_years 19 = .ok (.iload_n 1, 1) := by decide +kernel
theorem dX12_years_20 : decode cX12_years 20 = .ok (.iload_n 2, 1) := by decide +kernel
theorem dX12_years_21 : decode cX12_years 21 = .ok (.invokevirtual 263, 3) := by decide +kernel
theorem dX12_years_24 : decode cX12_years 24 = .ok (.goto 5, 3) := by decide +kernel
theorem dX12_years_27 : decode cX12_years 27 = .ok (.bipush (-102), 2) := by decide +kernel
theorem dX12_years_29 : decode cX12_years 29 = .ok (.ireturn, 1) := by decide +kernel
theorem dX12_wouldNow_0 : decode cX12_wouldNow 0 = .ok (.aload_n 0, 1) := by decide +kernel
theorem dX12_wouldNow_1 : decode cX12_wouldNow 1 = .ok (.invokevirtual 190, 3) := by decide +kernel
theorem dX12_wouldNow_4 : decode cX12_wouldNow 4 = .ok (.aload_n 0, 1) := by decide +kernel
theorem dX12_wouldNow_5 : decode cX12_wouldNow 5 = .ok (.iload_n 1, 1) := by decide +kernel
theorem dX12_wouldNow_6 : decode cX12_wouldNow 6 = .ok (.iload_n 2, 1) := by decide +kernel
theorem dX12_wouldNow_7 : decode cX12_wouldNow 7 = .ok (.invokevirtual 263, 3) := by decide +kernel
theorem dX12_wouldNow_10 : decode cX12_wouldNow 10 = .ok (.istore_n 3, 1) := by decide +kernel
theorem dX12_wouldNow_11 : decode cX12_wouldNow 11 = .ok (.aload_n 0, 1) := by decide +kernel
theorem dX12_wouldNow_12 : decode cX12_wouldNow 12 = .ok (.invokevirtual 193, 3) := by decide +kernel
theorem dX12_wouldNow_15 : decode cX12_wouldNow 15 = .ok (.iload_n 3, 1) := by decide +kernel
theorem dX12_wouldNow_16 : decode cX12_wouldNow 16 = .ok (.ireturn, 1) := by decide +kernel
theorem dX12_would_0 : decode cX12_would 0 = .ok (.aload_n 0, 1) := by decide +kernel
theorem dX12_would_1 : decode cX12_would 1 = .ok (.invokevirtual 255, 3) := by decide +kernel
theorem dX12_would_4 : decode cX12_would 4 = .ok (.ifCond .ne 6, 3) := by decide +kernel
theorem dX12_would_7 : decode cX12_would 7 = .ok (.bipush (-103), 2) := by decide +kernel
theorem dX12_would_9 : decode cX12_would 9 = .ok (.ireturn, 1) := by decide +kernel
theorem dX12_would_10 : decode cX12_would 10 = .ok (.iload_n 1, 1) := by decide +kernel
theorem dX12_would_11 : decode cX12_would 11 = .ok (.iload_n 2, 1) := by decide +kernel
theorem dX12_would_12 : decode cX12_would 12 = .ok (.invokestatic 259, 3) := by decide +kernel
theorem dX12_would_15 : decode cX12_would 15 = .ok (.ifCond .eq 12, 3) := by decide +kernel
theorem dX12_would_18 : decode cX12_would 18 = .ok (.aload_n 0, 1) := by decide +kernel
theorem dX12_would_19 : decode cX12_would 19 = .ok (.iload_n 1, 1) := by decide +kernel
theorem dX12_would_20 : decode cX12_would 20 = .ok (.iload_n 2, 1) := by decide +kernel
theorem dX12_would_21 : decode cX12_would 21 = .ok (.invokevirtual 266, 3) := by decide +kernel
theorem dX12_would_24 : decode cX12_would 24 = .ok (.goto 5, 3) := by decide +kernel
theorem dX12_would_27 : decode cX12_would 27 = .ok (.bipush (-102), 2) := by decide +kernel
theorem dX12_would_29 : decode cX12_would 29 = .ok (.ireturn, 1) := by decide +kernel
theorem dX12_canMend_0 : decode cX12_canMend 0 = .ok (.aload_n 0, 1) := by decide +kernel
theorem dX12_canMend_1 : decode cX12_canMend 1 = .ok (.getfield 7, 3) := by decide +kernel
theorem dX12_canMend_4 : decode cX12_canMend 4 = .ok (.iload_n 1, 1) := by decide +kernel
theorem dX12_canMend_5 : decode cX12_canMend 5 = .ok (.iaload, 1) := by decide +kernel
theorem dX12_canMend_6 : decode cX12_canMend 6 = .ok (.iconst (-1), 1) := by decide +kernel
theorem dX12_canMend_7 : decode cX12_canMend 7 = .ok (.if_icmp .eq 23, 3) := by decide +kernel
theorem dX12_canMend_10 : decode cX12_canMend 10 = .ok (.aload_n 0, 1) := by decide +kernel
theorem dX12_canMend_11 : decode cX12_canMend 11 = .ok (.getfield 7, 3) := by decide +kernel
theorem dX12_canMend_14 : decode cX12_canMend 14 = .ok (.iload_n 1, 1) := by decide +kernel
theorem dX12_canMend_15 : decode cX12_canMend 15 = .ok (.iaload, 1) := by decide +kernel
theorem dX12_canMend_16 : decode cX12_canMend 16 = .ok (.iconst 2, 1) := by decide +kernel
theorem dX12_canMend_17 : decode cX12_canMend 17 = .ok (.if_icmp .eq 13, 3) := by decide +kernel
theorem dX12_canMend_20 : decode cX12_canMend 20 = .ok (.aload_n 0, 1) := by decide +kernel
theorem dX12_canMend_21 : decode cX12_canMend 21 = .ok (.getfield 7, 3) := by decide +kernel
theorem dX12_canMend_24 : decode cX12_canMend 24 = .ok (.iload_n 1, 1) := by decide +kernel
theorem dX12_canMend_25 : decode cX12_canMend 25 = .ok (.iaload, 1) := by decide +kernel
theorem dX12_canMend_26 : decode cX12_canMend 26 = .ok (.iconst 3, 1) := by decide +kernel
theorem dX12_canMend_27 : decode cX12_canMend 27 = .ok (.if_icmp .ne 7, 3) := by decide +kernel
theorem dX12_canMend_30 : decode cX12_canMend 30 = .ok (.iconst 1, 1) := by decide +kernel
theorem dX12_canMend_31 : decode cX12_canMend 31 = .ok (.goto 4, 3) := by decide +kernel
theorem dX12_canMend_34 : decode cX12_canMend 34 = .ok (.iconst 0, 1) := by decide +kernel
theorem dX12_canMend_35 : decode cX12_canMend 35 = .ok (.ireturn, 1) := by decide +kernel
theorem dX12_goMend_0 : decode cX12_goMend 0 = .ok (.aload_n 0, 1) := by decide +kernel
theorem dX12_goMend_1 : decode cX12_goMend 1 = .ok (.getfield 7, 3) := by decide +kernel
theorem dX12_goMend_4 : decode cX12_goMend 4 = .ok (.iload_n 1, 1) := by decide +kernel
theorem dX12_goMend_5 : decode cX12_goMend 5 = .ok (.iaload, 1) := by decide +kernel
theorem dX12_goMend_6 : decode cX12_goMend 6 = .ok (.iconst (-1), 1) := by decide +kernel
theorem dX12_goMend_7 : decode cX12_goMend 7 = .ok (.if_icmp .ne 20, 3) := by decide +kernel
theorem dX12_goMend_10 : decode cX12_goMend 10 = .ok (.aload_n 0, 1) := by decide +kernel
theorem dX12_goMend_11 : decode cX12_goMend 11 = .ok (.getfield 7, 3) := by decide +kernel
theorem dX12_goMend_14 : decode cX12_goMend 14 = .ok (.iload_n 1, 1) := by decide +kernel
theorem dX12_goMend_15 : decode cX12_goMend 15 = .ok (.iconst 1, 1) := by decide +kernel
theorem dX12_goMend_16 : decode cX12_goMend 16 = .ok (.iastore, 1) := by decide +kernel
theorem dX12_goMend_17 : decode cX12_goMend 17 = .ok (.aload_n 0, 1) := by decide +kernel
theorem dX12_goMend_18 : decode cX12_goMend 18 = .ok (.getfield 13, 3) := by decide +kernel
theorem dX12_goMend_21 : decode cX12_goMend 21 = .ok (.iload_n 1, 1) := by decide +kernel
theorem dX12_goMend_22 : decode cX12_goMend 22 = .ok (.iload_n 2, 1) := by decide +kernel
theorem dX12_goMend_23 : decode cX12_goMend 23 = .ok (.iastore, 1) := by decide +kernel
theorem dX12_goMend_24 : decode cX12_goMend 24 = .ok (.goto 10, 3) := by decide +kernel
theorem dX12_goMend_27 : decode cX12_goMend 27 = .ok (.aload_n 0, 1) := by decide +kernel
theorem dX12_goMend_28 : decode cX12_goMend 28 = .ok (.getfield 7, 3) := by decide +kernel
theorem dX12_goMend_31 : decode cX12_goMend 31 = .ok (.iload_n 1, 1) := by decide +kernel
theorem dX12_goMend_32 : decode cX12_goMend 32 = .ok (.iconst 0, 1) := by decide +kernel
theorem dX12_goMend_33 : decode cX12_goMend 33 = .ok (.iastore, 1) := by decide +kernel
theorem dX12_goMend_34 : decode cX12_goMend 34 = .ok (.aload_n 0, 1) := by decide +kernel
theorem dX12_goMend_35 : decode cX12_goMend 35 = .ok (.getfield 16, 3) := by decide +kernel
theorem dX12_goMend_38 : decode cX12_goMend 38 = .ok (.iload_n 1, 1) := by decide +kernel
theorem dX12_goMend_39 : decode cX12_goMend 39 = .ok (.iconst 0, 1) := by decide +kernel
theorem dX12_goMend_40 : decode cX12_goMend 40 = .ok (.iastore, 1) := by decide +kernel
theorem dX12_goMend_41 : decode cX12_goMend 41 = .ok (.aload_n 0, 1) := by decide +kernel
theorem dX12_goMend_42 : decode cX12_goMend 42 = .ok (.getfield 19, 3) := by decide +kernel
theorem dX12_goMend_45 : decode cX12_goMend 45 = .ok (.iload_n 1, 1) := by decide +kernel
theorem dX12_goMend_46 : decode cX12_goMend 46 = .ok (.iconst 0, 1) := by decide +kernel
theorem dX12_goMend_47 : decode cX12_goMend 47 = .ok (.iastore, 1) := by decide +kernel
theorem dX12_goMend_48 : decode cX12_goMend 48 = .ok (.return_, 1) := by decide +kernel
theorem dX12_mend_0 : decode cX12_mend 0 = .ok (.aload_n 0, 1) := by decide +kernel
theorem dX12_mend_1 : decode cX12_mend 1 = .ok (.iload_n 1, 1) := by decide +kernel
theorem dX12_mend_2 : decode cX12_mend 2 = .ok (.invokevirtual 144, 3) := by decide +kernel
theorem dX12_mend_5 : decode cX12_mend 5 = .ok (.ifCond .ne 6, 3) := by decide +kernel
theorem dX12_mend_8 : decode cX12_mend 8 = .ok (.bipush (-101), 2) := by decide +kernel
theorem dX12_mend_10 : decode cX12_mend 10 = .ok (.ireturn, 1) := by decide +kernel
theorem dX12_mend_11 : decode cX12_mend 11 = .ok (.iload_n 2, 1) := by decide +kernel
theorem dX12_mend_12 : decode cX12_mend 12 = .ok (.iconst 1, 1) := by decide +kernel
theorem dX12_mend_13 : decode cX12_mend 13 = .ok (.bipush 9, 2) := by decide +kernel
theorem dX12_mend_15 : decode cX12_mend 15 = .ok (.invokestatic 78, 3) := by decide +kernel
theorem dX12_mend_18 : decode cX12_mend 18 = .ok (.ifCond .ne 6, 3) := by decide +kernel
theorem dX12_mend_21 : decode cX12_mend 21 = .ok (.bipush (-102), 2) := by decide +kernel
theorem dX12_mend_23 : decode cX12_mend 23 = .ok (.ireturn, 1) := by decide +kernel
theorem dX12_mend_24 : decode cX12_mend 24 = .ok (.aload_n 0, 1) := by decide +kernel
theorem dX12_mend_25 : decode cX12_mend 25 = .ok (.iload_n 1, 1) := by decide +kernel
theorem dX12_mend_26 : decode cX12_mend 26 = .ok (.invokevirtual 269, 3) := by decide +kernel
theorem dX12_mend_29 : decode cX12_mend 29 = .ok (.ifCond .ne 6, 3) := by decide +kernel
theorem dX12_mend_32 : decode cX12_mend 32 = .ok (.bipush (-103), 2) := by decide +kernel
theorem dX12_mend_34 : decode cX12_mend 34 = .ok (.ireturn, 1) := by decide +kernel
theorem dX12_mend_35 : decode cX12_mend 35 = .ok (.aload_n 0, 1) := by decide +kernel
theorem dX12_mend_36 : decode cX12_mend 36 = .ok (.iload_n 1, 1) := by decide +kernel
theorem dX12_mend_37 : decode cX12_mend 37 = .ok (.iload_n 2, 1) := by decide +kernel
theorem dX12_mend_38 : decode cX12_mend 38 = .ok (.invokevirtual 272, 3) := by decide +kernel
theorem dX12_mend_41 : decode cX12_mend 41 = .ok (.aload_n 0, 1) := by decide +kernel
theorem dX12_mend_42 : decode cX12_mend 42 = .ok (.getfield 7, 3) := by decide +kernel
theorem dX12_mend_45 : decode cX12_mend 45 = .ok (.iload_n 1, 1) := by decide +kernel
theorem dX12_mend_46 : decode cX12_mend 46 = .ok (.iaload, 1) := by decide +kernel
theorem dX12_mend_47 : decode cX12_mend 47 = .ok (.ireturn, 1) := by decide +kernel
theorem dX12_layMends_0 : decode cX12_layMends 0 = .ok (.aload_n 0, 1) := by decide +kernel
theorem dX12_layMends_1 : decode cX12_layMends 1 = .ok (.iconst 0, 1) := by decide +kernel
theorem dX12_layMends_2 : decode cX12_layMends 2 = .ok (.putfield 275, 3) := by decide +kernel
theorem dX12_layMends_5 : decode cX12_layMends 5 = .ok (.iconst 0, 1) := by decide +kernel
theorem dX12_layMends_6 : decode cX12_layMends 6 = .ok (.istore_n 1, 1) := by decide +kernel
theorem dX12_layMends_7 : decode cX12_layMends 7 = .ok (.iload_n 1, 1) := by decide +kernel
theorem dX12_layMends_8 : decode cX12_layMends 8 = .ok (.aload_n 0, 1) := by decide +kernel
theorem dX12_layMends_9 : decode cX12_layMends 9 = .ok (.invokevirtual 140, 3) := by decide +kernel
theorem dX12_layMends_12 : decode cX12_layMends 12 = .ok (.if_icmp .ge 46, 3) := by decide +kernel
theorem dX12_layMends_15 : decode cX12_layMends 15 = .ok (.aload_n 0, 1) := by decide +kernel
theorem dX12_layMends_16 : decode cX12_layMends 16 = .ok (.iload_n 1, 1) := by decide +kernel
theorem dX12_layMends_17 : decode cX12_layMends 17 = .ok (.invokevirtual 269, 3) := by decide +kernel
theorem dX12_layMends_20 : decode cX12_layMends 20 = .ok (.ifCond .eq 32, 3) := by decide +kernel
theorem dX12_layMends_23 : decode cX12_layMends 23 = .ok (.aload_n 0, 1) := by decide +kernel
theorem dX12_layMends_24 : decode cX12_layMends 24 = .ok (.getfield 275, 3) := by decide +kernel
theorem dX12_layMends_27 : decode cX12_layMends 27 = .ok (.bipush 8, 2) := by decide +kernel
theorem dX12_layMends_29 : decode cX12_layMends 29 = .ok (.if_icmp .ge 23, 3) := by decide +kernel
theorem dX12_layMends_32 : decode cX12_layMends 32 = .ok (.aload_n 0, 1) := by decide +kernel
theorem dX12_layMends_33 : decode cX12_layMends 33 = .ok (.getfield 69, 3) := by decide +kernel
theorem dX12_layMends_36 : decode cX12_layMends 36 = .ok (.aload_n 0, 1) := by decide +kernel
theorem dX12_layMends_37 : decode cX12_layMends 37 = .ok (.getfield 275, 3) := by decide +kernel
theorem dX12_layMends_40 : decode cX12_layMends 40 = .ok (.iload_n 1, 1) := by decide +kernel
theorem dX12_layMends_41 : decode cX12_layMends 41 = .ok (.iastore, 1) := by decide +kernel
theorem dX12_layMends_42 : decode cX12_layMends 42 = .ok (.aload_n 0, 1) := by decide +kernel
theorem dX12_layMends_43 : decode cX12_layMends 43 = .ok (.dup, 1) := by decide +kernel
theorem dX12_layMends_44 : decode cX12_layMends 44 = .ok (.getfield 275, 3) := by decide +kernel
theorem dX12_layMends_47 : decode cX12_layMends 47 = .ok (.iconst 1, 1) := by decide +kernel
theorem dX12_layMends_48 : decode cX12_layMends 48 = .ok (.iadd, 1) := by decide +kernel
theorem dX12_layMends_49 : decode cX12_layMends 49 = .ok (.putfield 275, 3) := by decide +kernel
theorem dX12_layMends_52 : decode cX12_layMends 52 = .ok (.iinc 1 1, 3) := by decide +kernel
theorem dX12_layMends_55 : decode cX12_layMends 55 = .ok (.goto (-48), 3) := by decide +kernel
theorem dX12_layMends_58 : decode cX12_layMends 58 = .ok (.return_, 1) := by decide +kernel
theorem dX12_ones_0 : decode cX12_ones 0 = .ok (.iconst 0, 1) := by decide +kernel
theorem dX12_ones_1 : decode cX12_ones 1 = .ok (.istore_n 1, 1) := by decide +kernel
theorem dX12_ones_2 : decode cX12_ones 2 = .ok (.iload_n 0, 1) := by decide +kernel
theorem dX12_ones_3 : decode cX12_ones 3 = .ok (.istore_n 2, 1) := by decide +kernel
theorem dX12_ones_4 : decode cX12_ones 4 = .ok (.iload_n 2, 1) := by decide +kernel
theorem dX12_ones_5 : decode cX12_ones 5 = .ok (.ifCond .eq 15, 3) := by decide +kernel
theorem dX12_ones_8 : decode cX12_ones 8 = .ok (.iinc 1 1, 3) := by decide +kernel
theorem dX12_ones_11 : decode cX12_ones 11 = .ok (.iload_n 2, 1) := by decide +kernel
theorem dX12_ones_12 : decode cX12_ones 12 = .ok (.iload_n 2, 1) := by decide +kernel
theorem dX12_ones_13 : decode cX12_ones 13 = .ok (.iconst 1, 1) := by decide +kernel
theorem dX12_ones_14 : decode cX12_ones 14 = .ok (.isub, 1) := by decide +kernel
theorem dX12_ones_15 : decode cX12_ones 15 = .ok (.iand, 1) := by decide +kernel
theorem dX12_ones_16 : decode cX12_ones 16 = .ok (.istore_n 2, 1) := by decide +kernel
theorem dX12_ones_17 : decode cX12_ones 17 = .ok (.goto (-13), 3) := by decide +kernel
theorem dX12_ones_20 : decode cX12_ones 20 = .ok (.iload_n 1, 1) := by decide +kernel
theorem dX12_ones_21 : decode cX12_ones 21 = .ok (.ireturn, 1) := by decide +kernel
theorem dX12_first_0 : decode cX12_first 0 = .ok (.aload_n 0, 1) := by decide +kernel
theorem dX12_first_1 : decode cX12_first 1 = .ok (.invokevirtual 255, 3) := by decide +kernel
theorem dX12_first_4 : decode cX12_first 4 = .ok (.ifCond .ne 6, 3) := by decide +kernel
theorem dX12_first_7 : decode cX12_first 7 = .ok (.bipush (-103), 2) := by decide +kernel
theorem dX12_first_9 : decode cX12_first 9 = .ok (.ireturn, 1) := by decide +kernel
theorem dX12_first_10 : decode cX12_first 10 = .ok (.iload_n 1, 1) := by decide +kernel
theorem dX12_first_11 : decode cX12_first 11 = .ok (.iconst 1, 1) := by decide +kernel
theorem dX12_first_12 : decode cX12_first 12 = .ok (.iconst 4, 1) := by decide +kernel
theorem dX12_first_13 : decode cX12_first 13 = .ok (.invokestatic 78, 3) := by decide +kernel
theorem dX12_first_16 : decode cX12_first 16 = .ok (.ifCond .eq 21, 3) := by decide +kernel
theorem dX12_first_19 : decode cX12_first 19 = .ok (.iload_n 2, 1) := by decide +kernel
theorem dX12_first_20 : decode cX12_first 20 = .ok (.iload_n 3, 1) := by decide +kernel
theorem dX12_first_21 : decode cX12_first 21 = .ok (.invokestatic 259, 3) := by decide +kernel
theorem dX12_first_24 : decode cX12_first 24 = .ok (.ifCond .eq 13, 3) := by decide +kernel
theorem dX12_first_27 : decode cX12_first 27 = .ok (.iload 4, 2) := by decide +kernel
theorem dX12_first_29 : decode cX12_first 29 = .ok (.iconst 0, 1) := by decide +kernel
theorem dX12_first_30 : decode cX12_first 30 = .ok (.iconst 1, 1) := by decide +kernel
theorem dX12_first_31 : decode cX12_first 31 = .ok (.invokestatic 78, 3) := by decide +kernel
theorem dX12_first_34 : decode cX12_first 34 = .ok (.ifCond .ne 6, 3) := by decide +kernel
theorem dX12_first_37 : decode cX12_first 37 = .ok (.bipush (-102), 2) := by decide +kernel
theorem dX12_first_39 : decode cX12_first 39 = .ok (.ireturn, 1) := by decide +kernel
theorem dX12_first_40 : decode cX12_first 40 = .ok (.aload_n 0, 1) := by decide +kernel
theorem dX12_first_41 : decode cX12_first 41 = .ok (.invokevirtual 278, 3) := by decide +kernel
theorem dX12_first_44 : decode cX12_first 44 = .ok (.aload_n 0, 1) := by decide +kernel
theorem dX12_first_45 : decode cX12_first 45 = .ok (.getfield 275, 3) := by decide +kernel
theorem dX12_first_48 : decode cX12_first 48 = .ok (.iload_n 1, 1) := by decide +kernel
theorem dX12_first_49 : decode cX12_first 49 = .ok (.if_icmp .lt 12, 3) := by decide +kernel
theorem dX12_first_52 : decode cX12_first 52 = .ok (.aload_n 0, 1) := by decide +kernel
theorem dX12_first_53 : decode cX12_first 53 = .ok (.getfield 281, 3) := by decide +kernel
theorem dX12_first_56 : decode cX12_first 56 = .ok (.bipush 20, 2) := by decide +kernel
theorem dX12_first_58 : decode cX12_first 58 = .ok (.if_icmp .ne 6, 3) := by decide +kernel
theorem dX12_first_61 : decode cX12_first 61 = .ok (.bipush (-103), 2) := by decide +kernel
theorem dX12_first_63 : decode cX12_first 63 = .ok (.ireturn, 1) := by decide +kernel
theorem dX12_first_64 : decode cX12_first 64 = .ok (.aload_n 0, 1) := by decide +kernel
theorem dX12_first_65 : decode cX12_first 65 = .ok (.dup, 1) := by decide +kernel
theorem dX12_first_66 : decode cX12_first 66 = .ok (.getfield 281, 3) := by decide +kernel
theorem dX12_first_69 : decode cX12_first 69 = .ok (.iconst 1, 1) := by decide +kernel
theorem dX12_first_70 : decode cX12_first 70 = .ok (.iadd, 1) := by decide +kernel
theorem dX12_first_71 : decode cX12_first 71 = .ok (.putfield 281, 3) := by decide +kernel
theorem dX12_first_74 : decode cX12_first 74 = .ok (.iconst 0, 1) := by decide +kernel
theorem dX12_first_75 : decode cX12_first 75 = .ok (.istore 5, 2) := by decide +kernel
theorem dX12_first_77 : decode cX12_first 77 = .ok (.ldc 196, 2) := by decide +kernel
theorem dX12_first_79 : decode cX12_first 79 = .ok (.istore 6, 2) := by decide +kernel
theorem dX12_first_81 : decode cX12_first 81 = .ok (.aload_n 0, 1) := by decide +kernel
theorem dX12_first_82 : decode cX12_first 82 = .ok (.invokevirtual 190, 3) := by decide +kernel
theorem dX12_first_85 : decode cX12_first 85 = .ok (.iconst 0, 1) := by decide +kernel
theorem dX12_first_86 : decode cX12_first 86 = .ok (.istore 7, 2) := by decide +kernel
theorem dX12_first_88 : decode cX12_first 88 = .ok (.iload 7, 2) := by decide +kernel
theorem dX12_first_90 : decode cX12_first 90 = .ok (.iconst 1, 1) := by decide +kernel
theorem dX12_first_91 : decode cX12_first 91 = .ok (.aload_n 0, 1) := by decide +kernel
theorem dX12_first_92 : decode cX12_first 92 = .ok (.getfield 275, 3) := by decide +kernel
theorem dX12_first_95 : decode cX12_first 95 = .ok (.ishl, 1) := by decide +kernel
theorem dX12_first_96 : decode cX12_first 96 = .ok (.if_icmp .ge 103, 3) := by decide +kernel
theorem dX12_first_99 : decode cX12_first 99 = .ok (.iload 7, 2) := by decide +kernel
theorem dX12_first_101 : decode cX12_first 101 = .ok (.invokestatic 284, 3) := by decide +kernel
theorem dX12_first_104 : decode cX12_first 104 = .ok (.iload_n 1, 1) := by decide +kernel
theorem dX12_first_105 : decode cX12_first 105 = .ok (.if_icmp .ne 88, 3) := by decide +kernel
theorem dX12_first_108 : decode cX12_first 108 = .ok (.iconst 0, 1) := by decide +kernel
theorem dX12_first_109 : decode cX12_first 109 = .ok (.istore 8, 2) := by decide +kernel
theorem dX12_first_111 : decode cX12_first 111 = .ok (.iload 8, 2) := by decide +kernel
theorem dX12_first_113 : decode cX12_first 113 = .ok (.aload_n 0, 1) := by decide +kernel
theorem dX12_first_114 : decode cX12_first 114 = .ok (.getfield 275, 3) := by decide +kernel
theorem dX12_first_117 : decode cX12_first 117 = .ok (.if_icmp .ge 32, 3) := by decide +kernel
theorem dX12_first_120 : decode cX12_first 120 = .ok (.iload 7, 2) := by decide +kernel
theorem dX12_first_122 : decode cX12_first 122 = .ok (.iload 8, 2) := by decide +kernel
theorem dX12_first_124 : decode cX12_first 124 = .ok (.ishr, 1) := by decide +kernel
theorem dX12_first_125 : decode cX12_first 125 = .ok (.iconst 1, 1) := by decide +kernel
theorem dX12_first_126 : decode cX12_first 126 = .ok (.iand, 1) := by decide +kernel
theorem dX12_first_127 : decode cX12_first 127 = .ok (.iconst 1, 1) := by decide +kernel
theorem dX12_first_128 : decode cX12_first 128 = .ok (.if_icmp .ne 15, 3) := by decide +kernel
theorem dX12_first_131 : decode cX12_first 131 = .ok (.aload_n 0, 1) := by decide +kernel
theorem dX12_first_132 : decode cX12_first 132 = .ok (.aload_n 0, 1) := by decide +kernel
theorem dX12_first_133 : decode cX12_first 133 = .ok (.getfield 69, 3) := by decide +kernel
theorem dX12_first_136 : decode cX12_first 136 = .ok (.iload 8, 2) := by decide +kernel
theorem dX12_first_138 : decode cX12_first 138 = .ok (.iaload, 1) := by decide +kernel
theorem dX12_first_139 : decode cX12_first 139 = .ok (.iconst 5, 1) := by decide +kernel
theorem dX12_first_140 : decode cX12_first 140 = .ok (.invokevirtual 272, 3) := by decide +kernel
theorem dX12_first_143 : decode cX12_first 143 = .ok (.iinc 8 1, 3) := by decide +kernel
theorem dX12_first_146 : decode cX12_first 146 = .ok (.goto (-35), 3) := by decide +kernel
theorem dX12_first_149 : decode cX12_first 149 = .ok (.aload_n 0, 1) := by decide +kernel
theorem dX12_first_150 : decode cX12_first 150 = .ok (.iload_n 2, 1) := by decide +kernel
theorem dX12_first_151 : decode cX12_first 151 = .ok (.iload_n 3, 1) := by decide +kernel
theorem dX12_first_152 : decode cX12_first 152 = .ok (.invokevirtual 263, 3) := by decide +kernel
theorem dX12_first_155 : decode cX12_first 155 = .ok (.istore 8, 2) := by decide +kernel
theorem dX12_first_157 : decode cX12_first 157 = .ok (.iload 8, 2) := by decide +kernel
theorem dX12_first_159 : decode cX12_first 159 = .ok (.iload 6, 2) := by decide +kernel
theorem dX12_first_161 : decode cX12_first 161 = .ok (.if_icmp .ge 8, 3) := by decide +kernel
theorem dX12_first_164 : decode cX12_first 164 = .ok (.iload 7, 2) := by decide +kernel
theorem dX12_first_166 : decode cX12_first 166 = .ok (.goto 5, 3) := by decide +kernel
theorem dX12_first_169 : decode cX12_first 169 = .ok (.iload 5, 2) := by decide +kernel
theorem dX12_first_171 : decode cX12_first 171 = .ok (.istore 5, 2) := by decide +kernel
theorem dX12_first_173 : decode cX12_first 173 = .ok (.iload 8, 2) := by decide +kernel
theorem dX12_first_175 : decode cX12_first 175 = .ok (.iload 6, 2) := by decide +kernel
theorem dX12_first_177 : decode cX12_first 177 = .ok (.if_icmp .ge 8, 3) := by decide +kernel
theorem dX12_first_180 : decode cX12_first 180 = .ok (.iload 8, 2) := by decide +kernel
theorem dX12_first_182 : decode cX12_first 182 = .ok (.goto 5, 3) := by decide +kernel
theorem dX12_first_185 : decode cX12_first 185 = .ok (.iload 6, 2) := by decide +kernel
theorem dX12_first_187 : decode cX12_first 187 = .ok (.istore 6, 2) := by decide +kernel
theorem dX12_first_189 : decode cX12_first 189 = .ok (.aload_n 0, 1) := by decide +kernel
theorem dX12_first_190 : decode cX12_first 190 = .ok (.invokevirtual 193, 3) := by decide +kernel
theorem dX12_first_193 : decode cX12_first 193 = .ok (.iinc 7 1, 3) := by decide +kernel
theorem dX12_first_196 : decode cX12_first 196 = .ok (.goto (-108), 3) := by decide +kernel
theorem dX12_first_199 : decode cX12_first 199 = .ok (.iload 4, 2) := by decide +kernel
theorem dX12_first_201 : decode cX12_first 201 = .ok (.ifCond .ne 8, 3) := by decide +kernel
theorem dX12_first_204 : decode cX12_first 204 = .ok (.iload 5, 2) := by decide +kernel
theorem dX12_first_206 : decode cX12_first 206 = .ok (.goto 5, 3) := by decide +kernel
theorem dX12_first_209 : decode cX12_first 209 = .ok (.iload 6, 2) := by decide +kernel
theorem dX12_first_211 : decode cX12_first 211 = .ok (.ireturn, 1) := by decide +kernel
theorem dX12_trench_0 : decode cX12_trench 0 = .ok (.iload_n 1, 1) := by decide +kernel
theorem dX12_trench_1 : decode cX12_trench 1 = .ok (.iconst 1, 1) := by decide +kernel
theorem dX12_trench_2 : decode cX12_trench 2 = .ok (.bipush 99, 2) := by decide +kernel
theorem dX12_trench_4 : decode cX12_trench 4 = .ok (.invokestatic 78, 3) := by decide +kernel
theorem dX12_trench_7 : decode cX12_trench 7 = .ok (.ifCond .eq 23, 3) := by decide +kernel
theorem dX12_trench_10 : decode cX12_trench 10 = .ok (.iload_n 2, 1) := by decide +kernel
theorem dX12_trench_11 : decode cX12_trench 11 = .ok (.iconst 0, 1) := by decide +kernel
theorem dX12_trench_12 : decode cX12_trench 12 = .ok (.bipush 9, 2) := by decide +kernel
theorem dX12_trench_14 : decode cX12_trench 14 = .ok (.invokestatic 78, 3) := by decide +kernel
theorem dX12_trench_17 : decode cX12_trench 17 = .ok (.ifCond .eq 13, 3) := by decide +kernel
theorem dX12_trench_20 : decode cX12_trench 20 = .ok (.iload_n 3, 1) := by decide +kernel
theorem dX12_trench_21 : decode cX12_trench 21 = .ok (.iconst 0, 1) := by decide +kernel
theorem dX12_trench_22 : decode cX12_trench 22 = .ok (.bipush 99, 2) := by decide +kernel
theorem dX12_trench_24 : decode cX12_trench 24 = .ok (.invokestatic 78, 3) := by decide +kernel
theorem dX12_trench_27 : decode cX12_trench 27 = .ok (.ifCond .ne 6, 3) := by decide +kernel
theorem dX12_trench_30 : decode cX12_trench 30 = .ok (.bipush (-102), 2) := by decide +kernel
theorem dX12_trench_32 : decode cX12_trench 32 = .ok (.ireturn, 1) := by decide +kernel
theorem dX12_trench_33 : decode cX12_trench 33 = .ok (.bipush 10, 2) := by decide +kernel
theorem dX12_trench_35 : decode cX12_trench 35 = .ok (.iload_n 1, 1) := by decide +kernel
theorem dX12_trench_36 : decode cX12_trench 36 = .ok (.imul, 1) := by decide +kernel
theorem dX12_trench_37 : decode cX12_trench 37 = .ok (.iconst 2, 1) := by decide +kernel
theorem dX12_trench_38 : decode cX12_trench 38 = .ok (.iload_n 2, 1) := by decide +kernel
theorem dX12_trench_39 : decode cX12_trench 39 = .ok (.iadd, 1) := by decide +kernel
theorem dX12_trench_40 : decode cX12_trench 40 = .ok (.idiv, 1) := by decide +kernel
theorem dX12_trench_41 : decode cX12_trench 41 = .ok (.istore 4, 2) := by decide +kernel
theorem dX12_trench_43 : decode cX12_trench 43 = .ok (.iconst 0, 1) := by decide +kernel
theorem dX12_trench_44 : decode cX12_trench 44 = .ok (.istore 5, 2) := by decide +kernel
theorem dX12_trench_46 : decode cX12_trench 46 = .ok (.iconst 0, 1) := by decide +kernel
theorem dX12_trench_47 : decode cX12_trench 47 = .ok (.istore 6, 2) := by decide +kernel
theorem dX12_trench_49 : decode cX12_trench 49 = .ok (.iload 6, 2) := by decide +kernel
theorem dX12_trench_51 : decode cX12_trench 51 = .ok (.iload_n 3, 1) := by decide +kernel
theorem dX12_trench_52 : decode cX12_trench 52 = .ok (.if_icmp .ge 23, 3) := by decide +kernel
theorem dX12_trench_55 : decode cX12_trench 55 = .ok (.iload 5, 2) := by decide +kernel
theorem dX12_trench_57 : decode cX12_trench 57 = .ok (.iload 4, 2) := by decide +kernel
theorem dX12_trench_59 : decode cX12_trench 59 = .ok (.iload 5, 2) := by decide +kernel
theorem dX12_trench_61 : decode cX12_trench 61 = .ok (.isub, 1) := by decide +kernel
theorem dX12_trench_62 : decode cX12_trench 62 = .ok (.iconst 3, 1) := by decide +kernel
theorem dX12_trench_63 : decode cX12_trench 63 = .ok (.iadd, 1) := by decide +kernel
theorem dX12_trench_64 : decode cX12_trench 64 = .ok (.iconst 4, 1) := by decide +kernel
theorem dX12_trench_65 : decode cX12_trench 65 = .ok (.idiv, 1) := by decide +kernel
theorem dX12_trench_66 : decode cX12_trench 66 = .ok (.iadd, 1) := by decide +kernel
theorem dX12_trench_67 : decode cX12_trench 67 = .ok (.istore 5, 2) := by decide +kernel
theorem dX12_trench_69 : decode cX12_trench 69 = .ok (.iinc 6 1, 3) := by decide +kernel
theorem dX12_trench_72 : decode cX12_trench 72 = .ok (.goto (-23), 3) := by decide +kernel
theorem dX12_trench_75 : decode cX12_trench 75 = .ok (.iload 5, 2) := by decide +kernel
theorem dX12_trench_77 : decode cX12_trench 77 = .ok (.ireturn, 1) := by decide +kernel
theorem dX12_heap_0 : decode cX12_heap 0 = .ok (.iload_n 1, 1) := by decide +kernel
theorem dX12_heap_1 : decode cX12_heap 1 = .ok (.iconst 1, 1) := by decide +kernel
theorem dX12_heap_2 : decode cX12_heap 2 = .ok (.bipush 9, 2) := by decide +kernel
theorem dX12_heap_4 : decode cX12_heap 4 = .ok (.invokestatic 78, 3) := by decide +kernel
theorem dX12_heap_7 : decode cX12_heap 7 = .ok (.ifCond .ne 6, 3) := by decide +kernel
theorem dX12_heap_10 : decode cX12_heap 10 = .ok (.bipush (-102), 2) := by decide +kernel
theorem dX12_heap_12 : decode cX12_heap 12 = .ok (.ireturn, 1) := by decide +kernel
theorem dX12_heap_13 : decode cX12_heap 13 = .ok (.aload_n 0, 1) := by decide +kernel
theorem dX12_heap_14 : decode cX12_heap 14 = .ok (.getfield 287, 3) := by decide +kernel
theorem dX12_heap_17 : decode cX12_heap 17 = .ok (.bipush 10, 2) := by decide +kernel
theorem dX12_heap_19 : decode cX12_heap 19 = .ok (.if_icmp .ne 6, 3) := by decide +kernel
theorem dX12_heap_22 : decode cX12_heap 22 = .ok (.bipush (-104), 2) := by decide +kernel
theorem dX12_heap_24 : decode cX12_heap 24 = .ok (.ireturn, 1) := by decide +kernel
theorem dX12_heap_25 : decode cX12_heap 25 = .ok (.aload_n 0, 1) := by decide +kernel
theorem dX12_heap_26 : decode cX12_heap 26 = .ok (.getfield 35, 3) := by decide +kernel
theorem dX12_heap_29 : decode cX12_heap 29 = .ok (.aload_n 0, 1) := by decide +kernel
theorem dX12_heap_30 : decode cX12_heap 30 = .ok (.getfield 287, 3) := by decide +kernel
theorem dX12_heap_33 : decode cX12_heap 33 = .ok (.iload_n 1, 1) := by decide +kernel
theorem dX12_heap_34 : decode cX12_heap 34 = .ok (.iastore, 1) := by decide +kernel
theorem dX12_heap_35 : decode cX12_heap 35 = .ok (.aload_n 0, 1) := by decide +kernel
theorem dX12_heap_36 : decode cX12_heap 36 = .ok (.dup, 1) := by decide +kernel
theorem dX12_heap_37 : decode cX12_heap 37 = .ok (.getfield 287, 3) := by decide +kernel
theorem dX12_heap_40 : decode cX12_heap 40 = .ok (.iconst 1, 1) := by decide +kernel
theorem dX12_heap_41 : decode cX12_heap 41 = .ok (.iadd, 1) := by decide +kernel
theorem dX12_heap_42 : decode cX12_heap 42 = .ok (.putfield 287, 3) := by decide +kernel
theorem dX12_heap_45 : decode cX12_heap 45 = .ok (.aload_n 0, 1) := by decide +kernel
theorem dX12_heap_46 : decode cX12_heap 46 = .ok (.getfield 287, 3) := by decide +kernel
theorem dX12_heap_49 : decode cX12_heap 49 = .ok (.ireturn, 1) := by decide +kernel
theorem dX12_wide_0 : decode cX12_wide 0 = .ok (.iconst 0, 1) := by decide +kernel
theorem dX12_wide_1 : decode cX12_wide 1 = .ok (.istore_n 2, 1) := by decide +kernel
theorem dX12_wide_2 : decode cX12_wide 2 = .ok (.iconst 0, 1) := by decide +kernel
theorem dX12_wide_3 : decode cX12_wide 3 = .ok (.istore_n 3, 1) := by decide +kernel
theorem dX12_wide_4 : decode cX12_wide 4 = .ok (.iload_n 3, 1) := by decide +kernel
theorem dX12_wide_5 : decode cX12_wide 5 = .ok (.aload_n 0, 1) := by decide +kernel
theorem dX12_wide_6 : decode cX12_wide 6 = .ok (.getfield 287, 3) := by decide +kernel
theorem dX12_wide_9 : decode cX12_wide 9 = .ok (.if_icmp .ge 31, 3) := by decide +kernel
theorem dX12_wide_12 : decode cX12_wide 12 = .ok (.iload_n 2, 1) := by decide +kernel
theorem dX12_wide_13 : decode cX12_wide 13 = .ok (.iload_n 1, 1) := by decide +kernel
theorem dX12_wide_14 : decode cX12_wide 14 = .ok (.iload_n 3, 1) := by decide +kernel
theorem dX12_wide_15 : decode cX12_wide 15 = .ok (.ishr, 1) := by decide +kernel
theorem dX12_wide_16 : decode cX12_wide 16 = .ok (.iconst 1, 1) := by decide +kernel
theorem dX12_wide_17 : decode cX12_wide 17 = .ok (.iand, 1) := by decide +kernel
theorem dX12_wide_18 : decode cX12_wide 18 = .ok (.iconst 1, 1) := by decide +kernel
theorem dX12_wide_19 : decode cX12_wide 19 = .ok (.if_icmp .ne 12, 3) := by decide +kernel
theorem dX12_wide_22 : decode cX12_wide 22 = .ok (.aload_n 0, 1) := by decide +kernel
theorem dX12_wide_23 : decode cX12_wide 23 = .ok (.getfield 35, 3) := by decide +kernel
theorem dX12_wide_26 : decode cX12_wide 26 = .ok (.iload_n 3, 1) := by decide +kernel
theorem dX12_wide_27 : decode cX12_wide 27 = .ok (.iaload, 1) := by decide +kernel
theorem dX12_wide_28 : decode cX12_wide 28 = .ok (.goto 4, 3) := by decide +kernel
theorem dX12_wide_31 : decode cX12_wide 31 = .ok (.iconst 0, 1) := by decide +kernel
theorem dX12_wide_32 : decode cX12_wide 32 = .ok (.iadd, 1) := by decide +kernel
theorem dX12_wide_33 : decode cX12_wide 33 = .ok (.istore_n 2, 1) := by decide +kernel
theorem dX12_wide_34 : decode cX12_wide 34 = .ok (.iinc 3 1, 3) := by decide +kernel
theorem dX12_wide_37 : decode cX12_wide 37 = .ok (.goto (-33), 3) := by decide +kernel
theorem dX12_wide_40 : decode cX12_wide 40 = .ok (.iload_n 2, 1) := by decide +kernel
theorem dX12_wide_41 : decode cX12_wide 41 = .ok (.ireturn, 1) := by decide +kernel
theorem dX12_fits_0 : decode cX12_fits 0 = .ok (.iload_n 1, 1) := by decide +kernel
theorem dX12_fits_1 : decode cX12_fits 1 = .ok (.iconst 0, 1) := by decide +kernel
theorem dX12_fits_2 : decode cX12_fits 2 = .ok (.bipush 90, 2) := by decide +kernel
theorem dX12_fits_4 : decode cX12_fits 4 = .ok (.invokestatic 78, 3) := by decide +kernel
theorem dX12_fits_7 : decode cX12_fits 7 = .ok (.ifCond .eq 12, 3) := by decide +kernel
theorem dX12_fits_10 : decode cX12_fits 10 = .ok (.iload_n 2, 1) := by decide +kernel
theorem dX12_fits_11 : decode cX12_fits 11 = .ok (.iconst 0, 1) := by decide +kernel
theorem dX12_fits_12 : decode cX12_fits 12 = .ok (.iconst 1, 1) := by decide +kernel
theorem dX12_fits_13 : decode cX12_fits 13 = .ok (.invokestatic 78, 3) := by decide +kernel
theorem dX12_fits_16 : decode cX12_fits 16 = .ok (.ifCond .ne 6, 3) := by decide +kernel
theorem dX12_fits_19 : decode cX12_fits 19 = .ok (.bipush (-102), 2) := by decide +kernel
theorem dX12_fits_21 : decode cX12_fits 21 = .ok (.ireturn, 1) := by decide +kernel
theorem dX12_fits_22 : decode cX12_fits 22 = .ok (.iconst 0, 1) := by decide +kernel
theorem dX12_fits_23 : decode cX12_fits 23 = .ok (.istore_n 3, 1) := by decide +kernel
theorem dX12_fits_24 : decode cX12_fits 24 = .ok (.iconst 1, 1) := by decide +kernel
theorem dX12_fits_25 : decode cX12_fits 25 = .ok (.istore 4, 2) := by decide +kernel
theorem dX12_fits_27 : decode cX12_fits 27 = .ok (.iload 4, 2) := by decide +kernel
theorem dX12_fits_29 : decode cX12_fits 29 = .ok (.iconst 1, 1) := by decide +kernel
theorem dX12_fits_30 : decode cX12_fits 30 = .ok (.aload_n 0, 1) := by decide +kernel
theorem dX12_fits_31 : decode cX12_fits 31 = .ok (.getfield 287, 3) := by decide +kernel
theorem dX12_fits_34 : decode cX12_fits 34 = .ok (.ishl, 1) := by decide +kernel
theorem dX12_fits_35 : decode cX12_fits 35 = .ok (.if_icmp .ge 74, 3) := by decide +kernel
theorem dX12_fits_38 : decode cX12_fits 38 = .ok (.aload_n 0, 1) := by decide +kernel
theorem dX12_fits_39 : decode cX12_fits 39 = .ok (.iload 4, 2) := by decide +kernel
theorem dX12_fits_41 : decode cX12_fits 41 = .ok (.invokevirtual 290, 3) := by decide +kernel
theorem dX12_fits_44 : decode cX12_fits 44 = .ok (.aload_n 0, 1) := by decide +kernel
theorem dX12_fits_45 : decode cX12_fits 45 = .ok (.iload_n 3, 1) := by decide +kernel
theorem dX12_fits_46 : decode cX12_fits 46 = .ok (.invokevirtual 290, 3) := by decide +kernel
theorem dX12_fits_49 : decode cX12_fits 49 = .ok (.isub, 1) := by decide +kernel
theorem dX12_fits_50 : decode cX12_fits 50 = .ok (.istore 5, 2) := by decide +kernel
theorem dX12_fits_52 : decode cX12_fits 52 = .ok (.iload 5, 2) := by decide +kernel
theorem dX12_fits_54 : decode cX12_fits 54 = .ok (.ifCond .gt 20, 3) := by decide +kernel
theorem dX12_fits_57 : decode cX12_fits 57 = .ok (.iload 5, 2) := by decide +kernel
theorem dX12_fits_59 : decode cX12_fits 59 = .ok (.ifCond .ne 19, 3) := by decide +kernel
theorem dX12_fits_62 : decode cX12_fits 62 = .ok (.iload 4, 2) := by decide +kernel
theorem dX12_fits_64 : decode cX12_fits 64 = .ok (.invokestatic 284, 3) := by decide +kernel
theorem dX12_fits_67 : decode cX12_fits 67 = .ok (.iload_n 3, 1) := by decide +kernel
theorem dX12_fits_68 : decode cX12_fits 68 = .ok (.invokestatic 284, 3) := by decide +kernel
theorem dX12_fits_71 : decode cX12_fits 71 = .ok (.if_icmp .ge 7, 3) := by decide +kernel
theorem dX12_fits_74 : decode cX12_fits 74 = .ok (.iconst 1, 1) := by decide +kernel
theorem dX12_fits_75 : decode cX12_fits 75 = .ok (.goto 4, 3) := by decide +kernel
theorem dX12_fits_78 : decode cX12_fits 78 = .ok (.iconst 0, 1) := by decide +kernel
theorem dX12_fits_79 : decode cX12_fits 79 = .ok (.istore 6, 2) := by decide +kernel
theorem dX12_fits_81 : decode cX12_fits 81 = .ok (.iload 6, 2) := by decide +kernel
theorem dX12_fits_83 : decode cX12_fits 83 = .ok (.ifCond .eq 18, 3) := by decide +kernel
theorem dX12_fits_86 : decode cX12_fits 86 = .ok (.aload_n 0, 1) := by decide +kernel
theorem dX12_fits_87 : decode cX12_fits 87 = .ok (.iload 4, 2) := by decide +kernel
theorem dX12_fits_89 : decode cX12_fits 89 = .ok (.invokevirtual 290, 3) := by decide +kernel
theorem dX12_fits_92 : decode cX12_fits 92 = .ok (.iload_n 1, 1) := by decide +kernel
theorem dX12_fits_93 : decode cX12_fits 93 = .ok (.if_icmp .gt 8, 3) := by decide +kernel
theorem dX12_fits_96 : decode cX12_fits 96 = .ok (.iload 4, 2) := by decide +kernel
theorem dX12_fits_98 : decode cX12_fits 98 = .ok (.goto 4, 3) := by decide +kernel
theorem dX12_fits_101 : decode cX12_fits 101 = .ok (.iload_n 3, 1) := by decide +kernel
theorem dX12_fits_102 : decode cX12_fits 102 = .ok (.istore_n 3, 1) := by decide +kernel
theorem dX12_fits_103 : decode cX12_fits 103 = .ok (.iinc 4 1, 3) := by decide +kernel
theorem dX12_fits_106 : decode cX12_fits 106 = .ok (.goto (-79), 3) := by decide +kernel
theorem dX12_fits_109 : decode cX12_fits 109 = .ok (.iload_n 2, 1) := by decide +kernel
theorem dX12_fits_110 : decode cX12_fits 110 = .ok (.ifCond .ne 7, 3) := by decide +kernel
theorem dX12_fits_113 : decode cX12_fits 113 = .ok (.iload_n 3, 1) := by decide +kernel
theorem dX12_fits_114 : decode cX12_fits 114 = .ok (.goto 8, 3) := by decide +kernel
theorem dX12_fits_117 : decode cX12_fits 117 = .ok (.aload_n 0, 1) := by decide +kernel
theorem dX12_fits_118 : decode cX12_fits 118 = .ok (.iload_n 3, 1) := by decide +kernel
theorem dX12_fits_119 : decode cX12_fits 119 = .ok (.invokevirtual 290, 3) := by decide +kernel
theorem dX12_fits_122 : decode cX12_fits 122 = .ok (.ireturn, 1) := by decide +kernel
theorem dX12_gaps_0 : decode cX12_gaps 0 = .ok (.iload_n 1, 1) := by decide +kernel
theorem dX12_gaps_1 : decode cX12_gaps 1 = .ok (.iconst 1, 1) := by decide +kernel
theorem dX12_gaps_2 : decode cX12_gaps 2 = .ok (.bipush 99, 2) := by decide +kernel
theorem dX12_gaps_4 : decode cX12_gaps 4 = .ok (.invokestatic 78, 3) := by decide +kernel
theorem dX12_gaps_7 : decode cX12_gaps 7 = .ok (.ifCond .eq 24, 3) := by decide +kernel
theorem dX12_gaps_10 : decode cX12_gaps 10 = .ok (.iload_n 2, 1) := by decide +kernel
theorem dX12_gaps_11 : decode cX12_gaps 11 = .ok (.iconst 1, 1) := by decide +kernel
theorem dX12_gaps_12 : decode cX12_gaps 12 = .ok (.bipush 99, 2) := by decide +kernel
theorem dX12_gaps_14 : decode cX12_gaps 14 = .ok (.invokestatic 78, 3) := by decide +kernel
theorem dX12_gaps_17 : decode cX12_gaps 17 = .ok (.ifCond .eq 14, 3) := by decide +kernel
theorem dX12_gaps_20 : decode cX12_gaps 20 = .ok (.iload_n 3, 1) := by decide +kernel
theorem dX12_gaps_21 : decode cX12_gaps 21 = .ok (.iconst 0, 1) := by decide +kernel
theorem dX12_gaps_22 : decode cX12_gaps 22 = .ok (.sipush 200, 3) := by decide +kernel
theorem dX12_gaps_25 : decode cX12_gaps 25 = .ok (.invokestatic 78, 3) := by decide +kernel
theorem dX12_gaps_28 : decode cX12_gaps 28 = .ok (.ifCond .ne 6, 3) := by decide +kernel
theorem dX12_gaps_31 : decode cX12_gaps 31 = .ok (.bipush (-102), 2) := by decide +kernel
theorem dX12_gaps_33 : decode cX12_gaps 33 = .ok (.ireturn, 1) := by decide +kernel
theorem dX12_gaps_34 : decode cX12_gaps 34 = .ok (.iload_n 1, 1) := by decide +kernel
theorem dX12_gaps_35 : decode cX12_gaps 35 = .ok (.iload_n 2, 1) := by decide +kernel
theorem dX12_gaps_36 : decode cX12_gaps 36 = .ok (.imul, 1) := by decide +kernel
theorem dX12_gaps_37 : decode cX12_gaps 37 = .ok (.iload_n 3, 1) := by decide +kernel
theorem dX12_gaps_38 : decode cX12_gaps 38 = .ok (.imul, 1) := by decide +kernel
theorem dX12_gaps_39 : decode cX12_gaps 39 = .ok (.sipush 999, 3) := by decide +kernel
theorem dX12_gaps_42 : decode cX12_gaps 42 = .ok (.iadd, 1) := by decide +kernel
theorem dX12_gaps_43 : decode cX12_gaps 43 = .ok (.sipush 1000, 3) := by decide +kernel
theorem dX12_gaps_46 : decode cX12_gaps 46 = .ok (.idiv, 1) := by decide +kernel
theorem dX12_gaps_47 : decode cX12_gaps 47 = .ok (.istore 4, 2) := by decide +kernel
theorem dX12_gaps_49 : decode cX12_gaps 49 = .ok (.iload 4, 2) := by decide +kernel
theorem dX12_gaps_51 : decode cX12_gaps 51 = .ok (.iload_n 1, 1) := by decide +kernel
theorem dX12_gaps_52 : decode cX12_gaps 52 = .ok (.iadd, 1) := by decide +kernel
theorem dX12_gaps_53 : decode cX12_gaps 53 = .ok (.iload_n 1, 1) := by decide +kernel
theorem dX12_gaps_54 : decode cX12_gaps 54 = .ok (.iconst 1, 1) := by decide +kernel
theorem dX12_gaps_55 : decode cX12_gaps 55 = .ok (.iadd, 1) := by decide +kernel
theorem dX12_gaps_56 : decode cX12_gaps 56 = .ok (.idiv, 1) := by decide +kernel
theorem dX12_gaps_57 : decode cX12_gaps 57 = .ok (.ireturn, 1) := by decide +kernel
theorem dX12_isRow_0 : decode cX12_isRow 0 = .ok (.iload_n 1, 1) := by decide +kernel
theorem dX12_isRow_1 : decode cX12_isRow 1 = .ok (.iconst 0, 1) := by decide +kernel
theorem dX12_isRow_2 : decode cX12_isRow 2 = .ok (.aload_n 0, 1) := by decide +kernel
theorem dX12_isRow_3 : decode cX12_isRow 3 = .ok (.getfield 125, 3) := by decide +kernel
theorem dX12_isRow_6 : decode cX12_isRow 6 = .ok (.iconst 1, 1) := by decide +kernel
theorem dX12_isRow_7 : decode cX12_isRow 7 = .ok (.isub, 1) := by decide +kernel
theorem dX12_isRow_8 : decode cX12_isRow 8 = .ok (.invokestatic 78, 3) := by decide +kernel
theorem dX12_isRow_11 : decode cX12_isRow 11 = .ok (.ireturn, 1) := by decide +kernel
theorem dX12_steps_0 : decode cX12_steps 0 = .ok (.aload_n 0, 1) := by decide +kernel
theorem dX12_steps_1 : decode cX12_steps 1 = .ok (.getfield 128, 3) := by decide +kernel
theorem dX12_steps_4 : decode cX12_steps 4 = .ok (.iconst 1, 1) := by decide +kernel
theorem dX12_steps_5 : decode cX12_steps 5 = .ok (.isub, 1) := by decide +kernel
theorem dX12_steps_6 : decode cX12_steps 6 = .ok (.iload_n 1, 1) := by decide +kernel
theorem dX12_steps_7 : decode cX12_steps 7 = .ok (.idiv, 1) := by decide +kernel
theorem dX12_steps_8 : decode cX12_steps 8 = .ok (.ireturn, 1) := by decide +kernel
theorem dX12_shaken_0 : decode cX12_shaken 0 = .ok (.iconst 0, 1) := by decide +kernel
theorem dX12_shaken_1 : decode cX12_shaken 1 = .ok (.istore_n 3, 1) := by decide +kernel
theorem dX12_shaken_2 : decode cX12_shaken 2 = .ok (.iconst 0, 1) := by decide +kernel
theorem dX12_shaken_3 : decode cX12_shaken 3 = .ok (.istore 4, 2) := by decide +kernel
theorem dX12_shaken_5 : decode cX12_shaken 5 = .ok (.iload 4, 2) := by decide +kernel
theorem dX12_shaken_7 : decode cX12_shaken 7 = .ok (.aload_n 0, 1) := by decide +kernel
theorem dX12_shaken_8 : decode cX12_shaken 8 = .ok (.iload_n 2, 1) := by decide +kernel
theorem dX12_shaken_9 : decode cX12_shaken 9 = .ok (.invokevirtual 293, 3) := by decide +kernel
theorem dX12_shaken_12 : decode cX12_shaken 12 = .ok (.if_icmp .ge 62, 3) := by decide +kernel
theorem dX12_shaken_15 : decode cX12_shaken 15 = .ok (.aload_n 0, 1) := by decide +kernel
theorem dX12_shaken_16 : decode cX12_shaken 16 = .ok (.getfield 16, 3) := by decide +kernel
theorem dX12_shaken_19 : decode cX12_shaken 19 = .ok (.iload_n 1, 1) := by decide +kernel
theorem dX12_shaken_20 : decode cX12_shaken 20 = .ok (.aload_n 0, 1) := by decide +kernel
theorem dX12_shaken_21 : decode cX12_shaken 21 = .ok (.getfield 128, 3) := by decide +kernel
theorem dX12_shaken_24 : decode cX12_shaken 24 = .ok (.imul, 1) := by decide +kernel
theorem dX12_shaken_25 : decode cX12_shaken 25 = .ok (.iload 4, 2) := by decide +kernel
theorem dX12_shaken_27 : decode cX12_shaken 27 = .ok (.iconst 1, 1) := by decide +kernel
theorem dX12_shaken_28 : decode cX12_shaken 28 = .ok (.iadd, 1) := by decide +kernel
theorem dX12_shaken_29 : decode cX12_shaken 29 = .ok (.iload_n 2, 1) := by decide +kernel
theorem dX12_shaken_30 : decode cX12_shaken 30 = .ok (.imul, 1) := by decide +kernel
theorem dX12_shaken_31 : decode cX12_shaken 31 = .ok (.iadd, 1) := by decide +kernel
theorem dX12_shaken_32 : decode cX12_shaken 32 = .ok (.iaload, 1) := by decide +kernel
theorem dX12_shaken_33 : decode cX12_shaken 33 = .ok (.aload_n 0, 1) := by decide +kernel
theorem dX12_shaken_34 : decode cX12_shaken 34 = .ok (.getfield 16, 3) := by decide +kernel
theorem dX12_shaken_37 : decode cX12_shaken 37 = .ok (.iload_n 1, 1) := by decide +kernel
theorem dX12_shaken_38 : decode cX12_shaken 38 = .ok (.aload_n 0, 1) := by decide +kernel
theorem dX12_shaken_39 : decode cX12_shaken 39 = .ok (.getfield 128, 3) := by decide +kernel
theorem dX12_shaken_42 : decode cX12_shaken 42 = .ok (.imul, 1) := by decide +kernel
theorem dX12_shaken_43 : decode cX12_shaken 43 = .ok (.iload 4, 2) := by decide +kernel
theorem dX12_shaken_45 : decode cX12_shaken 45 = .ok (.iload_n 2, 1) := by decide +kernel
theorem dX12_shaken_46 : decode cX12_shaken 46 = .ok (.imul, 1) := by decide +kernel
theorem dX12_shaken_47 : decode cX12_shaken 47 = .ok (.iadd, 1) := by decide +kernel
theorem dX12_shaken_48 : decode cX12_shaken 48 = .ok (.iaload, 1) := by decide +kernel
theorem dX12_shaken_49 : decode cX12_shaken 49 = .ok (.isub, 1) := by decide +kernel
theorem dX12_shaken_50 : decode cX12_shaken 50 = .ok (.istore 5, 2) := by decide +kernel
theorem dX12_shaken_52 : decode cX12_shaken 52 = .ok (.iload_n 3, 1) := by decide +kernel
theorem dX12_shaken_53 : decode cX12_shaken 53 = .ok (.iload 5, 2) := by decide +kernel
theorem dX12_shaken_55 : decode cX12_shaken 55 = .ok (.ifCond .ge 9, 3) := by decide +kernel
theorem dX12_shaken_58 : decode cX12_shaken 58 = .ok (.iload 5, 2) := by decide +kernel
theorem dX12_shaken_60 : decode cX12_shaken 60 = .ok (.ineg, 1) := by decide +kernel
theorem dX12_shaken_61 : decode cX12_shaken 61 = .ok (.goto 5, 3) := by decide +kernel
theorem dX12_shaken_64 : decode cX12_shaken 64 = .ok (.iload 5, 2) := by decide +kernel
theorem dX12_shaken_66 : decode cX12_shaken 66 = .ok (.iadd, 1) := by decide +kernel
theorem dX12_shaken_67 : decode cX12_shaken 67 = .ok (.istore_n 3, 1) := by decide +kernel
theorem dX12_shaken_68 : decode cX12_shaken 68 = .ok (.iinc 4 1, 3) := by decide +kernel
theorem dX12_shaken_71 : decode cX12_shaken 71 = .ok (.goto (-66), 3) := by decide +kernel
theorem dX12_shaken_74 : decode cX12_shaken 74 = .ok (.iload_n 3, 1) := by decide +kernel
theorem dX12_shaken_75 : decode cX12_shaken 75 = .ok (.ireturn, 1) := by decide +kernel
theorem dX12_lowest_0 : decode cX12_lowest 0 = .ok (.iload_n 0, 1) := by decide +kernel
theorem dX12_lowest_1 : decode cX12_lowest 1 = .ok (.istore_n 3, 1) := by decide +kernel
theorem dX12_lowest_2 : decode cX12_lowest 2 = .ok (.iload_n 1, 1) := by decide +kernel
theorem dX12_lowest_3 : decode cX12_lowest 3 = .ok (.istore 4, 2) := by decide +kernel
theorem dX12_lowest_5 : decode cX12_lowest 5 = .ok (.iload 4, 2) := by decide +kernel
theorem dX12_lowest_7 : decode cX12_lowest 7 = .ok (.ifCond .eq 19, 3) := by decide +kernel
theorem dX12_lowest_10 : decode cX12_lowest 10 = .ok (.iload_n 3, 1) := by decide +kernel
theorem dX12_lowest_11 : decode cX12_lowest 11 = .ok (.iload 4, 2) := by decide +kernel
theorem dX12_lowest_13 : decode cX12_lowest 13 = .ok (.irem, 1) := by decide +kernel
theorem dX12_lowest_14 : decode cX12_lowest 14 = .ok (.istore 5, 2) := by decide +kernel
theorem dX12_lowest_16 : decode cX12_lowest 16 = .ok (.iload 4, 2) := by decide +kernel
theorem dX12_lowest_18 : decode cX12_lowest 18 = .ok (.istore_n 3, 1) := by decide +kernel
theorem dX12_lowest_19 : decode cX12_lowest 19 = .ok (.iload 5, 2) := by decide +kernel
theorem dX12_lowest_21 : decode cX12_lowest 21 = .ok (.istore 4, 2) := by decide +kernel
theorem dX12_lowest_23 : decode cX12_lowest 23 = .ok (.goto (-18), 3) := by decide +kernel
theorem dX12_lowest_26 : decode cX12_lowest 26 = .ok (.iload_n 2, 1) := by decide +kernel
theorem dX12_lowest_27 : decode cX12_lowest 27 = .ok (.ifCond .ne 9, 3) := by decide +kernel
theorem dX12_lowest_30 : decode cX12_lowest 30 = .ok (.iload_n 0, 1) := by decide +kernel
theorem dX12_lowest_31 : decode cX12_lowest 31 = .ok (.iload_n 3, 1) := by decide +kernel
theorem dX12_lowest_32 : decode cX12_lowest 32 = .ok (.idiv, 1) := by decide +kernel
theorem dX12_lowest_33 : decode cX12_lowest 33 = .ok (.goto 6, 3) := by decide +kernel
theorem dX12_lowest_36 : decode cX12_lowest 36 = .ok (.iload_n 1, 1) := by decide +kernel
theorem dX12_lowest_37 : decode cX12_lowest 37 = .ok (.iload_n 3, 1) := by decide +kernel
theorem dX12_lowest_38 : decode cX12_lowest 38 = .ok (.idiv, 1) := by decide +kernel
theorem dX12_lowest_39 : decode cX12_lowest 39 = .ok (.ireturn, 1) := by decide +kernel
theorem dX12_shake_0 : decode cX12_shake 0 = .ok (.aload_n 0, 1) := by decide +kernel
theorem dX12_shake_1 : decode cX12_shake 1 = .ok (.iload_n 1, 1) := by decide +kernel
theorem dX12_shake_2 : decode cX12_shake 2 = .ok (.invokevirtual 296, 3) := by decide +kernel
theorem dX12_shake_5 : decode cX12_shake 5 = .ok (.ifCond .ne 6, 3) := by decide +kernel
theorem dX12_shake_8 : decode cX12_shake 8 = .ok (.bipush (-101), 2) := by decide +kernel
theorem dX12_shake_10 : decode cX12_shake 10 = .ok (.ireturn, 1) := by decide +kernel
theorem dX12_shake_11 : decode cX12_shake 11 = .ok (.iload_n 2, 1) := by decide +kernel
theorem dX12_shake_12 : decode cX12_shake 12 = .ok (.iconst 1, 1) := by decide +kernel
theorem dX12_shake_13 : decode cX12_shake 13 = .ok (.iconst 5, 1) := by decide +kernel
theorem dX12_shake_14 : decode cX12_shake 14 = .ok (.invokestatic 78, 3) := by decide +kernel
theorem dX12_shake_17 : decode cX12_shake 17 = .ok (.ifCond .eq 12, 3) := by decide +kernel
theorem dX12_shake_20 : decode cX12_shake 20 = .ok (.iload_n 3, 1) := by decide +kernel
theorem dX12_shake_21 : decode cX12_shake 21 = .ok (.iconst 0, 1) := by decide +kernel
theorem dX12_shake_22 : decode cX12_shake 22 = .ok (.iconst 1, 1) := by decide +kernel
theorem dX12_shake_23 : decode cX12_shake 23 = .ok (.invokestatic 78, 3) := by decide +kernel
theorem dX12_shake_26 : decode cX12_shake 26 = .ok (.ifCond .ne 6, 3) := by decide +kernel
theorem dX12_shake_29 : decode cX12_shake 29 = .ok (.bipush (-102), 2) := by decide +kernel
theorem dX12_shake_31 : decode cX12_shake 31 = .ok (.ireturn, 1) := by decide +kernel
theorem dX12_shake_32 : decode cX12_shake 32 = .ok (.aload_n 0, 1) := by decide +kernel
theorem dX12_shake_33 : decode cX12_shake 33 = .ok (.iload_n 2, 1) := by decide +kernel
theorem dX12_shake_34 : decode cX12_shake 34 = .ok (.invokevirtual 293, 3) := by decide +kernel
theorem dX12_shake_37 : decode cX12_shake 37 = .ok (.ifCond .ne 7, 3) := by decide +kernel
theorem dX12_shake_40 : decode cX12_shake 40 = .ok (.iload_n 3, 1) := by decide +kernel
theorem dX12_shake_41 : decode cX12_shake 41 = .ok (.goto 18, 3) := by decide +kernel
theorem dX12_shake_44 : decode cX12_shake 44 = .ok (.aload_n 0, 1) := by decide +kernel
theorem dX12_shake_45 : decode cX12_shake 45 = .ok (.iload_n 1, 1) := by decide +kernel
theorem dX12_shake_46 : decode cX12_shake 46 = .ok (.iload_n 2, 1) := by decide +kernel
theorem dX12_shake_47 : decode cX12_shake 47 = .ok (.invokevirtual 299, 3) := by decide +kernel
theorem dX12_shake_50 : decode cX12_shake 50 = .ok (.aload_n 0, 1) := by decide +kernel
theorem dX12_shake_51 : decode cX12_shake 51 = .ok (.iload_n 2, 1) := by decide +kernel
theorem dX12_shake_52 : decode cX12_shake 52 = .ok (.invokevirtual 293, 3) := by decide +kernel
theorem dX12_shake_55 : decode cX12_shake 55 = .ok (.iload_n 3, 1) := by decide +kernel
theorem dX12_shake_56 : decode cX12_shake 56 = .ok (.invokestatic 302, 3) := by decide +kernel
theorem dX12_shake_59 : decode cX12_shake 59 = .ok (.ireturn, 1) := by decide +kernel
theorem dX12_worst_0 : decode cX12_worst 0 = .ok (.aload_n 0, 1) := by decide +kernel
theorem dX12_worst_1 : decode cX12_worst 1 = .ok (.iload_n 1, 1) := by decide +kernel
theorem dX12_worst_2 : decode cX12_worst 2 = .ok (.invokevirtual 296, 3) := by decide +kernel
theorem dX12_worst_5 : decode cX12_worst 5 = .ok (.ifCond .ne 6, 3) := by decide +kernel
theorem dX12_worst_8 : decode cX12_worst 8 = .ok (.bipush (-101), 2) := by decide +kernel
theorem dX12_worst_10 : decode cX12_worst 10 = .ok (.ireturn, 1) := by decide +kernel
theorem dX12_worst_11 : decode cX12_worst 11 = .ok (.iconst 1, 1) := by decide +kernel
theorem dX12_worst_12 : decode cX12_worst 12 = .ok (.istore_n 2, 1) := by decide +kernel
theorem dX12_worst_13 : decode cX12_worst 13 = .ok (.iconst 2, 1) := by decide +kernel
theorem dX12_worst_14 : decode cX12_worst 14 = .ok (.istore_n 3, 1) := by decide +kernel
theorem dX12_worst_15 : decode cX12_worst 15 = .ok (.iload_n 3, 1) := by decide +kernel
theorem dX12_worst_16 : decode cX12_worst 16 = .ok (.bipush 6, 2) := by decide +kernel
theorem dX12_worst_18 : decode cX12_worst 18 = .ok (.if_icmp .ge 62, 3) := by decide +kernel
theorem dX12_worst_21 : decode cX12_worst 21 = .ok (.aload_n 0, 1) := by decide +kernel
theorem dX12_worst_22 : decode cX12_worst 22 = .ok (.iload_n 3, 1) := by decide +kernel
theorem dX12_worst_23 : decode cX12_worst 23 = .ok (.invokevirtual 293, 3) := by decide +kernel
theorem dX12_worst_26 : decode cX12_worst 26 = .ok (.ifCond .le 34, 3) := by decide +kernel
theorem dX12_worst_29 : decode cX12_worst 29 = .ok (.aload_n 0, 1) := by decide +kernel
theorem dX12_worst_30 : decode cX12_worst 30 = .ok (.iload_n 1, 1) := by decide +kernel
theorem dX12_worst_31 : decode cX12_worst 31 = .ok (.iload_n 3, 1) := by decide +kernel
theorem dX12_worst_32 : decode cX12_worst 32 = .ok (.invokevirtual 299, 3) := by decide +kernel
theorem dX12_worst_35 : decode cX12_worst 35 = .ok (.aload_n 0, 1) := by decide +kernel
theorem dX12_worst_36 : decode cX12_worst 36 = .ok (.iload_n 2, 1) := by decide +kernel
theorem dX12_worst_37 : decode cX12_worst 37 = .ok (.invokevirtual 293, 3) := by decide +kernel
theorem dX12_worst_40 : decode cX12_worst 40 = .ok (.imul, 1) := by decide +kernel
theorem dX12_worst_41 : decode cX12_worst 41 = .ok (.aload_n 0, 1) := by decide +kernel
theorem dX12_worst_42 : decode cX12_worst 42 = .ok (.iload_n 1, 1) := by decide +kernel
theorem dX12_worst_43 : decode cX12_worst 43 = .ok (.iload_n 2, 1) := by decide +kernel
theorem dX12_worst_44 : decode cX12_worst 44 = .ok (.invokevirtual 299, 3) := by decide +kernel
theorem dX12_worst_47 : decode cX12_worst 47 = .ok (.aload_n 0, 1) := by decide +kernel
theorem dX12_worst_48 : decode cX12_worst 48 = .ok (.iload_n 3, 1) := by decide +kernel
theorem dX12_worst_49 : decode cX12_worst 49 = .ok (.invokevirtual 293, 3) := by decide +kernel
theorem dX12_worst_52 : decode cX12_worst 52 = .ok (.imul, 1) := by decide +kernel
theorem dX12_worst_53 : decode cX12_worst 53 = .ok (.if_icmp .le 7, 3) := by decide +kernel
theorem dX12_worst_56 : decode cX12_worst 56 = .ok (.iconst 1, 1) := by decide +kernel
theorem dX12_worst_57 : decode cX12_worst 57 = .ok (.goto 4, 3) := by decide +kernel
theorem dX12_worst_60 : decode cX12_worst 60 = .ok (.iconst 0, 1) := by decide +kernel
theorem dX12_worst_61 : decode cX12_worst 61 = .ok (.istore 4, 2) := by decide +kernel
theorem dX12_worst_63 : decode cX12_worst 63 = .ok (.iload 4, 2) := by decide +kernel
theorem dX12_worst_65 : decode cX12_worst 65 = .ok (.ifCond .eq 7, 3) := by decide +kernel
theorem dX12_worst_68 : decode cX12_worst 68 = .ok (.iload_n 3, 1) := by decide +kernel
theorem dX12_worst_69 : decode cX12_worst 69 = .ok (.goto 4, 3) := by decide +kernel
theorem dX12_worst_72 : decode cX12_worst 72 = .ok (.iload_n 2, 1) := by decide +kernel
theorem dX12_worst_73 : decode cX12_worst 73 = .ok (.istore_n 2, 1) := by decide +kernel
theorem dX12_worst_74 : decode cX12_worst 74 = .ok (.iinc 3 1, 3) := by decide +kernel
theorem dX12_worst_77 : decode cX12_worst 77 = .ok (.goto (-62), 3) := by decide +kernel
theorem dX12_worst_80 : decode cX12_worst 80 = .ok (.iload_n 2, 1) := by decide +kernel
theorem dX12_worst_81 : decode cX12_worst 81 = .ok (.ireturn, 1) := by decide +kernel
theorem dX12_image_0 : decode cX12_image 0 = .ok (.aload_n 0, 1) := by decide +kernel
theorem dX12_image_1 : decode cX12_image 1 = .ok (.getfield 131, 3) := by decide +kernel
theorem dX12_image_4 : decode cX12_image 4 = .ok (.ifCond .ne 6, 3) := by decide +kernel
theorem dX12_image_7 : decode cX12_image 7 = .ok (.bipush (-103), 2) := by decide +kernel
theorem dX12_image_9 : decode cX12_image 9 = .ok (.ireturn, 1) := by decide +kernel
theorem dX12_image_10 : decode cX12_image 10 = .ok (.aload_n 0, 1) := by decide +kernel
theorem dX12_image_11 : decode cX12_image 11 = .ok (.iconst 1, 1) := by decide +kernel
theorem dX12_image_12 : decode cX12_image 12 = .ok (.putfield 305, 3) := by decide +kernel
theorem dX12_image_15 : decode cX12_image 15 = .ok (.aload_n 0, 1) := by decide +kernel
theorem dX12_image_16 : decode cX12_image 16 = .ok (.aload_n 0, 1) := by decide +kernel
theorem dX12_image_17 : decode cX12_image 17 = .ok (.getfield 131, 3) := by decide +kernel
theorem dX12_image_20 : decode cX12_image 20 = .ok (.putfield 308, 3) := by decide +kernel
theorem dX12_image_23 : decode cX12_image 23 = .ok (.aload_n 0, 1) := by decide +kernel
theorem dX12_image_24 : decode cX12_image 24 = .ok (.aload_n 0, 1) := by decide +kernel
theorem dX12_image_25 : decode cX12_image 25 = .ok (.getfield 25, 3) := by decide +kernel
theorem dX12_image_28 : decode cX12_image 28 = .ok (.putfield 311, 3) := by decide +kernel
theorem dX12_image_31 : decode cX12_image 31 = .ok (.aload_n 0, 1) := by decide +kernel
theorem dX12_image_32 : decode cX12_image 32 = .ok (.invokevirtual 190, 3) := by decide +kernel
theorem dX12_image_35 : decode cX12_image 35 = .ok (.iconst 0, 1) := by decide +kernel
theorem dX12_image_36 : decode cX12_image 36 = .ok (.istore_n 1, 1) := by decide +kernel
theorem dX12_image_37 : decode cX12_image 37 = .ok (.iload_n 1, 1) := by decide +kernel
theorem dX12_image_38 : decode cX12_image 38 = .ok (.sipush 150, 3) := by decide +kernel
theorem dX12_image_41 : decode cX12_image 41 = .ok (.if_icmp .ge 21, 3) := by decide +kernel
theorem dX12_image_44 : decode cX12_image 44 = .ok (.aload_n 0, 1) := by decide +kernel
theorem dX12_image_45 : decode cX12_image 45 = .ok (.getfield 42, 3) := by decide +kernel
theorem dX12_image_48 : decode cX12_image 48 = .ok (.iload_n 1, 1) := by decide +kernel
theorem dX12_image_49 : decode cX12_image 49 = .ok (.aload_n 0, 1) := by decide +kernel
theorem dX12_image_50 : decode cX12_image 50 = .ok (.getfield 45, 3) := by decide +kernel
theorem dX12_image_53 : decode cX12_image 53 = .ok (.iload_n 1, 1) := by decide +kernel
theorem dX12_image_54 : decode cX12_image 54 = .ok (.iaload, 1) := by decide +kernel
theorem dX12_image_55 : decode cX12_image 55 = .ok (.iastore, 1) := by decide +kernel
theorem dX12_image_56 : decode cX12_image 56 = .ok (.iinc 1 1, 3) := by decide +kernel
theorem dX12_image_59 : decode cX12_image 59 = .ok (.goto (-22), 3) := by decide +kernel
theorem dX12_image_62 : decode cX12_image 62 = .ok (.aload_n 0, 1) := by decide +kernel
theorem dX12_image_63 : decode cX12_image 63 = .ok (.invokevirtual 159, 3) := by decide +kernel
theorem dX12_image_66 : decode cX12_image 66 = .ok (.ireturn, 1) := by decide +kernel
theorem dX12_restore_0 : decode cX12_restore 0 = .ok (.aload_n 0, 1) := by decide +kernel
theorem dX12_restore_1 : decode cX12_restore 1 = .ok (.getfield 305, 3) := by decide +kernel
theorem dX12_restore_4 : decode cX12_restore 4 = .ok (.ifCond .eq 14, 3) := by decide +kernel
theorem dX12_restore_7 : decode cX12_restore 7 = .ok (.aload_n 0, 1) := by decide +kernel
theorem dX12_restore_8 : decode cX12_restore 8 = .ok (.getfield 308, 3) := by decide +kernel
theorem dX12_restore_11 : decode cX12_restore 11 = .ok (.aload_n 0, 1) := by decide +kernel
theorem dX12_restore_12 : decode cX12_restore 12 = .ok (.getfield 131, 3) := by decide +kernel
theorem dX12_restore_15 : decode cX12_restore 15 = .ok (.if_icmp .eq 6, 3) := by decide +kernel
theorem dX12_restore_18 : decode cX12_restore 18 = .ok (.bipush (-103), 2) := by decide +kernel
theorem dX12_restore_20 : decode cX12_restore 20 = .ok (.ireturn, 1) := by decide +kernel
theorem dX12_restore_21 : decode cX12_restore 21 = .ok (.aload_n 0, 1) := by decide +kernel
theorem dX12_restore_22 : decode cX12_restore 22 = .ok (.aload_n 0, 1) := by decide +kernel
theorem dX12_restore_23 : decode cX12_restore 23 = .ok (.getfield 311, 3) := by decide +kernel
theorem dX12_restore_26 : decode cX12_restore 26 = .ok (.putfield 187, 3) := by decide +kernel
theorem dX12_restore_29 : decode cX12_restore 29 = .ok (.iconst 0, 1) := by decide +kernel
theorem dX12_restore_30 : decode cX12_restore 30 = .ok (.istore_n 1, 1) := by decide +kernel
theorem dX12_restore_31 : decode cX12_restore 31 = .ok (.iload_n 1, 1) := by decide +kernel
theorem dX12_restore_32 : decode cX12_restore 32 = .ok (.sipush 150, 3) := by decide +kernel
theorem dX12_restore_35 : decode cX12_restore 35 = .ok (.if_icmp .ge 21, 3) := by decide +kernel
theorem dX12_restore_38 : decode cX12_restore 38 = .ok (.aload_n 0, 1) := by decide +kernel
theorem dX12_restore_39 : decode cX12_restore 39 = .ok (.getfield 45, 3) := by decide +kernel
theorem dX12_restore_42 : decode cX12_restore 42 = .ok (.iload_n 1, 1) := by decide +kernel
theorem dX12_restore_43 : decode cX12_restore 43 = .ok (.aload_n 0, 1) := by decide +kernel
theorem dX12_restore_44 : decode cX12_restore 44 = .ok (.getfield 42, 3) := by decide +kernel
theorem dX12_restore_47 : decode cX12_restore 47 = .ok (.iload_n 1, 1) := by decide +kernel
theorem dX12_restore_48 : decode cX12_restore 48 = .ok (.iaload, 1) := by decide +kernel
theorem dX12_restore_49 : decode cX12_restore 49 = .ok (.iastore, 1) := by decide +kernel
theorem dX12_restore_50 : decode cX12_restore 50 = .ok (.iinc 1 1, 3) := by decide +kernel
theorem dX12_restore_53 : decode cX12_restore 53 = .ok (.goto (-22), 3) := by decide +kernel
theorem dX12_restore_56 : decode cX12_restore 56 = .ok (.aload_n 0, 1) := by decide +kernel
theorem dX12_restore_57 : decode cX12_restore 57 = .ok (.invokevirtual 193, 3) := by decide +kernel
theorem dX12_restore_60 : decode cX12_restore 60 = .ok (.aload_n 0, 1) := by decide +kernel
theorem dX12_restore_61 : decode cX12_restore 61 = .ok (.invokevirtual 159, 3) := by decide +kernel
theorem dX12_restore_64 : decode cX12_restore 64 = .ok (.ireturn, 1) := by decide +kernel
theorem dX12_howMany_0 : decode cX12_howMany 0 = .ok (.iload_n 1, 1) := by decide +kernel
theorem dX12_howMany_1 : decode cX12_howMany 1 = .ok (.tableswitch 88 0 7 #[47, 52, 57, 62, 67, 72, 78, 83], 47) := by decide +kernel
theorem dX12_howMany_48 : decode cX12_howMany 48 = .ok (.aload_n 0, 1) := by decide +kernel
theorem dX12_howMany_49 : decode cX12_howMany 49 = .ok (.invokevirtual 140, 3) := by decide +kernel
theorem dX12_howMany_52 : decode cX12_howMany 52 = .ok (.ireturn, 1) := by decide +kernel
theorem dX12_howMany_53 : decode cX12_howMany 53 = .ok (.aload_n 0, 1) := by decide +kernel
theorem dX12_howMany_54 : decode cX12_howMany 54 = .ok (.invokevirtual 159, 3) := by decide +kernel
theorem dX12_howMany_57 : decode cX12_howMany 57 = .ok (.ireturn, 1) := by decide +kernel
theorem dX12_howMany_58 : decode cX12_howMany 58 = .ok (.aload_n 0, 1) := by decide +kernel
theorem dX12_howMany_59 : decode cX12_howMany 59 = .ok (.getfield 134, 3) := by decide +kernel
theorem dX12_howMany_62 : decode cX12_howMany 62 = .ok (.ireturn, 1) := by decide +kernel
theorem dX12_howMany_63 : decode cX12_howMany 63 = .ok (.aload_n 0, 1) := by decide +kernel
theorem dX12_howMany_64 : decode cX12_howMany 64 = .ok (.getfield 287, 3) := by decide +kernel
theorem dX12_howMany_67 : decode cX12_howMany 67 = .ok (.ireturn, 1) := by decide +kernel
theorem dX12_howMany_68 : decode cX12_howMany 68 = .ok (.aload_n 0, 1) := by decide +kernel
theorem dX12_howMany_69 : decode cX12_howMany 69 = .ok (.getfield 74, 3) := by decide +kernel
theorem dX12_howMany_72 : decode cX12_howMany 72 = .ok (.ireturn, 1) := by decide +kernel
theorem dX12_howMany_73 : decode cX12_howMany 73 = .ok (.aload_n 0, 1) := by decide +kernel
theorem dX12_howMany_74 : decode cX12_howMany 74 = .ok (.getfield 25, 3) := by decide +kernel
theorem dX12_howMany_77 : decode cX12_howMany 77 = .ok (.l2i, 1) := by decide +kernel
theorem dX12_howMany_78 : decode cX12_howMany 78 = .ok (.ireturn, 1) := by decide +kernel
theorem dX12_howMany_79 : decode cX12_howMany 79 = .ok (.aload_n 0, 1) := by decide +kernel
theorem dX12_howMany_80 : decode cX12_howMany 80 = .ok (.getfield 131, 3) := by decide +kernel
theorem dX12_howMany_83 : decode cX12_howMany 83 = .ok (.ireturn, 1) := by decide +kernel
theorem dX12_howMany_84 : decode cX12_howMany 84 = .ok (.aload_n 0, 1) := by decide +kernel
theorem dX12_howMany_85 : decode cX12_howMany 85 = .ok (.getfield 281, 3) := by decide +kernel
theorem dX12_howMany_88 : decode cX12_howMany 88 = .ok (.ireturn, 1) := by decide +kernel
theorem dX12_howMany_89 : decode cX12_howMany 89 = .ok (.bipush (-102), 2) := by decide +kernel
theorem dX12_howMany_91 : decode cX12_howMany 91 = .ok (.ireturn, 1) := by decide +kernel
theorem dX12_count_0 : decode cX12_count 0 = .ok (.aload_n 0, 1) := by decide +kernel
theorem dX12_count_1 : decode cX12_count 1 = .ok (.iload_n 1, 1) := by decide +kernel
theorem dX12_count_2 : decode cX12_count 2 = .ok (.invokevirtual 314, 3) := by decide +kernel
theorem dX12_count_5 : decode cX12_count 5 = .ok (.ireturn, 1) := by decide +kernel
theorem dX12_mix_0 : decode cX12_mix 0 = .ok (.aload_n 0, 1) := by decide +kernel
theorem dX12_mix_1 : decode cX12_mix 1 = .ok (.ldc2_w 317, 3) := by decide +kernel
theorem dX12_mix_4 : decode cX12_mix 4 = .ok (.aload_n 0, 1) := by decide +kernel
theorem dX12_mix_5 : decode cX12_mix 5 = .ok (.getfield 319, 3) := by decide +kernel
theorem dX12_mix_8 : decode cX12_mix 8 = .ok (.lmul, 1) := by decide +kernel
theorem dX12_mix_9 : decode cX12_mix 9 = .ok (.lload_n 1, 1) := by decide +kernel
theorem dX12_mix_10 : decode cX12_mix 10 = .ok (.ladd, 1) := by decide +kernel
theorem dX12_mix_11 : decode cX12_mix 11 = .ok (.putfield 319, 3) := by decide +kernel
theorem dX12_mix_14 : decode cX12_mix 14 = .ok (.return_, 1) := by decide +kernel
theorem dX12_mixStreet_0 : decode cX12_mixStreet 0 = .ok (.aload_n 0, 1) := by decide +kernel
theorem dX12_mixStreet_1 : decode cX12_mixStreet 1 = .ok (.invokevirtual 221, 3) := by decide +kernel
theorem dX12_mixStreet_4 : decode cX12_mixStreet 4 = .ok (.iconst 0, 1) := by decide +kernel
theorem dX12_mixStreet_5 : decode cX12_mixStreet 5 = .ok (.istore_n 1, 1) := by decide +kernel
theorem dX12_mixStreet_6 : decode cX12_mixStreet 6 = .ok (.iload_n 1, 1) := by decide +kernel
theorem dX12_mixStreet_7 : decode cX12_mixStreet 7 = .ok (.aload_n 0, 1) := by decide +kernel
theorem dX12_mixStreet_8 : decode cX12_mixStreet 8 = .ok (.invokevirtual 140, 3) := by decide +kernel
theorem dX12_mixStreet_11 : decode cX12_mixStreet 11 = .ok (.if_icmp .ge 52, 3) := by decide +kernel
theorem dX12_mixStreet_14 : decode cX12_mixStreet 14 = .ok (.iconst 0, 1) := by decide +kernel
theorem dX12_mixStreet_15 : decode cX12_mixStreet 15 = .ok (.istore_n 2, 1) := by decide +kernel
theorem dX12_mixStreet_16 : decode cX12_mixStreet 16 = .ok (.iload_n 2, 1) := by decide +kernel
theorem dX12_mixStreet_17 : decode cX12_mixStreet 17 = .ok (.bipush 6, 2) := by decide +kernel
theorem dX12_mixStreet_19 : decode cX12_mixStreet 19 = .ok (.if_icmp .ge 20, 3) := by decide +kernel
theorem dX12_mixStreet_22 : decode cX12_mixStreet 22 = .ok (.aload_n 0, 1) := by decide +kernel
theorem dX12_mixStreet_23 : decode cX12_mixStreet 23 = .ok (.aload_n 0, 1) := by decide +kernel
theorem dX12_mixStreet_24 : decode cX12_mixStreet 24 = .ok (.iload_n 1, 1) := by decide +kernel
theorem dX12_mixStreet_25 : decode cX12_mixStreet 25 = .ok (.iload_n 2, 1) := by decide +kernel
theorem dX12_mixStreet_26 : decode cX12_mixStreet 26 = .ok (.invokevirtual 156, 3) := by decide +kernel
theorem dX12_mixStreet_29 : decode cX12_mixStreet 29 = .ok (.i2l, 1) := by decide +kernel
theorem dX12_mixStreet_30 : decode cX12_mixStreet 30 = .ok (.invokevirtual 322, 3) := by decide +kernel
theorem dX12_mixStreet_33 : decode cX12_mixStreet 33 = .ok (.iinc 2 1, 3) := by decide +kernel
theorem dX12_mixStreet_36 : decode cX12_mixStreet 36 = .ok (.goto (-20), 3) := by decide +kernel
theorem dX12_mixStreet_39 : decode cX12_mixStreet 39 = .ok (.aload_n 0, 1) := by decide +kernel
theorem dX12_mixStreet_40 : decode cX12_mixStreet 40 = .ok (.aload_n 0, 1) := by decide +kernel
theorem dX12_mixStreet_41 : decode cX12_mixStreet 41 = .ok (.getfield 63, 3) := by decide +kernel
theorem dX12_mixStreet_44 : decode cX12_mixStreet 44 = .ok (.iload_n 1, 1) := by decide +kernel
theorem dX12_mixStreet_45 : decode cX12_mixStreet 45 = .ok (.iaload, 1) := by decide +kernel
theorem dX12_mixStreet_46 : decode cX12_mixStreet 46 = .ok (.aload_n 0, 1) := by decide +kernel
theorem dX12_mixStreet_47 : decode cX12_mixStreet 47 = .ok (.getfield 16, 3) := by decide +kernel
theorem dX12_mixStreet_50 : decode cX12_mixStreet 50 = .ok (.iload_n 1, 1) := by decide +kernel
theorem dX12_mixStreet_51 : decode cX12_mixStreet 51 = .ok (.iaload, 1) := by decide +kernel
theorem dX12_mixStreet_52 : decode cX12_mixStreet 52 = .ok (.isub, 1) := by decide +kernel
theorem dX12_mixStreet_53 : decode cX12_mixStreet 53 = .ok (.i2l, 1) := by decide +kernel
theorem dX12_mixStreet_54 : decode cX12_mixStreet 54 = .ok (.invokevirtual 322, 3) := by decide +kernel
theorem dX12_mixStreet_57 : decode cX12_mixStreet 57 = .ok (.iinc 1 1, 3) := by decide +kernel
theorem dX12_mixStreet_60 : decode cX12_mixStreet 60 = .ok (.goto (-54), 3) := by decide +kernel
theorem dX12_mixStreet_63 : decode cX12_mixStreet 63 = .ok (.return_, 1) := by decide +kernel
theorem dX12_digest_0 : decode cX12_digest 0 = .ok (.aload_n 0, 1) := by decide +kernel
theorem dX12_digest_1 : decode cX12_digest 1 = .ok (.ldc2_w 326, 3) := by decide +kernel
theorem dX12_digest_4 : decode cX12_digest 4 = .ok (.putfield 319, 3) := by decide +kernel
theorem dX12_digest_7 : decode cX12_digest 7 = .ok (.aload_n 0, 1) := by decide +kernel
theorem dX12_digest_8 : decode cX12_digest 8 = .ok (.invokevirtual 328, 3) := by decide +kernel
theorem dX12_digest_11 : decode cX12_digest 11 = .ok (.iconst 0, 1) := by decide +kernel
theorem dX12_digest_12 : decode cX12_digest 12 = .ok (.istore_n 1, 1) := by decide +kernel
theorem dX12_digest_13 : decode cX12_digest 13 = .ok (.iload_n 1, 1) := by decide +kernel
theorem dX12_digest_14 : decode cX12_digest 14 = .ok (.aload_n 0, 1) := by decide +kernel
theorem dX12_digest_15 : decode cX12_digest 15 = .ok (.getfield 134, 3) := by decide +kernel
theorem dX12_digest_18 : decode cX12_digest 18 = .ok (.if_icmp .ge 31, 3) := by decide +kernel
theorem dX12_digest_21 : decode cX12_digest 21 = .ok (.aload_n 0, 1) := by decide +kernel
theorem dX12_digest_22 : decode cX12_digest 22 = .ok (.aload_n 0, 1) := by decide +kernel
theorem dX12_digest_23 : decode cX12_digest 23 = .ok (.getfield 29, 3) := by decide +kernel
theorem dX12_digest_26 : decode cX12_digest 26 = .ok (.iload_n 1, 1) := by decide +kernel
theorem dX12_digest_27 : decode cX12_digest 27 = .ok (.iaload, 1) := by decide +kernel
theorem dX12_digest_28 : decode cX12_digest 28 = .ok (.i2l, 1) := by decide +kernel
theorem dX12_digest_29 : decode cX12_digest 29 = .ok (.invokevirtual 322, 3) := by decide +kernel
theorem dX12_digest_32 : decode cX12_digest 32 = .ok (.aload_n 0, 1) := by decide +kernel
theorem dX12_digest_33 : decode cX12_digest 33 = .ok (.aload_n 0, 1) := by decide +kernel
theorem dX12_digest_34 : decode cX12_digest 34 = .ok (.getfield 32, 3) := by decide +kernel
theorem dX12_digest_37 : decode cX12_digest 37 = .ok (.iload_n 1, 1) := by decide +kernel
theorem dX12_digest_38 : decode cX12_digest 38 = .ok (.iaload, 1) := by decide +kernel
theorem dX12_digest_39 : decode cX12_digest 39 = .ok (.i2l, 1) := by decide +kernel
theorem dX12_digest_40 : decode cX12_digest 40 = .ok (.invokevirtual 322, 3) := by decide +kernel
theorem dX12_digest_43 : decode cX12_digest 43 = .ok (.iinc 1 1, 3) := by decide +kernel
theorem dX12_digest_46 : decode cX12_digest 46 = .ok (.goto (-33), 3) := by decide +kernel
theorem dX12_digest_49 : decode cX12_digest 49 = .ok (.iconst 0, 1) := by decide +kernel
theorem dX12_digest_50 : decode cX12_digest 50 = .ok (.istore_n 1, 1) := by decide +kernel
theorem dX12_digest_51 : decode cX12_digest 51 = .ok (.iload_n 1, 1) := by decide +kernel
theorem dX12_digest_52 : decode cX12_digest 52 = .ok (.aload_n 0, 1) := by decide +kernel
theorem dX12_digest_53 : decode cX12_digest 53 = .ok (.getfield 287, 3) := by decide +kernel
theorem dX12_digest_56 : decode cX12_digest 56 = .ok (.if_icmp .ge 20, 3) := by decide +kernel
theorem dX12_digest_59 : decode cX12_digest 59 = .ok (.aload_n 0, 1) := by decide +kernel
theorem dX12_digest_60 : decode cX12_digest 60 = .ok (.aload_n 0, 1) := by decide +kernel
theorem dX12_digest_61 : decode cX12_digest 61 = .ok (.getfield 35, 3) := by decide +kernel
theorem dX12_digest_64 : decode cX12_digest 64 = .ok (.iload_n 1, 1) := by decide +kernel
theorem dX12_digest_65 : decode cX12_digest 65 = .ok (.iaload, 1) := by decide +kernel
theorem dX12_digest_66 : decode cX12_digest 66 = .ok (.i2l, 1) := by decide +kernel
theorem dX12_digest_67 : decode cX12_digest 67 = .ok (.invokevirtual 322, 3) := by decide +kernel
theorem dX12_digest_70 : decode cX12_digest 70 = .ok (.iinc 1 1, 3) := by decide +kernel
theorem dX12_digest_73 : decode cX12_digest 73 = .ok (.goto (-22), 3) := by decide +kernel
theorem dX12_digest_76 : decode cX12_digest 76 = .ok (.aload_n 0, 1) := by decide +kernel
theorem dX12_digest_77 : decode cX12_digest 77 = .ok (.getfield 131, 3) := by decide +kernel
theorem dX12_digest_80 : decode cX12_digest 80 = .ok (.ifCond .le 12, 3) := by decide +kernel
theorem dX12_digest_83 : decode cX12_digest 83 = .ok (.aload_n 0, 1) := by decide +kernel
theorem dX12_digest_84 : decode cX12_digest 84 = .ok (.aload_n 0, 1) := by decide +kernel
theorem dX12_digest_85 : decode cX12_digest 85 = .ok (.invokevirtual 198, 3) := by decide +kernel
theorem dX12_digest_88 : decode cX12_digest 88 = .ok (.i2l, 1) := by decide +kernel
theorem dX12_digest_89 : decode cX12_digest 89 = .ok (.invokevirtual 322, 3) := by decide +kernel
theorem dX12_digest_92 : decode cX12_digest 92 = .ok (.aload_n 0, 1) := by decide +kernel
theorem dX12_digest_93 : decode cX12_digest 93 = .ok (.invokevirtual 255, 3) := by decide +kernel
theorem dX12_digest_96 : decode cX12_digest 96 = .ok (.ifCond .eq 14, 3) := by decide +kernel
theorem dX12_digest_99 : decode cX12_digest 99 = .ok (.aload_n 0, 1) := by decide +kernel
theorem dX12_digest_100 : decode cX12_digest 100 = .ok (.aload_n 0, 1) := by decide +kernel
theorem dX12_digest_101 : decode cX12_digest 101 = .ok (.iconst 3, 1) := by decide +kernel
theorem dX12_digest_102 : decode cX12_digest 102 = .ok (.iconst 4, 1) := by decide +kernel
theorem dX12_digest_103 : decode cX12_digest 103 = .ok (.invokevirtual 266, 3) := by decide +kernel
theorem dX12_digest_106 : decode cX12_digest 106 = .ok (.i2l, 1) := by decide +kernel
theorem dX12_digest_107 : decode cX12_digest 107 = .ok (.invokevirtual 322, 3) := by decide +kernel
theorem dX12_digest_110 : decode cX12_digest 110 = .ok (.iconst 0, 1) := by decide +kernel
theorem dX12_digest_111 : decode cX12_digest 111 = .ok (.istore_n 1, 1) := by decide +kernel
theorem dX12_digest_112 : decode cX12_digest 112 = .ok (.iload_n 1, 1) := by decide +kernel
theorem dX12_digest_113 : decode cX12_digest 113 = .ok (.aload_n 0, 1) := by decide +kernel
theorem dX12_digest_114 : decode cX12_digest 114 = .ok (.getfield 74, 3) := by decide +kernel
theorem dX12_digest_117 : decode cX12_digest 117 = .ok (.if_icmp .ge 20, 3) := by decide +kernel
theorem dX12_digest_120 : decode cX12_digest 120 = .ok (.aload_n 0, 1) := by decide +kernel
theorem dX12_digest_121 : decode cX12_digest 121 = .ok (.aload_n 0, 1) := by decide +kernel
theorem dX12_digest_122 : decode cX12_digest 122 = .ok (.getfield 38, 3) := by decide +kernel
theorem dX12_digest_125 : decode cX12_digest 125 = .ok (.iload_n 1, 1) := by decide +kernel
theorem dX12_digest_126 : decode cX12_digest 126 = .ok (.baload, 1) := by decide +kernel
theorem dX12_digest_127 : decode cX12_digest 127 = .ok (.i2l, 1) := by decide +kernel
theorem dX12_digest_128 : decode cX12_digest 128 = .ok (.invokevirtual 322, 3) := by decide +kernel
theorem dX12_digest_131 : decode cX12_digest 131 = .ok (.iinc 1 1, 3) := by decide +kernel
theorem dX12_digest_134 : decode cX12_digest 134 = .ok (.goto (-22), 3) := by decide +kernel
theorem dX12_digest_137 : decode cX12_digest 137 = .ok (.iconst 0, 1) := by decide +kernel
theorem dX12_digest_138 : decode cX12_digest 138 = .ok (.istore_n 1, 1) := by decide +kernel
theorem dX12_digest_139 : decode cX12_digest 139 = .ok (.iload_n 1, 1) := by decide +kernel
theorem dX12_digest_140 : decode cX12_digest 140 = .ok (.bipush 8, 2) := by decide +kernel
theorem dX12_digest_142 : decode cX12_digest 142 = .ok (.if_icmp .ge 19, 3) := by decide +kernel
theorem dX12_digest_145 : decode cX12_digest 145 = .ok (.aload_n 0, 1) := by decide +kernel
theorem dX12_digest_146 : decode cX12_digest 146 = .ok (.aload_n 0, 1) := by decide +kernel
theorem dX12_digest_147 : decode cX12_digest 147 = .ok (.iload_n 1, 1) := by decide +kernel
theorem dX12_digest_148 : decode cX12_digest 148 = .ok (.invokevirtual 314, 3) := by decide +kernel
theorem dX12_digest_151 : decode cX12_digest 151 = .ok (.i2l, 1) := by decide +kernel
theorem dX12_digest_152 : decode cX12_digest 152 = .ok (.invokevirtual 322, 3) := by decide +kernel
theorem dX12_digest_155 : decode cX12_digest 155 = .ok (.iinc 1 1, 3) := by decide +kernel
theorem dX12_digest_158 : decode cX12_digest 158 = .ok (.goto (-19), 3) := by decide +kernel
theorem dX12_digest_161 : decode cX12_digest 161 = .ok (.aload_n 0, 1) := by decide +kernel
theorem dX12_digest_162 : decode cX12_digest 162 = .ok (.getfield 319, 3) := by decide +kernel
theorem dX12_digest_165 : decode cX12_digest 165 = .ok (.lreturn, 1) := by decide +kernel
