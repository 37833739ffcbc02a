theorem dX11_init_0 : decode cX11_init 0 = .ok (.aload_n 0, 1) := by decide +kernel
theorem dX11_init_1 : decode cX11_init 1 = .ok (.invokespecial 3, 3) := by decide +kernel
theorem dX11_init_4 : decode cX11_init 4 = .ok (.aload_n 0, 1) := by decide +kernel
theorem dX11_init_5 : decode cX11_init 5 = .ok (.new 9, 3) := by decide +kernel
theorem dX11_init_8 : decode cX11_init 8 = .ok (.dup, 1) := by decide +kernel
theorem dX11_init_9 : decode cX11_init 9 = .ok (.invokespecial 11, 3) := by decide +kernel
theorem dX11_init_12 : decode cX11_init 12 = .ok (.putfield 12, 3) := by decide +kernel
theorem dX11_init_15 : decode cX11_init 15 = .ok (.aload_n 0, 1) := by decide +kernel
theorem dX11_init_16 : decode cX11_init 16 = .ok (.new 16, 3) := by decide +kernel
theorem dX11_init_19 : decode cX11_init 19 = .ok (.dup, 1) := by decide +kernel
theorem dX11_init_20 : decode cX11_init 20 = .ok (.invokespecial 18, 3) := by decide +kernel
theorem dX11_init_23 : decode cX11_init 23 = .ok (.putfield 19, 3) := by decide +kernel
theorem dX11_init_26 : decode cX11_init 26 = .ok (.aload_n 0, 1) := by decide +kernel
theorem dX11_init_27 : decode cX11_init 27 = .ok (.new 23, 3) := by decide +kernel
theorem dX11_init_30 : decode cX11_init 30 = .ok (.dup, 1) := by decide +kernel
theorem dX11_init_31 : decode cX11_init 31 = .ok (.invokespecial 25, 3) := by decide +kernel
theorem dX11_init_34 : decode cX11_init 34 = .ok (.putfield 26, 3) := by decide +kernel
theorem dX11_init_37 : decode cX11_init 37 = .ok (.aload_n 0, 1) := by decide +kernel
theorem dX11_init_38 : decode cX11_init 38 = .ok (.new 23, 3) := by decide +kernel
theorem dX11_init_41 : decode cX11_init 41 = .ok (.dup, 1) := by decide +kernel
theorem dX11_init_42 : decode cX11_init 42 = .ok (.invokespecial 25, 3) := by decide +kernel
theorem dX11_init_45 : decode cX11_init 45 = .ok (.putfield 30, 3) := by decide +kernel
theorem dX11_init_48 : decode cX11_init 48 = .ok (.aload_n 0, 1) := by decide +kernel
theorem dX11_init_49 : decode cX11_init 49 = .ok (.new 33, 3) := by decide +kernel
theorem dX11_init_52 : decode cX11_init 52 = .ok (.dup, 1) := by decide +kernel
theorem dX11_init_53 : decode cX11_init 53 = .ok (.invokespecial 35, 3) := by decide +kernel
theorem dX11_init_56 : decode cX11_init 56 = .ok (.putfield 36, 3) := by decide +kernel
theorem dX11_init_59 : decode cX11_init 59 = .ok (.aload_n 0, 1) := by decide +kernel
theorem dX11_init_60 : decode cX11_init 60 = .ok (.new 40, 3) := by decide +kernel
theorem dX11_init_63 : decode cX11_init 63 = .ok (.dup, 1) := by decide +kernel
theorem dX11_init_64 : decode cX11_init 64 = .ok (.aload_n 0, 1) := by decide +kernel
theorem dX11_init_65 : decode cX11_init 65 = .ok (.getfield 36, 3) := by decide +kernel
theorem dX11_init_68 : decode cX11_init 68 = .ok (.invokespecial 42, 3) := by decide +kernel
theorem dX11_init_71 : decode cX11_init 71 = .ok (.putfield 45, 3) := by decide +kernel
theorem dX11_init_74 : decode cX11_init 74 = .ok (.aload_n 0, 1) := by decide +kernel
theorem dX11_init_75 : decode cX11_init 75 = .ok (.new 40, 3) := by decide +kernel
theorem dX11_init_78 : decode cX11_init 78 = .ok (.dup, 1) := by decide +kernel
theorem dX11_init_79 : decode cX11_init 79 = .ok (.aload_n 0, 1) := by decide +kernel
theorem dX11_init_80 : decode cX11_init 80 = .ok (.getfield 36, 3) := by decide +kernel
theorem dX11_init_83 : decode cX11_init 83 = .ok (.invokespecial 42, 3) := by decide +kernel
theorem dX11_init_86 : decode cX11_init 86 = .ok (.putfield 49, 3) := by decide +kernel
theorem dX11_init_89 : decode cX11_init 89 = .ok (.aload_n 0, 1) := by decide +kernel
theorem dX11_init_90 : decode cX11_init 90 = .ok (.new 40, 3) := by decide +kernel
theorem dX11_init_93 : decode cX11_init 93 = .ok (.dup, 1) := by decide +kernel
theorem dX11_init_94 : decode cX11_init 94 = .ok (.aload_n 0, 1) := by decide +kernel
theorem dX11_init_95 : decode cX11_init 95 = .ok (.getfield 36, 3) := by decide +kernel
theorem dX11_init_98 : decode cX11_init 98 = .ok (.invokespecial 42, 3) := by decide +kernel
theorem dX11_init_101 : decode cX11_init 101 = .ok (.putfield 52, 3) := by decide +kernel
theorem dX11_init_104 : decode cX11_init 104 = .ok (.aload_n 0, 1) := by decide +kernel
theorem dX11_init_105 : decode cX11_init 105 = .ok (.new 55, 3) := by decide +kernel
theorem dX11_init_108 : decode cX11_init 108 = .ok (.dup, 1) := by decide +kernel
theorem dX11_init_109 : decode cX11_init 109 = .ok (.aload_n 0, 1) := by decide +kernel
theorem dX11_init_110 : decode cX11_init 110 = .ok (.getfield 36, 3) := by decide +kernel
theorem dX11_init_113 : decode cX11_init 113 = .ok (.invokespecial 57, 3) := by decide +kernel
theorem dX11_init_116 : decode cX11_init 116 = .ok (.putfield 58, 3) := by decide +kernel
theorem dX11_init_119 : decode cX11_init 119 = .ok (.aload_n 0, 1) := by decide +kernel
theorem dX11_init_120 : decode cX11_init 120 = .ok (.new 62, 3) := by decide +kernel
theorem dX11_init_123 : decode cX11_init 123 = .ok (.dup, 1) := by decide +kernel
theorem dX11_init_124 : decode cX11_init 124 = .ok (.aload_n 0, 1) := by decide +kernel
theorem dX11_init_125 : decode cX11_init 125 = .ok (.getfield 36, 3) := by decide +kernel
theorem dX11_init_128 : decode cX11_init 128 = .ok (.invokespecial 64, 3) := by decide +kernel
theorem dX11_init_131 : decode cX11_init 131 = .ok (.putfield 65, 3) := by decide +kernel
theorem dX11_init_134 : decode cX11_init 134 = .ok (.aload_n 0, 1) := by decide +kernel
theorem dX11_init_135 : decode cX11_init 135 = .ok (.new 69, 3) := by decide +kernel
theorem dX11_init_138 : decode cX11_init 138 = .ok (.dup, 1) := by decide +kernel
theorem dX11_init_139 : decode cX11_init 139 = .ok (.aload_n 0, 1) := by decide +kernel
theorem dX11_init_140 : decode cX11_init 140 = .ok (.getfield 36, 3) := by decide +kernel
theorem dX11_init_143 : decode cX11_init 143 = .ok (.invokespecial 71, 3) := by decide +kernel
theorem dX11_init_146 : decode cX11_init 146 = .ok (.putfield 72, 3) := by decide +kernel
theorem dX11_init_149 : decode cX11_init 149 = .ok (.aload_n 0, 1) := by decide +kernel
theorem dX11_init_150 : decode cX11_init 150 = .ok (.new 76, 3) := by decide +kernel
theorem dX11_init_153 : decode cX11_init 153 = .ok (.dup, 1) := by decide +kernel
theorem dX11_init_154 : decode cX11_init 154 = .ok (.aload_n 0, 1) := by decide +kernel
theorem dX11_init_155 : decode cX11_init 155 = .ok (.getfield 36, 3) := by decide +kernel
theorem dX11_init_158 : decode cX11_init 158 = .ok (.aload_n 0, 1) := by decide +kernel
theorem dX11_init_159 : decode cX11_init 159 = .ok (.getfield 65, 3) := by decide +kernel
theorem dX11_init_162 : decode cX11_init 162 = .ok (.aload_n 0, 1) := by decide +kernel
theorem dX11_init_163 : decode cX11_init 163 = .ok (.getfield 72, 3) := by decide +kernel
theorem dX11_init_166 : decode cX11_init 166 = .ok (.invokespecial 78, 3) := by decide +kernel
theorem dX11_init_169 : decode cX11_init 169 = .ok (.putfield 81, 3) := by decide +kernel
theorem dX11_init_172 : decode cX11_init 172 = .ok (.aload_n 0, 1) := by decide +kernel
theorem dX11_init_173 : decode cX11_init 173 = .ok (.new 85, 3) := by decide +kernel
theorem dX11_init_176 : decode cX11_init 176 = .ok (.dup, 1) := by decide +kernel
theorem dX11_init_177 : decode cX11_init 177 = .ok (.invokespecial 87, 3) := by decide +kernel
theorem dX11_init_180 : decode cX11_init 180 = .ok (.putfield 88, 3) := by decide +kernel
theorem dX11_init_183 : decode cX11_init 183 = .ok (.aload_n 0, 1) := by decide +kernel
theorem dX11_init_184 : decode cX11_init 184 = .ok (.bipush 8, 2) := by decide +kernel
theorem dX11_init_186 : decode cX11_init 186 = .ok (.newarray .int, 2) := by decide +kernel
theorem dX11_init_188 : decode cX11_init 188 = .ok (.putfield 92, 3) := by decide +kernel
theorem dX11_init_191 : decode cX11_init 191 = .ok (.aload_n 0, 1) := by decide +kernel
theorem dX11_init_192 : decode cX11_init 192 = .ok (.iconst 0, 1) := by decide +kernel
theorem dX11_init_193 : decode cX11_init 193 = .ok (.putfield 96, 3) := by decide +kernel
theorem dX11_init_196 : decode cX11_init 196 = .ok (.aload_n 0, 1) := by decide +kernel
theorem dX11_init_197 : decode cX11_init 197 = .ok (.iconst (-1), 1) := by decide +kernel
theorem dX11_init_198 : decode cX11_init 198 = .ok (.putfield 100, 3) := by decide +kernel
theorem dX11_init_201 : decode cX11_init 201 = .ok (.aload_n 0, 1) := by decide +kernel
theorem dX11_init_202 : decode cX11_init 202 = .ok (.iconst 0, 1) := by decide +kernel
theorem dX11_init_203 : decode cX11_init 203 = .ok (.putfield 103, 3) := by decide +kernel
theorem dX11_init_206 : decode cX11_init 206 = .ok (.return_, 1) := by decide +kernel
theorem dX11_letters_0 : decode cX11_letters 0 = .ok (.lload_n 1, 1) := by decide +kernel
theorem dX11_letters_1 : decode cX11_letters 1 = .ok (.invokestatic 106, 3) := by decide +kernel
theorem dX11_letters_4 : decode cX11_letters 4 = .ok (.istore_n 3, 1) := by decide +kernel
theorem dX11_letters_5 : decode cX11_letters 5 = .ok (.iload_n 3, 1) := by decide +kernel
theorem dX11_letters_6 : decode cX11_letters 6 = .ok (.ifCond .ge 6, 3) := by decide +kernel
theorem dX11_letters_9 : decode cX11_letters 9 = .ok (.bipush (-102), 2) := by decide +kernel
theorem dX11_letters_11 : decode cX11_letters 11 = .ok (.ireturn, 1) := by decide +kernel
theorem dX11_letters_12 : decode cX11_letters 12 = .ok (.aload_n 0, 1) := by decide +kernel
theorem dX11_letters_13 : decode cX11_letters 13 = .ok (.getfield 12, 3) := by decide +kernel
theorem dX11_letters_16 : decode cX11_letters 16 = .ok (.getfield 110, 3) := by decide +kernel
theorem dX11_letters_19 : decode cX11_letters 19 = .ok (.iload_n 3, 1) := by decide +kernel
theorem dX11_letters_20 : decode cX11_letters 20 = .ok (.iadd, 1) := by decide +kernel
theorem dX11_letters_21 : decode cX11_letters 21 = .ok (.bipush 64, 2) := by decide +kernel
theorem dX11_letters_23 : decode cX11_letters 23 = .ok (.if_icmp .le 6, 3) := by decide +kernel
theorem dX11_letters_26 : decode cX11_letters 26 = .ok (.bipush (-104), 2) := by decide +kernel
theorem dX11_letters_28 : decode cX11_letters 28 = .ok (.ireturn, 1) := by decide +kernel
theorem dX11_letters_29 : decode cX11_letters 29 = .ok (.iconst 0, 1) := by decide +kernel
theorem dX11_letters_30 : decode cX11_letters 30 = .ok (.istore 4, 2) := by decide +kernel
theorem dX11_letters_32 : decode cX11_letters 32 = .ok (.iload 4, 2) := by decide +kernel
theorem dX11_letters_34 : decode cX11_letters 34 = .ok (.iload_n 3, 1) := by decide +kernel
theorem dX11_letters_35 : decode cX11_letters 35 = .ok (.if_icmp .ge 22, 3) := by decide +kernel
theorem dX11_letters_38 : decode cX11_letters 38 = .ok (.aload_n 0, 1) := by decide +kernel
theorem dX11_letters_39 : decode cX11_letters 39 = .ok (.getfield 12, 3) := by decide +kernel
theorem dX11_letters_42 : decode cX11_letters 42 = .ok (.lload_n 1, 1) := by decide +kernel
theorem dX11_letters_43 : decode cX11_letters 43 = .ok (.iload 4, 2) := by decide +kernel
theorem dX11_letters_45 : decode cX11_letters 45 = .ok (.invokestatic 113, 3) := by decide +kernel
theorem dX11_letters_48 : decode cX11_letters 48 = .ok (.invokevirtual 117, 3) := by decide +kernel
theorem dX11_letters_51 : decode cX11_letters 51 = .ok (.iinc 4 1, 3) := by decide +kernel
theorem dX11_letters_54 : decode cX11_letters 54 = .ok (.goto (-22), 3) := by decide +kernel
theorem dX11_letters_57 : decode cX11_letters 57 = .ok (.aload_n 0, 1) := by decide +kernel
theorem dX11_letters_58 : decode cX11_letters 58 = .ok (.getfield 12, 3) := by decide +kernel
theorem dX11_letters_61 : decode cX11_letters 61 = .ok (.getfield 110, 3) := by decide +kernel
theorem dX11_letters_64 : decode cX11_letters 64 = .ok (.ireturn, 1) := by decide +kernel
theorem dX11_blank_0 : decode cX11_blank 0 = .ok (.aload_n 0, 1) := by decide +kernel
theorem dX11_blank_1 : decode cX11_blank 1 = .ok (.getfield 12, 3) := by decide +kernel
theorem dX11_blank_4 : decode cX11_blank 4 = .ok (.getfield 110, 3) := by decide +kernel
theorem dX11_blank_7 : decode cX11_blank 7 = .ok (.istore_n 1, 1) := by decide +kernel
theorem dX11_blank_8 : decode cX11_blank 8 = .ok (.aload_n 0, 1) := by decide +kernel
theorem dX11_blank_9 : decode cX11_blank 9 = .ok (.getfield 12, 3) := by decide +kernel
theorem dX11_blank_12 : decode cX11_blank 12 = .ok (.iconst 0, 1) := by decide +kernel
theorem dX11_blank_13 : decode cX11_blank 13 = .ok (.putfield 110, 3) := by decide +kernel
theorem dX11_blank_16 : decode cX11_blank 16 = .ok (.iload_n 1, 1) := by decide +kernel
theorem dX11_blank_17 : decode cX11_blank 17 = .ok (.ireturn, 1) := by decide +kernel
theorem dX11_fault_0 : decode cX11_fault 0 = .ok (.iload_n 1, 1) := by decide +kernel
theorem dX11_fault_1 : decode cX11_fault 1 = .ok (.ifCond .ne 15, 3) := by decide +kernel
theorem dX11_fault_4 : decode cX11_fault 4 = .ok (.aload_n 0, 1) := by decide +kernel
theorem dX11_fault_5 : decode cX11_fault 5 = .ok (.getfield 19, 3) := by decide +kernel
theorem dX11_fault_8 : decode cX11_fault 8 = .ok (.aload_n 0, 1) := by decide +kernel
theorem dX11_fault_9 : decode cX11_fault 9 = .ok (.getfield 12, 3) := by decide +kernel
theorem dX11_fault_12 : decode cX11_fault 12 = .ok (.invokevirtual 121, 3) := by decide +kernel
theorem dX11_fault_15 : decode cX11_fault 15 = .ok (.ireturn, 1) := by decide +kernel
theorem dX11_fault_16 : decode cX11_fault 16 = .ok (.iload_n 1, 1) := by decide +kernel
theorem dX11_fault_17 : decode cX11_fault 17 = .ok (.iconst 1, 1) := by decide +kernel
theorem dX11_fault_18 : decode cX11_fault 18 = .ok (.if_icmp .ne 15, 3) := by decide +kernel
theorem dX11_fault_21 : decode cX11_fault 21 = .ok (.aload_n 0, 1) := by decide +kernel
theorem dX11_fault_22 : decode cX11_fault 22 = .ok (.getfield 26, 3) := by decide +kernel
theorem dX11_fault_25 : decode cX11_fault 25 = .ok (.aload_n 0, 1) := by decide +kernel
theorem dX11_fault_26 : decode cX11_fault 26 = .ok (.getfield 12, 3) := by decide +kernel
theorem dX11_fault_29 : decode cX11_fault 29 = .ok (.invokevirtual 125, 3) := by decide +kernel
theorem dX11_fault_32 : decode cX11_fault 32 = .ok (.ireturn, 1) := by decide +kernel
theorem dX11_fault_33 : decode cX11_fault 33 = .ok (.bipush (-102), 2) := by decide +kernel
theorem dX11_fault_35 : decode cX11_fault 35 = .ok (.ireturn, 1) := by decide +kernel
theorem dX11_street_0 : decode cX11_street 0 = .ok (.aload_n 0, 1) := by decide +kernel
theorem dX11_street_1 : decode cX11_street 1 = .ok (.getfield 19, 3) := by decide +kernel
theorem dX11_street_4 : decode cX11_street 4 = .ok (.aload_n 0, 1) := by decide +kernel
theorem dX11_street_5 : decode cX11_street 5 = .ok (.getfield 12, 3) := by decide +kernel
theorem dX11_street_8 : decode cX11_street 8 = .ok (.invokevirtual 126, 3) := by decide +kernel
theorem dX11_street_11 : decode cX11_street 11 = .ok (.ifCond .ne 6, 3) := by decide +kernel
theorem dX11_street_14 : decode cX11_street 14 = .ok (.bipush (-103), 2) := by decide +kernel
theorem dX11_street_16 : decode cX11_street 16 = .ok (.ireturn, 1) := by decide +kernel
theorem dX11_street_17 : decode cX11_street 17 = .ok (.aload_n 0, 1) := by decide +kernel
theorem dX11_street_18 : decode cX11_street 18 = .ok (.getfield 36, 3) := by decide +kernel
theorem dX11_street_21 : decode cX11_street 21 = .ok (.aload_n 0, 1) := by decide +kernel
theorem dX11_street_22 : decode cX11_street 22 = .ok (.getfield 19, 3) := by decide +kernel
theorem dX11_street_25 : decode cX11_street 25 = .ok (.getfield 130, 3) := by decide +kernel
theorem dX11_street_28 : decode cX11_street 28 = .ok (.iconst 1, 1) := by decide +kernel
theorem dX11_street_29 : decode cX11_street 29 = .ok (.iadd, 1) := by decide +kernel
theorem dX11_street_30 : decode cX11_street 30 = .ok (.aload_n 0, 1) := by decide +kernel
theorem dX11_street_31 : decode cX11_street 31 = .ok (.getfield 19, 3) := by decide +kernel
theorem dX11_street_34 : decode cX11_street 34 = .ok (.getfield 133, 3) := by decide +kernel
theorem dX11_street_37 : decode cX11_street 37 = .ok (.invokevirtual 136, 3) := by decide +kernel
theorem dX11_street_40 : decode cX11_street 40 = .ok (.aload_n 0, 1) := by decide +kernel
theorem dX11_street_41 : decode cX11_street 41 = .ok (.getfield 45, 3) := by decide +kernel
theorem dX11_street_44 : decode cX11_street 44 = .ok (.aload_n 0, 1) := by decide +kernel
theorem dX11_street_45 : decode cX11_street 45 = .ok (.getfield 19, 3) := by decide +kernel
theorem dX11_street_48 : decode cX11_street 48 = .ok (.invokevirtual 140, 3) := by decide +kernel
theorem dX11_street_51 : decode cX11_street 51 = .ok (.aload_n 0, 1) := by decide +kernel
theorem dX11_street_52 : decode cX11_street 52 = .ok (.dup, 1) := by decide +kernel
theorem dX11_street_53 : decode cX11_street 53 = .ok (.getfield 96, 3) := by decide +kernel
theorem dX11_street_56 : decode cX11_street 56 = .ok (.iconst 1, 1) := by decide +kernel
theorem dX11_street_57 : decode cX11_street 57 = .ok (.iadd, 1) := by decide +kernel
theorem dX11_street_58 : decode cX11_street 58 = .ok (.putfield 96, 3) := by decide +kernel
theorem dX11_street_61 : decode cX11_street 61 = .ok (.aload_n 0, 1) := by decide +kernel
theorem dX11_street_62 : decode cX11_street 62 = .ok (.getfield 12, 3) := by decide +kernel
theorem dX11_street_65 : decode cX11_street 65 = .ok (.iconst 0, 1) := by decide +kernel
theorem dX11_street_66 : decode cX11_street 66 = .ok (.putfield 110, 3) := by decide +kernel
theorem dX11_street_69 : decode cX11_street 69 = .ok (.aload_n 0, 1) := by decide +kernel
theorem dX11_street_70 : decode cX11_street 70 = .ok (.getfield 36, 3) := by decide +kernel
theorem dX11_street_73 : decode cX11_street 73 = .ok (.getfield 144, 3) := by decide +kernel
theorem dX11_street_76 : decode cX11_street 76 = .ok (.ireturn, 1) := by decide +kernel
theorem dX11_carts_0 : decode cX11_carts 0 = .ok (.aload_n 0, 1) := by decide +kernel
theorem dX11_carts_1 : decode cX11_carts 1 = .ok (.getfield 26, 3) := by decide +kernel
theorem dX11_carts_4 : decode cX11_carts 4 = .ok (.aload_n 0, 1) := by decide +kernel
theorem dX11_carts_5 : decode cX11_carts 5 = .ok (.getfield 12, 3) := by decide +kernel
theorem dX11_carts_8 : decode cX11_carts 8 = .ok (.invokevirtual 147, 3) := by decide +kernel
theorem dX11_carts_11 : decode cX11_carts 11 = .ok (.ifCond .ne 6, 3) := by decide +kernel
theorem dX11_carts_14 : decode cX11_carts 14 = .ok (.bipush (-103), 2) := by decide +kernel
theorem dX11_carts_16 : decode cX11_carts 16 = .ok (.ireturn, 1) := by decide +kernel
theorem dX11_carts_17 : decode cX11_carts 17 = .ok (.aload_n 0, 1) := by decide +kernel
theorem dX11_carts_18 : decode cX11_carts 18 = .ok (.getfield 30, 3) := by decide +kernel
theorem dX11_carts_21 : decode cX11_carts 21 = .ok (.aload_n 0, 1) := by decide +kernel
theorem dX11_carts_22 : decode cX11_carts 22 = .ok (.getfield 26, 3) := by decide +kernel
theorem dX11_carts_25 : decode cX11_carts 25 = .ok (.invokevirtual 148, 3) := by decide +kernel
theorem dX11_carts_28 : decode cX11_carts 28 = .ok (.aload_n 0, 1) := by decide +kernel
theorem dX11_carts_29 : decode cX11_carts 29 = .ok (.getfield 12, 3) := by decide +kernel
theorem dX11_carts_32 : decode cX11_carts 32 = .ok (.iconst 0, 1) := by decide +kernel
theorem dX11_carts_33 : decode cX11_carts 33 = .ok (.putfield 110, 3) := by decide +kernel
theorem dX11_carts_36 : decode cX11_carts 36 = .ok (.aload_n 0, 1) := by decide +kernel
theorem dX11_carts_37 : decode cX11_carts 37 = .ok (.getfield 30, 3) := by decide +kernel
theorem dX11_carts_40 : decode cX11_carts 40 = .ok (.getfield 152, 3) := by decide +kernel
theorem dX11_carts_43 : decode cX11_carts 43 = .ok (.ireturn, 1) := by decide +kernel
theorem dX11_cart_0 : decode cX11_cart 0 = .ok (.iload_n 1, 1) := by decide +kernel
theorem dX11_cart_1 : decode cX11_cart 1 = .ok (.ifCond .lt 14, 3) := by decide +kernel
theorem dX11_cart_4 : decode cX11_cart 4 = .ok (.iload_n 1, 1) := by decide +kernel
theorem dX11_cart_5 : decode cX11_cart 5 = .ok (.aload_n 0, 1) := by decide +kernel
theorem dX11_cart_6 : decode cX11_cart 6 = .ok (.getfield 30, 3) := by decide +kernel
theorem dX11_cart_9 : decode cX11_cart 9 = .ok (.getfield 152, 3) := by decide +kernel
theorem dX11_cart_12 : decode cX11_cart 12 = .ok (.if_icmp .lt 6, 3) := by decide +kernel
theorem dX11_cart_15 : decode cX11_cart 15 = .ok (.bipush (-101), 2) := by decide +kernel
theorem dX11_cart_17 : decode cX11_cart 17 = .ok (.ireturn, 1) := by decide +kernel
theorem dX11_cart_18 : decode cX11_cart 18 = .ok (.iload_n 2, 1) := by decide +kernel
theorem dX11_cart_19 : decode cX11_cart 19 = .ok (.ifCond .ne 13, 3) := by decide +kernel
theorem dX11_cart_22 : decode cX11_cart 22 = .ok (.aload_n 0, 1) := by decide +kernel
theorem dX11_cart_23 : decode cX11_cart 23 = .ok (.getfield 30, 3) := by decide +kernel
theorem dX11_cart_26 : decode cX11_cart 26 = .ok (.getfield 155, 3) := by decide +kernel
theorem dX11_cart_29 : decode cX11_cart 29 = .ok (.iload_n 1, 1) := by decide +kernel
theorem dX11_cart_30 : decode cX11_cart 30 = .ok (.iaload, 1) := by decide +kernel
theorem dX11_cart_31 : decode cX11_cart 31 = .ok (.ireturn, 1) := by decide +kernel
theorem dX11_cart_32 : decode cX11_cart 32 = .ok (.iload_n 2, 1) := by decide +kernel
theorem dX11_cart_33 : decode cX11_cart 33 = .ok (.iconst 1, 1) := by decide +kernel
theorem dX11_cart_34 : decode cX11_cart 34 = .ok (.if_icmp .ne 13, 3) := by decide +kernel
theorem dX11_cart_37 : decode cX11_cart 37 = .ok (.aload_n 0, 1) := by decide +kernel
theorem dX11_cart_38 : decode cX11_cart 38 = .ok (.getfield 30, 3) := by decide +kernel
theorem dX11_cart_41 : decode cX11_cart 41 = .ok (.getfield 157, 3) := by decide +kernel
theorem dX11_cart_44 : decode cX11_cart 44 = .ok (.iload_n 1, 1) := by decide +kernel
theorem dX11_cart_45 : decode cX11_cart 45 = .ok (.iaload, 1) := by decide +kernel
theorem dX11_cart_46 : decode cX11_cart 46 = .ok (.ireturn, 1) := by decide +kernel
theorem dX11_cart_47 : decode cX11_cart 47 = .ok (.bipush (-102), 2) := by decide +kernel
theorem dX11_cart_49 : decode cX11_cart 49 = .ok (.ireturn, 1) := by decide +kernel
theorem dX11_cell_0 : decode cX11_cell 0 = .ok (.aload_n 0, 1) := by decide +kernel
theorem dX11_cell_1 : decode cX11_cell 1 = .ok (.iload_n 1, 1) := by decide +kernel
theorem dX11_cell_2 : decode cX11_cell 2 = .ok (.invokevirtual 159, 3) := by decide +kernel
theorem dX11_cell_5 : decode cX11_cell 5 = .ok (.ifCond .ne 7, 3) := by decide +kernel
theorem dX11_cell_8 : decode cX11_cell 8 = .ok (.sipush (-1001), 3) := by decide +kernel
theorem dX11_cell_11 : decode cX11_cell 11 = .ok (.ireturn, 1) := by decide +kernel
theorem dX11_cell_12 : decode cX11_cell 12 = .ok (.aload_n 0, 1) := by decide +kernel
theorem dX11_cell_13 : decode cX11_cell 13 = .ok (.getfield 45, 3) := by decide +kernel
theorem dX11_cell_16 : decode cX11_cell 16 = .ok (.iload_n 1, 1) := by decide +kernel
theorem dX11_cell_17 : decode cX11_cell 17 = .ok (.iload_n 2, 1) := by decide +kernel
theorem dX11_cell_18 : decode cX11_cell 18 = .ok (.invokevirtual 163, 3) := by decide +kernel
theorem dX11_cell_21 : decode cX11_cell 21 = .ok (.ireturn, 1) := by decide +kernel
theorem dX11_as_0 : decode cX11_as 0 = .ok (.aload_n 0, 1) := by decide +kernel
theorem dX11_as_1 : decode cX11_as 1 = .ok (.iload_n 1, 1) := by decide +kernel
theorem dX11_as_2 : decode cX11_as 2 = .ok (.invokevirtual 159, 3) := by decide +kernel
theorem dX11_as_5 : decode cX11_as 5 = .ok (.ifCond .ne 6, 3) := by decide +kernel
theorem dX11_as_8 : decode cX11_as 8 = .ok (.bipush (-101), 2) := by decide +kernel
theorem dX11_as_10 : decode cX11_as 10 = .ok (.ireturn, 1) := by decide +kernel
theorem dX11_as_11 : decode cX11_as 11 = .ok (.iload_n 2, 1) := by decide +kernel
theorem dX11_as_12 : decode cX11_as 12 = .ok (.ifCond .lt 8, 3) := by decide +kernel
theorem dX11_as_15 : decode cX11_as 15 = .ok (.iload_n 2, 1) := by decide +kernel
theorem dX11_as_16 : decode cX11_as 16 = .ok (.iconst 4, 1) := by decide +kernel
theorem dX11_as_17 : decode cX11_as 17 = .ok (.if_icmp .le 6, 3) := by decide +kernel
theorem dX11_as_20 : decode cX11_as 20 = .ok (.bipush (-102), 2) := by decide +kernel
theorem dX11_as_22 : decode cX11_as 22 = .ok (.ireturn, 1) := by decide +kernel
theorem dX11_as_23 : decode cX11_as 23 = .ok (.aload_n 0, 1) := by decide +kernel
theorem dX11_as_24 : decode cX11_as 24 = .ok (.getfield 45, 3) := by decide +kernel
theorem dX11_as_27 : decode cX11_as 27 = .ok (.iload_n 1, 1) := by decide +kernel
theorem dX11_as_28 : decode cX11_as 28 = .ok (.iload_n 2, 1) := by decide +kernel
theorem dX11_as_29 : decode cX11_as 29 = .ok (.invokevirtual 167, 3) := by decide +kernel
theorem dX11_as_32 : decode cX11_as 32 = .ok (.ifCond .eq 7, 3) := by decide +kernel
theorem dX11_as_35 : decode cX11_as 35 = .ok (.iload_n 1, 1) := by decide +kernel
theorem dX11_as_36 : decode cX11_as 36 = .ok (.goto 4, 3) := by decide +kernel
theorem dX11_as_39 : decode cX11_as 39 = .ok (.iconst (-1), 1) := by decide +kernel
theorem dX11_as_40 : decode cX11_as 40 = .ok (.ireturn, 1) := by decide +kernel
theorem dX11_set_0 : decode cX11_set 0 = .ok (.aload_n 0, 1) := by decide +kernel
theorem dX11_set_1 : decode cX11_set 1 = .ok (.invokevirtual 171, 3) := by decide +kernel
theorem dX11_set_4 : decode cX11_set 4 = .ok (.ifCond .ne 6, 3) := by decide +kernel
theorem dX11_set_7 : decode cX11_set 7 = .ok (.bipush (-103), 2) := by decide +kernel
theorem dX11_set_9 : decode cX11_set 9 = .ok (.ireturn, 1) := by decide +kernel
theorem dX11_set_10 : decode cX11_set 10 = .ok (.iload_n 1, 1) := by decide +kernel
theorem dX11_set_11 : decode cX11_set 11 = .ok (.ifCond .lt 9, 3) := by decide +kernel
theorem dX11_set_14 : decode cX11_set 14 = .ok (.iload_n 1, 1) := by decide +kernel
theorem dX11_set_15 : decode cX11_set 15 = .ok (.bipush 40, 2) := by decide +kernel
theorem dX11_set_17 : decode cX11_set 17 = .ok (.if_icmp .le 6, 3) := by decide +kernel
theorem dX11_set_20 : decode cX11_set 20 = .ok (.bipush (-102), 2) := by decide +kernel
theorem dX11_set_22 : decode cX11_set 22 = .ok (.ireturn, 1) := by decide +kernel
theorem dX11_set_23 : decode cX11_set 23 = .ok (.aload_n 0, 1) := by decide +kernel
theorem dX11_set_24 : decode cX11_set 24 = .ok (.getfield 45, 3) := by decide +kernel
theorem dX11_set_27 : decode cX11_set 27 = .ok (.iload_n 1, 1) := by decide +kernel
theorem dX11_set_28 : decode cX11_set 28 = .ok (.invokevirtual 175, 3) := by decide +kernel
theorem dX11_set_31 : decode cX11_set 31 = .ok (.aload_n 0, 1) := by decide +kernel
theorem dX11_set_32 : decode cX11_set 32 = .ok (.getfield 45, 3) := by decide +kernel
theorem dX11_set_35 : decode cX11_set 35 = .ok (.invokevirtual 178, 3) := by decide +kernel
theorem dX11_set_38 : decode cX11_set 38 = .ok (.ireturn, 1) := by decide +kernel
theorem dX11_grit_0 : decode cX11_grit 0 = .ok (.aload_n 0, 1) := by decide +kernel
theorem dX11_grit_1 : decode cX11_grit 1 = .ok (.invokevirtual 171, 3) := by decide +kernel
theorem dX11_grit_4 : decode cX11_grit 4 = .ok (.ifCond .ne 6, 3) := by decide +kernel
theorem dX11_grit_7 : decode cX11_grit 7 = .ok (.bipush (-103), 2) := by decide +kernel
theorem dX11_grit_9 : decode cX11_grit 9 = .ok (.ireturn, 1) := by decide +kernel
theorem dX11_grit_10 : decode cX11_grit 10 = .ok (.iload_n 1, 1) := by decide +kernel
theorem dX11_grit_11 : decode cX11_grit 11 = .ok (.ifCond .lt 9, 3) := by decide +kernel
theorem dX11_grit_14 : decode cX11_grit 14 = .ok (.iload_n 1, 1) := by decide +kernel
theorem dX11_grit_15 : decode cX11_grit 15 = .ok (.bipush 9, 2) := by decide +kernel
theorem dX11_grit_17 : decode cX11_grit 17 = .ok (.if_icmp .le 6, 3) := by decide +kernel
theorem dX11_grit_20 : decode cX11_grit 20 = .ok (.bipush (-102), 2) := by decide +kernel
theorem dX11_grit_22 : decode cX11_grit 22 = .ok (.ireturn, 1) := by decide +kernel
theorem dX11_grit_23 : decode cX11_grit 23 = .ok (.aload_n 0, 1) := by decide +kernel
theorem dX11_grit_24 : decode cX11_grit 24 = .ok (.getfield 45, 3) := by decide +kernel
theorem dX11_grit_27 : decode cX11_grit 27 = .ok (.iload_n 1, 1) := by decide +kernel
theorem dX11_grit_28 : decode cX11_grit 28 = .ok (.invokevirtual 182, 3) := by decide +kernel
theorem dX11_grit_31 : decode cX11_grit 31 = .ok (.aload_n 0, 1) := by decide +kernel
theorem dX11_grit_32 : decode cX11_grit 32 = .ok (.getfield 45, 3) := by decide +kernel
theorem dX11_grit_35 : decode cX11_grit 35 = .ok (.invokevirtual 178, 3) := by decide +kernel
theorem dX11_grit_38 : decode cX11_grit 38 = .ok (.ireturn, 1) := by decide +kernel
theorem dX11_blow_0 : decode cX11_blow 0 = .ok (.aload_n 0, 1) := by decide +kernel
theorem dX11_blow_1 : decode cX11_blow 1 = .ok (.iload_n 1, 1) := by decide +kernel
theorem dX11_blow_2 : decode cX11_blow 2 = .ok (.invokevirtual 185, 3) := by decide +kernel
theorem dX11_blow_5 : decode cX11_blow 5 = .ok (.ifCond .ne 6, 3) := by decide +kernel
theorem dX11_blow_8 : decode cX11_blow 8 = .ok (.bipush (-101), 2) := by decide +kernel
theorem dX11_blow_10 : decode cX11_blow 10 = .ok (.ireturn, 1) := by decide +kernel
theorem dX11_blow_11 : decode cX11_blow 11 = .ok (.iload_n 2, 1) := by decide +kernel
theorem dX11_blow_12 : decode cX11_blow 12 = .ok (.invokestatic 188, 3) := by decide +kernel
theorem dX11_blow_15 : decode cX11_blow 15 = .ok (.ifCond .ne 6, 3) := by decide +kernel
theorem dX11_blow_18 : decode cX11_blow 18 = .ok (.bipush (-102), 2) := by decide +kernel
theorem dX11_blow_20 : decode cX11_blow 20 = .ok (.ireturn, 1) := by decide +kernel
theorem dX11_blow_21 : decode cX11_blow 21 = .ok (.aload_n 0, 1) := by decide +kernel
theorem dX11_blow_22 : decode cX11_blow 22 = .ok (.getfield 45, 3) := by decide +kernel
theorem dX11_blow_25 : decode cX11_blow 25 = .ok (.iload_n 1, 1) := by decide +kernel
theorem dX11_blow_26 : decode cX11_blow 26 = .ok (.iload_n 2, 1) := by decide +kernel
theorem dX11_blow_27 : decode cX11_blow 27 = .ok (.invokevirtual 191, 3) := by decide +kernel
theorem dX11_blow_30 : decode cX11_blow 30 = .ok (.ireturn, 1) := by decide +kernel
theorem dX11_ram_0 : decode cX11_ram 0 = .ok (.aload_n 0, 1) := by decide +kernel
theorem dX11_ram_1 : decode cX11_ram 1 = .ok (.invokevirtual 171, 3) := by decide +kernel
theorem dX11_ram_4 : decode cX11_ram 4 = .ok (.ifCond .ne 6, 3) := by decide +kernel
theorem dX11_ram_7 : decode cX11_ram 7 = .ok (.bipush (-103), 2) := by decide +kernel
theorem dX11_ram_9 : decode cX11_ram 9 = .ok (.ireturn, 1) := by decide +kernel
theorem dX11_ram_10 : decode cX11_ram 10 = .ok (.iload_n 1, 1) := by decide +kernel
theorem dX11_ram_11 : decode cX11_ram 11 = .ok (.invokestatic 188, 3) := by decide +kernel
theorem dX11_ram_14 : decode cX11_ram 14 = .ok (.ifCond .eq 21, 3) := by decide +kernel
theorem dX11_ram_17 : decode cX11_ram 17 = .ok (.iload_n 2, 1) := by decide +kernel
theorem dX11_ram_18 : decode cX11_ram 18 = .ok (.iconst 1, 1) := by decide +kernel
theorem dX11_ram_19 : decode cX11_ram 19 = .ok (.if_icmp .lt 16, 3) := by decide +kernel
theorem dX11_ram_22 : decode cX11_ram 22 = .ok (.iload_n 2, 1) := by decide +kernel
theorem dX11_ram_23 : decode cX11_ram 23 = .ok (.bipush 40, 2) := by decide +kernel
theorem dX11_ram_25 : decode cX11_ram 25 = .ok (.if_icmp .gt 10, 3) := by decide +kernel
theorem dX11_ram_28 : decode cX11_ram 28 = .ok (.iload_n 3, 1) := by decide +kernel
theorem dX11_ram_29 : decode cX11_ram 29 = .ok (.invokestatic 194, 3) := by decide +kernel
theorem dX11_ram_32 : decode cX11_ram 32 = .ok (.ifCond .ne 6, 3) := by decide +kernel
theorem dX11_ram_35 : decode cX11_ram 35 = .ok (.bipush (-102), 2) := by decide +kernel
theorem dX11_ram_37 : decode cX11_ram 37 = .ok (.ireturn, 1) := by decide +kernel
theorem dX11_ram_38 : decode cX11_ram 38 = .ok (.aload_n 0, 1) := by decide +kernel
theorem dX11_ram_39 : decode cX11_ram 39 = .ok (.getfield 58, 3) := by decide +kernel
theorem dX11_ram_42 : decode cX11_ram 42 = .ok (.aload_n 0, 1) := by decide +kernel
theorem dX11_ram_43 : decode cX11_ram 43 = .ok (.getfield 45, 3) := by decide +kernel
theorem dX11_ram_46 : decode cX11_ram 46 = .ok (.iload_n 1, 1) := by decide +kernel
theorem dX11_ram_47 : decode cX11_ram 47 = .ok (.iload_n 2, 1) := by decide +kernel
theorem dX11_ram_48 : decode cX11_ram 48 = .ok (.iload_n 3, 1) := by decide +kernel
theorem dX11_ram_49 : decode cX11_ram 49 = .ok (.invokevirtual 197, 3) := by decide +kernel
theorem dX11_ram_52 : decode cX11_ram 52 = .ok (.ireturn, 1) := by decide +kernel
theorem dX11_rings_0 : decode cX11_rings 0 = .ok (.aload_n 0, 1) := by decide +kernel
theorem dX11_rings_1 : decode cX11_rings 1 = .ok (.invokevirtual 171, 3) := by decide +kernel
theorem dX11_rings_4 : decode cX11_rings 4 = .ok (.ifCond .ne 6, 3) := by decide +kernel
theorem dX11_rings_7 : decode cX11_rings 7 = .ok (.bipush (-103), 2) := by decide +kernel
theorem dX11_rings_9 : decode cX11_rings 9 = .ok (.ireturn, 1) := by decide +kernel
theorem dX11_rings_10 : decode cX11_rings 10 = .ok (.iload_n 1, 1) := by decide +kernel
theorem dX11_rings_11 : decode cX11_rings 11 = .ok (.invokestatic 188, 3) := by decide +kernel
theorem dX11_rings_14 : decode cX11_rings 14 = .ok (.ifCond .ne 6, 3) := by decide +kernel
theorem dX11_rings_17 : decode cX11_rings 17 = .ok (.bipush (-102), 2) := by decide +kernel
theorem dX11_rings_19 : decode cX11_rings 19 = .ok (.ireturn, 1) := by decide +kernel
theorem dX11_rings_20 : decode cX11_rings 20 = .ok (.aload_n 0, 1) := by decide +kernel
theorem dX11_rings_21 : decode cX11_rings 21 = .ok (.getfield 45, 3) := by decide +kernel
theorem dX11_rings_24 : decode cX11_rings 24 = .ok (.iload_n 1, 1) := by decide +kernel
theorem dX11_rings_25 : decode cX11_rings 25 = .ok (.invokevirtual 201, 3) := by decide +kernel
theorem dX11_rings_28 : decode cX11_rings 28 = .ok (.ireturn, 1) := by decide +kernel
theorem dX11_proud_0 : decode cX11_proud 0 = .ok (.aload_n 0, 1) := by decide +kernel
theorem dX11_proud_1 : decode cX11_proud 1 = .ok (.iload_n 1, 1) := by decide +kernel
theorem dX11_proud_2 : decode cX11_proud 2 = .ok (.invokevirtual 185, 3) := by decide +kernel
theorem dX11_proud_5 : decode cX11_proud 5 = .ok (.ifCond .ne 6, 3) := by decide +kernel
theorem dX11_proud_8 : decode cX11_proud 8 = .ok (.bipush (-101), 2) := by decide +kernel
theorem dX11_proud_10 : decode cX11_proud 10 = .ok (.ireturn, 1) := by decide +kernel
theorem dX11_proud_11 : decode cX11_proud 11 = .ok (.iload_n 2, 1) := by decide +kernel
theorem dX11_proud_12 : decode cX11_proud 12 = .ok (.invokestatic 188, 3) := by decide +kernel
theorem dX11_proud_15 : decode cX11_proud 15 = .ok (.ifCond .eq 21, 3) := by decide +kernel
theorem dX11_proud_18 : decode cX11_proud 18 = .ok (.iload_n 3, 1) := by decide +kernel
theorem dX11_proud_19 : decode cX11_proud 19 = .ok (.ifCond .lt 17, 3) := by decide +kernel
theorem dX11_proud_22 : decode cX11_proud 22 = .ok (.iload_n 3, 1) := by decide +kernel
theorem dX11_proud_23 : decode cX11_proud 23 = .ok (.bipush 40, 2) := by decide +kernel
theorem dX11_proud_25 : decode cX11_proud 25 = .ok (.if_icmp .gt 11, 3) := by decide +kernel
theorem dX11_proud_28 : decode cX11_proud 28 = .ok (.iload 4, 2) := by decide +kernel
theorem dX11_proud_30 : decode cX11_proud 30 = .ok (.invokestatic 194, 3) := by decide +kernel
theorem dX11_proud_33 : decode cX11_proud 33 = .ok (.ifCond .ne 6, 3) := by decide +kernel
theorem dX11_proud_36 : decode cX11_proud 36 = .ok (.bipush (-102), 2) := by decide +kernel
theorem dX11_proud_38 : decode cX11_proud 38 = .ok (.ireturn, 1) := by decide +kernel
theorem dX11_proud_39 : decode cX11_proud 39 = .ok (.aload_n 0, 1) := by decide +kernel
theorem dX11_proud_40 : decode cX11_proud 40 = .ok (.getfield 49, 3) := by decide +kernel
theorem dX11_proud_43 : decode cX11_proud 43 = .ok (.aload_n 0, 1) := by decide +kernel
theorem dX11_proud_44 : decode cX11_proud 44 = .ok (.getfield 45, 3) := by decide +kernel
theorem dX11_proud_47 : decode cX11_proud 47 = .ok (.invokevirtual 205, 3) := by decide +kernel
theorem dX11_proud_50 : decode cX11_proud 50 = .ok (.aload_n 0, 1) := by decide +kernel
theorem dX11_proud_51 : decode cX11_proud 51 = .ok (.getfield 58, 3) := by decide +kernel
theorem dX11_proud_54 : decode cX11_proud 54 = .ok (.aload_n 0, 1) := by decide +kernel
theorem dX11_proud_55 : decode cX11_proud 55 = .ok (.getfield 49, 3) := by decide +kernel
theorem dX11_proud_58 : decode cX11_proud 58 = .ok (.iload_n 2, 1) := by decide +kernel
theorem dX11_proud_59 : decode cX11_proud 59 = .ok (.iload_n 3, 1) := by decide +kernel
theorem dX11_proud_60 : decode cX11_proud 60 = .ok (.iload 4, 2) := by decide +kernel
theorem dX11_proud_62 : decode cX11_proud 62 = .ok (.invokevirtual 197, 3) := by decide +kernel
theorem dX11_proud_65 : decode cX11_proud 65 = .ok (.pop, 1) := by decide +kernel
theorem dX11_proud_66 : decode cX11_proud 66 = .ok (.aload_n 0, 1) := by decide +kernel
theorem dX11_proud_67 : decode cX11_proud 67 = .ok (.getfield 45, 3) := by decide +kernel
theorem dX11_proud_70 : decode cX11_proud 70 = .ok (.getfield 208, 3) := by decide +kernel
theorem dX11_proud_73 : decode cX11_proud 73 = .ok (.iload_n 1, 1) := by decide +kernel
theorem dX11_proud_74 : decode cX11_proud 74 = .ok (.iaload, 1) := by decide +kernel
theorem dX11_proud_75 : decode cX11_proud 75 = .ok (.aload_n 0, 1) := by decide +kernel
theorem dX11_proud_76 : decode cX11_proud 76 = .ok (.getfield 49, 3) := by decide +kernel
theorem dX11_proud_79 : decode cX11_proud 79 = .ok (.getfield 208, 3) := by decide +kernel
theorem dX11_proud_82 : decode cX11_proud 82 = .ok (.iload_n 1, 1) := by decide +kernel
theorem dX11_proud_83 : decode cX11_proud 83 = .ok (.iaload, 1) := by decide +kernel
theorem dX11_proud_84 : decode cX11_proud 84 = .ok (.isub, 1) := by decide +kernel
theorem dX11_proud_85 : decode cX11_proud 85 = .ok (.ireturn, 1) := by decide +kernel
theorem dX11_until_0 : decode cX11_until 0 = .ok (.aload_n 0, 1) := by decide +kernel
theorem dX11_until_1 : decode cX11_until 1 = .ok (.invokevirtual 171, 3) := by decide +kernel
theorem dX11_until_4 : decode cX11_until 4 = .ok (.ifCond .ne 6, 3) := by decide +kernel
theorem dX11_until_7 : decode cX11_until 7 = .ok (.bipush (-103), 2) := by decide +kernel
theorem dX11_until_9 : decode cX11_until 9 = .ok (.ireturn, 1) := by decide +kernel
theorem dX11_until_10 : decode cX11_until 10 = .ok (.iload_n 1, 1) := by decide +kernel
theorem dX11_until_11 : decode cX11_until 11 = .ok (.invokestatic 188, 3) := by decide +kernel
theorem dX11_until_14 : decode cX11_until 14 = .ok (.ifCond .eq 10, 3) := by decide +kernel
theorem dX11_until_17 : decode cX11_until 17 = .ok (.iload_n 2, 1) := by decide +kernel
theorem dX11_until_18 : decode cX11_until 18 = .ok (.invokestatic 194, 3) := by decide +kernel
theorem dX11_until_21 : decode cX11_until 21 = .ok (.ifCond .ne 6, 3) := by decide +kernel
theorem dX11_until_24 : decode cX11_until 24 = .ok (.bipush (-102), 2) := by decide +kernel
theorem dX11_until_26 : decode cX11_until 26 = .ok (.ireturn, 1) := by decide +kernel
theorem dX11_until_27 : decode cX11_until 27 = .ok (.aload_n 0, 1) := by decide +kernel
theorem dX11_until_28 : decode cX11_until 28 = .ok (.getfield 49, 3) := by decide +kernel
theorem dX11_until_31 : decode cX11_until 31 = .ok (.aload_n 0, 1) := by decide +kernel
theorem dX11_until_32 : decode cX11_until 32 = .ok (.getfield 45, 3) := by decide +kernel
theorem dX11_until_35 : decode cX11_until 35 = .ok (.invokevirtual 205, 3) := by decide +kernel
theorem dX11_until_38 : decode cX11_until 38 = .ok (.aload_n 0, 1) := by decide +kernel
theorem dX11_until_39 : decode cX11_until 39 = .ok (.getfield 58, 3) := by decide +kernel
theorem dX11_until_42 : decode cX11_until 42 = .ok (.aload_n 0, 1) := by decide +kernel
theorem dX11_until_43 : decode cX11_until 43 = .ok (.getfield 49, 3) := by decide +kernel
theorem dX11_until_46 : decode cX11_until 46 = .ok (.iload_n 1, 1) := by decide +kernel
theorem dX11_until_47 : decode cX11_until 47 = .ok (.iload_n 2, 1) := by decide +kernel
theorem dX11_until_48 : decode cX11_until 48 = .ok (.invokevirtual 211, 3) := by decide +kernel
theorem dX11_until_51 : decode cX11_until 51 = .ok (.ireturn, 1) := by decide +kernel
theorem dX11_uneven_0 : decode cX11_uneven 0 = .ok (.aload_n 0, 1) := by decide +kernel
theorem dX11_uneven_1 : decode cX11_uneven 1 = .ok (.invokevirtual 171, 3) := by decide +kernel
theorem dX11_uneven_4 : decode cX11_uneven 4 = .ok (.ifCond .eq 13, 3) := by decide +kernel
theorem dX11_uneven_7 : decode cX11_uneven 7 = .ok (.aload_n 0, 1) := by decide +kernel
theorem dX11_uneven_8 : decode cX11_uneven 8 = .ok (.getfield 45, 3) := by decide +kernel
theorem dX11_uneven_11 : decode cX11_uneven 11 = .ok (.invokevirtual 215, 3) := by decide +kernel
theorem dX11_uneven_14 : decode cX11_uneven 14 = .ok (.goto 5, 3) := by decide +kernel
theorem dX11_uneven_17 : decode cX11_uneven 17 = .ok (.bipush (-103), 2) := by decide +kernel
theorem dX11_uneven_19 : decode cX11_uneven 19 = .ok (.ireturn, 1) := by decide +kernel
theorem dX11_evenest_0 : decode cX11_evenest 0 = .ok (.aload_n 0, 1) := by decide +kernel
theorem dX11_evenest_1 : decode cX11_evenest 1 = .ok (.invokevirtual 171, 3) := by decide +kernel
theorem dX11_evenest_4 : decode cX11_evenest 4 = .ok (.ifCond .ne 6, 3) := by decide +kernel
theorem dX11_evenest_7 : decode cX11_evenest 7 = .ok (.bipush (-103), 2) := by decide +kernel
theorem dX11_evenest_9 : decode cX11_evenest 9 = .ok (.ireturn, 1) := by decide +kernel
theorem dX11_evenest_10 : decode cX11_evenest 10 = .ok (.iload_n 1, 1) := by decide +kernel
theorem dX11_evenest_11 : decode cX11_evenest 11 = .ok (.invokestatic 188, 3) := by decide +kernel
theorem dX11_evenest_14 : decode cX11_evenest 14 = .ok (.ifCond .eq 13, 3) := by decide +kernel
theorem dX11_evenest_17 : decode cX11_evenest 17 = .ok (.iload_n 2, 1) := by decide +kernel
theorem dX11_evenest_18 : decode cX11_evenest 18 = .ok (.ifCond .lt 9, 3) := by decide +kernel
theorem dX11_evenest_21 : decode cX11_evenest 21 = .ok (.iload_n 2, 1) := by decide +kernel
theorem dX11_evenest_22 : decode cX11_evenest 22 = .ok (.bipush 40, 2) := by decide +kernel
theorem dX11_evenest_24 : decode cX11_evenest 24 = .ok (.if_icmp .le 6, 3) := by decide +kernel
theorem dX11_evenest_27 : decode cX11_evenest 27 = .ok (.bipush (-102), 2) := by decide +kernel
theorem dX11_evenest_29 : decode cX11_evenest 29 = .ok (.ireturn, 1) := by decide +kernel
theorem dX11_evenest_30 : decode cX11_evenest 30 = .ok (.iconst 0, 1) := by decide +kernel
theorem dX11_evenest_31 : decode cX11_evenest 31 = .ok (.istore_n 3, 1) := by decide +kernel
theorem dX11_evenest_32 : decode cX11_evenest 32 = .ok (.ldc 218, 2) := by decide +kernel
theorem dX11_evenest_34 : decode cX11_evenest 34 = .ok (.istore 4, 2) := by decide +kernel
theorem dX11_evenest_36 : decode cX11_evenest 36 = .ok (.iconst 0, 1) := by decide +kernel
theorem dX11_evenest_37 : decode cX11_evenest 37 = .ok (.istore 5, 2) := by decide +kernel
theorem dX11_evenest_39 : decode cX11_evenest 39 = .ok (.iload 5, 2) := by decide +kernel
theorem dX11_evenest_41 : decode cX11_evenest 41 = .ok (.iconst 4, 1) := by decide +kernel
theorem dX11_evenest_42 : decode cX11_evenest 42 = .ok (.if_icmp .ge 59, 3) := by decide +kernel
theorem dX11_evenest_45 : decode cX11_evenest 45 = .ok (.aload_n 0, 1) := by decide +kernel
theorem dX11_evenest_46 : decode cX11_evenest 46 = .ok (.getfield 49, 3) := by decide +kernel
theorem dX11_evenest_49 : decode cX11_evenest 49 = .ok (.aload_n 0, 1) := by decide +kernel
theorem dX11_evenest_50 : decode cX11_evenest 50 = .ok (.getfield 45, 3) := by decide +kernel
theorem dX11_evenest_53 : decode cX11_evenest 53 = .ok (.invokevirtual 205, 3) := by decide +kernel
theorem dX11_evenest_56 : decode cX11_evenest 56 = .ok (.aload_n 0, 1) := by decide +kernel
theorem dX11_evenest_57 : decode cX11_evenest 57 = .ok (.getfield 58, 3) := by decide +kernel
theorem dX11_evenest_60 : decode cX11_evenest 60 = .ok (.aload_n 0, 1) := by decide +kernel
theorem dX11_evenest_61 : decode cX11_evenest 61 = .ok (.getfield 49, 3) := by decide +kernel
theorem dX11_evenest_64 : decode cX11_evenest 64 = .ok (.iload_n 1, 1) := by decide +kernel
theorem dX11_evenest_65 : decode cX11_evenest 65 = .ok (.iload_n 2, 1) := by decide +kernel
theorem dX11_evenest_66 : decode cX11_evenest 66 = .ok (.iload 5, 2) := by decide +kernel
theorem dX11_evenest_68 : decode cX11_evenest 68 = .ok (.invokevirtual 197, 3) := by decide +kernel
theorem dX11_evenest_71 : decode cX11_evenest 71 = .ok (.pop, 1) := by decide +kernel
theorem dX11_evenest_72 : decode cX11_evenest 72 = .ok (.aload_n 0, 1) := by decide +kernel
theorem dX11_evenest_73 : decode cX11_evenest 73 = .ok (.getfield 49, 3) := by decide +kernel
theorem dX11_evenest_76 : decode cX11_evenest 76 = .ok (.invokevirtual 215, 3) := by decide +kernel
theorem dX11_evenest_79 : decode cX11_evenest 79 = .ok (.istore 6, 2) := by decide +kernel
theorem dX11_evenest_81 : decode cX11_evenest 81 = .ok (.iload 6, 2) := by decide +kernel
theorem dX11_evenest_83 : decode cX11_evenest 83 = .ok (.iload 4, 2) := by decide +kernel
theorem dX11_evenest_85 : decode cX11_evenest 85 = .ok (.if_icmp .ge 10, 3) := by decide +kernel
theorem dX11_evenest_88 : decode cX11_evenest 88 = .ok (.iload 6, 2) := by decide +kernel
theorem dX11_evenest_90 : decode cX11_evenest 90 = .ok (.istore 4, 2) := by decide +kernel
theorem dX11_evenest_92 : decode cX11_evenest 92 = .ok (.iload 5, 2) := by decide +kernel
theorem dX11_evenest_94 : decode cX11_evenest 94 = .ok (.istore_n 3, 1) := by decide +kernel
theorem dX11_evenest_95 : decode cX11_evenest 95 = .ok (.iinc 5 1, 3) := by decide +kernel
theorem dX11_evenest_98 : decode cX11_evenest 98 = .ok (.goto (-59), 3) := by decide +kernel
theorem dX11_evenest_101 : decode cX11_evenest 101 = .ok (.iload_n 3, 1) := by decide +kernel
theorem dX11_evenest_102 : decode cX11_evenest 102 = .ok (.ireturn, 1) := by decide +kernel
theorem dX11_borne_0 : decode cX11_borne 0 = .ok (.aload_n 0, 1) := by decide +kernel
theorem dX11_borne_1 : decode cX11_borne 1 = .ok (.iload_n 1, 1) := by decide +kernel
theorem dX11_borne_2 : decode cX11_borne 2 = .ok (.invokevirtual 159, 3) := by decide +kernel
theorem dX11_borne_5 : decode cX11_borne 5 = .ok (.ifCond .eq 11, 3) := by decide +kernel
theorem dX11_borne_8 : decode cX11_borne 8 = .ok (.aload_n 0, 1) := by decide +kernel
theorem dX11_borne_9 : decode cX11_borne 9 = .ok (.iload_n 3, 1) := by decide +kernel
theorem dX11_borne_10 : decode cX11_borne 10 = .ok (.invokevirtual 159, 3) := by decide +kernel
theorem dX11_borne_13 : decode cX11_borne 13 = .ok (.ifCond .ne 6, 3) := by decide +kernel
theorem dX11_borne_16 : decode cX11_borne 16 = .ok (.bipush (-101), 2) := by decide +kernel
theorem dX11_borne_18 : decode cX11_borne 18 = .ok (.ireturn, 1) := by decide +kernel
theorem dX11_borne_19 : decode cX11_borne 19 = .ok (.iload_n 2, 1) := by decide +kernel
theorem dX11_borne_20 : decode cX11_borne 20 = .ok (.invokestatic 219, 3) := by decide +kernel
theorem dX11_borne_23 : decode cX11_borne 23 = .ok (.ifCond .ne 6, 3) := by decide +kernel
theorem dX11_borne_26 : decode cX11_borne 26 = .ok (.bipush (-102), 2) := by decide +kernel
theorem dX11_borne_28 : decode cX11_borne 28 = .ok (.ireturn, 1) := by decide +kernel
theorem dX11_borne_29 : decode cX11_borne 29 = .ok (.aload_n 0, 1) := by decide +kernel
theorem dX11_borne_30 : decode cX11_borne 30 = .ok (.getfield 65, 3) := by decide +kernel
theorem dX11_borne_33 : decode cX11_borne 33 = .ok (.aload_n 0, 1) := by decide +kernel
theorem dX11_borne_34 : decode cX11_borne 34 = .ok (.getfield 45, 3) := by decide +kernel
theorem dX11_borne_37 : decode cX11_borne 37 = .ok (.invokevirtual 222, 3) := by decide +kernel
theorem dX11_borne_40 : decode cX11_borne 40 = .ok (.aload_n 0, 1) := by decide +kernel
theorem dX11_borne_41 : decode cX11_borne 41 = .ok (.getfield 65, 3) := by decide +kernel
theorem dX11_borne_44 : decode cX11_borne 44 = .ok (.iload_n 1, 1) := by decide +kernel
theorem dX11_borne_45 : decode cX11_borne 45 = .ok (.iload_n 2, 1) := by decide +kernel
theorem dX11_borne_46 : decode cX11_borne 46 = .ok (.invokevirtual 225, 3) := by decide +kernel
theorem dX11_borne_49 : decode cX11_borne 49 = .ok (.aload_n 0, 1) := by decide +kernel
theorem dX11_borne_50 : decode cX11_borne 50 = .ok (.getfield 65, 3) := by decide +kernel
theorem dX11_borne_53 : decode cX11_borne 53 = .ok (.getfield 228, 3) := by decide +kernel
theorem dX11_borne_56 : decode cX11_borne 56 = .ok (.iload_n 3, 1) := by decide +kernel
theorem dX11_borne_57 : decode cX11_borne 57 = .ok (.iaload, 1) := by decide +kernel
theorem dX11_borne_58 : decode cX11_borne 58 = .ok (.ireturn, 1) := by decide +kernel
theorem dX11_bearer_0 : decode cX11_bearer 0 = .ok (.aload_n 0, 1) := by decide +kernel
theorem dX11_bearer_1 : decode cX11_bearer 1 = .ok (.iload_n 1, 1) := by decide +kernel
theorem dX11_bearer_2 : decode cX11_bearer 2 = .ok (.invokevirtual 159, 3) := by decide +kernel
theorem dX11_bearer_5 : decode cX11_bearer 5 = .ok (.ifCond .ne 6, 3) := by decide +kernel
theorem dX11_bearer_8 : decode cX11_bearer 8 = .ok (.bipush (-101), 2) := by decide +kernel
theorem dX11_bearer_10 : decode cX11_bearer 10 = .ok (.ireturn, 1) := by decide +kernel
theorem dX11_bearer_11 : decode cX11_bearer 11 = .ok (.iload_n 2, 1) := by decide +kernel
theorem dX11_bearer_12 : decode cX11_bearer 12 = .ok (.invokestatic 219, 3) := by decide +kernel
theorem dX11_bearer_15 : decode cX11_bearer 15 = .ok (.ifCond .ne 6, 3) := by decide +kernel
theorem dX11_bearer_18 : decode cX11_bearer 18 = .ok (.bipush (-102), 2) := by decide +kernel
theorem dX11_bearer_20 : decode cX11_bearer 20 = .ok (.ireturn, 1) := by decide +kernel
theorem dX11_bearer_21 : decode cX11_bearer 21 = .ok (.aload_n 0, 1) := by decide +kernel
theorem dX11_bearer_22 : decode cX11_bearer 22 = .ok (.getfield 65, 3) := by decide +kernel
theorem dX11_bearer_25 : decode cX11_bearer 25 = .ok (.aload_n 0, 1) := by decide +kernel
theorem dX11_bearer_26 : decode cX11_bearer 26 = .ok (.getfield 45, 3) := by decide +kernel
theorem dX11_bearer_29 : decode cX11_bearer 29 = .ok (.invokevirtual 222, 3) := by decide +kernel
theorem dX11_bearer_32 : decode cX11_bearer 32 = .ok (.aload_n 0, 1) := by decide +kernel
theorem dX11_bearer_33 : decode cX11_bearer 33 = .ok (.getfield 65, 3) := by decide +kernel
theorem dX11_bearer_36 : decode cX11_bearer 36 = .ok (.iload_n 1, 1) := by decide +kernel
theorem dX11_bearer_37 : decode cX11_bearer 37 = .ok (.iload_n 2, 1) := by decide +kernel
theorem dX11_bearer_38 : decode cX11_bearer 38 = .ok (.invokevirtual 225, 3) := by decide +kernel
theorem dX11_bearer_41 : decode cX11_bearer 41 = .ok (.aload_n 0, 1) := by decide +kernel
theorem dX11_bearer_42 : decode cX11_bearer 42 = .ok (.getfield 65, 3) := by decide +kernel
theorem dX11_bearer_45 : decode cX11_bearer 45 = .ok (.invokevirtual 231, 3) := by decide +kernel
theorem dX11_bearer_48 : decode cX11_bearer 48 = .ok (.ireturn, 1) := by decide +kernel
theorem dX11_water_0 : decode cX11_water 0 = .ok (.aload_n 0, 1) := by decide +kernel
theorem dX11_water_1 : decode cX11_water 1 = .ok (.iload_n 1, 1) := by decide +kernel
theorem dX11_water_2 : decode cX11_water 2 = .ok (.invokevirtual 159, 3) := by decide +kernel
theorem dX11_water_5 : decode cX11_water 5 = .ok (.ifCond .ne 6, 3) := by decide +kernel
theorem dX11_water_8 : decode cX11_water 8 = .ok (.bipush (-101), 2) := by decide +kernel
theorem dX11_water_10 : decode cX11_water 10 = .ok (.ireturn, 1) := by decide +kernel
theorem dX11_water_11 : decode cX11_water 11 = .ok (.aload_n 0, 1) := by decide +kernel
theorem dX11_water_12 : decode cX11_water 12 = .ok (.getfield 72, 3) := by decide +kernel
theorem dX11_water_15 : decode cX11_water 15 = .ok (.aload_n 0, 1) := by decide +kernel
theorem dX11_water_16 : decode cX11_water 16 = .ok (.getfield 45, 3) := by decide +kernel
theorem dX11_water_19 : decode cX11_water 19 = .ok (.invokevirtual 234, 3) := by decide +kernel
theorem dX11_water_22 : decode cX11_water 22 = .ok (.aload_n 0, 1) := by decide +kernel
theorem dX11_water_23 : decode cX11_water 23 = .ok (.getfield 72, 3) := by decide +kernel
theorem dX11_water_26 : decode cX11_water 26 = .ok (.aload_n 0, 1) := by decide +kernel
theorem dX11_water_27 : decode cX11_water 27 = .ok (.getfield 45, 3) := by decide +kernel
theorem dX11_water_30 : decode cX11_water 30 = .ok (.iload_n 1, 1) := by decide +kernel
theorem dX11_water_31 : decode cX11_water 31 = .ok (.invokevirtual 237, 3) := by decide +kernel
theorem dX11_water_34 : decode cX11_water 34 = .ok (.ireturn, 1) := by decide +kernel
theorem dX11_seed_0 : decode cX11_seed 0 = .ok (.iload_n 1, 1) := by decide +kernel
theorem dX11_seed_1 : decode cX11_seed 1 = .ok (.ifCond .ge 6, 3) := by decide +kernel
theorem dX11_seed_4 : decode cX11_seed 4 = .ok (.bipush (-102), 2) := by decide +kernel
theorem dX11_seed_6 : decode cX11_seed 6 = .ok (.ireturn, 1) := by decide +kernel
theorem dX11_seed_7 : decode cX11_seed 7 = .ok (.aload_n 0, 1) := by decide +kernel
theorem dX11_seed_8 : decode cX11_seed 8 = .ok (.getfield 45, 3) := by decide +kernel
theorem dX11_seed_11 : decode cX11_seed 11 = .ok (.getfield 241, 3) := by decide +kernel
theorem dX11_seed_14 : decode cX11_seed 14 = .ok (.istore_n 2, 1) := by decide +kernel
theorem dX11_seed_15 : decode cX11_seed 15 = .ok (.aload_n 0, 1) := by decide +kernel
theorem dX11_seed_16 : decode cX11_seed 16 = .ok (.getfield 45, 3) := by decide +kernel
theorem dX11_seed_19 : decode cX11_seed 19 = .ok (.iload_n 1, 1) := by decide +kernel
theorem dX11_seed_20 : decode cX11_seed 20 = .ok (.putfield 241, 3) := by decide +kernel
theorem dX11_seed_23 : decode cX11_seed 23 = .ok (.iload_n 2, 1) := by decide +kernel
theorem dX11_seed_24 : decode cX11_seed 24 = .ok (.ireturn, 1) := by decide +kernel
theorem dX11_years_0 : decode cX11_years 0 = .ok (.aload_n 0, 1) := by decide +kernel
theorem dX11_years_1 : decode cX11_years 1 = .ok (.invokevirtual 244, 3) := by decide +kernel
theorem dX11_years_4 : decode cX11_years 4 = .ok (.ifCond .ne 6, 3) := by decide +kernel
theorem dX11_years_7 : decode cX11_years 7 = .ok (.bipush (-103), 2) := by decide +kernel
theorem dX11_years_9 : decode cX11_years 9 = .ok (.ireturn, 1) := by decide +kernel
theorem dX11_years_10 : decode cX11_years 10 = .ok (.iload_n 1, 1) := by decide +kernel
theorem dX11_years_11 : decode cX11_years 11 = .ok (.iload_n 2, 1) := by decide +kernel
theorem dX11_years_12 : decode cX11_years 12 = .ok (.invokestatic 247, 3) := by decide +kernel
theorem dX11_years_15 : decode cX11_years 15 = .ok (.ifCond .ne 6, 3) := by decide +kernel
theorem dX11_years_18 : decode cX11_years 18 = .ok (.bipush (-102), 2) := by decide +kernel
theorem dX11_years_20 : decode cX11_years 20 = .ok (.ireturn, 1) := by decide +kernel
theorem dX11_years_21 : decode cX11_years 21 = .ok (.aload_n 0, 1) := by decide +kernel
theorem dX11_years_22 : decode cX11_years 22 = .ok (.getfield 81, 3) := by decide +kernel
theorem dX11_years_25 : decode cX11_years 25 = .ok (.aload_n 0, 1) := by decide +kernel
theorem dX11_years_26 : decode cX11_years 26 = .ok (.getfield 45, 3) := by decide +kernel
theorem dX11_years_29 : decode cX11_years 29 = .ok (.aload_n 0, 1) := by decide +kernel
theorem dX11_years_30 : decode cX11_years 30 = .ok (.getfield 30, 3) := by decide +kernel
theorem dX11_years_33 : decode cX11_years 33 = .ok (.iload_n 1, 1) := by decide +kernel
theorem dX11_years_34 : decode cX11_years 34 = .ok (.iload_n 2, 1) := by decide +kernel
theorem dX11_years_35 : decode cX11_years 35 = .ok (.invokevirtual 250, 3) := by decide +kernel
theorem dX11_years_38 : decode cX11_years 38 = .ok (.ireturn, 1) := by decide +kernel
theorem dX11_would_0 : decode cX11_would 0 = .ok (.aload_n 0, 1) := by decide +kernel
theorem dX11_would_1 : decode cX11_would 1 = .ok (.invokevirtual 244, 3) := by decide +kernel
theorem dX11_would_4 : decode cX11_would 4 = .ok (.ifCond .ne 6, 3) := by decide +kernel
theorem dX11_would_7 : decode cX11_would 7 = .ok (.bipush (-103), 2) := by decide +kernel
theorem dX11_would_9 : decode cX11_would 9 = .ok (.ireturn, 1) := by decide +kernel
theorem dX11_would_10 : decode cX11_would 10 = .ok (.iload_n 1, 1) := by decide +kernel
theorem dX11_would_11 : decode cX11_would 11 = .ok (.iload_n 2, 1) := by decide +kernel
theorem dX11_would_12 : decode cX11_would 12 = .ok (.invokestatic 247, 3) := by decide +kernel
theorem dX11_would_15 : decode cX11_would 15 = .ok (.ifCond .ne 6, 3) := by decide +kernel
theorem dX11_would_18 : decode cX11_would 18 = .ok (.bipush (-102), 2) := by decide +kernel
theorem dX11_would_20 : decode cX11_would 20 = .ok (.ireturn, 1) := by decide +kernel
theorem dX11_would_21 : decode cX11_would 21 = .ok (.aload_n 0, 1) := by decide +kernel
theorem dX11_would_22 : decode cX11_would 22 = .ok (.getfield 49, 3) := by decide +kernel
theorem dX11_would_25 : decode cX11_would 25 = .ok (.aload_n 0, 1) := by decide +kernel
theorem dX11_would_26 : decode cX11_would 26 = .ok (.getfield 45, 3) := by decide +kernel
theorem dX11_would_29 : decode cX11_would 29 = .ok (.invokevirtual 205, 3) := by decide +kernel
theorem dX11_would_32 : decode cX11_would 32 = .ok (.aload_n 0, 1) := by decide +kernel
theorem dX11_would_33 : decode cX11_would 33 = .ok (.getfield 81, 3) := by decide +kernel
theorem dX11_would_36 : decode cX11_would 36 = .ok (.aload_n 0, 1) := by decide +kernel
theorem dX11_would_37 : decode cX11_would 37 = .ok (.getfield 49, 3) := by decide +kernel
theorem dX11_would_40 : decode cX11_would 40 = .ok (.aload_n 0, 1) := by decide +kernel
theorem dX11_would_41 : decode cX11_would 41 = .ok (.getfield 30, 3) := by decide +kernel
theorem dX11_would_44 : decode cX11_would 44 = .ok (.iload_n 1, 1) := by decide +kernel
theorem dX11_would_45 : decode cX11_would 45 = .ok (.iload_n 2, 1) := by decide +kernel
theorem dX11_would_46 : decode cX11_would 46 = .ok (.invokevirtual 250, 3) := by decide +kernel
theorem dX11_would_49 : decode cX11_would 49 = .ok (.ireturn, 1) := by decide +kernel
theorem dX11_mend_0 : decode cX11_mend 0 = .ok (.aload_n 0, 1) := by decide +kernel
theorem dX11_mend_1 : decode cX11_mend 1 = .ok (.iload_n 1, 1) := by decide +kernel
theorem dX11_mend_2 : decode cX11_mend 2 = .ok (.invokevirtual 159, 3) := by decide +kernel
theorem dX11_mend_5 : decode cX11_mend 5 = .ok (.ifCond .ne 6, 3) := by decide +kernel
theorem dX11_mend_8 : decode cX11_mend 8 = .ok (.bipush (-101), 2) := by decide +kernel
theorem dX11_mend_10 : decode cX11_mend 10 = .ok (.ireturn, 1) := by decide +kernel
theorem dX11_mend_11 : decode cX11_mend 11 = .ok (.iload_n 2, 1) := by decide +kernel
theorem dX11_mend_12 : decode cX11_mend 12 = .ok (.invokestatic 254, 3) := by decide +kernel
theorem dX11_mend_15 : decode cX11_mend 15 = .ok (.ifCond .ne 6, 3) := by decide +kernel
theorem dX11_mend_18 : decode cX11_mend 18 = .ok (.bipush (-102), 2) := by decide +kernel
theorem dX11_mend_20 : decode cX11_mend 20 = .ok (.ireturn, 1) := by decide +kernel
theorem dX11_mend_21 : decode cX11_mend 21 = .ok (.aload_n 0, 1) := by decide +kernel
theorem dX11_mend_22 : decode cX11_mend 22 = .ok (.getfield 45, 3) := by decide +kernel
theorem dX11_mend_25 : decode cX11_mend 25 = .ok (.iload_n 1, 1) := by decide +kernel
theorem dX11_mend_26 : decode cX11_mend 26 = .ok (.invokevirtual 257, 3) := by decide +kernel
theorem dX11_mend_29 : decode cX11_mend 29 = .ok (.ifCond .ne 6, 3) := by decide +kernel
theorem dX11_mend_32 : decode cX11_mend 32 = .ok (.bipush (-103), 2) := by decide +kernel
theorem dX11_mend_34 : decode cX11_mend 34 = .ok (.ireturn, 1) := by decide +kernel
theorem dX11_mend_35 : decode cX11_mend 35 = .ok (.aload_n 0, 1) := by decide +kernel
theorem dX11_mend_36 : decode cX11_mend 36 = .ok (.getfield 45, 3) := by decide +kernel
theorem dX11_mend_39 : decode cX11_mend 39 = .ok (.iload_n 1, 1) := by decide +kernel
theorem dX11_mend_40 : decode cX11_mend 40 = .ok (.iload_n 2, 1) := by decide +kernel
theorem dX11_mend_41 : decode cX11_mend 41 = .ok (.invokevirtual 260, 3) := by decide +kernel
theorem dX11_mend_44 : decode cX11_mend 44 = .ok (.aload_n 0, 1) := by decide +kernel
theorem dX11_mend_45 : decode cX11_mend 45 = .ok (.getfield 45, 3) := by decide +kernel
theorem dX11_mend_48 : decode cX11_mend 48 = .ok (.getfield 263, 3) := by decide +kernel
theorem dX11_mend_51 : decode cX11_mend 51 = .ok (.iload_n 1, 1) := by decide +kernel
theorem dX11_mend_52 : decode cX11_mend 52 = .ok (.iaload, 1) := by decide +kernel
theorem dX11_mend_53 : decode cX11_mend 53 = .ok (.ireturn, 1) := by decide +kernel
theorem dX11_first_0 : decode cX11_first 0 = .ok (.aload_n 0, 1) := by decide +kernel
theorem dX11_first_1 : decode cX11_first 1 = .ok (.invokevirtual 244, 3) := by decide +kernel
theorem dX11_first_4 : decode cX11_first 4 = .ok (.ifCond .ne 6, 3) := by decide +kernel
theorem dX11_first_7 : decode cX11_first 7 = .ok (.bipush (-103), 2) := by decide +kernel
theorem dX11_first_9 : decode cX11_first 9 = .ok (.ireturn, 1) := by decide +kernel
theorem dX11_first_10 : decode cX11_first 10 = .ok (.iload_n 1, 1) := by decide +kernel
theorem dX11_first_11 : decode cX11_first 11 = .ok (.iconst 1, 1) := by decide +kernel
theorem dX11_first_12 : decode cX11_first 12 = .ok (.if_icmp .lt 27, 3) := by decide +kernel
theorem dX11_first_15 : decode cX11_first 15 = .ok (.iload_n 1, 1) := by decide +kernel
theorem dX11_first_16 : decode cX11_first 16 = .ok (.iconst 4, 1) := by decide +kernel
theorem dX11_first_17 : decode cX11_first 17 = .ok (.if_icmp .gt 22, 3) := by decide +kernel
theorem dX11_first_20 : decode cX11_first 20 = .ok (.iload_n 2, 1) := by decide +kernel
theorem dX11_first_21 : decode cX11_first 21 = .ok (.iload_n 3, 1) := by decide +kernel
theorem dX11_first_22 : decode cX11_first 22 = .ok (.invokestatic 247, 3) := by decide +kernel
theorem dX11_first_25 : decode cX11_first 25 = .ok (.ifCond .eq 14, 3) := by decide +kernel
theorem dX11_first_28 : decode cX11_first 28 = .ok (.iload 4, 2) := by decide +kernel
theorem dX11_first_30 : decode cX11_first 30 = .ok (.ifCond .lt 9, 3) := by decide +kernel
theorem dX11_first_33 : decode cX11_first 33 = .ok (.iload 4, 2) := by decide +kernel
theorem dX11_first_35 : decode cX11_first 35 = .ok (.iconst 1, 1) := by decide +kernel
theorem dX11_first_36 : decode cX11_first 36 = .ok (.if_icmp .le 6, 3) := by decide +kernel
theorem dX11_first_39 : decode cX11_first 39 = .ok (.bipush (-102), 2) := by decide +kernel
theorem dX11_first_41 : decode cX11_first 41 = .ok (.ireturn, 1) := by decide +kernel
theorem dX11_first_42 : decode cX11_first 42 = .ok (.aload_n 0, 1) := by decide +kernel
theorem dX11_first_43 : decode cX11_first 43 = .ok (.invokevirtual 266, 3) := by decide +kernel
theorem dX11_first_46 : decode cX11_first 46 = .ok (.istore 5, 2) := by decide +kernel
theorem dX11_first_48 : decode cX11_first 48 = .ok (.iload 5, 2) := by decide +kernel
theorem dX11_first_50 : decode cX11_first 50 = .ok (.iload_n 1, 1) := by decide +kernel
theorem dX11_first_51 : decode cX11_first 51 = .ok (.if_icmp .lt 12, 3) := by decide +kernel
theorem dX11_first_54 : decode cX11_first 54 = .ok (.aload_n 0, 1) := by decide +kernel
theorem dX11_first_55 : decode cX11_first 55 = .ok (.getfield 103, 3) := by decide +kernel
theorem dX11_first_58 : decode cX11_first 58 = .ok (.bipush 20, 2) := by decide +kernel
theorem dX11_first_60 : decode cX11_first 60 = .ok (.if_icmp .lt 6, 3) := by decide +kernel
theorem dX11_first_63 : decode cX11_first 63 = .ok (.bipush (-103), 2) := by decide +kernel
theorem dX11_first_65 : decode cX11_first 65 = .ok (.ireturn, 1) := by decide +kernel
theorem dX11_first_66 : decode cX11_first 66 = .ok (.aload_n 0, 1) := by decide +kernel
theorem dX11_first_67 : decode cX11_first 67 = .ok (.dup, 1) := by decide +kernel
theorem dX11_first_68 : decode cX11_first 68 = .ok (.getfield 103, 3) := by decide +kernel
theorem dX11_first_71 : decode cX11_first 71 = .ok (.iconst 1, 1) := by decide +kernel
theorem dX11_first_72 : decode cX11_first 72 = .ok (.iadd, 1) := by decide +kernel
theorem dX11_first_73 : decode cX11_first 73 = .ok (.putfield 103, 3) := by decide +kernel
theorem dX11_first_76 : decode cX11_first 76 = .ok (.iconst 0, 1) := by decide +kernel
theorem dX11_first_77 : decode cX11_first 77 = .ok (.istore 6, 2) := by decide +kernel
theorem dX11_first_79 : decode cX11_first 79 = .ok (.ldc 218, 2) := by decide +kernel
theorem dX11_first_81 : decode cX11_first 81 = .ok (.istore 7, 2) := by decide +kernel
theorem dX11_first_83 : decode cX11_first 83 = .ok (.iconst 1, 1) := by decide +kernel
theorem dX11_first_84 : decode cX11_first 84 = .ok (.iload 5, 2) := by decide +kernel
theorem dX11_first_86 : decode cX11_first 86 = .ok (.ishl, 1) := by decide +kernel
theorem dX11_first_87 : decode cX11_first 87 = .ok (.istore 8, 2) := by decide +kernel
theorem dX11_first_89 : decode cX11_first 89 = .ok (.iconst 1, 1) := by decide +kernel
theorem dX11_first_90 : decode cX11_first 90 = .ok (.istore 9, 2) := by decide +kernel
theorem dX11_first_92 : decode cX11_first 92 = .ok (.iload 9, 2) := by decide +kernel
theorem dX11_first_94 : decode cX11_first 94 = .ok (.iload 8, 2) := by decide +kernel
theorem dX11_first_96 : decode cX11_first 96 = .ok (.if_icmp .ge 50, 3) := by decide +kernel
theorem dX11_first_99 : decode cX11_first 99 = .ok (.iload 7, 2) := by decide +kernel
theorem dX11_first_101 : decode cX11_first 101 = .ok (.ifCond .le 45, 3) := by decide +kernel
theorem dX11_first_104 : decode cX11_first 104 = .ok (.iload 9, 2) := by decide +kernel
theorem dX11_first_106 : decode cX11_first 106 = .ok (.invokestatic 269, 3) := by decide +kernel
theorem dX11_first_109 : decode cX11_first 109 = .ok (.iload_n 1, 1) := by decide +kernel
theorem dX11_first_110 : decode cX11_first 110 = .ok (.if_icmp .ne 30, 3) := by decide +kernel
theorem dX11_first_113 : decode cX11_first 113 = .ok (.aload_n 0, 1) := by decide +kernel
theorem dX11_first_114 : decode cX11_first 114 = .ok (.iload 9, 2) := by decide +kernel
theorem dX11_first_116 : decode cX11_first 116 = .ok (.iload 5, 2) := by decide +kernel
theorem dX11_first_118 : decode cX11_first 118 = .ok (.iload_n 2, 1) := by decide +kernel
theorem dX11_first_119 : decode cX11_first 119 = .ok (.iload_n 3, 1) := by decide +kernel
theorem dX11_first_120 : decode cX11_first 120 = .ok (.invokevirtual 274, 3) := by decide +kernel
theorem dX11_first_123 : decode cX11_first 123 = .ok (.istore 10, 2) := by decide +kernel
theorem dX11_first_125 : decode cX11_first 125 = .ok (.iload 10, 2) := by decide +kernel
theorem dX11_first_127 : decode cX11_first 127 = .ok (.iload 7, 2) := by decide +kernel
theorem dX11_first_129 : decode cX11_first 129 = .ok (.if_icmp .ge 11, 3) := by decide +kernel
theorem dX11_first_132 : decode cX11_first 132 = .ok (.iload 10, 2) := by decide +kernel
theorem dX11_first_134 : decode cX11_first 134 = .ok (.istore 7, 2) := by decide +kernel
theorem dX11_first_136 : decode cX11_first 136 = .ok (.iload 9, 2) := by decide +kernel
theorem dX11_first_138 : decode cX11_first 138 = .ok (.istore 6, 2) := by decide +kernel
theorem dX11_first_140 : decode cX11_first 140 = .ok (.iinc 9 1, 3) := by decide +kernel
theorem dX11_first_143 : decode cX11_first 143 = .ok (.goto (-51), 3) := by decide +kernel
theorem dX11_first_146 : decode cX11_first 146 = .ok (.iload 4, 2) := by decide +kernel
theorem dX11_first_148 : decode cX11_first 148 = .ok (.ifCond .ne 8, 3) := by decide +kernel
theorem dX11_first_151 : decode cX11_first 151 = .ok (.iload 6, 2) := by decide +kernel
theorem dX11_first_153 : decode cX11_first 153 = .ok (.goto 5, 3) := by decide +kernel
theorem dX11_first_156 : decode cX11_first 156 = .ok (.iload 7, 2) := by decide +kernel
theorem dX11_first_158 : decode cX11_first 158 = .ok (.ireturn, 1) := by decide +kernel
theorem dX11_trench_0 : decode cX11_trench 0 = .ok (.iload_n 1, 1) := by decide +kernel
theorem dX11_trench_1 : decode cX11_trench 1 = .ok (.iconst 1, 1) := by decide +kernel
theorem dX11_trench_2 : decode cX11_trench 2 = .ok (.if_icmp .lt 29, 3) := by decide +kernel
theorem dX11_trench_5 : decode cX11_trench 5 = .ok (.iload_n 1, 1) := by decide +kernel
theorem dX11_trench_6 : decode cX11_trench 6 = .ok (.bipush 99, 2) := by decide +kernel
theorem dX11_trench_8 : decode cX11_trench 8 = .ok (.if_icmp .gt 23, 3) := by decide +kernel
theorem dX11_trench_11 : decode cX11_trench 11 = .ok (.iload_n 2, 1) := by decide +kernel
theorem dX11_trench_12 : decode cX11_trench 12 = .ok (.ifCond .lt 19, 3) := by decide +kernel
theorem dX11_trench_15 : decode cX11_trench 15 = .ok (.iload_n 2, 1) := by decide +kernel
theorem dX11_trench_16 : decode cX11_trench 16 = .ok (.bipush 9, 2) := by decide +kernel
theorem dX11_trench_18 : decode cX11_trench 18 = .ok (.if_icmp .gt 13, 3) := by decide +kernel
theorem dX11_trench_21 : decode cX11_trench 21 = .ok (.iload_n 3, 1) := by decide +kernel
theorem dX11_trench_22 : decode cX11_trench 22 = .ok (.ifCond .lt 9, 3) := by decide +kernel
theorem dX11_trench_25 : decode cX11_trench 25 = .ok (.iload_n 3, 1) := by decide +kernel
theorem dX11_trench_26 : decode cX11_trench 26 = .ok (.bipush 99, 2) := by decide +kernel
theorem dX11_trench_28 : decode cX11_trench 28 = .ok (.if_icmp .le 6, 3) := by decide +kernel
theorem dX11_trench_31 : decode cX11_trench 31 = .ok (.bipush (-102), 2) := by decide +kernel
theorem dX11_trench_33 : decode cX11_trench 33 = .ok (.ireturn, 1) := by decide +kernel
theorem dX11_trench_34 : decode cX11_trench 34 = .ok (.bipush 10, 2) := by decide +kernel
theorem dX11_trench_36 : decode cX11_trench 36 = .ok (.iload_n 1, 1) := by decide +kernel
theorem dX11_trench_37 : decode cX11_trench 37 = .ok (.imul, 1) := by decide +kernel
theorem dX11_trench_38 : decode cX11_trench 38 = .ok (.iconst 2, 1) := by decide +kernel
theorem dX11_trench_39 : decode cX11_trench 39 = .ok (.iload_n 2, 1) := by decide +kernel
theorem dX11_trench_40 : decode cX11_trench 40 = .ok (.iadd, 1) := by decide +kernel
theorem dX11_trench_41 : decode cX11_trench 41 = .ok (.invokestatic 278, 3) := by decide +kernel
theorem dX11_trench_44 : decode cX11_trench 44 = .ok (.istore 4, 2) := by decide +kernel
theorem dX11_trench_46 : decode cX11_trench 46 = .ok (.iconst 0, 1) := by decide +kernel
theorem dX11_trench_47 : decode cX11_trench 47 = .ok (.istore 5, 2) := by decide +kernel
theorem dX11_trench_49 : decode cX11_trench 49 = .ok (.iconst 0, 1) := by decide +kernel
theorem dX11_trench_50 : decode cX11_trench 50 = .ok (.istore 6, 2) := by decide +kernel
theorem dX11_trench_52 : decode cX11_trench 52 = .ok (.iload 6, 2) := by decide +kernel
theorem dX11_trench_54 : decode cX11_trench 54 = .ok (.iload_n 3, 1) := by decide +kernel
theorem dX11_trench_55 : decode cX11_trench 55 = .ok (.if_icmp .ge 23, 3) := by decide +kernel
theorem dX11_trench_58 : decode cX11_trench 58 = .ok (.iload 5, 2) := by decide +kernel
theorem dX11_trench_60 : decode cX11_trench 60 = .ok (.iload 4, 2) := by decide +kernel
theorem dX11_trench_62 : decode cX11_trench 62 = .ok (.iload 5, 2) := by decide +kernel
theorem dX11_trench_64 : decode cX11_trench 64 = .ok (.isub, 1) := by decide +kernel
theorem dX11_trench_65 : decode cX11_trench 65 = .ok (.iconst 3, 1) := by decide +kernel
theorem dX11_trench_66 : decode cX11_trench 66 = .ok (.iadd, 1) := by decide +kernel
theorem dX11_trench_67 : decode cX11_trench 67 = .ok (.iconst 4, 1) := by decide +kernel
theorem dX11_trench_68 : decode cX11_trench 68 = .ok (.idiv, 1) := by decide +kernel
theorem dX11_trench_69 : decode cX11_trench 69 = .ok (.iadd, 1) := by decide +kernel
theorem dX11_trench_70 : decode cX11_trench 70 = .ok (.istore 5, 2) := by decide +kernel
theorem dX11_trench_72 : decode cX11_trench 72 = .ok (.iinc 6 1, 3) := by decide +kernel
theorem dX11_trench_75 : decode cX11_trench 75 = .ok (.goto (-23), 3) := by decide +kernel
theorem dX11_trench_78 : decode cX11_trench 78 = .ok (.iload 5, 2) := by decide +kernel
theorem dX11_trench_80 : decode cX11_trench 80 = .ok (.ireturn, 1) := by decide +kernel
theorem dX11_heap_0 : decode cX11_heap 0 = .ok (.iload_n 1, 1) := by decide +kernel
theorem dX11_heap_1 : decode cX11_heap 1 = .ok (.invokestatic 254, 3) := by decide +kernel
theorem dX11_heap_4 : decode cX11_heap 4 = .ok (.ifCond .ne 6, 3) := by decide +kernel
theorem dX11_heap_7 : decode cX11_heap 7 = .ok (.bipush (-102), 2) := by decide +kernel
theorem dX11_heap_9 : decode cX11_heap 9 = .ok (.ireturn, 1) := by decide +kernel
theorem dX11_heap_10 : decode cX11_heap 10 = .ok (.aload_n 0, 1) := by decide +kernel
theorem dX11_heap_11 : decode cX11_heap 11 = .ok (.getfield 88, 3) := by decide +kernel
theorem dX11_heap_14 : decode cX11_heap 14 = .ok (.getfield 281, 3) := by decide +kernel
theorem dX11_heap_17 : decode cX11_heap 17 = .ok (.bipush 10, 2) := by decide +kernel
theorem dX11_heap_19 : decode cX11_heap 19 = .ok (.if_icmp .lt 6, 3) := by decide +kernel
theorem dX11_heap_22 : decode cX11_heap 22 = .ok (.bipush (-104), 2) := by decide +kernel
theorem dX11_heap_24 : decode cX11_heap 24 = .ok (.ireturn, 1) := by decide +kernel
theorem dX11_heap_25 : decode cX11_heap 25 = .ok (.aload_n 0, 1) := by decide +kernel
theorem dX11_heap_26 : decode cX11_heap 26 = .ok (.getfield 88, 3) := by decide +kernel
theorem dX11_heap_29 : decode cX11_heap 29 = .ok (.iload_n 1, 1) := by decide +kernel
theorem dX11_heap_30 : decode cX11_heap 30 = .ok (.invokevirtual 282, 3) := by decide +kernel
theorem dX11_heap_33 : decode cX11_heap 33 = .ok (.aload_n 0, 1) := by decide +kernel
theorem dX11_heap_34 : decode cX11_heap 34 = .ok (.getfield 88, 3) := by decide +kernel
theorem dX11_heap_37 : decode cX11_heap 37 = .ok (.getfield 281, 3) := by decide +kernel
theorem dX11_heap_40 : decode cX11_heap 40 = .ok (.ireturn, 1) := by decide +kernel
theorem dX11_fits_0 : decode cX11_fits 0 = .ok (.iload_n 1, 1) := by decide +kernel
theorem dX11_fits_1 : decode cX11_fits 1 = .ok (.ifCond .lt 18, 3) := by decide +kernel
theorem dX11_fits_4 : decode cX11_fits 4 = .ok (.iload_n 1, 1) := by decide +kernel
theorem dX11_fits_5 : decode cX11_fits 5 = .ok (.bipush 90, 2) := by decide +kernel
theorem dX11_fits_7 : decode cX11_fits 7 = .ok (.if_icmp .gt 12, 3) := by decide +kernel
theorem dX11_fits_10 : decode cX11_fits 10 = .ok (.iload_n 2, 1) := by decide +kernel
theorem dX11_fits_11 : decode cX11_fits 11 = .ok (.ifCond .lt 8, 3) := by decide +kernel
theorem dX11_fits_14 : decode cX11_fits 14 = .ok (.iload_n 2, 1) := by decide +kernel
theorem dX11_fits_15 : decode cX11_fits 15 = .ok (.iconst 1, 1) := by decide +kernel
theorem dX11_fits_16 : decode cX11_fits 16 = .ok (.if_icmp .le 6, 3) := by decide +kernel
theorem dX11_fits_19 : decode cX11_fits 19 = .ok (.bipush (-102), 2) := by decide +kernel
theorem dX11_fits_21 : decode cX11_fits 21 = .ok (.ireturn, 1) := by decide +kernel
theorem dX11_fits_22 : decode cX11_fits 22 = .ok (.aload_n 0, 1) := by decide +kernel
theorem dX11_fits_23 : decode cX11_fits 23 = .ok (.getfield 88, 3) := by decide +kernel
theorem dX11_fits_26 : decode cX11_fits 26 = .ok (.iload_n 1, 1) := by decide +kernel
theorem dX11_fits_27 : decode cX11_fits 27 = .ok (.invokevirtual 285, 3) := by decide +kernel
theorem dX11_fits_30 : decode cX11_fits 30 = .ok (.iload_n 2, 1) := by decide +kernel
theorem dX11_fits_31 : decode cX11_fits 31 = .ok (.ifCond .ne 13, 3) := by decide +kernel
theorem dX11_fits_34 : decode cX11_fits 34 = .ok (.aload_n 0, 1) := by decide +kernel
theorem dX11_fits_35 : decode cX11_fits 35 = .ok (.getfield 88, 3) := by decide +kernel
theorem dX11_fits_38 : decode cX11_fits 38 = .ok (.getfield 288, 3) := by decide +kernel
theorem dX11_fits_41 : decode cX11_fits 41 = .ok (.goto 10, 3) := by decide +kernel
theorem dX11_fits_44 : decode cX11_fits 44 = .ok (.aload_n 0, 1) := by decide +kernel
theorem dX11_fits_45 : decode cX11_fits 45 = .ok (.getfield 88, 3) := by decide +kernel
theorem dX11_fits_48 : decode cX11_fits 48 = .ok (.getfield 291, 3) := by decide +kernel
theorem dX11_fits_51 : decode cX11_fits 51 = .ok (.ireturn, 1) := by decide +kernel
theorem dX11_gaps_0 : decode cX11_gaps 0 = .ok (.iload_n 1, 1) := by decide +kernel
theorem dX11_gaps_1 : decode cX11_gaps 1 = .ok (.iconst 1, 1) := by decide +kernel
theorem dX11_gaps_2 : decode cX11_gaps 2 = .ok (.if_icmp .lt 31, 3) := by decide +kernel
theorem dX11_gaps_5 : decode cX11_gaps 5 = .ok (.iload_n 1, 1) := by decide +kernel
theorem dX11_gaps_6 : decode cX11_gaps 6 = .ok (.bipush 99, 2) := by decide +kernel
theorem dX11_gaps_8 : decode cX11_gaps 8 = .ok (.if_icmp .gt 25, 3) := by decide +kernel
theorem dX11_gaps_11 : decode cX11_gaps 11 = .ok (.iload_n 2, 1) := by decide +kernel
theorem dX11_gaps_12 : decode cX11_gaps 12 = .ok (.iconst 1, 1) := by decide +kernel
theorem dX11_gaps_13 : decode cX11_gaps 13 = .ok (.if_icmp .lt 20, 3) := by decide +kernel
theorem dX11_gaps_16 : decode cX11_gaps 16 = .ok (.iload_n 2, 1) := by decide +kernel
theorem dX11_gaps_17 : decode cX11_gaps 17 = .ok (.bipush 99, 2) := by decide +kernel
theorem dX11_gaps_19 : decode cX11_gaps 19 = .ok (.if_icmp .gt 14, 3) := by decide +kernel
theorem dX11_gaps_22 : decode cX11_gaps 22 = .ok (.iload_n 3, 1) := by decide +kernel
theorem dX11_gaps_23 : decode cX11_gaps 23 = .ok (.ifCond .lt 10, 3) := by decide +kernel
theorem dX11_gaps_26 : decode cX11_gaps 26 = .ok (.iload_n 3, 1) := by decide +kernel
theorem dX11_gaps_27 : decode cX11_gaps 27 = .ok (.sipush 200, 3) := by decide +kernel
theorem dX11_gaps_30 : decode cX11_gaps 30 = .ok (.if_icmp .le 6, 3) := by decide +kernel
theorem dX11_gaps_33 : decode cX11_gaps 33 = .ok (.bipush (-102), 2) := by decide +kernel
theorem dX11_gaps_35 : decode cX11_gaps 35 = .ok (.ireturn, 1) := by decide +kernel
theorem dX11_gaps_36 : decode cX11_gaps 36 = .ok (.iload_n 1, 1) := by decide +kernel
theorem dX11_gaps_37 : decode cX11_gaps 37 = .ok (.iload_n 2, 1) := by decide +kernel
theorem dX11_gaps_38 : decode cX11_gaps 38 = .ok (.imul, 1) := by decide +kernel
theorem dX11_gaps_39 : decode cX11_gaps 39 = .ok (.iload_n 3, 1) := by decide +kernel
theorem dX11_gaps_40 : decode cX11_gaps 40 = .ok (.imul, 1) := by decide +kernel
theorem dX11_gaps_41 : decode cX11_gaps 41 = .ok (.sipush 999, 3) := by decide +kernel
theorem dX11_gaps_44 : decode cX11_gaps 44 = .ok (.iadd, 1) := by decide +kernel
theorem dX11_gaps_45 : decode cX11_gaps 45 = .ok (.sipush 1000, 3) := by decide +kernel
theorem dX11_gaps_48 : decode cX11_gaps 48 = .ok (.idiv, 1) := by decide +kernel
theorem dX11_gaps_49 : decode cX11_gaps 49 = .ok (.istore 4, 2) := by decide +kernel
theorem dX11_gaps_51 : decode cX11_gaps 51 = .ok (.iload 4, 2) := by decide +kernel
theorem dX11_gaps_53 : decode cX11_gaps 53 = .ok (.iload_n 1, 1) := by decide +kernel
theorem dX11_gaps_54 : decode cX11_gaps 54 = .ok (.iadd, 1) := by decide +kernel
theorem dX11_gaps_55 : decode cX11_gaps 55 = .ok (.iload_n 1, 1) := by decide +kernel
theorem dX11_gaps_56 : decode cX11_gaps 56 = .ok (.iconst 1, 1) := by decide +kernel
theorem dX11_gaps_57 : decode cX11_gaps 57 = .ok (.iadd, 1) := by decide +kernel
theorem dX11_gaps_58 : decode cX11_gaps 58 = .ok (.invokestatic 278, 3) := by decide +kernel
theorem dX11_gaps_61 : decode cX11_gaps 61 = .ok (.ireturn, 1) := by decide +kernel
theorem dX11_shake_0 : decode cX11_shake 0 = .ok (.aload_n 0, 1) := by decide +kernel
theorem dX11_shake_1 : decode cX11_shake 1 = .ok (.iload_n 1, 1) := by decide +kernel
theorem dX11_shake_2 : decode cX11_shake 2 = .ok (.invokevirtual 294, 3) := by decide +kernel
theorem dX11_shake_5 : decode cX11_shake 5 = .ok (.ifCond .ne 6, 3) := by decide +kernel
theorem dX11_shake_8 : decode cX11_shake 8 = .ok (.bipush (-101), 2) := by decide +kernel
theorem dX11_shake_10 : decode cX11_shake 10 = .ok (.ireturn, 1) := by decide +kernel
theorem dX11_shake_11 : decode cX11_shake 11 = .ok (.iload_n 2, 1) := by decide +kernel
theorem dX11_shake_12 : decode cX11_shake 12 = .ok (.iconst 1, 1) := by decide +kernel
theorem dX11_shake_13 : decode cX11_shake 13 = .ok (.if_icmp .lt 17, 3) := by decide +kernel
theorem dX11_shake_16 : decode cX11_shake 16 = .ok (.iload_n 2, 1) := by decide +kernel
theorem dX11_shake_17 : decode cX11_shake 17 = .ok (.iconst 5, 1) := by decide +kernel
theorem dX11_shake_18 : decode cX11_shake 18 = .ok (.if_icmp .gt 12, 3) := by decide +kernel
theorem dX11_shake_21 : decode cX11_shake 21 = .ok (.iload_n 3, 1) := by decide +kernel
theorem dX11_shake_22 : decode cX11_shake 22 = .ok (.ifCond .lt 8, 3) := by decide +kernel
theorem dX11_shake_25 : decode cX11_shake 25 = .ok (.iload_n 3, 1) := by decide +kernel
theorem dX11_shake_26 : decode cX11_shake 26 = .ok (.iconst 1, 1) := by decide +kernel
theorem dX11_shake_27 : decode cX11_shake 27 = .ok (.if_icmp .le 6, 3) := by decide +kernel
theorem dX11_shake_30 : decode cX11_shake 30 = .ok (.bipush (-102), 2) := by decide +kernel
theorem dX11_shake_32 : decode cX11_shake 32 = .ok (.ireturn, 1) := by decide +kernel
theorem dX11_shake_33 : decode cX11_shake 33 = .ok (.aload_n 0, 1) := by decide +kernel
theorem dX11_shake_34 : decode cX11_shake 34 = .ok (.getfield 45, 3) := by decide +kernel
theorem dX11_shake_37 : decode cX11_shake 37 = .ok (.iload_n 1, 1) := by decide +kernel
theorem dX11_shake_38 : decode cX11_shake 38 = .ok (.iload_n 2, 1) := by decide +kernel
theorem dX11_shake_39 : decode cX11_shake 39 = .ok (.invokevirtual 297, 3) := by decide +kernel
theorem dX11_shake_42 : decode cX11_shake 42 = .ok (.istore 4, 2) := by decide +kernel
theorem dX11_shake_44 : decode cX11_shake 44 = .ok (.aload_n 0, 1) := by decide +kernel
theorem dX11_shake_45 : decode cX11_shake 45 = .ok (.getfield 36, 3) := by decide +kernel
theorem dX11_shake_48 : decode cX11_shake 48 = .ok (.iload_n 2, 1) := by decide +kernel
theorem dX11_shake_49 : decode cX11_shake 49 = .ok (.invokevirtual 300, 3) := by decide +kernel
theorem dX11_shake_52 : decode cX11_shake 52 = .ok (.istore 5, 2) := by decide +kernel
theorem dX11_shake_54 : decode cX11_shake 54 = .ok (.iload 4, 2) := by decide +kernel
theorem dX11_shake_56 : decode cX11_shake 56 = .ok (.ifCond .eq 8, 3) := by decide +kernel
theorem dX11_shake_59 : decode cX11_shake 59 = .ok (.iload 5, 2) := by decide +kernel
theorem dX11_shake_61 : decode cX11_shake 61 = .ok (.ifCond .ne 5, 3) := by decide +kernel
theorem dX11_shake_64 : decode cX11_shake 64 = .ok (.iload_n 3, 1) := by decide +kernel
theorem dX11_shake_65 : decode cX11_shake 65 = .ok (.ireturn, 1) := by decide +kernel
theorem dX11_shake_66 : decode cX11_shake 66 = .ok (.iload_n 3, 1) := by decide +kernel
theorem dX11_shake_67 : decode cX11_shake 67 = .ok (.ifCond .ne 8, 3) := by decide +kernel
theorem dX11_shake_70 : decode cX11_shake 70 = .ok (.iload 4, 2) := by decide +kernel
theorem dX11_shake_72 : decode cX11_shake 72 = .ok (.goto 5, 3) := by decide +kernel
theorem dX11_shake_75 : decode cX11_shake 75 = .ok (.iload 5, 2) := by decide +kernel
theorem dX11_shake_77 : decode cX11_shake 77 = .ok (.iload 4, 2) := by decide +kernel
theorem dX11_shake_79 : decode cX11_shake 79 = .ok (.iload 5, 2) := by decide +kernel
theorem dX11_shake_81 : decode cX11_shake 81 = .ok (.invokestatic 303, 3) := by decide +kernel
theorem dX11_shake_84 : decode cX11_shake 84 = .ok (.invokestatic 278, 3) := by decide +kernel
theorem dX11_shake_87 : decode cX11_shake 87 = .ok (.ireturn, 1) := by decide +kernel
theorem dX11_worst_0 : decode cX11_worst 0 = .ok (.aload_n 0, 1) := by decide +kernel
theorem dX11_worst_1 : decode cX11_worst 1 = .ok (.iload_n 1, 1) := by decide +kernel
theorem dX11_worst_2 : decode cX11_worst 2 = .ok (.invokevirtual 294, 3) := by decide +kernel
theorem dX11_worst_5 : decode cX11_worst 5 = .ok (.ifCond .ne 6, 3) := by decide +kernel
theorem dX11_worst_8 : decode cX11_worst 8 = .ok (.bipush (-101), 2) := by decide +kernel
theorem dX11_worst_10 : decode cX11_worst 10 = .ok (.ireturn, 1) := by decide +kernel
theorem dX11_worst_11 : decode cX11_worst 11 = .ok (.iconst 1, 1) := by decide +kernel
theorem dX11_worst_12 : decode cX11_worst 12 = .ok (.istore_n 2, 1) := by decide +kernel
theorem dX11_worst_13 : decode cX11_worst 13 = .ok (.iconst 2, 1) := by decide +kernel
theorem dX11_worst_14 : decode cX11_worst 14 = .ok (.istore_n 3, 1) := by decide +kernel
theorem dX11_worst_15 : decode cX11_worst 15 = .ok (.iload_n 3, 1) := by decide +kernel
theorem dX11_worst_16 : decode cX11_worst 16 = .ok (.iconst 5, 1) := by decide +kernel
theorem dX11_worst_17 : decode cX11_worst 17 = .ok (.if_icmp .gt 74, 3) := by decide +kernel
theorem dX11_worst_20 : decode cX11_worst 20 = .ok (.aload_n 0, 1) := by decide +kernel
theorem dX11_worst_21 : decode cX11_worst 21 = .ok (.getfield 45, 3) := by decide +kernel
theorem dX11_worst_24 : decode cX11_worst 24 = .ok (.iload_n 1, 1) := by decide +kernel
theorem dX11_worst_25 : decode cX11_worst 25 = .ok (.iload_n 3, 1) := by decide +kernel
theorem dX11_worst_26 : decode cX11_worst 26 = .ok (.invokevirtual 297, 3) := by decide +kernel
theorem dX11_worst_29 : decode cX11_worst 29 = .ok (.i2l, 1) := by decide +kernel
theorem dX11_worst_30 : decode cX11_worst 30 = .ok (.aload_n 0, 1) := by decide +kernel
theorem dX11_worst_31 : decode cX11_worst 31 = .ok (.getfield 36, 3) := by decide +kernel
theorem dX11_worst_34 : decode cX11_worst 34 = .ok (.iload_n 2, 1) := by decide +kernel
theorem dX11_worst_35 : decode cX11_worst 35 = .ok (.invokevirtual 300, 3) := by decide +kernel
theorem dX11_worst_38 : decode cX11_worst 38 = .ok (.i2l, 1) := by decide +kernel
theorem dX11_worst_39 : decode cX11_worst 39 = .ok (.lmul, 1) := by decide +kernel
theorem dX11_worst_40 : decode cX11_worst 40 = .ok (.lstore 4, 2) := by decide +kernel
theorem dX11_worst_42 : decode cX11_worst 42 = .ok (.aload_n 0, 1) := by decide +kernel
theorem dX11_worst_43 : decode cX11_worst 43 = .ok (.getfield 45, 3) := by decide +kernel
theorem dX11_worst_46 : decode cX11_worst 46 = .ok (.iload_n 1, 1) := by decide +kernel
theorem dX11_worst_47 : decode cX11_worst 47 = .ok (.iload_n 2, 1) := by decide +kernel
theorem dX11_worst_48 : decode cX11_worst 48 = .ok (.invokevirtual 297, 3) := by decide +kernel
theorem dX11_worst_51 : decode cX11_worst 51 = .ok (.i2l, 1) := by decide +kernel
theorem dX11_worst_52 : decode cX11_worst 52 = .ok (.aload_n 0, 1) := by decide +kernel
theorem dX11_worst_53 : decode cX11_worst 53 = .ok (.getfield 36, 3) := by decide +kernel
theorem dX11_worst_56 : decode cX11_worst 56 = .ok (.iload_n 3, 1) := by decide +kernel
theorem dX11_worst_57 : decode cX11_worst 57 = .ok (.invokevirtual 300, 3) := by decide +kernel
theorem dX11_worst_60 : decode cX11_worst 60 = .ok (.i2l, 1) := by decide +kernel
theorem dX11_worst_61 : decode cX11_worst 61 = .ok (.lmul, 1) := by decide +kernel
theorem dX11_worst_62 : decode cX11_worst 62 = .ok (.lstore 6, 2) := by decide +kernel
theorem dX11_worst_64 : decode cX11_worst 64 = .ok (.aload_n 0, 1) := by decide +kernel
theorem dX11_worst_65 : decode cX11_worst 65 = .ok (.getfield 36, 3) := by decide +kernel
theorem dX11_worst_68 : decode cX11_worst 68 = .ok (.iload_n 3, 1) := by decide +kernel
theorem dX11_worst_69 : decode cX11_worst 69 = .ok (.invokevirtual 300, 3) := by decide +kernel
theorem dX11_worst_72 : decode cX11_worst 72 = .ok (.ifCond .le 13, 3) := by decide +kernel
theorem dX11_worst_75 : decode cX11_worst 75 = .ok (.lload 4, 2) := by decide +kernel
theorem dX11_worst_77 : decode cX11_worst 77 = .ok (.lload 6, 2) := by decide +kernel
theorem dX11_worst_79 : decode cX11_worst 79 = .ok (.lcmp, 1) := by decide +kernel
theorem dX11_worst_80 : decode cX11_worst 80 = .ok (.ifCond .le 5, 3) := by decide +kernel
theorem dX11_worst_83 : decode cX11_worst 83 = .ok (.iload_n 3, 1) := by decide +kernel
theorem dX11_worst_84 : decode cX11_worst 84 = .ok (.istore_n 2, 1) := by decide +kernel
theorem dX11_worst_85 : decode cX11_worst 85 = .ok (.iinc 3 1, 3) := by decide +kernel
theorem dX11_worst_88 : decode cX11_worst 88 = .ok (.goto (-73), 3) := by decide +kernel
theorem dX11_worst_91 : decode cX11_worst 91 = .ok (.iload_n 2, 1) := by decide +kernel
theorem dX11_worst_92 : decode cX11_worst 92 = .ok (.ireturn, 1) := by decide +kernel
theorem dX11_image_0 : decode cX11_image 0 = .ok (.aload_n 0, 1) := by decide +kernel
theorem dX11_image_1 : decode cX11_image 1 = .ok (.invokevirtual 171, 3) := by decide +kernel
theorem dX11_image_4 : decode cX11_image 4 = .ok (.ifCond .ne 6, 3) := by decide +kernel
theorem dX11_image_7 : decode cX11_image 7 = .ok (.bipush (-103), 2) := by decide +kernel
theorem dX11_image_9 : decode cX11_image 9 = .ok (.ireturn, 1) := by decide +kernel
theorem dX11_image_10 : decode cX11_image 10 = .ok (.aload_n 0, 1) := by decide +kernel
theorem dX11_image_11 : decode cX11_image 11 = .ok (.getfield 52, 3) := by decide +kernel
theorem dX11_image_14 : decode cX11_image 14 = .ok (.aload_n 0, 1) := by decide +kernel
theorem dX11_image_15 : decode cX11_image 15 = .ok (.getfield 45, 3) := by decide +kernel
theorem dX11_image_18 : decode cX11_image 18 = .ok (.invokevirtual 205, 3) := by decide +kernel
theorem dX11_image_21 : decode cX11_image 21 = .ok (.aload_n 0, 1) := by decide +kernel
theorem dX11_image_22 : decode cX11_image 22 = .ok (.aload_n 0, 1) := by decide +kernel
theorem dX11_image_23 : decode cX11_image 23 = .ok (.getfield 96, 3) := by decide +kernel
theorem dX11_image_26 : decode cX11_image 26 = .ok (.putfield 100, 3) := by decide +kernel
theorem dX11_image_29 : decode cX11_image 29 = .ok (.aload_n 0, 1) := by decide +kernel
theorem dX11_image_30 : decode cX11_image 30 = .ok (.getfield 52, 3) := by decide +kernel
theorem dX11_image_33 : decode cX11_image 33 = .ok (.invokevirtual 178, 3) := by decide +kernel
theorem dX11_image_36 : decode cX11_image 36 = .ok (.ireturn, 1) := by decide +kernel
theorem dX11_restore_0 : decode cX11_restore 0 = .ok (.aload_n 0, 1) := by decide +kernel
theorem dX11_restore_1 : decode cX11_restore 1 = .ok (.getfield 100, 3) := by decide +kernel
theorem dX11_restore_4 : decode cX11_restore 4 = .ok (.iconst (-1), 1) := by decide +kernel
theorem dX11_restore_5 : decode cX11_restore 5 = .ok (.if_icmp .eq 14, 3) := by decide +kernel
theorem dX11_restore_8 : decode cX11_restore 8 = .ok (.aload_n 0, 1) := by decide +kernel
theorem dX11_restore_9 : decode cX11_restore 9 = .ok (.getfield 100, 3) := by decide +kernel
theorem dX11_restore_12 : decode cX11_restore 12 = .ok (.aload_n 0, 1) := by decide +kernel
theorem dX11_restore_13 : decode cX11_restore 13 = .ok (.getfield 96, 3) := by decide +kernel
theorem dX11_restore_16 : decode cX11_restore 16 = .ok (.if_icmp .eq 6, 3) := by decide +kernel
theorem dX11_restore_19 : decode cX11_restore 19 = .ok (.bipush (-103), 2) := by decide +kernel
theorem dX11_restore_21 : decode cX11_restore 21 = .ok (.ireturn, 1) := by decide +kernel
theorem dX11_restore_22 : decode cX11_restore 22 = .ok (.aload_n 0, 1) := by decide +kernel
theorem dX11_restore_23 : decode cX11_restore 23 = .ok (.getfield 45, 3) := by decide +kernel
theorem dX11_restore_26 : decode cX11_restore 26 = .ok (.aload_n 0, 1) := by decide +kernel
theorem dX11_restore_27 : decode cX11_restore 27 = .ok (.getfield 52, 3) := by decide +kernel
theorem dX11_restore_30 : decode cX11_restore 30 = .ok (.invokevirtual 205, 3) := by decide +kernel
theorem dX11_restore_33 : decode cX11_restore 33 = .ok (.aload_n 0, 1) := by decide +kernel
theorem dX11_restore_34 : decode cX11_restore 34 = .ok (.getfield 45, 3) := by decide +kernel
theorem dX11_restore_37 : decode cX11_restore 37 = .ok (.invokevirtual 178, 3) := by decide +kernel
theorem dX11_restore_40 : decode cX11_restore 40 = .ok (.ireturn, 1) := by decide +kernel
theorem dX11_count_0 : decode cX11_count 0 = .ok (.iload_n 1, 1) := by decide +kernel
theorem dX11_count_1 : decode cX11_count 1 = .ok (.tableswitch 105 0 7 #[47, 55, 63, 71, 79, 87, 95, 100], 47) := by decide +kernel
theorem dX11_count_48 : decode cX11_count 48 = .ok (.aload_n 0, 1) := by decide +kernel
theorem dX11_count_49 : decode cX11_count 49 = .ok (.getfield 36, 3) := by decide +kernel
theorem dX11_count_52 : decode cX11_count 52 = .ok (.getfield 144, 3) := by decide +kernel
theorem dX11_count_55 : decode cX11_count 55 = .ok (.ireturn, 1) := by decide +kernel
theorem dX11_count_56 : decode cX11_count 56 = .ok (.aload_n 0, 1) := by decide +kernel
theorem dX11_count_57 : decode cX11_count 57 = .ok (.getfield 45, 3) := by decide +kernel
theorem dX11_count_60 : decode cX11_count 60 = .ok (.invokevirtual 178, 3) := by decide +kernel
theorem dX11_count_63 : decode cX11_count 63 = .ok (.ireturn, 1) := by decide +kernel
theorem dX11_count_64 : decode cX11_count 64 = .ok (.aload_n 0, 1) := by decide +kernel
theorem dX11_count_65 : decode cX11_count 65 = .ok (.getfield 30, 3) := by decide +kernel
theorem dX11_count_68 : decode cX11_count 68 = .ok (.getfield 152, 3) := by decide +kernel
theorem dX11_count_71 : decode cX11_count 71 = .ok (.ireturn, 1) := by decide +kernel
theorem dX11_count_72 : decode cX11_count 72 = .ok (.aload_n 0, 1) := by decide +kernel
theorem dX11_count_73 : decode cX11_count 73 = .ok (.getfield 88, 3) := by decide +kernel
theorem dX11_count_76 : decode cX11_count 76 = .ok (.getfield 281, 3) := by decide +kernel
theorem dX11_count_79 : decode cX11_count 79 = .ok (.ireturn, 1) := by decide +kernel
theorem dX11_count_80 : decode cX11_count 80 = .ok (.aload_n 0, 1) := by decide +kernel
theorem dX11_count_81 : decode cX11_count 81 = .ok (.getfield 12, 3) := by decide +kernel
theorem dX11_count_84 : decode cX11_count 84 = .ok (.getfield 110, 3) := by decide +kernel
theorem dX11_count_87 : decode cX11_count 87 = .ok (.ireturn, 1) := by decide +kernel
theorem dX11_count_88 : decode cX11_count 88 = .ok (.aload_n 0, 1) := by decide +kernel
theorem dX11_count_89 : decode cX11_count 89 = .ok (.getfield 45, 3) := by decide +kernel
theorem dX11_count_92 : decode cX11_count 92 = .ok (.getfield 241, 3) := by decide +kernel
theorem dX11_count_95 : decode cX11_count 95 = .ok (.ireturn, 1) := by decide +kernel
theorem dX11_count_96 : decode cX11_count 96 = .ok (.aload_n 0, 1) := by decide +kernel
theorem dX11_count_97 : decode cX11_count 97 = .ok (.getfield 96, 3) := by decide +kernel
theorem dX11_count_100 : decode cX11_count 100 = .ok (.ireturn, 1) := by decide +kernel
theorem dX11_count_101 : decode cX11_count 101 = .ok (.aload_n 0, 1) := by decide +kernel
theorem dX11_count_102 : decode cX11_count 102 = .ok (.getfield 103, 3) := by decide +kernel
theorem dX11_count_105 : decode cX11_count 105 = .ok (.ireturn, 1) := by decide +kernel
theorem dX11_count_106 : decode cX11_count 106 = .ok (.bipush (-102), 2) := by decide +kernel
theorem dX11_count_108 : decode cX11_count 108 = .ok (.ireturn, 1) := by decide +kernel
theorem dX11_digest_0 : decode cX11_digest 0 = .ok (.aload_n 0, 1) := by decide +kernel
theorem dX11_digest_1 : decode cX11_digest 1 = .ok (.ldc2_w 306, 3) := by decide +kernel
theorem dX11_digest_4 : decode cX11_digest 4 = .ok (.invokevirtual 308, 3) := by decide +kernel
theorem dX11_digest_7 : decode cX11_digest 7 = .ok (.lstore_n 1, 1) := by decide +kernel
theorem dX11_digest_8 : decode cX11_digest 8 = .ok (.iconst 0, 1) := by decide +kernel
theorem dX11_digest_9 : decode cX11_digest 9 = .ok (.istore_n 3, 1) := by decide +kernel
theorem dX11_digest_10 : decode cX11_digest 10 = .ok (.iload_n 3, 1) := by decide +kernel
theorem dX11_digest_11 : decode cX11_digest 11 = .ok (.aload_n 0, 1) := by decide +kernel
theorem dX11_digest_12 : decode cX11_digest 12 = .ok (.getfield 30, 3) := by decide +kernel
theorem dX11_digest_15 : decode cX11_digest 15 = .ok (.getfield 152, 3) := by decide +kernel
theorem dX11_digest_18 : decode cX11_digest 18 = .ok (.if_icmp .ge 41, 3) := by decide +kernel
theorem dX11_digest_21 : decode cX11_digest 21 = .ok (.ldc2_w 312, 3) := by decide +kernel
theorem dX11_digest_24 : decode cX11_digest 24 = .ok (.ldc2_w 312, 3) := by decide +kernel
theorem dX11_digest_27 : decode cX11_digest 27 = .ok (.lload_n 1, 1) := by decide +kernel
theorem dX11_digest_28 : decode cX11_digest 28 = .ok (.lmul, 1) := by decide +kernel
theorem dX11_digest_29 : decode cX11_digest 29 = .ok (.aload_n 0, 1) := by decide +kernel
theorem dX11_digest_30 : decode cX11_digest 30 = .ok (.getfield 30, 3) := by decide +kernel
theorem dX11_digest_33 : decode cX11_digest 33 = .ok (.getfield 155, 3) := by decide +kernel
theorem dX11_digest_36 : decode cX11_digest 36 = .ok (.iload_n 3, 1) := by decide +kernel
theorem dX11_digest_37 : decode cX11_digest 37 = .ok (.iaload, 1) := by decide +kernel
theorem dX11_digest_38 : decode cX11_digest 38 = .ok (.i2l, 1) := by decide +kernel
theorem dX11_digest_39 : decode cX11_digest 39 = .ok (.ladd, 1) := by decide +kernel
theorem dX11_digest_40 : decode cX11_digest 40 = .ok (.lmul, 1) := by decide +kernel
theorem dX11_digest_41 : decode cX11_digest 41 = .ok (.aload_n 0, 1) := by decide +kernel
theorem dX11_digest_42 : decode cX11_digest 42 = .ok (.getfield 30, 3) := by decide +kernel
theorem dX11_digest_45 : decode cX11_digest 45 = .ok (.getfield 157, 3) := by decide +kernel
theorem dX11_digest_48 : decode cX11_digest 48 = .ok (.iload_n 3, 1) := by decide +kernel
theorem dX11_digest_49 : decode cX11_digest 49 = .ok (.iaload, 1) := by decide +kernel
theorem dX11_digest_50 : decode cX11_digest 50 = .ok (.i2l, 1) := by decide +kernel
theorem dX11_digest_51 : decode cX11_digest 51 = .ok (.ladd, 1) := by decide +kernel
theorem dX11_digest_52 : decode cX11_digest 52 = .ok (.lstore_n 1, 1) := by decide +kernel
theorem dX11_digest_53 : decode cX11_digest 53 = .ok (.iinc 3 1, 3) := by decide +kernel
theorem dX11_digest_56 : decode cX11_digest 56 = .ok (.goto (-46), 3) := by decide +kernel
theorem dX11_digest_59 : decode cX11_digest 59 = .ok (.iconst 0, 1) := by decide +kernel
theorem dX11_digest_60 : decode cX11_digest 60 = .ok (.istore_n 3, 1) := by decide +kernel
theorem dX11_digest_61 : decode cX11_digest 61 = .ok (.iload_n 3, 1) := by decide +kernel
theorem dX11_digest_62 : decode cX11_digest 62 = .ok (.aload_n 0, 1) := by decide +kernel
theorem dX11_digest_63 : decode cX11_digest 63 = .ok (.getfield 88, 3) := by decide +kernel
theorem dX11_digest_66 : decode cX11_digest 66 = .ok (.getfield 281, 3) := by decide +kernel
theorem dX11_digest_69 : decode cX11_digest 69 = .ok (.if_icmp .ge 26, 3) := by decide +kernel
theorem dX11_digest_72 : decode cX11_digest 72 = .ok (.ldc2_w 312, 3) := by decide +kernel
theorem dX11_digest_75 : decode cX11_digest 75 = .ok (.lload_n 1, 1) := by decide +kernel
theorem dX11_digest_76 : decode cX11_digest 76 = .ok (.lmul, 1) := by decide +kernel
theorem dX11_digest_77 : decode cX11_digest 77 = .ok (.aload_n 0, 1) := by decide +kernel
theorem dX11_digest_78 : decode cX11_digest 78 = .ok (.getfield 88, 3) := by decide +kernel
theorem dX11_digest_81 : decode cX11_digest 81 = .ok (.getfield 314, 3) := by decide +kernel
theorem dX11_digest_84 : decode cX11_digest 84 = .ok (.iload_n 3, 1) := by decide +kernel
theorem dX11_digest_85 : decode cX11_digest 85 = .ok (.iaload, 1) := by decide +kernel
theorem dX11_digest_86 : decode cX11_digest 86 = .ok (.i2l, 1) := by decide +kernel
theorem dX11_digest_87 : decode cX11_digest 87 = .ok (.ladd, 1) := by decide +kernel
theorem dX11_digest_88 : decode cX11_digest 88 = .ok (.lstore_n 1, 1) := by decide +kernel
theorem dX11_digest_89 : decode cX11_digest 89 = .ok (.iinc 3 1, 3) := by decide +kernel
theorem dX11_digest_92 : decode cX11_digest 92 = .ok (.goto (-31), 3) := by decide +kernel
theorem dX11_digest_95 : decode cX11_digest 95 = .ok (.aload_n 0, 1) := by decide +kernel
theorem dX11_digest_96 : decode cX11_digest 96 = .ok (.invokevirtual 171, 3) := by decide +kernel
theorem dX11_digest_99 : decode cX11_digest 99 = .ok (.ifCond .eq 18, 3) := by decide +kernel
theorem dX11_digest_102 : decode cX11_digest 102 = .ok (.ldc2_w 312, 3) := by decide +kernel
theorem dX11_digest_105 : decode cX11_digest 105 = .ok (.lload_n 1, 1) := by decide +kernel
theorem dX11_digest_106 : decode cX11_digest 106 = .ok (.lmul, 1) := by decide +kernel
theorem dX11_digest_107 : decode cX11_digest 107 = .ok (.aload_n 0, 1) := by decide +kernel
theorem dX11_digest_108 : decode cX11_digest 108 = .ok (.getfield 45, 3) := by decide +kernel
theorem dX11_digest_111 : decode cX11_digest 111 = .ok (.invokevirtual 215, 3) := by decide +kernel
theorem dX11_digest_114 : decode cX11_digest 114 = .ok (.i2l, 1) := by decide +kernel
theorem dX11_digest_115 : decode cX11_digest 115 = .ok (.ladd, 1) := by decide +kernel
theorem dX11_digest_116 : decode cX11_digest 116 = .ok (.lstore_n 1, 1) := by decide +kernel
theorem dX11_digest_117 : decode cX11_digest 117 = .ok (.aload_n 0, 1) := by decide +kernel
theorem dX11_digest_118 : decode cX11_digest 118 = .ok (.invokevirtual 244, 3) := by decide +kernel
theorem dX11_digest_121 : decode cX11_digest 121 = .ok (.ifCond .eq 17, 3) := by decide +kernel
theorem dX11_digest_124 : decode cX11_digest 124 = .ok (.ldc2_w 312, 3) := by decide +kernel
theorem dX11_digest_127 : decode cX11_digest 127 = .ok (.lload_n 1, 1) := by decide +kernel
theorem dX11_digest_128 : decode cX11_digest 128 = .ok (.lmul, 1) := by decide +kernel
theorem dX11_digest_129 : decode cX11_digest 129 = .ok (.aload_n 0, 1) := by decide +kernel
theorem dX11_digest_130 : decode cX11_digest 130 = .ok (.iconst 3, 1) := by decide +kernel
theorem dX11_digest_131 : decode cX11_digest 131 = .ok (.iconst 4, 1) := by decide +kernel
theorem dX11_digest_132 : decode cX11_digest 132 = .ok (.invokevirtual 317, 3) := by decide +kernel
theorem dX11_digest_135 : decode cX11_digest 135 = .ok (.i2l, 1) := by decide +kernel
theorem dX11_digest_136 : decode cX11_digest 136 = .ok (.ladd, 1) := by decide +kernel
theorem dX11_digest_137 : decode cX11_digest 137 = .ok (.lstore_n 1, 1) := by decide +kernel
theorem dX11_digest_138 : decode cX11_digest 138 = .ok (.iconst 0, 1) := by decide +kernel
theorem dX11_digest_139 : decode cX11_digest 139 = .ok (.istore_n 3, 1) := by decide +kernel
theorem dX11_digest_140 : decode cX11_digest 140 = .ok (.iload_n 3, 1) := by decide +kernel
theorem dX11_digest_141 : decode cX11_digest 141 = .ok (.aload_n 0, 1) := by decide +kernel
theorem dX11_digest_142 : decode cX11_digest 142 = .ok (.getfield 12, 3) := by decide +kernel
theorem dX11_digest_145 : decode cX11_digest 145 = .ok (.getfield 110, 3) := by decide +kernel
theorem dX11_digest_148 : decode cX11_digest 148 = .ok (.if_icmp .ge 26, 3) := by decide +kernel
theorem dX11_digest_151 : decode cX11_digest 151 = .ok (.ldc2_w 312, 3) := by decide +kernel
theorem dX11_digest_154 : decode cX11_digest 154 = .ok (.lload_n 1, 1) := by decide +kernel
theorem dX11_digest_155 : decode cX11_digest 155 = .ok (.lmul, 1) := by decide +kernel
theorem dX11_digest_156 : decode cX11_digest 156 = .ok (.aload_n 0, 1) := by decide +kernel
theorem dX11_digest_157 : decode cX11_digest 157 = .ok (.getfield 12, 3) := by decide +kernel
theorem dX11_digest_160 : decode cX11_digest 160 = .ok (.getfield 320, 3) := by decide +kernel
theorem dX11_digest_163 : decode cX11_digest 163 = .ok (.iload_n 3, 1) := by decide +kernel
theorem dX11_digest_164 : decode cX11_digest 164 = .ok (.iaload, 1) := by decide +kernel
theorem dX11_digest_165 : decode cX11_digest 165 = .ok (.i2l, 1) := by decide +kernel
theorem dX11_digest_166 : decode cX11_digest 166 = .ok (.ladd, 1) := by decide +kernel
theorem dX11_digest_167 : decode cX11_digest 167 = .ok (.lstore_n 1, 1) := by decide +kernel
theorem dX11_digest_168 : decode cX11_digest 168 = .ok (.iinc 3 1, 3) := by decide +kernel
theorem dX11_digest_171 : decode cX11_digest 171 = .ok (.goto (-31), 3) := by decide +kernel
theorem dX11_digest_174 : decode cX11_digest 174 = .ok (.iconst 0, 1) := by decide +kernel
theorem dX11_digest_175 : decode cX11_digest 175 = .ok (.istore_n 3, 1) := by decide +kernel
theorem dX11_digest_176 : decode cX11_digest 176 = .ok (.iload_n 3, 1) := by decide +kernel
theorem dX11_digest_177 : decode cX11_digest 177 = .ok (.bipush 8, 2) := by decide +kernel
theorem dX11_digest_179 : decode cX11_digest 179 = .ok (.if_icmp .ge 22, 3) := by decide +kernel
theorem dX11_digest_182 : decode cX11_digest 182 = .ok (.ldc2_w 312, 3) := by decide +kernel
theorem dX11_digest_185 : decode cX11_digest 185 = .ok (.lload_n 1, 1) := by decide +kernel
theorem dX11_digest_186 : decode cX11_digest 186 = .ok (.lmul, 1) := by decide +kernel
theorem dX11_digest_187 : decode cX11_digest 187 = .ok (.aload_n 0, 1) := by decide +kernel
theorem dX11_digest_188 : decode cX11_digest 188 = .ok (.iload_n 3, 1) := by decide +kernel
theorem dX11_digest_189 : decode cX11_digest 189 = .ok (.invokevirtual 323, 3) := by decide +kernel
theorem dX11_digest_192 : decode cX11_digest 192 = .ok (.i2l, 1) := by decide +kernel
theorem dX11_digest_193 : decode cX11_digest 193 = .ok (.ladd, 1) := by decide +kernel
theorem dX11_digest_194 : decode cX11_digest 194 = .ok (.lstore_n 1, 1) := by decide +kernel
theorem dX11_digest_195 : decode cX11_digest 195 = .ok (.iinc 3 1, 3) := by decide +kernel
theorem dX11_digest_198 : decode cX11_digest 198 = .ok (.goto (-22), 3) := by decide +kernel
theorem dX11_digest_201 : decode cX11_digest 201 = .ok (.lload_n 1, 1) := by decide +kernel
theorem dX11_digest_202 : decode cX11_digest 202 = .ok (.lreturn, 1) := by decide +kernel
theorem dX11_digestOfCells_0 : decode cX11_digestOfCells 0 = .ok (.lload_n 1, 1) := by decide +kernel
theorem dX11_digestOfCells_1 : decode cX11_digestOfCells 1 = .ok (.lstore_n 3, 1) := by decide +kernel
theorem dX11_digestOfCells_2 : decode cX11_digestOfCells 2 = .ok (.aload_n 0, 1) := by decide +kernel
theorem dX11_digestOfCells_3 : decode cX11_digestOfCells 3 = .ok (.getfield 72, 3) := by decide +kernel
theorem dX11_digestOfCells_6 : decode cX11_digestOfCells 6 = .ok (.aload_n 0, 1) := by decide +kernel
theorem dX11_digestOfCells_7 : decode cX11_digestOfCells 7 = .ok (.getfield 45, 3) := by decide +kernel
theorem dX11_digestOfCells_10 : decode cX11_digestOfCells 10 = .ok (.invokevirtual 234, 3) := by decide +kernel
theorem dX11_digestOfCells_13 : decode cX11_digestOfCells 13 = .ok (.iconst 0, 1) := by decide +kernel
theorem dX11_digestOfCells_14 : decode cX11_digestOfCells 14 = .ok (.istore 5, 2) := by decide +kernel
theorem dX11_digestOfCells_16 : decode cX11_digestOfCells 16 = .ok (.iload 5, 2) := by decide +kernel
theorem dX11_digestOfCells_18 : decode cX11_digestOfCells 18 = .ok (.aload_n 0, 1) := by decide +kernel
theorem dX11_digestOfCells_19 : decode cX11_digestOfCells 19 = .ok (.getfield 36, 3) := by decide +kernel
theorem dX11_digestOfCells_22 : decode cX11_digestOfCells 22 = .ok (.getfield 144, 3) := by decide +kernel
theorem dX11_digestOfCells_25 : decode cX11_digestOfCells 25 = .ok (.if_icmp .ge 65, 3) := by decide +kernel
theorem dX11_digestOfCells_28 : decode cX11_digestOfCells 28 = .ok (.iconst 0, 1) := by decide +kernel
theorem dX11_digestOfCells_29 : decode cX11_digestOfCells 29 = .ok (.istore 6, 2) := by decide +kernel
theorem dX11_digestOfCells_31 : decode cX11_digestOfCells 31 = .ok (.iload 6, 2) := by decide +kernel
theorem dX11_digestOfCells_33 : decode cX11_digestOfCells 33 = .ok (.bipush 6, 2) := by decide +kernel
theorem dX11_digestOfCells_35 : decode cX11_digestOfCells 35 = .ok (.if_icmp .ge 28, 3) := by decide +kernel
theorem dX11_digestOfCells_38 : decode cX11_digestOfCells 38 = .ok (.ldc2_w 312, 3) := by decide +kernel
theorem dX11_digestOfCells_41 : decode cX11_digestOfCells 41 = .ok (.lload_n 3, 1) := by decide +kernel
theorem dX11_digestOfCells_42 : decode cX11_digestOfCells 42 = .ok (.lmul, 1) := by decide +kernel
theorem dX11_digestOfCells_43 : decode cX11_digestOfCells 43 = .ok (.aload_n 0, 1) := by decide +kernel
theorem dX11_digestOfCells_44 : decode cX11_digestOfCells 44 = .ok (.getfield 45, 3) := by decide +kernel
theorem dX11_digestOfCells_47 : decode cX11_digestOfCells 47 = .ok (.iload 5, 2) := by decide +kernel
theorem dX11_digestOfCells_49 : decode cX11_digestOfCells 49 = .ok (.iload 6, 2) := by decide +kernel
theorem dX11_digestOfCells_51 : decode cX11_digestOfCells 51 = .ok (.invokevirtual 163, 3) := by decide +kernel
theorem dX11_digestOfCells_54 : decode cX11_digestOfCells 54 = .ok (.i2l, 1) := by decide +kernel
theorem dX11_digestOfCells_55 : decode cX11_digestOfCells 55 = .ok (.ladd, 1) := by decide +kernel
theorem dX11_digestOfCells_56 : decode cX11_digestOfCells 56 = .ok (.lstore_n 3, 1) := by decide +kernel
theorem dX11_digestOfCells_57 : decode cX11_digestOfCells 57 = .ok (.iinc 6 1, 3) := by decide +kernel
theorem dX11_digestOfCells_60 : decode cX11_digestOfCells 60 = .ok (.goto (-29), 3) := by decide +kernel
theorem dX11_digestOfCells_63 : decode cX11_digestOfCells 63 = .ok (.ldc2_w 312, 3) := by decide +kernel
theorem dX11_digestOfCells_66 : decode cX11_digestOfCells 66 = .ok (.lload_n 3, 1) := by decide +kernel
theorem dX11_digestOfCells_67 : decode cX11_digestOfCells 67 = .ok (.lmul, 1) := by decide +kernel
theorem dX11_digestOfCells_68 : decode cX11_digestOfCells 68 = .ok (.aload_n 0, 1) := by decide +kernel
theorem dX11_digestOfCells_69 : decode cX11_digestOfCells 69 = .ok (.getfield 72, 3) := by decide +kernel
theorem dX11_digestOfCells_72 : decode cX11_digestOfCells 72 = .ok (.aload_n 0, 1) := by decide +kernel
theorem dX11_digestOfCells_73 : decode cX11_digestOfCells 73 = .ok (.getfield 45, 3) := by decide +kernel
theorem dX11_digestOfCells_76 : decode cX11_digestOfCells 76 = .ok (.iload 5, 2) := by decide +kernel
theorem dX11_digestOfCells_78 : decode cX11_digestOfCells 78 = .ok (.invokevirtual 237, 3) := by decide +kernel
theorem dX11_digestOfCells_81 : decode cX11_digestOfCells 81 = .ok (.i2l, 1) := by decide +kernel
theorem dX11_digestOfCells_82 : decode cX11_digestOfCells 82 = .ok (.ladd, 1) := by decide +kernel
theorem dX11_digestOfCells_83 : decode cX11_digestOfCells 83 = .ok (.lstore_n 3, 1) := by decide +kernel
theorem dX11_digestOfCells_84 : decode cX11_digestOfCells 84 = .ok (.iinc 5 1, 3) := by decide +kernel
theorem dX11_digestOfCells_87 : decode cX11_digestOfCells 87 = .ok (.goto (-71), 3) := by decide +kernel
theorem dX11_digestOfCells_90 : decode cX11_digestOfCells 90 = .ok (.lload_n 3, 1) := by decide +kernel
theorem dX11_digestOfCells_91 : decode cX11_digestOfCells 91 = .ok (.lreturn, 1) := by decide +kernel
theorem dX11_findMendable_0 : decode cX11_findMendable 0 = .ok (.iconst 0, 1) := by decide +kernel
theorem dX11_findMendable_1 : decode cX11_findMendable 1 = .ok (.istore_n 1, 1) := by decide +kernel
theorem dX11_findMendable_2 : decode cX11_findMendable 2 = .ok (.iconst 0, 1) := by decide +kernel
theorem dX11_findMendable_3 : decode cX11_findMendable 3 = .ok (.istore_n 2, 1) := by decide +kernel
theorem dX11_findMendable_4 : decode cX11_findMendable 4 = .ok (.iload_n 2, 1) := by decide +kernel
theorem dX11_findMendable_5 : decode cX11_findMendable 5 = .ok (.aload_n 0, 1) := by decide +kernel
theorem dX11_findMendable_6 : decode cX11_findMendable 6 = .ok (.getfield 36, 3) := by decide +kernel
theorem dX11_findMendable_9 : decode cX11_findMendable 9 = .ok (.getfield 144, 3) := by decide +kernel
theorem dX11_findMendable_12 : decode cX11_findMendable 12 = .ok (.if_icmp .ge 36, 3) := by decide +kernel
theorem dX11_findMendable_15 : decode cX11_findMendable 15 = .ok (.iload_n 1, 1) := by decide +kernel
theorem dX11_findMendable_16 : decode cX11_findMendable 16 = .ok (.bipush 8, 2) := by decide +kernel
theorem dX11_findMendable_18 : decode cX11_findMendable 18 = .ok (.if_icmp .ge 30, 3) := by decide +kernel
theorem dX11_findMendable_21 : decode cX11_findMendable 21 = .ok (.aload_n 0, 1) := by decide +kernel
theorem dX11_findMendable_22 : decode cX11_findMendable 22 = .ok (.getfield 45, 3) := by decide +kernel
theorem dX11_findMendable_25 : decode cX11_findMendable 25 = .ok (.iload_n 2, 1) := by decide +kernel
theorem dX11_findMendable_26 : decode cX11_findMendable 26 = .ok (.invokevirtual 257, 3) := by decide +kernel
theorem dX11_findMendable_29 : decode cX11_findMendable 29 = .ok (.ifCond .eq 13, 3) := by decide +kernel
theorem dX11_findMendable_32 : decode cX11_findMendable 32 = .ok (.aload_n 0, 1) := by decide +kernel
theorem dX11_findMendable_33 : decode cX11_findMendable 33 = .ok (.getfield 92, 3) := by decide +kernel
theorem dX11_findMendable_36 : decode cX11_findMendable 36 = .ok (.iload_n 1, 1) := by decide +kernel
theorem dX11_findMendable_37 : decode cX11_findMendable 37 = .ok (.iload_n 2, 1) := by decide +kernel
theorem dX11_findMendable_38 : decode cX11_findMendable 38 = .ok (.iastore, 1) := by decide +kernel
theorem dX11_findMendable_39 : decode cX11_findMendable 39 = .ok (.iinc 1 1, 3) := by decide +kernel
theorem dX11_findMendable_42 : decode cX11_findMendable 42 = .ok (.iinc 2 1, 3) := by decide +kernel
theorem dX11_findMendable_45 : decode cX11_findMendable 45 = .ok (.goto (-41), 3) := by decide +kernel
theorem dX11_findMendable_48 : decode cX11_findMendable 48 = .ok (.iload_n 1, 1) := by decide +kernel
theorem dX11_findMendable_49 : decode cX11_findMendable 49 = .ok (.ireturn, 1) := by decide +kernel
theorem dX11_lostWith_0 : decode cX11_lostWith 0 = .ok (.aload_n 0, 1) := by decide +kernel
theorem dX11_lostWith_1 : decode cX11_lostWith 1 = .ok (.getfield 49, 3) := by decide +kernel
theorem dX11_lostWith_4 : decode cX11_lostWith 4 = .ok (.aload_n 0, 1) := by decide +kernel
theorem dX11_lostWith_5 : decode cX11_lostWith 5 = .ok (.getfield 45, 3) := by decide +kernel
theorem dX11_lostWith_8 : decode cX11_lostWith 8 = .ok (.invokevirtual 205, 3) := by decide +kernel
theorem dX11_lostWith_11 : decode cX11_lostWith 11 = .ok (.iconst 0, 1) := by decide +kernel
theorem dX11_lostWith_12 : decode cX11_lostWith 12 = .ok (.istore 5, 2) := by decide +kernel
theorem dX11_lostWith_14 : decode cX11_lostWith 14 = .ok (.iload 5, 2) := by decide +kernel
theorem dX11_lostWith_16 : decode cX11_lostWith 16 = .ok (.iload_n 2, 1) := by decide +kernel
theorem dX11_lostWith_17 : decode cX11_lostWith 17 = .ok (.if_icmp .ge 34, 3) := by decide +kernel
theorem dX11_lostWith_20 : decode cX11_lostWith 20 = .ok (.iload_n 1, 1) := by decide +kernel
theorem dX11_lostWith_21 : decode cX11_lostWith 21 = .ok (.iload 5, 2) := by decide +kernel
theorem dX11_lostWith_23 : decode cX11_lostWith 23 = .ok (.ishr, 1) := by decide +kernel
theorem dX11_lostWith_24 : decode cX11_lostWith 24 = .ok (.iconst 1, 1) := by decide +kernel
theorem dX11_lostWith_25 : decode cX11_lostWith 25 = .ok (.iand, 1) := by decide +kernel
theorem dX11_lostWith_26 : decode cX11_lostWith 26 = .ok (.iconst 1, 1) := by decide +kernel
theorem dX11_lostWith_27 : decode cX11_lostWith 27 = .ok (.if_icmp .ne 18, 3) := by decide +kernel
theorem dX11_lostWith_30 : decode cX11_lostWith 30 = .ok (.aload_n 0, 1) := by decide +kernel
theorem dX11_lostWith_31 : decode cX11_lostWith 31 = .ok (.getfield 49, 3) := by decide +kernel
theorem dX11_lostWith_34 : decode cX11_lostWith 34 = .ok (.aload_n 0, 1) := by decide +kernel
theorem dX11_lostWith_35 : decode cX11_lostWith 35 = .ok (.getfield 92, 3) := by decide +kernel
theorem dX11_lostWith_38 : decode cX11_lostWith 38 = .ok (.iload 5, 2) := by decide +kernel
theorem dX11_lostWith_40 : decode cX11_lostWith 40 = .ok (.iaload, 1) := by decide +kernel
theorem dX11_lostWith_41 : decode cX11_lostWith 41 = .ok (.iconst 5, 1) := by decide +kernel
theorem dX11_lostWith_42 : decode cX11_lostWith 42 = .ok (.invokevirtual 260, 3) := by decide +kernel
theorem dX11_lostWith_45 : decode cX11_lostWith 45 = .ok (.iinc 5 1, 3) := by decide +kernel
theorem dX11_lostWith_48 : decode cX11_lostWith 48 = .ok (.goto (-34), 3) := by decide +kernel
theorem dX11_lostWith_51 : decode cX11_lostWith 51 = .ok (.aload_n 0, 1) := by decide +kernel
theorem dX11_lostWith_52 : decode cX11_lostWith 52 = .ok (.getfield 81, 3) := by decide +kernel
theorem dX11_lostWith_55 : decode cX11_lostWith 55 = .ok (.aload_n 0, 1) := by decide +kernel
theorem dX11_lostWith_56 : decode cX11_lostWith 56 = .ok (.getfield 49, 3) := by decide +kernel
theorem dX11_lostWith_59 : decode cX11_lostWith 59 = .ok (.aload_n 0, 1) := by decide +kernel
theorem dX11_lostWith_60 : decode cX11_lostWith 60 = .ok (.getfield 30, 3) := by decide +kernel
theorem dX11_lostWith_63 : decode cX11_lostWith 63 = .ok (.iload_n 3, 1) := by decide +kernel
theorem dX11_lostWith_64 : decode cX11_lostWith 64 = .ok (.iload 4, 2) := by decide +kernel
theorem dX11_lostWith_66 : decode cX11_lostWith 66 = .ok (.invokevirtual 250, 3) := by decide +kernel
theorem dX11_lostWith_69 : decode cX11_lostWith 69 = .ok (.ireturn, 1) := by decide +kernel
theorem dX11_hasStreet_0 : decode cX11_hasStreet 0 = .ok (.aload_n 0, 1) := by decide +kernel
theorem dX11_hasStreet_1 : decode cX11_hasStreet 1 = .ok (.getfield 36, 3) := by decide +kernel
theorem dX11_hasStreet_4 : decode cX11_hasStreet 4 = .ok (.getfield 144, 3) := by decide +kernel
theorem dX11_hasStreet_7 : decode cX11_hasStreet 7 = .ok (.ifCond .le 7, 3) := by decide +kernel
theorem dX11_hasStreet_10 : decode cX11_hasStreet 10 = .ok (.iconst 1, 1) := by decide +kernel
theorem dX11_hasStreet_11 : decode cX11_hasStreet 11 = .ok (.goto 4, 3) := by decide +kernel
theorem dX11_hasStreet_14 : decode cX11_hasStreet 14 = .ok (.iconst 0, 1) := by decide +kernel
theorem dX11_hasStreet_15 : decode cX11_hasStreet 15 = .ok (.ireturn, 1) := by decide +kernel
theorem dX11_hasTraffic_0 : decode cX11_hasTraffic 0 = .ok (.aload_n 0, 1) := by decide +kernel
theorem dX11_hasTraffic_1 : decode cX11_hasTraffic 1 = .ok (.invokevirtual 171, 3) := by decide +kernel
theorem dX11_hasTraffic_4 : decode cX11_hasTraffic 4 = .ok (.ifCond .eq 17, 3) := by decide +kernel
theorem dX11_hasTraffic_7 : decode cX11_hasTraffic 7 = .ok (.aload_n 0, 1) := by decide +kernel
theorem dX11_hasTraffic_8 : decode cX11_hasTraffic 8 = .ok (.getfield 30, 3) := by decide +kernel
theorem dX11_hasTraffic_11 : decode cX11_hasTraffic 11 = .ok (.getfield 152, 3) := by decide +kernel
theorem dX11_hasTraffic_14 : decode cX11_hasTraffic 14 = .ok (.ifCond .le 7, 3) := by decide +kernel
theorem dX11_hasTraffic_17 : decode cX11_hasTraffic 17 = .ok (.iconst 1, 1) := by decide +kernel
theorem dX11_hasTraffic_18 : decode cX11_hasTraffic 18 = .ok (.goto 4, 3) := by decide +kernel
theorem dX11_hasTraffic_21 : decode cX11_hasTraffic 21 = .ok (.iconst 0, 1) := by decide +kernel
theorem dX11_hasTraffic_22 : decode cX11_hasTraffic 22 = .ok (.ireturn, 1) := by decide +kernel
theorem dX11_isCell_0 : decode cX11_isCell 0 = .ok (.iload_n 1, 1) := by decide +kernel
theorem dX11_isCell_1 : decode cX11_isCell 1 = .ok (.ifCond .lt 18, 3) := by decide +kernel
theorem dX11_isCell_4 : decode cX11_isCell 4 = .ok (.iload_n 1, 1) := by decide +kernel
theorem dX11_isCell_5 : decode cX11_isCell 5 = .ok (.aload_n 0, 1) := by decide +kernel
theorem dX11_isCell_6 : decode cX11_isCell 6 = .ok (.getfield 36, 3) := by decide +kernel
theorem dX11_isCell_9 : decode cX11_isCell 9 = .ok (.getfield 144, 3) := by decide +kernel
theorem dX11_isCell_12 : decode cX11_isCell 12 = .ok (.if_icmp .ge 7, 3) := by decide +kernel
theorem dX11_isCell_15 : decode cX11_isCell 15 = .ok (.iconst 1, 1) := by decide +kernel
theorem dX11_isCell_16 : decode cX11_isCell 16 = .ok (.goto 4, 3) := by decide +kernel
theorem dX11_isCell_19 : decode cX11_isCell 19 = .ok (.iconst 0, 1) := by decide +kernel
theorem dX11_isCell_20 : decode cX11_isCell 20 = .ok (.ireturn, 1) := by decide +kernel
theorem dX11_isStone_0 : decode cX11_isStone 0 = .ok (.aload_n 0, 1) := by decide +kernel
theorem dX11_isStone_1 : decode cX11_isStone 1 = .ok (.iload_n 1, 1) := by decide +kernel
theorem dX11_isStone_2 : decode cX11_isStone 2 = .ok (.invokevirtual 159, 3) := by decide +kernel
theorem dX11_isStone_5 : decode cX11_isStone 5 = .ok (.ifCond .eq 20, 3) := by decide +kernel
theorem dX11_isStone_8 : decode cX11_isStone 8 = .ok (.aload_n 0, 1) := by decide +kernel
theorem dX11_isStone_9 : decode cX11_isStone 9 = .ok (.getfield 45, 3) := by decide +kernel
theorem dX11_isStone_12 : decode cX11_isStone 12 = .ok (.getfield 263, 3) := by decide +kernel
theorem dX11_isStone_15 : decode cX11_isStone 15 = .ok (.iload_n 1, 1) := by decide +kernel
theorem dX11_isStone_16 : decode cX11_isStone 16 = .ok (.iaload, 1) := by decide +kernel
theorem dX11_isStone_17 : decode cX11_isStone 17 = .ok (.iconst (-1), 1) := by decide +kernel
theorem dX11_isStone_18 : decode cX11_isStone 18 = .ok (.if_icmp .eq 7, 3) := by decide +kernel
theorem dX11_isStone_21 : decode cX11_isStone 21 = .ok (.iconst 1, 1) := by decide +kernel
theorem dX11_isStone_22 : decode cX11_isStone 22 = .ok (.goto 4, 3) := by decide +kernel
theorem dX11_isStone_25 : decode cX11_isStone 25 = .ok (.iconst 0, 1) := by decide +kernel
theorem dX11_isStone_26 : decode cX11_isStone 26 = .ok (.ireturn, 1) := by decide +kernel
theorem dX11_isRow_0 : decode cX11_isRow 0 = .ok (.iload_n 1, 1) := by decide +kernel
theorem dX11_isRow_1 : decode cX11_isRow 1 = .ok (.ifCond .lt 18, 3) := by decide +kernel
theorem dX11_isRow_4 : decode cX11_isRow 4 = .ok (.iload_n 1, 1) := by decide +kernel
theorem dX11_isRow_5 : decode cX11_isRow 5 = .ok (.aload_n 0, 1) := by decide +kernel
theorem dX11_isRow_6 : decode cX11_isRow 6 = .ok (.getfield 36, 3) := by decide +kernel
theorem dX11_isRow_9 : decode cX11_isRow 9 = .ok (.getfield 326, 3) := by decide +kernel
theorem dX11_isRow_12 : decode cX11_isRow 12 = .ok (.if_icmp .ge 7, 3) := by decide +kernel
theorem dX11_isRow_15 : decode cX11_isRow 15 = .ok (.iconst 1, 1) := by decide +kernel
theorem dX11_isRow_16 : decode cX11_isRow 16 = .ok (.goto 4, 3) := by decide +kernel
theorem dX11_isRow_19 : decode cX11_isRow 19 = .ok (.iconst 0, 1) := by decide +kernel
theorem dX11_isRow_20 : decode cX11_isRow 20 = .ok (.ireturn, 1) := by decide +kernel
theorem dX11_isWeight_0 : decode cX11_isWeight 0 = .ok (.iload_n 0, 1) := by decide +kernel
theorem dX11_isWeight_1 : decode cX11_isWeight 1 = .ok (.iconst 1, 1) := by decide +kernel
theorem dX11_isWeight_2 : decode cX11_isWeight 2 = .ok (.if_icmp .lt 13, 3) := by decide +kernel
theorem dX11_isWeight_5 : decode cX11_isWeight 5 = .ok (.iload_n 0, 1) := by decide +kernel
theorem dX11_isWeight_6 : decode cX11_isWeight 6 = .ok (.bipush 99, 2) := by decide +kernel
theorem dX11_isWeight_8 : decode cX11_isWeight 8 = .ok (.if_icmp .gt 7, 3) := by decide +kernel
theorem dX11_isWeight_11 : decode cX11_isWeight 11 = .ok (.iconst 1, 1) := by decide +kernel
theorem dX11_isWeight_12 : decode cX11_isWeight 12 = .ok (.goto 4, 3) := by decide +kernel
theorem dX11_isWeight_15 : decode cX11_isWeight 15 = .ok (.iconst 0, 1) := by decide +kernel
theorem dX11_isWeight_16 : decode cX11_isWeight 16 = .ok (.ireturn, 1) := by decide +kernel
theorem dX11_isOrder_0 : decode cX11_isOrder 0 = .ok (.iload_n 0, 1) := by decide +kernel
theorem dX11_isOrder_1 : decode cX11_isOrder 1 = .ok (.ifCond .lt 12, 3) := by decide +kernel
theorem dX11_isOrder_4 : decode cX11_isOrder 4 = .ok (.iload_n 0, 1) := by decide +kernel
theorem dX11_isOrder_5 : decode cX11_isOrder 5 = .ok (.iconst 4, 1) := by decide +kernel
theorem dX11_isOrder_6 : decode cX11_isOrder 6 = .ok (.if_icmp .ge 7, 3) := by decide +kernel
theorem dX11_isOrder_9 : decode cX11_isOrder 9 = .ok (.iconst 1, 1) := by decide +kernel
theorem dX11_isOrder_10 : decode cX11_isOrder 10 = .ok (.goto 4, 3) := by decide +kernel
theorem dX11_isOrder_13 : decode cX11_isOrder 13 = .ok (.iconst 0, 1) := by decide +kernel
theorem dX11_isOrder_14 : decode cX11_isOrder 14 = .ok (.ireturn, 1) := by decide +kernel
theorem dX11_isLoad_0 : decode cX11_isLoad 0 = .ok (.iload_n 0, 1) := by decide +kernel
theorem dX11_isLoad_1 : decode cX11_isLoad 1 = .ok (.iconst 1, 1) := by decide +kernel
theorem dX11_isLoad_2 : decode cX11_isLoad 2 = .ok (.if_icmp .lt 14, 3) := by decide +kernel
theorem dX11_isLoad_5 : decode cX11_isLoad 5 = .ok (.iload_n 0, 1) := by decide +kernel
theorem dX11_isLoad_6 : decode cX11_isLoad 6 = .ok (.sipush 9999, 3) := by decide +kernel
theorem dX11_isLoad_9 : decode cX11_isLoad 9 = .ok (.if_icmp .gt 7, 3) := by decide +kernel
theorem dX11_isLoad_12 : decode cX11_isLoad 12 = .ok (.iconst 1, 1) := by decide +kernel
theorem dX11_isLoad_13 : decode cX11_isLoad 13 = .ok (.goto 4, 3) := by decide +kernel
theorem dX11_isLoad_16 : decode cX11_isLoad 16 = .ok (.iconst 0, 1) := by decide +kernel
theorem dX11_isLoad_17 : decode cX11_isLoad 17 = .ok (.ireturn, 1) := by decide +kernel
theorem dX11_isSize_0 : decode cX11_isSize 0 = .ok (.iload_n 0, 1) := by decide +kernel
theorem dX11_isSize_1 : decode cX11_isSize 1 = .ok (.iconst 1, 1) := by decide +kernel
theorem dX11_isSize_2 : decode cX11_isSize 2 = .ok (.if_icmp .lt 13, 3) := by decide +kernel
theorem dX11_isSize_5 : decode cX11_isSize 5 = .ok (.iload_n 0, 1) := by decide +kernel
theorem dX11_isSize_6 : decode cX11_isSize 6 = .ok (.bipush 9, 2) := by decide +kernel
theorem dX11_isSize_8 : decode cX11_isSize 8 = .ok (.if_icmp .gt 7, 3) := by decide +kernel
theorem dX11_isSize_11 : decode cX11_isSize 11 = .ok (.iconst 1, 1) := by decide +kernel
theorem dX11_isSize_12 : decode cX11_isSize 12 = .ok (.goto 4, 3) := by decide +kernel
theorem dX11_isSize_15 : decode cX11_isSize 15 = .ok (.iconst 0, 1) := by decide +kernel
theorem dX11_isSize_16 : decode cX11_isSize 16 = .ok (.ireturn, 1) := by decide +kernel
theorem dX11_areYears_0 : decode cX11_areYears 0 = .ok (.iload_n 0, 1) := by decide +kernel
theorem dX11_areYears_1 : decode cX11_areYears 1 = .ok (.iconst 1, 1) := by decide +kernel
theorem dX11_areYears_2 : decode cX11_areYears 2 = .ok (.if_icmp .lt 23, 3) := by decide +kernel
theorem dX11_areYears_5 : decode cX11_areYears 5 = .ok (.iload_n 0, 1) := by decide +kernel
theorem dX11_areYears_6 : decode cX11_areYears 6 = .ok (.bipush 20, 2) := by decide +kernel
theorem dX11_areYears_8 : decode cX11_areYears 8 = .ok (.if_icmp .gt 17, 3) := by decide +kernel
theorem dX11_areYears_11 : decode cX11_areYears 11 = .ok (.iload_n 1, 1) := by decide +kernel
theorem dX11_areYears_12 : decode cX11_areYears 12 = .ok (.ifCond .lt 13, 3) := by decide +kernel
theorem dX11_areYears_15 : decode cX11_areYears 15 = .ok (.iload_n 1, 1) := by decide +kernel
theorem dX11_areYears_16 : decode cX11_areYears 16 = .ok (.bipush 10, 2) := by decide +kernel
theorem dX11_areYears_18 : decode cX11_areYears 18 = .ok (.if_icmp .gt 7, 3) := by decide +kernel
theorem dX11_areYears_21 : decode cX11_areYears 21 = .ok (.iconst 1, 1) := by decide +kernel
theorem dX11_areYears_22 : decode cX11_areYears 22 = .ok (.goto 4, 3) := by decide +kernel
theorem dX11_areYears_25 : decode cX11_areYears 25 = .ok (.iconst 0, 1) := by decide +kernel
theorem dX11_areYears_26 : decode cX11_areYears 26 = .ok (.ireturn, 1) := by decide +kernel
theorem dX11_byteOf_0 : decode cX11_byteOf 0 = .ok (.lload_n 0, 1) := by decide +kernel
theorem dX11_byteOf_1 : decode cX11_byteOf 1 = .ok (.bipush 8, 2) := by decide +kernel
theorem dX11_byteOf_3 : decode cX11_byteOf 3 = .ok (.iload_n 2, 1) := by decide +kernel
theorem dX11_byteOf_4 : decode cX11_byteOf 4 = .ok (.imul, 1) := by decide +kernel
theorem dX11_byteOf_5 : decode cX11_byteOf 5 = .ok (.lushr, 1) := by decide +kernel
theorem dX11_byteOf_6 : decode cX11_byteOf 6 = .ok (.l2i, 1) := by decide +kernel
theorem dX11_byteOf_7 : decode cX11_byteOf 7 = .ok (.sipush 255, 3) := by decide +kernel
theorem dX11_byteOf_10 : decode cX11_byteOf 10 = .ok (.iand, 1) := by decide +kernel
theorem dX11_byteOf_11 : decode cX11_byteOf 11 = .ok (.ireturn, 1) := by decide +kernel
theorem dX11_lettersIn_0 : decode cX11_lettersIn 0 = .ok (.iconst 0, 1) := by decide +kernel
theorem dX11_lettersIn_1 : decode cX11_lettersIn 1 = .ok (.istore_n 2, 1) := by decide +kernel
theorem dX11_lettersIn_2 : decode cX11_lettersIn 2 = .ok (.iconst 0, 1) := by decide +kernel
theorem dX11_lettersIn_3 : decode cX11_lettersIn 3 = .ok (.istore_n 3, 1) := by decide +kernel
theorem dX11_lettersIn_4 : decode cX11_lettersIn 4 = .ok (.iload_n 3, 1) := by decide +kernel
theorem dX11_lettersIn_5 : decode cX11_lettersIn 5 = .ok (.bipush 8, 2) := by decide +kernel
theorem dX11_lettersIn_7 : decode cX11_lettersIn 7 = .ok (.if_icmp .ge 43, 3) := by decide +kernel
theorem dX11_lettersIn_10 : decode cX11_lettersIn 10 = .ok (.lload_n 0, 1) := by decide +kernel
theorem dX11_lettersIn_11 : decode cX11_lettersIn 11 = .ok (.iload_n 3, 1) := by decide +kernel
theorem dX11_lettersIn_12 : decode cX11_lettersIn 12 = .ok (.invokestatic 113, 3) := by decide +kernel
theorem dX11_lettersIn_15 : decode cX11_lettersIn 15 = .ok (.istore 4, 2) := by decide +kernel
theorem dX11_lettersIn_17 : decode cX11_lettersIn 17 = .ok (.iload 4, 2) := by decide +kernel
theorem dX11_lettersIn_19 : decode cX11_lettersIn 19 = .ok (.bipush 126, 2) := by decide +kernel
theorem dX11_lettersIn_21 : decode cX11_lettersIn 21 = .ok (.if_icmp .gt 13, 3) := by decide +kernel
theorem dX11_lettersIn_24 : decode cX11_lettersIn 24 = .ok (.iload 4, 2) := by decide +kernel
theorem dX11_lettersIn_26 : decode cX11_lettersIn 26 = .ok (.ifCond .eq 10, 3) := by decide +kernel
theorem dX11_lettersIn_29 : decode cX11_lettersIn 29 = .ok (.iload_n 2, 1) := by decide +kernel
theorem dX11_lettersIn_30 : decode cX11_lettersIn 30 = .ok (.iload_n 3, 1) := by decide +kernel
theorem dX11_lettersIn_31 : decode cX11_lettersIn 31 = .ok (.if_icmp .ge 5, 3) := by decide +kernel
theorem dX11_lettersIn_34 : decode cX11_lettersIn 34 = .ok (.iconst (-1), 1) := by decide +kernel
theorem dX11_lettersIn_35 : decode cX11_lettersIn 35 = .ok (.ireturn, 1) := by decide +kernel
theorem dX11_lettersIn_36 : decode cX11_lettersIn 36 = .ok (.iload 4, 2) := by decide +kernel
theorem dX11_lettersIn_38 : decode cX11_lettersIn 38 = .ok (.ifCond .eq 6, 3) := by decide +kernel
theorem dX11_lettersIn_41 : decode cX11_lettersIn 41 = .ok (.iinc 2 1, 3) := by decide +kernel
theorem dX11_lettersIn_44 : decode cX11_lettersIn 44 = .ok (.iinc 3 1, 3) := by decide +kernel
theorem dX11_lettersIn_47 : decode cX11_lettersIn 47 = .ok (.goto (-43), 3) := by decide +kernel
theorem dX11_lettersIn_50 : decode cX11_lettersIn 50 = .ok (.iload_n 2, 1) := by decide +kernel
theorem dX11_lettersIn_51 : decode cX11_lettersIn 51 = .ok (.ireturn, 1) := by decide +kernel
theorem dX11_quotient_0 : decode cX11_quotient 0 = .ok (.iload_n 1, 1) := by decide +kernel
theorem dX11_quotient_1 : decode cX11_quotient 1 = .ok (.iconst 1, 1) := by decide +kernel
theorem dX11_quotient_2 : decode cX11_quotient 2 = .ok (.if_icmp .ge 7, 3) := by decide +kernel
theorem dX11_quotient_5 : decode cX11_quotient 5 = .ok (.iconst 0, 1) := by decide +kernel
theorem dX11_quotient_6 : decode cX11_quotient 6 = .ok (.goto 6, 3) := by decide +kernel
theorem dX11_quotient_9 : decode cX11_quotient 9 = .ok (.iload_n 0, 1) := by decide +kernel
theorem dX11_quotient_10 : decode cX11_quotient 10 = .ok (.iload_n 1, 1) := by decide +kernel
theorem dX11_quotient_11 : decode cX11_quotient 11 = .ok (.idiv, 1) := by decide +kernel
theorem dX11_quotient_12 : decode cX11_quotient 12 = .ok (.ireturn, 1) := by decide +kernel
theorem dX11_commonDivisor_0 : decode cX11_commonDivisor 0 = .ok (.iload_n 0, 1) := by decide +kernel
theorem dX11_commonDivisor_1 : decode cX11_commonDivisor 1 = .ok (.istore_n 2, 1) := by decide +kernel
theorem dX11_commonDivisor_2 : decode cX11_commonDivisor 2 = .ok (.iload_n 1, 1) := by decide +kernel
theorem dX11_commonDivisor_3 : decode cX11_commonDivisor 3 = .ok (.istore_n 3, 1) := by decide +kernel
theorem dX11_commonDivisor_4 : decode cX11_commonDivisor 4 = .ok (.iconst 0, 1) := by decide +kernel
theorem dX11_commonDivisor_5 : decode cX11_commonDivisor 5 = .ok (.istore 4, 2) := by decide +kernel
theorem dX11_commonDivisor_7 : decode cX11_commonDivisor 7 = .ok (.iload 4, 2) := by decide +kernel
theorem dX11_commonDivisor_9 : decode cX11_commonDivisor 9 = .ok (.bipush 64, 2) := by decide +kernel
theorem dX11_commonDivisor_11 : decode cX11_commonDivisor 11 = .ok (.if_icmp .ge 23, 3) := by decide +kernel
theorem dX11_commonDivisor_14 : decode cX11_commonDivisor 14 = .ok (.iload_n 3, 1) := by decide +kernel
theorem dX11_commonDivisor_15 : decode cX11_commonDivisor 15 = .ok (.ifCond .eq 19, 3) := by decide +kernel
theorem dX11_commonDivisor_18 : decode cX11_commonDivisor 18 = .ok (.iload_n 2, 1) := by decide +kernel
theorem dX11_commonDivisor_19 : decode cX11_commonDivisor 19 = .ok (.iload_n 3, 1) := by decide +kernel
theorem dX11_commonDivisor_20 : decode cX11_commonDivisor 20 = .ok (.irem, 1) := by decide +kernel
theorem dX11_commonDivisor_21 : decode cX11_commonDivisor 21 = .ok (.istore 5, 2) := by decide +kernel
theorem dX11_commonDivisor_23 : decode cX11_commonDivisor 23 = .ok (.iload_n 3, 1) := by decide +kernel
theorem dX11_commonDivisor_24 : decode cX11_commonDivisor 24 = .ok (.istore_n 2, 1) := by decide +kernel
theorem dX11_commonDivisor_25 : decode cX11_commonDivisor 25 = .ok (.iload 5, 2) := by decide +kernel
theorem dX11_commonDivisor_27 : decode cX11_commonDivisor 27 = .ok (.istore_n 3, 1) := by decide +kernel
theorem dX11_commonDivisor_28 : decode cX11_commonDivisor 28 = .ok (.iinc 4 1, 3) := by decide +kernel
theorem dX11_commonDivisor_31 : decode cX11_commonDivisor 31 = .ok (.goto (-24), 3) := by decide +kernel
theorem dX11_commonDivisor_34 : decode cX11_commonDivisor 34 = .ok (.iload_n 2, 1) := by decide +kernel
theorem dX11_commonDivisor_35 : decode cX11_commonDivisor 35 = .ok (.ireturn, 1) := by decide +kernel
