theorem dX0_init_0 : decode cX0_init 0 = .ok (.aload_n 0, 1) := by decide +kernel
theorem dX0_init_1 : decode cX0_init 1 = .ok (.invokespecial 3, 3) := by decide +kernel
theorem dX0_init_4 : decode cX0_init 4 = .ok (.aload_n 0, 1) := by decide +kernel
theorem dX0_init_5 : decode cX0_init 5 = .ok (.sipush 240, 3) := by decide +kernel
theorem dX0_init_8 : decode cX0_init 8 = .ok (.newarray .int, 2) := by decide +kernel
theorem dX0_init_10 : decode cX0_init 10 = .ok (.putfield 11, 3) := by decide +kernel
theorem dX0_init_13 : decode cX0_init 13 = .ok (.aload_n 0, 1) := by decide +kernel
theorem dX0_init_14 : decode cX0_init 14 = .ok (.iconst 0, 1) := by decide +kernel
theorem dX0_init_15 : decode cX0_init 15 = .ok (.putfield 15, 3) := by decide +kernel
theorem dX0_init_18 : decode cX0_init 18 = .ok (.return_, 1) := by decide +kernel
theorem dX0_length_0 : decode cX0_length 0 = .ok (.aload_n 0, 1) := by decide +kernel
theorem dX0_length_1 : decode cX0_length 1 = .ok (.getfield 15, 3) := by decide +kernel
theorem dX0_length_4 : decode cX0_length 4 = .ok (.ireturn, 1) := by decide +kernel
theorem dX0_clear_0 : decode cX0_clear 0 = .ok (.aload_n 0, 1) := by decide +kernel
theorem dX0_clear_1 : decode cX0_clear 1 = .ok (.iconst 0, 1) := by decide +kernel
theorem dX0_clear_2 : decode cX0_clear 2 = .ok (.putfield 15, 3) := by decide +kernel
theorem dX0_clear_5 : decode cX0_clear 5 = .ok (.return_, 1) := by decide +kernel
theorem dX0_append_0 : decode cX0_append 0 = .ok (.aload_n 0, 1) := by decide +kernel
theorem dX0_append_1 : decode cX0_append 1 = .ok (.getfield 15, 3) := by decide +kernel
theorem dX0_append_4 : decode cX0_append 4 = .ok (.bipush 48, 2) := by decide +kernel
theorem dX0_append_6 : decode cX0_append 6 = .ok (.if_icmp .lt 4, 3) := by decide +kernel
theorem dX0_append_9 : decode cX0_append 9 = .ok (.return_, 1) := by decide +kernel
theorem dX0_append_10 : decode cX0_append 10 = .ok (.aload_n 0, 1) := by decide +kernel
theorem dX0_append_11 : decode cX0_append 11 = .ok (.getfield 15, 3) := by decide +kernel
theorem dX0_append_14 : decode cX0_append 14 = .ok (.iconst 5, 1) := by decide +kernel
theorem dX0_append_15 : decode cX0_append 15 = .ok (.imul, 1) := by decide +kernel
theorem dX0_append_16 : decode cX0_append 16 = .ok (.istore 6, 2) := by decide +kernel
theorem dX0_append_18 : decode cX0_append 18 = .ok (.aload_n 0, 1) := by decide +kernel
theorem dX0_append_19 : decode cX0_append 19 = .ok (.getfield 11, 3) := by decide +kernel
theorem dX0_append_22 : decode cX0_append 22 = .ok (.iload 6, 2) := by decide +kernel
theorem dX0_append_24 : decode cX0_append 24 = .ok (.iload_n 1, 1) := by decide +kernel
theorem dX0_append_25 : decode cX0_append 25 = .ok (.iastore, 1) := by decide +kernel
theorem dX0_append_26 : decode cX0_append 26 = .ok (.aload_n 0, 1) := by decide +kernel
theorem dX0_append_27 : decode cX0_append 27 = .ok (.getfield 11, 3) := by decide +kernel
theorem dX0_append_30 : decode cX0_append 30 = .ok (.iload 6, 2) := by decide +kernel
theorem dX0_append_32 : decode cX0_append 32 = .ok (.iconst 1, 1) := by decide +kernel
theorem dX0_append_33 : decode cX0_append 33 = .ok (.iadd, 1) := by decide +kernel
theorem dX0_append_34 : decode cX0_append 34 = .ok (.iload_n 2, 1) := by decide +kernel
theorem dX0_append_35 : decode cX0_append 35 = .ok (.iastore, 1) := by decide +kernel
theorem dX0_append_36 : decode cX0_append 36 = .ok (.aload_n 0, 1) := by decide +kernel
theorem dX0_append_37 : decode cX0_append 37 = .ok (.getfield 11, 3) := by decide +kernel
theorem dX0_append_40 : decode cX0_append 40 = .ok (.iload 6, 2) := by decide +kernel
theorem dX0_append_42 : decode cX0_append 42 = .ok (.iconst 2, 1) := by decide +kernel
theorem dX0_append_43 : decode cX0_append 43 = .ok (.iadd, 1) := by decide +kernel
theorem dX0_append_44 : decode cX0_append 44 = .ok (.iload_n 3, 1) := by decide +kernel
theorem dX0_append_45 : decode cX0_append 45 = .ok (.iastore, 1) := by decide +kernel
theorem dX0_append_46 : decode cX0_append 46 = .ok (.aload_n 0, 1) := by decide +kernel
theorem dX0_append_47 : decode cX0_append 47 = .ok (.getfield 11, 3) := by decide +kernel
theorem dX0_append_50 : decode cX0_append 50 = .ok (.iload 6, 2) := by decide +kernel
theorem dX0_append_52 : decode cX0_append 52 = .ok (.iconst 3, 1) := by decide +kernel
theorem dX0_append_53 : decode cX0_append 53 = .ok (.iadd, 1) := by decide +kernel
theorem dX0_append_54 : decode cX0_append 54 = .ok (.iload 4, 2) := by decide +kernel
theorem dX0_append_56 : decode cX0_append 56 = .ok (.iastore, 1) := by decide +kernel
theorem dX0_append_57 : decode cX0_append 57 = .ok (.aload_n 0, 1) := by decide +kernel
theorem dX0_append_58 : decode cX0_append 58 = .ok (.getfield 11, 3) := by decide +kernel
theorem dX0_append_61 : decode cX0_append 61 = .ok (.iload 6, 2) := by decide +kernel
theorem dX0_append_63 : decode cX0_append 63 = .ok (.iconst 4, 1) := by decide +kernel
theorem dX0_append_64 : decode cX0_append 64 = .ok (.iadd, 1) := by decide +kernel
theorem dX0_append_65 : decode cX0_append 65 = .ok (.iload 5, 2) := by decide +kernel
theorem dX0_append_67 : decode cX0_append 67 = .ok (.iastore, 1) := by decide +kernel
theorem dX0_append_68 : decode cX0_append 68 = .ok (.aload_n 0, 1) := by decide +kernel
theorem dX0_append_69 : decode cX0_append 69 = .ok (.dup, 1) := by decide +kernel
theorem dX0_append_70 : decode cX0_append 70 = .ok (.getfield 15, 3) := by decide +kernel
theorem dX0_append_73 : decode cX0_append 73 = .ok (.iconst 1, 1) := by decide +kernel
theorem dX0_append_74 : decode cX0_append 74 = .ok (.iadd, 1) := by decide +kernel
theorem dX0_append_75 : decode cX0_append 75 = .ok (.putfield 15, 3) := by decide +kernel
theorem dX0_append_78 : decode cX0_append 78 = .ok (.return_, 1) := by decide +kernel
theorem dX0_redo_0 : decode cX0_redo 0 = .ok (.iload_n 1, 1) := by decide +kernel
theorem dX0_redo_1 : decode cX0_redo 1 = .ok (.ifCond .lt 11, 3) := by decide +kernel
theorem dX0_redo_4 : decode cX0_redo 4 = .ok (.iload_n 1, 1) := by decide +kernel
theorem dX0_redo_5 : decode cX0_redo 5 = .ok (.aload_n 0, 1) := by decide +kernel
theorem dX0_redo_6 : decode cX0_redo 6 = .ok (.getfield 15, 3) := by decide +kernel
theorem dX0_redo_9 : decode cX0_redo 9 = .ok (.if_icmp .lt 4, 3) := by decide +kernel
theorem dX0_redo_12 : decode cX0_redo 12 = .ok (.return_, 1) := by decide +kernel
theorem dX0_redo_13 : decode cX0_redo 13 = .ok (.iload_n 1, 1) := by decide +kernel
theorem dX0_redo_14 : decode cX0_redo 14 = .ok (.iconst 5, 1) := by decide +kernel
theorem dX0_redo_15 : decode cX0_redo 15 = .ok (.imul, 1) := by decide +kernel
theorem dX0_redo_16 : decode cX0_redo 16 = .ok (.istore_n 3, 1) := by decide +kernel
theorem dX0_redo_17 : decode cX0_redo 17 = .ok (.aload_n 0, 1) := by decide +kernel
theorem dX0_redo_18 : decode cX0_redo 18 = .ok (.getfield 11, 3) := by decide +kernel
theorem dX0_redo_21 : decode cX0_redo 21 = .ok (.iload_n 3, 1) := by decide +kernel
theorem dX0_redo_22 : decode cX0_redo 22 = .ok (.iconst 1, 1) := by decide +kernel
theorem dX0_redo_23 : decode cX0_redo 23 = .ok (.iadd, 1) := by decide +kernel
theorem dX0_redo_24 : decode cX0_redo 24 = .ok (.iaload, 1) := by decide +kernel
theorem dX0_redo_25 : decode cX0_redo 25 = .ok (.istore 4, 2) := by decide +kernel
theorem dX0_redo_27 : decode cX0_redo 27 = .ok (.aload_n 0, 1) := by decide +kernel
theorem dX0_redo_28 : decode cX0_redo 28 = .ok (.getfield 11, 3) := by decide +kernel
theorem dX0_redo_31 : decode cX0_redo 31 = .ok (.iload_n 3, 1) := by decide +kernel
theorem dX0_redo_32 : decode cX0_redo 32 = .ok (.iconst 2, 1) := by decide +kernel
theorem dX0_redo_33 : decode cX0_redo 33 = .ok (.iadd, 1) := by decide +kernel
theorem dX0_redo_34 : decode cX0_redo 34 = .ok (.iaload, 1) := by decide +kernel
theorem dX0_redo_35 : decode cX0_redo 35 = .ok (.istore 5, 2) := by decide +kernel
theorem dX0_redo_37 : decode cX0_redo 37 = .ok (.aload_n 0, 1) := by decide +kernel
theorem dX0_redo_38 : decode cX0_redo 38 = .ok (.getfield 11, 3) := by decide +kernel
theorem dX0_redo_41 : decode cX0_redo 41 = .ok (.iload_n 3, 1) := by decide +kernel
theorem dX0_redo_42 : decode cX0_redo 42 = .ok (.iconst 3, 1) := by decide +kernel
theorem dX0_redo_43 : decode cX0_redo 43 = .ok (.iadd, 1) := by decide +kernel
theorem dX0_redo_44 : decode cX0_redo 44 = .ok (.iaload, 1) := by decide +kernel
theorem dX0_redo_45 : decode cX0_redo 45 = .ok (.istore 6, 2) := by decide +kernel
theorem dX0_redo_47 : decode cX0_redo 47 = .ok (.aload_n 0, 1) := by decide +kernel
theorem dX0_redo_48 : decode cX0_redo 48 = .ok (.getfield 11, 3) := by decide +kernel
theorem dX0_redo_51 : decode cX0_redo 51 = .ok (.iload_n 3, 1) := by decide +kernel
theorem dX0_redo_52 : decode cX0_redo 52 = .ok (.iconst 4, 1) := by decide +kernel
theorem dX0_redo_53 : decode cX0_redo 53 = .ok (.iadd, 1) := by decide +kernel
theorem dX0_redo_54 : decode cX0_redo 54 = .ok (.iaload, 1) := by decide +kernel
theorem dX0_redo_55 : decode cX0_redo 55 = .ok (.istore 7, 2) := by decide +kernel
theorem dX0_redo_57 : decode cX0_redo 57 = .ok (.aload_n 0, 1) := by decide +kernel
theorem dX0_redo_58 : decode cX0_redo 58 = .ok (.getfield 11, 3) := by decide +kernel
theorem dX0_redo_61 : decode cX0_redo 61 = .ok (.iload_n 3, 1) := by decide +kernel
theorem dX0_redo_62 : decode cX0_redo 62 = .ok (.iaload, 1) := by decide +kernel
theorem dX0_redo_63 : decode cX0_redo 63 = .ok (.tableswitch 98 0 4 #[33, 46, 59, 70, 85], 33) := by decide +kernel
theorem dX0_redo_96 : decode cX0_redo 96 = .ok (.aload_n 2, 1) := by decide +kernel
theorem dX0_redo_97 : decode cX0_redo 97 = .ok (.iload 4, 2) := by decide +kernel
theorem dX0_redo_99 : decode cX0_redo 99 = .ok (.iload 5, 2) := by decide +kernel
theorem dX0_redo_101 : decode cX0_redo 101 = .ok (.iload 6, 2) := by decide +kernel
theorem dX0_redo_103 : decode cX0_redo 103 = .ok (.invokevirtual 19, 3) := by decide +kernel
theorem dX0_redo_106 : decode cX0_redo 106 = .ok (.goto 63, 3) := by decide +kernel
theorem dX0_redo_109 : decode cX0_redo 109 = .ok (.aload_n 2, 1) := by decide +kernel
theorem dX0_redo_110 : decode cX0_redo 110 = .ok (.iload 4, 2) := by decide +kernel
theorem dX0_redo_112 : decode cX0_redo 112 = .ok (.iload 5, 2) := by decide +kernel
theorem dX0_redo_114 : decode cX0_redo 114 = .ok (.iload 6, 2) := by decide +kernel
theorem dX0_redo_116 : decode cX0_redo 116 = .ok (.invokevirtual 25, 3) := by decide +kernel
theorem dX0_redo_119 : decode cX0_redo 119 = .ok (.goto 50, 3) := by decide +kernel
theorem dX0_redo_122 : decode cX0_redo 122 = .ok (.aload_n 2, 1) := by decide +kernel
theorem dX0_redo_123 : decode cX0_redo 123 = .ok (.iload 4, 2) := by decide +kernel
theorem dX0_redo_125 : decode cX0_redo 125 = .ok (.iload 5, 2) := by decide +kernel
theorem dX0_redo_127 : decode cX0_redo 127 = .ok (.invokevirtual 28, 3) := by decide +kernel
theorem dX0_redo_130 : decode cX0_redo 130 = .ok (.goto 39, 3) := by decide +kernel
theorem dX0_redo_133 : decode cX0_redo 133 = .ok (.aload_n 2, 1) := by decide +kernel
theorem dX0_redo_134 : decode cX0_redo 134 = .ok (.iload 4, 2) := by decide +kernel
theorem dX0_redo_136 : decode cX0_redo 136 = .ok (.iload 5, 2) := by decide +kernel
theorem dX0_redo_138 : decode cX0_redo 138 = .ok (.iload 6, 2) := by decide +kernel
theorem dX0_redo_140 : decode cX0_redo 140 = .ok (.iload 7, 2) := by decide +kernel
theorem dX0_redo_142 : decode cX0_redo 142 = .ok (.invokevirtual 32, 3) := by decide +kernel
theorem dX0_redo_145 : decode cX0_redo 145 = .ok (.goto 24, 3) := by decide +kernel
theorem dX0_redo_148 : decode cX0_redo 148 = .ok (.aload_n 2, 1) := by decide +kernel
theorem dX0_redo_149 : decode cX0_redo 149 = .ok (.iload 4, 2) := by decide +kernel
theorem dX0_redo_151 : decode cX0_redo 151 = .ok (.iload 5, 2) := by decide +kernel
theorem dX0_redo_153 : decode cX0_redo 153 = .ok (.iload 6, 2) := by decide +kernel
theorem dX0_redo_155 : decode cX0_redo 155 = .ok (.invokevirtual 36, 3) := by decide +kernel
theorem dX0_redo_158 : decode cX0_redo 158 = .ok (.goto 11, 3) := by decide +kernel
theorem dX0_redo_161 : decode cX0_redo 161 = .ok (.aload_n 2, 1) := by decide +kernel
theorem dX0_redo_162 : decode cX0_redo 162 = .ok (.iload 4, 2) := by decide +kernel
theorem dX0_redo_164 : decode cX0_redo 164 = .ok (.iload 5, 2) := by decide +kernel
theorem dX0_redo_166 : decode cX0_redo 166 = .ok (.invokevirtual 39, 3) := by decide +kernel
theorem dX0_redo_169 : decode cX0_redo 169 = .ok (.return_, 1) := by decide +kernel
theorem dX1_init_0 : decode cX1_init 0 = .ok (.aload_n 0, 1) := by decide +kernel
theorem dX1_init_1 : decode cX1_init 1 = .ok (.invokespecial 3, 3) := by decide +kernel
theorem dX1_init_4 : decode cX1_init 4 = .ok (.aload_n 0, 1) := by decide +kernel
theorem dX1_init_5 : decode cX1_init 5 = .ok (.bipush 16, 2) := by decide +kernel
theorem dX1_init_7 : decode cX1_init 7 = .ok (.newarray .int, 2) := by decide +kernel
theorem dX1_init_9 : decode cX1_init 9 = .ok (.putfield 9, 3) := by decide +kernel
theorem dX1_init_12 : decode cX1_init 12 = .ok (.aload_n 0, 1) := by decide +kernel
theorem dX1_init_13 : decode cX1_init 13 = .ok (.bipush 16, 2) := by decide +kernel
theorem dX1_init_15 : decode cX1_init 15 = .ok (.newarray .int, 2) := by decide +kernel
theorem dX1_init_17 : decode cX1_init 17 = .ok (.putfield 15, 3) := by decide +kernel
theorem dX1_init_20 : decode cX1_init 20 = .ok (.aload_n 0, 1) := by decide +kernel
theorem dX1_init_21 : decode cX1_init 21 = .ok (.bipush 16, 2) := by decide +kernel
theorem dX1_init_23 : decode cX1_init 23 = .ok (.newarray .int, 2) := by decide +kernel
theorem dX1_init_25 : decode cX1_init 25 = .ok (.putfield 18, 3) := by decide +kernel
theorem dX1_init_28 : decode cX1_init 28 = .ok (.aload_n 0, 1) := by decide +kernel
theorem dX1_init_29 : decode cX1_init 29 = .ok (.bipush 16, 2) := by decide +kernel
theorem dX1_init_31 : decode cX1_init 31 = .ok (.newarray .int, 2) := by decide +kernel
theorem dX1_init_33 : decode cX1_init 33 = .ok (.putfield 21, 3) := by decide +kernel
theorem dX1_init_36 : decode cX1_init 36 = .ok (.aload_n 0, 1) := by decide +kernel
theorem dX1_init_37 : decode cX1_init 37 = .ok (.sipush 512, 3) := by decide +kernel
theorem dX1_init_40 : decode cX1_init 40 = .ok (.newarray .int, 2) := by decide +kernel
theorem dX1_init_42 : decode cX1_init 42 = .ok (.putfield 24, 3) := by decide +kernel
theorem dX1_init_45 : decode cX1_init 45 = .ok (.aload_n 0, 1) := by decide +kernel
theorem dX1_init_46 : decode cX1_init 46 = .ok (.sipush 128, 3) := by decide +kernel
theorem dX1_init_49 : decode cX1_init 49 = .ok (.newarray .int, 2) := by decide +kernel
theorem dX1_init_51 : decode cX1_init 51 = .ok (.putfield 27, 3) := by decide +kernel
theorem dX1_init_54 : decode cX1_init 54 = .ok (.aload_n 0, 1) := by decide +kernel
theorem dX1_init_55 : decode cX1_init 55 = .ok (.getfield 9, 3) := by decide +kernel
theorem dX1_init_58 : decode cX1_init 58 = .ok (.iconst 0, 1) := by decide +kernel
theorem dX1_init_59 : decode cX1_init 59 = .ok (.iconst 2, 1) := by decide +kernel
theorem dX1_init_60 : decode cX1_init 60 = .ok (.iastore, 1) := by decide +kernel
theorem dX1_init_61 : decode cX1_init 61 = .ok (.return_, 1) := by decide +kernel
theorem dX1_copyFrom_0 : decode cX1_copyFrom 0 = .ok (.aload_n 1, 1) := by decide +kernel
theorem dX1_copyFrom_1 : decode cX1_copyFrom 1 = .ok (.getfield 9, 3) := by decide +kernel
theorem dX1_copyFrom_4 : decode cX1_copyFrom 4 = .ok (.iconst 0, 1) := by decide +kernel
theorem dX1_copyFrom_5 : decode cX1_copyFrom 5 = .ok (.aload_n 0, 1) := by decide +kernel
theorem dX1_copyFrom_6 : decode cX1_copyFrom 6 = .ok (.getfield 9, 3) := by decide +kernel
theorem dX1_copyFrom_9 : decode cX1_copyFrom 9 = .ok (.iconst 0, 1) := by decide +kernel
theorem dX1_copyFrom_10 : decode cX1_copyFrom 10 = .ok (.aload_n 0, 1) := by decide +kernel
theorem dX1_copyFrom_11 : decode cX1_copyFrom 11 = .ok (.getfield 9, 3) := by decide +kernel
theorem dX1_copyFrom_14 : decode cX1_copyFrom 14 = .ok (.arraylength, 1) := by decide +kernel
theorem dX1_copyFrom_15 : decode cX1_copyFrom 15 = .ok (.invokestatic 30, 3) := by decide +kernel
theorem dX1_copyFrom_18 : decode cX1_copyFrom 18 = .ok (.aload_n 1, 1) := by decide +kernel
theorem dX1_copyFrom_19 : decode cX1_copyFrom 19 = .ok (.getfield 15, 3) := by decide +kernel
theorem dX1_copyFrom_22 : decode cX1_copyFrom 22 = .ok (.iconst 0, 1) := by decide +kernel
theorem dX1_copyFrom_23 : decode cX1_copyFrom 23 = .ok (.aload_n 0, 1) := by decide +kernel
theorem dX1_copyFrom_24 : decode cX1_copyFrom 24 = .ok (.getfield 15, 3) := by decide +kernel
theorem dX1_copyFrom_27 : decode cX1_copyFrom 27 = .ok (.iconst 0, 1) := by decide +kernel
theorem dX1_copyFrom_28 : decode cX1_copyFrom 28 = .ok (.aload_n 0, 1) := by decide +kernel
theorem dX1_copyFrom_29 : decode cX1_copyFrom 29 = .ok (.getfield 15, 3) := by decide +kernel
theorem dX1_copyFrom_32 : decode cX1_copyFrom 32 = .ok (.arraylength, 1) := by decide +kernel
theorem dX1_copyFrom_33 : decode cX1_copyFrom 33 = .ok (.invokestatic 30, 3) := by decide +kernel
theorem dX1_copyFrom_36 : decode cX1_copyFrom 36 = .ok (.aload_n 1, 1) := by decide +kernel
theorem dX1_copyFrom_37 : decode cX1_copyFrom 37 = .ok (.getfield 18, 3) := by decide +kernel
theorem dX1_copyFrom_40 : decode cX1_copyFrom 40 = .ok (.iconst 0, 1) := by decide +kernel
theorem dX1_copyFrom_41 : decode cX1_copyFrom 41 = .ok (.aload_n 0, 1) := by decide +kernel
theorem dX1_copyFrom_42 : decode cX1_copyFrom 42 = .ok (.getfield 18, 3) := by decide +kernel
theorem dX1_copyFrom_45 : decode cX1_copyFrom 45 = .ok (.iconst 0, 1) := by decide +kernel
theorem dX1_copyFrom_46 : decode cX1_copyFrom 46 = .ok (.aload_n 0, 1) := by decide +kernel
theorem dX1_copyFrom_47 : decode cX1_copyFrom 47 = .ok (.getfield 18, 3) := by decide +kernel
theorem dX1_copyFrom_50 : decode cX1_copyFrom 50 = .ok (.arraylength, 1) := by decide +kernel
theorem dX1_copyFrom_51 : decode cX1_copyFrom 51 = .ok (.invokestatic 30, 3) := by decide +kernel
theorem dX1_copyFrom_54 : decode cX1_copyFrom 54 = .ok (.aload_n 1, 1) := by decide +kernel
theorem dX1_copyFrom_55 : decode cX1_copyFrom 55 = .ok (.getfield 21, 3) := by decide +kernel
theorem dX1_copyFrom_58 : decode cX1_copyFrom 58 = .ok (.iconst 0, 1) := by decide +kernel
theorem dX1_copyFrom_59 : decode cX1_copyFrom 59 = .ok (.aload_n 0, 1) := by decide +kernel
theorem dX1_copyFrom_60 : decode cX1_copyFrom 60 = .ok (.getfield 21, 3) := by decide +kernel
theorem dX1_copyFrom_63 : decode cX1_copyFrom 63 = .ok (.iconst 0, 1) := by decide +kernel
theorem dX1_copyFrom_64 : decode cX1_copyFrom 64 = .ok (.aload_n 0, 1) := by decide +kernel
theorem dX1_copyFrom_65 : decode cX1_copyFrom 65 = .ok (.getfield 21, 3) := by decide +kernel
theorem dX1_copyFrom_68 : decode cX1_copyFrom 68 = .ok (.arraylength, 1) := by decide +kernel
theorem dX1_copyFrom_69 : decode cX1_copyFrom 69 = .ok (.invokestatic 30, 3) := by decide +kernel
theorem dX1_copyFrom_72 : decode cX1_copyFrom 72 = .ok (.aload_n 1, 1) := by decide +kernel
theorem dX1_copyFrom_73 : decode cX1_copyFrom 73 = .ok (.getfield 24, 3) := by decide +kernel
theorem dX1_copyFrom_76 : decode cX1_copyFrom 76 = .ok (.iconst 0, 1) := by decide +kernel
theorem dX1_copyFrom_77 : decode cX1_copyFrom 77 = .ok (.aload_n 0, 1) := by decide +kernel
theorem dX1_copyFrom_78 : decode cX1_copyFrom 78 = .ok (.getfield 24, 3) := by decide +kernel
theorem dX1_copyFrom_81 : decode cX1_copyFrom 81 = .ok (.iconst 0, 1) := by decide +kernel
theorem dX1_copyFrom_82 : decode cX1_copyFrom 82 = .ok (.aload_n 0, 1) := by decide +kernel
theorem dX1_copyFrom_83 : decode cX1_copyFrom 83 = .ok (.getfield 24, 3) := by decide +kernel
theorem dX1_copyFrom_86 : decode cX1_copyFrom 86 = .ok (.arraylength, 1) := by decide +kernel
theorem dX1_copyFrom_87 : decode cX1_copyFrom 87 = .ok (.invokestatic 30, 3) := by decide +kernel
theorem dX1_copyFrom_90 : decode cX1_copyFrom 90 = .ok (.aload_n 1, 1) := by decide +kernel
theorem dX1_copyFrom_91 : decode cX1_copyFrom 91 = .ok (.getfield 27, 3) := by decide +kernel
theorem dX1_copyFrom_94 : decode cX1_copyFrom 94 = .ok (.iconst 0, 1) := by decide +kernel
theorem dX1_copyFrom_95 : decode cX1_copyFrom 95 = .ok (.aload_n 0, 1) := by decide +kernel
theorem dX1_copyFrom_96 : decode cX1_copyFrom 96 = .ok (.getfield 27, 3) := by decide +kernel
theorem dX1_copyFrom_99 : decode cX1_copyFrom 99 = .ok (.iconst 0, 1) := by decide +kernel
theorem dX1_copyFrom_100 : decode cX1_copyFrom 100 = .ok (.aload_n 0, 1) := by decide +kernel
theorem dX1_copyFrom_101 : decode cX1_copyFrom 101 = .ok (.getfield 27, 3) := by decide +kernel
theorem dX1_copyFrom_104 : decode cX1_copyFrom 104 = .ok (.arraylength, 1) := by decide +kernel
theorem dX1_copyFrom_105 : decode cX1_copyFrom 105 = .ok (.invokestatic 30, 3) := by decide +kernel
theorem dX1_copyFrom_108 : decode cX1_copyFrom 108 = .ok (.return_, 1) := by decide +kernel
theorem dX1_kind_0 : decode cX1_kind 0 = .ok (.aload_n 0, 1) := by decide +kernel
theorem dX1_kind_1 : decode cX1_kind 1 = .ok (.getfield 9, 3) := by decide +kernel
theorem dX1_kind_4 : decode cX1_kind 4 = .ok (.iload_n 1, 1) := by decide +kernel
theorem dX1_kind_5 : decode cX1_kind 5 = .ok (.iaload, 1) := by decide +kernel
theorem dX1_kind_6 : decode cX1_kind 6 = .ok (.ireturn, 1) := by decide +kernel
theorem dX1_isFile_0 : decode cX1_isFile 0 = .ok (.aload_n 0, 1) := by decide +kernel
theorem dX1_isFile_1 : decode cX1_isFile 1 = .ok (.getfield 9, 3) := by decide +kernel
theorem dX1_isFile_4 : decode cX1_isFile 4 = .ok (.iload_n 1, 1) := by decide +kernel
theorem dX1_isFile_5 : decode cX1_isFile 5 = .ok (.iaload, 1) := by decide +kernel
theorem dX1_isFile_6 : decode cX1_isFile 6 = .ok (.iconst 1, 1) := by decide +kernel
theorem dX1_isFile_7 : decode cX1_isFile 7 = .ok (.if_icmp .ne 7, 3) := by decide +kernel
theorem dX1_isFile_10 : decode cX1_isFile 10 = .ok (.iconst 1, 1) := by decide +kernel
theorem dX1_isFile_11 : decode cX1_isFile 11 = .ok (.goto 4, 3) := by decide +kernel
theorem dX1_isFile_14 : decode cX1_isFile 14 = .ok (.iconst 0, 1) := by decide +kernel
theorem dX1_isFile_15 : decode cX1_isFile 15 = .ok (.ireturn, 1) := by decide +kernel
theorem dX1_isDirectory_0 : decode cX1_isDirectory 0 = .ok (.aload_n 0, 1) := by decide +kernel
theorem dX1_isDirectory_1 : decode cX1_isDirectory 1 = .ok (.getfield 9, 3) := by decide +kernel
theorem dX1_isDirectory_4 : decode cX1_isDirectory 4 = .ok (.iload_n 1, 1) := by decide +kernel
theorem dX1_isDirectory_5 : decode cX1_isDirectory 5 = .ok (.iaload, 1) := by decide +kernel
theorem dX1_isDirectory_6 : decode cX1_isDirectory 6 = .ok (.iconst 2, 1) := by decide +kernel
theorem dX1_isDirectory_7 : decode cX1_isDirectory 7 = .ok (.if_icmp .ne 7, 3) := by decide +kernel
theorem dX1_isDirectory_10 : decode cX1_isDirectory 10 = .ok (.iconst 1, 1) := by decide +kernel
theorem dX1_isDirectory_11 : decode cX1_isDirectory 11 = .ok (.goto 4, 3) := by decide +kernel
theorem dX1_isDirectory_14 : decode cX1_isDirectory 14 = .ok (.iconst 0, 1) := by decide +kernel
theorem dX1_isDirectory_15 : decode cX1_isDirectory 15 = .ok (.ireturn, 1) := by decide +kernel
theorem dX1_size_0 : decode cX1_size 0 = .ok (.aload_n 0, 1) := by decide +kernel
theorem dX1_size_1 : decode cX1_size 1 = .ok (.getfield 15, 3) := by decide +kernel
theorem dX1_size_4 : decode cX1_size 4 = .ok (.iload_n 1, 1) := by decide +kernel
theorem dX1_size_5 : decode cX1_size 5 = .ok (.iaload, 1) := by decide +kernel
theorem dX1_size_6 : decode cX1_size 6 = .ok (.ireturn, 1) := by decide +kernel
theorem dX1_links_0 : decode cX1_links 0 = .ok (.aload_n 0, 1) := by decide +kernel
theorem dX1_links_1 : decode cX1_links 1 = .ok (.getfield 18, 3) := by decide +kernel
theorem dX1_links_4 : decode cX1_links 4 = .ok (.iload_n 1, 1) := by decide +kernel
theorem dX1_links_5 : decode cX1_links 5 = .ok (.iaload, 1) := by decide +kernel
theorem dX1_links_6 : decode cX1_links 6 = .ok (.ireturn, 1) := by decide +kernel
theorem dX1_target_0 : decode cX1_target 0 = .ok (.aload_n 0, 1) := by decide +kernel
theorem dX1_target_1 : decode cX1_target 1 = .ok (.getfield 24, 3) := by decide +kernel
theorem dX1_target_4 : decode cX1_target 4 = .ok (.iload_n 1, 1) := by decide +kernel
theorem dX1_target_5 : decode cX1_target 5 = .ok (.bipush 32, 2) := by decide +kernel
theorem dX1_target_7 : decode cX1_target 7 = .ok (.imul, 1) := by decide +kernel
theorem dX1_target_8 : decode cX1_target 8 = .ok (.iload_n 2, 1) := by decide +kernel
theorem dX1_target_9 : decode cX1_target 9 = .ok (.iadd, 1) := by decide +kernel
theorem dX1_target_10 : decode cX1_target 10 = .ok (.iaload, 1) := by decide +kernel
theorem dX1_target_11 : decode cX1_target 11 = .ok (.ireturn, 1) := by decide +kernel
theorem dX1_value_0 : decode cX1_value 0 = .ok (.aload_n 0, 1) := by decide +kernel
theorem dX1_value_1 : decode cX1_value 1 = .ok (.getfield 27, 3) := by decide +kernel
theorem dX1_value_4 : decode cX1_value 4 = .ok (.iload_n 1, 1) := by decide +kernel
theorem dX1_value_5 : decode cX1_value 5 = .ok (.bipush 8, 2) := by decide +kernel
theorem dX1_value_7 : decode cX1_value 7 = .ok (.imul, 1) := by decide +kernel
theorem dX1_value_8 : decode cX1_value 8 = .ok (.iload_n 2, 1) := by decide +kernel
theorem dX1_value_9 : decode cX1_value 9 = .ok (.iadd, 1) := by decide +kernel
theorem dX1_value_10 : decode cX1_value 10 = .ok (.iaload, 1) := by decide +kernel
theorem dX1_value_11 : decode cX1_value 11 = .ok (.ireturn, 1) := by decide +kernel
theorem dX1_nthName_0 : decode cX1_nthName 0 = .ok (.iconst 0, 1) := by decide +kernel
theorem dX1_nthName_1 : decode cX1_nthName 1 = .ok (.istore_n 3, 1) := by decide +kernel
theorem dX1_nthName_2 : decode cX1_nthName 2 = .ok (.iconst 0, 1) := by decide +kernel
theorem dX1_nthName_3 : decode cX1_nthName 3 = .ok (.istore 4, 2) := by decide +kernel
theorem dX1_nthName_5 : decode cX1_nthName 5 = .ok (.iload 4, 2) := by decide +kernel
theorem dX1_nthName_7 : decode cX1_nthName 7 = .ok (.bipush 32, 2) := by decide +kernel
theorem dX1_nthName_9 : decode cX1_nthName 9 = .ok (.if_icmp .ge 30, 3) := by decide +kernel
theorem dX1_nthName_12 : decode cX1_nthName 12 = .ok (.aload_n 0, 1) := by decide +kernel
theorem dX1_nthName_13 : decode cX1_nthName 13 = .ok (.iload_n 1, 1) := by decide +kernel
theorem dX1_nthName_14 : decode cX1_nthName 14 = .ok (.iload 4, 2) := by decide +kernel
theorem dX1_nthName_16 : decode cX1_nthName 16 = .ok (.invokevirtual 36, 3) := by decide +kernel
theorem dX1_nthName_19 : decode cX1_nthName 19 = .ok (.ifCond .eq 14, 3) := by decide +kernel
theorem dX1_nthName_22 : decode cX1_nthName 22 = .ok (.iload_n 3, 1) := by decide +kernel
theorem dX1_nthName_23 : decode cX1_nthName 23 = .ok (.iload_n 2, 1) := by decide +kernel
theorem dX1_nthName_24 : decode cX1_nthName 24 = .ok (.if_icmp .ne 6, 3) := by decide +kernel
theorem dX1_nthName_27 : decode cX1_nthName 27 = .ok (.iload 4, 2) := by decide +kernel
theorem dX1_nthName_29 : decode cX1_nthName 29 = .ok (.ireturn, 1) := by decide +kernel
theorem dX1_nthName_30 : decode cX1_nthName 30 = .ok (.iinc 3 1, 3) := by decide +kernel
theorem dX1_nthName_33 : decode cX1_nthName 33 = .ok (.iinc 4 1, 3) := by decide +kernel
theorem dX1_nthName_36 : decode cX1_nthName 36 = .ok (.goto (-31), 3) := by decide +kernel
theorem dX1_nthName_39 : decode cX1_nthName 39 = .ok (.iconst (-1), 1) := by decide +kernel
theorem dX1_nthName_40 : decode cX1_nthName 40 = .ok (.ireturn, 1) := by decide +kernel
theorem dX1_leastFreeNode_0 : decode cX1_leastFreeNode 0 = .ok (.iconst 0, 1) := by decide +kernel
theorem dX1_leastFreeNode_1 : decode cX1_leastFreeNode 1 = .ok (.istore_n 1, 1) := by decide +kernel
theorem dX1_leastFreeNode_2 : decode cX1_leastFreeNode 2 = .ok (.iload_n 1, 1) := by decide +kernel
theorem dX1_leastFreeNode_3 : decode cX1_leastFreeNode 3 = .ok (.bipush 16, 2) := by decide +kernel
theorem dX1_leastFreeNode_5 : decode cX1_leastFreeNode 5 = .ok (.if_icmp .ge 20, 3) := by decide +kernel
theorem dX1_leastFreeNode_8 : decode cX1_leastFreeNode 8 = .ok (.aload_n 0, 1) := by decide +kernel
theorem dX1_leastFreeNode_9 : decode cX1_leastFreeNode 9 = .ok (.getfield 9, 3) := by decide +kernel
theorem dX1_leastFreeNode_12 : decode cX1_leastFreeNode 12 = .ok (.iload_n 1, 1) := by decide +kernel
theorem dX1_leastFreeNode_13 : decode cX1_leastFreeNode 13 = .ok (.iaload, 1) := by decide +kernel
theorem dX1_leastFreeNode_14 : decode cX1_leastFreeNode 14 = .ok (.ifCond .ne 5, 3) := by decide +kernel
theorem dX1_leastFreeNode_17 : decode cX1_leastFreeNode 17 = .ok (.iload_n 1, 1) := by decide +kernel
theorem dX1_leastFreeNode_18 : decode cX1_leastFreeNode 18 = .ok (.ireturn, 1) := by decide +kernel
theorem dX1_leastFreeNode_19 : decode cX1_leastFreeNode 19 = .ok (.iinc 1 1, 3) := by decide +kernel
theorem dX1_leastFreeNode_22 : decode cX1_leastFreeNode 22 = .ok (.goto (-20), 3) := by decide +kernel
theorem dX1_leastFreeNode_25 : decode cX1_leastFreeNode 25 = .ok (.iconst 0, 1) := by decide +kernel
theorem dX1_leastFreeNode_26 : decode cX1_leastFreeNode 26 = .ok (.ireturn, 1) := by decide +kernel
theorem dX1_nodesThere_0 : decode cX1_nodesThere 0 = .ok (.iconst 0, 1) := by decide +kernel
theorem dX1_nodesThere_1 : decode cX1_nodesThere 1 = .ok (.istore_n 1, 1) := by decide +kernel
theorem dX1_nodesThere_2 : decode cX1_nodesThere 2 = .ok (.iconst 0, 1) := by decide +kernel
theorem dX1_nodesThere_3 : decode cX1_nodesThere 3 = .ok (.istore_n 2, 1) := by decide +kernel
theorem dX1_nodesThere_4 : decode cX1_nodesThere 4 = .ok (.iload_n 2, 1) := by decide +kernel
theorem dX1_nodesThere_5 : decode cX1_nodesThere 5 = .ok (.bipush 16, 2) := by decide +kernel
theorem dX1_nodesThere_7 : decode cX1_nodesThere 7 = .ok (.if_icmp .ge 21, 3) := by decide +kernel
theorem dX1_nodesThere_10 : decode cX1_nodesThere 10 = .ok (.aload_n 0, 1) := by decide +kernel
theorem dX1_nodesThere_11 : decode cX1_nodesThere 11 = .ok (.getfield 9, 3) := by decide +kernel
theorem dX1_nodesThere_14 : decode cX1_nodesThere 14 = .ok (.iload_n 2, 1) := by decide +kernel
theorem dX1_nodesThere_15 : decode cX1_nodesThere 15 = .ok (.iaload, 1) := by decide +kernel
theorem dX1_nodesThere_16 : decode cX1_nodesThere 16 = .ok (.ifCond .eq 6, 3) := by decide +kernel
theorem dX1_nodesThere_19 : decode cX1_nodesThere 19 = .ok (.iinc 1 1, 3) := by decide +kernel
theorem dX1_nodesThere_22 : decode cX1_nodesThere 22 = .ok (.iinc 2 1, 3) := by decide +kernel
theorem dX1_nodesThere_25 : decode cX1_nodesThere 25 = .ok (.goto (-21), 3) := by decide +kernel
theorem dX1_nodesThere_28 : decode cX1_nodesThere 28 = .ok (.iload_n 1, 1) := by decide +kernel
theorem dX1_nodesThere_29 : decode cX1_nodesThere 29 = .ok (.ireturn, 1) := by decide +kernel
theorem dX1_blocks_0 : decode cX1_blocks 0 = .ok (.aload_n 0, 1) := by decide +kernel
theorem dX1_blocks_1 : decode cX1_blocks 1 = .ok (.getfield 9, 3) := by decide +kernel
theorem dX1_blocks_4 : decode cX1_blocks 4 = .ok (.iload_n 1, 1) := by decide +kernel
theorem dX1_blocks_5 : decode cX1_blocks 5 = .ok (.iaload, 1) := by decide +kernel
theorem dX1_blocks_6 : decode cX1_blocks 6 = .ok (.ifCond .ne 5, 3) := by decide +kernel
theorem dX1_blocks_9 : decode cX1_blocks 9 = .ok (.iconst 0, 1) := by decide +kernel
theorem dX1_blocks_10 : decode cX1_blocks 10 = .ok (.ireturn, 1) := by decide +kernel
theorem dX1_blocks_11 : decode cX1_blocks 11 = .ok (.aload_n 0, 1) := by decide +kernel
theorem dX1_blocks_12 : decode cX1_blocks 12 = .ok (.iload_n 1, 1) := by decide +kernel
theorem dX1_blocks_13 : decode cX1_blocks 13 = .ok (.invokevirtual 40, 3) := by decide +kernel
theorem dX1_blocks_16 : decode cX1_blocks 16 = .ok (.ifCond .eq 14, 3) := by decide +kernel
theorem dX1_blocks_19 : decode cX1_blocks 19 = .ok (.iconst 1, 1) := by decide +kernel
theorem dX1_blocks_20 : decode cX1_blocks 20 = .ok (.aload_n 0, 1) := by decide +kernel
theorem dX1_blocks_21 : decode cX1_blocks 21 = .ok (.getfield 15, 3) := by decide +kernel
theorem dX1_blocks_24 : decode cX1_blocks 24 = .ok (.iload_n 1, 1) := by decide +kernel
theorem dX1_blocks_25 : decode cX1_blocks 25 = .ok (.iaload, 1) := by decide +kernel
theorem dX1_blocks_26 : decode cX1_blocks 26 = .ok (.iadd, 1) := by decide +kernel
theorem dX1_blocks_27 : decode cX1_blocks 27 = .ok (.goto 4, 3) := by decide +kernel
theorem dX1_blocks_30 : decode cX1_blocks 30 = .ok (.iconst 1, 1) := by decide +kernel
theorem dX1_blocks_31 : decode cX1_blocks 31 = .ok (.ireturn, 1) := by decide +kernel
theorem dX1_live_0 : decode cX1_live 0 = .ok (.iconst 0, 1) := by decide +kernel
theorem dX1_live_1 : decode cX1_live 1 = .ok (.istore_n 1, 1) := by decide +kernel
theorem dX1_live_2 : decode cX1_live 2 = .ok (.iconst 0, 1) := by decide +kernel
theorem dX1_live_3 : decode cX1_live 3 = .ok (.istore_n 2, 1) := by decide +kernel
theorem dX1_live_4 : decode cX1_live 4 = .ok (.iload_n 2, 1) := by decide +kernel
theorem dX1_live_5 : decode cX1_live 5 = .ok (.bipush 16, 2) := by decide +kernel
theorem dX1_live_7 : decode cX1_live 7 = .ok (.if_icmp .ge 17, 3) := by decide +kernel
theorem dX1_live_10 : decode cX1_live 10 = .ok (.iload_n 1, 1) := by decide +kernel
theorem dX1_live_11 : decode cX1_live 11 = .ok (.aload_n 0, 1) := by decide +kernel
theorem dX1_live_12 : decode cX1_live 12 = .ok (.iload_n 2, 1) := by decide +kernel
theorem dX1_live_13 : decode cX1_live 13 = .ok (.invokevirtual 44, 3) := by decide +kernel
theorem dX1_live_16 : decode cX1_live 16 = .ok (.iadd, 1) := by decide +kernel
theorem dX1_live_17 : decode cX1_live 17 = .ok (.istore_n 1, 1) := by decide +kernel
theorem dX1_live_18 : decode cX1_live 18 = .ok (.iinc 2 1, 3) := by decide +kernel
theorem dX1_live_21 : decode cX1_live 21 = .ok (.goto (-17), 3) := by decide +kernel
theorem dX1_live_24 : decode cX1_live 24 = .ok (.iload_n 1, 1) := by decide +kernel
theorem dX1_live_25 : decode cX1_live 25 = .ok (.ireturn, 1) := by decide +kernel
theorem dX1_liesIn_0 : decode cX1_liesIn 0 = .ok (.iload_n 1, 1) := by decide +kernel
theorem dX1_liesIn_1 : decode cX1_liesIn 1 = .ok (.istore_n 3, 1) := by decide +kernel
theorem dX1_liesIn_2 : decode cX1_liesIn 2 = .ok (.iconst 0, 1) := by decide +kernel
theorem dX1_liesIn_3 : decode cX1_liesIn 3 = .ok (.istore 4, 2) := by decide +kernel
theorem dX1_liesIn_5 : decode cX1_liesIn 5 = .ok (.iload 4, 2) := by decide +kernel
theorem dX1_liesIn_7 : decode cX1_liesIn 7 = .ok (.bipush 16, 2) := by decide +kernel
theorem dX1_liesIn_9 : decode cX1_liesIn 9 = .ok (.if_icmp .ge 23, 3) := by decide +kernel
theorem dX1_liesIn_12 : decode cX1_liesIn 12 = .ok (.iload_n 3, 1) := by decide +kernel
theorem dX1_liesIn_13 : decode cX1_liesIn 13 = .ok (.iload_n 2, 1) := by decide +kernel
theorem dX1_liesIn_14 : decode cX1_liesIn 14 = .ok (.if_icmp .ne 5, 3) := by decide +kernel
theorem dX1_liesIn_17 : decode cX1_liesIn 17 = .ok (.iconst 1, 1) := by decide +kernel
theorem dX1_liesIn_18 : decode cX1_liesIn 18 = .ok (.ireturn, 1) := by decide +kernel
theorem dX1_liesIn_19 : decode cX1_liesIn 19 = .ok (.aload_n 0, 1) := by decide +kernel
theorem dX1_liesIn_20 : decode cX1_liesIn 20 = .ok (.getfield 21, 3) := by decide +kernel
theorem dX1_liesIn_23 : decode cX1_liesIn 23 = .ok (.iload_n 3, 1) := by decide +kernel
theorem dX1_liesIn_24 : decode cX1_liesIn 24 = .ok (.iaload, 1) := by decide +kernel
theorem dX1_liesIn_25 : decode cX1_liesIn 25 = .ok (.istore_n 3, 1) := by decide +kernel
theorem dX1_liesIn_26 : decode cX1_liesIn 26 = .ok (.iinc 4 1, 3) := by decide +kernel
theorem dX1_liesIn_29 : decode cX1_liesIn 29 = .ok (.goto (-24), 3) := by decide +kernel
theorem dX1_liesIn_32 : decode cX1_liesIn 32 = .ok (.iconst 0, 1) := by decide +kernel
theorem dX1_liesIn_33 : decode cX1_liesIn 33 = .ok (.ireturn, 1) := by decide +kernel
theorem dX1_addNode_0 : decode cX1_addNode 0 = .ok (.aload_n 0, 1) := by decide +kernel
theorem dX1_addNode_1 : decode cX1_addNode 1 = .ok (.invokevirtual 48, 3) := by decide +kernel
theorem dX1_addNode_4 : decode cX1_addNode 4 = .ok (.istore 4, 2) := by decide +kernel
theorem dX1_addNode_6 : decode cX1_addNode 6 = .ok (.aload_n 0, 1) := by decide +kernel
theorem dX1_addNode_7 : decode cX1_addNode 7 = .ok (.getfield 9, 3) := by decide +kernel
theorem dX1_addNode_10 : decode cX1_addNode 10 = .ok (.iload 4, 2) := by decide +kernel
theorem dX1_addNode_12 : decode cX1_addNode 12 = .ok (.iload_n 3, 1) := by decide +kernel
theorem dX1_addNode_13 : decode cX1_addNode 13 = .ok (.iastore, 1) := by decide +kernel
theorem dX1_addNode_14 : decode cX1_addNode 14 = .ok (.aload_n 0, 1) := by decide +kernel
theorem dX1_addNode_15 : decode cX1_addNode 15 = .ok (.iload_n 1, 1) := by decide +kernel
theorem dX1_addNode_16 : decode cX1_addNode 16 = .ok (.iload_n 2, 1) := by decide +kernel
theorem dX1_addNode_17 : decode cX1_addNode 17 = .ok (.iload 4, 2) := by decide +kernel
theorem dX1_addNode_19 : decode cX1_addNode 19 = .ok (.invokevirtual 52, 3) := by decide +kernel
theorem dX1_addNode_22 : decode cX1_addNode 22 = .ok (.return_, 1) := by decide +kernel
theorem dX1_addEntry_0 : decode cX1_addEntry 0 = .ok (.aload_n 0, 1) := by decide +kernel
theorem dX1_addEntry_1 : decode cX1_addEntry 1 = .ok (.getfield 24, 3) := by decide +kernel
theorem dX1_addEntry_4 : decode cX1_addEntry 4 = .ok (.iload_n 1, 1) := by decide +kernel
theorem dX1_addEntry_5 : decode cX1_addEntry 5 = .ok (.bipush 32, 2) := by decide +kernel
theorem dX1_addEntry_7 : decode cX1_addEntry 7 = .ok (.imul, 1) := by decide +kernel
theorem dX1_addEntry_8 : decode cX1_addEntry 8 = .ok (.iload_n 2, 1) := by decide +kernel
theorem dX1_addEntry_9 : decode cX1_addEntry 9 = .ok (.iadd, 1) := by decide +kernel
theorem dX1_addEntry_10 : decode cX1_addEntry 10 = .ok (.iload_n 3, 1) := by decide +kernel
theorem dX1_addEntry_11 : decode cX1_addEntry 11 = .ok (.iastore, 1) := by decide +kernel
theorem dX1_addEntry_12 : decode cX1_addEntry 12 = .ok (.aload_n 0, 1) := by decide +kernel
theorem dX1_addEntry_13 : decode cX1_addEntry 13 = .ok (.getfield 15, 3) := by decide +kernel
theorem dX1_addEntry_16 : decode cX1_addEntry 16 = .ok (.iload_n 1, 1) := by decide +kernel
theorem dX1_addEntry_17 : decode cX1_addEntry 17 = .ok (.dup2, 1) := by decide +kernel
theorem dX1_addEntry_18 : decode cX1_addEntry 18 = .ok (.iaload, 1) := by decide +kernel
theorem dX1_addEntry_19 : decode cX1_addEntry 19 = .ok (.iconst 1, 1) := by decide +kernel
theorem dX1_addEntry_20 : decode cX1_addEntry 20 = .ok (.iadd, 1) := by decide +kernel
theorem dX1_addEntry_21 : decode cX1_addEntry 21 = .ok (.iastore, 1) := by decide +kernel
theorem dX1_addEntry_22 : decode cX1_addEntry 22 = .ok (.aload_n 0, 1) := by decide +kernel
theorem dX1_addEntry_23 : decode cX1_addEntry 23 = .ok (.getfield 18, 3) := by decide +kernel
theorem dX1_addEntry_26 : decode cX1_addEntry 26 = .ok (.iload_n 3, 1) := by decide +kernel
theorem dX1_addEntry_27 : decode cX1_addEntry 27 = .ok (.dup2, 1) := by decide +kernel
theorem dX1_addEntry_28 : decode cX1_addEntry 28 = .ok (.iaload, 1) := by decide +kernel
theorem dX1_addEntry_29 : decode cX1_addEntry 29 = .ok (.iconst 1, 1) := by decide +kernel
theorem dX1_addEntry_30 : decode cX1_addEntry 30 = .ok (.iadd, 1) := by decide +kernel
theorem dX1_addEntry_31 : decode cX1_addEntry 31 = .ok (.iastore, 1) := by decide +kernel
theorem dX1_addEntry_32 : decode cX1_addEntry 32 = .ok (.aload_n 0, 1) := by decide +kernel
theorem dX1_addEntry_33 : decode cX1_addEntry 33 = .ok (.getfield 21, 3) := by decide +kernel
theorem dX1_addEntry_36 : decode cX1_addEntry 36 = .ok (.iload_n 3, 1) := by decide +kernel
theorem dX1_addEntry_37 : decode cX1_addEntry 37 = .ok (.iload_n 1, 1) := by decide +kernel
theorem dX1_addEntry_38 : decode cX1_addEntry 38 = .ok (.iastore, 1) := by decide +kernel
theorem dX1_addEntry_39 : decode cX1_addEntry 39 = .ok (.return_, 1) := by decide +kernel
theorem dX1_dropEntry_0 : decode cX1_dropEntry 0 = .ok (.aload_n 0, 1) := by decide +kernel
theorem dX1_dropEntry_1 : decode cX1_dropEntry 1 = .ok (.iload_n 1, 1) := by decide +kernel
theorem dX1_dropEntry_2 : decode cX1_dropEntry 2 = .ok (.iload_n 2, 1) := by decide +kernel
theorem dX1_dropEntry_3 : decode cX1_dropEntry 3 = .ok (.invokevirtual 56, 3) := by decide +kernel
theorem dX1_dropEntry_6 : decode cX1_dropEntry 6 = .ok (.istore_n 3, 1) := by decide +kernel
theorem dX1_dropEntry_7 : decode cX1_dropEntry 7 = .ok (.aload_n 0, 1) := by decide +kernel
theorem dX1_dropEntry_8 : decode cX1_dropEntry 8 = .ok (.getfield 18, 3) := by decide +kernel
theorem dX1_dropEntry_11 : decode cX1_dropEntry 11 = .ok (.iload_n 3, 1) := by decide +kernel
theorem dX1_dropEntry_12 : decode cX1_dropEntry 12 = .ok (.iaload, 1) := by decide +kernel
theorem dX1_dropEntry_13 : decode cX1_dropEntry 13 = .ok (.ifCond .ne 17, 3) := by decide +kernel
theorem dX1_dropEntry_16 : decode cX1_dropEntry 16 = .ok (.aload_n 0, 1) := by decide +kernel
theorem dX1_dropEntry_17 : decode cX1_dropEntry 17 = .ok (.getfield 9, 3) := by decide +kernel
theorem dX1_dropEntry_20 : decode cX1_dropEntry 20 = .ok (.iload_n 3, 1) := by decide +kernel
theorem dX1_dropEntry_21 : decode cX1_dropEntry 21 = .ok (.iconst 0, 1) := by decide +kernel
theorem dX1_dropEntry_22 : decode cX1_dropEntry 22 = .ok (.iastore, 1) := by decide +kernel
theorem dX1_dropEntry_23 : decode cX1_dropEntry 23 = .ok (.aload_n 0, 1) := by decide +kernel
theorem dX1_dropEntry_24 : decode cX1_dropEntry 24 = .ok (.getfield 15, 3) := by decide +kernel
theorem dX1_dropEntry_27 : decode cX1_dropEntry 27 = .ok (.iload_n 3, 1) := by decide +kernel
theorem dX1_dropEntry_28 : decode cX1_dropEntry 28 = .ok (.iconst 0, 1) := by decide +kernel
theorem dX1_dropEntry_29 : decode cX1_dropEntry 29 = .ok (.iastore, 1) := by decide +kernel
theorem dX1_dropEntry_30 : decode cX1_dropEntry 30 = .ok (.return_, 1) := by decide +kernel
theorem dX1_moveEntry_0 : decode cX1_moveEntry 0 = .ok (.aload_n 0, 1) := by decide +kernel
theorem dX1_moveEntry_1 : decode cX1_moveEntry 1 = .ok (.iload_n 1, 1) := by decide +kernel
theorem dX1_moveEntry_2 : decode cX1_moveEntry 2 = .ok (.iload_n 2, 1) := by decide +kernel
theorem dX1_moveEntry_3 : decode cX1_moveEntry 3 = .ok (.invokevirtual 56, 3) := by decide +kernel
theorem dX1_moveEntry_6 : decode cX1_moveEntry 6 = .ok (.istore 5, 2) := by decide +kernel
theorem dX1_moveEntry_8 : decode cX1_moveEntry 8 = .ok (.aload_n 0, 1) := by decide +kernel
theorem dX1_moveEntry_9 : decode cX1_moveEntry 9 = .ok (.iload_n 3, 1) := by decide +kernel
theorem dX1_moveEntry_10 : decode cX1_moveEntry 10 = .ok (.iload 4, 2) := by decide +kernel
theorem dX1_moveEntry_12 : decode cX1_moveEntry 12 = .ok (.iload 5, 2) := by decide +kernel
theorem dX1_moveEntry_14 : decode cX1_moveEntry 14 = .ok (.invokevirtual 52, 3) := by decide +kernel
theorem dX1_moveEntry_17 : decode cX1_moveEntry 17 = .ok (.return_, 1) := by decide +kernel
theorem dX1_setInt_0 : decode cX1_setInt 0 = .ok (.aload_n 0, 1) := by decide +kernel
theorem dX1_setInt_1 : decode cX1_setInt 1 = .ok (.getfield 27, 3) := by decide +kernel
theorem dX1_setInt_4 : decode cX1_setInt 4 = .ok (.iload_n 1, 1) := by decide +kernel
theorem dX1_setInt_5 : decode cX1_setInt 5 = .ok (.bipush 8, 2) := by decide +kernel
theorem dX1_setInt_7 : decode cX1_setInt 7 = .ok (.imul, 1) := by decide +kernel
theorem dX1_setInt_8 : decode cX1_setInt 8 = .ok (.iload_n 2, 1) := by decide +kernel
theorem dX1_setInt_9 : decode cX1_setInt 9 = .ok (.iadd, 1) := by decide +kernel
theorem dX1_setInt_10 : decode cX1_setInt 10 = .ok (.iload_n 3, 1) := by decide +kernel
theorem dX1_setInt_11 : decode cX1_setInt 11 = .ok (.iastore, 1) := by decide +kernel
theorem dX1_setInt_12 : decode cX1_setInt 12 = .ok (.aload_n 0, 1) := by decide +kernel
theorem dX1_setInt_13 : decode cX1_setInt 13 = .ok (.getfield 15, 3) := by decide +kernel
theorem dX1_setInt_16 : decode cX1_setInt 16 = .ok (.iload_n 1, 1) := by decide +kernel
theorem dX1_setInt_17 : decode cX1_setInt 17 = .ok (.aload_n 0, 1) := by decide +kernel
theorem dX1_setInt_18 : decode cX1_setInt 18 = .ok (.getfield 15, 3) := by decide +kernel
theorem dX1_setInt_21 : decode cX1_setInt 21 = .ok (.iload_n 1, 1) := by decide +kernel
theorem dX1_setInt_22 : decode cX1_setInt 22 = .ok (.iaload, 1) := by decide +kernel
theorem dX1_setInt_23 : decode cX1_setInt 23 = .ok (.iload_n 2, 1) := by decide +kernel
theorem dX1_setInt_24 : decode cX1_setInt 24 = .ok (.iconst 1, 1) := by decide +kernel
theorem dX1_setInt_25 : decode cX1_setInt 25 = .ok (.iadd, 1) := by decide +kernel
theorem dX1_setInt_26 : decode cX1_setInt 26 = .ok (.invokestatic 59, 3) := by decide +kernel
theorem dX1_setInt_29 : decode cX1_setInt 29 = .ok (.iastore, 1) := by decide +kernel
theorem dX1_setInt_30 : decode cX1_setInt 30 = .ok (.return_, 1) := by decide +kernel
theorem dX1_setSize_0 : decode cX1_setSize 0 = .ok (.aload_n 0, 1) := by decide +kernel
theorem dX1_setSize_1 : decode cX1_setSize 1 = .ok (.getfield 15, 3) := by decide +kernel
theorem dX1_setSize_4 : decode cX1_setSize 4 = .ok (.iload_n 1, 1) := by decide +kernel
theorem dX1_setSize_5 : decode cX1_setSize 5 = .ok (.iload_n 2, 1) := by decide +kernel
theorem dX1_setSize_6 : decode cX1_setSize 6 = .ok (.iastore, 1) := by decide +kernel
theorem dX1_setSize_7 : decode cX1_setSize 7 = .ok (.return_, 1) := by decide +kernel
theorem dX1_takeEntry_0 : decode cX1_takeEntry 0 = .ok (.aload_n 0, 1) := by decide +kernel
theorem dX1_takeEntry_1 : decode cX1_takeEntry 1 = .ok (.iload_n 1, 1) := by decide +kernel
theorem dX1_takeEntry_2 : decode cX1_takeEntry 2 = .ok (.iload_n 2, 1) := by decide +kernel
theorem dX1_takeEntry_3 : decode cX1_takeEntry 3 = .ok (.invokevirtual 36, 3) := by decide +kernel
theorem dX1_takeEntry_6 : decode cX1_takeEntry 6 = .ok (.istore_n 3, 1) := by decide +kernel
theorem dX1_takeEntry_7 : decode cX1_takeEntry 7 = .ok (.aload_n 0, 1) := by decide +kernel
theorem dX1_takeEntry_8 : decode cX1_takeEntry 8 = .ok (.getfield 24, 3) := by decide +kernel
theorem dX1_takeEntry_11 : decode cX1_takeEntry 11 = .ok (.iload_n 1, 1) := by decide +kernel
theorem dX1_takeEntry_12 : decode cX1_takeEntry 12 = .ok (.bipush 32, 2) := by decide +kernel
theorem dX1_takeEntry_14 : decode cX1_takeEntry 14 = .ok (.imul, 1) := by decide +kernel
theorem dX1_takeEntry_15 : decode cX1_takeEntry 15 = .ok (.iload_n 2, 1) := by decide +kernel
theorem dX1_takeEntry_16 : decode cX1_takeEntry 16 = .ok (.iadd, 1) := by decide +kernel
theorem dX1_takeEntry_17 : decode cX1_takeEntry 17 = .ok (.iconst 0, 1) := by decide +kernel
theorem dX1_takeEntry_18 : decode cX1_takeEntry 18 = .ok (.iastore, 1) := by decide +kernel
theorem dX1_takeEntry_19 : decode cX1_takeEntry 19 = .ok (.aload_n 0, 1) := by decide +kernel
theorem dX1_takeEntry_20 : decode cX1_takeEntry 20 = .ok (.getfield 15, 3) := by decide +kernel
theorem dX1_takeEntry_23 : decode cX1_takeEntry 23 = .ok (.iload_n 1, 1) := by decide +kernel
theorem dX1_takeEntry_24 : decode cX1_takeEntry 24 = .ok (.dup2, 1) := by decide +kernel
theorem dX1_takeEntry_25 : decode cX1_takeEntry 25 = .ok (.iaload, 1) := by decide +kernel
theorem dX1_takeEntry_26 : decode cX1_takeEntry 26 = .ok (.iconst 1, 1) := by decide +kernel
theorem dX1_takeEntry_27 : decode cX1_takeEntry 27 = .ok (.isub, 1) := by decide +kernel
theorem dX1_takeEntry_28 : decode cX1_takeEntry 28 = .ok (.iastore, 1) := by decide +kernel
theorem dX1_takeEntry_29 : decode cX1_takeEntry 29 = .ok (.aload_n 0, 1) := by decide +kernel
theorem dX1_takeEntry_30 : decode cX1_takeEntry 30 = .ok (.getfield 18, 3) := by decide +kernel
theorem dX1_takeEntry_33 : decode cX1_takeEntry 33 = .ok (.iload_n 3, 1) := by decide +kernel
theorem dX1_takeEntry_34 : decode cX1_takeEntry 34 = .ok (.dup2, 1) := by decide +kernel
theorem dX1_takeEntry_35 : decode cX1_takeEntry 35 = .ok (.iaload, 1) := by decide +kernel
theorem dX1_takeEntry_36 : decode cX1_takeEntry 36 = .ok (.iconst 1, 1) := by decide +kernel
theorem dX1_takeEntry_37 : decode cX1_takeEntry 37 = .ok (.isub, 1) := by decide +kernel
theorem dX1_takeEntry_38 : decode cX1_takeEntry 38 = .ok (.iastore, 1) := by decide +kernel
theorem dX1_takeEntry_39 : decode cX1_takeEntry 39 = .ok (.iload_n 3, 1) := by decide +kernel
theorem dX1_takeEntry_40 : decode cX1_takeEntry 40 = .ok (.ireturn, 1) := by decide +kernel
