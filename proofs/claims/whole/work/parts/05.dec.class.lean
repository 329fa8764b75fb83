theorem dX2_init_0 : decode cX2_init 0 = .ok (.aload_n 0, 1) := by decide +kernel
theorem dX2_init_1 : decode cX2_init 1 = .ok (.invokespecial 1, 3) := by decide +kernel
theorem dX2_init_4 : decode cX2_init 4 = .ok (.iconst 4, 1) := by decide +kernel
theorem dX2_init_5 : decode cX2_init 5 = .ok (.bipush 8, 2) := by decide +kernel
theorem dX2_init_7 : decode cX2_init 7 = .ok (.iload_n 1, 1) := by decide +kernel
theorem dX2_init_8 : decode cX2_init 8 = .ok (.invokestatic 9, 3) := by decide +kernel
theorem dX2_init_11 : decode cX2_init 11 = .ok (.invokestatic 15, 3) := by decide +kernel
theorem dX2_init_14 : decode cX2_init 14 = .ok (.istore_n 2, 1) := by decide +kernel
theorem dX2_init_15 : decode cX2_init 15 = .ok (.aload_n 0, 1) := by decide +kernel
theorem dX2_init_16 : decode cX2_init 16 = .ok (.bipush 8, 2) := by decide +kernel
theorem dX2_init_18 : decode cX2_init 18 = .ok (.iload_n 2, 1) := by decide +kernel
theorem dX2_init_19 : decode cX2_init 19 = .ok (.iconst 2, 1) := by decide +kernel
theorem dX2_init_20 : decode cX2_init 20 = .ok (.isub, 1) := by decide +kernel
theorem dX2_init_21 : decode cX2_init 21 = .ok (.imul, 1) := by decide +kernel
theorem dX2_init_22 : decode cX2_init 22 = .ok (.putfield 18, 3) := by decide +kernel
theorem dX2_init_25 : decode cX2_init 25 = .ok (.aload_n 0, 1) := by decide +kernel
theorem dX2_init_26 : decode cX2_init 26 = .ok (.new 22, 3) := by decide +kernel
theorem dX2_init_29 : decode cX2_init 29 = .ok (.dup, 1) := by decide +kernel
theorem dX2_init_30 : decode cX2_init 30 = .ok (.invokespecial 24, 3) := by decide +kernel
theorem dX2_init_33 : decode cX2_init 33 = .ok (.putfield 25, 3) := by decide +kernel
theorem dX2_init_36 : decode cX2_init 36 = .ok (.aload_n 0, 1) := by decide +kernel
theorem dX2_init_37 : decode cX2_init 37 = .ok (.new 22, 3) := by decide +kernel
theorem dX2_init_40 : decode cX2_init 40 = .ok (.dup, 1) := by decide +kernel
theorem dX2_init_41 : decode cX2_init 41 = .ok (.invokespecial 24, 3) := by decide +kernel
theorem dX2_init_44 : decode cX2_init 44 = .ok (.putfield 29, 3) := by decide +kernel
theorem dX2_init_47 : decode cX2_init 47 = .ok (.aload_n 0, 1) := by decide +kernel
theorem dX2_init_48 : decode cX2_init 48 = .ok (.new 32, 3) := by decide +kernel
theorem dX2_init_51 : decode cX2_init 51 = .ok (.dup, 1) := by decide +kernel
theorem dX2_init_52 : decode cX2_init 52 = .ok (.invokespecial 34, 3) := by decide +kernel
theorem dX2_init_55 : decode cX2_init 55 = .ok (.putfield 35, 3) := by decide +kernel
theorem dX2_init_58 : decode cX2_init 58 = .ok (.aload_n 0, 1) := by decide +kernel
theorem dX2_init_59 : decode cX2_init 59 = .ok (.aload_n 0, 1) := by decide +kernel
theorem dX2_init_60 : decode cX2_init 60 = .ok (.getfield 25, 3) := by decide +kernel
theorem dX2_init_63 : decode cX2_init 63 = .ok (.invokevirtual 39, 3) := by decide +kernel
theorem dX2_init_66 : decode cX2_init 66 = .ok (.putfield 43, 3) := by decide +kernel
theorem dX2_init_69 : decode cX2_init 69 = .ok (.aload_n 0, 1) := by decide +kernel
theorem dX2_init_70 : decode cX2_init 70 = .ok (.iconst 0, 1) := by decide +kernel
theorem dX2_init_71 : decode cX2_init 71 = .ok (.putfield 46, 3) := by decide +kernel
theorem dX2_init_74 : decode cX2_init 74 = .ok (.return_, 1) := by decide +kernel
theorem dX2_create_0 : decode cX2_create 0 = .ok (.iload_n 1, 1) := by decide +kernel
theorem dX2_create_1 : decode cX2_create 1 = .ok (.invokestatic 49, 3) := by decide +kernel
theorem dX2_create_4 : decode cX2_create 4 = .ok (.ifCond .eq 10, 3) := by decide +kernel
theorem dX2_create_7 : decode cX2_create 7 = .ok (.iload_n 2, 1) := by decide +kernel
theorem dX2_create_8 : decode cX2_create 8 = .ok (.invokestatic 53, 3) := by decide +kernel
theorem dX2_create_11 : decode cX2_create 11 = .ok (.ifCond .ne 5, 3) := by decide +kernel
theorem dX2_create_14 : decode cX2_create 14 = .ok (.iconst (-1), 1) := by decide +kernel
theorem dX2_create_15 : decode cX2_create 15 = .ok (.ireturn, 1) := by decide +kernel
theorem dX2_create_16 : decode cX2_create 16 = .ok (.aload_n 0, 1) := by decide +kernel
theorem dX2_create_17 : decode cX2_create 17 = .ok (.getfield 25, 3) := by decide +kernel
theorem dX2_create_20 : decode cX2_create 20 = .ok (.iload_n 1, 1) := by decide +kernel
theorem dX2_create_21 : decode cX2_create 21 = .ok (.invokevirtual 56, 3) := by decide +kernel
theorem dX2_create_24 : decode cX2_create 24 = .ok (.ifCond .ne 6, 3) := by decide +kernel
theorem dX2_create_27 : decode cX2_create 27 = .ok (.bipush (-2), 2) := by decide +kernel
theorem dX2_create_29 : decode cX2_create 29 = .ok (.ireturn, 1) := by decide +kernel
theorem dX2_create_30 : decode cX2_create 30 = .ok (.aload_n 0, 1) := by decide +kernel
theorem dX2_create_31 : decode cX2_create 31 = .ok (.getfield 25, 3) := by decide +kernel
theorem dX2_create_34 : decode cX2_create 34 = .ok (.iload_n 1, 1) := by decide +kernel
theorem dX2_create_35 : decode cX2_create 35 = .ok (.iload_n 2, 1) := by decide +kernel
theorem dX2_create_36 : decode cX2_create 36 = .ok (.invokevirtual 59, 3) := by decide +kernel
theorem dX2_create_39 : decode cX2_create 39 = .ok (.ifCond .eq 6, 3) := by decide +kernel
theorem dX2_create_42 : decode cX2_create 42 = .ok (.bipush (-3), 2) := by decide +kernel
theorem dX2_create_44 : decode cX2_create 44 = .ok (.ireturn, 1) := by decide +kernel
theorem dX2_create_45 : decode cX2_create 45 = .ok (.aload_n 0, 1) := by decide +kernel
theorem dX2_create_46 : decode cX2_create 46 = .ok (.getfield 25, 3) := by decide +kernel
theorem dX2_create_49 : decode cX2_create 49 = .ok (.invokevirtual 62, 3) := by decide +kernel
theorem dX2_create_52 : decode cX2_create 52 = .ok (.istore 4, 2) := by decide +kernel
theorem dX2_create_54 : decode cX2_create 54 = .ok (.aload_n 0, 1) := by decide +kernel
theorem dX2_create_55 : decode cX2_create 55 = .ok (.getfield 25, 3) := by decide +kernel
theorem dX2_create_58 : decode cX2_create 58 = .ok (.iload_n 1, 1) := by decide +kernel
theorem dX2_create_59 : decode cX2_create 59 = .ok (.invokevirtual 65, 3) := by decide +kernel
theorem dX2_create_62 : decode cX2_create 62 = .ok (.bipush 8, 2) := by decide +kernel
theorem dX2_create_64 : decode cX2_create 64 = .ok (.if_icmp .ge 8, 3) := by decide +kernel
theorem dX2_create_67 : decode cX2_create 67 = .ok (.iload 4, 2) := by decide +kernel
theorem dX2_create_69 : decode cX2_create 69 = .ok (.ifCond .ne 6, 3) := by decide +kernel
theorem dX2_create_72 : decode cX2_create 72 = .ok (.bipush (-5), 2) := by decide +kernel
theorem dX2_create_74 : decode cX2_create 74 = .ok (.ireturn, 1) := by decide +kernel
theorem dX2_create_75 : decode cX2_create 75 = .ok (.iconst 2, 1) := by decide +kernel
theorem dX2_create_76 : decode cX2_create 76 = .ok (.iconst 0, 1) := by decide +kernel
theorem dX2_create_77 : decode cX2_create 77 = .ok (.invokestatic 69, 3) := by decide +kernel
theorem dX2_create_80 : decode cX2_create 80 = .ok (.istore 5, 2) := by decide +kernel
theorem dX2_create_82 : decode cX2_create 82 = .ok (.aload_n 0, 1) := by decide +kernel
theorem dX2_create_83 : decode cX2_create 83 = .ok (.iload 5, 2) := by decide +kernel
theorem dX2_create_85 : decode cX2_create 85 = .ok (.iconst 1, 1) := by decide +kernel
theorem dX2_create_86 : decode cX2_create 86 = .ok (.invokevirtual 72, 3) := by decide +kernel
theorem dX2_create_89 : decode cX2_create 89 = .ok (.ifCond .ne 6, 3) := by decide +kernel
theorem dX2_create_92 : decode cX2_create 92 = .ok (.bipush (-6), 2) := by decide +kernel
theorem dX2_create_94 : decode cX2_create 94 = .ok (.ireturn, 1) := by decide +kernel
theorem dX2_create_95 : decode cX2_create 95 = .ok (.aload_n 0, 1) := by decide +kernel
theorem dX2_create_96 : decode cX2_create 96 = .ok (.iload 5, 2) := by decide +kernel
theorem dX2_create_98 : decode cX2_create 98 = .ok (.iconst 0, 1) := by decide +kernel
theorem dX2_create_99 : decode cX2_create 99 = .ok (.iload_n 1, 1) := by decide +kernel
theorem dX2_create_100 : decode cX2_create 100 = .ok (.iload_n 2, 1) := by decide +kernel
theorem dX2_create_101 : decode cX2_create 101 = .ok (.iload_n 3, 1) := by decide +kernel
theorem dX2_create_102 : decode cX2_create 102 = .ok (.ifCond .eq 7, 3) := by decide +kernel
theorem dX2_create_105 : decode cX2_create 105 = .ok (.iconst 2, 1) := by decide +kernel
theorem dX2_create_106 : decode cX2_create 106 = .ok (.goto 4, 3) := by decide +kernel
theorem dX2_create_109 : decode cX2_create 109 = .ok (.iconst 1, 1) := by decide +kernel
theorem dX2_create_110 : decode cX2_create 110 = .ok (.iconst 0, 1) := by decide +kernel
theorem dX2_create_111 : decode cX2_create 111 = .ok (.invokevirtual 76, 3) := by decide +kernel
theorem dX2_create_114 : decode cX2_create 114 = .ok (.iload 4, 2) := by decide +kernel
theorem dX2_create_116 : decode cX2_create 116 = .ok (.ireturn, 1) := by decide +kernel
theorem dX2_link_0 : decode cX2_link 0 = .ok (.iload_n 1, 1) := by decide +kernel
theorem dX2_link_1 : decode cX2_link 1 = .ok (.invokestatic 49, 3) := by decide +kernel
theorem dX2_link_4 : decode cX2_link 4 = .ok (.ifCond .eq 17, 3) := by decide +kernel
theorem dX2_link_7 : decode cX2_link 7 = .ok (.iload_n 2, 1) := by decide +kernel
theorem dX2_link_8 : decode cX2_link 8 = .ok (.invokestatic 53, 3) := by decide +kernel
theorem dX2_link_11 : decode cX2_link 11 = .ok (.ifCond .eq 10, 3) := by decide +kernel
theorem dX2_link_14 : decode cX2_link 14 = .ok (.iload_n 3, 1) := by decide +kernel
theorem dX2_link_15 : decode cX2_link 15 = .ok (.invokestatic 49, 3) := by decide +kernel
theorem dX2_link_18 : decode cX2_link 18 = .ok (.ifCond .ne 5, 3) := by decide +kernel
theorem dX2_link_21 : decode cX2_link 21 = .ok (.iconst (-1), 1) := by decide +kernel
theorem dX2_link_22 : decode cX2_link 22 = .ok (.ireturn, 1) := by decide +kernel
theorem dX2_link_23 : decode cX2_link 23 = .ok (.aload_n 0, 1) := by decide +kernel
theorem dX2_link_24 : decode cX2_link 24 = .ok (.getfield 25, 3) := by decide +kernel
theorem dX2_link_27 : decode cX2_link 27 = .ok (.iload_n 1, 1) := by decide +kernel
theorem dX2_link_28 : decode cX2_link 28 = .ok (.invokevirtual 56, 3) := by decide +kernel
theorem dX2_link_31 : decode cX2_link 31 = .ok (.ifCond .eq 14, 3) := by decide +kernel
theorem dX2_link_34 : decode cX2_link 34 = .ok (.aload_n 0, 1) := by decide +kernel
theorem dX2_link_35 : decode cX2_link 35 = .ok (.getfield 25, 3) := by decide +kernel
theorem dX2_link_38 : decode cX2_link 38 = .ok (.iload_n 3, 1) := by decide +kernel
theorem dX2_link_39 : decode cX2_link 39 = .ok (.invokevirtual 80, 3) := by decide +kernel
theorem dX2_link_42 : decode cX2_link 42 = .ok (.ifCond .ne 6, 3) := by decide +kernel
theorem dX2_link_45 : decode cX2_link 45 = .ok (.bipush (-2), 2) := by decide +kernel
theorem dX2_link_47 : decode cX2_link 47 = .ok (.ireturn, 1) := by decide +kernel
theorem dX2_link_48 : decode cX2_link 48 = .ok (.aload_n 0, 1) := by decide +kernel
theorem dX2_link_49 : decode cX2_link 49 = .ok (.getfield 25, 3) := by decide +kernel
theorem dX2_link_52 : decode cX2_link 52 = .ok (.iload_n 1, 1) := by decide +kernel
theorem dX2_link_53 : decode cX2_link 53 = .ok (.iload_n 2, 1) := by decide +kernel
theorem dX2_link_54 : decode cX2_link 54 = .ok (.invokevirtual 59, 3) := by decide +kernel
theorem dX2_link_57 : decode cX2_link 57 = .ok (.ifCond .eq 6, 3) := by decide +kernel
theorem dX2_link_60 : decode cX2_link 60 = .ok (.bipush (-3), 2) := by decide +kernel
theorem dX2_link_62 : decode cX2_link 62 = .ok (.ireturn, 1) := by decide +kernel
theorem dX2_link_63 : decode cX2_link 63 = .ok (.aload_n 0, 1) := by decide +kernel
theorem dX2_link_64 : decode cX2_link 64 = .ok (.getfield 25, 3) := by decide +kernel
theorem dX2_link_67 : decode cX2_link 67 = .ok (.iload_n 1, 1) := by decide +kernel
theorem dX2_link_68 : decode cX2_link 68 = .ok (.invokevirtual 65, 3) := by decide +kernel
theorem dX2_link_71 : decode cX2_link 71 = .ok (.bipush 8, 2) := by decide +kernel
theorem dX2_link_73 : decode cX2_link 73 = .ok (.if_icmp .lt 6, 3) := by decide +kernel
theorem dX2_link_76 : decode cX2_link 76 = .ok (.bipush (-5), 2) := by decide +kernel
theorem dX2_link_78 : decode cX2_link 78 = .ok (.ireturn, 1) := by decide +kernel
theorem dX2_link_79 : decode cX2_link 79 = .ok (.iconst 2, 1) := by decide +kernel
theorem dX2_link_80 : decode cX2_link 80 = .ok (.iconst 0, 1) := by decide +kernel
theorem dX2_link_81 : decode cX2_link 81 = .ok (.invokestatic 69, 3) := by decide +kernel
theorem dX2_link_84 : decode cX2_link 84 = .ok (.istore 4, 2) := by decide +kernel
theorem dX2_link_86 : decode cX2_link 86 = .ok (.aload_n 0, 1) := by decide +kernel
theorem dX2_link_87 : decode cX2_link 87 = .ok (.iload 4, 2) := by decide +kernel
theorem dX2_link_89 : decode cX2_link 89 = .ok (.iconst 0, 1) := by decide +kernel
theorem dX2_link_90 : decode cX2_link 90 = .ok (.invokevirtual 72, 3) := by decide +kernel
theorem dX2_link_93 : decode cX2_link 93 = .ok (.ifCond .ne 6, 3) := by decide +kernel
theorem dX2_link_96 : decode cX2_link 96 = .ok (.bipush (-6), 2) := by decide +kernel
theorem dX2_link_98 : decode cX2_link 98 = .ok (.ireturn, 1) := by decide +kernel
theorem dX2_link_99 : decode cX2_link 99 = .ok (.aload_n 0, 1) := by decide +kernel
theorem dX2_link_100 : decode cX2_link 100 = .ok (.iload 4, 2) := by decide +kernel
theorem dX2_link_102 : decode cX2_link 102 = .ok (.iconst 1, 1) := by decide +kernel
theorem dX2_link_103 : decode cX2_link 103 = .ok (.iload_n 1, 1) := by decide +kernel
theorem dX2_link_104 : decode cX2_link 104 = .ok (.iload_n 2, 1) := by decide +kernel
theorem dX2_link_105 : decode cX2_link 105 = .ok (.iload_n 3, 1) := by decide +kernel
theorem dX2_link_106 : decode cX2_link 106 = .ok (.iconst 0, 1) := by decide +kernel
theorem dX2_link_107 : decode cX2_link 107 = .ok (.invokevirtual 76, 3) := by decide +kernel
theorem dX2_link_110 : decode cX2_link 110 = .ok (.iconst 0, 1) := by decide +kernel
theorem dX2_link_111 : decode cX2_link 111 = .ok (.ireturn, 1) := by decide +kernel
theorem dX2_remove_0 : decode cX2_remove 0 = .ok (.iload_n 1, 1) := by decide +kernel
theorem dX2_remove_1 : decode cX2_remove 1 = .ok (.invokestatic 49, 3) := by decide +kernel
theorem dX2_remove_4 : decode cX2_remove 4 = .ok (.ifCond .eq 10, 3) := by decide +kernel
theorem dX2_remove_7 : decode cX2_remove 7 = .ok (.iload_n 2, 1) := by decide +kernel
theorem dX2_remove_8 : decode cX2_remove 8 = .ok (.invokestatic 53, 3) := by decide +kernel
theorem dX2_remove_11 : decode cX2_remove 11 = .ok (.ifCond .ne 5, 3) := by decide +kernel
theorem dX2_remove_14 : decode cX2_remove 14 = .ok (.iconst (-1), 1) := by decide +kernel
theorem dX2_remove_15 : decode cX2_remove 15 = .ok (.ireturn, 1) := by decide +kernel
theorem dX2_remove_16 : decode cX2_remove 16 = .ok (.aload_n 0, 1) := by decide +kernel
theorem dX2_remove_17 : decode cX2_remove 17 = .ok (.getfield 25, 3) := by decide +kernel
theorem dX2_remove_20 : decode cX2_remove 20 = .ok (.iload_n 1, 1) := by decide +kernel
theorem dX2_remove_21 : decode cX2_remove 21 = .ok (.invokevirtual 56, 3) := by decide +kernel
theorem dX2_remove_24 : decode cX2_remove 24 = .ok (.ifCond .eq 15, 3) := by decide +kernel
theorem dX2_remove_27 : decode cX2_remove 27 = .ok (.aload_n 0, 1) := by decide +kernel
theorem dX2_remove_28 : decode cX2_remove 28 = .ok (.getfield 25, 3) := by decide +kernel
theorem dX2_remove_31 : decode cX2_remove 31 = .ok (.iload_n 1, 1) := by decide +kernel
theorem dX2_remove_32 : decode cX2_remove 32 = .ok (.iload_n 2, 1) := by decide +kernel
theorem dX2_remove_33 : decode cX2_remove 33 = .ok (.invokevirtual 59, 3) := by decide +kernel
theorem dX2_remove_36 : decode cX2_remove 36 = .ok (.ifCond .ne 6, 3) := by decide +kernel
theorem dX2_remove_39 : decode cX2_remove 39 = .ok (.bipush (-2), 2) := by decide +kernel
theorem dX2_remove_41 : decode cX2_remove 41 = .ok (.ireturn, 1) := by decide +kernel
theorem dX2_remove_42 : decode cX2_remove 42 = .ok (.aload_n 0, 1) := by decide +kernel
theorem dX2_remove_43 : decode cX2_remove 43 = .ok (.getfield 25, 3) := by decide +kernel
theorem dX2_remove_46 : decode cX2_remove 46 = .ok (.iload_n 1, 1) := by decide +kernel
theorem dX2_remove_47 : decode cX2_remove 47 = .ok (.iload_n 2, 1) := by decide +kernel
theorem dX2_remove_48 : decode cX2_remove 48 = .ok (.invokevirtual 59, 3) := by decide +kernel
theorem dX2_remove_51 : decode cX2_remove 51 = .ok (.istore_n 3, 1) := by decide +kernel
theorem dX2_remove_52 : decode cX2_remove 52 = .ok (.aload_n 0, 1) := by decide +kernel
theorem dX2_remove_53 : decode cX2_remove 53 = .ok (.getfield 25, 3) := by decide +kernel
theorem dX2_remove_56 : decode cX2_remove 56 = .ok (.iload_n 3, 1) := by decide +kernel
theorem dX2_remove_57 : decode cX2_remove 57 = .ok (.invokevirtual 56, 3) := by decide +kernel
theorem dX2_remove_60 : decode cX2_remove 60 = .ok (.ifCond .eq 17, 3) := by decide +kernel
theorem dX2_remove_63 : decode cX2_remove 63 = .ok (.aload_n 0, 1) := by decide +kernel
theorem dX2_remove_64 : decode cX2_remove 64 = .ok (.getfield 25, 3) := by decide +kernel
theorem dX2_remove_67 : decode cX2_remove 67 = .ok (.iload_n 3, 1) := by decide +kernel
theorem dX2_remove_68 : decode cX2_remove 68 = .ok (.invokevirtual 65, 3) := by decide +kernel
theorem dX2_remove_71 : decode cX2_remove 71 = .ok (.ifCond .le 6, 3) := by decide +kernel
theorem dX2_remove_74 : decode cX2_remove 74 = .ok (.bipush (-4), 2) := by decide +kernel
theorem dX2_remove_76 : decode cX2_remove 76 = .ok (.ireturn, 1) := by decide +kernel
theorem dX2_remove_77 : decode cX2_remove 77 = .ok (.aload_n 0, 1) := by decide +kernel
theorem dX2_remove_78 : decode cX2_remove 78 = .ok (.getfield 25, 3) := by decide +kernel
theorem dX2_remove_81 : decode cX2_remove 81 = .ok (.iload_n 3, 1) := by decide +kernel
theorem dX2_remove_82 : decode cX2_remove 82 = .ok (.invokevirtual 83, 3) := by decide +kernel
theorem dX2_remove_85 : decode cX2_remove 85 = .ok (.iconst 1, 1) := by decide +kernel
theorem dX2_remove_86 : decode cX2_remove 86 = .ok (.if_icmp .le 7, 3) := by decide +kernel
theorem dX2_remove_89 : decode cX2_remove 89 = .ok (.iconst 1, 1) := by decide +kernel
theorem dX2_remove_90 : decode cX2_remove 90 = .ok (.goto 4, 3) := by decide +kernel
theorem dX2_remove_93 : decode cX2_remove 93 = .ok (.iconst 0, 1) := by decide +kernel
theorem dX2_remove_94 : decode cX2_remove 94 = .ok (.istore 4, 2) := by decide +kernel
theorem dX2_remove_96 : decode cX2_remove 96 = .ok (.iload 4, 2) := by decide +kernel
theorem dX2_remove_98 : decode cX2_remove 98 = .ok (.ifCond .eq 7, 3) := by decide +kernel
theorem dX2_remove_101 : decode cX2_remove 101 = .ok (.iconst 2, 1) := by decide +kernel
theorem dX2_remove_102 : decode cX2_remove 102 = .ok (.goto 4, 3) := by decide +kernel
theorem dX2_remove_105 : decode cX2_remove 105 = .ok (.iconst 1, 1) := by decide +kernel
theorem dX2_remove_106 : decode cX2_remove 106 = .ok (.iconst 0, 1) := by decide +kernel
theorem dX2_remove_107 : decode cX2_remove 107 = .ok (.invokestatic 69, 3) := by decide +kernel
theorem dX2_remove_110 : decode cX2_remove 110 = .ok (.istore 5, 2) := by decide +kernel
theorem dX2_remove_112 : decode cX2_remove 112 = .ok (.aload_n 0, 1) := by decide +kernel
theorem dX2_remove_113 : decode cX2_remove 113 = .ok (.iload 5, 2) := by decide +kernel
theorem dX2_remove_115 : decode cX2_remove 115 = .ok (.iload 4, 2) := by decide +kernel
theorem dX2_remove_117 : decode cX2_remove 117 = .ok (.ifCond .eq 7, 3) := by decide +kernel
theorem dX2_remove_120 : decode cX2_remove 120 = .ok (.iconst 0, 1) := by decide +kernel
theorem dX2_remove_121 : decode cX2_remove 121 = .ok (.goto 12, 3) := by decide +kernel
theorem dX2_remove_124 : decode cX2_remove 124 = .ok (.aload_n 0, 1) := by decide +kernel
theorem dX2_remove_125 : decode cX2_remove 125 = .ok (.getfield 25, 3) := by decide +kernel
theorem dX2_remove_128 : decode cX2_remove 128 = .ok (.iload_n 3, 1) := by decide +kernel
theorem dX2_remove_129 : decode cX2_remove 129 = .ok (.invokevirtual 86, 3) := by decide +kernel
theorem dX2_remove_132 : decode cX2_remove 132 = .ok (.ineg, 1) := by decide +kernel
theorem dX2_remove_133 : decode cX2_remove 133 = .ok (.invokevirtual 72, 3) := by decide +kernel
theorem dX2_remove_136 : decode cX2_remove 136 = .ok (.ifCond .ne 6, 3) := by decide +kernel
theorem dX2_remove_139 : decode cX2_remove 139 = .ok (.bipush (-6), 2) := by decide +kernel
theorem dX2_remove_141 : decode cX2_remove 141 = .ok (.ireturn, 1) := by decide +kernel
theorem dX2_remove_142 : decode cX2_remove 142 = .ok (.aload_n 0, 1) := by decide +kernel
theorem dX2_remove_143 : decode cX2_remove 143 = .ok (.iload 5, 2) := by decide +kernel
theorem dX2_remove_145 : decode cX2_remove 145 = .ok (.iconst 2, 1) := by decide +kernel
theorem dX2_remove_146 : decode cX2_remove 146 = .ok (.iload_n 1, 1) := by decide +kernel
theorem dX2_remove_147 : decode cX2_remove 147 = .ok (.iload_n 2, 1) := by decide +kernel
theorem dX2_remove_148 : decode cX2_remove 148 = .ok (.iconst 0, 1) := by decide +kernel
theorem dX2_remove_149 : decode cX2_remove 149 = .ok (.iconst 0, 1) := by decide +kernel
theorem dX2_remove_150 : decode cX2_remove 150 = .ok (.invokevirtual 76, 3) := by decide +kernel
theorem dX2_remove_153 : decode cX2_remove 153 = .ok (.iconst 0, 1) := by decide +kernel
theorem dX2_remove_154 : decode cX2_remove 154 = .ok (.ireturn, 1) := by decide +kernel
theorem dX2_rename_0 : decode cX2_rename 0 = .ok (.iload_n 1, 1) := by decide +kernel
theorem dX2_rename_1 : decode cX2_rename 1 = .ok (.invokestatic 49, 3) := by decide +kernel
theorem dX2_rename_4 : decode cX2_rename 4 = .ok (.ifCond .eq 25, 3) := by decide +kernel
theorem dX2_rename_7 : decode cX2_rename 7 = .ok (.iload_n 2, 1) := by decide +kernel
theorem dX2_rename_8 : decode cX2_rename 8 = .ok (.invokestatic 53, 3) := by decide +kernel
theorem dX2_rename_11 : decode cX2_rename 11 = .ok (.ifCond .eq 18, 3) := by decide +kernel
theorem dX2_rename_14 : decode cX2_rename 14 = .ok (.iload_n 3, 1) := by decide +kernel
theorem dX2_rename_15 : decode cX2_rename 15 = .ok (.invokestatic 49, 3) := by decide +kernel
theorem dX2_rename_18 : decode cX2_rename 18 = .ok (.ifCond .eq 11, 3) := by decide +kernel
theorem dX2_rename_21 : decode cX2_rename 21 = .ok (.iload 4, 2) := by decide +kernel
theorem dX2_rename_23 : decode cX2_rename 23 = .ok (.invokestatic 53, 3) := by decide +kernel
theorem dX2_rename_26 : decode cX2_rename 26 = .ok (.ifCond .ne 5, 3) := by decide +kernel
theorem dX2_rename_29 : decode cX2_rename 29 = .ok (.iconst (-1), 1) := by decide +kernel
theorem dX2_rename_30 : decode cX2_rename 30 = .ok (.ireturn, 1) := by decide +kernel
theorem dX2_rename_31 : decode cX2_rename 31 = .ok (.aload_n 0, 1) := by decide +kernel
theorem dX2_rename_32 : decode cX2_rename 32 = .ok (.getfield 25, 3) := by decide +kernel
theorem dX2_rename_35 : decode cX2_rename 35 = .ok (.iload_n 1, 1) := by decide +kernel
theorem dX2_rename_36 : decode cX2_rename 36 = .ok (.invokevirtual 56, 3) := by decide +kernel
theorem dX2_rename_39 : decode cX2_rename 39 = .ok (.ifCond .eq 26, 3) := by decide +kernel
theorem dX2_rename_42 : decode cX2_rename 42 = .ok (.aload_n 0, 1) := by decide +kernel
theorem dX2_rename_43 : decode cX2_rename 43 = .ok (.getfield 25, 3) := by decide +kernel
theorem dX2_rename_46 : decode cX2_rename 46 = .ok (.iload_n 3, 1) := by decide +kernel
theorem dX2_rename_47 : decode cX2_rename 47 = .ok (.invokevirtual 56, 3) := by decide +kernel
theorem dX2_rename_50 : decode cX2_rename 50 = .ok (.ifCond .eq 15, 3) := by decide +kernel
theorem dX2_rename_53 : decode cX2_rename 53 = .ok (.aload_n 0, 1) := by decide +kernel
theorem dX2_rename_54 : decode cX2_rename 54 = .ok (.getfield 25, 3) := by decide +kernel
theorem dX2_rename_57 : decode cX2_rename 57 = .ok (.iload_n 1, 1) := by decide +kernel
theorem dX2_rename_58 : decode cX2_rename 58 = .ok (.iload_n 2, 1) := by decide +kernel
theorem dX2_rename_59 : decode cX2_rename 59 = .ok (.invokevirtual 59, 3) := by decide +kernel
theorem dX2_rename_62 : decode cX2_rename 62 = .ok (.ifCond .ne 6, 3) := by decide +kernel
theorem dX2_rename_65 : decode cX2_rename 65 = .ok (.bipush (-2), 2) := by decide +kernel
theorem dX2_rename_67 : decode cX2_rename 67 = .ok (.ireturn, 1) := by decide +kernel
theorem dX2_rename_68 : decode cX2_rename 68 = .ok (.aload_n 0, 1) := by decide +kernel
theorem dX2_rename_69 : decode cX2_rename 69 = .ok (.getfield 25, 3) := by decide +kernel
theorem dX2_rename_72 : decode cX2_rename 72 = .ok (.iload_n 3, 1) := by decide +kernel
theorem dX2_rename_73 : decode cX2_rename 73 = .ok (.iload 4, 2) := by decide +kernel
theorem dX2_rename_75 : decode cX2_rename 75 = .ok (.invokevirtual 59, 3) := by decide +kernel
theorem dX2_rename_78 : decode cX2_rename 78 = .ok (.ifCond .eq 6, 3) := by decide +kernel
theorem dX2_rename_81 : decode cX2_rename 81 = .ok (.bipush (-3), 2) := by decide +kernel
theorem dX2_rename_83 : decode cX2_rename 83 = .ok (.ireturn, 1) := by decide +kernel
theorem dX2_rename_84 : decode cX2_rename 84 = .ok (.aload_n 0, 1) := by decide +kernel
theorem dX2_rename_85 : decode cX2_rename 85 = .ok (.getfield 25, 3) := by decide +kernel
theorem dX2_rename_88 : decode cX2_rename 88 = .ok (.iload_n 3, 1) := by decide +kernel
theorem dX2_rename_89 : decode cX2_rename 89 = .ok (.aload_n 0, 1) := by decide +kernel
theorem dX2_rename_90 : decode cX2_rename 90 = .ok (.getfield 25, 3) := by decide +kernel
theorem dX2_rename_93 : decode cX2_rename 93 = .ok (.iload_n 1, 1) := by decide +kernel
theorem dX2_rename_94 : decode cX2_rename 94 = .ok (.iload_n 2, 1) := by decide +kernel
theorem dX2_rename_95 : decode cX2_rename 95 = .ok (.invokevirtual 59, 3) := by decide +kernel
theorem dX2_rename_98 : decode cX2_rename 98 = .ok (.invokevirtual 89, 3) := by decide +kernel
theorem dX2_rename_101 : decode cX2_rename 101 = .ok (.ifCond .eq 5, 3) := by decide +kernel
theorem dX2_rename_104 : decode cX2_rename 104 = .ok (.iconst (-1), 1) := by decide +kernel
theorem dX2_rename_105 : decode cX2_rename 105 = .ok (.ireturn, 1) := by decide +kernel
theorem dX2_rename_106 : decode cX2_rename 106 = .ok (.iload_n 3, 1) := by decide +kernel
theorem dX2_rename_107 : decode cX2_rename 107 = .ok (.iload_n 1, 1) := by decide +kernel
theorem dX2_rename_108 : decode cX2_rename 108 = .ok (.if_icmp .eq 19, 3) := by decide +kernel
theorem dX2_rename_111 : decode cX2_rename 111 = .ok (.aload_n 0, 1) := by decide +kernel
theorem dX2_rename_112 : decode cX2_rename 112 = .ok (.getfield 25, 3) := by decide +kernel
theorem dX2_rename_115 : decode cX2_rename 115 = .ok (.iload_n 3, 1) := by decide +kernel
theorem dX2_rename_116 : decode cX2_rename 116 = .ok (.invokevirtual 65, 3) := by decide +kernel
theorem dX2_rename_119 : decode cX2_rename 119 = .ok (.bipush 8, 2) := by decide +kernel
theorem dX2_rename_121 : decode cX2_rename 121 = .ok (.if_icmp .lt 6, 3) := by decide +kernel
theorem dX2_rename_124 : decode cX2_rename 124 = .ok (.bipush (-5), 2) := by decide +kernel
theorem dX2_rename_126 : decode cX2_rename 126 = .ok (.ireturn, 1) := by decide +kernel
theorem dX2_rename_127 : decode cX2_rename 127 = .ok (.iload_n 3, 1) := by decide +kernel
theorem dX2_rename_128 : decode cX2_rename 128 = .ok (.iload_n 1, 1) := by decide +kernel
theorem dX2_rename_129 : decode cX2_rename 129 = .ok (.if_icmp .ne 7, 3) := by decide +kernel
theorem dX2_rename_132 : decode cX2_rename 132 = .ok (.iconst 1, 1) := by decide +kernel
theorem dX2_rename_133 : decode cX2_rename 133 = .ok (.goto 4, 3) := by decide +kernel
theorem dX2_rename_136 : decode cX2_rename 136 = .ok (.iconst 2, 1) := by decide +kernel
theorem dX2_rename_137 : decode cX2_rename 137 = .ok (.iconst 0, 1) := by decide +kernel
theorem dX2_rename_138 : decode cX2_rename 138 = .ok (.invokestatic 69, 3) := by decide +kernel
theorem dX2_rename_141 : decode cX2_rename 141 = .ok (.istore 5, 2) := by decide +kernel
theorem dX2_rename_143 : decode cX2_rename 143 = .ok (.aload_n 0, 1) := by decide +kernel
theorem dX2_rename_144 : decode cX2_rename 144 = .ok (.iload 5, 2) := by decide +kernel
theorem dX2_rename_146 : decode cX2_rename 146 = .ok (.iconst 0, 1) := by decide +kernel
theorem dX2_rename_147 : decode cX2_rename 147 = .ok (.invokevirtual 72, 3) := by decide +kernel
theorem dX2_rename_150 : decode cX2_rename 150 = .ok (.ifCond .ne 6, 3) := by decide +kernel
theorem dX2_rename_153 : decode cX2_rename 153 = .ok (.bipush (-6), 2) := by decide +kernel
theorem dX2_rename_155 : decode cX2_rename 155 = .ok (.ireturn, 1) := by decide +kernel
theorem dX2_rename_156 : decode cX2_rename 156 = .ok (.aload_n 0, 1) := by decide +kernel
theorem dX2_rename_157 : decode cX2_rename 157 = .ok (.iload 5, 2) := by decide +kernel
theorem dX2_rename_159 : decode cX2_rename 159 = .ok (.iconst 3, 1) := by decide +kernel
theorem dX2_rename_160 : decode cX2_rename 160 = .ok (.iload_n 1, 1) := by decide +kernel
theorem dX2_rename_161 : decode cX2_rename 161 = .ok (.iload_n 2, 1) := by decide +kernel
theorem dX2_rename_162 : decode cX2_rename 162 = .ok (.iload_n 3, 1) := by decide +kernel
theorem dX2_rename_163 : decode cX2_rename 163 = .ok (.iload 4, 2) := by decide +kernel
theorem dX2_rename_165 : decode cX2_rename 165 = .ok (.invokevirtual 76, 3) := by decide +kernel
theorem dX2_rename_168 : decode cX2_rename 168 = .ok (.iconst 0, 1) := by decide +kernel
theorem dX2_rename_169 : decode cX2_rename 169 = .ok (.ireturn, 1) := by decide +kernel
theorem dX2_write_0 : decode cX2_write 0 = .ok (.iload_n 1, 1) := by decide +kernel
theorem dX2_write_1 : decode cX2_write 1 = .ok (.invokestatic 49, 3) := by decide +kernel
theorem dX2_write_4 : decode cX2_write 4 = .ok (.ifCond .eq 13, 3) := by decide +kernel
theorem dX2_write_7 : decode cX2_write 7 = .ok (.iload_n 2, 1) := by decide +kernel
theorem dX2_write_8 : decode cX2_write 8 = .ok (.ifCond .lt 9, 3) := by decide +kernel
theorem dX2_write_11 : decode cX2_write 11 = .ok (.iload_n 2, 1) := by decide +kernel
theorem dX2_write_12 : decode cX2_write 12 = .ok (.bipush 8, 2) := by decide +kernel
theorem dX2_write_14 : decode cX2_write 14 = .ok (.if_icmp .lt 5, 3) := by decide +kernel
theorem dX2_write_17 : decode cX2_write 17 = .ok (.iconst (-1), 1) := by decide +kernel
theorem dX2_write_18 : decode cX2_write 18 = .ok (.ireturn, 1) := by decide +kernel
theorem dX2_write_19 : decode cX2_write 19 = .ok (.aload_n 0, 1) := by decide +kernel
theorem dX2_write_20 : decode cX2_write 20 = .ok (.getfield 25, 3) := by decide +kernel
theorem dX2_write_23 : decode cX2_write 23 = .ok (.iload_n 1, 1) := by decide +kernel
theorem dX2_write_24 : decode cX2_write 24 = .ok (.invokevirtual 80, 3) := by decide +kernel
theorem dX2_write_27 : decode cX2_write 27 = .ok (.ifCond .ne 6, 3) := by decide +kernel
theorem dX2_write_30 : decode cX2_write 30 = .ok (.bipush (-2), 2) := by decide +kernel
theorem dX2_write_32 : decode cX2_write 32 = .ok (.ireturn, 1) := by decide +kernel
theorem dX2_write_33 : decode cX2_write 33 = .ok (.iload_n 2, 1) := by decide +kernel
theorem dX2_write_34 : decode cX2_write 34 = .ok (.aload_n 0, 1) := by decide +kernel
theorem dX2_write_35 : decode cX2_write 35 = .ok (.getfield 25, 3) := by decide +kernel
theorem dX2_write_38 : decode cX2_write 38 = .ok (.iload_n 1, 1) := by decide +kernel
theorem dX2_write_39 : decode cX2_write 39 = .ok (.invokevirtual 65, 3) := by decide +kernel
theorem dX2_write_42 : decode cX2_write 42 = .ok (.if_icmp .le 5, 3) := by decide +kernel
theorem dX2_write_45 : decode cX2_write 45 = .ok (.iconst (-1), 1) := by decide +kernel
theorem dX2_write_46 : decode cX2_write 46 = .ok (.ireturn, 1) := by decide +kernel
theorem dX2_write_47 : decode cX2_write 47 = .ok (.iconst 1, 1) := by decide +kernel
theorem dX2_write_48 : decode cX2_write 48 = .ok (.iconst 1, 1) := by decide +kernel
theorem dX2_write_49 : decode cX2_write 49 = .ok (.invokestatic 69, 3) := by decide +kernel
theorem dX2_write_52 : decode cX2_write 52 = .ok (.istore 4, 2) := by decide +kernel
theorem dX2_write_54 : decode cX2_write 54 = .ok (.aload_n 0, 1) := by decide +kernel
theorem dX2_write_55 : decode cX2_write 55 = .ok (.iload 4, 2) := by decide +kernel
theorem dX2_write_57 : decode cX2_write 57 = .ok (.iload_n 2, 1) := by decide +kernel
theorem dX2_write_58 : decode cX2_write 58 = .ok (.aload_n 0, 1) := by decide +kernel
theorem dX2_write_59 : decode cX2_write 59 = .ok (.getfield 25, 3) := by decide +kernel
theorem dX2_write_62 : decode cX2_write 62 = .ok (.iload_n 1, 1) := by decide +kernel
theorem dX2_write_63 : decode cX2_write 63 = .ok (.invokevirtual 65, 3) := by decide +kernel
theorem dX2_write_66 : decode cX2_write 66 = .ok (.if_icmp .ne 7, 3) := by decide +kernel
theorem dX2_write_69 : decode cX2_write 69 = .ok (.iconst 1, 1) := by decide +kernel
theorem dX2_write_70 : decode cX2_write 70 = .ok (.goto 4, 3) := by decide +kernel
theorem dX2_write_73 : decode cX2_write 73 = .ok (.iconst 0, 1) := by decide +kernel
theorem dX2_write_74 : decode cX2_write 74 = .ok (.invokevirtual 72, 3) := by decide +kernel
theorem dX2_write_77 : decode cX2_write 77 = .ok (.ifCond .ne 6, 3) := by decide +kernel
theorem dX2_write_80 : decode cX2_write 80 = .ok (.bipush (-6), 2) := by decide +kernel
theorem dX2_write_82 : decode cX2_write 82 = .ok (.ireturn, 1) := by decide +kernel
theorem dX2_write_83 : decode cX2_write 83 = .ok (.aload_n 0, 1) := by decide +kernel
theorem dX2_write_84 : decode cX2_write 84 = .ok (.iload 4, 2) := by decide +kernel
theorem dX2_write_86 : decode cX2_write 86 = .ok (.iconst 4, 1) := by decide +kernel
theorem dX2_write_87 : decode cX2_write 87 = .ok (.iload_n 1, 1) := by decide +kernel
theorem dX2_write_88 : decode cX2_write 88 = .ok (.iload_n 2, 1) := by decide +kernel
theorem dX2_write_89 : decode cX2_write 89 = .ok (.iload_n 3, 1) := by decide +kernel
theorem dX2_write_90 : decode cX2_write 90 = .ok (.iconst 0, 1) := by decide +kernel
theorem dX2_write_91 : decode cX2_write 91 = .ok (.invokevirtual 76, 3) := by decide +kernel
theorem dX2_write_94 : decode cX2_write 94 = .ok (.iconst 0, 1) := by decide +kernel
theorem dX2_write_95 : decode cX2_write 95 = .ok (.ireturn, 1) := by decide +kernel
theorem dX2_cut_0 : decode cX2_cut 0 = .ok (.iload_n 1, 1) := by decide +kernel
theorem dX2_cut_1 : decode cX2_cut 1 = .ok (.invokestatic 49, 3) := by decide +kernel
theorem dX2_cut_4 : decode cX2_cut 4 = .ok (.ifCond .eq 13, 3) := by decide +kernel
theorem dX2_cut_7 : decode cX2_cut 7 = .ok (.iload_n 2, 1) := by decide +kernel
theorem dX2_cut_8 : decode cX2_cut 8 = .ok (.ifCond .lt 9, 3) := by decide +kernel
theorem dX2_cut_11 : decode cX2_cut 11 = .ok (.iload_n 2, 1) := by decide +kernel
theorem dX2_cut_12 : decode cX2_cut 12 = .ok (.bipush 8, 2) := by decide +kernel
theorem dX2_cut_14 : decode cX2_cut 14 = .ok (.if_icmp .le 5, 3) := by decide +kernel
theorem dX2_cut_17 : decode cX2_cut 17 = .ok (.iconst (-1), 1) := by decide +kernel
theorem dX2_cut_18 : decode cX2_cut 18 = .ok (.ireturn, 1) := by decide +kernel
theorem dX2_cut_19 : decode cX2_cut 19 = .ok (.aload_n 0, 1) := by decide +kernel
theorem dX2_cut_20 : decode cX2_cut 20 = .ok (.getfield 25, 3) := by decide +kernel
theorem dX2_cut_23 : decode cX2_cut 23 = .ok (.iload_n 1, 1) := by decide +kernel
theorem dX2_cut_24 : decode cX2_cut 24 = .ok (.invokevirtual 80, 3) := by decide +kernel
theorem dX2_cut_27 : decode cX2_cut 27 = .ok (.ifCond .ne 6, 3) := by decide +kernel
theorem dX2_cut_30 : decode cX2_cut 30 = .ok (.bipush (-2), 2) := by decide +kernel
theorem dX2_cut_32 : decode cX2_cut 32 = .ok (.ireturn, 1) := by decide +kernel
theorem dX2_cut_33 : decode cX2_cut 33 = .ok (.iload_n 2, 1) := by decide +kernel
theorem dX2_cut_34 : decode cX2_cut 34 = .ok (.aload_n 0, 1) := by decide +kernel
theorem dX2_cut_35 : decode cX2_cut 35 = .ok (.getfield 25, 3) := by decide +kernel
theorem dX2_cut_38 : decode cX2_cut 38 = .ok (.iload_n 1, 1) := by decide +kernel
theorem dX2_cut_39 : decode cX2_cut 39 = .ok (.invokevirtual 65, 3) := by decide +kernel
theorem dX2_cut_42 : decode cX2_cut 42 = .ok (.if_icmp .le 5, 3) := by decide +kernel
theorem dX2_cut_45 : decode cX2_cut 45 = .ok (.iconst (-1), 1) := by decide +kernel
theorem dX2_cut_46 : decode cX2_cut 46 = .ok (.ireturn, 1) := by decide +kernel
theorem dX2_cut_47 : decode cX2_cut 47 = .ok (.iconst 1, 1) := by decide +kernel
theorem dX2_cut_48 : decode cX2_cut 48 = .ok (.iconst 0, 1) := by decide +kernel
theorem dX2_cut_49 : decode cX2_cut 49 = .ok (.invokestatic 69, 3) := by decide +kernel
theorem dX2_cut_52 : decode cX2_cut 52 = .ok (.istore_n 3, 1) := by decide +kernel
theorem dX2_cut_53 : decode cX2_cut 53 = .ok (.aload_n 0, 1) := by decide +kernel
theorem dX2_cut_54 : decode cX2_cut 54 = .ok (.iload_n 3, 1) := by decide +kernel
theorem dX2_cut_55 : decode cX2_cut 55 = .ok (.iload_n 2, 1) := by decide +kernel
theorem dX2_cut_56 : decode cX2_cut 56 = .ok (.aload_n 0, 1) := by decide +kernel
theorem dX2_cut_57 : decode cX2_cut 57 = .ok (.getfield 25, 3) := by decide +kernel
theorem dX2_cut_60 : decode cX2_cut 60 = .ok (.iload_n 1, 1) := by decide +kernel
theorem dX2_cut_61 : decode cX2_cut 61 = .ok (.invokevirtual 65, 3) := by decide +kernel
theorem dX2_cut_64 : decode cX2_cut 64 = .ok (.isub, 1) := by decide +kernel
theorem dX2_cut_65 : decode cX2_cut 65 = .ok (.invokevirtual 72, 3) := by decide +kernel
theorem dX2_cut_68 : decode cX2_cut 68 = .ok (.ifCond .ne 6, 3) := by decide +kernel
theorem dX2_cut_71 : decode cX2_cut 71 = .ok (.bipush (-6), 2) := by decide +kernel
theorem dX2_cut_73 : decode cX2_cut 73 = .ok (.ireturn, 1) := by decide +kernel
theorem dX2_cut_74 : decode cX2_cut 74 = .ok (.aload_n 0, 1) := by decide +kernel
theorem dX2_cut_75 : decode cX2_cut 75 = .ok (.iload_n 3, 1) := by decide +kernel
theorem dX2_cut_76 : decode cX2_cut 76 = .ok (.iconst 5, 1) := by decide +kernel
theorem dX2_cut_77 : decode cX2_cut 77 = .ok (.iload_n 1, 1) := by decide +kernel
theorem dX2_cut_78 : decode cX2_cut 78 = .ok (.iload_n 2, 1) := by decide +kernel
theorem dX2_cut_79 : decode cX2_cut 79 = .ok (.iconst 0, 1) := by decide +kernel
theorem dX2_cut_80 : decode cX2_cut 80 = .ok (.iconst 0, 1) := by decide +kernel
theorem dX2_cut_81 : decode cX2_cut 81 = .ok (.invokevirtual 76, 3) := by decide +kernel
theorem dX2_cut_84 : decode cX2_cut 84 = .ok (.iconst 0, 1) := by decide +kernel
theorem dX2_cut_85 : decode cX2_cut 85 = .ok (.ireturn, 1) := by decide +kernel
theorem dX2_sync_0 : decode cX2_sync 0 = .ok (.aload_n 0, 1) := by decide +kernel
theorem dX2_sync_1 : decode cX2_sync 1 = .ok (.invokevirtual 92, 3) := by decide +kernel
theorem dX2_sync_4 : decode cX2_sync 4 = .ok (.aload_n 0, 1) := by decide +kernel
theorem dX2_sync_5 : decode cX2_sync 5 = .ok (.getfield 43, 3) := by decide +kernel
theorem dX2_sync_8 : decode cX2_sync 8 = .ok (.ireturn, 1) := by decide +kernel
theorem dX2_crash_0 : decode cX2_crash 0 = .ok (.iconst 0, 1) := by decide +kernel
theorem dX2_crash_1 : decode cX2_crash 1 = .ok (.iload_n 1, 1) := by decide +kernel
theorem dX2_crash_2 : decode cX2_crash 2 = .ok (.aload_n 0, 1) := by decide +kernel
theorem dX2_crash_3 : decode cX2_crash 3 = .ok (.getfield 35, 3) := by decide +kernel
theorem dX2_crash_6 : decode cX2_crash 6 = .ok (.invokevirtual 95, 3) := by decide +kernel
theorem dX2_crash_9 : decode cX2_crash 9 = .ok (.invokestatic 9, 3) := by decide +kernel
theorem dX2_crash_12 : decode cX2_crash 12 = .ok (.invokestatic 15, 3) := by decide +kernel
theorem dX2_crash_15 : decode cX2_crash 15 = .ok (.istore_n 2, 1) := by decide +kernel
theorem dX2_crash_16 : decode cX2_crash 16 = .ok (.iconst 0, 1) := by decide +kernel
theorem dX2_crash_17 : decode cX2_crash 17 = .ok (.istore_n 3, 1) := by decide +kernel
theorem dX2_crash_18 : decode cX2_crash 18 = .ok (.iload_n 3, 1) := by decide +kernel
theorem dX2_crash_19 : decode cX2_crash 19 = .ok (.iload_n 2, 1) := by decide +kernel
theorem dX2_crash_20 : decode cX2_crash 20 = .ok (.if_icmp .ge 21, 3) := by decide +kernel
theorem dX2_crash_23 : decode cX2_crash 23 = .ok (.aload_n 0, 1) := by decide +kernel
theorem dX2_crash_24 : decode cX2_crash 24 = .ok (.getfield 35, 3) := by decide +kernel
theorem dX2_crash_27 : decode cX2_crash 27 = .ok (.iload_n 3, 1) := by decide +kernel
theorem dX2_crash_28 : decode cX2_crash 28 = .ok (.aload_n 0, 1) := by decide +kernel
theorem dX2_crash_29 : decode cX2_crash 29 = .ok (.getfield 29, 3) := by decide +kernel
theorem dX2_crash_32 : decode cX2_crash 32 = .ok (.invokevirtual 98, 3) := by decide +kernel
theorem dX2_crash_35 : decode cX2_crash 35 = .ok (.iinc 3 1, 3) := by decide +kernel
theorem dX2_crash_38 : decode cX2_crash 38 = .ok (.goto (-20), 3) := by decide +kernel
theorem dX2_crash_41 : decode cX2_crash 41 = .ok (.aload_n 0, 1) := by decide +kernel
theorem dX2_crash_42 : decode cX2_crash 42 = .ok (.getfield 25, 3) := by decide +kernel
theorem dX2_crash_45 : decode cX2_crash 45 = .ok (.aload_n 0, 1) := by decide +kernel
theorem dX2_crash_46 : decode cX2_crash 46 = .ok (.getfield 29, 3) := by decide +kernel
theorem dX2_crash_49 : decode cX2_crash 49 = .ok (.invokevirtual 102, 3) := by decide +kernel
theorem dX2_crash_52 : decode cX2_crash 52 = .ok (.aload_n 0, 1) := by decide +kernel
theorem dX2_crash_53 : decode cX2_crash 53 = .ok (.invokevirtual 106, 3) := by decide +kernel
theorem dX2_crash_56 : decode cX2_crash 56 = .ok (.iload_n 2, 1) := by decide +kernel
theorem dX2_crash_57 : decode cX2_crash 57 = .ok (.ireturn, 1) := by decide +kernel
theorem dX2_find_0 : decode cX2_find 0 = .ok (.iload_n 1, 1) := by decide +kernel
theorem dX2_find_1 : decode cX2_find 1 = .ok (.invokestatic 49, 3) := by decide +kernel
theorem dX2_find_4 : decode cX2_find 4 = .ok (.ifCond .eq 10, 3) := by decide +kernel
theorem dX2_find_7 : decode cX2_find 7 = .ok (.iload_n 2, 1) := by decide +kernel
theorem dX2_find_8 : decode cX2_find 8 = .ok (.invokestatic 53, 3) := by decide +kernel
theorem dX2_find_11 : decode cX2_find 11 = .ok (.ifCond .ne 5, 3) := by decide +kernel
theorem dX2_find_14 : decode cX2_find 14 = .ok (.iconst (-1), 1) := by decide +kernel
theorem dX2_find_15 : decode cX2_find 15 = .ok (.ireturn, 1) := by decide +kernel
theorem dX2_find_16 : decode cX2_find 16 = .ok (.aload_n 0, 1) := by decide +kernel
theorem dX2_find_17 : decode cX2_find 17 = .ok (.getfield 25, 3) := by decide +kernel
theorem dX2_find_20 : decode cX2_find 20 = .ok (.iload_n 1, 1) := by decide +kernel
theorem dX2_find_21 : decode cX2_find 21 = .ok (.invokevirtual 56, 3) := by decide +kernel
theorem dX2_find_24 : decode cX2_find 24 = .ok (.ifCond .eq 15, 3) := by decide +kernel
theorem dX2_find_27 : decode cX2_find 27 = .ok (.aload_n 0, 1) := by decide +kernel
theorem dX2_find_28 : decode cX2_find 28 = .ok (.getfield 25, 3) := by decide +kernel
theorem dX2_find_31 : decode cX2_find 31 = .ok (.iload_n 1, 1) := by decide +kernel
theorem dX2_find_32 : decode cX2_find 32 = .ok (.iload_n 2, 1) := by decide +kernel
theorem dX2_find_33 : decode cX2_find 33 = .ok (.invokevirtual 59, 3) := by decide +kernel
theorem dX2_find_36 : decode cX2_find 36 = .ok (.ifCond .ne 6, 3) := by decide +kernel
theorem dX2_find_39 : decode cX2_find 39 = .ok (.bipush (-2), 2) := by decide +kernel
theorem dX2_find_41 : decode cX2_find 41 = .ok (.ireturn, 1) := by decide +kernel
theorem dX2_find_42 : decode cX2_find 42 = .ok (.aload_n 0, 1) := by decide +kernel
theorem dX2_find_43 : decode cX2_find 43 = .ok (.getfield 25, 3) := by decide +kernel
theorem dX2_find_46 : decode cX2_find 46 = .ok (.iload_n 1, 1) := by decide +kernel
theorem dX2_find_47 : decode cX2_find 47 = .ok (.iload_n 2, 1) := by decide +kernel
theorem dX2_find_48 : decode cX2_find 48 = .ok (.invokevirtual 59, 3) := by decide +kernel
theorem dX2_find_51 : decode cX2_find 51 = .ok (.ireturn, 1) := by decide +kernel
theorem dX2_entry_0 : decode cX2_entry 0 = .ok (.iload_n 1, 1) := by decide +kernel
theorem dX2_entry_1 : decode cX2_entry 1 = .ok (.invokestatic 49, 3) := by decide +kernel
theorem dX2_entry_4 : decode cX2_entry 4 = .ok (.ifCond .ne 5, 3) := by decide +kernel
theorem dX2_entry_7 : decode cX2_entry 7 = .ok (.iconst (-1), 1) := by decide +kernel
theorem dX2_entry_8 : decode cX2_entry 8 = .ok (.ireturn, 1) := by decide +kernel
theorem dX2_entry_9 : decode cX2_entry 9 = .ok (.aload_n 0, 1) := by decide +kernel
theorem dX2_entry_10 : decode cX2_entry 10 = .ok (.getfield 25, 3) := by decide +kernel
theorem dX2_entry_13 : decode cX2_entry 13 = .ok (.iload_n 1, 1) := by decide +kernel
theorem dX2_entry_14 : decode cX2_entry 14 = .ok (.invokevirtual 56, 3) := by decide +kernel
theorem dX2_entry_17 : decode cX2_entry 17 = .ok (.ifCond .ne 6, 3) := by decide +kernel
theorem dX2_entry_20 : decode cX2_entry 20 = .ok (.bipush (-2), 2) := by decide +kernel
theorem dX2_entry_22 : decode cX2_entry 22 = .ok (.ireturn, 1) := by decide +kernel
theorem dX2_entry_23 : decode cX2_entry 23 = .ok (.aload_n 0, 1) := by decide +kernel
theorem dX2_entry_24 : decode cX2_entry 24 = .ok (.getfield 25, 3) := by decide +kernel
theorem dX2_entry_27 : decode cX2_entry 27 = .ok (.iload_n 1, 1) := by decide +kernel
theorem dX2_entry_28 : decode cX2_entry 28 = .ok (.iload_n 2, 1) := by decide +kernel
theorem dX2_entry_29 : decode cX2_entry 29 = .ok (.invokevirtual 109, 3) := by decide +kernel
theorem dX2_entry_32 : decode cX2_entry 32 = .ok (.ireturn, 1) := by decide +kernel
theorem dX2_read_0 : decode cX2_read 0 = .ok (.iload_n 1, 1) := by decide +kernel
theorem dX2_read_1 : decode cX2_read 1 = .ok (.invokestatic 49, 3) := by decide +kernel
theorem dX2_read_4 : decode cX2_read 4 = .ok (.ifCond .eq 14, 3) := by decide +kernel
theorem dX2_read_7 : decode cX2_read 7 = .ok (.aload_n 0, 1) := by decide +kernel
theorem dX2_read_8 : decode cX2_read 8 = .ok (.getfield 25, 3) := by decide +kernel
theorem dX2_read_11 : decode cX2_read 11 = .ok (.iload_n 1, 1) := by decide +kernel
theorem dX2_read_12 : decode cX2_read 12 = .ok (.invokevirtual 80, 3) := by decide +kernel
theorem dX2_read_15 : decode cX2_read 15 = .ok (.ifCond .ne 7, 3) := by decide +kernel
theorem dX2_read_18 : decode cX2_read 18 = .ok (.ldc2_w 112, 3) := by decide +kernel
theorem dX2_read_21 : decode cX2_read 21 = .ok (.lreturn, 1) := by decide +kernel
theorem dX2_read_22 : decode cX2_read 22 = .ok (.iload_n 2, 1) := by decide +kernel
theorem dX2_read_23 : decode cX2_read 23 = .ok (.ifCond .lt 15, 3) := by decide +kernel
theorem dX2_read_26 : decode cX2_read 26 = .ok (.iload_n 2, 1) := by decide +kernel
theorem dX2_read_27 : decode cX2_read 27 = .ok (.aload_n 0, 1) := by decide +kernel
theorem dX2_read_28 : decode cX2_read 28 = .ok (.getfield 25, 3) := by decide +kernel
theorem dX2_read_31 : decode cX2_read 31 = .ok (.iload_n 1, 1) := by decide +kernel
theorem dX2_read_32 : decode cX2_read 32 = .ok (.invokevirtual 65, 3) := by decide +kernel
theorem dX2_read_35 : decode cX2_read 35 = .ok (.if_icmp .lt 7, 3) := by decide +kernel
theorem dX2_read_38 : decode cX2_read 38 = .ok (.ldc2_w 112, 3) := by decide +kernel
theorem dX2_read_41 : decode cX2_read 41 = .ok (.lreturn, 1) := by decide +kernel
theorem dX2_read_42 : decode cX2_read 42 = .ok (.aload_n 0, 1) := by decide +kernel
theorem dX2_read_43 : decode cX2_read 43 = .ok (.getfield 25, 3) := by decide +kernel
theorem dX2_read_46 : decode cX2_read 46 = .ok (.iload_n 1, 1) := by decide +kernel
theorem dX2_read_47 : decode cX2_read 47 = .ok (.iload_n 2, 1) := by decide +kernel
theorem dX2_read_48 : decode cX2_read 48 = .ok (.invokevirtual 114, 3) := by decide +kernel
theorem dX2_read_51 : decode cX2_read 51 = .ok (.i2l, 1) := by decide +kernel
theorem dX2_read_52 : decode cX2_read 52 = .ok (.lreturn, 1) := by decide +kernel
theorem dX2_tell_0 : decode cX2_tell 0 = .ok (.iload_n 1, 1) := by decide +kernel
theorem dX2_tell_1 : decode cX2_tell 1 = .ok (.invokestatic 49, 3) := by decide +kernel
theorem dX2_tell_4 : decode cX2_tell 4 = .ok (.ifCond .eq 12, 3) := by decide +kernel
theorem dX2_tell_7 : decode cX2_tell 7 = .ok (.iload_n 2, 1) := by decide +kernel
theorem dX2_tell_8 : decode cX2_tell 8 = .ok (.ifCond .lt 8, 3) := by decide +kernel
theorem dX2_tell_11 : decode cX2_tell 11 = .ok (.iload_n 2, 1) := by decide +kernel
theorem dX2_tell_12 : decode cX2_tell 12 = .ok (.iconst 2, 1) := by decide +kernel
theorem dX2_tell_13 : decode cX2_tell 13 = .ok (.if_icmp .le 5, 3) := by decide +kernel
theorem dX2_tell_16 : decode cX2_tell 16 = .ok (.iconst (-1), 1) := by decide +kernel
theorem dX2_tell_17 : decode cX2_tell 17 = .ok (.ireturn, 1) := by decide +kernel
theorem dX2_tell_18 : decode cX2_tell 18 = .ok (.iload_n 2, 1) := by decide +kernel
theorem dX2_tell_19 : decode cX2_tell 19 = .ok (.ifCond .ne 12, 3) := by decide +kernel
theorem dX2_tell_22 : decode cX2_tell 22 = .ok (.aload_n 0, 1) := by decide +kernel
theorem dX2_tell_23 : decode cX2_tell 23 = .ok (.getfield 25, 3) := by decide +kernel
theorem dX2_tell_26 : decode cX2_tell 26 = .ok (.iload_n 1, 1) := by decide +kernel
theorem dX2_tell_27 : decode cX2_tell 27 = .ok (.invokevirtual 117, 3) := by decide +kernel
theorem dX2_tell_30 : decode cX2_tell 30 = .ok (.ireturn, 1) := by decide +kernel
theorem dX2_tell_31 : decode cX2_tell 31 = .ok (.aload_n 0, 1) := by decide +kernel
theorem dX2_tell_32 : decode cX2_tell 32 = .ok (.getfield 25, 3) := by decide +kernel
theorem dX2_tell_35 : decode cX2_tell 35 = .ok (.iload_n 1, 1) := by decide +kernel
theorem dX2_tell_36 : decode cX2_tell 36 = .ok (.invokevirtual 117, 3) := by decide +kernel
theorem dX2_tell_39 : decode cX2_tell 39 = .ok (.ifCond .ne 6, 3) := by decide +kernel
theorem dX2_tell_42 : decode cX2_tell 42 = .ok (.bipush (-2), 2) := by decide +kernel
theorem dX2_tell_44 : decode cX2_tell 44 = .ok (.ireturn, 1) := by decide +kernel
theorem dX2_tell_45 : decode cX2_tell 45 = .ok (.iload_n 2, 1) := by decide +kernel
theorem dX2_tell_46 : decode cX2_tell 46 = .ok (.iconst 1, 1) := by decide +kernel
theorem dX2_tell_47 : decode cX2_tell 47 = .ok (.if_icmp .ne 14, 3) := by decide +kernel
theorem dX2_tell_50 : decode cX2_tell 50 = .ok (.aload_n 0, 1) := by decide +kernel
theorem dX2_tell_51 : decode cX2_tell 51 = .ok (.getfield 25, 3) := by decide +kernel
theorem dX2_tell_54 : decode cX2_tell 54 = .ok (.iload_n 1, 1) := by decide +kernel
theorem dX2_tell_55 : decode cX2_tell 55 = .ok (.invokevirtual 65, 3) := by decide +kernel
theorem dX2_tell_58 : decode cX2_tell 58 = .ok (.goto 11, 3) := by decide +kernel
theorem dX2_tell_61 : decode cX2_tell 61 = .ok (.aload_n 0, 1) := by decide +kernel
theorem dX2_tell_62 : decode cX2_tell 62 = .ok (.getfield 25, 3) := by decide +kernel
theorem dX2_tell_65 : decode cX2_tell 65 = .ok (.iload_n 1, 1) := by decide +kernel
theorem dX2_tell_66 : decode cX2_tell 66 = .ok (.invokevirtual 83, 3) := by decide +kernel
theorem dX2_tell_69 : decode cX2_tell 69 = .ok (.ireturn, 1) := by decide +kernel
theorem dX2_count_0 : decode cX2_count 0 = .ok (.iload_n 1, 1) := by decide +kernel
theorem dX2_count_1 : decode cX2_count 1 = .ok (.tableswitch 78 0 5 #[39, 47, 52, 60, 65, 73], 39) := by decide +kernel
theorem dX2_count_40 : decode cX2_count 40 = .ok (.aload_n 0, 1) := by decide +kernel
theorem dX2_count_41 : decode cX2_count 41 = .ok (.getfield 25, 3) := by decide +kernel
theorem dX2_count_44 : decode cX2_count 44 = .ok (.invokevirtual 39, 3) := by decide +kernel
theorem dX2_count_47 : decode cX2_count 47 = .ok (.ireturn, 1) := by decide +kernel
theorem dX2_count_48 : decode cX2_count 48 = .ok (.aload_n 0, 1) := by decide +kernel
theorem dX2_count_49 : decode cX2_count 49 = .ok (.getfield 43, 3) := by decide +kernel
theorem dX2_count_52 : decode cX2_count 52 = .ok (.ireturn, 1) := by decide +kernel
theorem dX2_count_53 : decode cX2_count 53 = .ok (.aload_n 0, 1) := by decide +kernel
theorem dX2_count_54 : decode cX2_count 54 = .ok (.getfield 35, 3) := by decide +kernel
theorem dX2_count_57 : decode cX2_count 57 = .ok (.invokevirtual 95, 3) := by decide +kernel
theorem dX2_count_60 : decode cX2_count 60 = .ok (.ireturn, 1) := by decide +kernel
theorem dX2_count_61 : decode cX2_count 61 = .ok (.aload_n 0, 1) := by decide +kernel
theorem dX2_count_62 : decode cX2_count 62 = .ok (.getfield 46, 3) := by decide +kernel
theorem dX2_count_65 : decode cX2_count 65 = .ok (.ireturn, 1) := by decide +kernel
theorem dX2_count_66 : decode cX2_count 66 = .ok (.aload_n 0, 1) := by decide +kernel
theorem dX2_count_67 : decode cX2_count 67 = .ok (.getfield 25, 3) := by decide +kernel
theorem dX2_count_70 : decode cX2_count 70 = .ok (.invokevirtual 120, 3) := by decide +kernel
theorem dX2_count_73 : decode cX2_count 73 = .ok (.ireturn, 1) := by decide +kernel
theorem dX2_count_74 : decode cX2_count 74 = .ok (.aload_n 0, 1) := by decide +kernel
theorem dX2_count_75 : decode cX2_count 75 = .ok (.getfield 18, 3) := by decide +kernel
theorem dX2_count_78 : decode cX2_count 78 = .ok (.ireturn, 1) := by decide +kernel
theorem dX2_count_79 : decode cX2_count 79 = .ok (.iconst (-1), 1) := by decide +kernel
theorem dX2_count_80 : decode cX2_count 80 = .ok (.ireturn, 1) := by decide +kernel
theorem dX2_isNode_0 : decode cX2_isNode 0 = .ok (.iload_n 0, 1) := by decide +kernel
theorem dX2_isNode_1 : decode cX2_isNode 1 = .ok (.ifCond .lt 13, 3) := by decide +kernel
theorem dX2_isNode_4 : decode cX2_isNode 4 = .ok (.iload_n 0, 1) := by decide +kernel
theorem dX2_isNode_5 : decode cX2_isNode 5 = .ok (.bipush 16, 2) := by decide +kernel
theorem dX2_isNode_7 : decode cX2_isNode 7 = .ok (.if_icmp .ge 7, 3) := by decide +kernel
theorem dX2_isNode_10 : decode cX2_isNode 10 = .ok (.iconst 1, 1) := by decide +kernel
theorem dX2_isNode_11 : decode cX2_isNode 11 = .ok (.goto 4, 3) := by decide +kernel
theorem dX2_isNode_14 : decode cX2_isNode 14 = .ok (.iconst 0, 1) := by decide +kernel
theorem dX2_isNode_15 : decode cX2_isNode 15 = .ok (.ireturn, 1) := by decide +kernel
theorem dX2_isName_0 : decode cX2_isName 0 = .ok (.iload_n 0, 1) := by decide +kernel
theorem dX2_isName_1 : decode cX2_isName 1 = .ok (.ifCond .lt 13, 3) := by decide +kernel
theorem dX2_isName_4 : decode cX2_isName 4 = .ok (.iload_n 0, 1) := by decide +kernel
theorem dX2_isName_5 : decode cX2_isName 5 = .ok (.bipush 32, 2) := by decide +kernel
theorem dX2_isName_7 : decode cX2_isName 7 = .ok (.if_icmp .ge 7, 3) := by decide +kernel
theorem dX2_isName_10 : decode cX2_isName 10 = .ok (.iconst 1, 1) := by decide +kernel
theorem dX2_isName_11 : decode cX2_isName 11 = .ok (.goto 4, 3) := by decide +kernel
theorem dX2_isName_14 : decode cX2_isName 14 = .ok (.iconst 0, 1) := by decide +kernel
theorem dX2_isName_15 : decode cX2_isName 15 = .ok (.ireturn, 1) := by decide +kernel
theorem dX2_costOf_0 : decode cX2_costOf 0 = .ok (.iconst 1, 1) := by decide +kernel
theorem dX2_costOf_1 : decode cX2_costOf 1 = .ok (.iload_n 0, 1) := by decide +kernel
theorem dX2_costOf_2 : decode cX2_costOf 2 = .ok (.iadd, 1) := by decide +kernel
theorem dX2_costOf_3 : decode cX2_costOf 3 = .ok (.iload_n 1, 1) := by decide +kernel
theorem dX2_costOf_4 : decode cX2_costOf 4 = .ok (.iadd, 1) := by decide +kernel
theorem dX2_costOf_5 : decode cX2_costOf 5 = .ok (.ireturn, 1) := by decide +kernel
theorem dX2_makesRoom_0 : decode cX2_makesRoom 0 = .ok (.aload_n 0, 1) := by decide +kernel
theorem dX2_makesRoom_1 : decode cX2_makesRoom 1 = .ok (.getfield 43, 3) := by decide +kernel
theorem dX2_makesRoom_4 : decode cX2_makesRoom 4 = .ok (.iload_n 1, 1) := by decide +kernel
theorem dX2_makesRoom_5 : decode cX2_makesRoom 5 = .ok (.iadd, 1) := by decide +kernel
theorem dX2_makesRoom_6 : decode cX2_makesRoom 6 = .ok (.aload_n 0, 1) := by decide +kernel
theorem dX2_makesRoom_7 : decode cX2_makesRoom 7 = .ok (.getfield 18, 3) := by decide +kernel
theorem dX2_makesRoom_10 : decode cX2_makesRoom 10 = .ok (.if_icmp .le 7, 3) := by decide +kernel
theorem dX2_makesRoom_13 : decode cX2_makesRoom 13 = .ok (.aload_n 0, 1) := by decide +kernel
theorem dX2_makesRoom_14 : decode cX2_makesRoom 14 = .ok (.invokevirtual 92, 3) := by decide +kernel
theorem dX2_makesRoom_17 : decode cX2_makesRoom 17 = .ok (.aload_n 0, 1) := by decide +kernel
theorem dX2_makesRoom_18 : decode cX2_makesRoom 18 = .ok (.getfield 25, 3) := by decide +kernel
theorem dX2_makesRoom_21 : decode cX2_makesRoom 21 = .ok (.invokevirtual 39, 3) := by decide +kernel
theorem dX2_makesRoom_24 : decode cX2_makesRoom 24 = .ok (.iload_n 2, 1) := by decide +kernel
theorem dX2_makesRoom_25 : decode cX2_makesRoom 25 = .ok (.iadd, 1) := by decide +kernel
theorem dX2_makesRoom_26 : decode cX2_makesRoom 26 = .ok (.aload_n 0, 1) := by decide +kernel
theorem dX2_makesRoom_27 : decode cX2_makesRoom 27 = .ok (.getfield 18, 3) := by decide +kernel
theorem dX2_makesRoom_30 : decode cX2_makesRoom 30 = .ok (.bipush 8, 2) := by decide +kernel
theorem dX2_makesRoom_32 : decode cX2_makesRoom 32 = .ok (.isub, 1) := by decide +kernel
theorem dX2_makesRoom_33 : decode cX2_makesRoom 33 = .ok (.if_icmp .gt 7, 3) := by decide +kernel
theorem dX2_makesRoom_36 : decode cX2_makesRoom 36 = .ok (.iconst 1, 1) := by decide +kernel
theorem dX2_makesRoom_37 : decode cX2_makesRoom 37 = .ok (.goto 4, 3) := by decide +kernel
theorem dX2_makesRoom_40 : decode cX2_makesRoom 40 = .ok (.iconst 0, 1) := by decide +kernel
theorem dX2_makesRoom_41 : decode cX2_makesRoom 41 = .ok (.ireturn, 1) := by decide +kernel
theorem dX2_perform_0 : decode cX2_perform 0 = .ok (.aload_n 0, 1) := by decide +kernel
theorem dX2_perform_1 : decode cX2_perform 1 = .ok (.getfield 35, 3) := by decide +kernel
theorem dX2_perform_4 : decode cX2_perform 4 = .ok (.iload_n 2, 1) := by decide +kernel
theorem dX2_perform_5 : decode cX2_perform 5 = .ok (.iload_n 3, 1) := by decide +kernel
theorem dX2_perform_6 : decode cX2_perform 6 = .ok (.iload 4, 2) := by decide +kernel
theorem dX2_perform_8 : decode cX2_perform 8 = .ok (.iload 5, 2) := by decide +kernel
theorem dX2_perform_10 : decode cX2_perform 10 = .ok (.iload 6, 2) := by decide +kernel
theorem dX2_perform_12 : decode cX2_perform 12 = .ok (.invokevirtual 123, 3) := by decide +kernel
theorem dX2_perform_15 : decode cX2_perform 15 = .ok (.aload_n 0, 1) := by decide +kernel
theorem dX2_perform_16 : decode cX2_perform 16 = .ok (.getfield 35, 3) := by decide +kernel
theorem dX2_perform_19 : decode cX2_perform 19 = .ok (.aload_n 0, 1) := by decide +kernel
theorem dX2_perform_20 : decode cX2_perform 20 = .ok (.getfield 35, 3) := by decide +kernel
theorem dX2_perform_23 : decode cX2_perform 23 = .ok (.invokevirtual 95, 3) := by decide +kernel
theorem dX2_perform_26 : decode cX2_perform 26 = .ok (.iconst 1, 1) := by decide +kernel
theorem dX2_perform_27 : decode cX2_perform 27 = .ok (.isub, 1) := by decide +kernel
theorem dX2_perform_28 : decode cX2_perform 28 = .ok (.aload_n 0, 1) := by decide +kernel
theorem dX2_perform_29 : decode cX2_perform 29 = .ok (.getfield 25, 3) := by decide +kernel
theorem dX2_perform_32 : decode cX2_perform 32 = .ok (.invokevirtual 98, 3) := by decide +kernel
theorem dX2_perform_35 : decode cX2_perform 35 = .ok (.aload_n 0, 1) := by decide +kernel
theorem dX2_perform_36 : decode cX2_perform 36 = .ok (.dup, 1) := by decide +kernel
theorem dX2_perform_37 : decode cX2_perform 37 = .ok (.getfield 43, 3) := by decide +kernel
theorem dX2_perform_40 : decode cX2_perform 40 = .ok (.iload_n 1, 1) := by decide +kernel
theorem dX2_perform_41 : decode cX2_perform 41 = .ok (.iadd, 1) := by decide +kernel
theorem dX2_perform_42 : decode cX2_perform 42 = .ok (.putfield 43, 3) := by decide +kernel
theorem dX2_perform_45 : decode cX2_perform 45 = .ok (.return_, 1) := by decide +kernel
theorem dX2_countedSync_0 : decode cX2_countedSync 0 = .ok (.aload_n 0, 1) := by decide +kernel
theorem dX2_countedSync_1 : decode cX2_countedSync 1 = .ok (.getfield 29, 3) := by decide +kernel
theorem dX2_countedSync_4 : decode cX2_countedSync 4 = .ok (.aload_n 0, 1) := by decide +kernel
theorem dX2_countedSync_5 : decode cX2_countedSync 5 = .ok (.getfield 25, 3) := by decide +kernel
theorem dX2_countedSync_8 : decode cX2_countedSync 8 = .ok (.invokevirtual 102, 3) := by decide +kernel
theorem dX2_countedSync_11 : decode cX2_countedSync 11 = .ok (.aload_n 0, 1) := by decide +kernel
theorem dX2_countedSync_12 : decode cX2_countedSync 12 = .ok (.invokevirtual 106, 3) := by decide +kernel
theorem dX2_countedSync_15 : decode cX2_countedSync 15 = .ok (.aload_n 0, 1) := by decide +kernel
theorem dX2_countedSync_16 : decode cX2_countedSync 16 = .ok (.dup, 1) := by decide +kernel
theorem dX2_countedSync_17 : decode cX2_countedSync 17 = .ok (.getfield 46, 3) := by decide +kernel
theorem dX2_countedSync_20 : decode cX2_countedSync 20 = .ok (.iconst 1, 1) := by decide +kernel
theorem dX2_countedSync_21 : decode cX2_countedSync 21 = .ok (.iadd, 1) := by decide +kernel
theorem dX2_countedSync_22 : decode cX2_countedSync 22 = .ok (.putfield 46, 3) := by decide +kernel
theorem dX2_countedSync_25 : decode cX2_countedSync 25 = .ok (.return_, 1) := by decide +kernel
theorem dX2_startAfresh_0 : decode cX2_startAfresh 0 = .ok (.aload_n 0, 1) := by decide +kernel
theorem dX2_startAfresh_1 : decode cX2_startAfresh 1 = .ok (.getfield 35, 3) := by decide +kernel
theorem dX2_startAfresh_4 : decode cX2_startAfresh 4 = .ok (.invokevirtual 127, 3) := by decide +kernel
theorem dX2_startAfresh_7 : decode cX2_startAfresh 7 = .ok (.aload_n 0, 1) := by decide +kernel
theorem dX2_startAfresh_8 : decode cX2_startAfresh 8 = .ok (.aload_n 0, 1) := by decide +kernel
theorem dX2_startAfresh_9 : decode cX2_startAfresh 9 = .ok (.getfield 25, 3) := by decide +kernel
theorem dX2_startAfresh_12 : decode cX2_startAfresh 12 = .ok (.invokevirtual 39, 3) := by decide +kernel
theorem dX2_startAfresh_15 : decode cX2_startAfresh 15 = .ok (.putfield 43, 3) := by decide +kernel
theorem dX2_startAfresh_18 : decode cX2_startAfresh 18 = .ok (.return_, 1) := by decide +kernel
