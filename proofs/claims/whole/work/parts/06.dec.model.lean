theorem dX3_init_0 : decode cX3_init 0 = .ok (.aload_n 0, 1) := by decide +kernel
theorem dX3_init_1 : decode cX3_init 1 = .ok (.invokespecial 1, 3) := by decide +kernel
theorem dX3_init_4 : decode cX3_init 4 = .ok (.aload_n 0, 1) := by decide +kernel
theorem dX3_init_5 : decode cX3_init 5 = .ok (.bipush 48, 2) := by decide +kernel
theorem dX3_init_7 : decode cX3_init 7 = .ok (.newarray .int, 2) := by decide +kernel
theorem dX3_init_9 : decode cX3_init 9 = .ok (.putfield 7, 3) := by decide +kernel
theorem dX3_init_12 : decode cX3_init 12 = .ok (.aload_n 0, 1) := by decide +kernel
theorem dX3_init_13 : decode cX3_init 13 = .ok (.bipush 48, 2) := by decide +kernel
theorem dX3_init_15 : decode cX3_init 15 = .ok (.newarray .int, 2) := by decide +kernel
theorem dX3_init_17 : decode cX3_init 17 = .ok (.putfield 13, 3) := by decide +kernel
theorem dX3_init_20 : decode cX3_init 20 = .ok (.aload_n 0, 1) := by decide +kernel
theorem dX3_init_21 : decode cX3_init 21 = .ok (.sipush 384, 3) := by decide +kernel
theorem dX3_init_24 : decode cX3_init 24 = .ok (.newarray .int, 2) := by decide +kernel
theorem dX3_init_26 : decode cX3_init 26 = .ok (.putfield 16, 3) := by decide +kernel
theorem dX3_init_29 : decode cX3_init 29 = .ok (.aload_n 0, 1) := by decide +kernel
theorem dX3_init_30 : decode cX3_init 30 = .ok (.sipush 1536, 3) := by decide +kernel
theorem dX3_init_33 : decode cX3_init 33 = .ok (.newarray .int, 2) := by decide +kernel
theorem dX3_init_35 : decode cX3_init 35 = .ok (.putfield 19, 3) := by decide +kernel
theorem dX3_init_38 : decode cX3_init 38 = .ok (.aload_n 0, 1) := by decide +kernel
theorem dX3_init_39 : decode cX3_init 39 = .ok (.iconst 1, 1) := by decide +kernel
theorem dX3_init_40 : decode cX3_init 40 = .ok (.putfield 22, 3) := by decide +kernel
theorem dX3_init_43 : decode cX3_init 43 = .ok (.aload_n 0, 1) := by decide +kernel
theorem dX3_init_44 : decode cX3_init 44 = .ok (.sipush 200, 3) := by decide +kernel
theorem dX3_init_47 : decode cX3_init 47 = .ok (.newarray .int, 2) := by decide +kernel
theorem dX3_init_49 : decode cX3_init 49 = .ok (.putfield 26, 3) := by decide +kernel
theorem dX3_init_52 : decode cX3_init 52 = .ok (.iload_n 1, 1) := by decide +kernel
theorem dX3_init_53 : decode cX3_init 53 = .ok (.iconst 4, 1) := by decide +kernel
theorem dX3_init_54 : decode cX3_init 54 = .ok (.if_icmp .ge 7, 3) := by decide +kernel
theorem dX3_init_57 : decode cX3_init 57 = .ok (.iconst 4, 1) := by decide +kernel
theorem dX3_init_58 : decode cX3_init 58 = .ok (.goto 15, 3) := by decide +kernel
theorem dX3_init_61 : decode cX3_init 61 = .ok (.iload_n 1, 1) := by decide +kernel
theorem dX3_init_62 : decode cX3_init 62 = .ok (.bipush 8, 2) := by decide +kernel
theorem dX3_init_64 : decode cX3_init 64 = .ok (.if_icmp .le 8, 3) := by decide +kernel
theorem dX3_init_67 : decode cX3_init 67 = .ok (.bipush 8, 2) := by decide +kernel
theorem dX3_init_69 : decode cX3_init 69 = .ok (.goto 4, 3) := by decide +kernel
theorem dX3_init_72 : decode cX3_init 72 = .ok (.iload_n 1, 1) := by decide +kernel
theorem dX3_init_73 : decode cX3_init 73 = .ok (.istore_n 2, 1) := by decide +kernel
theorem dX3_init_74 : decode cX3_init 74 = .ok (.aload_n 0, 1) := by decide +kernel
theorem dX3_init_75 : decode cX3_init 75 = .ok (.bipush 8, 2) := by decide +kernel
theorem dX3_init_77 : decode cX3_init 77 = .ok (.iload_n 2, 1) := by decide +kernel
theorem dX3_init_78 : decode cX3_init 78 = .ok (.iconst 2, 1) := by decide +kernel
theorem dX3_init_79 : decode cX3_init 79 = .ok (.isub, 1) := by decide +kernel
theorem dX3_init_80 : decode cX3_init 80 = .ok (.imul, 1) := by decide +kernel
theorem dX3_init_81 : decode cX3_init 81 = .ok (.putfield 29, 3) := by decide +kernel
theorem dX3_init_84 : decode cX3_init 84 = .ok (.iconst 0, 1) := by decide +kernel
theorem dX3_init_85 : decode cX3_init 85 = .ok (.istore_n 3, 1) := by decide +kernel
theorem dX3_init_86 : decode cX3_init 86 = .ok (.iload_n 3, 1) := by decide +kernel
theorem dX3_init_87 : decode cX3_init 87 = .ok (.sipush 1536, 3) := by decide +kernel
theorem dX3_init_90 : decode cX3_init 90 = .ok (.if_icmp .ge 16, 3) := by decide +kernel
theorem dX3_init_93 : decode cX3_init 93 = .ok (.aload_n 0, 1) := by decide +kernel
theorem dX3_init_94 : decode cX3_init 94 = .ok (.getfield 19, 3) := by decide +kernel
theorem dX3_init_97 : decode cX3_init 97 = .ok (.iload_n 3, 1) := by decide +kernel
theorem dX3_init_98 : decode cX3_init 98 = .ok (.iconst (-1), 1) := by decide +kernel
theorem dX3_init_99 : decode cX3_init 99 = .ok (.iastore, 1) := by decide +kernel
theorem dX3_init_100 : decode cX3_init 100 = .ok (.iinc 3 1, 3) := by decide +kernel
theorem dX3_init_103 : decode cX3_init 103 = .ok (.goto (-17), 3) := by decide +kernel
theorem dX3_init_106 : decode cX3_init 106 = .ok (.aload_n 0, 1) := by decide +kernel
theorem dX3_init_107 : decode cX3_init 107 = .ok (.getfield 7, 3) := by decide +kernel
theorem dX3_init_110 : decode cX3_init 110 = .ok (.iconst 0, 1) := by decide +kernel
theorem dX3_init_111 : decode cX3_init 111 = .ok (.iconst 2, 1) := by decide +kernel
theorem dX3_init_112 : decode cX3_init 112 = .ok (.iastore, 1) := by decide +kernel
theorem dX3_init_113 : decode cX3_init 113 = .ok (.aload_n 0, 1) := by decide +kernel
theorem dX3_init_114 : decode cX3_init 114 = .ok (.iconst 0, 1) := by decide +kernel
theorem dX3_init_115 : decode cX3_init 115 = .ok (.iconst 1, 1) := by decide +kernel
theorem dX3_init_116 : decode cX3_init 116 = .ok (.invokevirtual 32, 3) := by decide +kernel
theorem dX3_init_119 : decode cX3_init 119 = .ok (.return_, 1) := by decide +kernel
theorem dX3_copy_0 : decode cX3_copy 0 = .ok (.iconst 0, 1) := by decide +kernel
theorem dX3_copy_1 : decode cX3_copy 1 = .ok (.istore_n 3, 1) := by decide +kernel
theorem dX3_copy_2 : decode cX3_copy 2 = .ok (.iload_n 3, 1) := by decide +kernel
theorem dX3_copy_3 : decode cX3_copy 3 = .ok (.bipush 16, 2) := by decide +kernel
theorem dX3_copy_5 : decode cX3_copy 5 = .ok (.if_icmp .ge 53, 3) := by decide +kernel
theorem dX3_copy_8 : decode cX3_copy 8 = .ok (.aload_n 0, 1) := by decide +kernel
theorem dX3_copy_9 : decode cX3_copy 9 = .ok (.getfield 7, 3) := by decide +kernel
theorem dX3_copy_12 : decode cX3_copy 12 = .ok (.bipush 16, 2) := by decide +kernel
theorem dX3_copy_14 : decode cX3_copy 14 = .ok (.iload_n 2, 1) := by decide +kernel
theorem dX3_copy_15 : decode cX3_copy 15 = .ok (.imul, 1) := by decide +kernel
theorem dX3_copy_16 : decode cX3_copy 16 = .ok (.iload_n 3, 1) := by decide +kernel
theorem dX3_copy_17 : decode cX3_copy 17 = .ok (.iadd, 1) := by decide +kernel
theorem dX3_copy_18 : decode cX3_copy 18 = .ok (.aload_n 0, 1) := by decide +kernel
theorem dX3_copy_19 : decode cX3_copy 19 = .ok (.getfield 7, 3) := by decide +kernel
theorem dX3_copy_22 : decode cX3_copy 22 = .ok (.bipush 16, 2) := by decide +kernel
theorem dX3_copy_24 : decode cX3_copy 24 = .ok (.iload_n 1, 1) := by decide +kernel
theorem dX3_copy_25 : decode cX3_copy 25 = .ok (.imul, 1) := by decide +kernel
theorem dX3_copy_26 : decode cX3_copy 26 = .ok (.iload_n 3, 1) := by decide +kernel
theorem dX3_copy_27 : decode cX3_copy 27 = .ok (.iadd, 1) := by decide +kernel
theorem dX3_copy_28 : decode cX3_copy 28 = .ok (.iaload, 1) := by decide +kernel
theorem dX3_copy_29 : decode cX3_copy 29 = .ok (.iastore, 1) := by decide +kernel
theorem dX3_copy_30 : decode cX3_copy 30 = .ok (.aload_n 0, 1) := by decide +kernel
theorem dX3_copy_31 : decode cX3_copy 31 = .ok (.getfield 13, 3) := by decide +kernel
theorem dX3_copy_34 : decode cX3_copy 34 = .ok (.bipush 16, 2) := by decide +kernel
theorem dX3_copy_36 : decode cX3_copy 36 = .ok (.iload_n 2, 1) := by decide +kernel
theorem dX3_copy_37 : decode cX3_copy 37 = .ok (.imul, 1) := by decide +kernel
theorem dX3_copy_38 : decode cX3_copy 38 = .ok (.iload_n 3, 1) := by decide +kernel
theorem dX3_copy_39 : decode cX3_copy 39 = .ok (.iadd, 1) := by decide +kernel
theorem dX3_copy_40 : decode cX3_copy 40 = .ok (.aload_n 0, 1) := by decide +kernel
theorem dX3_copy_41 : decode cX3_copy 41 = .ok (.getfield 13, 3) := by decide +kernel
theorem dX3_copy_44 : decode cX3_copy 44 = .ok (.bipush 16, 2) := by decide +kernel
theorem dX3_copy_46 : decode cX3_copy 46 = .ok (.iload_n 1, 1) := by decide +kernel
theorem dX3_copy_47 : decode cX3_copy 47 = .ok (.imul, 1) := by decide +kernel
theorem dX3_copy_48 : decode cX3_copy 48 = .ok (.iload_n 3, 1) := by decide +kernel
theorem dX3_copy_49 : decode cX3_copy 49 = .ok (.iadd, 1) := by decide +kernel
theorem dX3_copy_50 : decode cX3_copy 50 = .ok (.iaload, 1) := by decide +kernel
theorem dX3_copy_51 : decode cX3_copy 51 = .ok (.iastore, 1) := by decide +kernel
theorem dX3_copy_52 : decode cX3_copy 52 = .ok (.iinc 3 1, 3) := by decide +kernel
theorem dX3_copy_55 : decode cX3_copy 55 = .ok (.goto (-53), 3) := by decide +kernel
theorem dX3_copy_58 : decode cX3_copy 58 = .ok (.iconst 0, 1) := by decide +kernel
theorem dX3_copy_59 : decode cX3_copy 59 = .ok (.istore_n 3, 1) := by decide +kernel
theorem dX3_copy_60 : decode cX3_copy 60 = .ok (.iload_n 3, 1) := by decide +kernel
theorem dX3_copy_61 : decode cX3_copy 61 = .ok (.sipush 128, 3) := by decide +kernel
theorem dX3_copy_64 : decode cX3_copy 64 = .ok (.if_icmp .ge 33, 3) := by decide +kernel
theorem dX3_copy_67 : decode cX3_copy 67 = .ok (.aload_n 0, 1) := by decide +kernel
theorem dX3_copy_68 : decode cX3_copy 68 = .ok (.getfield 16, 3) := by decide +kernel
theorem dX3_copy_71 : decode cX3_copy 71 = .ok (.sipush 128, 3) := by decide +kernel
theorem dX3_copy_74 : decode cX3_copy 74 = .ok (.iload_n 2, 1) := by decide +kernel
theorem dX3_copy_75 : decode cX3_copy 75 = .ok (.imul, 1) := by decide +kernel
theorem dX3_copy_76 : decode cX3_copy 76 = .ok (.iload_n 3, 1) := by decide +kernel
theorem dX3_copy_77 : decode cX3_copy 77 = .ok (.iadd, 1) := by decide +kernel
theorem dX3_copy_78 : decode cX3_copy 78 = .ok (.aload_n 0, 1) := by decide +kernel
theorem dX3_copy_79 : decode cX3_copy 79 = .ok (.getfield 16, 3) := by decide +kernel
theorem dX3_copy_82 : decode cX3_copy 82 = .ok (.sipush 128, 3) := by decide +kernel
theorem dX3_copy_85 : decode cX3_copy 85 = .ok (.iload_n 1, 1) := by decide +kernel
theorem dX3_copy_86 : decode cX3_copy 86 = .ok (.imul, 1) := by decide +kernel
theorem dX3_copy_87 : decode cX3_copy 87 = .ok (.iload_n 3, 1) := by decide +kernel
theorem dX3_copy_88 : decode cX3_copy 88 = .ok (.iadd, 1) := by decide +kernel
theorem dX3_copy_89 : decode cX3_copy 89 = .ok (.iaload, 1) := by decide +kernel
theorem dX3_copy_90 : decode cX3_copy 90 = .ok (.iastore, 1) := by decide +kernel
theorem dX3_copy_91 : decode cX3_copy 91 = .ok (.iinc 3 1, 3) := by decide +kernel
theorem dX3_copy_94 : decode cX3_copy 94 = .ok (.goto (-34), 3) := by decide +kernel
theorem dX3_copy_97 : decode cX3_copy 97 = .ok (.iconst 0, 1) := by decide +kernel
theorem dX3_copy_98 : decode cX3_copy 98 = .ok (.istore_n 3, 1) := by decide +kernel
theorem dX3_copy_99 : decode cX3_copy 99 = .ok (.iload_n 3, 1) := by decide +kernel
theorem dX3_copy_100 : decode cX3_copy 100 = .ok (.sipush 512, 3) := by decide +kernel
theorem dX3_copy_103 : decode cX3_copy 103 = .ok (.if_icmp .ge 33, 3) := by decide +kernel
theorem dX3_copy_106 : decode cX3_copy 106 = .ok (.aload_n 0, 1) := by decide +kernel
theorem dX3_copy_107 : decode cX3_copy 107 = .ok (.getfield 19, 3) := by decide +kernel
theorem dX3_copy_110 : decode cX3_copy 110 = .ok (.sipush 512, 3) := by decide +kernel
theorem dX3_copy_113 : decode cX3_copy 113 = .ok (.iload_n 2, 1) := by decide +kernel
theorem dX3_copy_114 : decode cX3_copy 114 = .ok (.imul, 1) := by decide +kernel
theorem dX3_copy_115 : decode cX3_copy 115 = .ok (.iload_n 3, 1) := by decide +kernel
theorem dX3_copy_116 : decode cX3_copy 116 = .ok (.iadd, 1) := by decide +kernel
theorem dX3_copy_117 : decode cX3_copy 117 = .ok (.aload_n 0, 1) := by decide +kernel
theorem dX3_copy_118 : decode cX3_copy 118 = .ok (.getfield 19, 3) := by decide +kernel
theorem dX3_copy_121 : decode cX3_copy 121 = .ok (.sipush 512, 3) := by decide +kernel
theorem dX3_copy_124 : decode cX3_copy 124 = .ok (.iload_n 1, 1) := by decide +kernel
theorem dX3_copy_125 : decode cX3_copy 125 = .ok (.imul, 1) := by decide +kernel
theorem dX3_copy_126 : decode cX3_copy 126 = .ok (.iload_n 3, 1) := by decide +kernel
theorem dX3_copy_127 : decode cX3_copy 127 = .ok (.iadd, 1) := by decide +kernel
theorem dX3_copy_128 : decode cX3_copy 128 = .ok (.iaload, 1) := by decide +kernel
theorem dX3_copy_129 : decode cX3_copy 129 = .ok (.iastore, 1) := by decide +kernel
theorem dX3_copy_130 : decode cX3_copy 130 = .ok (.iinc 3 1, 3) := by decide +kernel
theorem dX3_copy_133 : decode cX3_copy 133 = .ok (.goto (-34), 3) := by decide +kernel
theorem dX3_copy_136 : decode cX3_copy 136 = .ok (.return_, 1) := by decide +kernel
theorem dX3_out_0 : decode cX3_out 0 = .ok (.iload_n 0, 1) := by decide +kernel
theorem dX3_out_1 : decode cX3_out 1 = .ok (.ifCond .lt 8, 3) := by decide +kernel
theorem dX3_out_4 : decode cX3_out 4 = .ok (.iload_n 0, 1) := by decide +kernel
theorem dX3_out_5 : decode cX3_out 5 = .ok (.iload_n 1, 1) := by decide +kernel
theorem dX3_out_6 : decode cX3_out 6 = .ok (.if_icmp .lt 7, 3) := by decide +kernel
theorem dX3_out_9 : decode cX3_out 9 = .ok (.iconst 1, 1) := by decide +kernel
theorem dX3_out_10 : decode cX3_out 10 = .ok (.goto 4, 3) := by decide +kernel
theorem dX3_out_13 : decode cX3_out 13 = .ok (.iconst 0, 1) := by decide +kernel
theorem dX3_out_14 : decode cX3_out 14 = .ok (.ireturn, 1) := by decide +kernel
theorem dX3_live_0 : decode cX3_live 0 = .ok (.iconst 0, 1) := by decide +kernel
theorem dX3_live_1 : decode cX3_live 1 = .ok (.istore_n 1, 1) := by decide +kernel
theorem dX3_live_2 : decode cX3_live 2 = .ok (.iconst 0, 1) := by decide +kernel
theorem dX3_live_3 : decode cX3_live 3 = .ok (.istore_n 2, 1) := by decide +kernel
theorem dX3_live_4 : decode cX3_live 4 = .ok (.iload_n 2, 1) := by decide +kernel
theorem dX3_live_5 : decode cX3_live 5 = .ok (.bipush 16, 2) := by decide +kernel
theorem dX3_live_7 : decode cX3_live 7 = .ok (.if_icmp .ge 43, 3) := by decide +kernel
theorem dX3_live_10 : decode cX3_live 10 = .ok (.aload_n 0, 1) := by decide +kernel
theorem dX3_live_11 : decode cX3_live 11 = .ok (.getfield 7, 3) := by decide +kernel
theorem dX3_live_14 : decode cX3_live 14 = .ok (.iload_n 2, 1) := by decide +kernel
theorem dX3_live_15 : decode cX3_live 15 = .ok (.iaload, 1) := by decide +kernel
theorem dX3_live_16 : decode cX3_live 16 = .ok (.ifCond .eq 28, 3) := by decide +kernel
theorem dX3_live_19 : decode cX3_live 19 = .ok (.iload_n 1, 1) := by decide +kernel
theorem dX3_live_20 : decode cX3_live 20 = .ok (.iconst 1, 1) := by decide +kernel
theorem dX3_live_21 : decode cX3_live 21 = .ok (.aload_n 0, 1) := by decide +kernel
theorem dX3_live_22 : decode cX3_live 22 = .ok (.getfield 7, 3) := by decide +kernel
theorem dX3_live_25 : decode cX3_live 25 = .ok (.iload_n 2, 1) := by decide +kernel
theorem dX3_live_26 : decode cX3_live 26 = .ok (.iaload, 1) := by decide +kernel
theorem dX3_live_27 : decode cX3_live 27 = .ok (.iconst 1, 1) := by decide +kernel
theorem dX3_live_28 : decode cX3_live 28 = .ok (.if_icmp .ne 12, 3) := by decide +kernel
theorem dX3_live_31 : decode cX3_live 31 = .ok (.aload_n 0, 1) := by decide +kernel
theorem dX3_live_32 : decode cX3_live 32 = .ok (.getfield 13, 3) := by decide +kernel
theorem dX3_live_35 : decode cX3_live 35 = .ok (.iload_n 2, 1) := by decide +kernel
theorem dX3_live_36 : decode cX3_live 36 = .ok (.iaload, 1) := by decide +kernel
theorem dX3_live_37 : decode cX3_live 37 = .ok (.goto 4, 3) := by decide +kernel
theorem dX3_live_40 : decode cX3_live 40 = .ok (.iconst 0, 1) := by decide +kernel
theorem dX3_live_41 : decode cX3_live 41 = .ok (.iadd, 1) := by decide +kernel
theorem dX3_live_42 : decode cX3_live 42 = .ok (.iadd, 1) := by decide +kernel
theorem dX3_live_43 : decode cX3_live 43 = .ok (.istore_n 1, 1) := by decide +kernel
theorem dX3_live_44 : decode cX3_live 44 = .ok (.iinc 2 1, 3) := by decide +kernel
theorem dX3_live_47 : decode cX3_live 47 = .ok (.goto (-43), 3) := by decide +kernel
theorem dX3_live_50 : decode cX3_live 50 = .ok (.iload_n 1, 1) := by decide +kernel
theorem dX3_live_51 : decode cX3_live 51 = .ok (.ireturn, 1) := by decide +kernel
theorem dX3_nodes_0 : decode cX3_nodes 0 = .ok (.iconst 0, 1) := by decide +kernel
theorem dX3_nodes_1 : decode cX3_nodes 1 = .ok (.istore_n 1, 1) := by decide +kernel
theorem dX3_nodes_2 : decode cX3_nodes 2 = .ok (.iconst 0, 1) := by decide +kernel
theorem dX3_nodes_3 : decode cX3_nodes 3 = .ok (.istore_n 2, 1) := by decide +kernel
theorem dX3_nodes_4 : decode cX3_nodes 4 = .ok (.iload_n 2, 1) := by decide +kernel
theorem dX3_nodes_5 : decode cX3_nodes 5 = .ok (.bipush 16, 2) := by decide +kernel
theorem dX3_nodes_7 : decode cX3_nodes 7 = .ok (.if_icmp .ge 21, 3) := by decide +kernel
theorem dX3_nodes_10 : decode cX3_nodes 10 = .ok (.aload_n 0, 1) := by decide +kernel
theorem dX3_nodes_11 : decode cX3_nodes 11 = .ok (.getfield 7, 3) := by decide +kernel
theorem dX3_nodes_14 : decode cX3_nodes 14 = .ok (.iload_n 2, 1) := by decide +kernel
theorem dX3_nodes_15 : decode cX3_nodes 15 = .ok (.iaload, 1) := by decide +kernel
theorem dX3_nodes_16 : decode cX3_nodes 16 = .ok (.ifCond .eq 6, 3) := by decide +kernel
theorem dX3_nodes_19 : decode cX3_nodes 19 = .ok (.iinc 1 1, 3) := by decide +kernel
theorem dX3_nodes_22 : decode cX3_nodes 22 = .ok (.iinc 2 1, 3) := by decide +kernel
theorem dX3_nodes_25 : decode cX3_nodes 25 = .ok (.goto (-21), 3) := by decide +kernel
theorem dX3_nodes_28 : decode cX3_nodes 28 = .ok (.iload_n 1, 1) := by decide +kernel
theorem dX3_nodes_29 : decode cX3_nodes 29 = .ok (.ireturn, 1) := by decide +kernel
theorem dX3_entryCount_0 : decode cX3_entryCount 0 = .ok (.iconst 0, 1) := by decide +kernel
theorem dX3_entryCount_1 : decode cX3_entryCount 1 = .ok (.istore_n 2, 1) := by decide +kernel
theorem dX3_entryCount_2 : decode cX3_entryCount 2 = .ok (.iconst 0, 1) := by decide +kernel
theorem dX3_entryCount_3 : decode cX3_entryCount 3 = .ok (.istore_n 3, 1) := by decide +kernel
theorem dX3_entryCount_4 : decode cX3_entryCount 4 = .ok (.iload_n 3, 1) := by decide +kernel
theorem dX3_entryCount_5 : decode cX3_entryCount 5 = .ok (.bipush 32, 2) := by decide +kernel
theorem dX3_entryCount_7 : decode cX3_entryCount 7 = .ok (.if_icmp .ge 26, 3) := by decide +kernel
theorem dX3_entryCount_10 : decode cX3_entryCount 10 = .ok (.aload_n 0, 1) := by decide +kernel
theorem dX3_entryCount_11 : decode cX3_entryCount 11 = .ok (.getfield 19, 3) := by decide +kernel
theorem dX3_entryCount_14 : decode cX3_entryCount 14 = .ok (.bipush 32, 2) := by decide +kernel
theorem dX3_entryCount_16 : decode cX3_entryCount 16 = .ok (.iload_n 1, 1) := by decide +kernel
theorem dX3_entryCount_17 : decode cX3_entryCount 17 = .ok (.imul, 1) := by decide +kernel
theorem dX3_entryCount_18 : decode cX3_entryCount 18 = .ok (.iload_n 3, 1) := by decide +kernel
theorem dX3_entryCount_19 : decode cX3_entryCount 19 = .ok (.iadd, 1) := by decide +kernel
theorem dX3_entryCount_20 : decode cX3_entryCount 20 = .ok (.iaload, 1) := by decide +kernel
theorem dX3_entryCount_21 : decode cX3_entryCount 21 = .ok (.ifCond .lt 6, 3) := by decide +kernel
theorem dX3_entryCount_24 : decode cX3_entryCount 24 = .ok (.iinc 2 1, 3) := by decide +kernel
theorem dX3_entryCount_27 : decode cX3_entryCount 27 = .ok (.iinc 3 1, 3) := by decide +kernel
theorem dX3_entryCount_30 : decode cX3_entryCount 30 = .ok (.goto (-26), 3) := by decide +kernel
theorem dX3_entryCount_33 : decode cX3_entryCount 33 = .ok (.iload_n 2, 1) := by decide +kernel
theorem dX3_entryCount_34 : decode cX3_entryCount 34 = .ok (.ireturn, 1) := by decide +kernel
theorem dX3_links_0 : decode cX3_links 0 = .ok (.iconst 0, 1) := by decide +kernel
theorem dX3_links_1 : decode cX3_links 1 = .ok (.istore_n 2, 1) := by decide +kernel
theorem dX3_links_2 : decode cX3_links 2 = .ok (.iconst 0, 1) := by decide +kernel
theorem dX3_links_3 : decode cX3_links 3 = .ok (.istore_n 3, 1) := by decide +kernel
theorem dX3_links_4 : decode cX3_links 4 = .ok (.iload_n 3, 1) := by decide +kernel
theorem dX3_links_5 : decode cX3_links 5 = .ok (.sipush 512, 3) := by decide +kernel
theorem dX3_links_8 : decode cX3_links 8 = .ok (.if_icmp .ge 22, 3) := by decide +kernel
theorem dX3_links_11 : decode cX3_links 11 = .ok (.aload_n 0, 1) := by decide +kernel
theorem dX3_links_12 : decode cX3_links 12 = .ok (.getfield 19, 3) := by decide +kernel
theorem dX3_links_15 : decode cX3_links 15 = .ok (.iload_n 3, 1) := by decide +kernel
theorem dX3_links_16 : decode cX3_links 16 = .ok (.iaload, 1) := by decide +kernel
theorem dX3_links_17 : decode cX3_links 17 = .ok (.iload_n 1, 1) := by decide +kernel
theorem dX3_links_18 : decode cX3_links 18 = .ok (.if_icmp .ne 6, 3) := by decide +kernel
theorem dX3_links_21 : decode cX3_links 21 = .ok (.iinc 2 1, 3) := by decide +kernel
theorem dX3_links_24 : decode cX3_links 24 = .ok (.iinc 3 1, 3) := by decide +kernel
theorem dX3_links_27 : decode cX3_links 27 = .ok (.goto (-23), 3) := by decide +kernel
theorem dX3_links_30 : decode cX3_links 30 = .ok (.iload_n 2, 1) := by decide +kernel
theorem dX3_links_31 : decode cX3_links 31 = .ok (.ireturn, 1) := by decide +kernel
theorem dX3_isDir_0 : decode cX3_isDir 0 = .ok (.aload_n 0, 1) := by decide +kernel
theorem dX3_isDir_1 : decode cX3_isDir 1 = .ok (.getfield 7, 3) := by decide +kernel
theorem dX3_isDir_4 : decode cX3_isDir 4 = .ok (.iload_n 1, 1) := by decide +kernel
theorem dX3_isDir_5 : decode cX3_isDir 5 = .ok (.iaload, 1) := by decide +kernel
theorem dX3_isDir_6 : decode cX3_isDir 6 = .ok (.iconst 2, 1) := by decide +kernel
theorem dX3_isDir_7 : decode cX3_isDir 7 = .ok (.if_icmp .ne 7, 3) := by decide +kernel
theorem dX3_isDir_10 : decode cX3_isDir 10 = .ok (.iconst 1, 1) := by decide +kernel
theorem dX3_isDir_11 : decode cX3_isDir 11 = .ok (.goto 4, 3) := by decide +kernel
theorem dX3_isDir_14 : decode cX3_isDir 14 = .ok (.iconst 0, 1) := by decide +kernel
theorem dX3_isDir_15 : decode cX3_isDir 15 = .ok (.ireturn, 1) := by decide +kernel
theorem dX3_liesIn_0 : decode cX3_liesIn 0 = .ok (.iload_n 1, 1) := by decide +kernel
theorem dX3_liesIn_1 : decode cX3_liesIn 1 = .ok (.istore_n 3, 1) := by decide +kernel
theorem dX3_liesIn_2 : decode cX3_liesIn 2 = .ok (.iconst 0, 1) := by decide +kernel
theorem dX3_liesIn_3 : decode cX3_liesIn 3 = .ok (.istore 4, 2) := by decide +kernel
theorem dX3_liesIn_5 : decode cX3_liesIn 5 = .ok (.iload 4, 2) := by decide +kernel
theorem dX3_liesIn_7 : decode cX3_liesIn 7 = .ok (.bipush 16, 2) := by decide +kernel
theorem dX3_liesIn_9 : decode cX3_liesIn 9 = .ok (.if_icmp .ge 64, 3) := by decide +kernel
theorem dX3_liesIn_12 : decode cX3_liesIn 12 = .ok (.iload_n 3, 1) := by decide +kernel
theorem dX3_liesIn_13 : decode cX3_liesIn 13 = .ok (.iload_n 2, 1) := by decide +kernel
theorem dX3_liesIn_14 : decode cX3_liesIn 14 = .ok (.if_icmp .ne 5, 3) := by decide +kernel
theorem dX3_liesIn_17 : decode cX3_liesIn 17 = .ok (.iconst 1, 1) := by decide +kernel
theorem dX3_liesIn_18 : decode cX3_liesIn 18 = .ok (.ireturn, 1) := by decide +kernel
theorem dX3_liesIn_19 : decode cX3_liesIn 19 = .ok (.iconst (-1), 1) := by decide +kernel
theorem dX3_liesIn_20 : decode cX3_liesIn 20 = .ok (.istore 5, 2) := by decide +kernel
theorem dX3_liesIn_22 : decode cX3_liesIn 22 = .ok (.iconst 0, 1) := by decide +kernel
theorem dX3_liesIn_23 : decode cX3_liesIn 23 = .ok (.istore 6, 2) := by decide +kernel
theorem dX3_liesIn_25 : decode cX3_liesIn 25 = .ok (.iload 6, 2) := by decide +kernel
theorem dX3_liesIn_27 : decode cX3_liesIn 27 = .ok (.sipush 512, 3) := by decide +kernel
theorem dX3_liesIn_30 : decode cX3_liesIn 30 = .ok (.if_icmp .ge 27, 3) := by decide +kernel
theorem dX3_liesIn_33 : decode cX3_liesIn 33 = .ok (.aload_n 0, 1) := by decide +kernel
theorem dX3_liesIn_34 : decode cX3_liesIn 34 = .ok (.getfield 19, 3) := by decide +kernel
theorem dX3_liesIn_37 : decode cX3_liesIn 37 = .ok (.iload 6, 2) := by decide +kernel
theorem dX3_liesIn_39 : decode cX3_liesIn 39 = .ok (.iaload, 1) := by decide +kernel
theorem dX3_liesIn_40 : decode cX3_liesIn 40 = .ok (.iload_n 3, 1) := by decide +kernel
theorem dX3_liesIn_41 : decode cX3_liesIn 41 = .ok (.if_icmp .ne 10, 3) := by decide +kernel
theorem dX3_liesIn_44 : decode cX3_liesIn 44 = .ok (.iload 6, 2) := by decide +kernel
theorem dX3_liesIn_46 : decode cX3_liesIn 46 = .ok (.bipush 32, 2) := by decide +kernel
theorem dX3_liesIn_48 : decode cX3_liesIn 48 = .ok (.idiv, 1) := by decide +kernel
theorem dX3_liesIn_49 : decode cX3_liesIn 49 = .ok (.istore 5, 2) := by decide +kernel
theorem dX3_liesIn_51 : decode cX3_liesIn 51 = .ok (.iinc 6 1, 3) := by decide +kernel
theorem dX3_liesIn_54 : decode cX3_liesIn 54 = .ok (.goto (-29), 3) := by decide +kernel
theorem dX3_liesIn_57 : decode cX3_liesIn 57 = .ok (.iload 5, 2) := by decide +kernel
theorem dX3_liesIn_59 : decode cX3_liesIn 59 = .ok (.ifCond .ge 5, 3) := by decide +kernel
theorem dX3_liesIn_62 : decode cX3_liesIn 62 = .ok (.iconst 0, 1) := by decide +kernel
theorem dX3_liesIn_63 : decode cX3_liesIn 63 = .ok (.ireturn, 1) := by decide +kernel
theorem dX3_liesIn_64 : decode cX3_liesIn 64 = .ok (.iload 5, 2) := by decide +kernel
theorem dX3_liesIn_66 : decode cX3_liesIn 66 = .ok (.istore_n 3, 1) := by decide +kernel
theorem dX3_liesIn_67 : decode cX3_liesIn 67 = .ok (.iinc 4 1, 3) := by decide +kernel
theorem dX3_liesIn_70 : decode cX3_liesIn 70 = .ok (.goto (-65), 3) := by decide +kernel
theorem dX3_liesIn_73 : decode cX3_liesIn 73 = .ok (.iconst 0, 1) := by decide +kernel
theorem dX3_liesIn_74 : decode cX3_liesIn 74 = .ok (.ireturn, 1) := by decide +kernel
theorem dX3_leastAbsent_0 : decode cX3_leastAbsent 0 = .ok (.iconst 1, 1) := by decide +kernel
theorem dX3_leastAbsent_1 : decode cX3_leastAbsent 1 = .ok (.istore_n 1, 1) := by decide +kernel
theorem dX3_leastAbsent_2 : decode cX3_leastAbsent 2 = .ok (.iload_n 1, 1) := by decide +kernel
theorem dX3_leastAbsent_3 : decode cX3_leastAbsent 3 = .ok (.bipush 16, 2) := by decide +kernel
theorem dX3_leastAbsent_5 : decode cX3_leastAbsent 5 = .ok (.if_icmp .ge 18, 3) := by decide +kernel
theorem dX3_leastAbsent_8 : decode cX3_leastAbsent 8 = .ok (.aload_n 0, 1) := by decide +kernel
theorem dX3_leastAbsent_9 : decode cX3_leastAbsent 9 = .ok (.getfield 7, 3) := by decide +kernel
theorem dX3_leastAbsent_12 : decode cX3_leastAbsent 12 = .ok (.iload_n 1, 1) := by decide +kernel
theorem dX3_leastAbsent_13 : decode cX3_leastAbsent 13 = .ok (.iaload, 1) := by decide +kernel
theorem dX3_leastAbsent_14 : decode cX3_leastAbsent 14 = .ok (.ifCond .eq 9, 3) := by decide +kernel
theorem dX3_leastAbsent_17 : decode cX3_leastAbsent 17 = .ok (.iinc 1 1, 3) := by decide +kernel
theorem dX3_leastAbsent_20 : decode cX3_leastAbsent 20 = .ok (.goto (-18), 3) := by decide +kernel
theorem dX3_leastAbsent_23 : decode cX3_leastAbsent 23 = .ok (.iload_n 1, 1) := by decide +kernel
theorem dX3_leastAbsent_24 : decode cX3_leastAbsent 24 = .ok (.ireturn, 1) := by decide +kernel
theorem dX3_objection_0 : decode cX3_objection 0 = .ok (.iload_n 1, 1) := by decide +kernel
theorem dX3_objection_1 : decode cX3_objection 1 = .ok (.tableswitch 326 0 3 #[31, 85, 141, 209], 31) := by decide +kernel
theorem dX3_objection_32 : decode cX3_objection 32 = .ok (.aload_n 0, 1) := by decide +kernel
theorem dX3_objection_33 : decode cX3_objection 33 = .ok (.iload_n 2, 1) := by decide +kernel
theorem dX3_objection_34 : decode cX3_objection 34 = .ok (.invokevirtual 36, 3) := by decide +kernel
theorem dX3_objection_37 : decode cX3_objection 37 = .ok (.ifCond .ne 6, 3) := by decide +kernel
theorem dX3_objection_40 : decode cX3_objection 40 = .ok (.bipush (-2), 2) := by decide +kernel
theorem dX3_objection_42 : decode cX3_objection 42 = .ok (.ireturn, 1) := by decide +kernel
theorem dX3_objection_43 : decode cX3_objection 43 = .ok (.aload_n 0, 1) := by decide +kernel
theorem dX3_objection_44 : decode cX3_objection 44 = .ok (.getfield 19, 3) := by decide +kernel
theorem dX3_objection_47 : decode cX3_objection 47 = .ok (.bipush 32, 2) := by decide +kernel
theorem dX3_objection_49 : decode cX3_objection 49 = .ok (.iload_n 2, 1) := by decide +kernel
theorem dX3_objection_50 : decode cX3_objection 50 = .ok (.imul, 1) := by decide +kernel
theorem dX3_objection_51 : decode cX3_objection 51 = .ok (.iload_n 3, 1) := by decide +kernel
theorem dX3_objection_52 : decode cX3_objection 52 = .ok (.iadd, 1) := by decide +kernel
theorem dX3_objection_53 : decode cX3_objection 53 = .ok (.iaload, 1) := by decide +kernel
theorem dX3_objection_54 : decode cX3_objection 54 = .ok (.ifCond .lt 6, 3) := by decide +kernel
theorem dX3_objection_57 : decode cX3_objection 57 = .ok (.bipush (-3), 2) := by decide +kernel
theorem dX3_objection_59 : decode cX3_objection 59 = .ok (.ireturn, 1) := by decide +kernel
theorem dX3_objection_60 : decode cX3_objection 60 = .ok (.aload_n 0, 1) := by decide +kernel
theorem dX3_objection_61 : decode cX3_objection 61 = .ok (.iload_n 2, 1) := by decide +kernel
theorem dX3_objection_62 : decode cX3_objection 62 = .ok (.invokevirtual 40, 3) := by decide +kernel
theorem dX3_objection_65 : decode cX3_objection 65 = .ok (.bipush 8, 2) := by decide +kernel
theorem dX3_objection_67 : decode cX3_objection 67 = .ok (.if_icmp .eq 12, 3) := by decide +kernel
theorem dX3_objection_70 : decode cX3_objection 70 = .ok (.aload_n 0, 1) := by decide +kernel
theorem dX3_objection_71 : decode cX3_objection 71 = .ok (.invokevirtual 44, 3) := by decide +kernel
theorem dX3_objection_74 : decode cX3_objection 74 = .ok (.bipush 16, 2) := by decide +kernel
theorem dX3_objection_76 : decode cX3_objection 76 = .ok (.if_icmp .ne 8, 3) := by decide +kernel
theorem dX3_objection_79 : decode cX3_objection 79 = .ok (.bipush (-5), 2) := by decide +kernel
theorem dX3_objection_81 : decode cX3_objection 81 = .ok (.goto 4, 3) := by decide +kernel
theorem dX3_objection_84 : decode cX3_objection 84 = .ok (.iconst 0, 1) := by decide +kernel
theorem dX3_objection_85 : decode cX3_objection 85 = .ok (.ireturn, 1) := by decide +kernel
theorem dX3_objection_86 : decode cX3_objection 86 = .ok (.aload_n 0, 1) := by decide +kernel
theorem dX3_objection_87 : decode cX3_objection 87 = .ok (.iload_n 2, 1) := by decide +kernel
theorem dX3_objection_88 : decode cX3_objection 88 = .ok (.invokevirtual 36, 3) := by decide +kernel
theorem dX3_objection_91 : decode cX3_objection 91 = .ok (.ifCond .eq 14, 3) := by decide +kernel
theorem dX3_objection_94 : decode cX3_objection 94 = .ok (.aload_n 0, 1) := by decide +kernel
theorem dX3_objection_95 : decode cX3_objection 95 = .ok (.getfield 7, 3) := by decide +kernel
theorem dX3_objection_98 : decode cX3_objection 98 = .ok (.iload 4, 2) := by decide +kernel
theorem dX3_objection_100 : decode cX3_objection 100 = .ok (.iaload, 1) := by decide +kernel
theorem dX3_objection_101 : decode cX3_objection 101 = .ok (.iconst 1, 1) := by decide +kernel
theorem dX3_objection_102 : decode cX3_objection 102 = .ok (.if_icmp .eq 6, 3) := by decide +kernel
theorem dX3_objection_105 : decode cX3_objection 105 = .ok (.bipush (-2), 2) := by decide +kernel
theorem dX3_objection_107 : decode cX3_objection 107 = .ok (.ireturn, 1) := by decide +kernel
theorem dX3_objection_108 : decode cX3_objection 108 = .ok (.aload_n 0, 1) := by decide +kernel
theorem dX3_objection_109 : decode cX3_objection 109 = .ok (.getfield 19, 3) := by decide +kernel
theorem dX3_objection_112 : decode cX3_objection 112 = .ok (.bipush 32, 2) := by decide +kernel
theorem dX3_objection_114 : decode cX3_objection 114 = .ok (.iload_n 2, 1) := by decide +kernel
theorem dX3_objection_115 : decode cX3_objection 115 = .ok (.imul, 1) := by decide +kernel
theorem dX3_objection_116 : decode cX3_objection 116 = .ok (.iload_n 3, 1) := by decide +kernel
theorem dX3_objection_117 : decode cX3_objection 117 = .ok (.iadd, 1) := by decide +kernel
theorem dX3_objection_118 : decode cX3_objection 118 = .ok (.iaload, 1) := by decide +kernel
theorem dX3_objection_119 : decode cX3_objection 119 = .ok (.ifCond .lt 6, 3) := by decide +kernel
theorem dX3_objection_122 : decode cX3_objection 122 = .ok (.bipush (-3), 2) := by decide +kernel
theorem dX3_objection_124 : decode cX3_objection 124 = .ok (.ireturn, 1) := by decide +kernel
theorem dX3_objection_125 : decode cX3_objection 125 = .ok (.aload_n 0, 1) := by decide +kernel
theorem dX3_objection_126 : decode cX3_objection 126 = .ok (.iload_n 2, 1) := by decide +kernel
theorem dX3_objection_127 : decode cX3_objection 127 = .ok (.invokevirtual 40, 3) := by decide +kernel
theorem dX3_objection_130 : decode cX3_objection 130 = .ok (.bipush 8, 2) := by decide +kernel
theorem dX3_objection_132 : decode cX3_objection 132 = .ok (.if_icmp .ne 8, 3) := by decide +kernel
theorem dX3_objection_135 : decode cX3_objection 135 = .ok (.bipush (-5), 2) := by decide +kernel
theorem dX3_objection_137 : decode cX3_objection 137 = .ok (.goto 4, 3) := by decide +kernel
theorem dX3_objection_140 : decode cX3_objection 140 = .ok (.iconst 0, 1) := by decide +kernel
theorem dX3_objection_141 : decode cX3_objection 141 = .ok (.ireturn, 1) := by decide +kernel
theorem dX3_objection_142 : decode cX3_objection 142 = .ok (.aload_n 0, 1) := by decide +kernel
theorem dX3_objection_143 : decode cX3_objection 143 = .ok (.iload_n 2, 1) := by decide +kernel
theorem dX3_objection_144 : decode cX3_objection 144 = .ok (.invokevirtual 36, 3) := by decide +kernel
theorem dX3_objection_147 : decode cX3_objection 147 = .ok (.ifCond .eq 17, 3) := by decide +kernel
theorem dX3_objection_150 : decode cX3_objection 150 = .ok (.aload_n 0, 1) := by decide +kernel
theorem dX3_objection_151 : decode cX3_objection 151 = .ok (.getfield 19, 3) := by decide +kernel
theorem dX3_objection_154 : decode cX3_objection 154 = .ok (.bipush 32, 2) := by decide +kernel
theorem dX3_objection_156 : decode cX3_objection 156 = .ok (.iload_n 2, 1) := by decide +kernel
theorem dX3_objection_157 : decode cX3_objection 157 = .ok (.imul, 1) := by decide +kernel
theorem dX3_objection_158 : decode cX3_objection 158 = .ok (.iload_n 3, 1) := by decide +kernel
theorem dX3_objection_159 : decode cX3_objection 159 = .ok (.iadd, 1) := by decide +kernel
theorem dX3_objection_160 : decode cX3_objection 160 = .ok (.iaload, 1) := by decide +kernel
theorem dX3_objection_161 : decode cX3_objection 161 = .ok (.ifCond .ge 6, 3) := by decide +kernel
theorem dX3_objection_164 : decode cX3_objection 164 = .ok (.bipush (-2), 2) := by decide +kernel
theorem dX3_objection_166 : decode cX3_objection 166 = .ok (.ireturn, 1) := by decide +kernel
theorem dX3_objection_167 : decode cX3_objection 167 = .ok (.aload_n 0, 1) := by decide +kernel
theorem dX3_objection_168 : decode cX3_objection 168 = .ok (.aload_n 0, 1) := by decide +kernel
theorem dX3_objection_169 : decode cX3_objection 169 = .ok (.getfield 19, 3) := by decide +kernel
theorem dX3_objection_172 : decode cX3_objection 172 = .ok (.bipush 32, 2) := by decide +kernel
theorem dX3_objection_174 : decode cX3_objection 174 = .ok (.iload_n 2, 1) := by decide +kernel
theorem dX3_objection_175 : decode cX3_objection 175 = .ok (.imul, 1) := by decide +kernel
theorem dX3_objection_176 : decode cX3_objection 176 = .ok (.iload_n 3, 1) := by decide +kernel
theorem dX3_objection_177 : decode cX3_objection 177 = .ok (.iadd, 1) := by decide +kernel
theorem dX3_objection_178 : decode cX3_objection 178 = .ok (.iaload, 1) := by decide +kernel
theorem dX3_objection_179 : decode cX3_objection 179 = .ok (.invokevirtual 36, 3) := by decide +kernel
theorem dX3_objection_182 : decode cX3_objection 182 = .ok (.ifCond .eq 26, 3) := by decide +kernel
theorem dX3_objection_185 : decode cX3_objection 185 = .ok (.aload_n 0, 1) := by decide +kernel
theorem dX3_objection_186 : decode cX3_objection 186 = .ok (.aload_n 0, 1) := by decide +kernel
theorem dX3_objection_187 : decode cX3_objection 187 = .ok (.getfield 19, 3) := by decide +kernel
theorem dX3_objection_190 : decode cX3_objection 190 = .ok (.bipush 32, 2) := by decide +kernel
theorem dX3_objection_192 : decode cX3_objection 192 = .ok (.iload_n 2, 1) := by decide +kernel
theorem dX3_objection_193 : decode cX3_objection 193 = .ok (.imul, 1) := by decide +kernel
theorem dX3_objection_194 : decode cX3_objection 194 = .ok (.iload_n 3, 1) := by decide +kernel
theorem dX3_objection_195 : decode cX3_objection 195 = .ok (.iadd, 1) := by decide +kernel
theorem dX3_objection_196 : decode cX3_objection 196 = .ok (.iaload, 1) := by decide +kernel
theorem dX3_objection_197 : decode cX3_objection 197 = .ok (.invokevirtual 40, 3) := by decide +kernel
theorem dX3_objection_200 : decode cX3_objection 200 = .ok (.ifCond .le 8, 3) := by decide +kernel
theorem dX3_objection_203 : decode cX3_objection 203 = .ok (.bipush (-4), 2) := by decide +kernel
theorem dX3_objection_205 : decode cX3_objection 205 = .ok (.goto 4, 3) := by decide +kernel
theorem dX3_objection_208 : decode cX3_objection 208 = .ok (.iconst 0, 1) := by decide +kernel
theorem dX3_objection_209 : decode cX3_objection 209 = .ok (.ireturn, 1) := by decide +kernel
theorem dX3_objection_210 : decode cX3_objection 210 = .ok (.aload_n 0, 1) := by decide +kernel
theorem dX3_objection_211 : decode cX3_objection 211 = .ok (.iload_n 2, 1) := by decide +kernel
theorem dX3_objection_212 : decode cX3_objection 212 = .ok (.invokevirtual 36, 3) := by decide +kernel
theorem dX3_objection_215 : decode cX3_objection 215 = .ok (.ifCond .eq 26, 3) := by decide +kernel
theorem dX3_objection_218 : decode cX3_objection 218 = .ok (.aload_n 0, 1) := by decide +kernel
theorem dX3_objection_219 : decode cX3_objection 219 = .ok (.iload 4, 2) := by decide +kernel
theorem dX3_objection_221 : decode cX3_objection 221 = .ok (.invokevirtual 36, 3) := by decide +kernel
theorem dX3_objection_224 : decode cX3_objection 224 = .ok (.ifCond .eq 17, 3) := by decide +kernel
theorem dX3_objection_227 : decode cX3_objection 227 = .ok (.aload_n 0, 1) := by decide +kernel
theorem dX3_objection_228 : decode cX3_objection 228 = .ok (.getfield 19, 3) := by decide +kernel
theorem dX3_objection_231 : decode cX3_objection 231 = .ok (.bipush 32, 2) := by decide +kernel
theorem dX3_objection_233 : decode cX3_objection 233 = .ok (.iload_n 2, 1) := by decide +kernel
theorem dX3_objection_234 : decode cX3_objection 234 = .ok (.imul, 1) := by decide +kernel
theorem dX3_objection_235 : decode cX3_objection 235 = .ok (.iload_n 3, 1) := by decide +kernel
theorem dX3_objection_236 : decode cX3_objection 236 = .ok (.iadd, 1) := by decide +kernel
theorem dX3_objection_237 : decode cX3_objection 237 = .ok (.iaload, 1) := by decide +kernel
theorem dX3_objection_238 : decode cX3_objection 238 = .ok (.ifCond .ge 6, 3) := by decide +kernel
theorem dX3_objection_241 : decode cX3_objection 241 = .ok (.bipush (-2), 2) := by decide +kernel
theorem dX3_objection_243 : decode cX3_objection 243 = .ok (.ireturn, 1) := by decide +kernel
theorem dX3_objection_244 : decode cX3_objection 244 = .ok (.aload_n 0, 1) := by decide +kernel
theorem dX3_objection_245 : decode cX3_objection 245 = .ok (.getfield 19, 3) := by decide +kernel
theorem dX3_objection_248 : decode cX3_objection 248 = .ok (.bipush 32, 2) := by decide +kernel
theorem dX3_objection_250 : decode cX3_objection 250 = .ok (.iload 4, 2) := by decide +kernel
theorem dX3_objection_252 : decode cX3_objection 252 = .ok (.imul, 1) := by decide +kernel
theorem dX3_objection_253 : decode cX3_objection 253 = .ok (.iload 5, 2) := by decide +kernel
theorem dX3_objection_255 : decode cX3_objection 255 = .ok (.iadd, 1) := by decide +kernel
theorem dX3_objection_256 : decode cX3_objection 256 = .ok (.iaload, 1) := by decide +kernel
theorem dX3_objection_257 : decode cX3_objection 257 = .ok (.ifCond .lt 6, 3) := by decide +kernel
theorem dX3_objection_260 : decode cX3_objection 260 = .ok (.bipush (-3), 2) := by decide +kernel
theorem dX3_objection_262 : decode cX3_objection 262 = .ok (.ireturn, 1) := by decide +kernel
theorem dX3_objection_263 : decode cX3_objection 263 = .ok (.aload_n 0, 1) := by decide +kernel
theorem dX3_objection_264 : decode cX3_objection 264 = .ok (.aload_n 0, 1) := by decide +kernel
theorem dX3_objection_265 : decode cX3_objection 265 = .ok (.getfield 19, 3) := by decide +kernel
theorem dX3_objection_268 : decode cX3_objection 268 = .ok (.bipush 32, 2) := by decide +kernel
theorem dX3_objection_270 : decode cX3_objection 270 = .ok (.iload_n 2, 1) := by decide +kernel
theorem dX3_objection_271 : decode cX3_objection 271 = .ok (.imul, 1) := by decide +kernel
theorem dX3_objection_272 : decode cX3_objection 272 = .ok (.iload_n 3, 1) := by decide +kernel
theorem dX3_objection_273 : decode cX3_objection 273 = .ok (.iadd, 1) := by decide +kernel
theorem dX3_objection_274 : decode cX3_objection 274 = .ok (.iaload, 1) := by decide +kernel
theorem dX3_objection_275 : decode cX3_objection 275 = .ok (.invokevirtual 36, 3) := by decide +kernel
theorem dX3_objection_278 : decode cX3_objection 278 = .ok (.ifCond .eq 25, 3) := by decide +kernel
theorem dX3_objection_281 : decode cX3_objection 281 = .ok (.aload_n 0, 1) := by decide +kernel
theorem dX3_objection_282 : decode cX3_objection 282 = .ok (.iload 4, 2) := by decide +kernel
theorem dX3_objection_284 : decode cX3_objection 284 = .ok (.aload_n 0, 1) := by decide +kernel
theorem dX3_objection_285 : decode cX3_objection 285 = .ok (.getfield 19, 3) := by decide +kernel
theorem dX3_objection_288 : decode cX3_objection 288 = .ok (.bipush 32, 2) := by decide +kernel
theorem dX3_objection_290 : decode cX3_objection 290 = .ok (.iload_n 2, 1) := by decide +kernel
theorem dX3_objection_291 : decode cX3_objection 291 = .ok (.imul, 1) := by decide +kernel
theorem dX3_objection_292 : decode cX3_objection 292 = .ok (.iload_n 3, 1) := by decide +kernel
theorem dX3_objection_293 : decode cX3_objection 293 = .ok (.iadd, 1) := by decide +kernel
theorem dX3_objection_294 : decode cX3_objection 294 = .ok (.iaload, 1) := by decide +kernel
theorem dX3_objection_295 : decode cX3_objection 295 = .ok (.invokevirtual 48, 3) := by decide +kernel
theorem dX3_objection_298 : decode cX3_objection 298 = .ok (.ifCond .eq 5, 3) := by decide +kernel
theorem dX3_objection_301 : decode cX3_objection 301 = .ok (.iconst (-1), 1) := by decide +kernel
theorem dX3_objection_302 : decode cX3_objection 302 = .ok (.ireturn, 1) := by decide +kernel
theorem dX3_objection_303 : decode cX3_objection 303 = .ok (.iload 4, 2) := by decide +kernel
theorem dX3_objection_305 : decode cX3_objection 305 = .ok (.iload_n 2, 1) := by decide +kernel
theorem dX3_objection_306 : decode cX3_objection 306 = .ok (.if_icmp .eq 19, 3) := by decide +kernel
theorem dX3_objection_309 : decode cX3_objection 309 = .ok (.aload_n 0, 1) := by decide +kernel
theorem dX3_objection_310 : decode cX3_objection 310 = .ok (.iload 4, 2) := by decide +kernel
theorem dX3_objection_312 : decode cX3_objection 312 = .ok (.invokevirtual 40, 3) := by decide +kernel
theorem dX3_objection_315 : decode cX3_objection 315 = .ok (.bipush 8, 2) := by decide +kernel
theorem dX3_objection_317 : decode cX3_objection 317 = .ok (.if_icmp .ne 8, 3) := by decide +kernel
theorem dX3_objection_320 : decode cX3_objection 320 = .ok (.bipush (-5), 2) := by decide +kernel
theorem dX3_objection_322 : decode cX3_objection 322 = .ok (.goto 4, 3) := by decide +kernel
theorem dX3_objection_325 : decode cX3_objection 325 = .ok (.iconst 0, 1) := by decide +kernel
theorem dX3_objection_326 : decode cX3_objection 326 = .ok (.ireturn, 1) := by decide +kernel
theorem dX3_objection_327 : decode cX3_objection 327 = .ok (.aload_n 0, 1) := by decide +kernel
theorem dX3_objection_328 : decode cX3_objection 328 = .ok (.getfield 7, 3) := by decide +kernel
theorem dX3_objection_331 : decode cX3_objection 331 = .ok (.iload_n 2, 1) := by decide +kernel
theorem dX3_objection_332 : decode cX3_objection 332 = .ok (.iaload, 1) := by decide +kernel
theorem dX3_objection_333 : decode cX3_objection 333 = .ok (.iconst 1, 1) := by decide +kernel
theorem dX3_objection_334 : decode cX3_objection 334 = .ok (.if_icmp .eq 6, 3) := by decide +kernel
theorem dX3_objection_337 : decode cX3_objection 337 = .ok (.bipush (-2), 2) := by decide +kernel
theorem dX3_objection_339 : decode cX3_objection 339 = .ok (.ireturn, 1) := by decide +kernel
theorem dX3_objection_340 : decode cX3_objection 340 = .ok (.iload_n 3, 1) := by decide +kernel
theorem dX3_objection_341 : decode cX3_objection 341 = .ok (.aload_n 0, 1) := by decide +kernel
theorem dX3_objection_342 : decode cX3_objection 342 = .ok (.getfield 13, 3) := by decide +kernel
theorem dX3_objection_345 : decode cX3_objection 345 = .ok (.iload_n 2, 1) := by decide +kernel
theorem dX3_objection_346 : decode cX3_objection 346 = .ok (.iaload, 1) := by decide +kernel
theorem dX3_objection_347 : decode cX3_objection 347 = .ok (.if_icmp .le 7, 3) := by decide +kernel
theorem dX3_objection_350 : decode cX3_objection 350 = .ok (.iconst (-1), 1) := by decide +kernel
theorem dX3_objection_351 : decode cX3_objection 351 = .ok (.goto 4, 3) := by decide +kernel
theorem dX3_objection_354 : decode cX3_objection 354 = .ok (.iconst 0, 1) := by decide +kernel
theorem dX3_objection_355 : decode cX3_objection 355 = .ok (.ireturn, 1) := by decide +kernel
theorem dX3_cost_0 : decode cX3_cost 0 = .ok (.iload_n 1, 1) := by decide +kernel
theorem dX3_cost_1 : decode cX3_cost 1 = .ok (.iconst 2, 1) := by decide +kernel
theorem dX3_cost_2 : decode cX3_cost 2 = .ok (.if_icmp .ne 50, 3) := by decide +kernel
theorem dX3_cost_5 : decode cX3_cost 5 = .ok (.iconst 2, 1) := by decide +kernel
theorem dX3_cost_6 : decode cX3_cost 6 = .ok (.aload_n 0, 1) := by decide +kernel
theorem dX3_cost_7 : decode cX3_cost 7 = .ok (.getfield 7, 3) := by decide +kernel
theorem dX3_cost_10 : decode cX3_cost 10 = .ok (.aload_n 0, 1) := by decide +kernel
theorem dX3_cost_11 : decode cX3_cost 11 = .ok (.getfield 19, 3) := by decide +kernel
theorem dX3_cost_14 : decode cX3_cost 14 = .ok (.bipush 32, 2) := by decide +kernel
theorem dX3_cost_16 : decode cX3_cost 16 = .ok (.iload_n 2, 1) := by decide +kernel
theorem dX3_cost_17 : decode cX3_cost 17 = .ok (.imul, 1) := by decide +kernel
theorem dX3_cost_18 : decode cX3_cost 18 = .ok (.iload_n 3, 1) := by decide +kernel
theorem dX3_cost_19 : decode cX3_cost 19 = .ok (.iadd, 1) := by decide +kernel
theorem dX3_cost_20 : decode cX3_cost 20 = .ok (.iaload, 1) := by decide +kernel
theorem dX3_cost_21 : decode cX3_cost 21 = .ok (.iaload, 1) := by decide +kernel
theorem dX3_cost_22 : decode cX3_cost 22 = .ok (.iconst 1, 1) := by decide +kernel
theorem dX3_cost_23 : decode cX3_cost 23 = .ok (.if_icmp .ne 26, 3) := by decide +kernel
theorem dX3_cost_26 : decode cX3_cost 26 = .ok (.aload_n 0, 1) := by decide +kernel
theorem dX3_cost_27 : decode cX3_cost 27 = .ok (.aload_n 0, 1) := by decide +kernel
theorem dX3_cost_28 : decode cX3_cost 28 = .ok (.getfield 19, 3) := by decide +kernel
theorem dX3_cost_31 : decode cX3_cost 31 = .ok (.bipush 32, 2) := by decide +kernel
theorem dX3_cost_33 : decode cX3_cost 33 = .ok (.iload_n 2, 1) := by decide +kernel
theorem dX3_cost_34 : decode cX3_cost 34 = .ok (.imul, 1) := by decide +kernel
theorem dX3_cost_35 : decode cX3_cost 35 = .ok (.iload_n 3, 1) := by decide +kernel
theorem dX3_cost_36 : decode cX3_cost 36 = .ok (.iadd, 1) := by decide +kernel
theorem dX3_cost_37 : decode cX3_cost 37 = .ok (.iaload, 1) := by decide +kernel
theorem dX3_cost_38 : decode cX3_cost 38 = .ok (.invokevirtual 52, 3) := by decide +kernel
theorem dX3_cost_41 : decode cX3_cost 41 = .ok (.iconst 1, 1) := by decide +kernel
theorem dX3_cost_42 : decode cX3_cost 42 = .ok (.if_icmp .le 7, 3) := by decide +kernel
theorem dX3_cost_45 : decode cX3_cost 45 = .ok (.iconst 1, 1) := by decide +kernel
theorem dX3_cost_46 : decode cX3_cost 46 = .ok (.goto 4, 3) := by decide +kernel
theorem dX3_cost_49 : decode cX3_cost 49 = .ok (.iconst 0, 1) := by decide +kernel
theorem dX3_cost_50 : decode cX3_cost 50 = .ok (.iadd, 1) := by decide +kernel
theorem dX3_cost_51 : decode cX3_cost 51 = .ok (.ireturn, 1) := by decide +kernel
theorem dX3_cost_52 : decode cX3_cost 52 = .ok (.iload_n 1, 1) := by decide +kernel
theorem dX3_cost_53 : decode cX3_cost 53 = .ok (.iconst 3, 1) := by decide +kernel
theorem dX3_cost_54 : decode cX3_cost 54 = .ok (.if_icmp .ne 15, 3) := by decide +kernel
theorem dX3_cost_57 : decode cX3_cost 57 = .ok (.iload_n 2, 1) := by decide +kernel
theorem dX3_cost_58 : decode cX3_cost 58 = .ok (.iload 4, 2) := by decide +kernel
theorem dX3_cost_60 : decode cX3_cost 60 = .ok (.if_icmp .ne 7, 3) := by decide +kernel
theorem dX3_cost_63 : decode cX3_cost 63 = .ok (.iconst 2, 1) := by decide +kernel
theorem dX3_cost_64 : decode cX3_cost 64 = .ok (.goto 4, 3) := by decide +kernel
theorem dX3_cost_67 : decode cX3_cost 67 = .ok (.iconst 3, 1) := by decide +kernel
theorem dX3_cost_68 : decode cX3_cost 68 = .ok (.ireturn, 1) := by decide +kernel
theorem dX3_cost_69 : decode cX3_cost 69 = .ok (.iload_n 1, 1) := by decide +kernel
theorem dX3_cost_70 : decode cX3_cost 70 = .ok (.iconst 5, 1) := by decide +kernel
theorem dX3_cost_71 : decode cX3_cost 71 = .ok (.if_icmp .ne 7, 3) := by decide +kernel
theorem dX3_cost_74 : decode cX3_cost 74 = .ok (.iconst 2, 1) := by decide +kernel
theorem dX3_cost_75 : decode cX3_cost 75 = .ok (.goto 4, 3) := by decide +kernel
theorem dX3_cost_78 : decode cX3_cost 78 = .ok (.iconst 3, 1) := by decide +kernel
theorem dX3_cost_79 : decode cX3_cost 79 = .ok (.ireturn, 1) := by decide +kernel
theorem dX3_perform_0 : decode cX3_perform 0 = .ok (.iconst 0, 1) := by decide +kernel
theorem dX3_perform_1 : decode cX3_perform 1 = .ok (.istore 6, 2) := by decide +kernel
theorem dX3_perform_3 : decode cX3_perform 3 = .ok (.iload_n 1, 1) := by decide +kernel
theorem dX3_perform_4 : decode cX3_perform 4 = .ok (.tableswitch 211 0 4 #[36, 75, 90, 134, 176], 36) := by decide +kernel
theorem dX3_perform_40 : decode cX3_perform 40 = .ok (.aload_n 0, 1) := by decide +kernel
theorem dX3_perform_41 : decode cX3_perform 41 = .ok (.invokevirtual 55, 3) := by decide +kernel
theorem dX3_perform_44 : decode cX3_perform 44 = .ok (.istore 6, 2) := by decide +kernel
theorem dX3_perform_46 : decode cX3_perform 46 = .ok (.aload_n 0, 1) := by decide +kernel
theorem dX3_perform_47 : decode cX3_perform 47 = .ok (.getfield 7, 3) := by decide +kernel
theorem dX3_perform_50 : decode cX3_perform 50 = .ok (.iload 6, 2) := by decide +kernel
theorem dX3_perform_52 : decode cX3_perform 52 = .ok (.iload 4, 2) := by decide +kernel
theorem dX3_perform_54 : decode cX3_perform 54 = .ok (.iastore, 1) := by decide +kernel
theorem dX3_perform_55 : decode cX3_perform 55 = .ok (.aload_n 0, 1) := by decide +kernel
theorem dX3_perform_56 : decode cX3_perform 56 = .ok (.getfield 13, 3) := by decide +kernel
theorem dX3_perform_59 : decode cX3_perform 59 = .ok (.iload 6, 2) := by decide +kernel
theorem dX3_perform_61 : decode cX3_perform 61 = .ok (.iconst 0, 1) := by decide +kernel
theorem dX3_perform_62 : decode cX3_perform 62 = .ok (.iastore, 1) := by decide +kernel
theorem dX3_perform_63 : decode cX3_perform 63 = .ok (.aload_n 0, 1) := by decide +kernel
theorem dX3_perform_64 : decode cX3_perform 64 = .ok (.getfield 19, 3) := by decide +kernel
theorem dX3_perform_67 : decode cX3_perform 67 = .ok (.bipush 32, 2) := by decide +kernel
theorem dX3_perform_69 : decode cX3_perform 69 = .ok (.iload_n 2, 1) := by decide +kernel
theorem dX3_perform_70 : decode cX3_perform 70 = .ok (.imul, 1) := by decide +kernel
theorem dX3_perform_71 : decode cX3_perform 71 = .ok (.iload_n 3, 1) := by decide +kernel
theorem dX3_perform_72 : decode cX3_perform 72 = .ok (.iadd, 1) := by decide +kernel
theorem dX3_perform_73 : decode cX3_perform 73 = .ok (.iload 6, 2) := by decide +kernel
theorem dX3_perform_75 : decode cX3_perform 75 = .ok (.iastore, 1) := by decide +kernel
theorem dX3_perform_76 : decode cX3_perform 76 = .ok (.iload 6, 2) := by decide +kernel
theorem dX3_perform_78 : decode cX3_perform 78 = .ok (.ireturn, 1) := by decide +kernel
theorem dX3_perform_79 : decode cX3_perform 79 = .ok (.aload_n 0, 1) := by decide +kernel
theorem dX3_perform_80 : decode cX3_perform 80 = .ok (.getfield 19, 3) := by decide +kernel
theorem dX3_perform_83 : decode cX3_perform 83 = .ok (.bipush 32, 2) := by decide +kernel
theorem dX3_perform_85 : decode cX3_perform 85 = .ok (.iload_n 2, 1) := by decide +kernel
theorem dX3_perform_86 : decode cX3_perform 86 = .ok (.imul, 1) := by decide +kernel
theorem dX3_perform_87 : decode cX3_perform 87 = .ok (.iload_n 3, 1) := by decide +kernel
theorem dX3_perform_88 : decode cX3_perform 88 = .ok (.iadd, 1) := by decide +kernel
theorem dX3_perform_89 : decode cX3_perform 89 = .ok (.iload 4, 2) := by decide +kernel
theorem dX3_perform_91 : decode cX3_perform 91 = .ok (.iastore, 1) := by decide +kernel
theorem dX3_perform_92 : decode cX3_perform 92 = .ok (.iconst 0, 1) := by decide +kernel
theorem dX3_perform_93 : decode cX3_perform 93 = .ok (.ireturn, 1) := by decide +kernel
theorem dX3_perform_94 : decode cX3_perform 94 = .ok (.aload_n 0, 1) := by decide +kernel
theorem dX3_perform_95 : decode cX3_perform 95 = .ok (.getfield 19, 3) := by decide +kernel
theorem dX3_perform_98 : decode cX3_perform 98 = .ok (.bipush 32, 2) := by decide +kernel
theorem dX3_perform_100 : decode cX3_perform 100 = .ok (.iload_n 2, 1) := by decide +kernel
theorem dX3_perform_101 : decode cX3_perform 101 = .ok (.imul, 1) := by decide +kernel
theorem dX3_perform_102 : decode cX3_perform 102 = .ok (.iload_n 3, 1) := by decide +kernel
theorem dX3_perform_103 : decode cX3_perform 103 = .ok (.iadd, 1) := by decide +kernel
theorem dX3_perform_104 : decode cX3_perform 104 = .ok (.iaload, 1) := by decide +kernel
theorem dX3_perform_105 : decode cX3_perform 105 = .ok (.istore 6, 2) := by decide +kernel
theorem dX3_perform_107 : decode cX3_perform 107 = .ok (.aload_n 0, 1) := by decide +kernel
theorem dX3_perform_108 : decode cX3_perform 108 = .ok (.getfield 19, 3) := by decide +kernel
theorem dX3_perform_111 : decode cX3_perform 111 = .ok (.bipush 32, 2) := by decide +kernel
theorem dX3_perform_113 : decode cX3_perform 113 = .ok (.iload_n 2, 1) := by decide +kernel
theorem dX3_perform_114 : decode cX3_perform 114 = .ok (.imul, 1) := by decide +kernel
theorem dX3_perform_115 : decode cX3_perform 115 = .ok (.iload_n 3, 1) := by decide +kernel
theorem dX3_perform_116 : decode cX3_perform 116 = .ok (.iadd, 1) := by decide +kernel
theorem dX3_perform_117 : decode cX3_perform 117 = .ok (.iconst (-1), 1) := by decide +kernel
theorem dX3_perform_118 : decode cX3_perform 118 = .ok (.iastore, 1) := by decide +kernel
theorem dX3_perform_119 : decode cX3_perform 119 = .ok (.aload_n 0, 1) := by decide +kernel
theorem dX3_perform_120 : decode cX3_perform 120 = .ok (.iload 6, 2) := by decide +kernel
theorem dX3_perform_122 : decode cX3_perform 122 = .ok (.invokevirtual 52, 3) := by decide +kernel
theorem dX3_perform_125 : decode cX3_perform 125 = .ok (.ifCond .ne 11, 3) := by decide +kernel
theorem dX3_perform_128 : decode cX3_perform 128 = .ok (.aload_n 0, 1) := by decide +kernel
theorem dX3_perform_129 : decode cX3_perform 129 = .ok (.getfield 7, 3) := by decide +kernel
theorem dX3_perform_132 : decode cX3_perform 132 = .ok (.iload 6, 2) := by decide +kernel
theorem dX3_perform_134 : decode cX3_perform 134 = .ok (.iconst 0, 1) := by decide +kernel
theorem dX3_perform_135 : decode cX3_perform 135 = .ok (.iastore, 1) := by decide +kernel
theorem dX3_perform_136 : decode cX3_perform 136 = .ok (.iconst 0, 1) := by decide +kernel
theorem dX3_perform_137 : decode cX3_perform 137 = .ok (.ireturn, 1) := by decide +kernel
theorem dX3_perform_138 : decode cX3_perform 138 = .ok (.aload_n 0, 1) := by decide +kernel
theorem dX3_perform_139 : decode cX3_perform 139 = .ok (.getfield 19, 3) := by decide +kernel
theorem dX3_perform_142 : decode cX3_perform 142 = .ok (.bipush 32, 2) := by decide +kernel
theorem dX3_perform_144 : decode cX3_perform 144 = .ok (.iload_n 2, 1) := by decide +kernel
theorem dX3_perform_145 : decode cX3_perform 145 = .ok (.imul, 1) := by decide +kernel
theorem dX3_perform_146 : decode cX3_perform 146 = .ok (.iload_n 3, 1) := by decide +kernel
theorem dX3_perform_147 : decode cX3_perform 147 = .ok (.iadd, 1) := by decide +kernel
theorem dX3_perform_148 : decode cX3_perform 148 = .ok (.iaload, 1) := by decide +kernel
theorem dX3_perform_149 : decode cX3_perform 149 = .ok (.istore 6, 2) := by decide +kernel
theorem dX3_perform_151 : decode cX3_perform 151 = .ok (.aload_n 0, 1) := by decide +kernel
theorem dX3_perform_152 : decode cX3_perform 152 = .ok (.getfield 19, 3) := by decide +kernel
theorem dX3_perform_155 : decode cX3_perform 155 = .ok (.bipush 32, 2) := by decide +kernel
theorem dX3_perform_157 : decode cX3_perform 157 = .ok (.iload_n 2, 1) := by decide +kernel
theorem dX3_perform_158 : decode cX3_perform 158 = .ok (.imul, 1) := by decide +kernel
theorem dX3_perform_159 : decode cX3_perform 159 = .ok (.iload_n 3, 1) := by decide +kernel
theorem dX3_perform_160 : decode cX3_perform 160 = .ok (.iadd, 1) := by decide +kernel
theorem dX3_perform_161 : decode cX3_perform 161 = .ok (.iconst (-1), 1) := by decide +kernel
theorem dX3_perform_162 : decode cX3_perform 162 = .ok (.iastore, 1) := by decide +kernel
theorem dX3_perform_163 : decode cX3_perform 163 = .ok (.aload_n 0, 1) := by decide +kernel
theorem dX3_perform_164 : decode cX3_perform 164 = .ok (.getfield 19, 3) := by decide +kernel
theorem dX3_perform_167 : decode cX3_perform 167 = .ok (.bipush 32, 2) := by decide +kernel
theorem dX3_perform_169 : decode cX3_perform 169 = .ok (.iload 4, 2) := by decide +kernel
theorem dX3_perform_171 : decode cX3_perform 171 = .ok (.imul, 1) := by decide +kernel
theorem dX3_perform_172 : decode cX3_perform 172 = .ok (.iload 5, 2) := by decide +kernel
theorem dX3_perform_174 : decode cX3_perform 174 = .ok (.iadd, 1) := by decide +kernel
theorem dX3_perform_175 : decode cX3_perform 175 = .ok (.iload 6, 2) := by decide +kernel
theorem dX3_perform_177 : decode cX3_perform 177 = .ok (.iastore, 1) := by decide +kernel
theorem dX3_perform_178 : decode cX3_perform 178 = .ok (.iconst 0, 1) := by decide +kernel
theorem dX3_perform_179 : decode cX3_perform 179 = .ok (.ireturn, 1) := by decide +kernel
theorem dX3_perform_180 : decode cX3_perform 180 = .ok (.aload_n 0, 1) := by decide +kernel
theorem dX3_perform_181 : decode cX3_perform 181 = .ok (.getfield 16, 3) := by decide +kernel
theorem dX3_perform_184 : decode cX3_perform 184 = .ok (.bipush 8, 2) := by decide +kernel
theorem dX3_perform_186 : decode cX3_perform 186 = .ok (.iload_n 2, 1) := by decide +kernel
theorem dX3_perform_187 : decode cX3_perform 187 = .ok (.imul, 1) := by decide +kernel
theorem dX3_perform_188 : decode cX3_perform 188 = .ok (.iload_n 3, 1) := by decide +kernel
theorem dX3_perform_189 : decode cX3_perform 189 = .ok (.iadd, 1) := by decide +kernel
theorem dX3_perform_190 : decode cX3_perform 190 = .ok (.iload 4, 2) := by decide +kernel
theorem dX3_perform_192 : decode cX3_perform 192 = .ok (.iastore, 1) := by decide +kernel
theorem dX3_perform_193 : decode cX3_perform 193 = .ok (.iload_n 3, 1) := by decide +kernel
theorem dX3_perform_194 : decode cX3_perform 194 = .ok (.aload_n 0, 1) := by decide +kernel
theorem dX3_perform_195 : decode cX3_perform 195 = .ok (.getfield 13, 3) := by decide +kernel
theorem dX3_perform_198 : decode cX3_perform 198 = .ok (.iload_n 2, 1) := by decide +kernel
theorem dX3_perform_199 : decode cX3_perform 199 = .ok (.iaload, 1) := by decide +kernel
theorem dX3_perform_200 : decode cX3_perform 200 = .ok (.if_icmp .ne 13, 3) := by decide +kernel
theorem dX3_perform_203 : decode cX3_perform 203 = .ok (.aload_n 0, 1) := by decide +kernel
theorem dX3_perform_204 : decode cX3_perform 204 = .ok (.getfield 13, 3) := by decide +kernel
theorem dX3_perform_207 : decode cX3_perform 207 = .ok (.iload_n 2, 1) := by decide +kernel
theorem dX3_perform_208 : decode cX3_perform 208 = .ok (.dup2, 1) := by decide +kernel
theorem dX3_perform_209 : decode cX3_perform 209 = .ok (.iaload, 1) := by decide +kernel
theorem dX3_perform_210 : decode cX3_perform 210 = .ok (.iconst 1, 1) := by decide +kernel
theorem dX3_perform_211 : decode cX3_perform 211 = .ok (.iadd, 1) := by decide +kernel
theorem dX3_perform_212 : decode cX3_perform 212 = .ok (.iastore, 1) := by decide +kernel
theorem dX3_perform_213 : decode cX3_perform 213 = .ok (.iconst 0, 1) := by decide +kernel
theorem dX3_perform_214 : decode cX3_perform 214 = .ok (.ireturn, 1) := by decide +kernel
theorem dX3_perform_215 : decode cX3_perform 215 = .ok (.aload_n 0, 1) := by decide +kernel
theorem dX3_perform_216 : decode cX3_perform 216 = .ok (.getfield 13, 3) := by decide +kernel
theorem dX3_perform_219 : decode cX3_perform 219 = .ok (.iload_n 2, 1) := by decide +kernel
theorem dX3_perform_220 : decode cX3_perform 220 = .ok (.iload_n 3, 1) := by decide +kernel
theorem dX3_perform_221 : decode cX3_perform 221 = .ok (.iastore, 1) := by decide +kernel
theorem dX3_perform_222 : decode cX3_perform 222 = .ok (.iconst 0, 1) := by decide +kernel
theorem dX3_perform_223 : decode cX3_perform 223 = .ok (.ireturn, 1) := by decide +kernel
theorem dX3_settle_0 : decode cX3_settle 0 = .ok (.aload_n 0, 1) := by decide +kernel
theorem dX3_settle_1 : decode cX3_settle 1 = .ok (.iconst 0, 1) := by decide +kernel
theorem dX3_settle_2 : decode cX3_settle 2 = .ok (.iconst 1, 1) := by decide +kernel
theorem dX3_settle_3 : decode cX3_settle 3 = .ok (.invokevirtual 32, 3) := by decide +kernel
theorem dX3_settle_6 : decode cX3_settle 6 = .ok (.aload_n 0, 1) := by decide +kernel
theorem dX3_settle_7 : decode cX3_settle 7 = .ok (.iconst 0, 1) := by decide +kernel
theorem dX3_settle_8 : decode cX3_settle 8 = .ok (.putfield 58, 3) := by decide +kernel
theorem dX3_settle_11 : decode cX3_settle 11 = .ok (.aload_n 0, 1) := by decide +kernel
theorem dX3_settle_12 : decode cX3_settle 12 = .ok (.aload_n 0, 1) := by decide +kernel
theorem dX3_settle_13 : decode cX3_settle 13 = .ok (.invokevirtual 61, 3) := by decide +kernel
theorem dX3_settle_16 : decode cX3_settle 16 = .ok (.putfield 22, 3) := by decide +kernel
theorem dX3_settle_19 : decode cX3_settle 19 = .ok (.return_, 1) := by decide +kernel
theorem dX3_attempt_0 : decode cX3_attempt 0 = .ok (.aload_n 0, 1) := by decide +kernel
theorem dX3_attempt_1 : decode cX3_attempt 1 = .ok (.iload_n 1, 1) := by decide +kernel
theorem dX3_attempt_2 : decode cX3_attempt 2 = .ok (.iload_n 2, 1) := by decide +kernel
theorem dX3_attempt_3 : decode cX3_attempt 3 = .ok (.iload_n 3, 1) := by decide +kernel
theorem dX3_attempt_4 : decode cX3_attempt 4 = .ok (.iload 4, 2) := by decide +kernel
theorem dX3_attempt_6 : decode cX3_attempt 6 = .ok (.iload 5, 2) := by decide +kernel
theorem dX3_attempt_8 : decode cX3_attempt 8 = .ok (.invokevirtual 64, 3) := by decide +kernel
theorem dX3_attempt_11 : decode cX3_attempt 11 = .ok (.istore 6, 2) := by decide +kernel
theorem dX3_attempt_13 : decode cX3_attempt 13 = .ok (.iload 6, 2) := by decide +kernel
theorem dX3_attempt_15 : decode cX3_attempt 15 = .ok (.ifCond .eq 6, 3) := by decide +kernel
theorem dX3_attempt_18 : decode cX3_attempt 18 = .ok (.iload 6, 2) := by decide +kernel
theorem dX3_attempt_20 : decode cX3_attempt 20 = .ok (.ireturn, 1) := by decide +kernel
theorem dX3_attempt_21 : decode cX3_attempt 21 = .ok (.aload_n 0, 1) := by decide +kernel
theorem dX3_attempt_22 : decode cX3_attempt 22 = .ok (.iload_n 1, 1) := by decide +kernel
theorem dX3_attempt_23 : decode cX3_attempt 23 = .ok (.iload_n 2, 1) := by decide +kernel
theorem dX3_attempt_24 : decode cX3_attempt 24 = .ok (.iload_n 3, 1) := by decide +kernel
theorem dX3_attempt_25 : decode cX3_attempt 25 = .ok (.iload 4, 2) := by decide +kernel
theorem dX3_attempt_27 : decode cX3_attempt 27 = .ok (.invokevirtual 68, 3) := by decide +kernel
theorem dX3_attempt_30 : decode cX3_attempt 30 = .ok (.istore 7, 2) := by decide +kernel
theorem dX3_attempt_32 : decode cX3_attempt 32 = .ok (.aload_n 0, 1) := by decide +kernel
theorem dX3_attempt_33 : decode cX3_attempt 33 = .ok (.getfield 22, 3) := by decide +kernel
theorem dX3_attempt_36 : decode cX3_attempt 36 = .ok (.iload 7, 2) := by decide +kernel
theorem dX3_attempt_38 : decode cX3_attempt 38 = .ok (.iadd, 1) := by decide +kernel
theorem dX3_attempt_39 : decode cX3_attempt 39 = .ok (.aload_n 0, 1) := by decide +kernel
theorem dX3_attempt_40 : decode cX3_attempt 40 = .ok (.getfield 29, 3) := by decide +kernel
theorem dX3_attempt_43 : decode cX3_attempt 43 = .ok (.if_icmp .le 8, 3) := by decide +kernel
theorem dX3_attempt_46 : decode cX3_attempt 46 = .ok (.aload_n 0, 1) := by decide +kernel
theorem dX3_attempt_47 : decode cX3_attempt 47 = .ok (.invokevirtual 72, 3) := by decide +kernel
theorem dX3_attempt_50 : decode cX3_attempt 50 = .ok (.pop, 1) := by decide +kernel
theorem dX3_attempt_51 : decode cX3_attempt 51 = .ok (.aload_n 0, 1) := by decide +kernel
theorem dX3_attempt_52 : decode cX3_attempt 52 = .ok (.iconst 0, 1) := by decide +kernel
theorem dX3_attempt_53 : decode cX3_attempt 53 = .ok (.iconst 2, 1) := by decide +kernel
theorem dX3_attempt_54 : decode cX3_attempt 54 = .ok (.invokevirtual 32, 3) := by decide +kernel
theorem dX3_attempt_57 : decode cX3_attempt 57 = .ok (.aload_n 0, 1) := by decide +kernel
theorem dX3_attempt_58 : decode cX3_attempt 58 = .ok (.iload_n 1, 1) := by decide +kernel
theorem dX3_attempt_59 : decode cX3_attempt 59 = .ok (.iload_n 2, 1) := by decide +kernel
theorem dX3_attempt_60 : decode cX3_attempt 60 = .ok (.iload_n 3, 1) := by decide +kernel
theorem dX3_attempt_61 : decode cX3_attempt 61 = .ok (.iload 4, 2) := by decide +kernel
theorem dX3_attempt_63 : decode cX3_attempt 63 = .ok (.iload 5, 2) := by decide +kernel
theorem dX3_attempt_65 : decode cX3_attempt 65 = .ok (.invokevirtual 75, 3) := by decide +kernel
theorem dX3_attempt_68 : decode cX3_attempt 68 = .ok (.istore 8, 2) := by decide +kernel
theorem dX3_attempt_70 : decode cX3_attempt 70 = .ok (.aload_n 0, 1) := by decide +kernel
theorem dX3_attempt_71 : decode cX3_attempt 71 = .ok (.invokevirtual 61, 3) := by decide +kernel
theorem dX3_attempt_74 : decode cX3_attempt 74 = .ok (.aload_n 0, 1) := by decide +kernel
theorem dX3_attempt_75 : decode cX3_attempt 75 = .ok (.getfield 29, 3) := by decide +kernel
theorem dX3_attempt_78 : decode cX3_attempt 78 = .ok (.bipush 8, 2) := by decide +kernel
theorem dX3_attempt_80 : decode cX3_attempt 80 = .ok (.isub, 1) := by decide +kernel
theorem dX3_attempt_81 : decode cX3_attempt 81 = .ok (.if_icmp .le 12, 3) := by decide +kernel
theorem dX3_attempt_84 : decode cX3_attempt 84 = .ok (.aload_n 0, 1) := by decide +kernel
theorem dX3_attempt_85 : decode cX3_attempt 85 = .ok (.iconst 2, 1) := by decide +kernel
theorem dX3_attempt_86 : decode cX3_attempt 86 = .ok (.iconst 0, 1) := by decide +kernel
theorem dX3_attempt_87 : decode cX3_attempt 87 = .ok (.invokevirtual 32, 3) := by decide +kernel
theorem dX3_attempt_90 : decode cX3_attempt 90 = .ok (.bipush (-6), 2) := by decide +kernel
theorem dX3_attempt_92 : decode cX3_attempt 92 = .ok (.ireturn, 1) := by decide +kernel
theorem dX3_attempt_93 : decode cX3_attempt 93 = .ok (.aload_n 0, 1) := by decide +kernel
theorem dX3_attempt_94 : decode cX3_attempt 94 = .ok (.dup, 1) := by decide +kernel
theorem dX3_attempt_95 : decode cX3_attempt 95 = .ok (.getfield 22, 3) := by decide +kernel
theorem dX3_attempt_98 : decode cX3_attempt 98 = .ok (.iload 7, 2) := by decide +kernel
theorem dX3_attempt_100 : decode cX3_attempt 100 = .ok (.iadd, 1) := by decide +kernel
theorem dX3_attempt_101 : decode cX3_attempt 101 = .ok (.putfield 22, 3) := by decide +kernel
theorem dX3_attempt_104 : decode cX3_attempt 104 = .ok (.iconst 5, 1) := by decide +kernel
theorem dX3_attempt_105 : decode cX3_attempt 105 = .ok (.aload_n 0, 1) := by decide +kernel
theorem dX3_attempt_106 : decode cX3_attempt 106 = .ok (.getfield 58, 3) := by decide +kernel
theorem dX3_attempt_109 : decode cX3_attempt 109 = .ok (.imul, 1) := by decide +kernel
theorem dX3_attempt_110 : decode cX3_attempt 110 = .ok (.istore 9, 2) := by decide +kernel
theorem dX3_attempt_112 : decode cX3_attempt 112 = .ok (.aload_n 0, 1) := by decide +kernel
theorem dX3_attempt_113 : decode cX3_attempt 113 = .ok (.getfield 26, 3) := by decide +kernel
theorem dX3_attempt_116 : decode cX3_attempt 116 = .ok (.iload 9, 2) := by decide +kernel
theorem dX3_attempt_118 : decode cX3_attempt 118 = .ok (.iload_n 1, 1) := by decide +kernel
theorem dX3_attempt_119 : decode cX3_attempt 119 = .ok (.iastore, 1) := by decide +kernel
theorem dX3_attempt_120 : decode cX3_attempt 120 = .ok (.aload_n 0, 1) := by decide +kernel
theorem dX3_attempt_121 : decode cX3_attempt 121 = .ok (.getfield 26, 3) := by decide +kernel
theorem dX3_attempt_124 : decode cX3_attempt 124 = .ok (.iload 9, 2) := by decide +kernel
theorem dX3_attempt_126 : decode cX3_attempt 126 = .ok (.iconst 1, 1) := by decide +kernel
theorem dX3_attempt_127 : decode cX3_attempt 127 = .ok (.iadd, 1) := by decide +kernel
theorem dX3_attempt_128 : decode cX3_attempt 128 = .ok (.iload_n 2, 1) := by decide +kernel
theorem dX3_attempt_129 : decode cX3_attempt 129 = .ok (.iastore, 1) := by decide +kernel
theorem dX3_attempt_130 : decode cX3_attempt 130 = .ok (.aload_n 0, 1) := by decide +kernel
theorem dX3_attempt_131 : decode cX3_attempt 131 = .ok (.getfield 26, 3) := by decide +kernel
theorem dX3_attempt_134 : decode cX3_attempt 134 = .ok (.iload 9, 2) := by decide +kernel
theorem dX3_attempt_136 : decode cX3_attempt 136 = .ok (.iconst 2, 1) := by decide +kernel
theorem dX3_attempt_137 : decode cX3_attempt 137 = .ok (.iadd, 1) := by decide +kernel
theorem dX3_attempt_138 : decode cX3_attempt 138 = .ok (.iload_n 3, 1) := by decide +kernel
theorem dX3_attempt_139 : decode cX3_attempt 139 = .ok (.iastore, 1) := by decide +kernel
theorem dX3_attempt_140 : decode cX3_attempt 140 = .ok (.aload_n 0, 1) := by decide +kernel
theorem dX3_attempt_141 : decode cX3_attempt 141 = .ok (.getfield 26, 3) := by decide +kernel
theorem dX3_attempt_144 : decode cX3_attempt 144 = .ok (.iload 9, 2) := by decide +kernel
theorem dX3_attempt_146 : decode cX3_attempt 146 = .ok (.iconst 3, 1) := by decide +kernel
theorem dX3_attempt_147 : decode cX3_attempt 147 = .ok (.iadd, 1) := by decide +kernel
theorem dX3_attempt_148 : decode cX3_attempt 148 = .ok (.iload 4, 2) := by decide +kernel
theorem dX3_attempt_150 : decode cX3_attempt 150 = .ok (.iastore, 1) := by decide +kernel
theorem dX3_attempt_151 : decode cX3_attempt 151 = .ok (.aload_n 0, 1) := by decide +kernel
theorem dX3_attempt_152 : decode cX3_attempt 152 = .ok (.getfield 26, 3) := by decide +kernel
theorem dX3_attempt_155 : decode cX3_attempt 155 = .ok (.iload 9, 2) := by decide +kernel
theorem dX3_attempt_157 : decode cX3_attempt 157 = .ok (.iconst 4, 1) := by decide +kernel
theorem dX3_attempt_158 : decode cX3_attempt 158 = .ok (.iadd, 1) := by decide +kernel
theorem dX3_attempt_159 : decode cX3_attempt 159 = .ok (.iload 5, 2) := by decide +kernel
theorem dX3_attempt_161 : decode cX3_attempt 161 = .ok (.iastore, 1) := by decide +kernel
theorem dX3_attempt_162 : decode cX3_attempt 162 = .ok (.aload_n 0, 1) := by decide +kernel
theorem dX3_attempt_163 : decode cX3_attempt 163 = .ok (.dup, 1) := by decide +kernel
theorem dX3_attempt_164 : decode cX3_attempt 164 = .ok (.getfield 58, 3) := by decide +kernel
theorem dX3_attempt_167 : decode cX3_attempt 167 = .ok (.iconst 1, 1) := by decide +kernel
theorem dX3_attempt_168 : decode cX3_attempt 168 = .ok (.iadd, 1) := by decide +kernel
theorem dX3_attempt_169 : decode cX3_attempt 169 = .ok (.putfield 58, 3) := by decide +kernel
theorem dX3_attempt_172 : decode cX3_attempt 172 = .ok (.iload 8, 2) := by decide +kernel
theorem dX3_attempt_174 : decode cX3_attempt 174 = .ok (.ireturn, 1) := by decide +kernel
theorem dX3_create_0 : decode cX3_create 0 = .ok (.iload_n 1, 1) := by decide +kernel
theorem dX3_create_1 : decode cX3_create 1 = .ok (.bipush 16, 2) := by decide +kernel
theorem dX3_create_3 : decode cX3_create 3 = .ok (.invokestatic 78, 3) := by decide +kernel
theorem dX3_create_6 : decode cX3_create 6 = .ok (.ifCond .ne 12, 3) := by decide +kernel
theorem dX3_create_9 : decode cX3_create 9 = .ok (.iload_n 2, 1) := by decide +kernel
theorem dX3_create_10 : decode cX3_create 10 = .ok (.bipush 32, 2) := by decide +kernel
theorem dX3_create_12 : decode cX3_create 12 = .ok (.invokestatic 78, 3) := by decide +kernel
theorem dX3_create_15 : decode cX3_create 15 = .ok (.ifCond .eq 5, 3) := by decide +kernel
theorem dX3_create_18 : decode cX3_create 18 = .ok (.iconst (-1), 1) := by decide +kernel
theorem dX3_create_19 : decode cX3_create 19 = .ok (.ireturn, 1) := by decide +kernel
theorem dX3_create_20 : decode cX3_create 20 = .ok (.aload_n 0, 1) := by decide +kernel
theorem dX3_create_21 : decode cX3_create 21 = .ok (.iconst 0, 1) := by decide +kernel
theorem dX3_create_22 : decode cX3_create 22 = .ok (.iload_n 1, 1) := by decide +kernel
theorem dX3_create_23 : decode cX3_create 23 = .ok (.iload_n 2, 1) := by decide +kernel
theorem dX3_create_24 : decode cX3_create 24 = .ok (.iload_n 3, 1) := by decide +kernel
theorem dX3_create_25 : decode cX3_create 25 = .ok (.ifCond .eq 7, 3) := by decide +kernel
theorem dX3_create_28 : decode cX3_create 28 = .ok (.iconst 2, 1) := by decide +kernel
theorem dX3_create_29 : decode cX3_create 29 = .ok (.goto 4, 3) := by decide +kernel
theorem dX3_create_32 : decode cX3_create 32 = .ok (.iconst 1, 1) := by decide +kernel
theorem dX3_create_33 : decode cX3_create 33 = .ok (.iconst 0, 1) := by decide +kernel
theorem dX3_create_34 : decode cX3_create 34 = .ok (.invokevirtual 81, 3) := by decide +kernel
theorem dX3_create_37 : decode cX3_create 37 = .ok (.ireturn, 1) := by decide +kernel
theorem dX3_link_0 : decode cX3_link 0 = .ok (.iload_n 1, 1) := by decide +kernel
theorem dX3_link_1 : decode cX3_link 1 = .ok (.bipush 16, 2) := by decide +kernel
theorem dX3_link_3 : decode cX3_link 3 = .ok (.invokestatic 78, 3) := by decide +kernel
theorem dX3_link_6 : decode cX3_link 6 = .ok (.ifCond .ne 21, 3) := by decide +kernel
theorem dX3_link_9 : decode cX3_link 9 = .ok (.iload_n 2, 1) := by decide +kernel
theorem dX3_link_10 : decode cX3_link 10 = .ok (.bipush 32, 2) := by decide +kernel
theorem dX3_link_12 : decode cX3_link 12 = .ok (.invokestatic 78, 3) := by decide +kernel
theorem dX3_link_15 : decode cX3_link 15 = .ok (.ifCond .ne 12, 3) := by decide +kernel
theorem dX3_link_18 : decode cX3_link 18 = .ok (.iload_n 3, 1) := by decide +kernel
theorem dX3_link_19 : decode cX3_link 19 = .ok (.bipush 16, 2) := by decide +kernel
theorem dX3_link_21 : decode cX3_link 21 = .ok (.invokestatic 78, 3) := by decide +kernel
theorem dX3_link_24 : decode cX3_link 24 = .ok (.ifCond .eq 5, 3) := by decide +kernel
theorem dX3_link_27 : decode cX3_link 27 = .ok (.iconst (-1), 1) := by decide +kernel
theorem dX3_link_28 : decode cX3_link 28 = .ok (.ireturn, 1) := by decide +kernel
theorem dX3_link_29 : decode cX3_link 29 = .ok (.aload_n 0, 1) := by decide +kernel
theorem dX3_link_30 : decode cX3_link 30 = .ok (.iconst 1, 1) := by decide +kernel
theorem dX3_link_31 : decode cX3_link 31 = .ok (.iload_n 1, 1) := by decide +kernel
theorem dX3_link_32 : decode cX3_link 32 = .ok (.iload_n 2, 1) := by decide +kernel
theorem dX3_link_33 : decode cX3_link 33 = .ok (.iload_n 3, 1) := by decide +kernel
theorem dX3_link_34 : decode cX3_link 34 = .ok (.iconst 0, 1) := by decide +kernel
theorem dX3_link_35 : decode cX3_link 35 = .ok (.invokevirtual 81, 3) := by decide +kernel
theorem dX3_link_38 : decode cX3_link 38 = .ok (.ireturn, 1) := by decide +kernel
theorem dX3_remove_0 : decode cX3_remove 0 = .ok (.iload_n 1, 1) := by decide +kernel
theorem dX3_remove_1 : decode cX3_remove 1 = .ok (.bipush 16, 2) := by decide +kernel
theorem dX3_remove_3 : decode cX3_remove 3 = .ok (.invokestatic 78, 3) := by decide +kernel
theorem dX3_remove_6 : decode cX3_remove 6 = .ok (.ifCond .ne 12, 3) := by decide +kernel
theorem dX3_remove_9 : decode cX3_remove 9 = .ok (.iload_n 2, 1) := by decide +kernel
theorem dX3_remove_10 : decode cX3_remove 10 = .ok (.bipush 32, 2) := by decide +kernel
theorem dX3_remove_12 : decode cX3_remove 12 = .ok (.invokestatic 78, 3) := by decide +kernel
theorem dX3_remove_15 : decode cX3_remove 15 = .ok (.ifCond .eq 5, 3) := by decide +kernel
theorem dX3_remove_18 : decode cX3_remove 18 = .ok (.iconst (-1), 1) := by decide +kernel
theorem dX3_remove_19 : decode cX3_remove 19 = .ok (.ireturn, 1) := by decide +kernel
theorem dX3_remove_20 : decode cX3_remove 20 = .ok (.aload_n 0, 1) := by decide +kernel
theorem dX3_remove_21 : decode cX3_remove 21 = .ok (.iconst 2, 1) := by decide +kernel
theorem dX3_remove_22 : decode cX3_remove 22 = .ok (.iload_n 1, 1) := by decide +kernel
theorem dX3_remove_23 : decode cX3_remove 23 = .ok (.iload_n 2, 1) := by decide +kernel
theorem dX3_remove_24 : decode cX3_remove 24 = .ok (.iconst 0, 1) := by decide +kernel
theorem dX3_remove_25 : decode cX3_remove 25 = .ok (.iconst 0, 1) := by decide +kernel
theorem dX3_remove_26 : decode cX3_remove 26 = .ok (.invokevirtual 81, 3) := by decide +kernel
theorem dX3_remove_29 : decode cX3_remove 29 = .ok (.ireturn, 1) := by decide +kernel
theorem dX3_rename_0 : decode cX3_rename 0 = .ok (.iload_n 1, 1) := by decide +kernel
theorem dX3_rename_1 : decode cX3_rename 1 = .ok (.bipush 16, 2) := by decide +kernel
theorem dX3_rename_3 : decode cX3_rename 3 = .ok (.invokestatic 78, 3) := by decide +kernel
theorem dX3_rename_6 : decode cX3_rename 6 = .ok (.ifCond .ne 31, 3) := by decide +kernel
theorem dX3_rename_9 : decode cX3_rename 9 = .ok (.iload_n 2, 1) := by decide +kernel
theorem dX3_rename_10 : decode cX3_rename 10 = .ok (.bipush 32, 2) := by decide +kernel
theorem dX3_rename_12 : decode cX3_rename 12 = .ok (.invokestatic 78, 3) := by decide +kernel
theorem dX3_rename_15 : decode cX3_rename 15 = .ok (.ifCond .ne 22, 3) := by decide +kernel
theorem dX3_rename_18 : decode cX3_rename 18 = .ok (.iload_n 3, 1) := by decide +kernel
theorem dX3_rename_19 : decode cX3_rename 19 = .ok (.bipush 16, 2) := by decide +kernel
theorem dX3_rename_21 : decode cX3_rename 21 = .ok (.invokestatic 78, 3) := by decide +kernel
theorem dX3_rename_24 : decode cX3_rename 24 = .ok (.ifCond .ne 13, 3) := by decide +kernel
theorem dX3_rename_27 : decode cX3_rename 27 = .ok (.iload 4, 2) := by decide +kernel
theorem dX3_rename_29 : decode cX3_rename 29 = .ok (.bipush 32, 2) := by decide +kernel
theorem dX3_rename_31 : decode cX3_rename 31 = .ok (.invokestatic 78, 3) := by decide +kernel
theorem dX3_rename_34 : decode cX3_rename 34 = .ok (.ifCond .eq 5, 3) := by decide +kernel
theorem dX3_rename_37 : decode cX3_rename 37 = .ok (.iconst (-1), 1) := by decide +kernel
theorem dX3_rename_38 : decode cX3_rename 38 = .ok (.ireturn, 1) := by decide +kernel
theorem dX3_rename_39 : decode cX3_rename 39 = .ok (.aload_n 0, 1) := by decide +kernel
theorem dX3_rename_40 : decode cX3_rename 40 = .ok (.iconst 3, 1) := by decide +kernel
theorem dX3_rename_41 : decode cX3_rename 41 = .ok (.iload_n 1, 1) := by decide +kernel
theorem dX3_rename_42 : decode cX3_rename 42 = .ok (.iload_n 2, 1) := by decide +kernel
theorem dX3_rename_43 : decode cX3_rename 43 = .ok (.iload_n 3, 1) := by decide +kernel
theorem dX3_rename_44 : decode cX3_rename 44 = .ok (.iload 4, 2) := by decide +kernel
theorem dX3_rename_46 : decode cX3_rename 46 = .ok (.invokevirtual 81, 3) := by decide +kernel
theorem dX3_rename_49 : decode cX3_rename 49 = .ok (.ireturn, 1) := by decide +kernel
theorem dX3_write_0 : decode cX3_write 0 = .ok (.iload_n 1, 1) := by decide +kernel
theorem dX3_write_1 : decode cX3_write 1 = .ok (.bipush 16, 2) := by decide +kernel
theorem dX3_write_3 : decode cX3_write 3 = .ok (.invokestatic 78, 3) := by decide +kernel
theorem dX3_write_6 : decode cX3_write 6 = .ok (.ifCond .ne 12, 3) := by decide +kernel
theorem dX3_write_9 : decode cX3_write 9 = .ok (.iload_n 2, 1) := by decide +kernel
theorem dX3_write_10 : decode cX3_write 10 = .ok (.bipush 8, 2) := by decide +kernel
theorem dX3_write_12 : decode cX3_write 12 = .ok (.invokestatic 78, 3) := by decide +kernel
theorem dX3_write_15 : decode cX3_write 15 = .ok (.ifCond .eq 5, 3) := by decide +kernel
theorem dX3_write_18 : decode cX3_write 18 = .ok (.iconst (-1), 1) := by decide +kernel
theorem dX3_write_19 : decode cX3_write 19 = .ok (.ireturn, 1) := by decide +kernel
theorem dX3_write_20 : decode cX3_write 20 = .ok (.aload_n 0, 1) := by decide +kernel
theorem dX3_write_21 : decode cX3_write 21 = .ok (.iconst 4, 1) := by decide +kernel
theorem dX3_write_22 : decode cX3_write 22 = .ok (.iload_n 1, 1) := by decide +kernel
theorem dX3_write_23 : decode cX3_write 23 = .ok (.iload_n 2, 1) := by decide +kernel
theorem dX3_write_24 : decode cX3_write 24 = .ok (.iload_n 3, 1) := by decide +kernel
theorem dX3_write_25 : decode cX3_write 25 = .ok (.iconst 0, 1) := by decide +kernel
theorem dX3_write_26 : decode cX3_write 26 = .ok (.invokevirtual 81, 3) := by decide +kernel
theorem dX3_write_29 : decode cX3_write 29 = .ok (.ireturn, 1) := by decide +kernel
theorem dX3_cut_0 : decode cX3_cut 0 = .ok (.iload_n 1, 1) := by decide +kernel
theorem dX3_cut_1 : decode cX3_cut 1 = .ok (.bipush 16, 2) := by decide +kernel
theorem dX3_cut_3 : decode cX3_cut 3 = .ok (.invokestatic 78, 3) := by decide +kernel
theorem dX3_cut_6 : decode cX3_cut 6 = .ok (.ifCond .ne 12, 3) := by decide +kernel
theorem dX3_cut_9 : decode cX3_cut 9 = .ok (.iload_n 2, 1) := by decide +kernel
theorem dX3_cut_10 : decode cX3_cut 10 = .ok (.bipush 9, 2) := by decide +kernel
theorem dX3_cut_12 : decode cX3_cut 12 = .ok (.invokestatic 78, 3) := by decide +kernel
theorem dX3_cut_15 : decode cX3_cut 15 = .ok (.ifCond .eq 5, 3) := by decide +kernel
theorem dX3_cut_18 : decode cX3_cut 18 = .ok (.iconst (-1), 1) := by decide +kernel
theorem dX3_cut_19 : decode cX3_cut 19 = .ok (.ireturn, 1) := by decide +kernel
theorem dX3_cut_20 : decode cX3_cut 20 = .ok (.aload_n 0, 1) := by decide +kernel
theorem dX3_cut_21 : decode cX3_cut 21 = .ok (.iconst 5, 1) := by decide +kernel
theorem dX3_cut_22 : decode cX3_cut 22 = .ok (.iload_n 1, 1) := by decide +kernel
theorem dX3_cut_23 : decode cX3_cut 23 = .ok (.iload_n 2, 1) := by decide +kernel
theorem dX3_cut_24 : decode cX3_cut 24 = .ok (.iconst 0, 1) := by decide +kernel
theorem dX3_cut_25 : decode cX3_cut 25 = .ok (.iconst 0, 1) := by decide +kernel
theorem dX3_cut_26 : decode cX3_cut 26 = .ok (.invokevirtual 81, 3) := by decide +kernel
theorem dX3_cut_29 : decode cX3_cut 29 = .ok (.ireturn, 1) := by decide +kernel
theorem dX3_sync_0 : decode cX3_sync 0 = .ok (.aload_n 0, 1) := by decide +kernel
theorem dX3_sync_1 : decode cX3_sync 1 = .ok (.invokevirtual 84, 3) := by decide +kernel
theorem dX3_sync_4 : decode cX3_sync 4 = .ok (.aload_n 0, 1) := by decide +kernel
theorem dX3_sync_5 : decode cX3_sync 5 = .ok (.dup, 1) := by decide +kernel
theorem dX3_sync_6 : decode cX3_sync 6 = .ok (.getfield 87, 3) := by decide +kernel
theorem dX3_sync_9 : decode cX3_sync 9 = .ok (.iconst 1, 1) := by decide +kernel
theorem dX3_sync_10 : decode cX3_sync 10 = .ok (.iadd, 1) := by decide +kernel
theorem dX3_sync_11 : decode cX3_sync 11 = .ok (.putfield 87, 3) := by decide +kernel
theorem dX3_sync_14 : decode cX3_sync 14 = .ok (.aload_n 0, 1) := by decide +kernel
theorem dX3_sync_15 : decode cX3_sync 15 = .ok (.getfield 22, 3) := by decide +kernel
theorem dX3_sync_18 : decode cX3_sync 18 = .ok (.ireturn, 1) := by decide +kernel
theorem dX3_crash_0 : decode cX3_crash 0 = .ok (.iload_n 1, 1) := by decide +kernel
theorem dX3_crash_1 : decode cX3_crash 1 = .ok (.ifCond .ge 7, 3) := by decide +kernel
theorem dX3_crash_4 : decode cX3_crash 4 = .ok (.iconst 0, 1) := by decide +kernel
theorem dX3_crash_5 : decode cX3_crash 5 = .ok (.goto 19, 3) := by decide +kernel
theorem dX3_crash_8 : decode cX3_crash 8 = .ok (.iload_n 1, 1) := by decide +kernel
theorem dX3_crash_9 : decode cX3_crash 9 = .ok (.aload_n 0, 1) := by decide +kernel
theorem dX3_crash_10 : decode cX3_crash 10 = .ok (.getfield 58, 3) := by decide +kernel
theorem dX3_crash_13 : decode cX3_crash 13 = .ok (.if_icmp .le 10, 3) := by decide +kernel
theorem dX3_crash_16 : decode cX3_crash 16 = .ok (.aload_n 0, 1) := by decide +kernel
theorem dX3_crash_17 : decode cX3_crash 17 = .ok (.getfield 58, 3) := by decide +kernel
theorem dX3_crash_20 : decode cX3_crash 20 = .ok (.goto 4, 3) := by decide +kernel
theorem dX3_crash_23 : decode cX3_crash 23 = .ok (.iload_n 1, 1) := by decide +kernel
theorem dX3_crash_24 : decode cX3_crash 24 = .ok (.istore_n 2, 1) := by decide +kernel
theorem dX3_crash_25 : decode cX3_crash 25 = .ok (.aload_n 0, 1) := by decide +kernel
theorem dX3_crash_26 : decode cX3_crash 26 = .ok (.iconst 1, 1) := by decide +kernel
theorem dX3_crash_27 : decode cX3_crash 27 = .ok (.iconst 0, 1) := by decide +kernel
theorem dX3_crash_28 : decode cX3_crash 28 = .ok (.invokevirtual 32, 3) := by decide +kernel
theorem dX3_crash_31 : decode cX3_crash 31 = .ok (.iconst 0, 1) := by decide +kernel
theorem dX3_crash_32 : decode cX3_crash 32 = .ok (.istore_n 3, 1) := by decide +kernel
theorem dX3_crash_33 : decode cX3_crash 33 = .ok (.iload_n 3, 1) := by decide +kernel
theorem dX3_crash_34 : decode cX3_crash 34 = .ok (.iload_n 2, 1) := by decide +kernel
theorem dX3_crash_35 : decode cX3_crash 35 = .ok (.if_icmp .ge 62, 3) := by decide +kernel
theorem dX3_crash_38 : decode cX3_crash 38 = .ok (.aload_n 0, 1) := by decide +kernel
theorem dX3_crash_39 : decode cX3_crash 39 = .ok (.aload_n 0, 1) := by decide +kernel
theorem dX3_crash_40 : decode cX3_crash 40 = .ok (.getfield 26, 3) := by decide +kernel
theorem dX3_crash_43 : decode cX3_crash 43 = .ok (.iconst 5, 1) := by decide +kernel
theorem dX3_crash_44 : decode cX3_crash 44 = .ok (.iload_n 3, 1) := by decide +kernel
theorem dX3_crash_45 : decode cX3_crash 45 = .ok (.imul, 1) := by decide +kernel
theorem dX3_crash_46 : decode cX3_crash 46 = .ok (.iaload, 1) := by decide +kernel
theorem dX3_crash_47 : decode cX3_crash 47 = .ok (.aload_n 0, 1) := by decide +kernel
theorem dX3_crash_48 : decode cX3_crash 48 = .ok (.getfield 26, 3) := by decide +kernel
theorem dX3_crash_51 : decode cX3_crash 51 = .ok (.iconst 5, 1) := by decide +kernel
theorem dX3_crash_52 : decode cX3_crash 52 = .ok (.iload_n 3, 1) := by decide +kernel
theorem dX3_crash_53 : decode cX3_crash 53 = .ok (.imul, 1) := by decide +kernel
theorem dX3_crash_54 : decode cX3_crash 54 = .ok (.iconst 1, 1) := by decide +kernel
theorem dX3_crash_55 : decode cX3_crash 55 = .ok (.iadd, 1) := by decide +kernel
theorem dX3_crash_56 : decode cX3_crash 56 = .ok (.iaload, 1) := by decide +kernel
theorem dX3_crash_57 : decode cX3_crash 57 = .ok (.aload_n 0, 1) := by decide +kernel
theorem dX3_crash_58 : decode cX3_crash 58 = .ok (.getfield 26, 3) := by decide +kernel
theorem dX3_crash_61 : decode cX3_crash 61 = .ok (.iconst 5, 1) := by decide +kernel
theorem dX3_crash_62 : decode cX3_crash 62 = .ok (.iload_n 3, 1) := by decide +kernel
theorem dX3_crash_63 : decode cX3_crash 63 = .ok (.imul, 1) := by decide +kernel
theorem dX3_crash_64 : decode cX3_crash 64 = .ok (.iconst 2, 1) := by decide +kernel
theorem dX3_crash_65 : decode cX3_crash 65 = .ok (.iadd, 1) := by decide +kernel
theorem dX3_crash_66 : decode cX3_crash 66 = .ok (.iaload, 1) := by decide +kernel
theorem dX3_crash_67 : decode cX3_crash 67 = .ok (.aload_n 0, 1) := by decide +kernel
theorem dX3_crash_68 : decode cX3_crash 68 = .ok (.getfield 26, 3) := by decide +kernel
theorem dX3_crash_71 : decode cX3_crash 71 = .ok (.iconst 5, 1) := by decide +kernel
theorem dX3_crash_72 : decode cX3_crash 72 = .ok (.iload_n 3, 1) := by decide +kernel
theorem dX3_crash_73 : decode cX3_crash 73 = .ok (.imul, 1) := by decide +kernel
theorem dX3_crash_74 : decode cX3_crash 74 = .ok (.iconst 3, 1) := by decide +kernel
theorem dX3_crash_75 : decode cX3_crash 75 = .ok (.iadd, 1) := by decide +kernel
theorem dX3_crash_76 : decode cX3_crash 76 = .ok (.iaload, 1) := by decide +kernel
theorem dX3_crash_77 : decode cX3_crash 77 = .ok (.aload_n 0, 1) := by decide +kernel
theorem dX3_crash_78 : decode cX3_crash 78 = .ok (.getfield 26, 3) := by decide +kernel
theorem dX3_crash_81 : decode cX3_crash 81 = .ok (.iconst 5, 1) := by decide +kernel
theorem dX3_crash_82 : decode cX3_crash 82 = .ok (.iload_n 3, 1) := by decide +kernel
theorem dX3_crash_83 : decode cX3_crash 83 = .ok (.imul, 1) := by decide +kernel
theorem dX3_crash_84 : decode cX3_crash 84 = .ok (.iconst 4, 1) := by decide +kernel
theorem dX3_crash_85 : decode cX3_crash 85 = .ok (.iadd, 1) := by decide +kernel
theorem dX3_crash_86 : decode cX3_crash 86 = .ok (.iaload, 1) := by decide +kernel
theorem dX3_crash_87 : decode cX3_crash 87 = .ok (.invokevirtual 75, 3) := by decide +kernel
theorem dX3_crash_90 : decode cX3_crash 90 = .ok (.pop, 1) := by decide +kernel
theorem dX3_crash_91 : decode cX3_crash 91 = .ok (.iinc 3 1, 3) := by decide +kernel
theorem dX3_crash_94 : decode cX3_crash 94 = .ok (.goto (-61), 3) := by decide +kernel
theorem dX3_crash_97 : decode cX3_crash 97 = .ok (.aload_n 0, 1) := by decide +kernel
theorem dX3_crash_98 : decode cX3_crash 98 = .ok (.invokevirtual 84, 3) := by decide +kernel
theorem dX3_crash_101 : decode cX3_crash 101 = .ok (.iload_n 2, 1) := by decide +kernel
theorem dX3_crash_102 : decode cX3_crash 102 = .ok (.ireturn, 1) := by decide +kernel
theorem dX3_find_0 : decode cX3_find 0 = .ok (.iload_n 1, 1) := by decide +kernel
theorem dX3_find_1 : decode cX3_find 1 = .ok (.bipush 16, 2) := by decide +kernel
theorem dX3_find_3 : decode cX3_find 3 = .ok (.invokestatic 78, 3) := by decide +kernel
theorem dX3_find_6 : decode cX3_find 6 = .ok (.ifCond .ne 12, 3) := by decide +kernel
theorem dX3_find_9 : decode cX3_find 9 = .ok (.iload_n 2, 1) := by decide +kernel
theorem dX3_find_10 : decode cX3_find 10 = .ok (.bipush 32, 2) := by decide +kernel
theorem dX3_find_12 : decode cX3_find 12 = .ok (.invokestatic 78, 3) := by decide +kernel
theorem dX3_find_15 : decode cX3_find 15 = .ok (.ifCond .eq 5, 3) := by decide +kernel
theorem dX3_find_18 : decode cX3_find 18 = .ok (.iconst (-1), 1) := by decide +kernel
theorem dX3_find_19 : decode cX3_find 19 = .ok (.ireturn, 1) := by decide +kernel
theorem dX3_find_20 : decode cX3_find 20 = .ok (.aload_n 0, 1) := by decide +kernel
theorem dX3_find_21 : decode cX3_find 21 = .ok (.iload_n 1, 1) := by decide +kernel
theorem dX3_find_22 : decode cX3_find 22 = .ok (.invokevirtual 36, 3) := by decide +kernel
theorem dX3_find_25 : decode cX3_find 25 = .ok (.ifCond .eq 31, 3) := by decide +kernel
theorem dX3_find_28 : decode cX3_find 28 = .ok (.aload_n 0, 1) := by decide +kernel
theorem dX3_find_29 : decode cX3_find 29 = .ok (.getfield 19, 3) := by decide +kernel
theorem dX3_find_32 : decode cX3_find 32 = .ok (.bipush 32, 2) := by decide +kernel
theorem dX3_find_34 : decode cX3_find 34 = .ok (.iload_n 1, 1) := by decide +kernel
theorem dX3_find_35 : decode cX3_find 35 = .ok (.imul, 1) := by decide +kernel
theorem dX3_find_36 : decode cX3_find 36 = .ok (.iload_n 2, 1) := by decide +kernel
theorem dX3_find_37 : decode cX3_find 37 = .ok (.iadd, 1) := by decide +kernel
theorem dX3_find_38 : decode cX3_find 38 = .ok (.iaload, 1) := by decide +kernel
theorem dX3_find_39 : decode cX3_find 39 = .ok (.ifCond .lt 17, 3) := by decide +kernel
theorem dX3_find_42 : decode cX3_find 42 = .ok (.aload_n 0, 1) := by decide +kernel
theorem dX3_find_43 : decode cX3_find 43 = .ok (.getfield 19, 3) := by decide +kernel
theorem dX3_find_46 : decode cX3_find 46 = .ok (.bipush 32, 2) := by decide +kernel
theorem dX3_find_48 : decode cX3_find 48 = .ok (.iload_n 1, 1) := by decide +kernel
theorem dX3_find_49 : decode cX3_find 49 = .ok (.imul, 1) := by decide +kernel
theorem dX3_find_50 : decode cX3_find 50 = .ok (.iload_n 2, 1) := by decide +kernel
theorem dX3_find_51 : decode cX3_find 51 = .ok (.iadd, 1) := by decide +kernel
theorem dX3_find_52 : decode cX3_find 52 = .ok (.iaload, 1) := by decide +kernel
theorem dX3_find_53 : decode cX3_find 53 = .ok (.goto 5, 3) := by decide +kernel
theorem dX3_find_56 : decode cX3_find 56 = .ok (.bipush (-2), 2) := by decide +kernel
theorem dX3_find_58 : decode cX3_find 58 = .ok (.ireturn, 1) := by decide +kernel
theorem dX3_entry_0 : decode cX3_entry 0 = .ok (.iload_n 1, 1) := by decide +kernel
theorem dX3_entry_1 : decode cX3_entry 1 = .ok (.bipush 16, 2) := by decide +kernel
theorem dX3_entry_3 : decode cX3_entry 3 = .ok (.invokestatic 78, 3) := by decide +kernel
theorem dX3_entry_6 : decode cX3_entry 6 = .ok (.ifCond .eq 5, 3) := by decide +kernel
theorem dX3_entry_9 : decode cX3_entry 9 = .ok (.iconst (-1), 1) := by decide +kernel
theorem dX3_entry_10 : decode cX3_entry 10 = .ok (.ireturn, 1) := by decide +kernel
theorem dX3_entry_11 : decode cX3_entry 11 = .ok (.aload_n 0, 1) := by decide +kernel
theorem dX3_entry_12 : decode cX3_entry 12 = .ok (.iload_n 1, 1) := by decide +kernel
theorem dX3_entry_13 : decode cX3_entry 13 = .ok (.invokevirtual 36, 3) := by decide +kernel
theorem dX3_entry_16 : decode cX3_entry 16 = .ok (.ifCond .ne 6, 3) := by decide +kernel
theorem dX3_entry_19 : decode cX3_entry 19 = .ok (.bipush (-2), 2) := by decide +kernel
theorem dX3_entry_21 : decode cX3_entry 21 = .ok (.ireturn, 1) := by decide +kernel
theorem dX3_entry_22 : decode cX3_entry 22 = .ok (.iconst 0, 1) := by decide +kernel
theorem dX3_entry_23 : decode cX3_entry 23 = .ok (.istore_n 3, 1) := by decide +kernel
theorem dX3_entry_24 : decode cX3_entry 24 = .ok (.iconst 0, 1) := by decide +kernel
theorem dX3_entry_25 : decode cX3_entry 25 = .ok (.istore 4, 2) := by decide +kernel
theorem dX3_entry_27 : decode cX3_entry 27 = .ok (.iload 4, 2) := by decide +kernel
theorem dX3_entry_29 : decode cX3_entry 29 = .ok (.bipush 32, 2) := by decide +kernel
theorem dX3_entry_31 : decode cX3_entry 31 = .ok (.if_icmp .ge 38, 3) := by decide +kernel
theorem dX3_entry_34 : decode cX3_entry 34 = .ok (.aload_n 0, 1) := by decide +kernel
theorem dX3_entry_35 : decode cX3_entry 35 = .ok (.getfield 19, 3) := by decide +kernel
theorem dX3_entry_38 : decode cX3_entry 38 = .ok (.bipush 32, 2) := by decide +kernel
theorem dX3_entry_40 : decode cX3_entry 40 = .ok (.iload_n 1, 1) := by decide +kernel
theorem dX3_entry_41 : decode cX3_entry 41 = .ok (.imul, 1) := by decide +kernel
theorem dX3_entry_42 : decode cX3_entry 42 = .ok (.iload 4, 2) := by decide +kernel
theorem dX3_entry_44 : decode cX3_entry 44 = .ok (.iadd, 1) := by decide +kernel
theorem dX3_entry_45 : decode cX3_entry 45 = .ok (.iaload, 1) := by decide +kernel
theorem dX3_entry_46 : decode cX3_entry 46 = .ok (.ifCond .ge 6, 3) := by decide +kernel
theorem dX3_entry_49 : decode cX3_entry 49 = .ok (.goto 14, 3) := by decide +kernel
theorem dX3_entry_52 : decode cX3_entry 52 = .ok (.iload_n 3, 1) := by decide +kernel
theorem dX3_entry_53 : decode cX3_entry 53 = .ok (.iload_n 2, 1) := by decide +kernel
theorem dX3_entry_54 : decode cX3_entry 54 = .ok (.if_icmp .ne 6, 3) := by decide +kernel
theorem dX3_entry_57 : decode cX3_entry 57 = .ok (.iload 4, 2) := by decide +kernel
theorem dX3_entry_59 : decode cX3_entry 59 = .ok (.ireturn, 1) := by decide +kernel
theorem dX3_entry_60 : decode cX3_entry 60 = .ok (.iinc 3 1, 3) := by decide +kernel
theorem dX3_entry_63 : decode cX3_entry 63 = .ok (.iinc 4 1, 3) := by decide +kernel
theorem dX3_entry_66 : decode cX3_entry 66 = .ok (.goto (-39), 3) := by decide +kernel
theorem dX3_entry_69 : decode cX3_entry 69 = .ok (.iconst (-1), 1) := by decide +kernel
theorem dX3_entry_70 : decode cX3_entry 70 = .ok (.ireturn, 1) := by decide +kernel
theorem dX3_read_0 : decode cX3_read 0 = .ok (.iload_n 1, 1) := by decide +kernel
theorem dX3_read_1 : decode cX3_read 1 = .ok (.bipush 16, 2) := by decide +kernel
theorem dX3_read_3 : decode cX3_read 3 = .ok (.invokestatic 78, 3) := by decide +kernel
theorem dX3_read_6 : decode cX3_read 6 = .ok (.ifCond .ne 26, 3) := by decide +kernel
theorem dX3_read_9 : decode cX3_read 9 = .ok (.aload_n 0, 1) := by decide +kernel
theorem dX3_read_10 : decode cX3_read 10 = .ok (.getfield 7, 3) := by decide +kernel
theorem dX3_read_13 : decode cX3_read 13 = .ok (.iload_n 1, 1) := by decide +kernel
theorem dX3_read_14 : decode cX3_read 14 = .ok (.iaload, 1) := by decide +kernel
theorem dX3_read_15 : decode cX3_read 15 = .ok (.iconst 1, 1) := by decide +kernel
theorem dX3_read_16 : decode cX3_read 16 = .ok (.if_icmp .ne 16, 3) := by decide +kernel
theorem dX3_read_19 : decode cX3_read 19 = .ok (.iload_n 2, 1) := by decide +kernel
theorem dX3_read_20 : decode cX3_read 20 = .ok (.aload_n 0, 1) := by decide +kernel
theorem dX3_read_21 : decode cX3_read 21 = .ok (.getfield 13, 3) := by decide +kernel
theorem dX3_read_24 : decode cX3_read 24 = .ok (.iload_n 1, 1) := by decide +kernel
theorem dX3_read_25 : decode cX3_read 25 = .ok (.iaload, 1) := by decide +kernel
theorem dX3_read_26 : decode cX3_read 26 = .ok (.invokestatic 78, 3) := by decide +kernel
theorem dX3_read_29 : decode cX3_read 29 = .ok (.ifCond .eq 7, 3) := by decide +kernel
theorem dX3_read_32 : decode cX3_read 32 = .ok (.ldc2_w 90, 3) := by decide +kernel
theorem dX3_read_35 : decode cX3_read 35 = .ok (.lreturn, 1) := by decide +kernel
theorem dX3_read_36 : decode cX3_read 36 = .ok (.aload_n 0, 1) := by decide +kernel
theorem dX3_read_37 : decode cX3_read 37 = .ok (.getfield 16, 3) := by decide +kernel
theorem dX3_read_40 : decode cX3_read 40 = .ok (.bipush 8, 2) := by decide +kernel
theorem dX3_read_42 : decode cX3_read 42 = .ok (.iload_n 1, 1) := by decide +kernel
theorem dX3_read_43 : decode cX3_read 43 = .ok (.imul, 1) := by decide +kernel
theorem dX3_read_44 : decode cX3_read 44 = .ok (.iload_n 2, 1) := by decide +kernel
theorem dX3_read_45 : decode cX3_read 45 = .ok (.iadd, 1) := by decide +kernel
theorem dX3_read_46 : decode cX3_read 46 = .ok (.iaload, 1) := by decide +kernel
theorem dX3_read_47 : decode cX3_read 47 = .ok (.i2l, 1) := by decide +kernel
theorem dX3_read_48 : decode cX3_read 48 = .ok (.lreturn, 1) := by decide +kernel
theorem dX3_tell_0 : decode cX3_tell 0 = .ok (.iload_n 1, 1) := by decide +kernel
theorem dX3_tell_1 : decode cX3_tell 1 = .ok (.bipush 16, 2) := by decide +kernel
theorem dX3_tell_3 : decode cX3_tell 3 = .ok (.invokestatic 78, 3) := by decide +kernel
theorem dX3_tell_6 : decode cX3_tell 6 = .ok (.ifCond .ne 11, 3) := by decide +kernel
theorem dX3_tell_9 : decode cX3_tell 9 = .ok (.iload_n 2, 1) := by decide +kernel
theorem dX3_tell_10 : decode cX3_tell 10 = .ok (.iconst 3, 1) := by decide +kernel
theorem dX3_tell_11 : decode cX3_tell 11 = .ok (.invokestatic 78, 3) := by decide +kernel
theorem dX3_tell_14 : decode cX3_tell 14 = .ok (.ifCond .eq 5, 3) := by decide +kernel
theorem dX3_tell_17 : decode cX3_tell 17 = .ok (.iconst (-1), 1) := by decide +kernel
theorem dX3_tell_18 : decode cX3_tell 18 = .ok (.ireturn, 1) := by decide +kernel
theorem dX3_tell_19 : decode cX3_tell 19 = .ok (.iload_n 2, 1) := by decide +kernel
theorem dX3_tell_20 : decode cX3_tell 20 = .ok (.ifCond .ne 10, 3) := by decide +kernel
theorem dX3_tell_23 : decode cX3_tell 23 = .ok (.aload_n 0, 1) := by decide +kernel
theorem dX3_tell_24 : decode cX3_tell 24 = .ok (.getfield 7, 3) := by decide +kernel
theorem dX3_tell_27 : decode cX3_tell 27 = .ok (.iload_n 1, 1) := by decide +kernel
theorem dX3_tell_28 : decode cX3_tell 28 = .ok (.iaload, 1) := by decide +kernel
theorem dX3_tell_29 : decode cX3_tell 29 = .ok (.ireturn, 1) := by decide +kernel
theorem dX3_tell_30 : decode cX3_tell 30 = .ok (.aload_n 0, 1) := by decide +kernel
theorem dX3_tell_31 : decode cX3_tell 31 = .ok (.getfield 7, 3) := by decide +kernel
theorem dX3_tell_34 : decode cX3_tell 34 = .ok (.iload_n 1, 1) := by decide +kernel
theorem dX3_tell_35 : decode cX3_tell 35 = .ok (.iaload, 1) := by decide +kernel
theorem dX3_tell_36 : decode cX3_tell 36 = .ok (.ifCond .ne 6, 3) := by decide +kernel
theorem dX3_tell_39 : decode cX3_tell 39 = .ok (.bipush (-2), 2) := by decide +kernel
theorem dX3_tell_41 : decode cX3_tell 41 = .ok (.ireturn, 1) := by decide +kernel
theorem dX3_tell_42 : decode cX3_tell 42 = .ok (.iload_n 2, 1) := by decide +kernel
theorem dX3_tell_43 : decode cX3_tell 43 = .ok (.iconst 1, 1) := by decide +kernel
theorem dX3_tell_44 : decode cX3_tell 44 = .ok (.if_icmp .ne 26, 3) := by decide +kernel
theorem dX3_tell_47 : decode cX3_tell 47 = .ok (.aload_n 0, 1) := by decide +kernel
theorem dX3_tell_48 : decode cX3_tell 48 = .ok (.iload_n 1, 1) := by decide +kernel
theorem dX3_tell_49 : decode cX3_tell 49 = .ok (.invokevirtual 36, 3) := by decide +kernel
theorem dX3_tell_52 : decode cX3_tell 52 = .ok (.ifCond .eq 11, 3) := by decide +kernel
theorem dX3_tell_55 : decode cX3_tell 55 = .ok (.aload_n 0, 1) := by decide +kernel
theorem dX3_tell_56 : decode cX3_tell 56 = .ok (.iload_n 1, 1) := by decide +kernel
theorem dX3_tell_57 : decode cX3_tell 57 = .ok (.invokevirtual 40, 3) := by decide +kernel
theorem dX3_tell_60 : decode cX3_tell 60 = .ok (.goto 9, 3) := by decide +kernel
theorem dX3_tell_63 : decode cX3_tell 63 = .ok (.aload_n 0, 1) := by decide +kernel
theorem dX3_tell_64 : decode cX3_tell 64 = .ok (.getfield 13, 3) := by decide +kernel
theorem dX3_tell_67 : decode cX3_tell 67 = .ok (.iload_n 1, 1) := by decide +kernel
theorem dX3_tell_68 : decode cX3_tell 68 = .ok (.iaload, 1) := by decide +kernel
theorem dX3_tell_69 : decode cX3_tell 69 = .ok (.ireturn, 1) := by decide +kernel
theorem dX3_tell_70 : decode cX3_tell 70 = .ok (.aload_n 0, 1) := by decide +kernel
theorem dX3_tell_71 : decode cX3_tell 71 = .ok (.iload_n 1, 1) := by decide +kernel
theorem dX3_tell_72 : decode cX3_tell 72 = .ok (.invokevirtual 52, 3) := by decide +kernel
theorem dX3_tell_75 : decode cX3_tell 75 = .ok (.ireturn, 1) := by decide +kernel
theorem dX3_count_0 : decode cX3_count 0 = .ok (.iload_n 1, 1) := by decide +kernel
theorem dX3_count_1 : decode cX3_count 1 = .ok (.tableswitch 69 0 5 #[39, 44, 49, 54, 59, 64], 39) := by decide +kernel
theorem dX3_count_40 : decode cX3_count 40 = .ok (.aload_n 0, 1) := by decide +kernel
theorem dX3_count_41 : decode cX3_count 41 = .ok (.invokevirtual 61, 3) := by decide +kernel
theorem dX3_count_44 : decode cX3_count 44 = .ok (.ireturn, 1) := by decide +kernel
theorem dX3_count_45 : decode cX3_count 45 = .ok (.aload_n 0, 1) := by decide +kernel
theorem dX3_count_46 : decode cX3_count 46 = .ok (.getfield 22, 3) := by decide +kernel
theorem dX3_count_49 : decode cX3_count 49 = .ok (.ireturn, 1) := by decide +kernel
theorem dX3_count_50 : decode cX3_count 50 = .ok (.aload_n 0, 1) := by decide +kernel
theorem dX3_count_51 : decode cX3_count 51 = .ok (.getfield 58, 3) := by decide +kernel
theorem dX3_count_54 : decode cX3_count 54 = .ok (.ireturn, 1) := by decide +kernel
theorem dX3_count_55 : decode cX3_count 55 = .ok (.aload_n 0, 1) := by decide +kernel
theorem dX3_count_56 : decode cX3_count 56 = .ok (.getfield 87, 3) := by decide +kernel
theorem dX3_count_59 : decode cX3_count 59 = .ok (.ireturn, 1) := by decide +kernel
theorem dX3_count_60 : decode cX3_count 60 = .ok (.aload_n 0, 1) := by decide +kernel
theorem dX3_count_61 : decode cX3_count 61 = .ok (.invokevirtual 44, 3) := by decide +kernel
theorem dX3_count_64 : decode cX3_count 64 = .ok (.ireturn, 1) := by decide +kernel
theorem dX3_count_65 : decode cX3_count 65 = .ok (.aload_n 0, 1) := by decide +kernel
theorem dX3_count_66 : decode cX3_count 66 = .ok (.getfield 29, 3) := by decide +kernel
theorem dX3_count_69 : decode cX3_count 69 = .ok (.ireturn, 1) := by decide +kernel
theorem dX3_count_70 : decode cX3_count 70 = .ok (.iconst (-1), 1) := by decide +kernel
theorem dX3_count_71 : decode cX3_count 71 = .ok (.ireturn, 1) := by decide +kernel
