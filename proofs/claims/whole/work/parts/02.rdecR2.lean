theorem dX12_slips_6 : decode cX12_slips 6 = .ok (.getfield 7, 3) := by decide +kernel
theorem dX12_slips_9 : decode cX12_slips 9 = .ok (.iconst 1, 1) := by decide +kernel
theorem dX12_slips_10 : decode cX12_slips 10 = .ok (.iaload, 1) := by decide +kernel
theorem dX12_slips_11 : decode cX12_slips 11 = .ok (.if_icmp .ge 59, 3) := by decide +kernel
theorem dX12_slips_14 : decode cX12_slips 14 = .ok (.iload_n 2, 1) := by decide +kernel
theorem dX12_slips_15 : decode cX12_slips 15 = .ok (.ifCond .ne 43, 3) := by decide +kernel
theorem dX12_slips_18 : decode cX12_slips 18 = .ok (.aload_n 0, 1) := by decide +kernel
theorem dX12_slips_19 : decode cX12_slips 19 = .ok (.getfield 7, 3) := by decide +kernel
theorem dX12_slips_22 : decode cX12_slips 22 = .ok (.aload_n 0, 1) := by decide +kernel
theorem dX12_slips_23 : decode cX12_slips 23 = .ok (.iload_n 3, 1) := by decide +kernel
theorem dX12_slips_24 : decode cX12_slips 24 = .ok (.invokevirtual 93, 3) := by decide +kernel
theorem dX12_slips_27 : decode cX12_slips 27 = .ok (.iconst 1, 1) := by decide +kernel
theorem dX12_slips_28 : decode cX12_slips 28 = .ok (.iadd, 1) := by decide +kernel
theorem dX12_slips_29 : decode cX12_slips 29 = .ok (.iaload, 1) := by decide +kernel
theorem dX12_slips_30 : decode cX12_slips 30 = .ok (.iload_n 1, 1) := by decide +kernel
theorem dX12_slips_31 : decode cX12_slips 31 = .ok (.if_icmp .ne 31, 3) := by decide +kernel
theorem dX12_slips_34 : decode cX12_slips 34 = .ok (.aload_n 0, 1) := by decide +kernel
theorem dX12_slips_35 : decode cX12_slips 35 = .ok (.iload_n 3, 1) := by decide +kernel
theorem dX12_slips_36 : decode cX12_slips 36 = .ok (.invokevirtual 114, 3) := by decide +kernel
theorem dX12_slips_39 : decode cX12_slips 39 = .ok (.iconst 1, 1) := by decide +kernel
theorem dX12_slips_40 : decode cX12_slips 40 = .ok (.if_icmp .ne 22, 3) := by decide +kernel
theorem dX12_slips_43 : decode cX12_slips 43 = .ok (.aload_n 0, 1) := by decide +kernel
theorem dX12_slips_44 : decode cX12_slips 44 = .ok (.getfield 7, 3) := by decide +kernel
theorem dX12_slips_47 : decode cX12_slips 47 = .ok (.aload_n 0, 1) := by decide +kernel
theorem dX12_slips_48 : decode cX12_slips 48 = .ok (.iload_n 3, 1) := by decide +kernel
theorem dX12_slips_49 : decode cX12_slips 49 = .ok (.invokevirtual 93, 3) := by decide +kernel
theorem dX12_slips_52 : decode cX12_slips 52 = .ok (.iconst 3, 1) := by decide +kernel
theorem dX12_slips_53 : decode cX12_slips 53 = .ok (.iadd, 1) := by decide +kernel
theorem dX12_slips_54 : decode cX12_slips 54 = .ok (.iaload, 1) := by decide +kernel
theorem dX12_slips_55 : decode cX12_slips 55 = .ok (.ifCond .le 7, 3) := by decide +kernel
theorem dX12_slips_58 : decode cX12_slips 58 = .ok (.iconst 1, 1) := by decide +kernel
theorem dX12_slips_59 : decode cX12_slips 59 = .ok (.goto 4, 3) := by decide +kernel
theorem dX12_slips_62 : decode cX12_slips 62 = .ok (.iconst 0, 1) := by decide +kernel
theorem dX12_slips_63 : decode cX12_slips 63 = .ok (.istore_n 2, 1) := by decide +kernel
theorem dX12_slips_64 : decode cX12_slips 64 = .ok (.iinc 3 1, 3) := by decide +kernel
theorem dX12_slips_67 : decode cX12_slips 67 = .ok (.goto (-63), 3) := by decide +kernel
theorem dX12_slips_70 : decode cX12_slips 70 = .ok (.aload_n 0, 1) := by decide +kernel
theorem dX12_slips_71 : decode cX12_slips 71 = .ok (.aload_n 0, 1) := by decide +kernel
theorem dX12_slips_72 : decode cX12_slips 72 = .ok (.getfield 7, 3) := by decide +kernel
theorem dX12_slips_75 : decode cX12_slips 75 = .ok (.bipush 8, 2) := by decide +kernel
theorem dX12_slips_77 : decode cX12_slips 77 = .ok (.iaload, 1) := by decide +kernel
theorem dX12_slips_78 : decode cX12_slips 78 = .ok (.invokevirtual 162, 3) := by decide +kernel
theorem dX12_slips_81 : decode cX12_slips 81 = .ok (.aload_n 0, 1) := by decide +kernel
theorem dX12_slips_82 : decode cX12_slips 82 = .ok (.getfield 7, 3) := by decide +kernel
theorem dX12_slips_85 : decode cX12_slips 85 = .ok (.aload_n 0, 1) := by decide +kernel
theorem dX12_slips_86 : decode cX12_slips 86 = .ok (.iload_n 1, 1) := by decide +kernel
theorem dX12_slips_87 : decode cX12_slips 87 = .ok (.invokevirtual 84, 3) := by decide +kernel
theorem dX12_slips_90 : decode cX12_slips 90 = .ok (.iconst 2, 1) := by decide +kernel
theorem dX12_slips_91 : decode cX12_slips 91 = .ok (.iadd, 1) := by decide +kernel
theorem dX12_slips_92 : decode cX12_slips 92 = .ok (.iaload, 1) := by decide +kernel
theorem dX12_slips_93 : decode cX12_slips 93 = .ok (.iconst 2, 1) := by decide +kernel
theorem dX12_slips_94 : decode cX12_slips 94 = .ok (.if_icmp .ne 7, 3) := by decide +kernel
theorem dX12_slips_97 : decode cX12_slips 97 = .ok (.iconst 4, 1) := by decide +kernel
theorem dX12_slips_98 : decode cX12_slips 98 = .ok (.goto 5, 3) := by decide +kernel
theorem dX12_slips_101 : decode cX12_slips 101 = .ok (.bipush 6, 2) := by decide +kernel
theorem dX12_slips_103 : decode cX12_slips 103 = .ok (.if_icmp .le 7, 3) := by decide +kernel
theorem dX12_slips_106 : decode cX12_slips 106 = .ok (.iconst 1, 1) := by decide +kernel
theorem dX12_slips_107 : decode cX12_slips 107 = .ok (.goto 4, 3) := by decide +kernel
theorem dX12_slips_110 : decode cX12_slips 110 = .ok (.iconst 0, 1) := by decide +kernel
theorem dX12_slips_111 : decode cX12_slips 111 = .ok (.istore_n 3, 1) := by decide +kernel
theorem dX12_slips_112 : decode cX12_slips 112 = .ok (.iload_n 2, 1) := by decide +kernel
theorem dX12_slips_113 : decode cX12_slips 113 = .ok (.ifCond .eq 39, 3) := by decide +kernel
theorem dX12_slips_116 : decode cX12_slips 116 = .ok (.iload_n 3, 1) := by decide +kernel
theorem dX12_slips_117 : decode cX12_slips 117 = .ok (.ifCond .eq 35, 3) := by decide +kernel
theorem dX12_slips_120 : decode cX12_slips 120 = .ok (.aload_n 0, 1) := by decide +kernel
theorem dX12_slips_121 : decode cX12_slips 121 = .ok (.iload_n 1, 1) := by decide +kernel
theorem dX12_slips_122 : decode cX12_slips 122 = .ok (.invokevirtual 184, 3) := by decide +kernel
theorem dX12_slips_125 : decode cX12_slips 125 = .ok (.ifCond .eq 27, 3) := by decide +kernel
theorem dX12_slips_128 : decode cX12_slips 128 = .ok (.aload_n 0, 1) := by decide +kernel
theorem dX12_slips_129 : decode cX12_slips 129 = .ok (.getfield 7, 3) := by decide +kernel
theorem dX12_slips_132 : decode cX12_slips 132 = .ok (.iconst 1, 1) := by decide +kernel
theorem dX12_slips_133 : decode cX12_slips 133 = .ok (.iaload, 1) := by decide +kernel
theorem dX12_slips_134 : decode cX12_slips 134 = .ok (.bipush 24, 2) := by decide +kernel
theorem dX12_slips_136 : decode cX12_slips 136 = .ok (.if_icmp .ge 16, 3) := by decide +kernel
theorem dX12_slips_139 : decode cX12_slips 139 = .ok (.aload_n 0, 1) := by decide +kernel
theorem dX12_slips_140 : decode cX12_slips 140 = .ok (.iconst 5, 1) := by decide +kernel
theorem dX12_slips_141 : decode cX12_slips 141 = .ok (.iload_n 1, 1) := by decide +kernel
theorem dX12_slips_142 : decode cX12_slips 142 = .ok (.aload_n 0, 1) := by decide +kernel
theorem dX12_slips_143 : decode cX12_slips 143 = .ok (.iload_n 1, 1) := by decide +kernel
theorem dX12_slips_144 : decode cX12_slips 144 = .ok (.invokevirtual 117, 3) := by decide +kernel
theorem dX12_slips_147 : decode cX12_slips 147 = .ok (.invokevirtual 150, 3) := by decide +kernel
theorem dX12_slips_150 : decode cX12_slips 150 = .ok (.istore 4, 2) := by decide +kernel
theorem dX12_slips_152 : decode cX12_slips 152 = .ok (.return_, 1) := by decide +kernel
theorem dX12_duesOn_0 : decode cX12_duesOn 0 = .ok (.iconst 0, 1) := by decide +kernel
theorem dX12_duesOn_1 : decode cX12_duesOn 1 = .ok (.istore_n 2, 1) := by decide +kernel
theorem dX12_duesOn_2 : decode cX12_duesOn 2 = .ok (.iconst 0, 1) := by decide +kernel
theorem dX12_duesOn_3 : decode cX12_duesOn 3 = .ok (.istore_n 3, 1) := by decide +kernel
theorem dX12_duesOn_4 : decode cX12_duesOn 4 = .ok (.iload_n 3, 1) := by decide +kernel
theorem dX12_duesOn_5 : decode cX12_duesOn 5 = .ok (.aload_n 0, 1) := by decide +kernel
theorem dX12_duesOn_6 : decode cX12_duesOn 6 = .ok (.getfield 7, 3) := by decide +kernel
theorem dX12_duesOn_9 : decode cX12_duesOn 9 = .ok (.iconst 5, 1) := by decide +kernel
theorem dX12_duesOn_10 : decode cX12_duesOn 10 = .ok (.iaload, 1) := by decide +kernel
theorem dX12_duesOn_11 : decode cX12_duesOn 11 = .ok (.if_icmp .ge 46, 3) := by decide +kernel
theorem dX12_duesOn_14 : decode cX12_duesOn 14 = .ok (.iload_n 2, 1) := by decide +kernel
theorem dX12_duesOn_15 : decode cX12_duesOn 15 = .ok (.aload_n 0, 1) := by decide +kernel
theorem dX12_duesOn_16 : decode cX12_duesOn 16 = .ok (.getfield 7, 3) := by decide +kernel
theorem dX12_duesOn_19 : decode cX12_duesOn 19 = .ok (.sipush 440, 3) := by decide +kernel
theorem dX12_duesOn_22 : decode cX12_duesOn 22 = .ok (.iconst 2, 1) := by decide +kernel
theorem dX12_duesOn_23 : decode cX12_duesOn 23 = .ok (.iload_n 3, 1) := by decide +kernel
theorem dX12_duesOn_24 : decode cX12_duesOn 24 = .ok (.imul, 1) := by decide +kernel
theorem dX12_duesOn_25 : decode cX12_duesOn 25 = .ok (.iadd, 1) := by decide +kernel
theorem dX12_duesOn_26 : decode cX12_duesOn 26 = .ok (.iaload, 1) := by decide +kernel
theorem dX12_duesOn_27 : decode cX12_duesOn 27 = .ok (.iload_n 1, 1) := by decide +kernel
theorem dX12_duesOn_28 : decode cX12_duesOn 28 = .ok (.if_icmp .ne 20, 3) := by decide +kernel
theorem dX12_duesOn_31 : decode cX12_duesOn 31 = .ok (.aload_n 0, 1) := by decide +kernel
theorem dX12_duesOn_32 : decode cX12_duesOn 32 = .ok (.getfield 7, 3) := by decide +kernel
theorem dX12_duesOn_35 : decode cX12_duesOn 35 = .ok (.sipush 440, 3) := by decide +kernel
theorem dX12_duesOn_38 : decode cX12_duesOn 38 = .ok (.iconst 2, 1) := by decide +kernel
theorem dX12_duesOn_39 : decode cX12_duesOn 39 = .ok (.iload_n 3, 1) := by decide +kernel
theorem dX12_duesOn_40 : decode cX12_duesOn 40 = .ok (.imul, 1) := by decide +kernel
theorem dX12_duesOn_41 : decode cX12_duesOn 41 = .ok (.iadd, 1) := by decide +kernel
theorem dX12_duesOn_42 : decode cX12_duesOn 42 = .ok (.iconst 1, 1) := by decide +kernel
theorem dX12_duesOn_43 : decode cX12_duesOn 43 = .ok (.iadd, 1) := by decide +kernel
theorem dX12_duesOn_44 : decode cX12_duesOn 44 = .ok (.iaload, 1) := by decide +kernel
theorem dX12_duesOn_45 : decode cX12_duesOn 45 = .ok (.goto 4, 3) := by decide +kernel
theorem dX12_duesOn_48 : decode cX12_duesOn 48 = .ok (.iconst 0, 1) := by decide +kernel
theorem dX12_duesOn_49 : decode cX12_duesOn 49 = .ok (.iadd, 1) := by decide +kernel
theorem dX12_duesOn_50 : decode cX12_duesOn 50 = .ok (.istore_n 2, 1) := by decide +kernel
theorem dX12_duesOn_51 : decode cX12_duesOn 51 = .ok (.iinc 3 1, 3) := by decide +kernel
theorem dX12_duesOn_54 : decode cX12_duesOn 54 = .ok (.goto (-50), 3) := by decide +kernel
theorem dX12_duesOn_57 : decode cX12_duesOn 57 = .ok (.iload_n 2, 1) := by decide +kernel
theorem dX12_duesOn_58 : decode cX12_duesOn 58 = .ok (.ireturn, 1) := by decide +kernel
theorem dX12_pays_0 : decode cX12_pays 0 = .ok (.aload_n 0, 1) := by decide +kernel
theorem dX12_pays_1 : decode cX12_pays 1 = .ok (.iload_n 1, 1) := by decide +kernel
theorem dX12_pays_2 : decode cX12_pays 2 = .ok (.invokevirtual 93, 3) := by decide +kernel
theorem dX12_pays_5 : decode cX12_pays 5 = .ok (.istore_n 2, 1) := by decide +kernel
theorem dX12_pays_6 : decode cX12_pays 6 = .ok (.aload_n 0, 1) := by decide +kernel
theorem dX12_pays_7 : decode cX12_pays 7 = .ok (.iload_n 1, 1) := by decide +kernel
theorem dX12_pays_8 : decode cX12_pays 8 = .ok (.invokevirtual 171, 3) := by decide +kernel
theorem dX12_pays_11 : decode cX12_pays 11 = .ok (.aload_n 0, 1) := by decide +kernel
theorem dX12_pays_12 : decode cX12_pays 12 = .ok (.getfield 7, 3) := by decide +kernel
theorem dX12_pays_15 : decode cX12_pays 15 = .ok (.iload_n 2, 1) := by decide +kernel
theorem dX12_pays_16 : decode cX12_pays 16 = .ok (.bipush 9, 2) := by decide +kernel
theorem dX12_pays_18 : decode cX12_pays 18 = .ok (.iadd, 1) := by decide +kernel
theorem dX12_pays_19 : decode cX12_pays 19 = .ok (.iaload, 1) := by decide +kernel
theorem dX12_pays_20 : decode cX12_pays 20 = .ok (.isub, 1) := by decide +kernel
theorem dX12_pays_21 : decode cX12_pays 21 = .ok (.istore_n 3, 1) := by decide +kernel
theorem dX12_pays_22 : decode cX12_pays 22 = .ok (.iload_n 3, 1) := by decide +kernel
theorem dX12_pays_23 : decode cX12_pays 23 = .ok (.ifCond .le 80, 3) := by decide +kernel
theorem dX12_pays_26 : decode cX12_pays 26 = .ok (.iload_n 3, 1) := by decide +kernel
theorem dX12_pays_27 : decode cX12_pays 27 = .ok (.aload_n 0, 1) := by decide +kernel
theorem dX12_pays_28 : decode cX12_pays 28 = .ok (.iload_n 1, 1) := by decide +kernel
theorem dX12_pays_29 : decode cX12_pays 29 = .ok (.invokevirtual 190, 3) := by decide +kernel
theorem dX12_pays_32 : decode cX12_pays 32 = .ok (.imul, 1) := by decide +kernel
theorem dX12_pays_33 : decode cX12_pays 33 = .ok (.istore 4, 2) := by decide +kernel
theorem dX12_pays_35 : decode cX12_pays 35 = .ok (.iload 4, 2) := by decide +kernel
theorem dX12_pays_37 : decode cX12_pays 37 = .ok (.aload_n 0, 1) := by decide +kernel
theorem dX12_pays_38 : decode cX12_pays 38 = .ok (.iconst 1, 1) := by decide +kernel
theorem dX12_pays_39 : decode cX12_pays 39 = .ok (.aload_n 0, 1) := by decide +kernel
theorem dX12_pays_40 : decode cX12_pays 40 = .ok (.getfield 7, 3) := by decide +kernel
theorem dX12_pays_43 : decode cX12_pays 43 = .ok (.iload_n 2, 1) := by decide +kernel
theorem dX12_pays_44 : decode cX12_pays 44 = .ok (.iaload, 1) := by decide +kernel
theorem dX12_pays_45 : decode cX12_pays 45 = .ok (.aload_n 0, 1) := by decide +kernel
theorem dX12_pays_46 : decode cX12_pays 46 = .ok (.getfield 7, 3) := by decide +kernel
theorem dX12_pays_49 : decode cX12_pays 49 = .ok (.iload_n 2, 1) := by decide +kernel
theorem dX12_pays_50 : decode cX12_pays 50 = .ok (.iconst 2, 1) := by decide +kernel
theorem dX12_pays_51 : decode cX12_pays 51 = .ok (.iadd, 1) := by decide +kernel
theorem dX12_pays_52 : decode cX12_pays 52 = .ok (.iaload, 1) := by decide +kernel
theorem dX12_pays_53 : decode cX12_pays 53 = .ok (.iconst 0, 1) := by decide +kernel
theorem dX12_pays_54 : decode cX12_pays 54 = .ok (.invokevirtual 193, 3) := by decide +kernel
theorem dX12_pays_57 : decode cX12_pays 57 = .ok (.imul, 1) := by decide +kernel
theorem dX12_pays_58 : decode cX12_pays 58 = .ok (.bipush 100, 2) := by decide +kernel
theorem dX12_pays_60 : decode cX12_pays 60 = .ok (.idiv, 1) := by decide +kernel
theorem dX12_pays_61 : decode cX12_pays 61 = .ok (.istore 5, 2) := by decide +kernel
theorem dX12_pays_63 : decode cX12_pays 63 = .ok (.aload_n 0, 1) := by decide +kernel
theorem dX12_pays_64 : decode cX12_pays 64 = .ok (.getfield 7, 3) := by decide +kernel
theorem dX12_pays_67 : decode cX12_pays 67 = .ok (.bipush 9, 2) := by decide +kernel
theorem dX12_pays_69 : decode cX12_pays 69 = .ok (.dup2, 1) := by decide +kernel
theorem dX12_pays_70 : decode cX12_pays 70 = .ok (.iaload, 1) := by decide +kernel
theorem dX12_pays_71 : decode cX12_pays 71 = .ok (.iload 4, 2) := by decide +kernel
theorem dX12_pays_73 : decode cX12_pays 73 = .ok (.iload 5, 2) := by decide +kernel
theorem dX12_pays_75 : decode cX12_pays 75 = .ok (.isub, 1) := by decide +kernel
theorem dX12_pays_76 : decode cX12_pays 76 = .ok (.isub, 1) := by decide +kernel
theorem dX12_pays_77 : decode cX12_pays 77 = .ok (.iastore, 1) := by decide +kernel
theorem dX12_pays_78 : decode cX12_pays 78 = .ok (.aload_n 0, 1) := by decide +kernel
theorem dX12_pays_79 : decode cX12_pays 79 = .ok (.getfield 7, 3) := by decide +kernel
theorem dX12_pays_82 : decode cX12_pays 82 = .ok (.bipush 10, 2) := by decide +kernel
theorem dX12_pays_84 : decode cX12_pays 84 = .ok (.dup2, 1) := by decide +kernel
theorem dX12_pays_85 : decode cX12_pays 85 = .ok (.iaload, 1) := by decide +kernel
theorem dX12_pays_86 : decode cX12_pays 86 = .ok (.iload 5, 2) := by decide +kernel
theorem dX12_pays_88 : decode cX12_pays 88 = .ok (.iadd, 1) := by decide +kernel
theorem dX12_pays_89 : decode cX12_pays 89 = .ok (.iastore, 1) := by decide +kernel
theorem dX12_pays_90 : decode cX12_pays 90 = .ok (.aload_n 0, 1) := by decide +kernel
theorem dX12_pays_91 : decode cX12_pays 91 = .ok (.getfield 7, 3) := by decide +kernel
theorem dX12_pays_94 : decode cX12_pays 94 = .ok (.iload_n 2, 1) := by decide +kernel
theorem dX12_pays_95 : decode cX12_pays 95 = .ok (.bipush 9, 2) := by decide +kernel
theorem dX12_pays_97 : decode cX12_pays 97 = .ok (.iadd, 1) := by decide +kernel
theorem dX12_pays_98 : decode cX12_pays 98 = .ok (.dup2, 1) := by decide +kernel
theorem dX12_pays_99 : decode cX12_pays 99 = .ok (.iaload, 1) := by decide +kernel
theorem dX12_pays_100 : decode cX12_pays 100 = .ok (.iload_n 3, 1) := by decide +kernel
theorem dX12_pays_101 : decode cX12_pays 101 = .ok (.iadd, 1) := by decide +kernel
theorem dX12_pays_102 : decode cX12_pays 102 = .ok (.iastore, 1) := by decide +kernel
theorem dX12_pays_103 : decode cX12_pays 103 = .ok (.return_, 1) := by decide +kernel
theorem dX12_oneDay_0 : decode cX12_oneDay 0 = .ok (.iconst 0, 1) := by decide +kernel
theorem dX12_oneDay_1 : decode cX12_oneDay 1 = .ok (.istore_n 1, 1) := by decide +kernel
theorem dX12_oneDay_2 : decode cX12_oneDay 2 = .ok (.iload_n 1, 1) := by decide +kernel
theorem dX12_oneDay_3 : decode cX12_oneDay 3 = .ok (.aload_n 0, 1) := by decide +kernel
theorem dX12_oneDay_4 : decode cX12_oneDay 4 = .ok (.getfield 7, 3) := by decide +kernel
theorem dX12_oneDay_7 : decode cX12_oneDay 7 = .ok (.iconst 2, 1) := by decide +kernel
theorem dX12_oneDay_8 : decode cX12_oneDay 8 = .ok (.iaload, 1) := by decide +kernel
theorem dX12_oneDay_9 : decode cX12_oneDay 9 = .ok (.if_icmp .ge 14, 3) := by decide +kernel
theorem dX12_oneDay_12 : decode cX12_oneDay 12 = .ok (.aload_n 0, 1) := by decide +kernel
theorem dX12_oneDay_13 : decode cX12_oneDay 13 = .ok (.iload_n 1, 1) := by decide +kernel
theorem dX12_oneDay_14 : decode cX12_oneDay 14 = .ok (.invokevirtual 197, 3) := by decide +kernel
theorem dX12_oneDay_17 : decode cX12_oneDay 17 = .ok (.iinc 1 1, 3) := by decide +kernel
theorem dX12_oneDay_20 : decode cX12_oneDay 20 = .ok (.goto (-18), 3) := by decide +kernel
theorem dX12_oneDay_23 : decode cX12_oneDay 23 = .ok (.iconst 0, 1) := by decide +kernel
theorem dX12_oneDay_24 : decode cX12_oneDay 24 = .ok (.istore_n 1, 1) := by decide +kernel
theorem dX12_oneDay_25 : decode cX12_oneDay 25 = .ok (.iload_n 1, 1) := by decide +kernel
theorem dX12_oneDay_26 : decode cX12_oneDay 26 = .ok (.aload_n 0, 1) := by decide +kernel
theorem dX12_oneDay_27 : decode cX12_oneDay 27 = .ok (.getfield 7, 3) := by decide +kernel
theorem dX12_oneDay_30 : decode cX12_oneDay 30 = .ok (.iconst 0, 1) := by decide +kernel
theorem dX12_oneDay_31 : decode cX12_oneDay 31 = .ok (.iaload, 1) := by decide +kernel
theorem dX12_oneDay_32 : decode cX12_oneDay 32 = .ok (.if_icmp .ge 14, 3) := by decide +kernel
theorem dX12_oneDay_35 : decode cX12_oneDay 35 = .ok (.aload_n 0, 1) := by decide +kernel
theorem dX12_oneDay_36 : decode cX12_oneDay 36 = .ok (.iload_n 1, 1) := by decide +kernel
theorem dX12_oneDay_37 : decode cX12_oneDay 37 = .ok (.invokevirtual 200, 3) := by decide +kernel
theorem dX12_oneDay_40 : decode cX12_oneDay 40 = .ok (.iinc 1 1, 3) := by decide +kernel
theorem dX12_oneDay_43 : decode cX12_oneDay 43 = .ok (.goto (-18), 3) := by decide +kernel
theorem dX12_oneDay_46 : decode cX12_oneDay 46 = .ok (.aload_n 0, 1) := by decide +kernel
theorem dX12_oneDay_47 : decode cX12_oneDay 47 = .ok (.getfield 7, 3) := by decide +kernel
theorem dX12_oneDay_50 : decode cX12_oneDay 50 = .ok (.bipush 9, 2) := by decide +kernel
theorem dX12_oneDay_52 : decode cX12_oneDay 52 = .ok (.dup2, 1) := by decide +kernel
theorem dX12_oneDay_53 : decode cX12_oneDay 53 = .ok (.iaload, 1) := by decide +kernel
theorem dX12_oneDay_54 : decode cX12_oneDay 54 = .ok (.aload_n 0, 1) := by decide +kernel
theorem dX12_oneDay_55 : decode cX12_oneDay 55 = .ok (.aload_n 0, 1) := by decide +kernel
theorem dX12_oneDay_56 : decode cX12_oneDay 56 = .ok (.getfield 7, 3) := by decide +kernel
theorem dX12_oneDay_59 : decode cX12_oneDay 59 = .ok (.bipush 8, 2) := by decide +kernel
theorem dX12_oneDay_61 : decode cX12_oneDay 61 = .ok (.iaload, 1) := by decide +kernel
theorem dX12_oneDay_62 : decode cX12_oneDay 62 = .ok (.invokevirtual 203, 3) := by decide +kernel
theorem dX12_oneDay_65 : decode cX12_oneDay 65 = .ok (.iadd, 1) := by decide +kernel
theorem dX12_oneDay_66 : decode cX12_oneDay 66 = .ok (.iastore, 1) := by decide +kernel
theorem dX12_oneDay_67 : decode cX12_oneDay 67 = .ok (.iconst 0, 1) := by decide +kernel
theorem dX12_oneDay_68 : decode cX12_oneDay 68 = .ok (.istore_n 1, 1) := by decide +kernel
theorem dX12_oneDay_69 : decode cX12_oneDay 69 = .ok (.iload_n 1, 1) := by decide +kernel
theorem dX12_oneDay_70 : decode cX12_oneDay 70 = .ok (.aload_n 0, 1) := by decide +kernel
theorem dX12_oneDay_71 : decode cX12_oneDay 71 = .ok (.getfield 7, 3) := by decide +kernel
theorem dX12_oneDay_74 : decode cX12_oneDay 74 = .ok (.iconst 1, 1) := by decide +kernel
theorem dX12_oneDay_75 : decode cX12_oneDay 75 = .ok (.iaload, 1) := by decide +kernel
theorem dX12_oneDay_76 : decode cX12_oneDay 76 = .ok (.if_icmp .ge 29, 3) := by decide +kernel
theorem dX12_oneDay_79 : decode cX12_oneDay 79 = .ok (.aload_n 0, 1) := by decide +kernel
theorem dX12_oneDay_80 : decode cX12_oneDay 80 = .ok (.getfield 7, 3) := by decide +kernel
theorem dX12_oneDay_83 : decode cX12_oneDay 83 = .ok (.bipush 8, 2) := by decide +kernel
theorem dX12_oneDay_85 : decode cX12_oneDay 85 = .ok (.iaload, 1) := by decide +kernel
theorem dX12_oneDay_86 : decode cX12_oneDay 86 = .ok (.iconst 1, 1) := by decide +kernel
theorem dX12_oneDay_87 : decode cX12_oneDay 87 = .ok (.iadd, 1) := by decide +kernel
theorem dX12_oneDay_88 : decode cX12_oneDay 88 = .ok (.bipush 28, 2) := by decide +kernel
theorem dX12_oneDay_90 : decode cX12_oneDay 90 = .ok (.irem, 1) := by decide +kernel
theorem dX12_oneDay_91 : decode cX12_oneDay 91 = .ok (.ifCond .ne 14, 3) := by decide +kernel
theorem dX12_oneDay_94 : decode cX12_oneDay 94 = .ok (.aload_n 0, 1) := by decide +kernel
theorem dX12_oneDay_95 : decode cX12_oneDay 95 = .ok (.iload_n 1, 1) := by decide +kernel
theorem dX12_oneDay_96 : decode cX12_oneDay 96 = .ok (.invokevirtual 206, 3) := by decide +kernel
theorem dX12_oneDay_99 : decode cX12_oneDay 99 = .ok (.iinc 1 1, 3) := by decide +kernel
theorem dX12_oneDay_102 : decode cX12_oneDay 102 = .ok (.goto (-33), 3) := by decide +kernel
theorem dX12_oneDay_105 : decode cX12_oneDay 105 = .ok (.aload_n 0, 1) := by decide +kernel
theorem dX12_oneDay_106 : decode cX12_oneDay 106 = .ok (.getfield 7, 3) := by decide +kernel
theorem dX12_oneDay_109 : decode cX12_oneDay 109 = .ok (.bipush 8, 2) := by decide +kernel
theorem dX12_oneDay_111 : decode cX12_oneDay 111 = .ok (.dup2, 1) := by decide +kernel
theorem dX12_oneDay_112 : decode cX12_oneDay 112 = .ok (.iaload, 1) := by decide +kernel
theorem dX12_oneDay_113 : decode cX12_oneDay 113 = .ok (.iconst 1, 1) := by decide +kernel
theorem dX12_oneDay_114 : decode cX12_oneDay 114 = .ok (.iadd, 1) := by decide +kernel
theorem dX12_oneDay_115 : decode cX12_oneDay 115 = .ok (.iastore, 1) := by decide +kernel
theorem dX12_oneDay_116 : decode cX12_oneDay 116 = .ok (.return_, 1) := by decide +kernel
theorem dX12_run_0 : decode cX12_run 0 = .ok (.iload_n 1, 1) := by decide +kernel
theorem dX12_run_1 : decode cX12_run 1 = .ok (.i2l, 1) := by decide +kernel
theorem dX12_run_2 : decode cX12_run 2 = .ok (.lconst 1, 1) := by decide +kernel
theorem dX12_run_3 : decode cX12_run 3 = .ok (.ldc2_w 209, 3) := by decide +kernel
theorem dX12_run_6 : decode cX12_run 6 = .ok (.invokestatic 89, 3) := by decide +kernel
theorem dX12_run_9 : decode cX12_run 9 = .ok (.ifCond .ne 6, 3) := by decide +kernel
theorem dX12_run_12 : decode cX12_run 12 = .ok (.ldc 100, 2) := by decide +kernel
theorem dX12_run_14 : decode cX12_run 14 = .ok (.ireturn, 1) := by decide +kernel
theorem dX12_run_15 : decode cX12_run 15 = .ok (.aload_n 0, 1) := by decide +kernel
theorem dX12_run_16 : decode cX12_run 16 = .ok (.getfield 7, 3) := by decide +kernel
theorem dX12_run_19 : decode cX12_run 19 = .ok (.bipush 8, 2) := by decide +kernel
theorem dX12_run_21 : decode cX12_run 21 = .ok (.iaload, 1) := by decide +kernel
theorem dX12_run_22 : decode cX12_run 22 = .ok (.iload_n 1, 1) := by decide +kernel
theorem dX12_run_23 : decode cX12_run 23 = .ok (.iadd, 1) := by decide +kernel
theorem dX12_run_24 : decode cX12_run 24 = .ok (.sipush 1999, 3) := by decide +kernel
theorem dX12_run_27 : decode cX12_run 27 = .ok (.if_icmp .le 6, 3) := by decide +kernel
theorem dX12_run_30 : decode cX12_run 30 = .ok (.ldc 149, 2) := by decide +kernel
theorem dX12_run_32 : decode cX12_run 32 = .ok (.ireturn, 1) := by decide +kernel
theorem dX12_run_33 : decode cX12_run 33 = .ok (.iconst 0, 1) := by decide +kernel
theorem dX12_run_34 : decode cX12_run 34 = .ok (.istore_n 2, 1) := by decide +kernel
theorem dX12_run_35 : decode cX12_run 35 = .ok (.iload_n 2, 1) := by decide +kernel
theorem dX12_run_36 : decode cX12_run 36 = .ok (.iload_n 1, 1) := by decide +kernel
theorem dX12_run_37 : decode cX12_run 37 = .ok (.if_icmp .ge 13, 3) := by decide +kernel
theorem dX12_run_40 : decode cX12_run 40 = .ok (.aload_n 0, 1) := by decide +kernel
theorem dX12_run_41 : decode cX12_run 41 = .ok (.invokevirtual 211, 3) := by decide +kernel
theorem dX12_run_44 : decode cX12_run 44 = .ok (.iinc 2 1, 3) := by decide +kernel
theorem dX12_run_47 : decode cX12_run 47 = .ok (.goto (-12), 3) := by decide +kernel
theorem dX12_run_50 : decode cX12_run 50 = .ok (.aload_n 0, 1) := by decide +kernel
theorem dX12_run_51 : decode cX12_run 51 = .ok (.getfield 7, 3) := by decide +kernel
theorem dX12_run_54 : decode cX12_run 54 = .ok (.bipush 8, 2) := by decide +kernel
theorem dX12_run_56 : decode cX12_run 56 = .ok (.iaload, 1) := by decide +kernel
theorem dX12_run_57 : decode cX12_run 57 = .ok (.ireturn, 1) := by decide +kernel
theorem dX12_feed_0 : decode cX12_feed 0 = .ok (.aload_n 0, 1) := by decide +kernel
theorem dX12_feed_1 : decode cX12_feed 1 = .ok (.getfield 214, 3) := by decide +kernel
theorem dX12_feed_4 : decode cX12_feed 4 = .ok (.bipush 12, 2) := by decide +kernel
theorem dX12_feed_6 : decode cX12_feed 6 = .ok (.iadd, 1) := by decide +kernel
theorem dX12_feed_7 : decode cX12_feed 7 = .ok (.bipush 96, 2) := by decide +kernel
theorem dX12_feed_9 : decode cX12_feed 9 = .ok (.if_icmp .le 6, 3) := by decide +kernel
theorem dX12_feed_12 : decode cX12_feed 12 = .ok (.ldc 149, 2) := by decide +kernel
theorem dX12_feed_14 : decode cX12_feed 14 = .ok (.ireturn, 1) := by decide +kernel
theorem dX12_feed_15 : decode cX12_feed 15 = .ok (.iconst 0, 1) := by decide +kernel
theorem dX12_feed_16 : decode cX12_feed 16 = .ok (.istore 4, 2) := by decide +kernel
theorem dX12_feed_18 : decode cX12_feed 18 = .ok (.iload 4, 2) := by decide +kernel
theorem dX12_feed_20 : decode cX12_feed 20 = .ok (.bipush 12, 2) := by decide +kernel
theorem dX12_feed_22 : decode cX12_feed 22 = .ok (.if_icmp .ge 69, 3) := by decide +kernel
theorem dX12_feed_25 : decode cX12_feed 25 = .ok (.iload 4, 2) := by decide +kernel
theorem dX12_feed_27 : decode cX12_feed 27 = .ok (.iconst 4, 1) := by decide +kernel
theorem dX12_feed_28 : decode cX12_feed 28 = .ok (.if_icmp .ge 7, 3) := by decide +kernel
theorem dX12_feed_31 : decode cX12_feed 31 = .ok (.iload_n 1, 1) := by decide +kernel
theorem dX12_feed_32 : decode cX12_feed 32 = .ok (.goto 15, 3) := by decide +kernel
theorem dX12_feed_35 : decode cX12_feed 35 = .ok (.iload 4, 2) := by decide +kernel
theorem dX12_feed_37 : decode cX12_feed 37 = .ok (.bipush 8, 2) := by decide +kernel
theorem dX12_feed_39 : decode cX12_feed 39 = .ok (.if_icmp .ge 7, 3) := by decide +kernel
theorem dX12_feed_42 : decode cX12_feed 42 = .ok (.iload_n 2, 1) := by decide +kernel
theorem dX12_feed_43 : decode cX12_feed 43 = .ok (.goto 4, 3) := by decide +kernel
theorem dX12_feed_46 : decode cX12_feed 46 = .ok (.iload_n 3, 1) := by decide +kernel
theorem dX12_feed_47 : decode cX12_feed 47 = .ok (.istore 5, 2) := by decide +kernel
theorem dX12_feed_49 : decode cX12_feed 49 = .ok (.aload_n 0, 1) := by decide +kernel
theorem dX12_feed_50 : decode cX12_feed 50 = .ok (.getfield 49, 3) := by decide +kernel
theorem dX12_feed_53 : decode cX12_feed 53 = .ok (.aload_n 0, 1) := by decide +kernel
theorem dX12_feed_54 : decode cX12_feed 54 = .ok (.getfield 214, 3) := by decide +kernel
theorem dX12_feed_57 : decode cX12_feed 57 = .ok (.iload 5, 2) := by decide +kernel
theorem dX12_feed_59 : decode cX12_feed 59 = .ok (.bipush 24, 2) := by decide +kernel
theorem dX12_feed_61 : decode cX12_feed 61 = .ok (.bipush 8, 2) := by decide +kernel
theorem dX12_feed_63 : decode cX12_feed 63 = .ok (.iload 4, 2) := by decide +kernel
theorem dX12_feed_65 : decode cX12_feed 65 = .ok (.iconst 4, 1) := by decide +kernel
theorem dX12_feed_66 : decode cX12_feed 66 = .ok (.irem, 1) := by decide +kernel
theorem dX12_feed_67 : decode cX12_feed 67 = .ok (.imul, 1) := by decide +kernel
theorem dX12_feed_68 : decode cX12_feed 68 = .ok (.isub, 1) := by decide +kernel
theorem dX12_feed_69 : decode cX12_feed 69 = .ok (.ishr, 1) := by decide +kernel
theorem dX12_feed_70 : decode cX12_feed 70 = .ok (.sipush 255, 3) := by decide +kernel
theorem dX12_feed_73 : decode cX12_feed 73 = .ok (.iand, 1) := by decide +kernel
theorem dX12_feed_74 : decode cX12_feed 74 = .ok (.iastore, 1) := by decide +kernel
theorem dX12_feed_75 : decode cX12_feed 75 = .ok (.aload_n 0, 1) := by decide +kernel
theorem dX12_feed_76 : decode cX12_feed 76 = .ok (.dup, 1) := by decide +kernel
theorem dX12_feed_77 : decode cX12_feed 77 = .ok (.getfield 214, 3) := by decide +kernel
theorem dX12_feed_80 : decode cX12_feed 80 = .ok (.iconst 1, 1) := by decide +kernel
theorem dX12_feed_81 : decode cX12_feed 81 = .ok (.iadd, 1) := by decide +kernel
theorem dX12_feed_82 : decode cX12_feed 82 = .ok (.putfield 214, 3) := by decide +kernel
theorem dX12_feed_85 : decode cX12_feed 85 = .ok (.iinc 4 1, 3) := by decide +kernel
theorem dX12_feed_88 : decode cX12_feed 88 = .ok (.goto (-70), 3) := by decide +kernel
theorem dX12_feed_91 : decode cX12_feed 91 = .ok (.aload_n 0, 1) := by decide +kernel
theorem dX12_feed_92 : decode cX12_feed 92 = .ok (.getfield 214, 3) := by decide +kernel
theorem dX12_feed_95 : decode cX12_feed 95 = .ok (.ireturn, 1) := by decide +kernel
theorem dX12_trim_0 : decode cX12_trim 0 = .ok (.iload_n 1, 1) := by decide +kernel
theorem dX12_trim_1 : decode cX12_trim 1 = .ok (.i2l, 1) := by decide +kernel
theorem dX12_trim_2 : decode cX12_trim 2 = .ok (.lconst 0, 1) := by decide +kernel
theorem dX12_trim_3 : decode cX12_trim 3 = .ok (.aload_n 0, 1) := by decide +kernel
theorem dX12_trim_4 : decode cX12_trim 4 = .ok (.getfield 214, 3) := by decide +kernel
theorem dX12_trim_7 : decode cX12_trim 7 = .ok (.i2l, 1) := by decide +kernel
theorem dX12_trim_8 : decode cX12_trim 8 = .ok (.invokestatic 89, 3) := by decide +kernel
theorem dX12_trim_11 : decode cX12_trim 11 = .ok (.ifCond .ne 6, 3) := by decide +kernel
theorem dX12_trim_14 : decode cX12_trim 14 = .ok (.ldc 100, 2) := by decide +kernel
theorem dX12_trim_16 : decode cX12_trim 16 = .ok (.ireturn, 1) := by decide +kernel
theorem dX12_trim_17 : decode cX12_trim 17 = .ok (.aload_n 0, 1) := by decide +kernel
theorem dX12_trim_18 : decode cX12_trim 18 = .ok (.iload_n 1, 1) := by decide +kernel
theorem dX12_trim_19 : decode cX12_trim 19 = .ok (.putfield 214, 3) := by decide +kernel
theorem dX12_trim_22 : decode cX12_trim 22 = .ok (.iload_n 1, 1) := by decide +kernel
theorem dX12_trim_23 : decode cX12_trim 23 = .ok (.ireturn, 1) := by decide +kernel
theorem dX12_isLetter_0 : decode cX12_isLetter 0 = .ok (.iload_n 1, 1) := by decide +kernel
theorem dX12_isLetter_1 : decode cX12_isLetter 1 = .ok (.aload_n 0, 1) := by decide +kernel
theorem dX12_isLetter_2 : decode cX12_isLetter 2 = .ok (.getfield 214, 3) := by decide +kernel
theorem dX12_isLetter_5 : decode cX12_isLetter 5 = .ok (.if_icmp .ge 26, 3) := by decide +kernel
theorem dX12_isLetter_8 : decode cX12_isLetter 8 = .ok (.aload_n 0, 1) := by decide +kernel
theorem dX12_isLetter_9 : decode cX12_isLetter 9 = .ok (.getfield 49, 3) := by decide +kernel
theorem dX12_isLetter_12 : decode cX12_isLetter 12 = .ok (.iload_n 1, 1) := by decide +kernel
theorem dX12_isLetter_13 : decode cX12_isLetter 13 = .ok (.iaload, 1) := by decide +kernel
theorem dX12_isLetter_14 : decode cX12_isLetter 14 = .ok (.i2l, 1) := by decide +kernel
theorem dX12_isLetter_15 : decode cX12_isLetter 15 = .ok (.ldc2_w 218, 3) := by decide +kernel
theorem dX12_isLetter_18 : decode cX12_isLetter 18 = .ok (.ldc2_w 220, 3) := by decide +kernel
theorem dX12_isLetter_21 : decode cX12_isLetter 21 = .ok (.invokestatic 89, 3) := by decide +kernel
theorem dX12_isLetter_24 : decode cX12_isLetter 24 = .ok (.ifCond .eq 7, 3) := by decide +kernel
theorem dX12_isLetter_27 : decode cX12_isLetter 27 = .ok (.iconst 1, 1) := by decide +kernel
theorem dX12_isLetter_28 : decode cX12_isLetter 28 = .ok (.goto 4, 3) := by decide +kernel
theorem dX12_isLetter_31 : decode cX12_isLetter 31 = .ok (.iconst 0, 1) := by decide +kernel
theorem dX12_isLetter_32 : decode cX12_isLetter 32 = .ok (.ireturn, 1) := by decide +kernel
theorem dX12_isDigit_0 : decode cX12_isDigit 0 = .ok (.iload_n 1, 1) := by decide +kernel
theorem dX12_isDigit_1 : decode cX12_isDigit 1 = .ok (.aload_n 0, 1) := by decide +kernel
theorem dX12_isDigit_2 : decode cX12_isDigit 2 = .ok (.getfield 214, 3) := by decide +kernel
theorem dX12_isDigit_5 : decode cX12_isDigit 5 = .ok (.if_icmp .ge 26, 3) := by decide +kernel
theorem dX12_isDigit_8 : decode cX12_isDigit 8 = .ok (.aload_n 0, 1) := by decide +kernel
theorem dX12_isDigit_9 : decode cX12_isDigit 9 = .ok (.getfield 49, 3) := by decide +kernel
theorem dX12_isDigit_12 : decode cX12_isDigit 12 = .ok (.iload_n 1, 1) := by decide +kernel
theorem dX12_isDigit_13 : decode cX12_isDigit 13 = .ok (.iaload, 1) := by decide +kernel
theorem dX12_isDigit_14 : decode cX12_isDigit 14 = .ok (.i2l, 1) := by decide +kernel
theorem dX12_isDigit_15 : decode cX12_isDigit 15 = .ok (.ldc2_w 222, 3) := by decide +kernel
theorem dX12_isDigit_18 : decode cX12_isDigit 18 = .ok (.ldc2_w 224, 3) := by decide +kernel
theorem dX12_isDigit_21 : decode cX12_isDigit 21 = .ok (.invokestatic 89, 3) := by decide +kernel
theorem dX12_isDigit_24 : decode cX12_isDigit 24 = .ok (.ifCond .eq 7, 3) := by decide +kernel
theorem dX12_isDigit_27 : decode cX12_isDigit 27 = .ok (.iconst 1, 1) := by decide +kernel
theorem dX12_isDigit_28 : decode cX12_isDigit 28 = .ok (.goto 4, 3) := by decide +kernel
theorem dX12_isDigit_31 : decode cX12_isDigit 31 = .ok (.iconst 0, 1) := by decide +kernel
theorem dX12_isDigit_32 : decode cX12_isDigit 32 = .ok (.ireturn, 1) := by decide +kernel
theorem dX12_next_0 : decode cX12_next 0 = .ok (.aload_n 0, 1) := by decide +kernel
theorem dX12_next_1 : decode cX12_next 1 = .ok (.getfield 226, 3) := by decide +kernel
theorem dX12_next_4 : decode cX12_next 4 = .ok (.ifCond .le 23, 3) := by decide +kernel
theorem dX12_next_7 : decode cX12_next 7 = .ok (.aload_n 0, 1) := by decide +kernel
theorem dX12_next_8 : decode cX12_next 8 = .ok (.getfield 229, 3) := by decide +kernel
theorem dX12_next_11 : decode cX12_next 11 = .ok (.iconst 1, 1) := by decide +kernel
theorem dX12_next_12 : decode cX12_next 12 = .ok (.if_icmp .eq 11, 3) := by decide +kernel
theorem dX12_next_15 : decode cX12_next 15 = .ok (.aload_n 0, 1) := by decide +kernel
theorem dX12_next_16 : decode cX12_next 16 = .ok (.getfield 229, 3) := by decide +kernel
theorem dX12_next_19 : decode cX12_next 19 = .ok (.iconst 2, 1) := by decide +kernel
theorem dX12_next_20 : decode cX12_next 20 = .ok (.if_icmp .ne 7, 3) := by decide +kernel
theorem dX12_next_23 : decode cX12_next 23 = .ok (.iconst 1, 1) := by decide +kernel
theorem dX12_next_24 : decode cX12_next 24 = .ok (.goto 4, 3) := by decide +kernel
theorem dX12_next_27 : decode cX12_next 27 = .ok (.iconst 0, 1) := by decide +kernel
theorem dX12_next_28 : decode cX12_next 28 = .ok (.istore_n 1, 1) := by decide +kernel
theorem dX12_next_29 : decode cX12_next 29 = .ok (.aload_n 0, 1) := by decide +kernel
theorem dX12_next_30 : decode cX12_next 30 = .ok (.getfield 226, 3) := by decide +kernel
theorem dX12_next_33 : decode cX12_next 33 = .ok (.istore_n 2, 1) := by decide +kernel
theorem dX12_next_34 : decode cX12_next 34 = .ok (.aload_n 0, 1) := by decide +kernel
theorem dX12_next_35 : decode cX12_next 35 = .ok (.getfield 226, 3) := by decide +kernel
theorem dX12_next_38 : decode cX12_next 38 = .ok (.aload_n 0, 1) := by decide +kernel
theorem dX12_next_39 : decode cX12_next 39 = .ok (.getfield 214, 3) := by decide +kernel
theorem dX12_next_42 : decode cX12_next 42 = .ok (.if_icmp .ge 30, 3) := by decide +kernel
theorem dX12_next_45 : decode cX12_next 45 = .ok (.aload_n 0, 1) := by decide +kernel
theorem dX12_next_46 : decode cX12_next 46 = .ok (.getfield 49, 3) := by decide +kernel
theorem dX12_next_49 : decode cX12_next 49 = .ok (.aload_n 0, 1) := by decide +kernel
theorem dX12_next_50 : decode cX12_next 50 = .ok (.getfield 226, 3) := by decide +kernel
theorem dX12_next_53 : decode cX12_next 53 = .ok (.iaload, 1) := by decide +kernel
theorem dX12_next_54 : decode cX12_next 54 = .ok (.bipush 32, 2) := by decide +kernel
theorem dX12_next_56 : decode cX12_next 56 = .ok (.if_icmp .ne 16, 3) := by decide +kernel
theorem dX12_next_59 : decode cX12_next 59 = .ok (.aload_n 0, 1) := by decide +kernel
theorem dX12_next_60 : decode cX12_next 60 = .ok (.dup, 1) := by decide +kernel
theorem dX12_next_61 : decode cX12_next 61 = .ok (.getfield 226, 3) := by decide +kernel
theorem dX12_next_64 : decode cX12_next 64 = .ok (.iconst 1, 1) := by decide +kernel
theorem dX12_next_65 : decode cX12_next 65 = .ok (.iadd, 1) := by decide +kernel
theorem dX12_next_66 : decode cX12_next 66 = .ok (.putfield 226, 3) := by decide +kernel
theorem dX12_next_69 : decode cX12_next 69 = .ok (.goto (-35), 3) := by decide +kernel
theorem dX12_next_72 : decode cX12_next 72 = .ok (.iload_n 1, 1) := by decide +kernel
theorem dX12_next_73 : decode cX12_next 73 = .ok (.ifCond .eq 15, 3) := by decide +kernel
theorem dX12_next_76 : decode cX12_next 76 = .ok (.iload_n 2, 1) := by decide +kernel
theorem dX12_next_77 : decode cX12_next 77 = .ok (.aload_n 0, 1) := by decide +kernel
theorem dX12_next_78 : decode cX12_next 78 = .ok (.getfield 226, 3) := by decide +kernel
theorem dX12_next_81 : decode cX12_next 81 = .ok (.if_icmp .ne 7, 3) := by decide +kernel
theorem dX12_next_84 : decode cX12_next 84 = .ok (.iconst 1, 1) := by decide +kernel
theorem dX12_next_85 : decode cX12_next 85 = .ok (.goto 4, 3) := by decide +kernel
theorem dX12_next_88 : decode cX12_next 88 = .ok (.iconst 0, 1) := by decide +kernel
theorem dX12_next_89 : decode cX12_next 89 = .ok (.istore_n 1, 1) := by decide +kernel
theorem dX12_next_90 : decode cX12_next 90 = .ok (.aload_n 0, 1) := by decide +kernel
theorem dX12_next_91 : decode cX12_next 91 = .ok (.aload_n 0, 1) := by decide +kernel
theorem dX12_next_92 : decode cX12_next 92 = .ok (.getfield 226, 3) := by decide +kernel
theorem dX12_next_95 : decode cX12_next 95 = .ok (.putfield 232, 3) := by decide +kernel
theorem dX12_next_98 : decode cX12_next 98 = .ok (.aload_n 0, 1) := by decide +kernel
theorem dX12_next_99 : decode cX12_next 99 = .ok (.getfield 232, 3) := by decide +kernel
theorem dX12_next_102 : decode cX12_next 102 = .ok (.aload_n 0, 1) := by decide +kernel
theorem dX12_next_103 : decode cX12_next 103 = .ok (.getfield 214, 3) := by decide +kernel
theorem dX12_next_106 : decode cX12_next 106 = .ok (.if_icmp .ne 11, 3) := by decide +kernel
theorem dX12_next_109 : decode cX12_next 109 = .ok (.aload_n 0, 1) := by decide +kernel
theorem dX12_next_110 : decode cX12_next 110 = .ok (.iconst 0, 1) := by decide +kernel
theorem dX12_next_111 : decode cX12_next 111 = .ok (.putfield 229, 3) := by decide +kernel
theorem dX12_next_114 : decode cX12_next 114 = .ok (.goto 225, 3) := by decide +kernel
theorem dX12_next_117 : decode cX12_next 117 = .ok (.aload_n 0, 1) := by decide +kernel
theorem dX12_next_118 : decode cX12_next 118 = .ok (.aload_n 0, 1) := by decide +kernel
theorem dX12_next_119 : decode cX12_next 119 = .ok (.getfield 232, 3) := by decide +kernel
theorem dX12_next_122 : decode cX12_next 122 = .ok (.invokevirtual 235, 3) := by decide +kernel
theorem dX12_next_125 : decode cX12_next 125 = .ok (.ifCond .eq 73, 3) := by decide +kernel
theorem dX12_next_128 : decode cX12_next 128 = .ok (.aload_n 0, 1) := by decide +kernel
theorem dX12_next_129 : decode cX12_next 129 = .ok (.aload_n 0, 1) := by decide +kernel
theorem dX12_next_130 : decode cX12_next 130 = .ok (.getfield 226, 3) := by decide +kernel
theorem dX12_next_133 : decode cX12_next 133 = .ok (.invokevirtual 235, 3) := by decide +kernel
theorem dX12_next_136 : decode cX12_next 136 = .ok (.ifCond .eq 16, 3) := by decide +kernel
theorem dX12_next_139 : decode cX12_next 139 = .ok (.aload_n 0, 1) := by decide +kernel
theorem dX12_next_140 : decode cX12_next 140 = .ok (.dup, 1) := by decide +kernel
theorem dX12_next_141 : decode cX12_next 141 = .ok (.getfield 226, 3) := by decide +kernel
theorem dX12_next_144 : decode cX12_next 144 = .ok (.iconst 1, 1) := by decide +kernel
theorem dX12_next_145 : decode cX12_next 145 = .ok (.iadd, 1) := by decide +kernel
theorem dX12_next_146 : decode cX12_next 146 = .ok (.putfield 226, 3) := by decide +kernel
theorem dX12_next_149 : decode cX12_next 149 = .ok (.goto (-21), 3) := by decide +kernel
theorem dX12_next_152 : decode cX12_next 152 = .ok (.aload_n 0, 1) := by decide +kernel
theorem dX12_next_153 : decode cX12_next 153 = .ok (.iload_n 1, 1) := by decide +kernel
theorem dX12_next_154 : decode cX12_next 154 = .ok (.ifCond .eq 7, 3) := by decide +kernel
theorem dX12_next_157 : decode cX12_next 157 = .ok (.iconst 4, 1) := by decide +kernel
theorem dX12_next_158 : decode cX12_next 158 = .ok (.goto 4, 3) := by decide +kernel
theorem dX12_next_161 : decode cX12_next 161 = .ok (.iconst 1, 1) := by decide +kernel
theorem dX12_next_162 : decode cX12_next 162 = .ok (.putfield 229, 3) := by decide +kernel
theorem dX12_next_165 : decode cX12_next 165 = .ok (.aload_n 0, 1) := by decide +kernel
theorem dX12_next_166 : decode cX12_next 166 = .ok (.aload_n 0, 1) := by decide +kernel
theorem dX12_next_167 : decode cX12_next 167 = .ok (.getfield 226, 3) := by decide +kernel
theorem dX12_next_170 : decode cX12_next 170 = .ok (.aload_n 0, 1) := by decide +kernel
theorem dX12_next_171 : decode cX12_next 171 = .ok (.getfield 232, 3) := by decide +kernel
theorem dX12_next_174 : decode cX12_next 174 = .ok (.isub, 1) := by decide +kernel
theorem dX12_next_175 : decode cX12_next 175 = .ok (.iconst 1, 1) := by decide +kernel
theorem dX12_next_176 : decode cX12_next 176 = .ok (.if_icmp .ne 15, 3) := by decide +kernel
theorem dX12_next_179 : decode cX12_next 179 = .ok (.aload_n 0, 1) := by decide +kernel
theorem dX12_next_180 : decode cX12_next 180 = .ok (.getfield 49, 3) := by decide +kernel
theorem dX12_next_183 : decode cX12_next 183 = .ok (.aload_n 0, 1) := by decide +kernel
theorem dX12_next_184 : decode cX12_next 184 = .ok (.getfield 232, 3) := by decide +kernel
theorem dX12_next_187 : decode cX12_next 187 = .ok (.iaload, 1) := by decide +kernel
theorem dX12_next_188 : decode cX12_next 188 = .ok (.goto 4, 3) := by decide +kernel
theorem dX12_next_191 : decode cX12_next 191 = .ok (.iconst 0, 1) := by decide +kernel
theorem dX12_next_192 : decode cX12_next 192 = .ok (.putfield 238, 3) := by decide +kernel
theorem dX12_next_195 : decode cX12_next 195 = .ok (.goto 144, 3) := by decide +kernel
theorem dX12_next_198 : decode cX12_next 198 = .ok (.aload_n 0, 1) := by decide +kernel
theorem dX12_next_199 : decode cX12_next 199 = .ok (.aload_n 0, 1) := by decide +kernel
theorem dX12_next_200 : decode cX12_next 200 = .ok (.getfield 232, 3) := by decide +kernel
theorem dX12_next_203 : decode cX12_next 203 = .ok (.invokevirtual 241, 3) := by decide +kernel
theorem dX12_next_206 : decode cX12_next 206 = .ok (.ifCond .eq 105, 3) := by decide +kernel
theorem dX12_next_209 : decode cX12_next 209 = .ok (.aload_n 0, 1) := by decide +kernel
theorem dX12_next_210 : decode cX12_next 210 = .ok (.iconst 0, 1) := by decide +kernel
theorem dX12_next_211 : decode cX12_next 211 = .ok (.putfield 244, 3) := by decide +kernel
theorem dX12_next_214 : decode cX12_next 214 = .ok (.aload_n 0, 1) := by decide +kernel
theorem dX12_next_215 : decode cX12_next 215 = .ok (.aload_n 0, 1) := by decide +kernel
theorem dX12_next_216 : decode cX12_next 216 = .ok (.getfield 226, 3) := by decide +kernel
theorem dX12_next_219 : decode cX12_next 219 = .ok (.invokevirtual 241, 3) := by decide +kernel
theorem dX12_next_222 : decode cX12_next 222 = .ok (.ifCond .eq 60, 3) := by decide +kernel
theorem dX12_next_225 : decode cX12_next 225 = .ok (.aload_n 0, 1) := by decide +kernel
theorem dX12_next_226 : decode cX12_next 226 = .ok (.aload_n 0, 1) := by decide +kernel
theorem dX12_next_227 : decode cX12_next 227 = .ok (.getfield 226, 3) := by decide +kernel
theorem dX12_next_230 : decode cX12_next 230 = .ok (.aload_n 0, 1) := by decide +kernel
theorem dX12_next_231 : decode cX12_next 231 = .ok (.getfield 232, 3) := by decide +kernel
theorem dX12_next_234 : decode cX12_next 234 = .ok (.isub, 1) := by decide +kernel
theorem dX12_next_235 : decode cX12_next 235 = .ok (.iconst 4, 1) := by decide +kernel
theorem dX12_next_236 : decode cX12_next 236 = .ok (.if_icmp .ge 26, 3) := by decide +kernel
theorem dX12_next_239 : decode cX12_next 239 = .ok (.bipush 10, 2) := by decide +kernel
theorem dX12_next_241 : decode cX12_next 241 = .ok (.aload_n 0, 1) := by decide +kernel
theorem dX12_next_242 : decode cX12_next 242 = .ok (.getfield 244, 3) := by decide +kernel
theorem dX12_next_245 : decode cX12_next 245 = .ok (.imul, 1) := by decide +kernel
theorem dX12_next_246 : decode cX12_next 246 = .ok (.aload_n 0, 1) := by decide +kernel
theorem dX12_next_247 : decode cX12_next 247 = .ok (.getfield 49, 3) := by decide +kernel
theorem dX12_next_250 : decode cX12_next 250 = .ok (.aload_n 0, 1) := by decide +kernel
theorem dX12_next_251 : decode cX12_next 251 = .ok (.getfield 226, 3) := by decide +kernel
theorem dX12_next_254 : decode cX12_next 254 = .ok (.iaload, 1) := by decide +kernel
theorem dX12_next_255 : decode cX12_next 255 = .ok (.iadd, 1) := by decide +kernel
theorem dX12_next_256 : decode cX12_next 256 = .ok (.bipush 48, 2) := by decide +kernel
theorem dX12_next_258 : decode cX12_next 258 = .ok (.isub, 1) := by decide +kernel
theorem dX12_next_259 : decode cX12_next 259 = .ok (.goto 7, 3) := by decide +kernel
theorem dX12_next_262 : decode cX12_next 262 = .ok (.aload_n 0, 1) := by decide +kernel
theorem dX12_next_263 : decode cX12_next 263 = .ok (.getfield 244, 3) := by decide +kernel
theorem dX12_next_266 : decode cX12_next 266 = .ok (.putfield 244, 3) := by decide +kernel
theorem dX12_next_269 : decode cX12_next 269 = .ok (.aload_n 0, 1) := by decide +kernel
theorem dX12_next_270 : decode cX12_next 270 = .ok (.dup, 1) := by decide +kernel
theorem dX12_next_271 : decode cX12_next 271 = .ok (.getfield 226, 3) := by decide +kernel
theorem dX12_next_274 : decode cX12_next 274 = .ok (.iconst 1, 1) := by decide +kernel
theorem dX12_next_275 : decode cX12_next 275 = .ok (.iadd, 1) := by decide +kernel
theorem dX12_next_276 : decode cX12_next 276 = .ok (.putfield 226, 3) := by decide +kernel
theorem dX12_next_279 : decode cX12_next 279 = .ok (.goto (-65), 3) := by decide +kernel
theorem dX12_next_282 : decode cX12_next 282 = .ok (.aload_n 0, 1) := by decide +kernel
theorem dX12_next_283 : decode cX12_next 283 = .ok (.iload_n 1, 1) := by decide +kernel
theorem dX12_next_284 : decode cX12_next 284 = .ok (.ifCond .ne 16, 3) := by decide +kernel
theorem dX12_next_287 : decode cX12_next 287 = .ok (.aload_n 0, 1) := by decide +kernel
theorem dX12_next_288 : decode cX12_next 288 = .ok (.getfield 226, 3) := by decide +kernel
theorem dX12_next_291 : decode cX12_next 291 = .ok (.aload_n 0, 1) := by decide +kernel
theorem dX12_next_292 : decode cX12_next 292 = .ok (.getfield 232, 3) := by decide +kernel
theorem dX12_next_295 : decode cX12_next 295 = .ok (.isub, 1) := by decide +kernel
theorem dX12_next_296 : decode cX12_next 296 = .ok (.iconst 4, 1) := by decide +kernel
theorem dX12_next_297 : decode cX12_next 297 = .ok (.if_icmp .le 7, 3) := by decide +kernel
theorem dX12_next_300 : decode cX12_next 300 = .ok (.iconst 4, 1) := by decide +kernel
theorem dX12_next_301 : decode cX12_next 301 = .ok (.goto 4, 3) := by decide +kernel
theorem dX12_next_304 : decode cX12_next 304 = .ok (.iconst 2, 1) := by decide +kernel
theorem dX12_next_305 : decode cX12_next 305 = .ok (.putfield 229, 3) := by decide +kernel
theorem dX12_next_308 : decode cX12_next 308 = .ok (.goto 31, 3) := by decide +kernel
theorem dX12_next_311 : decode cX12_next 311 = .ok (.aload_n 0, 1) := by decide +kernel
theorem dX12_next_312 : decode cX12_next 312 = .ok (.iconst 3, 1) := by decide +kernel
theorem dX12_next_313 : decode cX12_next 313 = .ok (.putfield 229, 3) := by decide +kernel
theorem dX12_next_316 : decode cX12_next 316 = .ok (.aload_n 0, 1) := by decide +kernel
theorem dX12_next_317 : decode cX12_next 317 = .ok (.aload_n 0, 1) := by decide +kernel
theorem dX12_next_318 : decode cX12_next 318 = .ok (.getfield 49, 3) := by decide +kernel
theorem dX12_next_321 : decode cX12_next 321 = .ok (.aload_n 0, 1) := by decide +kernel
theorem dX12_next_322 : decode cX12_next 322 = .ok (.getfield 232, 3) := by decide +kernel
theorem dX12_next_325 : decode cX12_next 325 = .ok (.iaload, 1) := by decide +kernel
theorem dX12_next_326 : decode cX12_next 326 = .ok (.putfield 238, 3) := by decide +kernel
theorem dX12_next_329 : decode cX12_next 329 = .ok (.aload_n 0, 1) := by decide +kernel
theorem dX12_next_330 : decode cX12_next 330 = .ok (.dup, 1) := by decide +kernel
theorem dX12_next_331 : decode cX12_next 331 = .ok (.getfield 226, 3) := by decide +kernel
theorem dX12_next_334 : decode cX12_next 334 = .ok (.iconst 1, 1) := by decide +kernel
theorem dX12_next_335 : decode cX12_next 335 = .ok (.iadd, 1) := by decide +kernel
theorem dX12_next_336 : decode cX12_next 336 = .ok (.putfield 226, 3) := by decide +kernel
theorem dX12_next_339 : decode cX12_next 339 = .ok (.return_, 1) := by decide +kernel
theorem dX12_isSign_0 : decode cX12_isSign 0 = .ok (.aload_n 0, 1) := by decide +kernel
theorem dX12_isSign_1 : decode cX12_isSign 1 = .ok (.getfield 229, 3) := by decide +kernel
theorem dX12_isSign_4 : decode cX12_isSign 4 = .ok (.iconst 3, 1) := by decide +kernel
theorem dX12_isSign_5 : decode cX12_isSign 5 = .ok (.if_icmp .ne 15, 3) := by decide +kernel
theorem dX12_isSign_8 : decode cX12_isSign 8 = .ok (.aload_n 0, 1) := by decide +kernel
theorem dX12_isSign_9 : decode cX12_isSign 9 = .ok (.getfield 238, 3) := by decide +kernel
theorem dX12_isSign_12 : decode cX12_isSign 12 = .ok (.iload_n 1, 1) := by decide +kernel
theorem dX12_isSign_13 : decode cX12_isSign 13 = .ok (.if_icmp .ne 7, 3) := by decide +kernel
theorem dX12_isSign_16 : decode cX12_isSign 16 = .ok (.iconst 1, 1) := by decide +kernel
theorem dX12_isSign_17 : decode cX12_isSign 17 = .ok (.goto 4, 3) := by decide +kernel
theorem dX12_isSign_20 : decode cX12_isSign 20 = .ok (.iconst 0, 1) := by decide +kernel
theorem dX12_isSign_21 : decode cX12_isSign 21 = .ok (.ireturn, 1) := by decide +kernel
theorem dX12_isWordAt_0 : decode cX12_isWordAt 0 = .ok (.aload_n 0, 1) := by decide +kernel
theorem dX12_isWordAt_1 : decode cX12_isWordAt 1 = .ok (.getfield 229, 3) := by decide +kernel
theorem dX12_isWordAt_4 : decode cX12_isWordAt 4 = .ok (.iconst 1, 1) := by decide +kernel
theorem dX12_isWordAt_5 : decode cX12_isWordAt 5 = .ok (.if_icmp .ne 79, 3) := by decide +kernel
theorem dX12_isWordAt_8 : decode cX12_isWordAt 8 = .ok (.aload_n 0, 1) := by decide +kernel
theorem dX12_isWordAt_9 : decode cX12_isWordAt 9 = .ok (.getfield 226, 3) := by decide +kernel
theorem dX12_isWordAt_12 : decode cX12_isWordAt 12 = .ok (.aload_n 0, 1) := by decide +kernel
theorem dX12_isWordAt_13 : decode cX12_isWordAt 13 = .ok (.getfield 232, 3) := by decide +kernel
theorem dX12_isWordAt_16 : decode cX12_isWordAt 16 = .ok (.isub, 1) := by decide +kernel
theorem dX12_isWordAt_17 : decode cX12_isWordAt 17 = .ok (.iconst 4, 1) := by decide +kernel
theorem dX12_isWordAt_18 : decode cX12_isWordAt 18 = .ok (.if_icmp .ne 66, 3) := by decide +kernel
theorem dX12_isWordAt_21 : decode cX12_isWordAt 21 = .ok (.aload_n 0, 1) := by decide +kernel
theorem dX12_isWordAt_22 : decode cX12_isWordAt 22 = .ok (.getfield 49, 3) := by decide +kernel
theorem dX12_isWordAt_25 : decode cX12_isWordAt 25 = .ok (.aload_n 0, 1) := by decide +kernel
theorem dX12_isWordAt_26 : decode cX12_isWordAt 26 = .ok (.getfield 232, 3) := by decide +kernel
theorem dX12_isWordAt_29 : decode cX12_isWordAt 29 = .ok (.iaload, 1) := by decide +kernel
theorem dX12_isWordAt_30 : decode cX12_isWordAt 30 = .ok (.iload_n 1, 1) := by decide +kernel
theorem dX12_isWordAt_31 : decode cX12_isWordAt 31 = .ok (.if_icmp .ne 53, 3) := by decide +kernel
theorem dX12_isWordAt_34 : decode cX12_isWordAt 34 = .ok (.aload_n 0, 1) := by decide +kernel
theorem dX12_isWordAt_35 : decode cX12_isWordAt 35 = .ok (.getfield 49, 3) := by decide +kernel
theorem dX12_isWordAt_38 : decode cX12_isWordAt 38 = .ok (.aload_n 0, 1) := by decide +kernel
theorem dX12_isWordAt_39 : decode cX12_isWordAt 39 = .ok (.getfield 232, 3) := by decide +kernel
theorem dX12_isWordAt_42 : decode cX12_isWordAt 42 = .ok (.iconst 1, 1) := by decide +kernel
theorem dX12_isWordAt_43 : decode cX12_isWordAt 43 = .ok (.iadd, 1) := by decide +kernel
theorem dX12_isWordAt_44 : decode cX12_isWordAt 44 = .ok (.iaload, 1) := by decide +kernel
theorem dX12_isWordAt_45 : decode cX12_isWordAt 45 = .ok (.iload_n 2, 1) := by decide +kernel
theorem dX12_isWordAt_46 : decode cX12_isWordAt 46 = .ok (.if_icmp .ne 38, 3) := by decide +kernel
theorem dX12_isWordAt_49 : decode cX12_isWordAt 49 = .ok (.aload_n 0, 1) := by decide +kernel
theorem dX12_isWordAt_50 : decode cX12_isWordAt 50 = .ok (.getfield 49, 3) := by decide +kernel
theorem dX12_isWordAt_53 : decode cX12_isWordAt 53 = .ok (.aload_n 0, 1) := by decide +kernel
theorem dX12_isWordAt_54 : decode cX12_isWordAt 54 = .ok (.getfield 232, 3) := by decide +kernel
theorem dX12_isWordAt_57 : decode cX12_isWordAt 57 = .ok (.iconst 2, 1) := by decide +kernel
theorem dX12_isWordAt_58 : decode cX12_isWordAt 58 = .ok (.iadd, 1) := by decide +kernel
theorem dX12_isWordAt_59 : decode cX12_isWordAt 59 = .ok (.iaload, 1) := by decide +kernel
theorem dX12_isWordAt_60 : decode cX12_isWordAt 60 = .ok (.iload_n 3, 1) := by decide +kernel
theorem dX12_isWordAt_61 : decode cX12_isWordAt 61 = .ok (.if_icmp .ne 23, 3) := by decide +kernel
theorem dX12_isWordAt_64 : decode cX12_isWordAt 64 = .ok (.aload_n 0, 1) := by decide +kernel
theorem dX12_isWordAt_65 : decode cX12_isWordAt 65 = .ok (.getfield 49, 3) := by decide +kernel
theorem dX12_isWordAt_68 : decode cX12_isWordAt 68 = .ok (.aload_n 0, 1) := by decide +kernel
theorem dX12_isWordAt_69 : decode cX12_isWordAt 69 = .ok (.getfield 232, 3) := by decide +kernel
theorem dX12_isWordAt_72 : decode cX12_isWordAt 72 = .ok (.iconst 3, 1) := by decide +kernel
theorem dX12_isWordAt_73 : decode cX12_isWordAt 73 = .ok (.iadd, 1) := by decide +kernel
theorem dX12_isWordAt_74 : decode cX12_isWordAt 74 = .ok (.iaload, 1) := by decide +kernel
theorem dX12_isWordAt_75 : decode cX12_isWordAt 75 = .ok (.iload 4, 2) := by decide +kernel
theorem dX12_isWordAt_77 : decode cX12_isWordAt 77 = .ok (.if_icmp .ne 7, 3) := by decide +kernel
theorem dX12_isWordAt_80 : decode cX12_isWordAt 80 = .ok (.iconst 1, 1) := by decide +kernel
theorem dX12_isWordAt_81 : decode cX12_isWordAt 81 = .ok (.goto 4, 3) := by decide +kernel
theorem dX12_isWordAt_84 : decode cX12_isWordAt 84 = .ok (.iconst 0, 1) := by decide +kernel
theorem dX12_isWordAt_85 : decode cX12_isWordAt 85 = .ok (.ireturn, 1) := by decide +kernel
theorem dX12_isLong_0 : decode cX12_isLong 0 = .ok (.iload 6, 2) := by decide +kernel
theorem dX12_isLong_2 : decode cX12_isLong 2 = .ok (.ifCond .ne 7, 3) := by decide +kernel
theorem dX12_isLong_5 : decode cX12_isLong 5 = .ok (.iconst 5, 1) := by decide +kernel
theorem dX12_isLong_6 : decode cX12_isLong 6 = .ok (.goto 5, 3) := by decide +kernel
theorem dX12_isLong_9 : decode cX12_isLong 9 = .ok (.bipush 6, 2) := by decide +kernel
theorem dX12_isLong_11 : decode cX12_isLong 11 = .ok (.istore 7, 2) := by decide +kernel
theorem dX12_isLong_13 : decode cX12_isLong 13 = .ok (.aload_n 0, 1) := by decide +kernel
theorem dX12_isLong_14 : decode cX12_isLong 14 = .ok (.getfield 229, 3) := by decide +kernel
theorem dX12_isLong_17 : decode cX12_isLong 17 = .ok (.iconst 1, 1) := by decide +kernel
theorem dX12_isLong_18 : decode cX12_isLong 18 = .ok (.if_icmp .ne 117, 3) := by decide +kernel
theorem dX12_isLong_21 : decode cX12_isLong 21 = .ok (.aload_n 0, 1) := by decide +kernel
theorem dX12_isLong_22 : decode cX12_isLong 22 = .ok (.getfield 226, 3) := by decide +kernel
theorem dX12_isLong_25 : decode cX12_isLong 25 = .ok (.aload_n 0, 1) := by decide +kernel
theorem dX12_isLong_26 : decode cX12_isLong 26 = .ok (.getfield 232, 3) := by decide +kernel
theorem dX12_isLong_29 : decode cX12_isLong 29 = .ok (.isub, 1) := by decide +kernel
theorem dX12_isLong_30 : decode cX12_isLong 30 = .ok (.iload 7, 2) := by decide +kernel
theorem dX12_isLong_32 : decode cX12_isLong 32 = .ok (.if_icmp .ne 103, 3) := by decide +kernel
theorem dX12_isLong_35 : decode cX12_isLong 35 = .ok (.aload_n 0, 1) := by decide +kernel
theorem dX12_isLong_36 : decode cX12_isLong 36 = .ok (.getfield 49, 3) := by decide +kernel
theorem dX12_isLong_39 : decode cX12_isLong 39 = .ok (.aload_n 0, 1) := by decide +kernel
theorem dX12_isLong_40 : decode cX12_isLong 40 = .ok (.getfield 232, 3) := by decide +kernel
theorem dX12_isLong_43 : decode cX12_isLong 43 = .ok (.iaload, 1) := by decide +kernel
theorem dX12_isLong_44 : decode cX12_isLong 44 = .ok (.iload_n 1, 1) := by decide +kernel
theorem dX12_isLong_45 : decode cX12_isLong 45 = .ok (.if_icmp .ne 90, 3) := by decide +kernel
theorem dX12_isLong_48 : decode cX12_isLong 48 = .ok (.aload_n 0, 1) := by decide +kernel
theorem dX12_isLong_49 : decode cX12_isLong 49 = .ok (.getfield 49, 3) := by decide +kernel
theorem dX12_isLong_52 : decode cX12_isLong 52 = .ok (.aload_n 0, 1) := by decide +kernel
theorem dX12_isLong_53 : decode cX12_isLong 53 = .ok (.getfield 232, 3) := by decide +kernel
theorem dX12_isLong_56 : decode cX12_isLong 56 = .ok (.iconst 1, 1) := by decide +kernel
theorem dX12_isLong_57 : decode cX12_isLong 57 = .ok (.iadd, 1) := by decide +kernel
theorem dX12_isLong_58 : decode cX12_isLong 58 = .ok (.iaload, 1) := by decide +kernel
theorem dX12_isLong_59 : decode cX12_isLong 59 = .ok (.iload_n 2, 1) := by decide +kernel
theorem dX12_isLong_60 : decode cX12_isLong 60 = .ok (.if_icmp .ne 75, 3) := by decide +kernel
theorem dX12_isLong_63 : decode cX12_isLong 63 = .ok (.aload_n 0, 1) := by decide +kernel
theorem dX12_isLong_64 : decode cX12_isLong 64 = .ok (.getfield 49, 3) := by decide +kernel
theorem dX12_isLong_67 : decode cX12_isLong 67 = .ok (.aload_n 0, 1) := by decide +kernel
theorem dX12_isLong_68 : decode cX12_isLong 68 = .ok (.getfield 232, 3) := by decide +kernel
theorem dX12_isLong_71 : decode cX12_isLong 71 = .ok (.iconst 2, 1) := by decide +kernel
theorem dX12_isLong_72 : decode cX12_isLong 72 = .ok (.iadd, 1) := by decide +kernel
theorem dX12_isLong_73 : decode cX12_isLong 73 = .ok (.iaload, 1) := by decide +kernel
theorem dX12_isLong_74 : decode cX12_isLong 74 = .ok (.iload_n 3, 1) := by decide +kernel
theorem dX12_isLong_75 : decode cX12_isLong 75 = .ok (.if_icmp .ne 60, 3) := by decide +kernel
theorem dX12_isLong_78 : decode cX12_isLong 78 = .ok (.aload_n 0, 1) := by decide +kernel
theorem dX12_isLong_79 : decode cX12_isLong 79 = .ok (.getfield 49, 3) := by decide +kernel
theorem dX12_isLong_82 : decode cX12_isLong 82 = .ok (.aload_n 0, 1) := by decide +kernel
theorem dX12_isLong_83 : decode cX12_isLong 83 = .ok (.getfield 232, 3) := by decide +kernel
theorem dX12_isLong_86 : decode cX12_isLong 86 = .ok (.iconst 3, 1) := by decide +kernel
theorem dX12_isLong_87 : decode cX12_isLong 87 = .ok (.iadd, 1) := by decide +kernel
theorem dX12_isLong_88 : decode cX12_isLong 88 = .ok (.iaload, 1) := by decide +kernel
theorem dX12_isLong_89 : decode cX12_isLong 89 = .ok (.iload 4, 2) := by decide +kernel
theorem dX12_isLong_91 : decode cX12_isLong 91 = .ok (.if_icmp .ne 44, 3) := by decide +kernel
theorem dX12_isLong_94 : decode cX12_isLong 94 = .ok (.aload_n 0, 1) := by decide +kernel
theorem dX12_isLong_95 : decode cX12_isLong 95 = .ok (.getfield 49, 3) := by decide +kernel
theorem dX12_isLong_98 : decode cX12_isLong 98 = .ok (.aload_n 0, 1) := by decide +kernel
theorem dX12_isLong_99 : decode cX12_isLong 99 = .ok (.getfield 232, 3) := by decide +kernel
theorem dX12_isLong_102 : decode cX12_isLong 102 = .ok (.iconst 4, 1) := by decide +kernel
theorem dX12_isLong_103 : decode cX12_isLong 103 = .ok (.iadd, 1) := by decide +kernel
theorem dX12_isLong_104 : decode cX12_isLong 104 = .ok (.iaload, 1) := by decide +kernel
theorem dX12_isLong_105 : decode cX12_isLong 105 = .ok (.iload 5, 2) := by decide +kernel
theorem dX12_isLong_107 : decode cX12_isLong 107 = .ok (.if_icmp .ne 28, 3) := by decide +kernel
theorem dX12_isLong_110 : decode cX12_isLong 110 = .ok (.iload 6, 2) := by decide +kernel
theorem dX12_isLong_112 : decode cX12_isLong 112 = .ok (.ifCond .eq 19, 3) := by decide +kernel
theorem dX12_isLong_115 : decode cX12_isLong 115 = .ok (.aload_n 0, 1) := by decide +kernel
theorem dX12_isLong_116 : decode cX12_isLong 116 = .ok (.getfield 49, 3) := by decide +kernel
theorem dX12_isLong_119 : decode cX12_isLong 119 = .ok (.aload_n 0, 1) := by decide +kernel
theorem dX12_isLong_120 : decode cX12_isLong 120 = .ok (.getfield 232, 3) := by decide +kernel
theorem dX12_isLong_123 : decode cX12_isLong 123 = .ok (.iconst 5, 1) := by decide +kernel
theorem dX12_isLong_124 : decode cX12_isLong 124 = .ok (.iadd, 1) := by decide +kernel
theorem dX12_isLong_125 : decode cX12_isLong 125 = .ok (.iaload, 1) := by decide +kernel
theorem dX12_isLong_126 : decode cX12_isLong 126 = .ok (.iload 6, 2) := by decide +kernel
theorem dX12_isLong_128 : decode cX12_isLong 128 = .ok (.if_icmp .ne 7, 3) := by decide +kernel
theorem dX12_isLong_131 : decode cX12_isLong 131 = .ok (.iconst 1, 1) := by decide +kernel
theorem dX12_isLong_132 : decode cX12_isLong 132 = .ok (.goto 4, 3) := by decide +kernel
theorem dX12_isLong_135 : decode cX12_isLong 135 = .ok (.iconst 0, 1) := by decide +kernel
theorem dX12_isLong_136 : decode cX12_isLong 136 = .ok (.ireturn, 1) := by decide +kernel
theorem dX12_key_0 : decode cX12_key 0 = .ok (.aload_n 0, 1) := by decide +kernel
theorem dX12_key_1 : decode cX12_key 1 = .ok (.bipush 112, 2) := by decide +kernel
theorem dX12_key_3 : decode cX12_key 3 = .ok (.bipush 114, 2) := by decide +kernel
theorem dX12_key_5 : decode cX12_key 5 = .ok (.bipush 105, 2) := by decide +kernel
theorem dX12_key_7 : decode cX12_key 7 = .ok (.bipush 99, 2) := by decide +kernel
theorem dX12_key_9 : decode cX12_key 9 = .ok (.bipush 101, 2) := by decide +kernel
theorem dX12_key_11 : decode cX12_key 11 = .ok (.iconst 0, 1) := by decide +kernel
theorem dX12_key_12 : decode cX12_key 12 = .ok (.invokevirtual 247, 3) := by decide +kernel
theorem dX12_key_15 : decode cX12_key 15 = .ok (.ifCond .eq 7, 3) := by decide +kernel
theorem dX12_key_18 : decode cX12_key 18 = .ok (.iconst 0, 1) := by decide +kernel
theorem dX12_key_19 : decode cX12_key 19 = .ok (.goto 27, 3) := by decide +kernel
theorem dX12_key_22 : decode cX12_key 22 = .ok (.aload_n 0, 1) := by decide +kernel
theorem dX12_key_23 : decode cX12_key 23 = .ok (.bipush 114, 2) := by decide +kernel
theorem dX12_key_25 : decode cX12_key 25 = .ok (.bipush 101, 2) := by decide +kernel
theorem dX12_key_27 : decode cX12_key 27 = .ok (.bipush 116, 2) := by decide +kernel
theorem dX12_key_29 : decode cX12_key 29 = .ok (.bipush 97, 2) := by decide +kernel
theorem dX12_key_31 : decode cX12_key 31 = .ok (.bipush 105, 2) := by decide +kernel
theorem dX12_key_33 : decode cX12_key 33 = .ok (.bipush 110, 2) := by decide +kernel
theorem dX12_key_35 : decode cX12_key 35 = .ok (.invokevirtual 247, 3) := by decide +kernel
theorem dX12_key_38 : decode cX12_key 38 = .ok (.ifCond .eq 7, 3) := by decide +kernel
theorem dX12_key_41 : decode cX12_key 41 = .ok (.iconst 1, 1) := by decide +kernel
theorem dX12_key_42 : decode cX12_key 42 = .ok (.goto 4, 3) := by decide +kernel
theorem dX12_key_45 : decode cX12_key 45 = .ok (.iconst (-1), 1) := by decide +kernel
theorem dX12_key_46 : decode cX12_key 46 = .ok (.istore_n 1, 1) := by decide +kernel
theorem dX12_key_47 : decode cX12_key 47 = .ok (.aload_n 0, 1) := by decide +kernel
theorem dX12_key_48 : decode cX12_key 48 = .ok (.bipush 108, 2) := by decide +kernel
theorem dX12_key_50 : decode cX12_key 50 = .ok (.bipush 97, 2) := by decide +kernel
theorem dX12_key_52 : decode cX12_key 52 = .ok (.bipush 116, 2) := by decide +kernel
theorem dX12_key_54 : decode cX12_key 54 = .ok (.bipush 101, 2) := by decide +kernel
theorem dX12_key_56 : decode cX12_key 56 = .ok (.invokevirtual 251, 3) := by decide +kernel
theorem dX12_key_59 : decode cX12_key 59 = .ok (.ifCond .eq 7, 3) := by decide +kernel
theorem dX12_key_62 : decode cX12_key 62 = .ok (.iconst 2, 1) := by decide +kernel
theorem dX12_key_63 : decode cX12_key 63 = .ok (.goto 26, 3) := by decide +kernel
theorem dX12_key_66 : decode cX12_key 66 = .ok (.aload_n 0, 1) := by decide +kernel
theorem dX12_key_67 : decode cX12_key 67 = .ok (.bipush 99, 2) := by decide +kernel
theorem dX12_key_69 : decode cX12_key 69 = .ok (.bipush 108, 2) := by decide +kernel
theorem dX12_key_71 : decode cX12_key 71 = .ok (.bipush 97, 2) := by decide +kernel
theorem dX12_key_73 : decode cX12_key 73 = .ok (.bipush 105, 2) := by decide +kernel
theorem dX12_key_75 : decode cX12_key 75 = .ok (.bipush 109, 2) := by decide +kernel
theorem dX12_key_77 : decode cX12_key 77 = .ok (.iconst 0, 1) := by decide +kernel
theorem dX12_key_78 : decode cX12_key 78 = .ok (.invokevirtual 247, 3) := by decide +kernel
theorem dX12_key_81 : decode cX12_key 81 = .ok (.ifCond .eq 7, 3) := by decide +kernel
theorem dX12_key_84 : decode cX12_key 84 = .ok (.iconst 3, 1) := by decide +kernel
theorem dX12_key_85 : decode cX12_key 85 = .ok (.goto 4, 3) := by decide +kernel
theorem dX12_key_88 : decode cX12_key 88 = .ok (.iload_n 1, 1) := by decide +kernel
theorem dX12_key_89 : decode cX12_key 89 = .ok (.ireturn, 1) := by decide +kernel
theorem dX12_isName_0 : decode cX12_isName 0 = .ok (.iload_n 0, 1) := by decide +kernel
theorem dX12_isName_1 : decode cX12_isName 1 = .ok (.tableswitch 81 0 2 #[27, 51, 69], 27) := by decide +kernel
theorem dX12_isName_28 : decode cX12_isName 28 = .ok (.iload_n 1, 1) := by decide +kernel
theorem dX12_isName_29 : decode cX12_isName 29 = .ok (.bipush 107, 2) := by decide +kernel
theorem dX12_isName_31 : decode cX12_isName 31 = .ok (.if_icmp .eq 15, 3) := by decide +kernel
theorem dX12_isName_34 : decode cX12_isName 34 = .ok (.iload_n 1, 1) := by decide +kernel
theorem dX12_isName_35 : decode cX12_isName 35 = .ok (.bipush 100, 2) := by decide +kernel
theorem dX12_isName_37 : decode cX12_isName 37 = .ok (.if_icmp .eq 9, 3) := by decide +kernel
theorem dX12_isName_40 : decode cX12_isName 40 = .ok (.iload_n 1, 1) := by decide +kernel
theorem dX12_isName_41 : decode cX12_isName 41 = .ok (.bipush 119, 2) := by decide +kernel
theorem dX12_isName_43 : decode cX12_isName 43 = .ok (.if_icmp .ne 7, 3) := by decide +kernel
theorem dX12_isName_46 : decode cX12_isName 46 = .ok (.iconst 1, 1) := by decide +kernel
theorem dX12_isName_47 : decode cX12_isName 47 = .ok (.goto 4, 3) := by decide +kernel
theorem dX12_isName_50 : decode cX12_isName 50 = .ok (.iconst 0, 1) := by decide +kernel
theorem dX12_isName_51 : decode cX12_isName 51 = .ok (.ireturn, 1) := by decide +kernel
theorem dX12_isName_52 : decode cX12_isName 52 = .ok (.iload_n 1, 1) := by decide +kernel
theorem dX12_isName_53 : decode cX12_isName 53 = .ok (.bipush 107, 2) := by decide +kernel
theorem dX12_isName_55 : decode cX12_isName 55 = .ok (.if_icmp .eq 9, 3) := by decide +kernel
theorem dX12_isName_58 : decode cX12_isName 58 = .ok (.iload_n 1, 1) := by decide +kernel
theorem dX12_isName_59 : decode cX12_isName 59 = .ok (.bipush 121, 2) := by decide +kernel
theorem dX12_isName_61 : decode cX12_isName 61 = .ok (.if_icmp .ne 7, 3) := by decide +kernel
theorem dX12_isName_64 : decode cX12_isName 64 = .ok (.iconst 1, 1) := by decide +kernel
theorem dX12_isName_65 : decode cX12_isName 65 = .ok (.goto 4, 3) := by decide +kernel
theorem dX12_isName_68 : decode cX12_isName 68 = .ok (.iconst 0, 1) := by decide +kernel
theorem dX12_isName_69 : decode cX12_isName 69 = .ok (.ireturn, 1) := by decide +kernel
theorem dX12_isName_70 : decode cX12_isName 70 = .ok (.iload_n 1, 1) := by decide +kernel
theorem dX12_isName_71 : decode cX12_isName 71 = .ok (.bipush 110, 2) := by decide +kernel
theorem dX12_isName_73 : decode cX12_isName 73 = .ok (.if_icmp .ne 7, 3) := by decide +kernel
theorem dX12_isName_76 : decode cX12_isName 76 = .ok (.iconst 1, 1) := by decide +kernel
theorem dX12_isName_77 : decode cX12_isName 77 = .ok (.goto 4, 3) := by decide +kernel
theorem dX12_isName_80 : decode cX12_isName 80 = .ok (.iconst 0, 1) := by decide +kernel
theorem dX12_isName_81 : decode cX12_isName 81 = .ok (.ireturn, 1) := by decide +kernel
theorem dX12_isName_82 : decode cX12_isName 82 = .ok (.iload_n 1, 1) := by decide +kernel
theorem dX12_isName_83 : decode cX12_isName 83 = .ok (.bipush 99, 2) := by decide +kernel
theorem dX12_isName_85 : decode cX12_isName 85 = .ok (.if_icmp .eq 9, 3) := by decide +kernel
theorem dX12_isName_88 : decode cX12_isName 88 = .ok (.iload_n 1, 1) := by decide +kernel
theorem dX12_isName_89 : decode cX12_isName 89 = .ok (.bipush 119, 2) := by decide +kernel
theorem dX12_isName_91 : decode cX12_isName 91 = .ok (.if_icmp .ne 7, 3) := by decide +kernel
theorem dX12_isName_94 : decode cX12_isName 94 = .ok (.iconst 1, 1) := by decide +kernel
theorem dX12_isName_95 : decode cX12_isName 95 = .ok (.goto 4, 3) := by decide +kernel
theorem dX12_isName_98 : decode cX12_isName 98 = .ok (.iconst 0, 1) := by decide +kernel
theorem dX12_isName_99 : decode cX12_isName 99 = .ok (.ireturn, 1) := by decide +kernel
theorem dX12_step_0 : decode cX12_step 0 = .ok (.aload_n 0, 1) := by decide +kernel
theorem dX12_step_1 : decode cX12_step 1 = .ok (.getfield 7, 3) := by decide +kernel
theorem dX12_step_4 : decode cX12_step 4 = .ok (.aload_n 0, 1) := by decide +kernel
theorem dX12_step_5 : decode cX12_step 5 = .ok (.getfield 255, 3) := by decide +kernel
theorem dX12_step_8 : decode cX12_step 8 = .ok (.iconst 2, 1) := by decide +kernel
theorem dX12_step_9 : decode cX12_step 9 = .ok (.aload_n 0, 1) := by decide +kernel
theorem dX12_step_10 : decode cX12_step 10 = .ok (.getfield 258, 3) := by decide +kernel
theorem dX12_step_13 : decode cX12_step 13 = .ok (.imul, 1) := by decide +kernel
theorem dX12_step_14 : decode cX12_step 14 = .ok (.iadd, 1) := by decide +kernel
theorem dX12_step_15 : decode cX12_step 15 = .ok (.iload_n 1, 1) := by decide +kernel
theorem dX12_step_16 : decode cX12_step 16 = .ok (.iastore, 1) := by decide +kernel
theorem dX12_step_17 : decode cX12_step 17 = .ok (.aload_n 0, 1) := by decide +kernel
theorem dX12_step_18 : decode cX12_step 18 = .ok (.getfield 7, 3) := by decide +kernel
theorem dX12_step_21 : decode cX12_step 21 = .ok (.aload_n 0, 1) := by decide +kernel
theorem dX12_step_22 : decode cX12_step 22 = .ok (.getfield 255, 3) := by decide +kernel
theorem dX12_step_25 : decode cX12_step 25 = .ok (.iconst 2, 1) := by decide +kernel
theorem dX12_step_26 : decode cX12_step 26 = .ok (.aload_n 0, 1) := by decide +kernel
theorem dX12_step_27 : decode cX12_step 27 = .ok (.getfield 258, 3) := by decide +kernel
theorem dX12_step_30 : decode cX12_step 30 = .ok (.imul, 1) := by decide +kernel
theorem dX12_step_31 : decode cX12_step 31 = .ok (.iadd, 1) := by decide +kernel
theorem dX12_step_32 : decode cX12_step 32 = .ok (.iconst 1, 1) := by decide +kernel
theorem dX12_step_33 : decode cX12_step 33 = .ok (.iadd, 1) := by decide +kernel
theorem dX12_step_34 : decode cX12_step 34 = .ok (.iload_n 2, 1) := by decide +kernel
theorem dX12_step_35 : decode cX12_step 35 = .ok (.iastore, 1) := by decide +kernel
theorem dX12_step_36 : decode cX12_step 36 = .ok (.aload_n 0, 1) := by decide +kernel
theorem dX12_step_37 : decode cX12_step 37 = .ok (.dup, 1) := by decide +kernel
theorem dX12_step_38 : decode cX12_step 38 = .ok (.getfield 258, 3) := by decide +kernel
theorem dX12_step_41 : decode cX12_step 41 = .ok (.iconst 1, 1) := by decide +kernel
theorem dX12_step_42 : decode cX12_step 42 = .ok (.iadd, 1) := by decide +kernel
theorem dX12_step_43 : decode cX12_step 43 = .ok (.putfield 258, 3) := by decide +kernel
theorem dX12_step_46 : decode cX12_step 46 = .ok (.return_, 1) := by decide +kernel
theorem dX12_either_0 : decode cX12_either 0 = .ok (.aload_n 0, 1) := by decide +kernel
theorem dX12_either_1 : decode cX12_either 1 = .ok (.iload_n 1, 1) := by decide +kernel
theorem dX12_either_2 : decode cX12_either 2 = .ok (.invokevirtual 261, 3) := by decide +kernel
theorem dX12_either_5 : decode cX12_either 5 = .ok (.ifCond .ne 5, 3) := by decide +kernel
theorem dX12_either_8 : decode cX12_either 8 = .ok (.iconst 0, 1) := by decide +kernel
theorem dX12_either_9 : decode cX12_either 9 = .ok (.ireturn, 1) := by decide +kernel
theorem dX12_either_10 : decode cX12_either 10 = .ok (.aload_n 0, 1) := by decide +kernel
theorem dX12_either_11 : decode cX12_either 11 = .ok (.bipush 124, 2) := by decide +kernel
theorem dX12_either_13 : decode cX12_either 13 = .ok (.invokevirtual 264, 3) := by decide +kernel
theorem dX12_either_16 : decode cX12_either 16 = .ok (.ifCond .eq 27, 3) := by decide +kernel
theorem dX12_either_19 : decode cX12_either 19 = .ok (.aload_n 0, 1) := by decide +kernel
theorem dX12_either_20 : decode cX12_either 20 = .ok (.invokevirtual 267, 3) := by decide +kernel
theorem dX12_either_23 : decode cX12_either 23 = .ok (.aload_n 0, 1) := by decide +kernel
theorem dX12_either_24 : decode cX12_either 24 = .ok (.iload_n 1, 1) := by decide +kernel
theorem dX12_either_25 : decode cX12_either 25 = .ok (.invokevirtual 261, 3) := by decide +kernel
theorem dX12_either_28 : decode cX12_either 28 = .ok (.ifCond .ne 5, 3) := by decide +kernel
theorem dX12_either_31 : decode cX12_either 31 = .ok (.iconst 0, 1) := by decide +kernel
theorem dX12_either_32 : decode cX12_either 32 = .ok (.ireturn, 1) := by decide +kernel
theorem dX12_either_33 : decode cX12_either 33 = .ok (.aload_n 0, 1) := by decide +kernel
theorem dX12_either_34 : decode cX12_either 34 = .ok (.iconst 2, 1) := by decide +kernel
theorem dX12_either_35 : decode cX12_either 35 = .ok (.bipush 124, 2) := by decide +kernel
theorem dX12_either_37 : decode cX12_either 37 = .ok (.invokevirtual 270, 3) := by decide +kernel
theorem dX12_either_40 : decode cX12_either 40 = .ok (.goto (-30), 3) := by decide +kernel
theorem dX12_either_43 : decode cX12_either 43 = .ok (.iconst 1, 1) := by decide +kernel
theorem dX12_either_44 : decode cX12_either 44 = .ok (.ireturn, 1) := by decide +kernel
theorem dX12_both_0 : decode cX12_both 0 = .ok (.aload_n 0, 1) := by decide +kernel
theorem dX12_both_1 : decode cX12_both 1 = .ok (.iload_n 1, 1) := by decide +kernel
theorem dX12_both_2 : decode cX12_both 2 = .ok (.invokevirtual 274, 3) := by decide +kernel
theorem dX12_both_5 : decode cX12_both 5 = .ok (.ifCond .ne 5, 3) := by decide +kernel
theorem dX12_both_8 : decode cX12_both 8 = .ok (.iconst 0, 1) := by decide +kernel
theorem dX12_both_9 : decode cX12_both 9 = .ok (.ireturn, 1) := by decide +kernel
theorem dX12_both_10 : decode cX12_both 10 = .ok (.aload_n 0, 1) := by decide +kernel
theorem dX12_both_11 : decode cX12_both 11 = .ok (.bipush 38, 2) := by decide +kernel
theorem dX12_both_13 : decode cX12_both 13 = .ok (.invokevirtual 264, 3) := by decide +kernel
theorem dX12_both_16 : decode cX12_both 16 = .ok (.ifCond .eq 27, 3) := by decide +kernel
theorem dX12_both_19 : decode cX12_both 19 = .ok (.aload_n 0, 1) := by decide +kernel
theorem dX12_both_20 : decode cX12_both 20 = .ok (.invokevirtual 267, 3) := by decide +kernel
theorem dX12_both_23 : decode cX12_both 23 = .ok (.aload_n 0, 1) := by decide +kernel
theorem dX12_both_24 : decode cX12_both 24 = .ok (.iload_n 1, 1) := by decide +kernel
theorem dX12_both_25 : decode cX12_both 25 = .ok (.invokevirtual 274, 3) := by decide +kernel
theorem dX12_both_28 : decode cX12_both 28 = .ok (.ifCond .ne 5, 3) := by decide +kernel
theorem dX12_both_31 : decode cX12_both 31 = .ok (.iconst 0, 1) := by decide +kernel
theorem dX12_both_32 : decode cX12_both 32 = .ok (.ireturn, 1) := by decide +kernel
theorem dX12_both_33 : decode cX12_both 33 = .ok (.aload_n 0, 1) := by decide +kernel
theorem dX12_both_34 : decode cX12_both 34 = .ok (.iconst 2, 1) := by decide +kernel
theorem dX12_both_35 : decode cX12_both 35 = .ok (.bipush 38, 2) := by decide +kernel
theorem dX12_both_37 : decode cX12_both 37 = .ok (.invokevirtual 270, 3) := by decide +kernel
theorem dX12_both_40 : decode cX12_both 40 = .ok (.goto (-30), 3) := by decide +kernel
theorem dX12_both_43 : decode cX12_both 43 = .ok (.iconst 1, 1) := by decide +kernel
theorem dX12_both_44 : decode cX12_both 44 = .ok (.ireturn, 1) := by decide +kernel
theorem dX12_test_0 : decode cX12_test 0 = .ok (.aload_n 0, 1) := by decide +kernel
theorem dX12_test_1 : decode cX12_test 1 = .ok (.iload_n 1, 1) := by decide +kernel
theorem dX12_test_2 : decode cX12_test 2 = .ok (.invokevirtual 277, 3) := by decide +kernel
theorem dX12_test_5 : decode cX12_test 5 = .ok (.ifCond .ne 5, 3) := by decide +kernel
theorem dX12_test_8 : decode cX12_test 8 = .ok (.iconst 0, 1) := by decide +kernel
theorem dX12_test_9 : decode cX12_test 9 = .ok (.ireturn, 1) := by decide +kernel
theorem dX12_test_10 : decode cX12_test 10 = .ok (.aload_n 0, 1) := by decide +kernel
theorem dX12_test_11 : decode cX12_test 11 = .ok (.bipush 60, 2) := by decide +kernel
theorem dX12_test_13 : decode cX12_test 13 = .ok (.invokevirtual 264, 3) := by decide +kernel
theorem dX12_test_16 : decode cX12_test 16 = .ok (.ifCond .ne 21, 3) := by decide +kernel
theorem dX12_test_19 : decode cX12_test 19 = .ok (.aload_n 0, 1) := by decide +kernel
theorem dX12_test_20 : decode cX12_test 20 = .ok (.bipush 61, 2) := by decide +kernel
theorem dX12_test_22 : decode cX12_test 22 = .ok (.invokevirtual 264, 3) := by decide +kernel
theorem dX12_test_25 : decode cX12_test 25 = .ok (.ifCond .ne 12, 3) := by decide +kernel
theorem dX12_test_28 : decode cX12_test 28 = .ok (.aload_n 0, 1) := by decide +kernel
theorem dX12_test_29 : decode cX12_test 29 = .ok (.bipush 62, 2) := by decide +kernel
theorem dX12_test_31 : decode cX12_test 31 = .ok (.invokevirtual 264, 3) := by decide +kernel
theorem dX12_test_34 : decode cX12_test 34 = .ok (.ifCond .eq 28, 3) := by decide +kernel
theorem dX12_test_37 : decode cX12_test 37 = .ok (.aload_n 0, 1) := by decide +kernel
theorem dX12_test_38 : decode cX12_test 38 = .ok (.getfield 238, 3) := by decide +kernel
theorem dX12_test_41 : decode cX12_test 41 = .ok (.istore_n 2, 1) := by decide +kernel
theorem dX12_test_42 : decode cX12_test 42 = .ok (.aload_n 0, 1) := by decide +kernel
theorem dX12_test_43 : decode cX12_test 43 = .ok (.invokevirtual 267, 3) := by decide +kernel
theorem dX12_test_46 : decode cX12_test 46 = .ok (.aload_n 0, 1) := by decide +kernel
theorem dX12_test_47 : decode cX12_test 47 = .ok (.iload_n 1, 1) := by decide +kernel
theorem dX12_test_48 : decode cX12_test 48 = .ok (.invokevirtual 277, 3) := by decide +kernel
theorem dX12_test_51 : decode cX12_test 51 = .ok (.ifCond .ne 5, 3) := by decide +kernel
theorem dX12_test_54 : decode cX12_test 54 = .ok (.iconst 0, 1) := by decide +kernel
theorem dX12_test_55 : decode cX12_test 55 = .ok (.ireturn, 1) := by decide +kernel
theorem dX12_test_56 : decode cX12_test 56 = .ok (.aload_n 0, 1) := by decide +kernel
theorem dX12_test_57 : decode cX12_test 57 = .ok (.iconst 2, 1) := by decide +kernel
theorem dX12_test_58 : decode cX12_test 58 = .ok (.iload_n 2, 1) := by decide +kernel
theorem dX12_test_59 : decode cX12_test 59 = .ok (.invokevirtual 270, 3) := by decide +kernel
theorem dX12_test_62 : decode cX12_test 62 = .ok (.iconst 1, 1) := by decide +kernel
theorem dX12_test_63 : decode cX12_test 63 = .ok (.ireturn, 1) := by decide +kernel
theorem dX12_sum_0 : decode cX12_sum 0 = .ok (.aload_n 0, 1) := by decide +kernel
theorem dX12_sum_1 : decode cX12_sum 1 = .ok (.iload_n 1, 1) := by decide +kernel
theorem dX12_sum_2 : decode cX12_sum 2 = .ok (.invokevirtual 280, 3) := by decide +kernel
theorem dX12_sum_5 : decode cX12_sum 5 = .ok (.ifCond .ne 5, 3) := by decide +kernel
theorem dX12_sum_8 : decode cX12_sum 8 = .ok (.iconst 0, 1) := by decide +kernel
theorem dX12_sum_9 : decode cX12_sum 9 = .ok (.ireturn, 1) := by decide +kernel
theorem dX12_sum_10 : decode cX12_sum 10 = .ok (.aload_n 0, 1) := by decide +kernel
theorem dX12_sum_11 : decode cX12_sum 11 = .ok (.bipush 43, 2) := by decide +kernel
theorem dX12_sum_13 : decode cX12_sum 13 = .ok (.invokevirtual 264, 3) := by decide +kernel
theorem dX12_sum_16 : decode cX12_sum 16 = .ok (.ifCond .ne 12, 3) := by decide +kernel
theorem dX12_sum_19 : decode cX12_sum 19 = .ok (.aload_n 0, 1) := by decide +kernel
theorem dX12_sum_20 : decode cX12_sum 20 = .ok (.bipush 45, 2) := by decide +kernel
theorem dX12_sum_22 : decode cX12_sum 22 = .ok (.invokevirtual 264, 3) := by decide +kernel
theorem dX12_sum_25 : decode cX12_sum 25 = .ok (.ifCond .eq 31, 3) := by decide +kernel
theorem dX12_sum_28 : decode cX12_sum 28 = .ok (.aload_n 0, 1) := by decide +kernel
theorem dX12_sum_29 : decode cX12_sum 29 = .ok (.getfield 238, 3) := by decide +kernel
theorem dX12_sum_32 : decode cX12_sum 32 = .ok (.istore_n 2, 1) := by decide +kernel
theorem dX12_sum_33 : decode cX12_sum 33 = .ok (.aload_n 0, 1) := by decide +kernel
theorem dX12_sum_34 : decode cX12_sum 34 = .ok (.invokevirtual 267, 3) := by decide +kernel
theorem dX12_sum_37 : decode cX12_sum 37 = .ok (.aload_n 0, 1) := by decide +kernel
theorem dX12_sum_38 : decode cX12_sum 38 = .ok (.iload_n 1, 1) := by decide +kernel
theorem dX12_sum_39 : decode cX12_sum 39 = .ok (.invokevirtual 280, 3) := by decide +kernel
theorem dX12_sum_42 : decode cX12_sum 42 = .ok (.ifCond .ne 5, 3) := by decide +kernel
theorem dX12_sum_45 : decode cX12_sum 45 = .ok (.iconst 0, 1) := by decide +kernel
theorem dX12_sum_46 : decode cX12_sum 46 = .ok (.ireturn, 1) := by decide +kernel
theorem dX12_sum_47 : decode cX12_sum 47 = .ok (.aload_n 0, 1) := by decide +kernel
theorem dX12_sum_48 : decode cX12_sum 48 = .ok (.iconst 2, 1) := by decide +kernel
theorem dX12_sum_49 : decode cX12_sum 49 = .ok (.iload_n 2, 1) := by decide +kernel
theorem dX12_sum_50 : decode cX12_sum 50 = .ok (.invokevirtual 270, 3) := by decide +kernel
theorem dX12_sum_53 : decode cX12_sum 53 = .ok (.goto (-43), 3) := by decide +kernel
theorem dX12_sum_56 : decode cX12_sum 56 = .ok (.iconst 1, 1) := by decide +kernel
theorem dX12_sum_57 : decode cX12_sum 57 = .ok (.ireturn, 1) := by decide +kernel
theorem dX12_term_0 : decode cX12_term 0 = .ok (.aload_n 0, 1) := by decide +kernel
theorem dX12_term_1 : decode cX12_term 1 = .ok (.iload_n 1, 1) := by decide +kernel
theorem dX12_term_2 : decode cX12_term 2 = .ok (.invokevirtual 283, 3) := by decide +kernel
theorem dX12_term_5 : decode cX12_term 5 = .ok (.ifCond .ne 5, 3) := by decide +kernel
theorem dX12_term_8 : decode cX12_term 8 = .ok (.iconst 0, 1) := by decide +kernel
theorem dX12_term_9 : decode cX12_term 9 = .ok (.ireturn, 1) := by decide +kernel
theorem dX12_term_10 : decode cX12_term 10 = .ok (.aload_n 0, 1) := by decide +kernel
theorem dX12_term_11 : decode cX12_term 11 = .ok (.bipush 42, 2) := by decide +kernel
theorem dX12_term_13 : decode cX12_term 13 = .ok (.invokevirtual 264, 3) := by decide +kernel
theorem dX12_term_16 : decode cX12_term 16 = .ok (.ifCond .ne 12, 3) := by decide +kernel
theorem dX12_term_19 : decode cX12_term 19 = .ok (.aload_n 0, 1) := by decide +kernel
theorem dX12_term_20 : decode cX12_term 20 = .ok (.bipush 47, 2) := by decide +kernel
theorem dX12_term_22 : decode cX12_term 22 = .ok (.invokevirtual 264, 3) := by decide +kernel
theorem dX12_term_25 : decode cX12_term 25 = .ok (.ifCond .eq 31, 3) := by decide +kernel
theorem dX12_term_28 : decode cX12_term 28 = .ok (.aload_n 0, 1) := by decide +kernel
theorem dX12_term_29 : decode cX12_term 29 = .ok (.getfield 238, 3) := by decide +kernel
theorem dX12_term_32 : decode cX12_term 32 = .ok (.istore_n 2, 1) := by decide +kernel
theorem dX12_term_33 : decode cX12_term 33 = .ok (.aload_n 0, 1) := by decide +kernel
theorem dX12_term_34 : decode cX12_term 34 = .ok (.invokevirtual 267, 3) := by decide +kernel
theorem dX12_term_37 : decode cX12_term 37 = .ok (.aload_n 0, 1) := by decide +kernel
theorem dX12_term_38 : decode cX12_term 38 = .ok (.iload_n 1, 1) := by decide +kernel
theorem dX12_term_39 : decode cX12_term 39 = .ok (.invokevirtual 283, 3) := by decide +kernel
theorem dX12_term_42 : decode cX12_term 42 = .ok (.ifCond .ne 5, 3) := by decide +kernel
theorem dX12_term_45 : decode cX12_term 45 = .ok (.iconst 0, 1) := by decide +kernel
theorem dX12_term_46 : decode cX12_term 46 = .ok (.ireturn, 1) := by decide +kernel
theorem dX12_term_47 : decode cX12_term 47 = .ok (.aload_n 0, 1) := by decide +kernel
theorem dX12_term_48 : decode cX12_term 48 = .ok (.iconst 2, 1) := by decide +kernel
theorem dX12_term_49 : decode cX12_term 49 = .ok (.iload_n 2, 1) := by decide +kernel
theorem dX12_term_50 : decode cX12_term 50 = .ok (.invokevirtual 270, 3) := by decide +kernel
theorem dX12_term_53 : decode cX12_term 53 = .ok (.goto (-43), 3) := by decide +kernel
theorem dX12_term_56 : decode cX12_term 56 = .ok (.iconst 1, 1) := by decide +kernel
theorem dX12_term_57 : decode cX12_term 57 = .ok (.ireturn, 1) := by decide +kernel
theorem dX12_part0_0 : decode cX12_part0 0 = .ok (.aload_n 0, 1) := by decide +kernel
theorem dX12_part0_1 : decode cX12_part0 1 = .ok (.getfield 229, 3) := by decide +kernel
theorem dX12_part0_4 : decode cX12_part0 4 = .ok (.iconst 2, 1) := by decide +kernel
theorem dX12_part0_5 : decode cX12_part0 5 = .ok (.if_icmp .ne 28, 3) := by decide +kernel
theorem dX12_part0_8 : decode cX12_part0 8 = .ok (.aload_n 0, 1) := by decide +kernel
theorem dX12_part0_9 : decode cX12_part0 9 = .ok (.iconst 0, 1) := by decide +kernel
theorem dX12_part0_10 : decode cX12_part0 10 = .ok (.aload_n 0, 1) := by decide +kernel
theorem dX12_part0_11 : decode cX12_part0 11 = .ok (.getfield 244, 3) := by decide +kernel
theorem dX12_part0_14 : decode cX12_part0 14 = .ok (.invokevirtual 270, 3) := by decide +kernel
theorem dX12_part0_17 : decode cX12_part0 17 = .ok (.aload_n 0, 1) := by decide +kernel
theorem dX12_part0_18 : decode cX12_part0 18 = .ok (.dup, 1) := by decide +kernel
theorem dX12_part0_19 : decode cX12_part0 19 = .ok (.getfield 286, 3) := by decide +kernel
theorem dX12_part0_22 : decode cX12_part0 22 = .ok (.iconst 1, 1) := by decide +kernel
theorem dX12_part0_23 : decode cX12_part0 23 = .ok (.iadd, 1) := by decide +kernel
theorem dX12_part0_24 : decode cX12_part0 24 = .ok (.putfield 286, 3) := by decide +kernel
theorem dX12_part0_27 : decode cX12_part0 27 = .ok (.aload_n 0, 1) := by decide +kernel
theorem dX12_part0_28 : decode cX12_part0 28 = .ok (.invokevirtual 267, 3) := by decide +kernel
theorem dX12_part0_31 : decode cX12_part0 31 = .ok (.iconst 1, 1) := by decide +kernel
theorem dX12_part0_32 : decode cX12_part0 32 = .ok (.ireturn, 1) := by decide +kernel
theorem dX12_part0_33 : decode cX12_part0 33 = .ok (.aload_n 0, 1) := by decide +kernel
theorem dX12_part0_34 : decode cX12_part0 34 = .ok (.getfield 229, 3) := by decide +kernel
theorem dX12_part0_37 : decode cX12_part0 37 = .ok (.iconst 1, 1) := by decide +kernel
theorem dX12_part0_38 : decode cX12_part0 38 = .ok (.if_icmp .ne 46, 3) := by decide +kernel
theorem dX12_part0_41 : decode cX12_part0 41 = .ok (.aload_n 0, 1) := by decide +kernel
theorem dX12_part0_42 : decode cX12_part0 42 = .ok (.getfield 238, 3) := by decide +kernel
theorem dX12_part0_45 : decode cX12_part0 45 = .ok (.ifCond .eq 39, 3) := by decide +kernel
theorem dX12_part0_48 : decode cX12_part0 48 = .ok (.iload_n 1, 1) := by decide +kernel
theorem dX12_part0_49 : decode cX12_part0 49 = .ok (.aload_n 0, 1) := by decide +kernel
theorem dX12_part0_50 : decode cX12_part0 50 = .ok (.getfield 238, 3) := by decide +kernel
theorem dX12_part0_53 : decode cX12_part0 53 = .ok (.invokestatic 289, 3) := by decide +kernel
theorem dX12_part0_56 : decode cX12_part0 56 = .ok (.ifCond .eq 28, 3) := by decide +kernel
theorem dX12_part0_59 : decode cX12_part0 59 = .ok (.aload_n 0, 1) := by decide +kernel
theorem dX12_part0_60 : decode cX12_part0 60 = .ok (.iconst 1, 1) := by decide +kernel
theorem dX12_part0_61 : decode cX12_part0 61 = .ok (.aload_n 0, 1) := by decide +kernel
theorem dX12_part0_62 : decode cX12_part0 62 = .ok (.getfield 238, 3) := by decide +kernel
theorem dX12_part0_65 : decode cX12_part0 65 = .ok (.invokevirtual 270, 3) := by decide +kernel
theorem dX12_part0_68 : decode cX12_part0 68 = .ok (.aload_n 0, 1) := by decide +kernel
theorem dX12_part0_69 : decode cX12_part0 69 = .ok (.dup, 1) := by decide +kernel
theorem dX12_part0_70 : decode cX12_part0 70 = .ok (.getfield 286, 3) := by decide +kernel
theorem dX12_part0_73 : decode cX12_part0 73 = .ok (.iconst 1, 1) := by decide +kernel
theorem dX12_part0_74 : decode cX12_part0 74 = .ok (.iadd, 1) := by decide +kernel
theorem dX12_part0_75 : decode cX12_part0 75 = .ok (.putfield 286, 3) := by decide +kernel
theorem dX12_part0_78 : decode cX12_part0 78 = .ok (.aload_n 0, 1) := by decide +kernel
theorem dX12_part0_79 : decode cX12_part0 79 = .ok (.invokevirtual 267, 3) := by decide +kernel
theorem dX12_part0_82 : decode cX12_part0 82 = .ok (.iconst 1, 1) := by decide +kernel
theorem dX12_part0_83 : decode cX12_part0 83 = .ok (.ireturn, 1) := by decide +kernel
theorem dX12_part0_84 : decode cX12_part0 84 = .ok (.aload_n 0, 1) := by decide +kernel
theorem dX12_part0_85 : decode cX12_part0 85 = .ok (.bipush 33, 2) := by decide +kernel
theorem dX12_part0_87 : decode cX12_part0 87 = .ok (.invokevirtual 264, 3) := by decide +kernel
theorem dX12_part0_90 : decode cX12_part0 90 = .ok (.ifCond .eq 55, 3) := by decide +kernel
theorem dX12_part0_93 : decode cX12_part0 93 = .ok (.aload_n 0, 1) := by decide +kernel
theorem dX12_part0_94 : decode cX12_part0 94 = .ok (.getfield 293, 3) := by decide +kernel
theorem dX12_part0_97 : decode cX12_part0 97 = .ok (.bipush 8, 2) := by decide +kernel
theorem dX12_part0_99 : decode cX12_part0 99 = .ok (.if_icmp .ge 46, 3) := by decide +kernel
theorem dX12_part0_102 : decode cX12_part0 102 = .ok (.aload_n 0, 1) := by decide +kernel
theorem dX12_part0_103 : decode cX12_part0 103 = .ok (.dup, 1) := by decide +kernel
theorem dX12_part0_104 : decode cX12_part0 104 = .ok (.getfield 293, 3) := by decide +kernel
theorem dX12_part0_107 : decode cX12_part0 107 = .ok (.iconst 1, 1) := by decide +kernel
theorem dX12_part0_108 : decode cX12_part0 108 = .ok (.iadd, 1) := by decide +kernel
theorem dX12_part0_109 : decode cX12_part0 109 = .ok (.putfield 293, 3) := by decide +kernel
theorem dX12_part0_112 : decode cX12_part0 112 = .ok (.aload_n 0, 1) := by decide +kernel
theorem dX12_part0_113 : decode cX12_part0 113 = .ok (.invokevirtual 267, 3) := by decide +kernel
theorem dX12_part0_116 : decode cX12_part0 116 = .ok (.aload_n 0, 1) := by decide +kernel
theorem dX12_part0_117 : decode cX12_part0 117 = .ok (.iload_n 1, 1) := by decide +kernel
theorem dX12_part0_118 : decode cX12_part0 118 = .ok (.invokevirtual 283, 3) := by decide +kernel
theorem dX12_part0_121 : decode cX12_part0 121 = .ok (.ifCond .ne 5, 3) := by decide +kernel
theorem dX12_part0_124 : decode cX12_part0 124 = .ok (.iconst 0, 1) := by decide +kernel
theorem dX12_part0_125 : decode cX12_part0 125 = .ok (.ireturn, 1) := by decide +kernel
theorem dX12_part0_126 : decode cX12_part0 126 = .ok (.aload_n 0, 1) := by decide +kernel
theorem dX12_part0_127 : decode cX12_part0 127 = .ok (.dup, 1) := by decide +kernel
theorem dX12_part0_128 : decode cX12_part0 128 = .ok (.getfield 293, 3) := by decide +kernel
theorem dX12_part0_131 : decode cX12_part0 131 = .ok (.iconst 1, 1) := by decide +kernel
theorem dX12_part0_132 : decode cX12_part0 132 = .ok (.isub, 1) := by decide +kernel
theorem dX12_part0_133 : decode cX12_part0 133 = .ok (.putfield 293, 3) := by decide +kernel
theorem dX12_part0_136 : decode cX12_part0 136 = .ok (.aload_n 0, 1) := by decide +kernel
theorem dX12_part0_137 : decode cX12_part0 137 = .ok (.iconst 2, 1) := by decide +kernel
theorem dX12_part0_138 : decode cX12_part0 138 = .ok (.bipush 33, 2) := by decide +kernel
theorem dX12_part0_140 : decode cX12_part0 140 = .ok (.invokevirtual 270, 3) := by decide +kernel
theorem dX12_part0_143 : decode cX12_part0 143 = .ok (.iconst 1, 1) := by decide +kernel
theorem dX12_part0_144 : decode cX12_part0 144 = .ok (.ireturn, 1) := by decide +kernel
theorem dX12_part0_145 : decode cX12_part0 145 = .ok (.aload_n 0, 1) := by decide +kernel
theorem dX12_part0_146 : decode cX12_part0 146 = .ok (.bipush 40, 2) := by decide +kernel
theorem dX12_part0_148 : decode cX12_part0 148 = .ok (.invokevirtual 264, 3) := by decide +kernel
theorem dX12_part0_151 : decode cX12_part0 151 = .ok (.ifCond .eq 12, 3) := by decide +kernel
theorem dX12_part0_154 : decode cX12_part0 154 = .ok (.aload_n 0, 1) := by decide +kernel
theorem dX12_part0_155 : decode cX12_part0 155 = .ok (.getfield 296, 3) := by decide +kernel
theorem dX12_part0_158 : decode cX12_part0 158 = .ok (.bipush 8, 2) := by decide +kernel
theorem dX12_part0_160 : decode cX12_part0 160 = .ok (.if_icmp .ne 5, 3) := by decide +kernel
theorem dX12_part0_163 : decode cX12_part0 163 = .ok (.iconst 0, 1) := by decide +kernel
theorem dX12_part0_164 : decode cX12_part0 164 = .ok (.ireturn, 1) := by decide +kernel
theorem dX12_part0_165 : decode cX12_part0 165 = .ok (.aload_n 0, 1) := by decide +kernel
theorem dX12_part0_166 : decode cX12_part0 166 = .ok (.dup, 1) := by decide +kernel
theorem dX12_part0_167 : decode cX12_part0 167 = .ok (.getfield 296, 3) := by decide +kernel
theorem dX12_part0_170 : decode cX12_part0 170 = .ok (.iconst 1, 1) := by decide +kernel
theorem dX12_part0_171 : decode cX12_part0 171 = .ok (.iadd, 1) := by decide +kernel
theorem dX12_part0_172 : decode cX12_part0 172 = .ok (.putfield 296, 3) := by decide +kernel
theorem dX12_part0_175 : decode cX12_part0 175 = .ok (.aload_n 0, 1) := by decide +kernel
theorem dX12_part0_176 : decode cX12_part0 176 = .ok (.invokevirtual 267, 3) := by decide +kernel
theorem dX12_part0_179 : decode cX12_part0 179 = .ok (.aload_n 0, 1) := by decide +kernel
theorem dX12_part0_180 : decode cX12_part0 180 = .ok (.iload_n 1, 1) := by decide +kernel
theorem dX12_part0_181 : decode cX12_part0 181 = .ok (.invokevirtual 299, 3) := by decide +kernel
theorem dX12_part0_184 : decode cX12_part0 184 = .ok (.ifCond .eq 12, 3) := by decide +kernel
theorem dX12_part0_187 : decode cX12_part0 187 = .ok (.aload_n 0, 1) := by decide +kernel
theorem dX12_part0_188 : decode cX12_part0 188 = .ok (.bipush 41, 2) := by decide +kernel
theorem dX12_part0_190 : decode cX12_part0 190 = .ok (.invokevirtual 264, 3) := by decide +kernel
theorem dX12_part0_193 : decode cX12_part0 193 = .ok (.ifCond .ne 5, 3) := by decide +kernel
theorem dX12_part0_196 : decode cX12_part0 196 = .ok (.iconst 0, 1) := by decide +kernel
theorem dX12_part0_197 : decode cX12_part0 197 = .ok (.ireturn, 1) := by decide +kernel
theorem dX12_part0_198 : decode cX12_part0 198 = .ok (.aload_n 0, 1) := by decide +kernel
theorem dX12_part0_199 : decode cX12_part0 199 = .ok (.dup, 1) := by decide +kernel
theorem dX12_part0_200 : decode cX12_part0 200 = .ok (.getfield 296, 3) := by decide +kernel
theorem dX12_part0_203 : decode cX12_part0 203 = .ok (.iconst 1, 1) := by decide +kernel
theorem dX12_part0_204 : decode cX12_part0 204 = .ok (.isub, 1) := by decide +kernel
theorem dX12_part0_205 : decode cX12_part0 205 = .ok (.putfield 296, 3) := by decide +kernel
theorem dX12_part0_208 : decode cX12_part0 208 = .ok (.aload_n 0, 1) := by decide +kernel
theorem dX12_part0_209 : decode cX12_part0 209 = .ok (.invokevirtual 267, 3) := by decide +kernel
theorem dX12_part0_212 : decode cX12_part0 212 = .ok (.iconst 1, 1) := by decide +kernel
theorem dX12_part0_213 : decode cX12_part0 213 = .ok (.ireturn, 1) := by decide +kernel
theorem dX12_parse_0 : decode cX12_parse 0 = .ok (.aload_n 0, 1) := by decide +kernel
theorem dX12_parse_1 : decode cX12_parse 1 = .ok (.iconst 0, 1) := by decide +kernel
theorem dX12_parse_2 : decode cX12_parse 2 = .ok (.putfield 226, 3) := by decide +kernel
theorem dX12_parse_5 : decode cX12_parse 5 = .ok (.aload_n 0, 1) := by decide +kernel
theorem dX12_parse_6 : decode cX12_parse 6 = .ok (.iconst 3, 1) := by decide +kernel
theorem dX12_parse_7 : decode cX12_parse 7 = .ok (.putfield 229, 3) := by decide +kernel
theorem dX12_parse_10 : decode cX12_parse 10 = .ok (.aload_n 0, 1) := by decide +kernel
theorem dX12_parse_11 : decode cX12_parse 11 = .ok (.iconst 0, 1) := by decide +kernel
theorem dX12_parse_12 : decode cX12_parse 12 = .ok (.putfield 296, 3) := by decide +kernel
theorem dX12_parse_15 : decode cX12_parse 15 = .ok (.aload_n 0, 1) := by decide +kernel
theorem dX12_parse_16 : decode cX12_parse 16 = .ok (.iconst 0, 1) := by decide +kernel
theorem dX12_parse_17 : decode cX12_parse 17 = .ok (.putfield 293, 3) := by decide +kernel
theorem dX12_parse_20 : decode cX12_parse 20 = .ok (.aload_n 0, 1) := by decide +kernel
theorem dX12_parse_21 : decode cX12_parse 21 = .ok (.iconst 0, 1) := by decide +kernel
theorem dX12_parse_22 : decode cX12_parse 22 = .ok (.putfield 258, 3) := by decide +kernel
theorem dX12_parse_25 : decode cX12_parse 25 = .ok (.aload_n 0, 1) := by decide +kernel
theorem dX12_parse_26 : decode cX12_parse 26 = .ok (.iconst 0, 1) := by decide +kernel
theorem dX12_parse_27 : decode cX12_parse 27 = .ok (.putfield 286, 3) := by decide +kernel
theorem dX12_parse_30 : decode cX12_parse 30 = .ok (.aload_n 0, 1) := by decide +kernel
theorem dX12_parse_31 : decode cX12_parse 31 = .ok (.aload_n 0, 1) := by decide +kernel
theorem dX12_parse_32 : decode cX12_parse 32 = .ok (.getfield 7, 3) := by decide +kernel
theorem dX12_parse_35 : decode cX12_parse 35 = .ok (.iconst 3, 1) := by decide +kernel
theorem dX12_parse_36 : decode cX12_parse 36 = .ok (.iaload, 1) := by decide +kernel
theorem dX12_parse_37 : decode cX12_parse 37 = .ok (.bipush 14, 2) := by decide +kernel
theorem dX12_parse_39 : decode cX12_parse 39 = .ok (.if_icmp .ge 18, 3) := by decide +kernel
theorem dX12_parse_42 : decode cX12_parse 42 = .ok (.aload_n 0, 1) := by decide +kernel
theorem dX12_parse_43 : decode cX12_parse 43 = .ok (.aload_n 0, 1) := by decide +kernel
theorem dX12_parse_44 : decode cX12_parse 44 = .ok (.getfield 7, 3) := by decide +kernel
theorem dX12_parse_47 : decode cX12_parse 47 = .ok (.iconst 3, 1) := by decide +kernel
theorem dX12_parse_48 : decode cX12_parse 48 = .ok (.iaload, 1) := by decide +kernel
theorem dX12_parse_49 : decode cX12_parse 49 = .ok (.invokevirtual 302, 3) := by decide +kernel
theorem dX12_parse_52 : decode cX12_parse 52 = .ok (.iconst 4, 1) := by decide +kernel
theorem dX12_parse_53 : decode cX12_parse 53 = .ok (.iadd, 1) := by decide +kernel
theorem dX12_parse_54 : decode cX12_parse 54 = .ok (.goto 6, 3) := by decide +kernel
theorem dX12_parse_57 : decode cX12_parse 57 = .ok (.sipush 5330, 3) := by decide +kernel
theorem dX12_parse_60 : decode cX12_parse 60 = .ok (.putfield 255, 3) := by decide +kernel
theorem dX12_parse_63 : decode cX12_parse 63 = .ok (.aload_n 0, 1) := by decide +kernel
theorem dX12_parse_64 : decode cX12_parse 64 = .ok (.invokevirtual 267, 3) := by decide +kernel
theorem dX12_parse_67 : decode cX12_parse 67 = .ok (.aload_n 0, 1) := by decide +kernel
theorem dX12_parse_68 : decode cX12_parse 68 = .ok (.invokevirtual 305, 3) := by decide +kernel
theorem dX12_parse_71 : decode cX12_parse 71 = .ok (.istore_n 1, 1) := by decide +kernel
theorem dX12_parse_72 : decode cX12_parse 72 = .ok (.iload_n 1, 1) := by decide +kernel
theorem dX12_parse_73 : decode cX12_parse 73 = .ok (.ifCond .lt 7, 3) := by decide +kernel
theorem dX12_parse_76 : decode cX12_parse 76 = .ok (.iconst 1, 1) := by decide +kernel
theorem dX12_parse_77 : decode cX12_parse 77 = .ok (.goto 4, 3) := by decide +kernel
theorem dX12_parse_80 : decode cX12_parse 80 = .ok (.iconst 0, 1) := by decide +kernel
theorem dX12_parse_81 : decode cX12_parse 81 = .ok (.istore_n 2, 1) := by decide +kernel
theorem dX12_parse_82 : decode cX12_parse 82 = .ok (.iload_n 2, 1) := by decide +kernel
theorem dX12_parse_83 : decode cX12_parse 83 = .ok (.ifCond .eq 28, 3) := by decide +kernel
theorem dX12_parse_86 : decode cX12_parse 86 = .ok (.aload_n 0, 1) := by decide +kernel
theorem dX12_parse_87 : decode cX12_parse 87 = .ok (.invokevirtual 267, 3) := by decide +kernel
theorem dX12_parse_90 : decode cX12_parse 90 = .ok (.aload_n 0, 1) := by decide +kernel
theorem dX12_parse_91 : decode cX12_parse 91 = .ok (.iload_n 1, 1) := by decide +kernel
theorem dX12_parse_92 : decode cX12_parse 92 = .ok (.invokevirtual 299, 3) := by decide +kernel
theorem dX12_parse_95 : decode cX12_parse 95 = .ok (.ifCond .eq 14, 3) := by decide +kernel
theorem dX12_parse_98 : decode cX12_parse 98 = .ok (.aload_n 0, 1) := by decide +kernel
theorem dX12_parse_99 : decode cX12_parse 99 = .ok (.getfield 229, 3) := by decide +kernel
theorem dX12_parse_102 : decode cX12_parse 102 = .ok (.ifCond .ne 7, 3) := by decide +kernel
theorem dX12_parse_105 : decode cX12_parse 105 = .ok (.iconst 1, 1) := by decide +kernel
theorem dX12_parse_106 : decode cX12_parse 106 = .ok (.goto 4, 3) := by decide +kernel
theorem dX12_parse_109 : decode cX12_parse 109 = .ok (.iconst 0, 1) := by decide +kernel
theorem dX12_parse_110 : decode cX12_parse 110 = .ok (.istore_n 2, 1) := by decide +kernel
theorem dX12_parse_111 : decode cX12_parse 111 = .ok (.aload_n 0, 1) := by decide +kernel
theorem dX12_parse_112 : decode cX12_parse 112 = .ok (.iconst 0, 1) := by decide +kernel
theorem dX12_parse_113 : decode cX12_parse 113 = .ok (.putfield 214, 3) := by decide +kernel
theorem dX12_parse_116 : decode cX12_parse 116 = .ok (.iload_n 2, 1) := by decide +kernel
theorem dX12_parse_117 : decode cX12_parse 117 = .ok (.ifCond .eq 7, 3) := by decide +kernel
theorem dX12_parse_120 : decode cX12_parse 120 = .ok (.iload_n 1, 1) := by decide +kernel
theorem dX12_parse_121 : decode cX12_parse 121 = .ok (.goto 4, 3) := by decide +kernel
theorem dX12_parse_124 : decode cX12_parse 124 = .ok (.iconst (-1), 1) := by decide +kernel
theorem dX12_parse_125 : decode cX12_parse 125 = .ok (.ireturn, 1) := by decide +kernel
theorem dX12_text_0 : decode cX12_text 0 = .ok (.iload_n 1, 1) := by decide +kernel
theorem dX12_text_1 : decode cX12_text 1 = .ok (.i2l, 1) := by decide +kernel
theorem dX12_text_2 : decode cX12_text 2 = .ok (.lconst 0, 1) := by decide +kernel
theorem dX12_text_3 : decode cX12_text 3 = .ok (.ldc2_w 180, 3) := by decide +kernel
theorem dX12_text_6 : decode cX12_text 6 = .ok (.invokestatic 89, 3) := by decide +kernel
theorem dX12_text_9 : decode cX12_text 9 = .ok (.istore_n 2, 1) := by decide +kernel
theorem dX12_text_10 : decode cX12_text 10 = .ok (.aload_n 0, 1) := by decide +kernel
theorem dX12_text_11 : decode cX12_text 11 = .ok (.invokevirtual 308, 3) := by decide +kernel
theorem dX12_text_14 : decode cX12_text 14 = .ok (.istore_n 3, 1) := by decide +kernel
theorem dX12_text_15 : decode cX12_text 15 = .ok (.iload_n 2, 1) := by decide +kernel
theorem dX12_text_16 : decode cX12_text 16 = .ok (.ifCond .ne 6, 3) := by decide +kernel
theorem dX12_text_19 : decode cX12_text 19 = .ok (.ldc 100, 2) := by decide +kernel
theorem dX12_text_21 : decode cX12_text 21 = .ok (.ireturn, 1) := by decide +kernel
theorem dX12_text_22 : decode cX12_text 22 = .ok (.iload_n 3, 1) := by decide +kernel
theorem dX12_text_23 : decode cX12_text 23 = .ok (.ifCond .ge 11, 3) := by decide +kernel
theorem dX12_text_26 : decode cX12_text 26 = .ok (.bipush (-100), 2) := by decide +kernel
theorem dX12_text_28 : decode cX12_text 28 = .ok (.aload_n 0, 1) := by decide +kernel
theorem dX12_text_29 : decode cX12_text 29 = .ok (.getfield 232, 3) := by decide +kernel
theorem dX12_text_32 : decode cX12_text 32 = .ok (.isub, 1) := by decide +kernel
theorem dX12_text_33 : decode cX12_text 33 = .ok (.ireturn, 1) := by decide +kernel
theorem dX12_text_34 : decode cX12_text 34 = .ok (.aload_n 0, 1) := by decide +kernel
theorem dX12_text_35 : decode cX12_text 35 = .ok (.getfield 7, 3) := by decide +kernel
theorem dX12_text_38 : decode cX12_text 38 = .ok (.iconst 3, 1) := by decide +kernel
theorem dX12_text_39 : decode cX12_text 39 = .ok (.iaload, 1) := by decide +kernel
theorem dX12_text_40 : decode cX12_text 40 = .ok (.bipush 14, 2) := by decide +kernel
theorem dX12_text_42 : decode cX12_text 42 = .ok (.if_icmp .ne 6, 3) := by decide +kernel
theorem dX12_text_45 : decode cX12_text 45 = .ok (.ldc 149, 2) := by decide +kernel
theorem dX12_text_47 : decode cX12_text 47 = .ok (.ireturn, 1) := by decide +kernel
theorem dX12_text_48 : decode cX12_text 48 = .ok (.aload_n 0, 1) := by decide +kernel
theorem dX12_text_49 : decode cX12_text 49 = .ok (.aload_n 0, 1) := by decide +kernel
theorem dX12_text_50 : decode cX12_text 50 = .ok (.getfield 7, 3) := by decide +kernel
theorem dX12_text_53 : decode cX12_text 53 = .ok (.iconst 3, 1) := by decide +kernel
theorem dX12_text_54 : decode cX12_text 54 = .ok (.iaload, 1) := by decide +kernel
theorem dX12_text_55 : decode cX12_text 55 = .ok (.invokevirtual 302, 3) := by decide +kernel
theorem dX12_text_58 : decode cX12_text 58 = .ok (.istore 4, 2) := by decide +kernel
theorem dX12_text_60 : decode cX12_text 60 = .ok (.aload_n 0, 1) := by decide +kernel
theorem dX12_text_61 : decode cX12_text 61 = .ok (.getfield 7, 3) := by decide +kernel
theorem dX12_text_64 : decode cX12_text 64 = .ok (.iload 4, 2) := by decide +kernel
theorem dX12_text_66 : decode cX12_text 66 = .ok (.iconst 0, 1) := by decide +kernel
theorem dX12_text_67 : decode cX12_text 67 = .ok (.iadd, 1) := by decide +kernel
theorem dX12_text_68 : decode cX12_text 68 = .ok (.iload_n 3, 1) := by decide +kernel
theorem dX12_text_69 : decode cX12_text 69 = .ok (.iastore, 1) := by decide +kernel
theorem dX12_text_70 : decode cX12_text 70 = .ok (.aload_n 0, 1) := by decide +kernel
theorem dX12_text_71 : decode cX12_text 71 = .ok (.getfield 7, 3) := by decide +kernel
theorem dX12_text_74 : decode cX12_text 74 = .ok (.iload 4, 2) := by decide +kernel
theorem dX12_text_76 : decode cX12_text 76 = .ok (.iconst 1, 1) := by decide +kernel
theorem dX12_text_77 : decode cX12_text 77 = .ok (.iadd, 1) := by decide +kernel
theorem dX12_text_78 : decode cX12_text 78 = .ok (.iload_n 1, 1) := by decide +kernel
theorem dX12_text_79 : decode cX12_text 79 = .ok (.iastore, 1) := by decide +kernel
theorem dX12_text_80 : decode cX12_text 80 = .ok (.aload_n 0, 1) := by decide +kernel
theorem dX12_text_81 : decode cX12_text 81 = .ok (.getfield 7, 3) := by decide +kernel
theorem dX12_text_84 : decode cX12_text 84 = .ok (.iload 4, 2) := by decide +kernel
theorem dX12_text_86 : decode cX12_text 86 = .ok (.iconst 2, 1) := by decide +kernel
theorem dX12_text_87 : decode cX12_text 87 = .ok (.iadd, 1) := by decide +kernel
theorem dX12_text_88 : decode cX12_text 88 = .ok (.aload_n 0, 1) := by decide +kernel
theorem dX12_text_89 : decode cX12_text 89 = .ok (.getfield 286, 3) := by decide +kernel
theorem dX12_text_92 : decode cX12_text 92 = .ok (.iastore, 1) := by decide +kernel
theorem dX12_text_93 : decode cX12_text 93 = .ok (.aload_n 0, 1) := by decide +kernel
theorem dX12_text_94 : decode cX12_text 94 = .ok (.getfield 7, 3) := by decide +kernel
theorem dX12_text_97 : decode cX12_text 97 = .ok (.iload 4, 2) := by decide +kernel
theorem dX12_text_99 : decode cX12_text 99 = .ok (.iconst 3, 1) := by decide +kernel
theorem dX12_text_100 : decode cX12_text 100 = .ok (.iadd, 1) := by decide +kernel
theorem dX12_text_101 : decode cX12_text 101 = .ok (.aload_n 0, 1) := by decide +kernel
theorem dX12_text_102 : decode cX12_text 102 = .ok (.getfield 258, 3) := by decide +kernel
theorem dX12_text_105 : decode cX12_text 105 = .ok (.iastore, 1) := by decide +kernel
theorem dX12_text_106 : decode cX12_text 106 = .ok (.aload_n 0, 1) := by decide +kernel
theorem dX12_text_107 : decode cX12_text 107 = .ok (.getfield 7, 3) := by decide +kernel
theorem dX12_text_110 : decode cX12_text 110 = .ok (.iconst 3, 1) := by decide +kernel
theorem dX12_text_111 : decode cX12_text 111 = .ok (.dup2, 1) := by decide +kernel
theorem dX12_text_112 : decode cX12_text 112 = .ok (.iaload, 1) := by decide +kernel
theorem dX12_text_113 : decode cX12_text 113 = .ok (.iconst 1, 1) := by decide +kernel
theorem dX12_text_114 : decode cX12_text 114 = .ok (.iadd, 1) := by decide +kernel
theorem dX12_text_115 : decode cX12_text 115 = .ok (.iastore, 1) := by decide +kernel
theorem dX12_text_116 : decode cX12_text 116 = .ok (.aload_n 0, 1) := by decide +kernel
theorem dX12_text_117 : decode cX12_text 117 = .ok (.getfield 7, 3) := by decide +kernel
theorem dX12_text_120 : decode cX12_text 120 = .ok (.iconst 3, 1) := by decide +kernel
theorem dX12_text_121 : decode cX12_text 121 = .ok (.iaload, 1) := by decide +kernel
theorem dX12_text_122 : decode cX12_text 122 = .ok (.iconst 1, 1) := by decide +kernel
theorem dX12_text_123 : decode cX12_text 123 = .ok (.isub, 1) := by decide +kernel
theorem dX12_text_124 : decode cX12_text 124 = .ok (.ireturn, 1) := by decide +kernel
theorem dX12_of_0 : decode cX12_of 0 = .ok (.aload_n 0, 1) := by decide +kernel
theorem dX12_of_1 : decode cX12_of 1 = .ok (.iload_n 1, 1) := by decide +kernel
theorem dX12_of_2 : decode cX12_of 2 = .ok (.invokevirtual 311, 3) := by decide +kernel
theorem dX12_of_5 : decode cX12_of 5 = .ok (.ifCond .eq 30, 3) := by decide +kernel
theorem dX12_of_8 : decode cX12_of 8 = .ok (.iload_n 2, 1) := by decide +kernel
theorem dX12_of_9 : decode cX12_of 9 = .ok (.i2l, 1) := by decide +kernel
theorem dX12_of_10 : decode cX12_of 10 = .ok (.lconst 0, 1) := by decide +kernel
theorem dX12_of_11 : decode cX12_of 11 = .ok (.ldc2_w 96, 3) := by decide +kernel
theorem dX12_of_14 : decode cX12_of 14 = .ok (.invokestatic 89, 3) := by decide +kernel
theorem dX12_of_17 : decode cX12_of 17 = .ok (.ifCond .eq 18, 3) := by decide +kernel
theorem dX12_of_20 : decode cX12_of 20 = .ok (.aload_n 0, 1) := by decide +kernel
theorem dX12_of_21 : decode cX12_of 21 = .ok (.getfield 7, 3) := by decide +kernel
theorem dX12_of_24 : decode cX12_of 24 = .ok (.aload_n 0, 1) := by decide +kernel
theorem dX12_of_25 : decode cX12_of 25 = .ok (.iload_n 1, 1) := by decide +kernel
theorem dX12_of_26 : decode cX12_of 26 = .ok (.invokevirtual 302, 3) := by decide +kernel
theorem dX12_of_29 : decode cX12_of 29 = .ok (.iload_n 2, 1) := by decide +kernel
theorem dX12_of_30 : decode cX12_of 30 = .ok (.iadd, 1) := by decide +kernel
theorem dX12_of_31 : decode cX12_of 31 = .ok (.iaload, 1) := by decide +kernel
theorem dX12_of_32 : decode cX12_of 32 = .ok (.goto 5, 3) := by decide +kernel
theorem dX12_of_35 : decode cX12_of 35 = .ok (.ldc 100, 2) := by decide +kernel
theorem dX12_of_37 : decode cX12_of 37 = .ok (.ireturn, 1) := by decide +kernel
theorem dX12_counts_0 : decode cX12_counts 0 = .ok (.iconst (-1), 1) := by decide +kernel
theorem dX12_counts_1 : decode cX12_counts 1 = .ok (.istore_n 2, 1) := by decide +kernel
theorem dX12_counts_2 : decode cX12_counts 2 = .ok (.iconst 0, 1) := by decide +kernel
theorem dX12_counts_3 : decode cX12_counts 3 = .ok (.istore_n 3, 1) := by decide +kernel
theorem dX12_counts_4 : decode cX12_counts 4 = .ok (.iload_n 3, 1) := by decide +kernel
theorem dX12_counts_5 : decode cX12_counts 5 = .ok (.aload_n 0, 1) := by decide +kernel
theorem dX12_counts_6 : decode cX12_counts 6 = .ok (.getfield 7, 3) := by decide +kernel
theorem dX12_counts_9 : decode cX12_counts 9 = .ok (.iconst 3, 1) := by decide +kernel
theorem dX12_counts_10 : decode cX12_counts 10 = .ok (.iaload, 1) := by decide +kernel
theorem dX12_counts_11 : decode cX12_counts 11 = .ok (.if_icmp .ge 96, 3) := by decide +kernel
theorem dX12_counts_14 : decode cX12_counts 14 = .ok (.aload_n 0, 1) := by decide +kernel
theorem dX12_counts_15 : decode cX12_counts 15 = .ok (.getfield 7, 3) := by decide +kernel
theorem dX12_counts_18 : decode cX12_counts 18 = .ok (.aload_n 0, 1) := by decide +kernel
theorem dX12_counts_19 : decode cX12_counts 19 = .ok (.iload_n 3, 1) := by decide +kernel
theorem dX12_counts_20 : decode cX12_counts 20 = .ok (.invokevirtual 302, 3) := by decide +kernel
theorem dX12_counts_23 : decode cX12_counts 23 = .ok (.iconst 0, 1) := by decide +kernel
theorem dX12_counts_24 : decode cX12_counts 24 = .ok (.iadd, 1) := by decide +kernel
theorem dX12_counts_25 : decode cX12_counts 25 = .ok (.iaload, 1) := by decide +kernel
theorem dX12_counts_26 : decode cX12_counts 26 = .ok (.iload_n 1, 1) := by decide +kernel
theorem dX12_counts_27 : decode cX12_counts 27 = .ok (.if_icmp .ne 29, 3) := by decide +kernel
theorem dX12_counts_30 : decode cX12_counts 30 = .ok (.aload_n 0, 1) := by decide +kernel
theorem dX12_counts_31 : decode cX12_counts 31 = .ok (.getfield 7, 3) := by decide +kernel
theorem dX12_counts_34 : decode cX12_counts 34 = .ok (.aload_n 0, 1) := by decide +kernel
theorem dX12_counts_35 : decode cX12_counts 35 = .ok (.iload_n 3, 1) := by decide +kernel
theorem dX12_counts_36 : decode cX12_counts 36 = .ok (.invokevirtual 302, 3) := by decide +kernel
theorem dX12_counts_39 : decode cX12_counts 39 = .ok (.iconst 1, 1) := by decide +kernel
theorem dX12_counts_40 : decode cX12_counts 40 = .ok (.iadd, 1) := by decide +kernel
theorem dX12_counts_41 : decode cX12_counts 41 = .ok (.iaload, 1) := by decide +kernel
theorem dX12_counts_42 : decode cX12_counts 42 = .ok (.aload_n 0, 1) := by decide +kernel
theorem dX12_counts_43 : decode cX12_counts 43 = .ok (.getfield 7, 3) := by decide +kernel
theorem dX12_counts_46 : decode cX12_counts 46 = .ok (.bipush 8, 2) := by decide +kernel
theorem dX12_counts_48 : decode cX12_counts 48 = .ok (.iaload, 1) := by decide +kernel
theorem dX12_counts_49 : decode cX12_counts 49 = .ok (.if_icmp .gt 7, 3) := by decide +kernel
theorem dX12_counts_52 : decode cX12_counts 52 = .ok (.iconst 1, 1) := by decide +kernel
theorem dX12_counts_53 : decode cX12_counts 53 = .ok (.goto 4, 3) := by decide +kernel
theorem dX12_counts_56 : decode cX12_counts 56 = .ok (.iconst 0, 1) := by decide +kernel
theorem dX12_counts_57 : decode cX12_counts 57 = .ok (.istore 4, 2) := by decide +kernel
theorem dX12_counts_59 : decode cX12_counts 59 = .ok (.iload 4, 2) := by decide +kernel
theorem dX12_counts_61 : decode cX12_counts 61 = .ok (.ifCond .eq 38, 3) := by decide +kernel
theorem dX12_counts_64 : decode cX12_counts 64 = .ok (.iload_n 2, 1) := by decide +kernel
theorem dX12_counts_65 : decode cX12_counts 65 = .ok (.ifCond .lt 30, 3) := by decide +kernel
theorem dX12_counts_68 : decode cX12_counts 68 = .ok (.aload_n 0, 1) := by decide +kernel
theorem dX12_counts_69 : decode cX12_counts 69 = .ok (.getfield 7, 3) := by decide +kernel
theorem dX12_counts_72 : decode cX12_counts 72 = .ok (.aload_n 0, 1) := by decide +kernel
theorem dX12_counts_73 : decode cX12_counts 73 = .ok (.iload_n 3, 1) := by decide +kernel
theorem dX12_counts_74 : decode cX12_counts 74 = .ok (.invokevirtual 302, 3) := by decide +kernel
theorem dX12_counts_77 : decode cX12_counts 77 = .ok (.iconst 1, 1) := by decide +kernel
theorem dX12_counts_78 : decode cX12_counts 78 = .ok (.iadd, 1) := by decide +kernel
theorem dX12_counts_79 : decode cX12_counts 79 = .ok (.iaload, 1) := by decide +kernel
theorem dX12_counts_80 : decode cX12_counts 80 = .ok (.aload_n 0, 1) := by decide +kernel
theorem dX12_counts_81 : decode cX12_counts 81 = .ok (.getfield 7, 3) := by decide +kernel
theorem dX12_counts_84 : decode cX12_counts 84 = .ok (.aload_n 0, 1) := by decide +kernel
theorem dX12_counts_85 : decode cX12_counts 85 = .ok (.iload_n 2, 1) := by decide +kernel
theorem dX12_counts_86 : decode cX12_counts 86 = .ok (.invokevirtual 302, 3) := by decide +kernel
theorem dX12_counts_89 : decode cX12_counts 89 = .ok (.iconst 1, 1) := by decide +kernel
theorem dX12_counts_90 : decode cX12_counts 90 = .ok (.iadd, 1) := by decide +kernel
theorem dX12_counts_91 : decode cX12_counts 91 = .ok (.iaload, 1) := by decide +kernel
theorem dX12_counts_92 : decode cX12_counts 92 = .ok (.if_icmp .lt 7, 3) := by decide +kernel
theorem dX12_counts_95 : decode cX12_counts 95 = .ok (.iload_n 3, 1) := by decide +kernel
theorem dX12_counts_96 : decode cX12_counts 96 = .ok (.goto 4, 3) := by decide +kernel
theorem dX12_counts_99 : decode cX12_counts 99 = .ok (.iload_n 2, 1) := by decide +kernel
theorem dX12_counts_100 : decode cX12_counts 100 = .ok (.istore_n 2, 1) := by decide +kernel
theorem dX12_counts_101 : decode cX12_counts 101 = .ok (.iinc 3 1, 3) := by decide +kernel
theorem dX12_counts_104 : decode cX12_counts 104 = .ok (.goto (-100), 3) := by decide +kernel
theorem dX12_counts_107 : decode cX12_counts 107 = .ok (.iload_n 2, 1) := by decide +kernel
theorem dX12_counts_108 : decode cX12_counts 108 = .ok (.ireturn, 1) := by decide +kernel
theorem dX12_why_0 : decode cX12_why 0 = .ok (.iload_n 1, 1) := by decide +kernel
theorem dX12_why_1 : decode cX12_why 1 = .ok (.i2l, 1) := by decide +kernel
theorem dX12_why_2 : decode cX12_why 2 = .ok (.lconst 0, 1) := by decide +kernel
theorem dX12_why_3 : decode cX12_why 3 = .ok (.ldc2_w 106, 3) := by decide +kernel
theorem dX12_why_6 : decode cX12_why 6 = .ok (.invokestatic 89, 3) := by decide +kernel
theorem dX12_why_9 : decode cX12_why 9 = .ok (.ifCond .eq 14, 3) := by decide +kernel
theorem dX12_why_12 : decode cX12_why 12 = .ok (.aload_n 0, 1) := by decide +kernel
theorem dX12_why_13 : decode cX12_why 13 = .ok (.iload_n 1, 1) := by decide +kernel
theorem dX12_why_14 : decode cX12_why 14 = .ok (.invokevirtual 314, 3) := by decide +kernel
theorem dX12_why_17 : decode cX12_why 17 = .ok (.invokestatic 159, 3) := by decide +kernel
theorem dX12_why_20 : decode cX12_why 20 = .ok (.goto 5, 3) := by decide +kernel
theorem dX12_why_23 : decode cX12_why 23 = .ok (.ldc 100, 2) := by decide +kernel
theorem dX12_why_25 : decode cX12_why 25 = .ok (.ireturn, 1) := by decide +kernel
theorem dX12_joined_0 : decode cX12_joined 0 = .ok (.iload_n 0, 1) := by decide +kernel
theorem dX12_joined_1 : decode cX12_joined 1 = .ok (.tableswitch 196 38 62 #[182, 196, 196, 196, 123, 115, 196, 119, 196, 127, 196, 196, 196, 196, 196, 196, 196, 196, 196, 196, 196, 196, 149, 171, 160], 115) := by decide +kernel
theorem dX12_joined_116 : decode cX12_joined 116 = .ok (.iload_n 1, 1) := by decide +kernel
theorem dX12_joined_117 : decode cX12_joined 117 = .ok (.iload_n 2, 1) := by decide +kernel
theorem dX12_joined_118 : decode cX12_joined 118 = .ok (.iadd, 1) := by decide +kernel
theorem dX12_joined_119 : decode cX12_joined 119 = .ok (.ireturn, 1) := by decide +kernel
theorem dX12_joined_120 : decode cX12_joined 120 = .ok (.iload_n 1, 1) := by decide +kernel
theorem dX12_joined_121 : decode cX12_joined 121 = .ok (.iload_n 2, 1) := by decide +kernel
theorem dX12_joined_122 : decode cX12_joined 122 = .ok (.isub, 1) := by decide +kernel
theorem dX12_joined_123 : decode cX12_joined 123 = .ok (.ireturn, 1) := by decide +kernel
theorem dX12_joined_124 : decode cX12_joined 124 = .ok (.iload_n 1, 1) := by decide +kernel
theorem dX12_joined_125 : decode cX12_joined 125 = .ok (.iload_n 2, 1) := by decide +kernel
theorem dX12_joined_126 : decode cX12_joined 126 = .ok (.imul, 1) := by decide +kernel
theorem dX12_joined_127 : decode cX12_joined 127 = .ok (.ireturn, 1) := by decide +kernel
theorem dX12_joined_128 : decode cX12_joined 128 = .ok (.iload_n 2, 1) := by decide +kernel
theorem dX12_joined_129 : decode cX12_joined 129 = .ok (.ifCond .ne 7, 3) := by decide +kernel
theorem dX12_joined_132 : decode cX12_joined 132 = .ok (.iconst 0, 1) := by decide +kernel
theorem dX12_joined_133 : decode cX12_joined 133 = .ok (.goto 16, 3) := by decide +kernel
theorem dX12_joined_136 : decode cX12_joined 136 = .ok (.iload_n 2, 1) := by decide +kernel
theorem dX12_joined_137 : decode cX12_joined 137 = .ok (.iconst (-1), 1) := by decide +kernel
theorem dX12_joined_138 : decode cX12_joined 138 = .ok (.if_icmp .ne 8, 3) := by decide +kernel
theorem dX12_joined_141 : decode cX12_joined 141 = .ok (.iload_n 1, 1) := by decide +kernel
theorem dX12_joined_142 : decode cX12_joined 142 = .ok (.ineg, 1) := by decide +kernel
theorem dX12_joined_143 : decode cX12_joined 143 = .ok (.goto 6, 3) := by decide +kernel
theorem dX12_joined_146 : decode cX12_joined 146 = .ok (.iload_n 1, 1) := by decide +kernel
theorem dX12_joined_147 : decode cX12_joined 147 = .ok (.iload_n 2, 1) := by decide +kernel
theorem dX12_joined_148 : decode cX12_joined 148 = .ok (.idiv, 1) := by decide +kernel
theorem dX12_joined_149 : decode cX12_joined 149 = .ok (.ireturn, 1) := by decide +kernel
theorem dX12_joined_150 : decode cX12_joined 150 = .ok (.iload_n 1, 1) := by decide +kernel
theorem dX12_joined_151 : decode cX12_joined 151 = .ok (.iload_n 2, 1) := by decide +kernel
theorem dX12_joined_152 : decode cX12_joined 152 = .ok (.if_icmp .ge 7, 3) := by decide +kernel
theorem dX12_joined_155 : decode cX12_joined 155 = .ok (.iconst 1, 1) := by decide +kernel
theorem dX12_joined_156 : decode cX12_joined 156 = .ok (.goto 4, 3) := by decide +kernel
theorem dX12_joined_159 : decode cX12_joined 159 = .ok (.iconst 0, 1) := by decide +kernel
theorem dX12_joined_160 : decode cX12_joined 160 = .ok (.ireturn, 1) := by decide +kernel
theorem dX12_joined_161 : decode cX12_joined 161 = .ok (.iload_n 1, 1) := by decide +kernel
theorem dX12_joined_162 : decode cX12_joined 162 = .ok (.iload_n 2, 1) := by decide +kernel
theorem dX12_joined_163 : decode cX12_joined 163 = .ok (.if_icmp .le 7, 3) := by decide +kernel
theorem dX12_joined_166 : decode cX12_joined 166 = .ok (.iconst 1, 1) := by decide +kernel
theorem dX12_joined_167 : decode cX12_joined 167 = .ok (.goto 4, 3) := by decide +kernel
theorem dX12_joined_170 : decode cX12_joined 170 = .ok (.iconst 0, 1) := by decide +kernel
theorem dX12_joined_171 : decode cX12_joined 171 = .ok (.ireturn, 1) := by decide +kernel
theorem dX12_joined_172 : decode cX12_joined 172 = .ok (.iload_n 1, 1) := by decide +kernel
theorem dX12_joined_173 : decode cX12_joined 173 = .ok (.iload_n 2, 1) := by decide +kernel
theorem dX12_joined_174 : decode cX12_joined 174 = .ok (.if_icmp .ne 7, 3) := by decide +kernel
theorem dX12_joined_177 : decode cX12_joined 177 = .ok (.iconst 1, 1) := by decide +kernel
theorem dX12_joined_178 : decode cX12_joined 178 = .ok (.goto 4, 3) := by decide +kernel
theorem dX12_joined_181 : decode cX12_joined 181 = .ok (.iconst 0, 1) := by decide +kernel
theorem dX12_joined_182 : decode cX12_joined 182 = .ok (.ireturn, 1) := by decide +kernel
theorem dX12_joined_183 : decode cX12_joined 183 = .ok (.iload_n 1, 1) := by decide +kernel
theorem dX12_joined_184 : decode cX12_joined 184 = .ok (.ifCond .eq 11, 3) := by decide +kernel
theorem dX12_joined_187 : decode cX12_joined 187 = .ok (.iload_n 2, 1) := by decide +kernel
theorem dX12_joined_188 : decode cX12_joined 188 = .ok (.ifCond .eq 7, 3) := by decide +kernel
theorem dX12_joined_191 : decode cX12_joined 191 = .ok (.iconst 1, 1) := by decide +kernel
theorem dX12_joined_192 : decode cX12_joined 192 = .ok (.goto 4, 3) := by decide +kernel
theorem dX12_joined_195 : decode cX12_joined 195 = .ok (.iconst 0, 1) := by decide +kernel
theorem dX12_joined_196 : decode cX12_joined 196 = .ok (.ireturn, 1) := by decide +kernel
theorem dX12_joined_197 : decode cX12_joined 197 = .ok (.iload_n 1, 1) := by decide +kernel
theorem dX12_joined_198 : decode cX12_joined 198 = .ok (.ifCond .ne 7, 3) := by decide +kernel
theorem dX12_joined_201 : decode cX12_joined 201 = .ok (.iload_n 2, 1) := by decide +kernel
theorem dX12_joined_202 : decode cX12_joined 202 = .ok (.ifCond .eq 7, 3) := by decide +kernel
theorem dX12_joined_205 : decode cX12_joined 205 = .ok (.iconst 1, 1) := by decide +kernel
theorem dX12_joined_206 : decode cX12_joined 206 = .ok (.goto 4, 3) := by decide +kernel
theorem dX12_joined_209 : decode cX12_joined 209 = .ok (.iconst 0, 1) := by decide +kernel
theorem dX12_joined_210 : decode cX12_joined 210 = .ok (.ireturn, 1) := by decide +kernel
theorem dX12_worked_0 : decode cX12_worked 0 = .ok (.iconst 0, 1) := by decide +kernel
theorem dX12_worked_1 : decode cX12_worked 1 = .ok (.istore_n 2, 1) := by decide +kernel
theorem dX12_worked_2 : decode cX12_worked 2 = .ok (.iconst 0, 1) := by decide +kernel
theorem dX12_worked_3 : decode cX12_worked 3 = .ok (.istore_n 3, 1) := by decide +kernel
theorem dX12_worked_4 : decode cX12_worked 4 = .ok (.iload_n 3, 1) := by decide +kernel
theorem dX12_worked_5 : decode cX12_worked 5 = .ok (.aload_n 0, 1) := by decide +kernel
theorem dX12_worked_6 : decode cX12_worked 6 = .ok (.getfield 7, 3) := by decide +kernel
theorem dX12_worked_9 : decode cX12_worked 9 = .ok (.aload_n 0, 1) := by decide +kernel
theorem dX12_worked_10 : decode cX12_worked 10 = .ok (.iload_n 1, 1) := by decide +kernel
theorem dX12_worked_11 : decode cX12_worked 11 = .ok (.invokevirtual 302, 3) := by decide +kernel
theorem dX12_worked_14 : decode cX12_worked 14 = .ok (.iconst 3, 1) := by decide +kernel
theorem dX12_worked_15 : decode cX12_worked 15 = .ok (.iadd, 1) := by decide +kernel
theorem dX12_worked_16 : decode cX12_worked 16 = .ok (.iaload, 1) := by decide +kernel
theorem dX12_worked_17 : decode cX12_worked 17 = .ok (.if_icmp .ge 146, 3) := by decide +kernel
theorem dX12_worked_20 : decode cX12_worked 20 = .ok (.aload_n 0, 1) := by decide +kernel
theorem dX12_worked_21 : decode cX12_worked 21 = .ok (.getfield 7, 3) := by decide +kernel
theorem dX12_worked_24 : decode cX12_worked 24 = .ok (.aload_n 0, 1) := by decide +kernel
theorem dX12_worked_25 : decode cX12_worked 25 = .ok (.iload_n 1, 1) := by decide +kernel
theorem dX12_worked_26 : decode cX12_worked 26 = .ok (.invokevirtual 302, 3) := by decide +kernel
theorem dX12_worked_29 : decode cX12_worked 29 = .ok (.iconst 4, 1) := by decide +kernel
theorem dX12_worked_30 : decode cX12_worked 30 = .ok (.iadd, 1) := by decide +kernel
theorem dX12_worked_31 : decode cX12_worked 31 = .ok (.iconst 2, 1) := by decide +kernel
theorem dX12_worked_32 : decode cX12_worked 32 = .ok (.iload_n 3, 1) := by decide +kernel
theorem dX12_worked_33 : decode cX12_worked 33 = .ok (.imul, 1) := by decide +kernel
theorem dX12_worked_34 : decode cX12_worked 34 = .ok (.iadd, 1) := by decide +kernel
theorem dX12_worked_35 : decode cX12_worked 35 = .ok (.iaload, 1) := by decide +kernel
theorem dX12_worked_36 : decode cX12_worked 36 = .ok (.istore 4, 2) := by decide +kernel
theorem dX12_worked_38 : decode cX12_worked 38 = .ok (.aload_n 0, 1) := by decide +kernel
theorem dX12_worked_39 : decode cX12_worked 39 = .ok (.getfield 7, 3) := by decide +kernel
theorem dX12_worked_42 : decode cX12_worked 42 = .ok (.aload_n 0, 1) := by decide +kernel
theorem dX12_worked_43 : decode cX12_worked 43 = .ok (.iload_n 1, 1) := by decide +kernel
theorem dX12_worked_44 : decode cX12_worked 44 = .ok (.invokevirtual 302, 3) := by decide +kernel
theorem dX12_worked_47 : decode cX12_worked 47 = .ok (.iconst 4, 1) := by decide +kernel
theorem dX12_worked_48 : decode cX12_worked 48 = .ok (.iadd, 1) := by decide +kernel
theorem dX12_worked_49 : decode cX12_worked 49 = .ok (.iconst 2, 1) := by decide +kernel
theorem dX12_worked_50 : decode cX12_worked 50 = .ok (.iload_n 3, 1) := by decide +kernel
theorem dX12_worked_51 : decode cX12_worked 51 = .ok (.imul, 1) := by decide +kernel
theorem dX12_worked_52 : decode cX12_worked 52 = .ok (.iadd, 1) := by decide +kernel
theorem dX12_worked_53 : decode cX12_worked 53 = .ok (.iconst 1, 1) := by decide +kernel
theorem dX12_worked_54 : decode cX12_worked 54 = .ok (.iadd, 1) := by decide +kernel
theorem dX12_worked_55 : decode cX12_worked 55 = .ok (.iaload, 1) := by decide +kernel
theorem dX12_worked_56 : decode cX12_worked 56 = .ok (.istore 5, 2) := by decide +kernel
theorem dX12_worked_58 : decode cX12_worked 58 = .ok (.iload 4, 2) := by decide +kernel
theorem dX12_worked_60 : decode cX12_worked 60 = .ok (.iconst 2, 1) := by decide +kernel
theorem dX12_worked_61 : decode cX12_worked 61 = .ok (.if_icmp .eq 32, 3) := by decide +kernel
theorem dX12_worked_64 : decode cX12_worked 64 = .ok (.aload_n 0, 1) := by decide +kernel
theorem dX12_worked_65 : decode cX12_worked 65 = .ok (.getfield 55, 3) := by decide +kernel
theorem dX12_worked_68 : decode cX12_worked 68 = .ok (.iload_n 2, 1) := by decide +kernel
theorem dX12_worked_69 : decode cX12_worked 69 = .ok (.iload 4, 2) := by decide +kernel
theorem dX12_worked_71 : decode cX12_worked 71 = .ok (.ifCond .ne 8, 3) := by decide +kernel
theorem dX12_worked_74 : decode cX12_worked 74 = .ok (.iload 5, 2) := by decide +kernel
theorem dX12_worked_76 : decode cX12_worked 76 = .ok (.goto 10, 3) := by decide +kernel
theorem dX12_worked_79 : decode cX12_worked 79 = .ok (.aload_n 0, 1) := by decide +kernel
theorem dX12_worked_80 : decode cX12_worked 80 = .ok (.getfield 52, 3) := by decide +kernel
theorem dX12_worked_83 : decode cX12_worked 83 = .ok (.iload 5, 2) := by decide +kernel
theorem dX12_worked_85 : decode cX12_worked 85 = .ok (.iaload, 1) := by decide +kernel
theorem dX12_worked_86 : decode cX12_worked 86 = .ok (.iastore, 1) := by decide +kernel
theorem dX12_worked_87 : decode cX12_worked 87 = .ok (.iinc 2 1, 3) := by decide +kernel
theorem dX12_worked_90 : decode cX12_worked 90 = .ok (.goto 67, 3) := by decide +kernel
theorem dX12_worked_93 : decode cX12_worked 93 = .ok (.iload 5, 2) := by decide +kernel
theorem dX12_worked_95 : decode cX12_worked 95 = .ok (.bipush 33, 2) := by decide +kernel
theorem dX12_worked_97 : decode cX12_worked 97 = .ok (.if_icmp .ne 30, 3) := by decide +kernel
theorem dX12_worked_100 : decode cX12_worked 100 = .ok (.aload_n 0, 1) := by decide +kernel
theorem dX12_worked_101 : decode cX12_worked 101 = .ok (.getfield 55, 3) := by decide +kernel
theorem dX12_worked_104 : decode cX12_worked 104 = .ok (.iload_n 2, 1) := by decide +kernel
theorem dX12_worked_105 : decode cX12_worked 105 = .ok (.iconst 1, 1) := by decide +kernel
theorem dX12_worked_106 : decode cX12_worked 106 = .ok (.isub, 1) := by decide +kernel
theorem dX12_worked_107 : decode cX12_worked 107 = .ok (.aload_n 0, 1) := by decide +kernel
theorem dX12_worked_108 : decode cX12_worked 108 = .ok (.getfield 55, 3) := by decide +kernel
theorem dX12_worked_111 : decode cX12_worked 111 = .ok (.iload_n 2, 1) := by decide +kernel
theorem dX12_worked_112 : decode cX12_worked 112 = .ok (.iconst 1, 1) := by decide +kernel
theorem dX12_worked_113 : decode cX12_worked 113 = .ok (.isub, 1) := by decide +kernel
theorem dX12_worked_114 : decode cX12_worked 114 = .ok (.iaload, 1) := by decide +kernel
theorem dX12_worked_115 : decode cX12_worked 115 = .ok (.ifCond .ne 7, 3) := by decide +kernel
theorem dX12_worked_118 : decode cX12_worked 118 = .ok (.iconst 1, 1) := by decide +kernel
theorem dX12_worked_119 : decode cX12_worked 119 = .ok (.goto 4, 3) := by decide +kernel
theorem dX12_worked_122 : decode cX12_worked 122 = .ok (.iconst 0, 1) := by decide +kernel
theorem dX12_worked_123 : decode cX12_worked 123 = .ok (.iastore, 1) := by decide +kernel
theorem dX12_worked_124 : decode cX12_worked 124 = .ok (.goto 33, 3) := by decide +kernel
theorem dX12_worked_127 : decode cX12_worked 127 = .ok (.iinc 2 (-1), 3) := by decide +kernel
theorem dX12_worked_130 : decode cX12_worked 130 = .ok (.aload_n 0, 1) := by decide +kernel
theorem dX12_worked_131 : decode cX12_worked 131 = .ok (.getfield 55, 3) := by decide +kernel
theorem dX12_worked_134 : decode cX12_worked 134 = .ok (.iload_n 2, 1) := by decide +kernel
theorem dX12_worked_135 : decode cX12_worked 135 = .ok (.iconst 1, 1) := by decide +kernel
theorem dX12_worked_136 : decode cX12_worked 136 = .ok (.isub, 1) := by decide +kernel
theorem dX12_worked_137 : decode cX12_worked 137 = .ok (.iload 5, 2) := by decide +kernel
theorem dX12_worked_139 : decode cX12_worked 139 = .ok (.aload_n 0, 1) := by decide +kernel
theorem dX12_worked_140 : decode cX12_worked 140 = .ok (.getfield 55, 3) := by decide +kernel
theorem dX12_worked_143 : decode cX12_worked 143 = .ok (.iload_n 2, 1) := by decide +kernel
theorem dX12_worked_144 : decode cX12_worked 144 = .ok (.iconst 1, 1) := by decide +kernel
theorem dX12_worked_145 : decode cX12_worked 145 = .ok (.isub, 1) := by decide +kernel
theorem dX12_worked_146 : decode cX12_worked 146 = .ok (.iaload, 1) := by decide +kernel
theorem dX12_worked_147 : decode cX12_worked 147 = .ok (.aload_n 0, 1) := by decide +kernel
theorem dX12_worked_148 : decode cX12_worked 148 = .ok (.getfield 55, 3) := by decide +kernel
theorem dX12_worked_151 : decode cX12_worked 151 = .ok (.iload_n 2, 1) := by decide +kernel
theorem dX12_worked_152 : decode cX12_worked 152 = .ok (.iaload, 1) := by decide +kernel
theorem dX12_worked_153 : decode cX12_worked 153 = .ok (.invokestatic 317, 3) := by decide +kernel
theorem dX12_worked_156 : decode cX12_worked 156 = .ok (.iastore, 1) := by decide +kernel
theorem dX12_worked_157 : decode cX12_worked 157 = .ok (.iinc 3 1, 3) := by decide +kernel
theorem dX12_worked_160 : decode cX12_worked 160 = .ok (.goto (-156), 3) := by decide +kernel
theorem dX12_worked_163 : decode cX12_worked 163 = .ok (.aload_n 0, 1) := by decide +kernel
theorem dX12_worked_164 : decode cX12_worked 164 = .ok (.getfield 55, 3) := by decide +kernel
theorem dX12_worked_167 : decode cX12_worked 167 = .ok (.iconst 0, 1) := by decide +kernel
theorem dX12_worked_168 : decode cX12_worked 168 = .ok (.iaload, 1) := by decide +kernel
theorem dX12_worked_169 : decode cX12_worked 169 = .ok (.ireturn, 1) := by decide +kernel
theorem dX12_heldIn_0 : decode cX12_heldIn 0 = .ok (.iload_n 0, 1) := by decide +kernel
theorem dX12_heldIn_1 : decode cX12_heldIn 1 = .ok (.ifCond .ge 7, 3) := by decide +kernel
theorem dX12_heldIn_4 : decode cX12_heldIn 4 = .ok (.iconst 0, 1) := by decide +kernel
theorem dX12_heldIn_5 : decode cX12_heldIn 5 = .ok (.goto 13, 3) := by decide +kernel
theorem dX12_heldIn_8 : decode cX12_heldIn 8 = .ok (.iload_n 0, 1) := by decide +kernel
theorem dX12_heldIn_9 : decode cX12_heldIn 9 = .ok (.iload_n 1, 1) := by decide +kernel
theorem dX12_heldIn_10 : decode cX12_heldIn 10 = .ok (.if_icmp .le 7, 3) := by decide +kernel
theorem dX12_heldIn_13 : decode cX12_heldIn 13 = .ok (.iload_n 1, 1) := by decide +kernel
theorem dX12_heldIn_14 : decode cX12_heldIn 14 = .ok (.goto 4, 3) := by decide +kernel
theorem dX12_heldIn_17 : decode cX12_heldIn 17 = .ok (.iload_n 0, 1) := by decide +kernel
theorem dX12_heldIn_18 : decode cX12_heldIn 18 = .ok (.ireturn, 1) := by decide +kernel
theorem dX12_ruleOf_0 : decode cX12_ruleOf 0 = .ok (.aload_n 0, 1) := by decide +kernel
theorem dX12_ruleOf_1 : decode cX12_ruleOf 1 = .ok (.iload_n 1, 1) := by decide +kernel
theorem dX12_ruleOf_2 : decode cX12_ruleOf 2 = .ok (.invokevirtual 314, 3) := by decide +kernel
theorem dX12_ruleOf_5 : decode cX12_ruleOf 5 = .ok (.istore 5, 2) := by decide +kernel
theorem dX12_ruleOf_7 : decode cX12_ruleOf 7 = .ok (.iload_n 1, 1) := by decide +kernel
theorem dX12_ruleOf_8 : decode cX12_ruleOf 8 = .ok (.tableswitch 147 0 2 #[28, 76, 114], 28) := by decide +kernel
theorem dX12_ruleOf_36 : decode cX12_ruleOf 36 = .ok (.aload_n 0, 1) := by decide +kernel
theorem dX12_ruleOf_37 : decode cX12_ruleOf 37 = .ok (.getfield 52, 3) := by decide +kernel
theorem dX12_ruleOf_40 : decode cX12_ruleOf 40 = .ok (.bipush 107, 2) := by decide +kernel
theorem dX12_ruleOf_42 : decode cX12_ruleOf 42 = .ok (.iload_n 2, 1) := by decide +kernel
theorem dX12_ruleOf_43 : decode cX12_ruleOf 43 = .ok (.iastore, 1) := by decide +kernel
theorem dX12_ruleOf_44 : decode cX12_ruleOf 44 = .ok (.aload_n 0, 1) := by decide +kernel
theorem dX12_ruleOf_45 : decode cX12_ruleOf 45 = .ok (.getfield 52, 3) := by decide +kernel
theorem dX12_ruleOf_48 : decode cX12_ruleOf 48 = .ok (.bipush 100, 2) := by decide +kernel
theorem dX12_ruleOf_50 : decode cX12_ruleOf 50 = .ok (.iload_n 3, 1) := by decide +kernel
theorem dX12_ruleOf_51 : decode cX12_ruleOf 51 = .ok (.iastore, 1) := by decide +kernel
theorem dX12_ruleOf_52 : decode cX12_ruleOf 52 = .ok (.aload_n 0, 1) := by decide +kernel
theorem dX12_ruleOf_53 : decode cX12_ruleOf 53 = .ok (.getfield 52, 3) := by decide +kernel
theorem dX12_ruleOf_56 : decode cX12_ruleOf 56 = .ok (.bipush 119, 2) := by decide +kernel
theorem dX12_ruleOf_58 : decode cX12_ruleOf 58 = .ok (.iload 4, 2) := by decide +kernel
theorem dX12_ruleOf_60 : decode cX12_ruleOf 60 = .ok (.iastore, 1) := by decide +kernel
theorem dX12_ruleOf_61 : decode cX12_ruleOf 61 = .ok (.iload 5, 2) := by decide +kernel
theorem dX12_ruleOf_63 : decode cX12_ruleOf 63 = .ok (.ifCond .ge 8, 3) := by decide +kernel
theorem dX12_ruleOf_66 : decode cX12_ruleOf 66 = .ok (.iload 4, 2) := by decide +kernel
theorem dX12_ruleOf_68 : decode cX12_ruleOf 68 = .ok (.goto 9, 3) := by decide +kernel
theorem dX12_ruleOf_71 : decode cX12_ruleOf 71 = .ok (.aload_n 0, 1) := by decide +kernel
theorem dX12_ruleOf_72 : decode cX12_ruleOf 72 = .ok (.iload 5, 2) := by decide +kernel
theorem dX12_ruleOf_74 : decode cX12_ruleOf 74 = .ok (.invokevirtual 320, 3) := by decide +kernel
theorem dX12_ruleOf_77 : decode cX12_ruleOf 77 = .ok (.sipush 999, 3) := by decide +kernel
theorem dX12_ruleOf_80 : decode cX12_ruleOf 80 = .ok (.invokestatic 323, 3) := by decide +kernel
theorem dX12_ruleOf_83 : decode cX12_ruleOf 83 = .ok (.ireturn, 1) := by decide +kernel
theorem dX12_ruleOf_84 : decode cX12_ruleOf 84 = .ok (.aload_n 0, 1) := by decide +kernel
theorem dX12_ruleOf_85 : decode cX12_ruleOf 85 = .ok (.getfield 52, 3) := by decide +kernel
theorem dX12_ruleOf_88 : decode cX12_ruleOf 88 = .ok (.bipush 107, 2) := by decide +kernel
theorem dX12_ruleOf_90 : decode cX12_ruleOf 90 = .ok (.iload_n 2, 1) := by decide +kernel
theorem dX12_ruleOf_91 : decode cX12_ruleOf 91 = .ok (.iastore, 1) := by decide +kernel
theorem dX12_ruleOf_92 : decode cX12_ruleOf 92 = .ok (.aload_n 0, 1) := by decide +kernel
theorem dX12_ruleOf_93 : decode cX12_ruleOf 93 = .ok (.getfield 52, 3) := by decide +kernel
theorem dX12_ruleOf_96 : decode cX12_ruleOf 96 = .ok (.bipush 121, 2) := by decide +kernel
theorem dX12_ruleOf_98 : decode cX12_ruleOf 98 = .ok (.iload_n 3, 1) := by decide +kernel
theorem dX12_ruleOf_99 : decode cX12_ruleOf 99 = .ok (.iastore, 1) := by decide +kernel
theorem dX12_ruleOf_100 : decode cX12_ruleOf 100 = .ok (.iload 5, 2) := by decide +kernel
theorem dX12_ruleOf_102 : decode cX12_ruleOf 102 = .ok (.ifCond .ge 8, 3) := by decide +kernel
theorem dX12_ruleOf_105 : decode cX12_ruleOf 105 = .ok (.bipush 10, 2) := by decide +kernel
theorem dX12_ruleOf_107 : decode cX12_ruleOf 107 = .ok (.goto 9, 3) := by decide +kernel
theorem dX12_ruleOf_110 : decode cX12_ruleOf 110 = .ok (.aload_n 0, 1) := by decide +kernel
theorem dX12_ruleOf_111 : decode cX12_ruleOf 111 = .ok (.iload 5, 2) := by decide +kernel
theorem dX12_ruleOf_113 : decode cX12_ruleOf 113 = .ok (.invokevirtual 320, 3) := by decide +kernel
theorem dX12_ruleOf_116 : decode cX12_ruleOf 116 = .ok (.bipush 100, 2) := by decide +kernel
theorem dX12_ruleOf_118 : decode cX12_ruleOf 118 = .ok (.invokestatic 323, 3) := by decide +kernel
theorem dX12_ruleOf_121 : decode cX12_ruleOf 121 = .ok (.ireturn, 1) := by decide +kernel
theorem dX12_ruleOf_122 : decode cX12_ruleOf 122 = .ok (.aload_n 0, 1) := by decide +kernel
theorem dX12_ruleOf_123 : decode cX12_ruleOf 123 = .ok (.getfield 52, 3) := by decide +kernel
theorem dX12_ruleOf_126 : decode cX12_ruleOf 126 = .ok (.bipush 110, 2) := by decide +kernel
theorem dX12_ruleOf_128 : decode cX12_ruleOf 128 = .ok (.iload_n 2, 1) := by decide +kernel
theorem dX12_ruleOf_129 : decode cX12_ruleOf 129 = .ok (.iastore, 1) := by decide +kernel
theorem dX12_ruleOf_130 : decode cX12_ruleOf 130 = .ok (.iload 5, 2) := by decide +kernel
theorem dX12_ruleOf_132 : decode cX12_ruleOf 132 = .ok (.ifCond .ge 10, 3) := by decide +kernel
theorem dX12_ruleOf_135 : decode cX12_ruleOf 135 = .ok (.bipush 10, 2) := by decide +kernel
theorem dX12_ruleOf_137 : decode cX12_ruleOf 137 = .ok (.iload_n 2, 1) := by decide +kernel
theorem dX12_ruleOf_138 : decode cX12_ruleOf 138 = .ok (.imul, 1) := by decide +kernel
theorem dX12_ruleOf_139 : decode cX12_ruleOf 139 = .ok (.goto 9, 3) := by decide +kernel
theorem dX12_ruleOf_142 : decode cX12_ruleOf 142 = .ok (.aload_n 0, 1) := by decide +kernel
theorem dX12_ruleOf_143 : decode cX12_ruleOf 143 = .ok (.iload 5, 2) := by decide +kernel
theorem dX12_ruleOf_145 : decode cX12_ruleOf 145 = .ok (.invokevirtual 320, 3) := by decide +kernel
theorem dX12_ruleOf_148 : decode cX12_ruleOf 148 = .ok (.ldc_w 326, 3) := by decide +kernel
theorem dX12_ruleOf_151 : decode cX12_ruleOf 151 = .ok (.invokestatic 323, 3) := by decide +kernel
theorem dX12_ruleOf_154 : decode cX12_ruleOf 154 = .ok (.ireturn, 1) := by decide +kernel
theorem dX12_ruleOf_155 : decode cX12_ruleOf 155 = .ok (.aload_n 0, 1) := by decide +kernel
theorem dX12_ruleOf_156 : decode cX12_ruleOf 156 = .ok (.getfield 52, 3) := by decide +kernel
theorem dX12_ruleOf_159 : decode cX12_ruleOf 159 = .ok (.bipush 99, 2) := by decide +kernel
theorem dX12_ruleOf_161 : decode cX12_ruleOf 161 = .ok (.iload_n 2, 1) := by decide +kernel
theorem dX12_ruleOf_162 : decode cX12_ruleOf 162 = .ok (.iastore, 1) := by decide +kernel
theorem dX12_ruleOf_163 : decode cX12_ruleOf 163 = .ok (.aload_n 0, 1) := by decide +kernel
theorem dX12_ruleOf_164 : decode cX12_ruleOf 164 = .ok (.getfield 52, 3) := by decide +kernel
theorem dX12_ruleOf_167 : decode cX12_ruleOf 167 = .ok (.bipush 119, 2) := by decide +kernel
theorem dX12_ruleOf_169 : decode cX12_ruleOf 169 = .ok (.iload_n 3, 1) := by decide +kernel
theorem dX12_ruleOf_170 : decode cX12_ruleOf 170 = .ok (.iastore, 1) := by decide +kernel
theorem dX12_ruleOf_171 : decode cX12_ruleOf 171 = .ok (.iload 5, 2) := by decide +kernel
theorem dX12_ruleOf_173 : decode cX12_ruleOf 173 = .ok (.ifCond .lt 12, 3) := by decide +kernel
theorem dX12_ruleOf_176 : decode cX12_ruleOf 176 = .ok (.aload_n 0, 1) := by decide +kernel
theorem dX12_ruleOf_177 : decode cX12_ruleOf 177 = .ok (.iload 5, 2) := by decide +kernel
theorem dX12_ruleOf_179 : decode cX12_ruleOf 179 = .ok (.invokevirtual 320, 3) := by decide +kernel
theorem dX12_ruleOf_182 : decode cX12_ruleOf 182 = .ok (.goto 13, 3) := by decide +kernel
theorem dX12_ruleOf_185 : decode cX12_ruleOf 185 = .ok (.iload_n 3, 1) := by decide +kernel
theorem dX12_ruleOf_186 : decode cX12_ruleOf 186 = .ok (.iconst 4, 1) := by decide +kernel
theorem dX12_ruleOf_187 : decode cX12_ruleOf 187 = .ok (.if_icmp .le 7, 3) := by decide +kernel
theorem dX12_ruleOf_190 : decode cX12_ruleOf 190 = .ok (.iconst 1, 1) := by decide +kernel
theorem dX12_ruleOf_191 : decode cX12_ruleOf 191 = .ok (.goto 4, 3) := by decide +kernel
theorem dX12_ruleOf_194 : decode cX12_ruleOf 194 = .ok (.iconst 0, 1) := by decide +kernel
theorem dX12_ruleOf_195 : decode cX12_ruleOf 195 = .ok (.ireturn, 1) := by decide +kernel
theorem dX12_rules_0 : decode cX12_rules 0 = .ok (.iload_n 1, 1) := by decide +kernel
theorem dX12_rules_1 : decode cX12_rules 1 = .ok (.i2l, 1) := by decide +kernel
theorem dX12_rules_2 : decode cX12_rules 2 = .ok (.lconst 0, 1) := by decide +kernel
theorem dX12_rules_3 : decode cX12_rules 3 = .ok (.ldc2_w 106, 3) := by decide +kernel
theorem dX12_rules_6 : decode cX12_rules 6 = .ok (.invokestatic 89, 3) := by decide +kernel
theorem dX12_rules_9 : decode cX12_rules 9 = .ok (.ifCond .eq 15, 3) := by decide +kernel
theorem dX12_rules_12 : decode cX12_rules 12 = .ok (.aload_n 0, 1) := by decide +kernel
theorem dX12_rules_13 : decode cX12_rules 13 = .ok (.iload_n 1, 1) := by decide +kernel
theorem dX12_rules_14 : decode cX12_rules 14 = .ok (.iload_n 2, 1) := by decide +kernel
theorem dX12_rules_15 : decode cX12_rules 15 = .ok (.iload_n 3, 1) := by decide +kernel
theorem dX12_rules_16 : decode cX12_rules 16 = .ok (.iload 4, 2) := by decide +kernel
theorem dX12_rules_18 : decode cX12_rules 18 = .ok (.invokevirtual 193, 3) := by decide +kernel
theorem dX12_rules_21 : decode cX12_rules 21 = .ok (.goto 5, 3) := by decide +kernel
theorem dX12_rules_24 : decode cX12_rules 24 = .ok (.ldc 100, 2) := by decide +kernel
theorem dX12_rules_26 : decode cX12_rules 26 = .ok (.ireturn, 1) := by decide +kernel
theorem dX12_priceOf_0 : decode cX12_priceOf 0 = .ok (.aload_n 0, 1) := by decide +kernel
theorem dX12_priceOf_1 : decode cX12_priceOf 1 = .ok (.iconst 0, 1) := by decide +kernel
theorem dX12_priceOf_2 : decode cX12_priceOf 2 = .ok (.aload_n 0, 1) := by decide +kernel
theorem dX12_priceOf_3 : decode cX12_priceOf 3 = .ok (.iload_n 1, 1) := by decide +kernel
theorem dX12_priceOf_4 : decode cX12_priceOf 4 = .ok (.invokevirtual 114, 3) := by decide +kernel
theorem dX12_priceOf_7 : decode cX12_priceOf 7 = .ok (.aload_n 0, 1) := by decide +kernel
theorem dX12_priceOf_8 : decode cX12_priceOf 8 = .ok (.aload_n 0, 1) := by decide +kernel
theorem dX12_priceOf_9 : decode cX12_priceOf 9 = .ok (.getfield 7, 3) := by decide +kernel
theorem dX12_priceOf_12 : decode cX12_priceOf 12 = .ok (.aload_n 0, 1) := by decide +kernel
theorem dX12_priceOf_13 : decode cX12_priceOf 13 = .ok (.iload_n 1, 1) := by decide +kernel
theorem dX12_priceOf_14 : decode cX12_priceOf 14 = .ok (.invokevirtual 93, 3) := by decide +kernel
theorem dX12_priceOf_17 : decode cX12_priceOf 17 = .ok (.iconst 1, 1) := by decide +kernel
theorem dX12_priceOf_18 : decode cX12_priceOf 18 = .ok (.iadd, 1) := by decide +kernel
theorem dX12_priceOf_19 : decode cX12_priceOf 19 = .ok (.iaload, 1) := by decide +kernel
theorem dX12_priceOf_20 : decode cX12_priceOf 20 = .ok (.invokevirtual 117, 3) := by decide +kernel
theorem dX12_priceOf_23 : decode cX12_priceOf 23 = .ok (.aload_n 0, 1) := by decide +kernel
theorem dX12_priceOf_24 : decode cX12_priceOf 24 = .ok (.iload_n 1, 1) := by decide +kernel
theorem dX12_priceOf_25 : decode cX12_priceOf 25 = .ok (.invokevirtual 168, 3) := by decide +kernel
theorem dX12_priceOf_28 : decode cX12_priceOf 28 = .ok (.invokevirtual 193, 3) := by decide +kernel
theorem dX12_priceOf_31 : decode cX12_priceOf 31 = .ok (.ireturn, 1) := by decide +kernel
theorem dX12_price_0 : decode cX12_price 0 = .ok (.aload_n 0, 1) := by decide +kernel
theorem dX12_price_1 : decode cX12_price 1 = .ok (.iload_n 1, 1) := by decide +kernel
theorem dX12_price_2 : decode cX12_price 2 = .ok (.invokevirtual 156, 3) := by decide +kernel
theorem dX12_price_5 : decode cX12_price 5 = .ok (.ifCond .eq 11, 3) := by decide +kernel
theorem dX12_price_8 : decode cX12_price 8 = .ok (.aload_n 0, 1) := by decide +kernel
theorem dX12_price_9 : decode cX12_price 9 = .ok (.iload_n 1, 1) := by decide +kernel
theorem dX12_price_10 : decode cX12_price 10 = .ok (.invokevirtual 190, 3) := by decide +kernel
theorem dX12_price_13 : decode cX12_price 13 = .ok (.goto 5, 3) := by decide +kernel
theorem dX12_price_16 : decode cX12_price 16 = .ok (.ldc 100, 2) := by decide +kernel
theorem dX12_price_18 : decode cX12_price 18 = .ok (.ireturn, 1) := by decide +kernel
theorem dX12_measure_0 : decode cX12_measure 0 = .ok (.aload_n 0, 1) := by decide +kernel
theorem dX12_measure_1 : decode cX12_measure 1 = .ok (.iload_n 1, 1) := by decide +kernel
theorem dX12_measure_2 : decode cX12_measure 2 = .ok (.invokevirtual 156, 3) := by decide +kernel
theorem dX12_measure_5 : decode cX12_measure 5 = .ok (.ifCond .eq 43, 3) := by decide +kernel
theorem dX12_measure_8 : decode cX12_measure 8 = .ok (.iload_n 2, 1) := by decide +kernel
theorem dX12_measure_9 : decode cX12_measure 9 = .ok (.i2l, 1) := by decide +kernel
theorem dX12_measure_10 : decode cX12_measure 10 = .ok (.lconst 0, 1) := by decide +kernel
theorem dX12_measure_11 : decode cX12_measure 11 = .ok (.lconst 1, 1) := by decide +kernel
theorem dX12_measure_12 : decode cX12_measure 12 = .ok (.invokestatic 89, 3) := by decide +kernel
theorem dX12_measure_15 : decode cX12_measure 15 = .ok (.ifCond .eq 33, 3) := by decide +kernel
theorem dX12_measure_18 : decode cX12_measure 18 = .ok (.iload_n 3, 1) := by decide +kernel
theorem dX12_measure_19 : decode cX12_measure 19 = .ok (.i2l, 1) := by decide +kernel
theorem dX12_measure_20 : decode cX12_measure 20 = .ok (.lconst 0, 1) := by decide +kernel
theorem dX12_measure_21 : decode cX12_measure 21 = .ok (.ldc2_w 147, 3) := by decide +kernel
theorem dX12_measure_24 : decode cX12_measure 24 = .ok (.invokestatic 89, 3) := by decide +kernel
theorem dX12_measure_27 : decode cX12_measure 27 = .ok (.ifCond .eq 21, 3) := by decide +kernel
theorem dX12_measure_30 : decode cX12_measure 30 = .ok (.aload_n 0, 1) := by decide +kernel
theorem dX12_measure_31 : decode cX12_measure 31 = .ok (.aload_n 0, 1) := by decide +kernel
theorem dX12_measure_32 : decode cX12_measure 32 = .ok (.iload_n 1, 1) := by decide +kernel
theorem dX12_measure_33 : decode cX12_measure 33 = .ok (.invokevirtual 93, 3) := by decide +kernel
theorem dX12_measure_36 : decode cX12_measure 36 = .ok (.bipush 7, 2) := by decide +kernel
theorem dX12_measure_38 : decode cX12_measure 38 = .ok (.iadd, 1) := by decide +kernel
theorem dX12_measure_39 : decode cX12_measure 39 = .ok (.iload_n 2, 1) := by decide +kernel
theorem dX12_measure_40 : decode cX12_measure 40 = .ok (.iadd, 1) := by decide +kernel
theorem dX12_measure_41 : decode cX12_measure 41 = .ok (.iload_n 3, 1) := by decide +kernel
theorem dX12_measure_42 : decode cX12_measure 42 = .ok (.invokevirtual 110, 3) := by decide +kernel
theorem dX12_measure_45 : decode cX12_measure 45 = .ok (.goto 5, 3) := by decide +kernel
theorem dX12_measure_48 : decode cX12_measure 48 = .ok (.ldc 100, 2) := by decide +kernel
theorem dX12_measure_50 : decode cX12_measure 50 = .ok (.ireturn, 1) := by decide +kernel
theorem dX12_quarrels_0 : decode cX12_quarrels 0 = .ok (.iconst 0, 1) := by decide +kernel
theorem dX12_quarrels_1 : decode cX12_quarrels 1 = .ok (.istore_n 1, 1) := by decide +kernel
theorem dX12_quarrels_2 : decode cX12_quarrels 2 = .ok (.iconst 0, 1) := by decide +kernel
theorem dX12_quarrels_3 : decode cX12_quarrels 3 = .ok (.istore_n 2, 1) := by decide +kernel
theorem dX12_quarrels_4 : decode cX12_quarrels 4 = .ok (.iload_n 2, 1) := by decide +kernel
theorem dX12_quarrels_5 : decode cX12_quarrels 5 = .ok (.aload_n 0, 1) := by decide +kernel
theorem dX12_quarrels_6 : decode cX12_quarrels 6 = .ok (.getfield 7, 3) := by decide +kernel
theorem dX12_quarrels_9 : decode cX12_quarrels 9 = .ok (.iconst 1, 1) := by decide +kernel
