theorem dX12_quarrels_10 : decode cX12_quarrels 10 = .ok (.iaload, 1) := by decide +kernel
theorem dX12_quarrels_11 : decode cX12_quarrels 11 = .ok (.if_icmp .ge 48, 3) := by decide +kernel
theorem dX12_quarrels_14 : decode cX12_quarrels 14 = .ok (.iload_n 1, 1) := by decide +kernel
theorem dX12_quarrels_15 : decode cX12_quarrels 15 = .ok (.aload_n 0, 1) := by decide +kernel
theorem dX12_quarrels_16 : decode cX12_quarrels 16 = .ok (.getfield 7, 3) := by decide +kernel
theorem dX12_quarrels_19 : decode cX12_quarrels 19 = .ok (.aload_n 0, 1) := by decide +kernel
theorem dX12_quarrels_20 : decode cX12_quarrels 20 = .ok (.iload_n 2, 1) := by decide +kernel
theorem dX12_quarrels_21 : decode cX12_quarrels 21 = .ok (.invokevirtual 93, 3) := by decide +kernel
theorem dX12_quarrels_24 : decode cX12_quarrels 24 = .ok (.bipush 7, 2) := by decide +kernel
theorem dX12_quarrels_26 : decode cX12_quarrels 26 = .ok (.iadd, 1) := by decide +kernel
theorem dX12_quarrels_27 : decode cX12_quarrels 27 = .ok (.iaload, 1) := by decide +kernel
theorem dX12_quarrels_28 : decode cX12_quarrels 28 = .ok (.aload_n 0, 1) := by decide +kernel
theorem dX12_quarrels_29 : decode cX12_quarrels 29 = .ok (.getfield 7, 3) := by decide +kernel
theorem dX12_quarrels_32 : decode cX12_quarrels 32 = .ok (.aload_n 0, 1) := by decide +kernel
theorem dX12_quarrels_33 : decode cX12_quarrels 33 = .ok (.iload_n 2, 1) := by decide +kernel
theorem dX12_quarrels_34 : decode cX12_quarrels 34 = .ok (.invokevirtual 93, 3) := by decide +kernel
theorem dX12_quarrels_37 : decode cX12_quarrels 37 = .ok (.bipush 7, 2) := by decide +kernel
theorem dX12_quarrels_39 : decode cX12_quarrels 39 = .ok (.iadd, 1) := by decide +kernel
theorem dX12_quarrels_40 : decode cX12_quarrels 40 = .ok (.iconst 1, 1) := by decide +kernel
theorem dX12_quarrels_41 : decode cX12_quarrels 41 = .ok (.iadd, 1) := by decide +kernel
theorem dX12_quarrels_42 : decode cX12_quarrels 42 = .ok (.iaload, 1) := by decide +kernel
theorem dX12_quarrels_43 : decode cX12_quarrels 43 = .ok (.if_icmp .eq 7, 3) := by decide +kernel
theorem dX12_quarrels_46 : decode cX12_quarrels 46 = .ok (.iconst 1, 1) := by decide +kernel
theorem dX12_quarrels_47 : decode cX12_quarrels 47 = .ok (.goto 4, 3) := by decide +kernel
theorem dX12_quarrels_50 : decode cX12_quarrels 50 = .ok (.iconst 0, 1) := by decide +kernel
theorem dX12_quarrels_51 : decode cX12_quarrels 51 = .ok (.iadd, 1) := by decide +kernel
theorem dX12_quarrels_52 : decode cX12_quarrels 52 = .ok (.istore_n 1, 1) := by decide +kernel
theorem dX12_quarrels_53 : decode cX12_quarrels 53 = .ok (.iinc 2 1, 3) := by decide +kernel
theorem dX12_quarrels_56 : decode cX12_quarrels 56 = .ok (.goto (-52), 3) := by decide +kernel
theorem dX12_quarrels_59 : decode cX12_quarrels 59 = .ok (.iload_n 1, 1) := by decide +kernel
theorem dX12_quarrels_60 : decode cX12_quarrels 60 = .ok (.ireturn, 1) := by decide +kernel
theorem dX12_claim_0 : decode cX12_claim 0 = .ok (.iload_n 1, 1) := by decide +kernel
theorem dX12_claim_1 : decode cX12_claim 1 = .ok (.i2l, 1) := by decide +kernel
theorem dX12_claim_2 : decode cX12_claim 2 = .ok (.lconst 0, 1) := by decide +kernel
theorem dX12_claim_3 : decode cX12_claim 3 = .ok (.ldc2_w 180, 3) := by decide +kernel
theorem dX12_claim_6 : decode cX12_claim 6 = .ok (.invokestatic 89, 3) := by decide +kernel
theorem dX12_claim_9 : decode cX12_claim 9 = .ok (.ifCond .eq 28, 3) := by decide +kernel
theorem dX12_claim_12 : decode cX12_claim 12 = .ok (.iload_n 2, 1) := by decide +kernel
theorem dX12_claim_13 : decode cX12_claim 13 = .ok (.i2l, 1) := by decide +kernel
theorem dX12_claim_14 : decode cX12_claim 14 = .ok (.iload_n 1, 1) := by decide +kernel
theorem dX12_claim_15 : decode cX12_claim 15 = .ok (.i2l, 1) := by decide +kernel
theorem dX12_claim_16 : decode cX12_claim 16 = .ok (.ldc2_w 180, 3) := by decide +kernel
theorem dX12_claim_19 : decode cX12_claim 19 = .ok (.invokestatic 89, 3) := by decide +kernel
theorem dX12_claim_22 : decode cX12_claim 22 = .ok (.ifCond .eq 15, 3) := by decide +kernel
theorem dX12_claim_25 : decode cX12_claim 25 = .ok (.iload_n 3, 1) := by decide +kernel
theorem dX12_claim_26 : decode cX12_claim 26 = .ok (.i2l, 1) := by decide +kernel
theorem dX12_claim_27 : decode cX12_claim 27 = .ok (.lconst 0, 1) := by decide +kernel
theorem dX12_claim_28 : decode cX12_claim 28 = .ok (.ldc2_w 106, 3) := by decide +kernel
theorem dX12_claim_31 : decode cX12_claim 31 = .ok (.invokestatic 89, 3) := by decide +kernel
theorem dX12_claim_34 : decode cX12_claim 34 = .ok (.ifCond .ne 6, 3) := by decide +kernel
theorem dX12_claim_37 : decode cX12_claim 37 = .ok (.ldc 100, 2) := by decide +kernel
theorem dX12_claim_39 : decode cX12_claim 39 = .ok (.ireturn, 1) := by decide +kernel
theorem dX12_claim_40 : decode cX12_claim 40 = .ok (.aload_n 0, 1) := by decide +kernel
theorem dX12_claim_41 : decode cX12_claim 41 = .ok (.getfield 7, 3) := by decide +kernel
theorem dX12_claim_44 : decode cX12_claim 44 = .ok (.iconst 4, 1) := by decide +kernel
theorem dX12_claim_45 : decode cX12_claim 45 = .ok (.iaload, 1) := by decide +kernel
theorem dX12_claim_46 : decode cX12_claim 46 = .ok (.bipush 20, 2) := by decide +kernel
theorem dX12_claim_48 : decode cX12_claim 48 = .ok (.if_icmp .ne 6, 3) := by decide +kernel
theorem dX12_claim_51 : decode cX12_claim 51 = .ok (.ldc 149, 2) := by decide +kernel
theorem dX12_claim_53 : decode cX12_claim 53 = .ok (.ireturn, 1) := by decide +kernel
theorem dX12_claim_54 : decode cX12_claim 54 = .ok (.sipush 380, 3) := by decide +kernel
theorem dX12_claim_57 : decode cX12_claim 57 = .ok (.iconst 3, 1) := by decide +kernel
theorem dX12_claim_58 : decode cX12_claim 58 = .ok (.aload_n 0, 1) := by decide +kernel
theorem dX12_claim_59 : decode cX12_claim 59 = .ok (.getfield 7, 3) := by decide +kernel
theorem dX12_claim_62 : decode cX12_claim 62 = .ok (.iconst 4, 1) := by decide +kernel
theorem dX12_claim_63 : decode cX12_claim 63 = .ok (.iaload, 1) := by decide +kernel
theorem dX12_claim_64 : decode cX12_claim 64 = .ok (.imul, 1) := by decide +kernel
theorem dX12_claim_65 : decode cX12_claim 65 = .ok (.iadd, 1) := by decide +kernel
theorem dX12_claim_66 : decode cX12_claim 66 = .ok (.istore 4, 2) := by decide +kernel
theorem dX12_claim_68 : decode cX12_claim 68 = .ok (.aload_n 0, 1) := by decide +kernel
theorem dX12_claim_69 : decode cX12_claim 69 = .ok (.getfield 7, 3) := by decide +kernel
theorem dX12_claim_72 : decode cX12_claim 72 = .ok (.iload 4, 2) := by decide +kernel
theorem dX12_claim_74 : decode cX12_claim 74 = .ok (.iload_n 1, 1) := by decide +kernel
theorem dX12_claim_75 : decode cX12_claim 75 = .ok (.iastore, 1) := by decide +kernel
theorem dX12_claim_76 : decode cX12_claim 76 = .ok (.aload_n 0, 1) := by decide +kernel
theorem dX12_claim_77 : decode cX12_claim 77 = .ok (.getfield 7, 3) := by decide +kernel
theorem dX12_claim_80 : decode cX12_claim 80 = .ok (.iload 4, 2) := by decide +kernel
theorem dX12_claim_82 : decode cX12_claim 82 = .ok (.iconst 1, 1) := by decide +kernel
theorem dX12_claim_83 : decode cX12_claim 83 = .ok (.iadd, 1) := by decide +kernel
theorem dX12_claim_84 : decode cX12_claim 84 = .ok (.iload_n 2, 1) := by decide +kernel
theorem dX12_claim_85 : decode cX12_claim 85 = .ok (.iastore, 1) := by decide +kernel
theorem dX12_claim_86 : decode cX12_claim 86 = .ok (.aload_n 0, 1) := by decide +kernel
theorem dX12_claim_87 : decode cX12_claim 87 = .ok (.getfield 7, 3) := by decide +kernel
theorem dX12_claim_90 : decode cX12_claim 90 = .ok (.iload 4, 2) := by decide +kernel
theorem dX12_claim_92 : decode cX12_claim 92 = .ok (.iconst 2, 1) := by decide +kernel
theorem dX12_claim_93 : decode cX12_claim 93 = .ok (.iadd, 1) := by decide +kernel
theorem dX12_claim_94 : decode cX12_claim 94 = .ok (.iload_n 3, 1) := by decide +kernel
theorem dX12_claim_95 : decode cX12_claim 95 = .ok (.iastore, 1) := by decide +kernel
theorem dX12_claim_96 : decode cX12_claim 96 = .ok (.aload_n 0, 1) := by decide +kernel
theorem dX12_claim_97 : decode cX12_claim 97 = .ok (.getfield 7, 3) := by decide +kernel
theorem dX12_claim_100 : decode cX12_claim 100 = .ok (.iconst 4, 1) := by decide +kernel
theorem dX12_claim_101 : decode cX12_claim 101 = .ok (.dup2, 1) := by decide +kernel
theorem dX12_claim_102 : decode cX12_claim 102 = .ok (.iaload, 1) := by decide +kernel
theorem dX12_claim_103 : decode cX12_claim 103 = .ok (.iconst 1, 1) := by decide +kernel
theorem dX12_claim_104 : decode cX12_claim 104 = .ok (.iadd, 1) := by decide +kernel
theorem dX12_claim_105 : decode cX12_claim 105 = .ok (.iastore, 1) := by decide +kernel
theorem dX12_claim_106 : decode cX12_claim 106 = .ok (.aload_n 0, 1) := by decide +kernel
theorem dX12_claim_107 : decode cX12_claim 107 = .ok (.getfield 7, 3) := by decide +kernel
theorem dX12_claim_110 : decode cX12_claim 110 = .ok (.iconst 4, 1) := by decide +kernel
theorem dX12_claim_111 : decode cX12_claim 111 = .ok (.iaload, 1) := by decide +kernel
theorem dX12_claim_112 : decode cX12_claim 112 = .ok (.iconst 1, 1) := by decide +kernel
theorem dX12_claim_113 : decode cX12_claim 113 = .ok (.isub, 1) := by decide +kernel
theorem dX12_claim_114 : decode cX12_claim 114 = .ok (.ireturn, 1) := by decide +kernel
theorem dX12_giveAll_0 : decode cX12_giveAll 0 = .ok (.iconst 0, 1) := by decide +kernel
theorem dX12_giveAll_1 : decode cX12_giveAll 1 = .ok (.istore_n 1, 1) := by decide +kernel
theorem dX12_giveAll_2 : decode cX12_giveAll 2 = .ok (.iload_n 1, 1) := by decide +kernel
theorem dX12_giveAll_3 : decode cX12_giveAll 3 = .ok (.sipush 1999, 3) := by decide +kernel
theorem dX12_giveAll_6 : decode cX12_giveAll 6 = .ok (.if_icmp .gt 16, 3) := by decide +kernel
theorem dX12_giveAll_9 : decode cX12_giveAll 9 = .ok (.aload_n 0, 1) := by decide +kernel
theorem dX12_giveAll_10 : decode cX12_giveAll 10 = .ok (.getfield 58, 3) := by decide +kernel
theorem dX12_giveAll_13 : decode cX12_giveAll 13 = .ok (.iload_n 1, 1) := by decide +kernel
theorem dX12_giveAll_14 : decode cX12_giveAll 14 = .ok (.iconst 0, 1) := by decide +kernel
theorem dX12_giveAll_15 : decode cX12_giveAll 15 = .ok (.bastore, 1) := by decide +kernel
theorem dX12_giveAll_16 : decode cX12_giveAll 16 = .ok (.iinc 1 1, 3) := by decide +kernel
theorem dX12_giveAll_19 : decode cX12_giveAll 19 = .ok (.goto (-17), 3) := by decide +kernel
theorem dX12_giveAll_22 : decode cX12_giveAll 22 = .ok (.iconst 0, 1) := by decide +kernel
theorem dX12_giveAll_23 : decode cX12_giveAll 23 = .ok (.istore_n 1, 1) := by decide +kernel
theorem dX12_giveAll_24 : decode cX12_giveAll 24 = .ok (.iconst 0, 1) := by decide +kernel
theorem dX12_giveAll_25 : decode cX12_giveAll 25 = .ok (.istore_n 2, 1) := by decide +kernel
theorem dX12_giveAll_26 : decode cX12_giveAll 26 = .ok (.iload_n 2, 1) := by decide +kernel
theorem dX12_giveAll_27 : decode cX12_giveAll 27 = .ok (.aload_n 0, 1) := by decide +kernel
theorem dX12_giveAll_28 : decode cX12_giveAll 28 = .ok (.getfield 7, 3) := by decide +kernel
theorem dX12_giveAll_31 : decode cX12_giveAll 31 = .ok (.iconst 4, 1) := by decide +kernel
theorem dX12_giveAll_32 : decode cX12_giveAll 32 = .ok (.iaload, 1) := by decide +kernel
theorem dX12_giveAll_33 : decode cX12_giveAll 33 = .ok (.if_icmp .ge 105, 3) := by decide +kernel
theorem dX12_giveAll_36 : decode cX12_giveAll 36 = .ok (.sipush 380, 3) := by decide +kernel
theorem dX12_giveAll_39 : decode cX12_giveAll 39 = .ok (.iconst 3, 1) := by decide +kernel
theorem dX12_giveAll_40 : decode cX12_giveAll 40 = .ok (.iload_n 2, 1) := by decide +kernel
theorem dX12_giveAll_41 : decode cX12_giveAll 41 = .ok (.imul, 1) := by decide +kernel
theorem dX12_giveAll_42 : decode cX12_giveAll 42 = .ok (.iadd, 1) := by decide +kernel
theorem dX12_giveAll_43 : decode cX12_giveAll 43 = .ok (.istore_n 3, 1) := by decide +kernel
theorem dX12_giveAll_44 : decode cX12_giveAll 44 = .ok (.aload_n 0, 1) := by decide +kernel
theorem dX12_giveAll_45 : decode cX12_giveAll 45 = .ok (.getfield 62, 3) := by decide +kernel
theorem dX12_giveAll_48 : decode cX12_giveAll 48 = .ok (.iload_n 2, 1) := by decide +kernel
theorem dX12_giveAll_49 : decode cX12_giveAll 49 = .ok (.iconst 0, 1) := by decide +kernel
theorem dX12_giveAll_50 : decode cX12_giveAll 50 = .ok (.iastore, 1) := by decide +kernel
theorem dX12_giveAll_51 : decode cX12_giveAll 51 = .ok (.aload_n 0, 1) := by decide +kernel
theorem dX12_giveAll_52 : decode cX12_giveAll 52 = .ok (.getfield 7, 3) := by decide +kernel
theorem dX12_giveAll_55 : decode cX12_giveAll 55 = .ok (.iload_n 3, 1) := by decide +kernel
theorem dX12_giveAll_56 : decode cX12_giveAll 56 = .ok (.iaload, 1) := by decide +kernel
theorem dX12_giveAll_57 : decode cX12_giveAll 57 = .ok (.istore 4, 2) := by decide +kernel
theorem dX12_giveAll_59 : decode cX12_giveAll 59 = .ok (.iload 4, 2) := by decide +kernel
theorem dX12_giveAll_61 : decode cX12_giveAll 61 = .ok (.aload_n 0, 1) := by decide +kernel
theorem dX12_giveAll_62 : decode cX12_giveAll 62 = .ok (.getfield 7, 3) := by decide +kernel
theorem dX12_giveAll_65 : decode cX12_giveAll 65 = .ok (.iload_n 3, 1) := by decide +kernel
theorem dX12_giveAll_66 : decode cX12_giveAll 66 = .ok (.iconst 1, 1) := by decide +kernel
theorem dX12_giveAll_67 : decode cX12_giveAll 67 = .ok (.iadd, 1) := by decide +kernel
theorem dX12_giveAll_68 : decode cX12_giveAll 68 = .ok (.iaload, 1) := by decide +kernel
theorem dX12_giveAll_69 : decode cX12_giveAll 69 = .ok (.if_icmp .gt 63, 3) := by decide +kernel
theorem dX12_giveAll_72 : decode cX12_giveAll 72 = .ok (.aload_n 0, 1) := by decide +kernel
theorem dX12_giveAll_73 : decode cX12_giveAll 73 = .ok (.getfield 58, 3) := by decide +kernel
theorem dX12_giveAll_76 : decode cX12_giveAll 76 = .ok (.iload 4, 2) := by decide +kernel
theorem dX12_giveAll_78 : decode cX12_giveAll 78 = .ok (.baload, 1) := by decide +kernel
theorem dX12_giveAll_79 : decode cX12_giveAll 79 = .ok (.ifCond .ne 47, 3) := by decide +kernel
theorem dX12_giveAll_82 : decode cX12_giveAll 82 = .ok (.aload_n 0, 1) := by decide +kernel
theorem dX12_giveAll_83 : decode cX12_giveAll 83 = .ok (.iconst 3, 1) := by decide +kernel
theorem dX12_giveAll_84 : decode cX12_giveAll 84 = .ok (.aload_n 0, 1) := by decide +kernel
theorem dX12_giveAll_85 : decode cX12_giveAll 85 = .ok (.getfield 7, 3) := by decide +kernel
theorem dX12_giveAll_88 : decode cX12_giveAll 88 = .ok (.iload_n 3, 1) := by decide +kernel
theorem dX12_giveAll_89 : decode cX12_giveAll 89 = .ok (.iconst 2, 1) := by decide +kernel
theorem dX12_giveAll_90 : decode cX12_giveAll 90 = .ok (.iadd, 1) := by decide +kernel
theorem dX12_giveAll_91 : decode cX12_giveAll 91 = .ok (.iaload, 1) := by decide +kernel
theorem dX12_giveAll_92 : decode cX12_giveAll 92 = .ok (.aload_n 0, 1) := by decide +kernel
theorem dX12_giveAll_93 : decode cX12_giveAll 93 = .ok (.iload 4, 2) := by decide +kernel
theorem dX12_giveAll_95 : decode cX12_giveAll 95 = .ok (.invokevirtual 162, 3) := by decide +kernel
theorem dX12_giveAll_98 : decode cX12_giveAll 98 = .ok (.iconst 0, 1) := by decide +kernel
theorem dX12_giveAll_99 : decode cX12_giveAll 99 = .ok (.invokevirtual 193, 3) := by decide +kernel
theorem dX12_giveAll_102 : decode cX12_giveAll 102 = .ok (.ifCond .eq 24, 3) := by decide +kernel
theorem dX12_giveAll_105 : decode cX12_giveAll 105 = .ok (.aload_n 0, 1) := by decide +kernel
theorem dX12_giveAll_106 : decode cX12_giveAll 106 = .ok (.getfield 58, 3) := by decide +kernel
theorem dX12_giveAll_109 : decode cX12_giveAll 109 = .ok (.iload 4, 2) := by decide +kernel
theorem dX12_giveAll_111 : decode cX12_giveAll 111 = .ok (.iconst 1, 1) := by decide +kernel
theorem dX12_giveAll_112 : decode cX12_giveAll 112 = .ok (.bastore, 1) := by decide +kernel
theorem dX12_giveAll_113 : decode cX12_giveAll 113 = .ok (.aload_n 0, 1) := by decide +kernel
theorem dX12_giveAll_114 : decode cX12_giveAll 114 = .ok (.getfield 62, 3) := by decide +kernel
theorem dX12_giveAll_117 : decode cX12_giveAll 117 = .ok (.iload_n 2, 1) := by decide +kernel
theorem dX12_giveAll_118 : decode cX12_giveAll 118 = .ok (.dup2, 1) := by decide +kernel
theorem dX12_giveAll_119 : decode cX12_giveAll 119 = .ok (.iaload, 1) := by decide +kernel
theorem dX12_giveAll_120 : decode cX12_giveAll 120 = .ok (.iconst 1, 1) := by decide +kernel
theorem dX12_giveAll_121 : decode cX12_giveAll 121 = .ok (.iadd, 1) := by decide +kernel
theorem dX12_giveAll_122 : decode cX12_giveAll 122 = .ok (.iastore, 1) := by decide +kernel
theorem dX12_giveAll_123 : decode cX12_giveAll 123 = .ok (.iinc 1 1, 3) := by decide +kernel
theorem dX12_giveAll_126 : decode cX12_giveAll 126 = .ok (.iinc 4 1, 3) := by decide +kernel
theorem dX12_giveAll_129 : decode cX12_giveAll 129 = .ok (.goto (-70), 3) := by decide +kernel
theorem dX12_giveAll_132 : decode cX12_giveAll 132 = .ok (.iinc 2 1, 3) := by decide +kernel
theorem dX12_giveAll_135 : decode cX12_giveAll 135 = .ok (.goto (-109), 3) := by decide +kernel
theorem dX12_giveAll_138 : decode cX12_giveAll 138 = .ok (.iload_n 1, 1) := by decide +kernel
theorem dX12_giveAll_139 : decode cX12_giveAll 139 = .ok (.ireturn, 1) := by decide +kernel
theorem dX12_given_0 : decode cX12_given 0 = .ok (.iload_n 1, 1) := by decide +kernel
theorem dX12_given_1 : decode cX12_given 1 = .ok (.i2l, 1) := by decide +kernel
theorem dX12_given_2 : decode cX12_given 2 = .ok (.lconst 0, 1) := by decide +kernel
theorem dX12_given_3 : decode cX12_given 3 = .ok (.aload_n 0, 1) := by decide +kernel
theorem dX12_given_4 : decode cX12_given 4 = .ok (.getfield 7, 3) := by decide +kernel
theorem dX12_given_7 : decode cX12_given 7 = .ok (.iconst 4, 1) := by decide +kernel
theorem dX12_given_8 : decode cX12_given 8 = .ok (.iaload, 1) := by decide +kernel
theorem dX12_given_9 : decode cX12_given 9 = .ok (.iconst 1, 1) := by decide +kernel
theorem dX12_given_10 : decode cX12_given 10 = .ok (.isub, 1) := by decide +kernel
theorem dX12_given_11 : decode cX12_given 11 = .ok (.i2l, 1) := by decide +kernel
theorem dX12_given_12 : decode cX12_given 12 = .ok (.invokestatic 89, 3) := by decide +kernel
theorem dX12_given_15 : decode cX12_given 15 = .ok (.ifCond .ne 6, 3) := by decide +kernel
theorem dX12_given_18 : decode cX12_given 18 = .ok (.ldc 100, 2) := by decide +kernel
theorem dX12_given_20 : decode cX12_given 20 = .ok (.ireturn, 1) := by decide +kernel
theorem dX12_given_21 : decode cX12_given 21 = .ok (.aload_n 0, 1) := by decide +kernel
theorem dX12_given_22 : decode cX12_given 22 = .ok (.invokevirtual 327, 3) := by decide +kernel
theorem dX12_given_25 : decode cX12_given 25 = .ok (.istore_n 2, 1) := by decide +kernel
theorem dX12_given_26 : decode cX12_given 26 = .ok (.aload_n 0, 1) := by decide +kernel
theorem dX12_given_27 : decode cX12_given 27 = .ok (.getfield 62, 3) := by decide +kernel
theorem dX12_given_30 : decode cX12_given 30 = .ok (.iload_n 1, 1) := by decide +kernel
theorem dX12_given_31 : decode cX12_given 31 = .ok (.iaload, 1) := by decide +kernel
theorem dX12_given_32 : decode cX12_given 32 = .ok (.ireturn, 1) := by decide +kernel
theorem dX12_late_0 : decode cX12_late 0 = .ok (.iload_n 1, 1) := by decide +kernel
theorem dX12_late_1 : decode cX12_late 1 = .ok (.i2l, 1) := by decide +kernel
theorem dX12_late_2 : decode cX12_late 2 = .ok (.lconst 0, 1) := by decide +kernel
theorem dX12_late_3 : decode cX12_late 3 = .ok (.ldc2_w 147, 3) := by decide +kernel
theorem dX12_late_6 : decode cX12_late 6 = .ok (.invokestatic 89, 3) := by decide +kernel
theorem dX12_late_9 : decode cX12_late 9 = .ok (.ifCond .ne 6, 3) := by decide +kernel
theorem dX12_late_12 : decode cX12_late 12 = .ok (.ldc 100, 2) := by decide +kernel
theorem dX12_late_14 : decode cX12_late 14 = .ok (.ireturn, 1) := by decide +kernel
theorem dX12_late_15 : decode cX12_late 15 = .ok (.iload_n 1, 1) := by decide +kernel
theorem dX12_late_16 : decode cX12_late 16 = .ok (.aload_n 0, 1) := by decide +kernel
theorem dX12_late_17 : decode cX12_late 17 = .ok (.getfield 7, 3) := by decide +kernel
theorem dX12_late_20 : decode cX12_late 20 = .ok (.bipush 16, 2) := by decide +kernel
theorem dX12_late_22 : decode cX12_late 22 = .ok (.iaload, 1) := by decide +kernel
theorem dX12_late_23 : decode cX12_late 23 = .ok (.isub, 1) := by decide +kernel
theorem dX12_late_24 : decode cX12_late 24 = .ok (.aload_n 0, 1) := by decide +kernel
theorem dX12_late_25 : decode cX12_late 25 = .ok (.invokevirtual 327, 3) := by decide +kernel
theorem dX12_late_28 : decode cX12_late 28 = .ok (.isub, 1) := by decide +kernel
theorem dX12_late_29 : decode cX12_late 29 = .ok (.istore_n 2, 1) := by decide +kernel
theorem dX12_late_30 : decode cX12_late 30 = .ok (.aload_n 0, 1) := by decide +kernel
theorem dX12_late_31 : decode cX12_late 31 = .ok (.iconst 2, 1) := by decide +kernel
theorem dX12_late_32 : decode cX12_late 32 = .ok (.iload_n 2, 1) := by decide +kernel
theorem dX12_late_33 : decode cX12_late 33 = .ok (.ifCond .ge 7, 3) := by decide +kernel
theorem dX12_late_36 : decode cX12_late 36 = .ok (.iconst 0, 1) := by decide +kernel
theorem dX12_late_37 : decode cX12_late 37 = .ok (.goto 4, 3) := by decide +kernel
theorem dX12_late_40 : decode cX12_late 40 = .ok (.iload_n 2, 1) := by decide +kernel
theorem dX12_late_41 : decode cX12_late 41 = .ok (.iconst 0, 1) := by decide +kernel
theorem dX12_late_42 : decode cX12_late 42 = .ok (.iconst 0, 1) := by decide +kernel
theorem dX12_late_43 : decode cX12_late 43 = .ok (.invokevirtual 193, 3) := by decide +kernel
theorem dX12_late_46 : decode cX12_late 46 = .ok (.ireturn, 1) := by decide +kernel
theorem dX12_call_0 : decode cX12_call 0 = .ok (.iload_n 1, 1) := by decide +kernel
theorem dX12_call_1 : decode cX12_call 1 = .ok (.i2l, 1) := by decide +kernel
theorem dX12_call_2 : decode cX12_call 2 = .ok (.lconst 1, 1) := by decide +kernel
theorem dX12_call_3 : decode cX12_call 3 = .ok (.ldc2_w 330, 3) := by decide +kernel
theorem dX12_call_6 : decode cX12_call 6 = .ok (.invokestatic 89, 3) := by decide +kernel
theorem dX12_call_9 : decode cX12_call 9 = .ok (.ifCond .ne 6, 3) := by decide +kernel
theorem dX12_call_12 : decode cX12_call 12 = .ok (.ldc 100, 2) := by decide +kernel
theorem dX12_call_14 : decode cX12_call 14 = .ok (.ireturn, 1) := by decide +kernel
theorem dX12_call_15 : decode cX12_call 15 = .ok (.aload_n 0, 1) := by decide +kernel
theorem dX12_call_16 : decode cX12_call 16 = .ok (.getfield 7, 3) := by decide +kernel
theorem dX12_call_19 : decode cX12_call 19 = .ok (.bipush 9, 2) := by decide +kernel
theorem dX12_call_21 : decode cX12_call 21 = .ok (.dup2, 1) := by decide +kernel
theorem dX12_call_22 : decode cX12_call 22 = .ok (.iaload, 1) := by decide +kernel
theorem dX12_call_23 : decode cX12_call 23 = .ok (.iload_n 1, 1) := by decide +kernel
theorem dX12_call_24 : decode cX12_call 24 = .ok (.iadd, 1) := by decide +kernel
theorem dX12_call_25 : decode cX12_call 25 = .ok (.iastore, 1) := by decide +kernel
theorem dX12_call_26 : decode cX12_call 26 = .ok (.aload_n 0, 1) := by decide +kernel
theorem dX12_call_27 : decode cX12_call 27 = .ok (.getfield 7, 3) := by decide +kernel
theorem dX12_call_30 : decode cX12_call 30 = .ok (.bipush 9, 2) := by decide +kernel
theorem dX12_call_32 : decode cX12_call 32 = .ok (.iaload, 1) := by decide +kernel
theorem dX12_call_33 : decode cX12_call 33 = .ok (.ireturn, 1) := by decide +kernel
theorem dX12_due_0 : decode cX12_due 0 = .ok (.iload_n 1, 1) := by decide +kernel
theorem dX12_due_1 : decode cX12_due 1 = .ok (.i2l, 1) := by decide +kernel
theorem dX12_due_2 : decode cX12_due 2 = .ok (.aload_n 0, 1) := by decide +kernel
theorem dX12_due_3 : decode cX12_due 3 = .ok (.getfield 7, 3) := by decide +kernel
theorem dX12_due_6 : decode cX12_due 6 = .ok (.bipush 8, 2) := by decide +kernel
theorem dX12_due_8 : decode cX12_due 8 = .ok (.iaload, 1) := by decide +kernel
theorem dX12_due_9 : decode cX12_due 9 = .ok (.i2l, 1) := by decide +kernel
theorem dX12_due_10 : decode cX12_due 10 = .ok (.ldc2_w 180, 3) := by decide +kernel
theorem dX12_due_13 : decode cX12_due 13 = .ok (.invokestatic 89, 3) := by decide +kernel
theorem dX12_due_16 : decode cX12_due 16 = .ok (.ifCond .eq 17, 3) := by decide +kernel
theorem dX12_due_19 : decode cX12_due 19 = .ok (.iload_n 2, 1) := by decide +kernel
theorem dX12_due_20 : decode cX12_due 20 = .ok (.i2l, 1) := by decide +kernel
theorem dX12_due_21 : decode cX12_due 21 = .ok (.ldc2_w 332, 3) := by decide +kernel
theorem dX12_due_24 : decode cX12_due 24 = .ok (.ldc2_w 330, 3) := by decide +kernel
theorem dX12_due_27 : decode cX12_due 27 = .ok (.invokestatic 89, 3) := by decide +kernel
theorem dX12_due_30 : decode cX12_due 30 = .ok (.ifCond .ne 6, 3) := by decide +kernel
theorem dX12_due_33 : decode cX12_due 33 = .ok (.ldc 100, 2) := by decide +kernel
theorem dX12_due_35 : decode cX12_due 35 = .ok (.ireturn, 1) := by decide +kernel
theorem dX12_due_36 : decode cX12_due 36 = .ok (.aload_n 0, 1) := by decide +kernel
theorem dX12_due_37 : decode cX12_due 37 = .ok (.getfield 7, 3) := by decide +kernel
theorem dX12_due_40 : decode cX12_due 40 = .ok (.iconst 5, 1) := by decide +kernel
theorem dX12_due_41 : decode cX12_due 41 = .ok (.iaload, 1) := by decide +kernel
theorem dX12_due_42 : decode cX12_due 42 = .ok (.bipush 20, 2) := by decide +kernel
theorem dX12_due_44 : decode cX12_due 44 = .ok (.if_icmp .ne 6, 3) := by decide +kernel
theorem dX12_due_47 : decode cX12_due 47 = .ok (.ldc 149, 2) := by decide +kernel
theorem dX12_due_49 : decode cX12_due 49 = .ok (.ireturn, 1) := by decide +kernel
theorem dX12_due_50 : decode cX12_due 50 = .ok (.aload_n 0, 1) := by decide +kernel
theorem dX12_due_51 : decode cX12_due 51 = .ok (.getfield 7, 3) := by decide +kernel
theorem dX12_due_54 : decode cX12_due 54 = .ok (.sipush 440, 3) := by decide +kernel
theorem dX12_due_57 : decode cX12_due 57 = .ok (.iconst 2, 1) := by decide +kernel
theorem dX12_due_58 : decode cX12_due 58 = .ok (.aload_n 0, 1) := by decide +kernel
theorem dX12_due_59 : decode cX12_due 59 = .ok (.getfield 7, 3) := by decide +kernel
theorem dX12_due_62 : decode cX12_due 62 = .ok (.iconst 5, 1) := by decide +kernel
theorem dX12_due_63 : decode cX12_due 63 = .ok (.iaload, 1) := by decide +kernel
theorem dX12_due_64 : decode cX12_due 64 = .ok (.imul, 1) := by decide +kernel
theorem dX12_due_65 : decode cX12_due 65 = .ok (.iadd, 1) := by decide +kernel
theorem dX12_due_66 : decode cX12_due 66 = .ok (.iload_n 1, 1) := by decide +kernel
theorem dX12_due_67 : decode cX12_due 67 = .ok (.iastore, 1) := by decide +kernel
theorem dX12_due_68 : decode cX12_due 68 = .ok (.aload_n 0, 1) := by decide +kernel
theorem dX12_due_69 : decode cX12_due 69 = .ok (.getfield 7, 3) := by decide +kernel
theorem dX12_due_72 : decode cX12_due 72 = .ok (.sipush 440, 3) := by decide +kernel
theorem dX12_due_75 : decode cX12_due 75 = .ok (.iconst 2, 1) := by decide +kernel
theorem dX12_due_76 : decode cX12_due 76 = .ok (.aload_n 0, 1) := by decide +kernel
theorem dX12_due_77 : decode cX12_due 77 = .ok (.getfield 7, 3) := by decide +kernel
theorem dX12_due_80 : decode cX12_due 80 = .ok (.iconst 5, 1) := by decide +kernel
theorem dX12_due_81 : decode cX12_due 81 = .ok (.iaload, 1) := by decide +kernel
theorem dX12_due_82 : decode cX12_due 82 = .ok (.imul, 1) := by decide +kernel
theorem dX12_due_83 : decode cX12_due 83 = .ok (.iadd, 1) := by decide +kernel
theorem dX12_due_84 : decode cX12_due 84 = .ok (.iconst 1, 1) := by decide +kernel
theorem dX12_due_85 : decode cX12_due 85 = .ok (.iadd, 1) := by decide +kernel
theorem dX12_due_86 : decode cX12_due 86 = .ok (.iload_n 2, 1) := by decide +kernel
theorem dX12_due_87 : decode cX12_due 87 = .ok (.iastore, 1) := by decide +kernel
theorem dX12_due_88 : decode cX12_due 88 = .ok (.aload_n 0, 1) := by decide +kernel
theorem dX12_due_89 : decode cX12_due 89 = .ok (.getfield 7, 3) := by decide +kernel
theorem dX12_due_92 : decode cX12_due 92 = .ok (.iconst 5, 1) := by decide +kernel
theorem dX12_due_93 : decode cX12_due 93 = .ok (.dup2, 1) := by decide +kernel
theorem dX12_due_94 : decode cX12_due 94 = .ok (.iaload, 1) := by decide +kernel
theorem dX12_due_95 : decode cX12_due 95 = .ok (.iconst 1, 1) := by decide +kernel
theorem dX12_due_96 : decode cX12_due 96 = .ok (.iadd, 1) := by decide +kernel
theorem dX12_due_97 : decode cX12_due 97 = .ok (.iastore, 1) := by decide +kernel
theorem dX12_due_98 : decode cX12_due 98 = .ok (.aload_n 0, 1) := by decide +kernel
theorem dX12_due_99 : decode cX12_due 99 = .ok (.getfield 7, 3) := by decide +kernel
theorem dX12_due_102 : decode cX12_due 102 = .ok (.iconst 5, 1) := by decide +kernel
theorem dX12_due_103 : decode cX12_due 103 = .ok (.iaload, 1) := by decide +kernel
theorem dX12_due_104 : decode cX12_due 104 = .ok (.iconst 1, 1) := by decide +kernel
theorem dX12_due_105 : decode cX12_due 105 = .ok (.isub, 1) := by decide +kernel
theorem dX12_due_106 : decode cX12_due 106 = .ok (.ireturn, 1) := by decide +kernel
theorem dX12_out_0 : decode cX12_out 0 = .ok (.aload_n 0, 1) := by decide +kernel
theorem dX12_out_1 : decode cX12_out 1 = .ok (.getfield 7, 3) := by decide +kernel
theorem dX12_out_4 : decode cX12_out 4 = .ok (.bipush 9, 2) := by decide +kernel
theorem dX12_out_6 : decode cX12_out 6 = .ok (.iaload, 1) := by decide +kernel
theorem dX12_out_7 : decode cX12_out 7 = .ok (.istore_n 1, 1) := by decide +kernel
theorem dX12_out_8 : decode cX12_out 8 = .ok (.aload_n 0, 1) := by decide +kernel
theorem dX12_out_9 : decode cX12_out 9 = .ok (.getfield 7, 3) := by decide +kernel
theorem dX12_out_12 : decode cX12_out 12 = .ok (.bipush 8, 2) := by decide +kernel
theorem dX12_out_14 : decode cX12_out 14 = .ok (.iaload, 1) := by decide +kernel
theorem dX12_out_15 : decode cX12_out 15 = .ok (.istore_n 2, 1) := by decide +kernel
theorem dX12_out_16 : decode cX12_out 16 = .ok (.iload_n 2, 1) := by decide +kernel
theorem dX12_out_17 : decode cX12_out 17 = .ok (.aload_n 0, 1) := by decide +kernel
theorem dX12_out_18 : decode cX12_out 18 = .ok (.getfield 7, 3) := by decide +kernel
theorem dX12_out_21 : decode cX12_out 21 = .ok (.bipush 8, 2) := by decide +kernel
theorem dX12_out_23 : decode cX12_out 23 = .ok (.iaload, 1) := by decide +kernel
theorem dX12_out_24 : decode cX12_out 24 = .ok (.sipush 400, 3) := by decide +kernel
theorem dX12_out_27 : decode cX12_out 27 = .ok (.iadd, 1) := by decide +kernel
theorem dX12_out_28 : decode cX12_out 28 = .ok (.if_icmp .ge 23, 3) := by decide +kernel
theorem dX12_out_31 : decode cX12_out 31 = .ok (.iload_n 1, 1) := by decide +kernel
theorem dX12_out_32 : decode cX12_out 32 = .ok (.aload_n 0, 1) := by decide +kernel
theorem dX12_out_33 : decode cX12_out 33 = .ok (.iload_n 2, 1) := by decide +kernel
theorem dX12_out_34 : decode cX12_out 34 = .ok (.invokevirtual 203, 3) := by decide +kernel
theorem dX12_out_37 : decode cX12_out 37 = .ok (.iadd, 1) := by decide +kernel
theorem dX12_out_38 : decode cX12_out 38 = .ok (.istore_n 1, 1) := by decide +kernel
theorem dX12_out_39 : decode cX12_out 39 = .ok (.iload_n 1, 1) := by decide +kernel
theorem dX12_out_40 : decode cX12_out 40 = .ok (.ifCond .ge 5, 3) := by decide +kernel
theorem dX12_out_43 : decode cX12_out 43 = .ok (.iload_n 2, 1) := by decide +kernel
theorem dX12_out_44 : decode cX12_out 44 = .ok (.ireturn, 1) := by decide +kernel
theorem dX12_out_45 : decode cX12_out 45 = .ok (.iinc 2 1, 3) := by decide +kernel
theorem dX12_out_48 : decode cX12_out 48 = .ok (.goto (-32), 3) := by decide +kernel
theorem dX12_out_51 : decode cX12_out 51 = .ok (.ldc 88, 2) := by decide +kernel
theorem dX12_out_53 : decode cX12_out 53 = .ok (.ireturn, 1) := by decide +kernel
theorem dX12_face_0 : decode cX12_face 0 = .ok (.iload_n 1, 1) := by decide +kernel
theorem dX12_face_1 : decode cX12_face 1 = .ok (.i2l, 1) := by decide +kernel
theorem dX12_face_2 : decode cX12_face 2 = .ok (.lconst 0, 1) := by decide +kernel
theorem dX12_face_3 : decode cX12_face 3 = .ok (.ldc2_w 180, 3) := by decide +kernel
theorem dX12_face_6 : decode cX12_face 6 = .ok (.invokestatic 89, 3) := by decide +kernel
theorem dX12_face_9 : decode cX12_face 9 = .ok (.ifCond .eq 15, 3) := by decide +kernel
theorem dX12_face_12 : decode cX12_face 12 = .ok (.iload_n 2, 1) := by decide +kernel
theorem dX12_face_13 : decode cX12_face 13 = .ok (.i2l, 1) := by decide +kernel
theorem dX12_face_14 : decode cX12_face 14 = .ok (.lconst 1, 1) := by decide +kernel
theorem dX12_face_15 : decode cX12_face 15 = .ok (.ldc2_w 108, 3) := by decide +kernel
theorem dX12_face_18 : decode cX12_face 18 = .ok (.invokestatic 89, 3) := by decide +kernel
theorem dX12_face_21 : decode cX12_face 21 = .ok (.ifCond .ne 6, 3) := by decide +kernel
theorem dX12_face_24 : decode cX12_face 24 = .ok (.ldc 100, 2) := by decide +kernel
theorem dX12_face_26 : decode cX12_face 26 = .ok (.ireturn, 1) := by decide +kernel
theorem dX12_face_27 : decode cX12_face 27 = .ok (.aload_n 0, 1) := by decide +kernel
theorem dX12_face_28 : decode cX12_face 28 = .ok (.getfield 7, 3) := by decide +kernel
theorem dX12_face_31 : decode cX12_face 31 = .ok (.bipush 6, 2) := by decide +kernel
theorem dX12_face_33 : decode cX12_face 33 = .ok (.iaload, 1) := by decide +kernel
theorem dX12_face_34 : decode cX12_face 34 = .ok (.bipush 6, 2) := by decide +kernel
theorem dX12_face_36 : decode cX12_face 36 = .ok (.if_icmp .ne 6, 3) := by decide +kernel
theorem dX12_face_39 : decode cX12_face 39 = .ok (.ldc 149, 2) := by decide +kernel
theorem dX12_face_41 : decode cX12_face 41 = .ok (.ireturn, 1) := by decide +kernel
theorem dX12_face_42 : decode cX12_face 42 = .ok (.aload_n 0, 1) := by decide +kernel
theorem dX12_face_43 : decode cX12_face 43 = .ok (.getfield 7, 3) := by decide +kernel
theorem dX12_face_46 : decode cX12_face 46 = .ok (.sipush 480, 3) := by decide +kernel
theorem dX12_face_49 : decode cX12_face 49 = .ok (.iconst 2, 1) := by decide +kernel
theorem dX12_face_50 : decode cX12_face 50 = .ok (.aload_n 0, 1) := by decide +kernel
theorem dX12_face_51 : decode cX12_face 51 = .ok (.getfield 7, 3) := by decide +kernel
theorem dX12_face_54 : decode cX12_face 54 = .ok (.bipush 6, 2) := by decide +kernel
theorem dX12_face_56 : decode cX12_face 56 = .ok (.iaload, 1) := by decide +kernel
theorem dX12_face_57 : decode cX12_face 57 = .ok (.imul, 1) := by decide +kernel
theorem dX12_face_58 : decode cX12_face 58 = .ok (.iadd, 1) := by decide +kernel
theorem dX12_face_59 : decode cX12_face 59 = .ok (.iload_n 1, 1) := by decide +kernel
theorem dX12_face_60 : decode cX12_face 60 = .ok (.iastore, 1) := by decide +kernel
theorem dX12_face_61 : decode cX12_face 61 = .ok (.aload_n 0, 1) := by decide +kernel
theorem dX12_face_62 : decode cX12_face 62 = .ok (.getfield 7, 3) := by decide +kernel
theorem dX12_face_65 : decode cX12_face 65 = .ok (.sipush 480, 3) := by decide +kernel
theorem dX12_face_68 : decode cX12_face 68 = .ok (.iconst 2, 1) := by decide +kernel
theorem dX12_face_69 : decode cX12_face 69 = .ok (.aload_n 0, 1) := by decide +kernel
theorem dX12_face_70 : decode cX12_face 70 = .ok (.getfield 7, 3) := by decide +kernel
theorem dX12_face_73 : decode cX12_face 73 = .ok (.bipush 6, 2) := by decide +kernel
theorem dX12_face_75 : decode cX12_face 75 = .ok (.iaload, 1) := by decide +kernel
theorem dX12_face_76 : decode cX12_face 76 = .ok (.imul, 1) := by decide +kernel
theorem dX12_face_77 : decode cX12_face 77 = .ok (.iadd, 1) := by decide +kernel
theorem dX12_face_78 : decode cX12_face 78 = .ok (.iconst 1, 1) := by decide +kernel
theorem dX12_face_79 : decode cX12_face 79 = .ok (.iadd, 1) := by decide +kernel
theorem dX12_face_80 : decode cX12_face 80 = .ok (.iload_n 2, 1) := by decide +kernel
theorem dX12_face_81 : decode cX12_face 81 = .ok (.iastore, 1) := by decide +kernel
theorem dX12_face_82 : decode cX12_face 82 = .ok (.aload_n 0, 1) := by decide +kernel
theorem dX12_face_83 : decode cX12_face 83 = .ok (.getfield 7, 3) := by decide +kernel
theorem dX12_face_86 : decode cX12_face 86 = .ok (.bipush 6, 2) := by decide +kernel
theorem dX12_face_88 : decode cX12_face 88 = .ok (.dup2, 1) := by decide +kernel
theorem dX12_face_89 : decode cX12_face 89 = .ok (.iaload, 1) := by decide +kernel
theorem dX12_face_90 : decode cX12_face 90 = .ok (.iconst 1, 1) := by decide +kernel
theorem dX12_face_91 : decode cX12_face 91 = .ok (.iadd, 1) := by decide +kernel
theorem dX12_face_92 : decode cX12_face 92 = .ok (.iastore, 1) := by decide +kernel
theorem dX12_face_93 : decode cX12_face 93 = .ok (.aload_n 0, 1) := by decide +kernel
theorem dX12_face_94 : decode cX12_face 94 = .ok (.getfield 7, 3) := by decide +kernel
theorem dX12_face_97 : decode cX12_face 97 = .ok (.bipush 6, 2) := by decide +kernel
theorem dX12_face_99 : decode cX12_face 99 = .ok (.iaload, 1) := by decide +kernel
theorem dX12_face_100 : decode cX12_face 100 = .ok (.iconst 1, 1) := by decide +kernel
theorem dX12_face_101 : decode cX12_face 101 = .ok (.isub, 1) := by decide +kernel
theorem dX12_face_102 : decode cX12_face 102 = .ok (.ireturn, 1) := by decide +kernel
theorem dX12_meets_0 : decode cX12_meets 0 = .ok (.iload_n 1, 1) := by decide +kernel
theorem dX12_meets_1 : decode cX12_meets 1 = .ok (.i2l, 1) := by decide +kernel
theorem dX12_meets_2 : decode cX12_meets 2 = .ok (.lconst 1, 1) := by decide +kernel
theorem dX12_meets_3 : decode cX12_meets 3 = .ok (.ldc2_w 147, 3) := by decide +kernel
theorem dX12_meets_6 : decode cX12_meets 6 = .ok (.invokestatic 89, 3) := by decide +kernel
theorem dX12_meets_9 : decode cX12_meets 9 = .ok (.ifCond .ne 6, 3) := by decide +kernel
theorem dX12_meets_12 : decode cX12_meets 12 = .ok (.ldc 100, 2) := by decide +kernel
theorem dX12_meets_14 : decode cX12_meets 14 = .ok (.ireturn, 1) := by decide +kernel
theorem dX12_meets_15 : decode cX12_meets 15 = .ok (.aload_n 0, 1) := by decide +kernel
theorem dX12_meets_16 : decode cX12_meets 16 = .ok (.getfield 7, 3) := by decide +kernel
theorem dX12_meets_19 : decode cX12_meets 19 = .ok (.bipush 6, 2) := by decide +kernel
theorem dX12_meets_21 : decode cX12_meets 21 = .ok (.iaload, 1) := by decide +kernel
theorem dX12_meets_22 : decode cX12_meets 22 = .ok (.ifCond .ne 6, 3) := by decide +kernel
theorem dX12_meets_25 : decode cX12_meets 25 = .ok (.ldc 88, 2) := by decide +kernel
theorem dX12_meets_27 : decode cX12_meets 27 = .ok (.ireturn, 1) := by decide +kernel
theorem dX12_meets_28 : decode cX12_meets 28 = .ok (.iload_n 1, 1) := by decide +kernel
theorem dX12_meets_29 : decode cX12_meets 29 = .ok (.istore_n 2, 1) := by decide +kernel
theorem dX12_meets_30 : decode cX12_meets 30 = .ok (.iconst (-1), 1) := by decide +kernel
theorem dX12_meets_31 : decode cX12_meets 31 = .ok (.istore_n 3, 1) := by decide +kernel
theorem dX12_meets_32 : decode cX12_meets 32 = .ok (.iload_n 2, 1) := by decide +kernel
theorem dX12_meets_33 : decode cX12_meets 33 = .ok (.ifCond .le 69, 3) := by decide +kernel
theorem dX12_meets_36 : decode cX12_meets 36 = .ok (.iinc 3 1, 3) := by decide +kernel
theorem dX12_meets_39 : decode cX12_meets 39 = .ok (.iconst 0, 1) := by decide +kernel
theorem dX12_meets_40 : decode cX12_meets 40 = .ok (.istore 4, 2) := by decide +kernel
theorem dX12_meets_42 : decode cX12_meets 42 = .ok (.iload 4, 2) := by decide +kernel
theorem dX12_meets_44 : decode cX12_meets 44 = .ok (.aload_n 0, 1) := by decide +kernel
theorem dX12_meets_45 : decode cX12_meets 45 = .ok (.getfield 7, 3) := by decide +kernel
theorem dX12_meets_48 : decode cX12_meets 48 = .ok (.bipush 6, 2) := by decide +kernel
theorem dX12_meets_50 : decode cX12_meets 50 = .ok (.iaload, 1) := by decide +kernel
theorem dX12_meets_51 : decode cX12_meets 51 = .ok (.if_icmp .ge 48, 3) := by decide +kernel
theorem dX12_meets_54 : decode cX12_meets 54 = .ok (.iload_n 2, 1) := by decide +kernel
theorem dX12_meets_55 : decode cX12_meets 55 = .ok (.aload_n 0, 1) := by decide +kernel
theorem dX12_meets_56 : decode cX12_meets 56 = .ok (.getfield 7, 3) := by decide +kernel
theorem dX12_meets_59 : decode cX12_meets 59 = .ok (.sipush 480, 3) := by decide +kernel
theorem dX12_meets_62 : decode cX12_meets 62 = .ok (.iconst 2, 1) := by decide +kernel
theorem dX12_meets_63 : decode cX12_meets 63 = .ok (.iload 4, 2) := by decide +kernel
theorem dX12_meets_65 : decode cX12_meets 65 = .ok (.imul, 1) := by decide +kernel
theorem dX12_meets_66 : decode cX12_meets 66 = .ok (.iadd, 1) := by decide +kernel
theorem dX12_meets_67 : decode cX12_meets 67 = .ok (.iaload, 1) := by decide +kernel
theorem dX12_meets_68 : decode cX12_meets 68 = .ok (.iload_n 3, 1) := by decide +kernel
theorem dX12_meets_69 : decode cX12_meets 69 = .ok (.if_icmp .gt 21, 3) := by decide +kernel
theorem dX12_meets_72 : decode cX12_meets 72 = .ok (.aload_n 0, 1) := by decide +kernel
theorem dX12_meets_73 : decode cX12_meets 73 = .ok (.getfield 7, 3) := by decide +kernel
theorem dX12_meets_76 : decode cX12_meets 76 = .ok (.sipush 480, 3) := by decide +kernel
theorem dX12_meets_79 : decode cX12_meets 79 = .ok (.iconst 2, 1) := by decide +kernel
theorem dX12_meets_80 : decode cX12_meets 80 = .ok (.iload 4, 2) := by decide +kernel
theorem dX12_meets_82 : decode cX12_meets 82 = .ok (.imul, 1) := by decide +kernel
theorem dX12_meets_83 : decode cX12_meets 83 = .ok (.iadd, 1) := by decide +kernel
theorem dX12_meets_84 : decode cX12_meets 84 = .ok (.iconst 1, 1) := by decide +kernel
theorem dX12_meets_85 : decode cX12_meets 85 = .ok (.iadd, 1) := by decide +kernel
theorem dX12_meets_86 : decode cX12_meets 86 = .ok (.iaload, 1) := by decide +kernel
theorem dX12_meets_87 : decode cX12_meets 87 = .ok (.goto 4, 3) := by decide +kernel
theorem dX12_meets_90 : decode cX12_meets 90 = .ok (.iconst 0, 1) := by decide +kernel
theorem dX12_meets_91 : decode cX12_meets 91 = .ok (.isub, 1) := by decide +kernel
theorem dX12_meets_92 : decode cX12_meets 92 = .ok (.istore_n 2, 1) := by decide +kernel
theorem dX12_meets_93 : decode cX12_meets 93 = .ok (.iinc 4 1, 3) := by decide +kernel
theorem dX12_meets_96 : decode cX12_meets 96 = .ok (.goto (-54), 3) := by decide +kernel
theorem dX12_meets_99 : decode cX12_meets 99 = .ok (.goto (-67), 3) := by decide +kernel
theorem dX12_meets_102 : decode cX12_meets 102 = .ok (.iload_n 3, 1) := by decide +kernel
theorem dX12_meets_103 : decode cX12_meets 103 = .ok (.ireturn, 1) := by decide +kernel
theorem dX12_arch_0 : decode cX12_arch 0 = .ok (.iload_n 1, 1) := by decide +kernel
theorem dX12_arch_1 : decode cX12_arch 1 = .ok (.i2l, 1) := by decide +kernel
theorem dX12_arch_2 : decode cX12_arch 2 = .ok (.lconst 1, 1) := by decide +kernel
theorem dX12_arch_3 : decode cX12_arch 3 = .ok (.ldc2_w 182, 3) := by decide +kernel
theorem dX12_arch_6 : decode cX12_arch 6 = .ok (.invokestatic 89, 3) := by decide +kernel
theorem dX12_arch_9 : decode cX12_arch 9 = .ok (.ifCond .ne 6, 3) := by decide +kernel
theorem dX12_arch_12 : decode cX12_arch 12 = .ok (.ldc 100, 2) := by decide +kernel
theorem dX12_arch_14 : decode cX12_arch 14 = .ok (.ireturn, 1) := by decide +kernel
theorem dX12_arch_15 : decode cX12_arch 15 = .ok (.aload_n 0, 1) := by decide +kernel
theorem dX12_arch_16 : decode cX12_arch 16 = .ok (.getfield 7, 3) := by decide +kernel
theorem dX12_arch_19 : decode cX12_arch 19 = .ok (.bipush 7, 2) := by decide +kernel
theorem dX12_arch_21 : decode cX12_arch 21 = .ok (.iaload, 1) := by decide +kernel
theorem dX12_arch_22 : decode cX12_arch 22 = .ok (.bipush 8, 2) := by decide +kernel
theorem dX12_arch_24 : decode cX12_arch 24 = .ok (.if_icmp .ne 6, 3) := by decide +kernel
theorem dX12_arch_27 : decode cX12_arch 27 = .ok (.ldc 149, 2) := by decide +kernel
theorem dX12_arch_29 : decode cX12_arch 29 = .ok (.ireturn, 1) := by decide +kernel
theorem dX12_arch_30 : decode cX12_arch 30 = .ok (.aload_n 0, 1) := by decide +kernel
theorem dX12_arch_31 : decode cX12_arch 31 = .ok (.getfield 7, 3) := by decide +kernel
theorem dX12_arch_34 : decode cX12_arch 34 = .ok (.sipush 495, 3) := by decide +kernel
theorem dX12_arch_37 : decode cX12_arch 37 = .ok (.aload_n 0, 1) := by decide +kernel
theorem dX12_arch_38 : decode cX12_arch 38 = .ok (.getfield 7, 3) := by decide +kernel
theorem dX12_arch_41 : decode cX12_arch 41 = .ok (.bipush 7, 2) := by decide +kernel
theorem dX12_arch_43 : decode cX12_arch 43 = .ok (.iaload, 1) := by decide +kernel
theorem dX12_arch_44 : decode cX12_arch 44 = .ok (.iadd, 1) := by decide +kernel
theorem dX12_arch_45 : decode cX12_arch 45 = .ok (.iload_n 1, 1) := by decide +kernel
theorem dX12_arch_46 : decode cX12_arch 46 = .ok (.iastore, 1) := by decide +kernel
theorem dX12_arch_47 : decode cX12_arch 47 = .ok (.aload_n 0, 1) := by decide +kernel
theorem dX12_arch_48 : decode cX12_arch 48 = .ok (.getfield 7, 3) := by decide +kernel
theorem dX12_arch_51 : decode cX12_arch 51 = .ok (.bipush 7, 2) := by decide +kernel
theorem dX12_arch_53 : decode cX12_arch 53 = .ok (.dup2, 1) := by decide +kernel
theorem dX12_arch_54 : decode cX12_arch 54 = .ok (.iaload, 1) := by decide +kernel
theorem dX12_arch_55 : decode cX12_arch 55 = .ok (.iconst 1, 1) := by decide +kernel
theorem dX12_arch_56 : decode cX12_arch 56 = .ok (.iadd, 1) := by decide +kernel
theorem dX12_arch_57 : decode cX12_arch 57 = .ok (.iastore, 1) := by decide +kernel
theorem dX12_arch_58 : decode cX12_arch 58 = .ok (.aload_n 0, 1) := by decide +kernel
theorem dX12_arch_59 : decode cX12_arch 59 = .ok (.getfield 7, 3) := by decide +kernel
theorem dX12_arch_62 : decode cX12_arch 62 = .ok (.bipush 7, 2) := by decide +kernel
theorem dX12_arch_64 : decode cX12_arch 64 = .ok (.iaload, 1) := by decide +kernel
theorem dX12_arch_65 : decode cX12_arch 65 = .ok (.iconst 1, 1) := by decide +kernel
theorem dX12_arch_66 : decode cX12_arch 66 = .ok (.isub, 1) := by decide +kernel
theorem dX12_arch_67 : decode cX12_arch 67 = .ok (.ireturn, 1) := by decide +kernel
theorem dX12_holds_0 : decode cX12_holds 0 = .ok (.iconst 1, 1) := by decide +kernel
theorem dX12_holds_1 : decode cX12_holds 1 = .ok (.istore_n 3, 1) := by decide +kernel
theorem dX12_holds_2 : decode cX12_holds 2 = .ok (.iconst 1, 1) := by decide +kernel
theorem dX12_holds_3 : decode cX12_holds 3 = .ok (.istore 4, 2) := by decide +kernel
theorem dX12_holds_5 : decode cX12_holds 5 = .ok (.iload 4, 2) := by decide +kernel
theorem dX12_holds_7 : decode cX12_holds 7 = .ok (.aload_n 0, 1) := by decide +kernel
theorem dX12_holds_8 : decode cX12_holds 8 = .ok (.getfield 7, 3) := by decide +kernel
theorem dX12_holds_11 : decode cX12_holds 11 = .ok (.bipush 7, 2) := by decide +kernel
theorem dX12_holds_13 : decode cX12_holds 13 = .ok (.iaload, 1) := by decide +kernel
theorem dX12_holds_14 : decode cX12_holds 14 = .ok (.if_icmp .ge 75, 3) := by decide +kernel
theorem dX12_holds_17 : decode cX12_holds 17 = .ok (.iload_n 1, 1) := by decide +kernel
theorem dX12_holds_18 : decode cX12_holds 18 = .ok (.iload 4, 2) := by decide +kernel
theorem dX12_holds_20 : decode cX12_holds 20 = .ok (.iconst 1, 1) := by decide +kernel
theorem dX12_holds_21 : decode cX12_holds 21 = .ok (.isub, 1) := by decide +kernel
theorem dX12_holds_22 : decode cX12_holds 22 = .ok (.ishr, 1) := by decide +kernel
theorem dX12_holds_23 : decode cX12_holds 23 = .ok (.iconst 1, 1) := by decide +kernel
theorem dX12_holds_24 : decode cX12_holds 24 = .ok (.iand, 1) := by decide +kernel
theorem dX12_holds_25 : decode cX12_holds 25 = .ok (.aload_n 0, 1) := by decide +kernel
theorem dX12_holds_26 : decode cX12_holds 26 = .ok (.getfield 7, 3) := by decide +kernel
theorem dX12_holds_29 : decode cX12_holds 29 = .ok (.sipush 495, 3) := by decide +kernel
theorem dX12_holds_32 : decode cX12_holds 32 = .ok (.iload 4, 2) := by decide +kernel
theorem dX12_holds_34 : decode cX12_holds 34 = .ok (.iadd, 1) := by decide +kernel
theorem dX12_holds_35 : decode cX12_holds 35 = .ok (.iconst 1, 1) := by decide +kernel
theorem dX12_holds_36 : decode cX12_holds 36 = .ok (.isub, 1) := by decide +kernel
theorem dX12_holds_37 : decode cX12_holds 37 = .ok (.iaload, 1) := by decide +kernel
theorem dX12_holds_38 : decode cX12_holds 38 = .ok (.imul, 1) := by decide +kernel
theorem dX12_holds_39 : decode cX12_holds 39 = .ok (.istore 5, 2) := by decide +kernel
theorem dX12_holds_41 : decode cX12_holds 41 = .ok (.iload_n 1, 1) := by decide +kernel
theorem dX12_holds_42 : decode cX12_holds 42 = .ok (.iload 4, 2) := by decide +kernel
theorem dX12_holds_44 : decode cX12_holds 44 = .ok (.ishr, 1) := by decide +kernel
theorem dX12_holds_45 : decode cX12_holds 45 = .ok (.iconst 1, 1) := by decide +kernel
theorem dX12_holds_46 : decode cX12_holds 46 = .ok (.iand, 1) := by decide +kernel
theorem dX12_holds_47 : decode cX12_holds 47 = .ok (.aload_n 0, 1) := by decide +kernel
theorem dX12_holds_48 : decode cX12_holds 48 = .ok (.getfield 7, 3) := by decide +kernel
theorem dX12_holds_51 : decode cX12_holds 51 = .ok (.sipush 495, 3) := by decide +kernel
theorem dX12_holds_54 : decode cX12_holds 54 = .ok (.iload 4, 2) := by decide +kernel
theorem dX12_holds_56 : decode cX12_holds 56 = .ok (.iadd, 1) := by decide +kernel
theorem dX12_holds_57 : decode cX12_holds 57 = .ok (.iaload, 1) := by decide +kernel
theorem dX12_holds_58 : decode cX12_holds 58 = .ok (.imul, 1) := by decide +kernel
theorem dX12_holds_59 : decode cX12_holds 59 = .ok (.istore 6, 2) := by decide +kernel
theorem dX12_holds_61 : decode cX12_holds 61 = .ok (.iload_n 3, 1) := by decide +kernel
theorem dX12_holds_62 : decode cX12_holds 62 = .ok (.ifCond .eq 19, 3) := by decide +kernel
theorem dX12_holds_65 : decode cX12_holds 65 = .ok (.iload 5, 2) := by decide +kernel
theorem dX12_holds_67 : decode cX12_holds 67 = .ok (.iload 6, 2) := by decide +kernel
theorem dX12_holds_69 : decode cX12_holds 69 = .ok (.isub, 1) := by decide +kernel
theorem dX12_holds_70 : decode cX12_holds 70 = .ok (.invokestatic 125, 3) := by decide +kernel
theorem dX12_holds_73 : decode cX12_holds 73 = .ok (.iload_n 2, 1) := by decide +kernel
theorem dX12_holds_74 : decode cX12_holds 74 = .ok (.if_icmp .gt 7, 3) := by decide +kernel
theorem dX12_holds_77 : decode cX12_holds 77 = .ok (.iconst 1, 1) := by decide +kernel
theorem dX12_holds_78 : decode cX12_holds 78 = .ok (.goto 4, 3) := by decide +kernel
theorem dX12_holds_81 : decode cX12_holds 81 = .ok (.iconst 0, 1) := by decide +kernel
theorem dX12_holds_82 : decode cX12_holds 82 = .ok (.istore_n 3, 1) := by decide +kernel
theorem dX12_holds_83 : decode cX12_holds 83 = .ok (.iinc 4 1, 3) := by decide +kernel
theorem dX12_holds_86 : decode cX12_holds 86 = .ok (.goto (-81), 3) := by decide +kernel
theorem dX12_holds_89 : decode cX12_holds 89 = .ok (.iload_n 3, 1) := by decide +kernel
theorem dX12_holds_90 : decode cX12_holds 90 = .ok (.ireturn, 1) := by decide +kernel
theorem dX12_nextArch_0 : decode cX12_nextArch 0 = .ok (.iconst 0, 1) := by decide +kernel
theorem dX12_nextArch_1 : decode cX12_nextArch 1 = .ok (.istore_n 2, 1) := by decide +kernel
theorem dX12_nextArch_2 : decode cX12_nextArch 2 = .ok (.iload_n 2, 1) := by decide +kernel
theorem dX12_nextArch_3 : decode cX12_nextArch 3 = .ok (.aload_n 0, 1) := by decide +kernel
theorem dX12_nextArch_4 : decode cX12_nextArch 4 = .ok (.getfield 7, 3) := by decide +kernel
theorem dX12_nextArch_7 : decode cX12_nextArch 7 = .ok (.bipush 7, 2) := by decide +kernel
theorem dX12_nextArch_9 : decode cX12_nextArch 9 = .ok (.iaload, 1) := by decide +kernel
theorem dX12_nextArch_10 : decode cX12_nextArch 10 = .ok (.if_icmp .ge 32, 3) := by decide +kernel
theorem dX12_nextArch_13 : decode cX12_nextArch 13 = .ok (.iload_n 1, 1) := by decide +kernel
theorem dX12_nextArch_14 : decode cX12_nextArch 14 = .ok (.iload_n 2, 1) := by decide +kernel
theorem dX12_nextArch_15 : decode cX12_nextArch 15 = .ok (.ishr, 1) := by decide +kernel
theorem dX12_nextArch_16 : decode cX12_nextArch 16 = .ok (.iconst 1, 1) := by decide +kernel
theorem dX12_nextArch_17 : decode cX12_nextArch 17 = .ok (.iand, 1) := by decide +kernel
theorem dX12_nextArch_18 : decode cX12_nextArch 18 = .ok (.ifCond .ne 18, 3) := by decide +kernel
theorem dX12_nextArch_21 : decode cX12_nextArch 21 = .ok (.aload_n 0, 1) := by decide +kernel
theorem dX12_nextArch_22 : decode cX12_nextArch 22 = .ok (.getfield 65, 3) := by decide +kernel
theorem dX12_nextArch_25 : decode cX12_nextArch 25 = .ok (.iload_n 1, 1) := by decide +kernel
theorem dX12_nextArch_26 : decode cX12_nextArch 26 = .ok (.iconst 1, 1) := by decide +kernel
theorem dX12_nextArch_27 : decode cX12_nextArch 27 = .ok (.iload_n 2, 1) := by decide +kernel
theorem dX12_nextArch_28 : decode cX12_nextArch 28 = .ok (.ishl, 1) := by decide +kernel
theorem dX12_nextArch_29 : decode cX12_nextArch 29 = .ok (.ior, 1) := by decide +kernel
theorem dX12_nextArch_30 : decode cX12_nextArch 30 = .ok (.baload, 1) := by decide +kernel
theorem dX12_nextArch_31 : decode cX12_nextArch 31 = .ok (.ifCond .eq 5, 3) := by decide +kernel
theorem dX12_nextArch_34 : decode cX12_nextArch 34 = .ok (.iload_n 2, 1) := by decide +kernel
theorem dX12_nextArch_35 : decode cX12_nextArch 35 = .ok (.ireturn, 1) := by decide +kernel
theorem dX12_nextArch_36 : decode cX12_nextArch 36 = .ok (.iinc 2 1, 3) := by decide +kernel
theorem dX12_nextArch_39 : decode cX12_nextArch 39 = .ok (.goto (-37), 3) := by decide +kernel
theorem dX12_nextArch_42 : decode cX12_nextArch 42 = .ok (.iconst (-1), 1) := by decide +kernel
theorem dX12_nextArch_43 : decode cX12_nextArch 43 = .ok (.ireturn, 1) := by decide +kernel
theorem dX12_order_0 : decode cX12_order 0 = .ok (.iload_n 1, 1) := by decide +kernel
theorem dX12_order_1 : decode cX12_order 1 = .ok (.i2l, 1) := by decide +kernel
theorem dX12_order_2 : decode cX12_order 2 = .ok (.lconst 0, 1) := by decide +kernel
theorem dX12_order_3 : decode cX12_order 3 = .ok (.ldc2_w 182, 3) := by decide +kernel
theorem dX12_order_6 : decode cX12_order 6 = .ok (.invokestatic 89, 3) := by decide +kernel
theorem dX12_order_9 : decode cX12_order 9 = .ok (.ifCond .eq 7, 3) := by decide +kernel
theorem dX12_order_12 : decode cX12_order 12 = .ok (.iload_n 2, 1) := by decide +kernel
theorem dX12_order_13 : decode cX12_order 13 = .ok (.ifCond .ge 6, 3) := by decide +kernel
theorem dX12_order_16 : decode cX12_order 16 = .ok (.ldc 100, 2) := by decide +kernel
theorem dX12_order_18 : decode cX12_order 18 = .ok (.ireturn, 1) := by decide +kernel
theorem dX12_order_19 : decode cX12_order 19 = .ok (.iconst 1, 1) := by decide +kernel
theorem dX12_order_20 : decode cX12_order 20 = .ok (.aload_n 0, 1) := by decide +kernel
theorem dX12_order_21 : decode cX12_order 21 = .ok (.getfield 7, 3) := by decide +kernel
theorem dX12_order_24 : decode cX12_order 24 = .ok (.bipush 7, 2) := by decide +kernel
theorem dX12_order_26 : decode cX12_order 26 = .ok (.iaload, 1) := by decide +kernel
theorem dX12_order_27 : decode cX12_order 27 = .ok (.ishl, 1) := by decide +kernel
theorem dX12_order_28 : decode cX12_order 28 = .ok (.iconst 1, 1) := by decide +kernel
theorem dX12_order_29 : decode cX12_order 29 = .ok (.isub, 1) := by decide +kernel
theorem dX12_order_30 : decode cX12_order 30 = .ok (.istore_n 3, 1) := by decide +kernel
theorem dX12_order_31 : decode cX12_order 31 = .ok (.iload_n 3, 1) := by decide +kernel
theorem dX12_order_32 : decode cX12_order 32 = .ok (.istore 4, 2) := by decide +kernel
theorem dX12_order_34 : decode cX12_order 34 = .ok (.iload 4, 2) := by decide +kernel
theorem dX12_order_36 : decode cX12_order 36 = .ok (.ifCond .lt 51, 3) := by decide +kernel
theorem dX12_order_39 : decode cX12_order 39 = .ok (.aload_n 0, 1) := by decide +kernel
theorem dX12_order_40 : decode cX12_order 40 = .ok (.getfield 65, 3) := by decide +kernel
theorem dX12_order_43 : decode cX12_order 43 = .ok (.iload 4, 2) := by decide +kernel
theorem dX12_order_45 : decode cX12_order 45 = .ok (.iload 4, 2) := by decide +kernel
theorem dX12_order_47 : decode cX12_order 47 = .ok (.ifCond .eq 13, 3) := by decide +kernel
theorem dX12_order_50 : decode cX12_order 50 = .ok (.aload_n 0, 1) := by decide +kernel
theorem dX12_order_51 : decode cX12_order 51 = .ok (.iload 4, 2) := by decide +kernel
theorem dX12_order_53 : decode cX12_order 53 = .ok (.iload_n 1, 1) := by decide +kernel
theorem dX12_order_54 : decode cX12_order 54 = .ok (.invokevirtual 334, 3) := by decide +kernel
theorem dX12_order_57 : decode cX12_order 57 = .ok (.ifCond .eq 22, 3) := by decide +kernel
theorem dX12_order_60 : decode cX12_order 60 = .ok (.iload 4, 2) := by decide +kernel
theorem dX12_order_62 : decode cX12_order 62 = .ok (.iload_n 3, 1) := by decide +kernel
theorem dX12_order_63 : decode cX12_order 63 = .ok (.if_icmp .eq 12, 3) := by decide +kernel
theorem dX12_order_66 : decode cX12_order 66 = .ok (.aload_n 0, 1) := by decide +kernel
theorem dX12_order_67 : decode cX12_order 67 = .ok (.iload 4, 2) := by decide +kernel
theorem dX12_order_69 : decode cX12_order 69 = .ok (.invokevirtual 337, 3) := by decide +kernel
theorem dX12_order_72 : decode cX12_order 72 = .ok (.ifCond .lt 7, 3) := by decide +kernel
theorem dX12_order_75 : decode cX12_order 75 = .ok (.iconst 1, 1) := by decide +kernel
theorem dX12_order_76 : decode cX12_order 76 = .ok (.goto 4, 3) := by decide +kernel
theorem dX12_order_79 : decode cX12_order 79 = .ok (.iconst 0, 1) := by decide +kernel
theorem dX12_order_80 : decode cX12_order 80 = .ok (.bastore, 1) := by decide +kernel
theorem dX12_order_81 : decode cX12_order 81 = .ok (.iinc 4 (-1), 3) := by decide +kernel
theorem dX12_order_84 : decode cX12_order 84 = .ok (.goto (-50), 3) := by decide +kernel
theorem dX12_order_87 : decode cX12_order 87 = .ok (.aload_n 0, 1) := by decide +kernel
theorem dX12_order_88 : decode cX12_order 88 = .ok (.getfield 65, 3) := by decide +kernel
theorem dX12_order_91 : decode cX12_order 91 = .ok (.iconst 0, 1) := by decide +kernel
theorem dX12_order_92 : decode cX12_order 92 = .ok (.baload, 1) := by decide +kernel
theorem dX12_order_93 : decode cX12_order 93 = .ok (.ifCond .eq 14, 3) := by decide +kernel
theorem dX12_order_96 : decode cX12_order 96 = .ok (.iload_n 2, 1) := by decide +kernel
theorem dX12_order_97 : decode cX12_order 97 = .ok (.aload_n 0, 1) := by decide +kernel
theorem dX12_order_98 : decode cX12_order 98 = .ok (.getfield 7, 3) := by decide +kernel
theorem dX12_order_101 : decode cX12_order 101 = .ok (.bipush 7, 2) := by decide +kernel
theorem dX12_order_103 : decode cX12_order 103 = .ok (.iaload, 1) := by decide +kernel
theorem dX12_order_104 : decode cX12_order 104 = .ok (.if_icmp .lt 6, 3) := by decide +kernel
theorem dX12_order_107 : decode cX12_order 107 = .ok (.ldc 88, 2) := by decide +kernel
theorem dX12_order_109 : decode cX12_order 109 = .ok (.ireturn, 1) := by decide +kernel
theorem dX12_order_110 : decode cX12_order 110 = .ok (.iconst 0, 1) := by decide +kernel
theorem dX12_order_111 : decode cX12_order 111 = .ok (.istore 4, 2) := by decide +kernel
theorem dX12_order_113 : decode cX12_order 113 = .ok (.iconst 0, 1) := by decide +kernel
theorem dX12_order_114 : decode cX12_order 114 = .ok (.istore 5, 2) := by decide +kernel
theorem dX12_order_116 : decode cX12_order 116 = .ok (.iload 5, 2) := by decide +kernel
theorem dX12_order_118 : decode cX12_order 118 = .ok (.iload_n 2, 1) := by decide +kernel
theorem dX12_order_119 : decode cX12_order 119 = .ok (.if_icmp .ge 22, 3) := by decide +kernel
theorem dX12_order_122 : decode cX12_order 122 = .ok (.iload 4, 2) := by decide +kernel
theorem dX12_order_124 : decode cX12_order 124 = .ok (.iconst 1, 1) := by decide +kernel
theorem dX12_order_125 : decode cX12_order 125 = .ok (.aload_n 0, 1) := by decide +kernel
theorem dX12_order_126 : decode cX12_order 126 = .ok (.iload 4, 2) := by decide +kernel
theorem dX12_order_128 : decode cX12_order 128 = .ok (.invokevirtual 337, 3) := by decide +kernel
theorem dX12_order_131 : decode cX12_order 131 = .ok (.ishl, 1) := by decide +kernel
theorem dX12_order_132 : decode cX12_order 132 = .ok (.ior, 1) := by decide +kernel
theorem dX12_order_133 : decode cX12_order 133 = .ok (.istore 4, 2) := by decide +kernel
theorem dX12_order_135 : decode cX12_order 135 = .ok (.iinc 5 1, 3) := by decide +kernel
theorem dX12_order_138 : decode cX12_order 138 = .ok (.goto (-22), 3) := by decide +kernel
theorem dX12_order_141 : decode cX12_order 141 = .ok (.aload_n 0, 1) := by decide +kernel
theorem dX12_order_142 : decode cX12_order 142 = .ok (.iload 4, 2) := by decide +kernel
theorem dX12_order_144 : decode cX12_order 144 = .ok (.invokevirtual 337, 3) := by decide +kernel
theorem dX12_order_147 : decode cX12_order 147 = .ok (.ireturn, 1) := by decide +kernel
theorem dX12_findThrough_0 : decode cX12_findThrough 0 = .ok (.iconst 0, 1) := by decide +kernel
theorem dX12_findThrough_1 : decode cX12_findThrough 1 = .ok (.istore_n 1, 1) := by decide +kernel
theorem dX12_findThrough_2 : decode cX12_findThrough 2 = .ok (.iload_n 1, 1) := by decide +kernel
theorem dX12_findThrough_3 : decode cX12_findThrough 3 = .ok (.bipush 24, 2) := by decide +kernel
theorem dX12_findThrough_5 : decode cX12_findThrough 5 = .ok (.if_icmp .ge 16, 3) := by decide +kernel
theorem dX12_findThrough_8 : decode cX12_findThrough 8 = .ok (.aload_n 0, 1) := by decide +kernel
theorem dX12_findThrough_9 : decode cX12_findThrough 9 = .ok (.getfield 68, 3) := by decide +kernel
theorem dX12_findThrough_12 : decode cX12_findThrough 12 = .ok (.iload_n 1, 1) := by decide +kernel
theorem dX12_findThrough_13 : decode cX12_findThrough 13 = .ok (.iconst (-1), 1) := by decide +kernel
theorem dX12_findThrough_14 : decode cX12_findThrough 14 = .ok (.iastore, 1) := by decide +kernel
theorem dX12_findThrough_15 : decode cX12_findThrough 15 = .ok (.iinc 1 1, 3) := by decide +kernel
theorem dX12_findThrough_18 : decode cX12_findThrough 18 = .ok (.goto (-16), 3) := by decide +kernel
theorem dX12_findThrough_21 : decode cX12_findThrough 21 = .ok (.iconst 0, 1) := by decide +kernel
theorem dX12_findThrough_22 : decode cX12_findThrough 22 = .ok (.istore_n 1, 1) := by decide +kernel
theorem dX12_findThrough_23 : decode cX12_findThrough 23 = .ok (.iload_n 1, 1) := by decide +kernel
theorem dX12_findThrough_24 : decode cX12_findThrough 24 = .ok (.aload_n 0, 1) := by decide +kernel
theorem dX12_findThrough_25 : decode cX12_findThrough 25 = .ok (.getfield 7, 3) := by decide +kernel
theorem dX12_findThrough_28 : decode cX12_findThrough 28 = .ok (.iconst 1, 1) := by decide +kernel
theorem dX12_findThrough_29 : decode cX12_findThrough 29 = .ok (.iaload, 1) := by decide +kernel
theorem dX12_findThrough_30 : decode cX12_findThrough 30 = .ok (.if_icmp .ge 162, 3) := by decide +kernel
theorem dX12_findThrough_33 : decode cX12_findThrough 33 = .ok (.iconst 0, 1) := by decide +kernel
theorem dX12_findThrough_34 : decode cX12_findThrough 34 = .ok (.istore_n 2, 1) := by decide +kernel
theorem dX12_findThrough_35 : decode cX12_findThrough 35 = .ok (.iload_n 2, 1) := by decide +kernel
theorem dX12_findThrough_36 : decode cX12_findThrough 36 = .ok (.aload_n 0, 1) := by decide +kernel
theorem dX12_findThrough_37 : decode cX12_findThrough 37 = .ok (.getfield 7, 3) := by decide +kernel
theorem dX12_findThrough_40 : decode cX12_findThrough 40 = .ok (.iconst 1, 1) := by decide +kernel
theorem dX12_findThrough_41 : decode cX12_findThrough 41 = .ok (.iaload, 1) := by decide +kernel
theorem dX12_findThrough_42 : decode cX12_findThrough 42 = .ok (.if_icmp .ge 144, 3) := by decide +kernel
theorem dX12_findThrough_45 : decode cX12_findThrough 45 = .ok (.iconst 0, 1) := by decide +kernel
theorem dX12_findThrough_46 : decode cX12_findThrough 46 = .ok (.istore_n 3, 1) := by decide +kernel
theorem dX12_findThrough_47 : decode cX12_findThrough 47 = .ok (.aload_n 0, 1) := by decide +kernel
theorem dX12_findThrough_48 : decode cX12_findThrough 48 = .ok (.getfield 68, 3) := by decide +kernel
theorem dX12_findThrough_51 : decode cX12_findThrough 51 = .ok (.iload_n 2, 1) := by decide +kernel
theorem dX12_findThrough_52 : decode cX12_findThrough 52 = .ok (.iaload, 1) := by decide +kernel
theorem dX12_findThrough_53 : decode cX12_findThrough 53 = .ok (.ifCond .ge 7, 3) := by decide +kernel
theorem dX12_findThrough_56 : decode cX12_findThrough 56 = .ok (.iconst 1, 1) := by decide +kernel
theorem dX12_findThrough_57 : decode cX12_findThrough 57 = .ok (.goto 4, 3) := by decide +kernel
theorem dX12_findThrough_60 : decode cX12_findThrough 60 = .ok (.iconst 0, 1) := by decide +kernel
theorem dX12_findThrough_61 : decode cX12_findThrough 61 = .ok (.istore 4, 2) := by decide +kernel
theorem dX12_findThrough_63 : decode cX12_findThrough 63 = .ok (.iconst 0, 1) := by decide +kernel
theorem dX12_findThrough_64 : decode cX12_findThrough 64 = .ok (.istore 5, 2) := by decide +kernel
theorem dX12_findThrough_66 : decode cX12_findThrough 66 = .ok (.iload 5, 2) := by decide +kernel
theorem dX12_findThrough_68 : decode cX12_findThrough 68 = .ok (.bipush 24, 2) := by decide +kernel
theorem dX12_findThrough_70 : decode cX12_findThrough 70 = .ok (.if_icmp .ge 75, 3) := by decide +kernel
theorem dX12_findThrough_73 : decode cX12_findThrough 73 = .ok (.iload 4, 2) := by decide +kernel
theorem dX12_findThrough_75 : decode cX12_findThrough 75 = .ok (.ifCond .eq 70, 3) := by decide +kernel
theorem dX12_findThrough_78 : decode cX12_findThrough 78 = .ok (.aload_n 0, 1) := by decide +kernel
theorem dX12_findThrough_79 : decode cX12_findThrough 79 = .ok (.getfield 7, 3) := by decide +kernel
theorem dX12_findThrough_82 : decode cX12_findThrough 82 = .ok (.aload_n 0, 1) := by decide +kernel
theorem dX12_findThrough_83 : decode cX12_findThrough 83 = .ok (.iload_n 2, 1) := by decide +kernel
theorem dX12_findThrough_84 : decode cX12_findThrough 84 = .ok (.invokevirtual 93, 3) := by decide +kernel
theorem dX12_findThrough_87 : decode cX12_findThrough 87 = .ok (.iconst 5, 1) := by decide +kernel
theorem dX12_findThrough_88 : decode cX12_findThrough 88 = .ok (.iadd, 1) := by decide +kernel
theorem dX12_findThrough_89 : decode cX12_findThrough 89 = .ok (.iaload, 1) := by decide +kernel
theorem dX12_findThrough_90 : decode cX12_findThrough 90 = .ok (.iload 5, 2) := by decide +kernel
theorem dX12_findThrough_92 : decode cX12_findThrough 92 = .ok (.ishr, 1) := by decide +kernel
theorem dX12_findThrough_93 : decode cX12_findThrough 93 = .ok (.iconst 1, 1) := by decide +kernel
theorem dX12_findThrough_94 : decode cX12_findThrough 94 = .ok (.iand, 1) := by decide +kernel
theorem dX12_findThrough_95 : decode cX12_findThrough 95 = .ok (.iconst 1, 1) := by decide +kernel
theorem dX12_findThrough_96 : decode cX12_findThrough 96 = .ok (.if_icmp .ne 43, 3) := by decide +kernel
theorem dX12_findThrough_99 : decode cX12_findThrough 99 = .ok (.aload_n 0, 1) := by decide +kernel
theorem dX12_findThrough_100 : decode cX12_findThrough 100 = .ok (.getfield 68, 3) := by decide +kernel
theorem dX12_findThrough_103 : decode cX12_findThrough 103 = .ok (.iload 5, 2) := by decide +kernel
theorem dX12_findThrough_105 : decode cX12_findThrough 105 = .ok (.iaload, 1) := by decide +kernel
theorem dX12_findThrough_106 : decode cX12_findThrough 106 = .ok (.ifCond .lt 7, 3) := by decide +kernel
theorem dX12_findThrough_109 : decode cX12_findThrough 109 = .ok (.iconst 1, 1) := by decide +kernel
theorem dX12_findThrough_110 : decode cX12_findThrough 110 = .ok (.goto 4, 3) := by decide +kernel
theorem dX12_findThrough_113 : decode cX12_findThrough 113 = .ok (.iconst 0, 1) := by decide +kernel
theorem dX12_findThrough_114 : decode cX12_findThrough 114 = .ok (.istore 4, 2) := by decide +kernel
theorem dX12_findThrough_116 : decode cX12_findThrough 116 = .ok (.aload_n 0, 1) := by decide +kernel
theorem dX12_findThrough_117 : decode cX12_findThrough 117 = .ok (.getfield 68, 3) := by decide +kernel
theorem dX12_findThrough_120 : decode cX12_findThrough 120 = .ok (.iload 5, 2) := by decide +kernel
theorem dX12_findThrough_122 : decode cX12_findThrough 122 = .ok (.iaload, 1) := by decide +kernel
theorem dX12_findThrough_123 : decode cX12_findThrough 123 = .ok (.iload_n 3, 1) := by decide +kernel
theorem dX12_findThrough_124 : decode cX12_findThrough 124 = .ok (.if_icmp .le 13, 3) := by decide +kernel
theorem dX12_findThrough_127 : decode cX12_findThrough 127 = .ok (.aload_n 0, 1) := by decide +kernel
theorem dX12_findThrough_128 : decode cX12_findThrough 128 = .ok (.getfield 68, 3) := by decide +kernel
theorem dX12_findThrough_131 : decode cX12_findThrough 131 = .ok (.iload 5, 2) := by decide +kernel
theorem dX12_findThrough_133 : decode cX12_findThrough 133 = .ok (.iaload, 1) := by decide +kernel
theorem dX12_findThrough_134 : decode cX12_findThrough 134 = .ok (.goto 4, 3) := by decide +kernel
theorem dX12_findThrough_137 : decode cX12_findThrough 137 = .ok (.iload_n 3, 1) := by decide +kernel
theorem dX12_findThrough_138 : decode cX12_findThrough 138 = .ok (.istore_n 3, 1) := by decide +kernel
theorem dX12_findThrough_139 : decode cX12_findThrough 139 = .ok (.iinc 5 1, 3) := by decide +kernel
theorem dX12_findThrough_142 : decode cX12_findThrough 142 = .ok (.goto (-76), 3) := by decide +kernel
theorem dX12_findThrough_145 : decode cX12_findThrough 145 = .ok (.aload_n 0, 1) := by decide +kernel
theorem dX12_findThrough_146 : decode cX12_findThrough 146 = .ok (.getfield 68, 3) := by decide +kernel
theorem dX12_findThrough_149 : decode cX12_findThrough 149 = .ok (.iload_n 2, 1) := by decide +kernel
theorem dX12_findThrough_150 : decode cX12_findThrough 150 = .ok (.iload 4, 2) := by decide +kernel
theorem dX12_findThrough_152 : decode cX12_findThrough 152 = .ok (.ifCond .eq 21, 3) := by decide +kernel
theorem dX12_findThrough_155 : decode cX12_findThrough 155 = .ok (.iload_n 3, 1) := by decide +kernel
theorem dX12_findThrough_156 : decode cX12_findThrough 156 = .ok (.aload_n 0, 1) := by decide +kernel
theorem dX12_findThrough_157 : decode cX12_findThrough 157 = .ok (.getfield 7, 3) := by decide +kernel
theorem dX12_findThrough_160 : decode cX12_findThrough 160 = .ok (.aload_n 0, 1) := by decide +kernel
theorem dX12_findThrough_161 : decode cX12_findThrough 161 = .ok (.iload_n 2, 1) := by decide +kernel
theorem dX12_findThrough_162 : decode cX12_findThrough 162 = .ok (.invokevirtual 93, 3) := by decide +kernel
theorem dX12_findThrough_165 : decode cX12_findThrough 165 = .ok (.bipush 6, 2) := by decide +kernel
theorem dX12_findThrough_167 : decode cX12_findThrough 167 = .ok (.iadd, 1) := by decide +kernel
theorem dX12_findThrough_168 : decode cX12_findThrough 168 = .ok (.iaload, 1) := by decide +kernel
theorem dX12_findThrough_169 : decode cX12_findThrough 169 = .ok (.iadd, 1) := by decide +kernel
theorem dX12_findThrough_170 : decode cX12_findThrough 170 = .ok (.goto 9, 3) := by decide +kernel
theorem dX12_findThrough_173 : decode cX12_findThrough 173 = .ok (.aload_n 0, 1) := by decide +kernel
theorem dX12_findThrough_174 : decode cX12_findThrough 174 = .ok (.getfield 68, 3) := by decide +kernel
theorem dX12_findThrough_177 : decode cX12_findThrough 177 = .ok (.iload_n 2, 1) := by decide +kernel
theorem dX12_findThrough_178 : decode cX12_findThrough 178 = .ok (.iaload, 1) := by decide +kernel
theorem dX12_findThrough_179 : decode cX12_findThrough 179 = .ok (.iastore, 1) := by decide +kernel
theorem dX12_findThrough_180 : decode cX12_findThrough 180 = .ok (.iinc 2 1, 3) := by decide +kernel
theorem dX12_findThrough_183 : decode cX12_findThrough 183 = .ok (.goto (-148), 3) := by decide +kernel
theorem dX12_findThrough_186 : decode cX12_findThrough 186 = .ok (.iinc 1 1, 3) := by decide +kernel
theorem dX12_findThrough_189 : decode cX12_findThrough 189 = .ok (.goto (-166), 3) := by decide +kernel
theorem dX12_findThrough_192 : decode cX12_findThrough 192 = .ok (.return_, 1) := by decide +kernel
theorem dX12_through_0 : decode cX12_through 0 = .ok (.aload_n 0, 1) := by decide +kernel
theorem dX12_through_1 : decode cX12_through 1 = .ok (.iload_n 1, 1) := by decide +kernel
theorem dX12_through_2 : decode cX12_through 2 = .ok (.invokevirtual 156, 3) := by decide +kernel
theorem dX12_through_5 : decode cX12_through 5 = .ok (.ifCond .ne 6, 3) := by decide +kernel
theorem dX12_through_8 : decode cX12_through 8 = .ok (.ldc 100, 2) := by decide +kernel
theorem dX12_through_10 : decode cX12_through 10 = .ok (.ireturn, 1) := by decide +kernel
theorem dX12_through_11 : decode cX12_through 11 = .ok (.aload_n 0, 1) := by decide +kernel
theorem dX12_through_12 : decode cX12_through 12 = .ok (.invokevirtual 340, 3) := by decide +kernel
theorem dX12_through_15 : decode cX12_through 15 = .ok (.aload_n 0, 1) := by decide +kernel
theorem dX12_through_16 : decode cX12_through 16 = .ok (.getfield 68, 3) := by decide +kernel
theorem dX12_through_19 : decode cX12_through 19 = .ok (.iload_n 1, 1) := by decide +kernel
theorem dX12_through_20 : decode cX12_through 20 = .ok (.iaload, 1) := by decide +kernel
theorem dX12_through_21 : decode cX12_through 21 = .ok (.invokestatic 159, 3) := by decide +kernel
theorem dX12_through_24 : decode cX12_through 24 = .ok (.ireturn, 1) := by decide +kernel
theorem dX12_chain_0 : decode cX12_chain 0 = .ok (.aload_n 0, 1) := by decide +kernel
theorem dX12_chain_1 : decode cX12_chain 1 = .ok (.iload_n 1, 1) := by decide +kernel
theorem dX12_chain_2 : decode cX12_chain 2 = .ok (.invokevirtual 156, 3) := by decide +kernel
theorem dX12_chain_5 : decode cX12_chain 5 = .ok (.ifCond .eq 7, 3) := by decide +kernel
theorem dX12_chain_8 : decode cX12_chain 8 = .ok (.iload_n 2, 1) := by decide +kernel
theorem dX12_chain_9 : decode cX12_chain 9 = .ok (.ifCond .ge 6, 3) := by decide +kernel
theorem dX12_chain_12 : decode cX12_chain 12 = .ok (.ldc 100, 2) := by decide +kernel
theorem dX12_chain_14 : decode cX12_chain 14 = .ok (.ireturn, 1) := by decide +kernel
theorem dX12_chain_15 : decode cX12_chain 15 = .ok (.aload_n 0, 1) := by decide +kernel
theorem dX12_chain_16 : decode cX12_chain 16 = .ok (.invokevirtual 340, 3) := by decide +kernel
theorem dX12_chain_19 : decode cX12_chain 19 = .ok (.aload_n 0, 1) := by decide +kernel
theorem dX12_chain_20 : decode cX12_chain 20 = .ok (.getfield 68, 3) := by decide +kernel
theorem dX12_chain_23 : decode cX12_chain 23 = .ok (.iload_n 1, 1) := by decide +kernel
theorem dX12_chain_24 : decode cX12_chain 24 = .ok (.iaload, 1) := by decide +kernel
theorem dX12_chain_25 : decode cX12_chain 25 = .ok (.ifCond .ge 7, 3) := by decide +kernel
theorem dX12_chain_28 : decode cX12_chain 28 = .ok (.iconst (-1), 1) := by decide +kernel
theorem dX12_chain_29 : decode cX12_chain 29 = .ok (.goto 4, 3) := by decide +kernel
theorem dX12_chain_32 : decode cX12_chain 32 = .ok (.iload_n 1, 1) := by decide +kernel
theorem dX12_chain_33 : decode cX12_chain 33 = .ok (.istore_n 3, 1) := by decide +kernel
theorem dX12_chain_34 : decode cX12_chain 34 = .ok (.iconst 0, 1) := by decide +kernel
theorem dX12_chain_35 : decode cX12_chain 35 = .ok (.istore 4, 2) := by decide +kernel
theorem dX12_chain_37 : decode cX12_chain 37 = .ok (.iload 4, 2) := by decide +kernel
theorem dX12_chain_39 : decode cX12_chain 39 = .ok (.iload_n 2, 1) := by decide +kernel
theorem dX12_chain_40 : decode cX12_chain 40 = .ok (.if_icmp .ge 103, 3) := by decide +kernel
theorem dX12_chain_43 : decode cX12_chain 43 = .ok (.iload_n 3, 1) := by decide +kernel
theorem dX12_chain_44 : decode cX12_chain 44 = .ok (.ifCond .lt 99, 3) := by decide +kernel
theorem dX12_chain_47 : decode cX12_chain 47 = .ok (.iconst (-1), 1) := by decide +kernel
theorem dX12_chain_48 : decode cX12_chain 48 = .ok (.istore 5, 2) := by decide +kernel
theorem dX12_chain_50 : decode cX12_chain 50 = .ok (.iconst 0, 1) := by decide +kernel
theorem dX12_chain_51 : decode cX12_chain 51 = .ok (.istore 6, 2) := by decide +kernel
theorem dX12_chain_53 : decode cX12_chain 53 = .ok (.iload 6, 2) := by decide +kernel
theorem dX12_chain_55 : decode cX12_chain 55 = .ok (.aload_n 0, 1) := by decide +kernel
theorem dX12_chain_56 : decode cX12_chain 56 = .ok (.getfield 7, 3) := by decide +kernel
theorem dX12_chain_59 : decode cX12_chain 59 = .ok (.iconst 1, 1) := by decide +kernel
theorem dX12_chain_60 : decode cX12_chain 60 = .ok (.iaload, 1) := by decide +kernel
theorem dX12_chain_61 : decode cX12_chain 61 = .ok (.if_icmp .ge 73, 3) := by decide +kernel
theorem dX12_chain_64 : decode cX12_chain 64 = .ok (.aload_n 0, 1) := by decide +kernel
theorem dX12_chain_65 : decode cX12_chain 65 = .ok (.getfield 7, 3) := by decide +kernel
theorem dX12_chain_68 : decode cX12_chain 68 = .ok (.aload_n 0, 1) := by decide +kernel
theorem dX12_chain_69 : decode cX12_chain 69 = .ok (.iload_n 3, 1) := by decide +kernel
theorem dX12_chain_70 : decode cX12_chain 70 = .ok (.invokevirtual 93, 3) := by decide +kernel
theorem dX12_chain_73 : decode cX12_chain 73 = .ok (.iconst 5, 1) := by decide +kernel
theorem dX12_chain_74 : decode cX12_chain 74 = .ok (.iadd, 1) := by decide +kernel
theorem dX12_chain_75 : decode cX12_chain 75 = .ok (.iaload, 1) := by decide +kernel
theorem dX12_chain_76 : decode cX12_chain 76 = .ok (.iload 6, 2) := by decide +kernel
theorem dX12_chain_78 : decode cX12_chain 78 = .ok (.ishr, 1) := by decide +kernel
theorem dX12_chain_79 : decode cX12_chain 79 = .ok (.iconst 1, 1) := by decide +kernel
theorem dX12_chain_80 : decode cX12_chain 80 = .ok (.iand, 1) := by decide +kernel
theorem dX12_chain_81 : decode cX12_chain 81 = .ok (.iconst 1, 1) := by decide +kernel
theorem dX12_chain_82 : decode cX12_chain 82 = .ok (.if_icmp .ne 7, 3) := by decide +kernel
theorem dX12_chain_85 : decode cX12_chain 85 = .ok (.iconst 1, 1) := by decide +kernel
theorem dX12_chain_86 : decode cX12_chain 86 = .ok (.goto 4, 3) := by decide +kernel
theorem dX12_chain_89 : decode cX12_chain 89 = .ok (.iconst 0, 1) := by decide +kernel
theorem dX12_chain_90 : decode cX12_chain 90 = .ok (.istore 7, 2) := by decide +kernel
theorem dX12_chain_92 : decode cX12_chain 92 = .ok (.iload 7, 2) := by decide +kernel
theorem dX12_chain_94 : decode cX12_chain 94 = .ok (.ifCond .eq 30, 3) := by decide +kernel
theorem dX12_chain_97 : decode cX12_chain 97 = .ok (.iload 5, 2) := by decide +kernel
theorem dX12_chain_99 : decode cX12_chain 99 = .ok (.ifCond .lt 20, 3) := by decide +kernel
theorem dX12_chain_102 : decode cX12_chain 102 = .ok (.aload_n 0, 1) := by decide +kernel
theorem dX12_chain_103 : decode cX12_chain 103 = .ok (.getfield 68, 3) := by decide +kernel
theorem dX12_chain_106 : decode cX12_chain 106 = .ok (.iload 6, 2) := by decide +kernel
theorem dX12_chain_108 : decode cX12_chain 108 = .ok (.iaload, 1) := by decide +kernel
theorem dX12_chain_109 : decode cX12_chain 109 = .ok (.aload_n 0, 1) := by decide +kernel
theorem dX12_chain_110 : decode cX12_chain 110 = .ok (.getfield 68, 3) := by decide +kernel
theorem dX12_chain_113 : decode cX12_chain 113 = .ok (.iload 5, 2) := by decide +kernel
theorem dX12_chain_115 : decode cX12_chain 115 = .ok (.iaload, 1) := by decide +kernel
theorem dX12_chain_116 : decode cX12_chain 116 = .ok (.if_icmp .le 8, 3) := by decide +kernel
theorem dX12_chain_119 : decode cX12_chain 119 = .ok (.iload 6, 2) := by decide +kernel
theorem dX12_chain_121 : decode cX12_chain 121 = .ok (.goto 5, 3) := by decide +kernel
theorem dX12_chain_124 : decode cX12_chain 124 = .ok (.iload 5, 2) := by decide +kernel
theorem dX12_chain_126 : decode cX12_chain 126 = .ok (.istore 5, 2) := by decide +kernel
theorem dX12_chain_128 : decode cX12_chain 128 = .ok (.iinc 6 1, 3) := by decide +kernel
theorem dX12_chain_131 : decode cX12_chain 131 = .ok (.goto (-78), 3) := by decide +kernel
theorem dX12_chain_134 : decode cX12_chain 134 = .ok (.iload 5, 2) := by decide +kernel
theorem dX12_chain_136 : decode cX12_chain 136 = .ok (.istore_n 3, 1) := by decide +kernel
theorem dX12_chain_137 : decode cX12_chain 137 = .ok (.iinc 4 1, 3) := by decide +kernel
theorem dX12_chain_140 : decode cX12_chain 140 = .ok (.goto (-103), 3) := by decide +kernel
theorem dX12_chain_143 : decode cX12_chain 143 = .ok (.iload_n 3, 1) := by decide +kernel
theorem dX12_chain_144 : decode cX12_chain 144 = .ok (.invokestatic 159, 3) := by decide +kernel
theorem dX12_chain_147 : decode cX12_chain 147 = .ok (.ireturn, 1) := by decide +kernel
theorem dX12_isSurvey_0 : decode cX12_isSurvey 0 = .ok (.iload_n 0, 1) := by decide +kernel
theorem dX12_isSurvey_1 : decode cX12_isSurvey 1 = .ok (.i2l, 1) := by decide +kernel
theorem dX12_isSurvey_2 : decode cX12_isSurvey 2 = .ok (.lconst 0, 1) := by decide +kernel
theorem dX12_isSurvey_3 : decode cX12_isSurvey 3 = .ok (.ldc2_w 106, 3) := by decide +kernel
theorem dX12_isSurvey_6 : decode cX12_isSurvey 6 = .ok (.invokestatic 89, 3) := by decide +kernel
theorem dX12_isSurvey_9 : decode cX12_isSurvey 9 = .ok (.ireturn, 1) := by decide +kernel
theorem dX12_survey_0 : decode cX12_survey 0 = .ok (.iload_n 1, 1) := by decide +kernel
theorem dX12_survey_1 : decode cX12_survey 1 = .ok (.invokestatic 343, 3) := by decide +kernel
theorem dX12_survey_4 : decode cX12_survey 4 = .ok (.ifCond .eq 25, 3) := by decide +kernel
theorem dX12_survey_7 : decode cX12_survey 7 = .ok (.iload_n 2, 1) := by decide +kernel
theorem dX12_survey_8 : decode cX12_survey 8 = .ok (.i2l, 1) := by decide +kernel
theorem dX12_survey_9 : decode cX12_survey 9 = .ok (.ldc2_w 346, 3) := by decide +kernel
theorem dX12_survey_12 : decode cX12_survey 12 = .ok (.lconst 1, 1) := by decide +kernel
theorem dX12_survey_13 : decode cX12_survey 13 = .ok (.invokestatic 89, 3) := by decide +kernel
theorem dX12_survey_16 : decode cX12_survey 16 = .ok (.ifCond .eq 13, 3) := by decide +kernel
theorem dX12_survey_19 : decode cX12_survey 19 = .ok (.iload_n 2, 1) := by decide +kernel
theorem dX12_survey_20 : decode cX12_survey 20 = .ok (.ifCond .lt 12, 3) := by decide +kernel
theorem dX12_survey_23 : decode cX12_survey 23 = .ok (.iload_n 3, 1) := by decide +kernel
theorem dX12_survey_24 : decode cX12_survey 24 = .ok (.bipush 24, 2) := by decide +kernel
theorem dX12_survey_26 : decode cX12_survey 26 = .ok (.if_icmp .le 6, 3) := by decide +kernel
theorem dX12_survey_29 : decode cX12_survey 29 = .ok (.ldc 100, 2) := by decide +kernel
theorem dX12_survey_31 : decode cX12_survey 31 = .ok (.ireturn, 1) := by decide +kernel
theorem dX12_survey_32 : decode cX12_survey 32 = .ok (.iload_n 2, 1) := by decide +kernel
theorem dX12_survey_33 : decode cX12_survey 33 = .ok (.ifCond .lt 11, 3) := by decide +kernel
theorem dX12_survey_36 : decode cX12_survey 36 = .ok (.iload_n 3, 1) := by decide +kernel
theorem dX12_survey_37 : decode cX12_survey 37 = .ok (.ifCond .ge 7, 3) := by decide +kernel
theorem dX12_survey_40 : decode cX12_survey 40 = .ok (.ldc_w 348, 3) := by decide +kernel
theorem dX12_survey_43 : decode cX12_survey 43 = .ok (.ireturn, 1) := by decide +kernel
theorem dX12_survey_44 : decode cX12_survey 44 = .ok (.aload_n 0, 1) := by decide +kernel
theorem dX12_survey_45 : decode cX12_survey 45 = .ok (.getfield 19, 3) := by decide +kernel
theorem dX12_survey_48 : decode cX12_survey 48 = .ok (.iload_n 1, 1) := by decide +kernel
theorem dX12_survey_49 : decode cX12_survey 49 = .ok (.iload_n 2, 1) := by decide +kernel
theorem dX12_survey_50 : decode cX12_survey 50 = .ok (.iastore, 1) := by decide +kernel
theorem dX12_survey_51 : decode cX12_survey 51 = .ok (.aload_n 0, 1) := by decide +kernel
theorem dX12_survey_52 : decode cX12_survey 52 = .ok (.getfield 22, 3) := by decide +kernel
theorem dX12_survey_55 : decode cX12_survey 55 = .ok (.iload_n 1, 1) := by decide +kernel
theorem dX12_survey_56 : decode cX12_survey 56 = .ok (.iload_n 2, 1) := by decide +kernel
theorem dX12_survey_57 : decode cX12_survey 57 = .ok (.ifCond .ge 7, 3) := by decide +kernel
theorem dX12_survey_60 : decode cX12_survey 60 = .ok (.iconst 0, 1) := by decide +kernel
theorem dX12_survey_61 : decode cX12_survey 61 = .ok (.goto 4, 3) := by decide +kernel
theorem dX12_survey_64 : decode cX12_survey 64 = .ok (.iload_n 3, 1) := by decide +kernel
theorem dX12_survey_65 : decode cX12_survey 65 = .ok (.iastore, 1) := by decide +kernel
theorem dX12_survey_66 : decode cX12_survey 66 = .ok (.iconst 0, 1) := by decide +kernel
theorem dX12_survey_67 : decode cX12_survey 67 = .ok (.istore 4, 2) := by decide +kernel
theorem dX12_survey_69 : decode cX12_survey 69 = .ok (.iload 4, 2) := by decide +kernel
theorem dX12_survey_71 : decode cX12_survey 71 = .ok (.bipush 24, 2) := by decide +kernel
theorem dX12_survey_73 : decode cX12_survey 73 = .ok (.if_icmp .ge 22, 3) := by decide +kernel
theorem dX12_survey_76 : decode cX12_survey 76 = .ok (.aload_n 0, 1) := by decide +kernel
theorem dX12_survey_77 : decode cX12_survey 77 = .ok (.getfield 25, 3) := by decide +kernel
theorem dX12_survey_80 : decode cX12_survey 80 = .ok (.bipush 24, 2) := by decide +kernel
theorem dX12_survey_82 : decode cX12_survey 82 = .ok (.iload_n 1, 1) := by decide +kernel
theorem dX12_survey_83 : decode cX12_survey 83 = .ok (.imul, 1) := by decide +kernel
theorem dX12_survey_84 : decode cX12_survey 84 = .ok (.iload 4, 2) := by decide +kernel
theorem dX12_survey_86 : decode cX12_survey 86 = .ok (.iadd, 1) := by decide +kernel
theorem dX12_survey_87 : decode cX12_survey 87 = .ok (.iconst 0, 1) := by decide +kernel
theorem dX12_survey_88 : decode cX12_survey 88 = .ok (.iastore, 1) := by decide +kernel
theorem dX12_survey_89 : decode cX12_survey 89 = .ok (.iinc 4 1, 3) := by decide +kernel
theorem dX12_survey_92 : decode cX12_survey 92 = .ok (.goto (-23), 3) := by decide +kernel
theorem dX12_survey_95 : decode cX12_survey 95 = .ok (.aload_n 0, 1) := by decide +kernel
theorem dX12_survey_96 : decode cX12_survey 96 = .ok (.getfield 22, 3) := by decide +kernel
theorem dX12_survey_99 : decode cX12_survey 99 = .ok (.iload_n 1, 1) := by decide +kernel
theorem dX12_survey_100 : decode cX12_survey 100 = .ok (.iaload, 1) := by decide +kernel
theorem dX12_survey_101 : decode cX12_survey 101 = .ok (.ireturn, 1) := by decide +kernel
theorem dX12_lacks_0 : decode cX12_lacks 0 = .ok (.iload_n 1, 1) := by decide +kernel
theorem dX12_lacks_1 : decode cX12_lacks 1 = .ok (.invokestatic 343, 3) := by decide +kernel
theorem dX12_lacks_4 : decode cX12_lacks 4 = .ok (.ifCond .ne 6, 3) := by decide +kernel
theorem dX12_lacks_7 : decode cX12_lacks 7 = .ok (.ldc 100, 2) := by decide +kernel
theorem dX12_lacks_9 : decode cX12_lacks 9 = .ok (.ireturn, 1) := by decide +kernel
theorem dX12_lacks_10 : decode cX12_lacks 10 = .ok (.aload_n 0, 1) := by decide +kernel
theorem dX12_lacks_11 : decode cX12_lacks 11 = .ok (.getfield 19, 3) := by decide +kernel
theorem dX12_lacks_14 : decode cX12_lacks 14 = .ok (.iload_n 1, 1) := by decide +kernel
theorem dX12_lacks_15 : decode cX12_lacks 15 = .ok (.iaload, 1) := by decide +kernel
theorem dX12_lacks_16 : decode cX12_lacks 16 = .ok (.ifCond .ge 9, 3) := by decide +kernel
theorem dX12_lacks_19 : decode cX12_lacks 19 = .ok (.ldc_w 349, 3) := by decide +kernel
theorem dX12_lacks_22 : decode cX12_lacks 22 = .ok (.goto 28, 3) := by decide +kernel
theorem dX12_lacks_25 : decode cX12_lacks 25 = .ok (.iload_n 2, 1) := by decide +kernel
theorem dX12_lacks_26 : decode cX12_lacks 26 = .ok (.i2l, 1) := by decide +kernel
theorem dX12_lacks_27 : decode cX12_lacks 27 = .ok (.lconst 0, 1) := by decide +kernel
theorem dX12_lacks_28 : decode cX12_lacks 28 = .ok (.aload_n 0, 1) := by decide +kernel
theorem dX12_lacks_29 : decode cX12_lacks 29 = .ok (.getfield 22, 3) := by decide +kernel
theorem dX12_lacks_32 : decode cX12_lacks 32 = .ok (.iload_n 1, 1) := by decide +kernel
theorem dX12_lacks_33 : decode cX12_lacks 33 = .ok (.iaload, 1) := by decide +kernel
theorem dX12_lacks_34 : decode cX12_lacks 34 = .ok (.iconst 1, 1) := by decide +kernel
theorem dX12_lacks_35 : decode cX12_lacks 35 = .ok (.isub, 1) := by decide +kernel
theorem dX12_lacks_36 : decode cX12_lacks 36 = .ok (.i2l, 1) := by decide +kernel
theorem dX12_lacks_37 : decode cX12_lacks 37 = .ok (.invokestatic 89, 3) := by decide +kernel
theorem dX12_lacks_40 : decode cX12_lacks 40 = .ok (.ifCond .eq 7, 3) := by decide +kernel
theorem dX12_lacks_43 : decode cX12_lacks 43 = .ok (.iconst 0, 1) := by decide +kernel
theorem dX12_lacks_44 : decode cX12_lacks 44 = .ok (.goto 6, 3) := by decide +kernel
theorem dX12_lacks_47 : decode cX12_lacks 47 = .ok (.ldc_w 350, 3) := by decide +kernel
theorem dX12_lacks_50 : decode cX12_lacks 50 = .ok (.ireturn, 1) := by decide +kernel
theorem dX12_note_0 : decode cX12_note 0 = .ok (.aload_n 0, 1) := by decide +kernel
theorem dX12_note_1 : decode cX12_note 1 = .ok (.iload_n 1, 1) := by decide +kernel
theorem dX12_note_2 : decode cX12_note 2 = .ok (.iload_n 2, 1) := by decide +kernel
theorem dX12_note_3 : decode cX12_note 3 = .ok (.invokevirtual 351, 3) := by decide +kernel
theorem dX12_note_6 : decode cX12_note 6 = .ok (.istore 4, 2) := by decide +kernel
theorem dX12_note_8 : decode cX12_note 8 = .ok (.iload 4, 2) := by decide +kernel
theorem dX12_note_10 : decode cX12_note 10 = .ok (.ifCond .eq 6, 3) := by decide +kernel
theorem dX12_note_13 : decode cX12_note 13 = .ok (.iload 4, 2) := by decide +kernel
theorem dX12_note_15 : decode cX12_note 15 = .ok (.ireturn, 1) := by decide +kernel
theorem dX12_note_16 : decode cX12_note 16 = .ok (.aload_n 0, 1) := by decide +kernel
theorem dX12_note_17 : decode cX12_note 17 = .ok (.getfield 19, 3) := by decide +kernel
theorem dX12_note_20 : decode cX12_note 20 = .ok (.iload_n 1, 1) := by decide +kernel
theorem dX12_note_21 : decode cX12_note 21 = .ok (.iaload, 1) := by decide +kernel
theorem dX12_note_22 : decode cX12_note 22 = .ok (.iconst 1, 1) := by decide +kernel
theorem dX12_note_23 : decode cX12_note 23 = .ok (.if_icmp .ne 12, 3) := by decide +kernel
theorem dX12_note_26 : decode cX12_note 26 = .ok (.iload_n 3, 1) := by decide +kernel
theorem dX12_note_27 : decode cX12_note 27 = .ok (.ldc 88, 2) := by decide +kernel
theorem dX12_note_29 : decode cX12_note 29 = .ok (.if_icmp .ne 6, 3) := by decide +kernel
theorem dX12_note_32 : decode cX12_note 32 = .ok (.ldc 174, 2) := by decide +kernel
theorem dX12_note_34 : decode cX12_note 34 = .ok (.ireturn, 1) := by decide +kernel
theorem dX12_note_35 : decode cX12_note 35 = .ok (.aload_n 0, 1) := by decide +kernel
theorem dX12_note_36 : decode cX12_note 36 = .ok (.getfield 19, 3) := by decide +kernel
theorem dX12_note_39 : decode cX12_note 39 = .ok (.iload_n 1, 1) := by decide +kernel
theorem dX12_note_40 : decode cX12_note 40 = .ok (.iaload, 1) := by decide +kernel
theorem dX12_note_41 : decode cX12_note 41 = .ok (.ifCond .ne 26, 3) := by decide +kernel
theorem dX12_note_44 : decode cX12_note 44 = .ok (.iload_n 3, 1) := by decide +kernel
theorem dX12_note_45 : decode cX12_note 45 = .ok (.ldc 88, 2) := by decide +kernel
theorem dX12_note_47 : decode cX12_note 47 = .ok (.if_icmp .eq 20, 3) := by decide +kernel
theorem dX12_note_50 : decode cX12_note 50 = .ok (.iload_n 3, 1) := by decide +kernel
theorem dX12_note_51 : decode cX12_note 51 = .ok (.i2l, 1) := by decide +kernel
theorem dX12_note_52 : decode cX12_note 52 = .ok (.ldc2_w 354, 3) := by decide +kernel
theorem dX12_note_55 : decode cX12_note 55 = .ok (.ldc2_w 356, 3) := by decide +kernel
theorem dX12_note_58 : decode cX12_note 58 = .ok (.invokestatic 89, 3) := by decide +kernel
theorem dX12_note_61 : decode cX12_note 61 = .ok (.ifCond .ne 6, 3) := by decide +kernel
theorem dX12_note_64 : decode cX12_note 64 = .ok (.ldc 100, 2) := by decide +kernel
theorem dX12_note_66 : decode cX12_note 66 = .ok (.ireturn, 1) := by decide +kernel
theorem dX12_note_67 : decode cX12_note 67 = .ok (.aload_n 0, 1) := by decide +kernel
theorem dX12_note_68 : decode cX12_note 68 = .ok (.getfield 25, 3) := by decide +kernel
theorem dX12_note_71 : decode cX12_note 71 = .ok (.bipush 24, 2) := by decide +kernel
theorem dX12_note_73 : decode cX12_note 73 = .ok (.iload_n 1, 1) := by decide +kernel
theorem dX12_note_74 : decode cX12_note 74 = .ok (.imul, 1) := by decide +kernel
theorem dX12_note_75 : decode cX12_note 75 = .ok (.iload_n 2, 1) := by decide +kernel
theorem dX12_note_76 : decode cX12_note 76 = .ok (.iadd, 1) := by decide +kernel
theorem dX12_note_77 : decode cX12_note 77 = .ok (.aload_n 0, 1) := by decide +kernel
theorem dX12_note_78 : decode cX12_note 78 = .ok (.getfield 19, 3) := by decide +kernel
theorem dX12_note_81 : decode cX12_note 81 = .ok (.iload_n 1, 1) := by decide +kernel
theorem dX12_note_82 : decode cX12_note 82 = .ok (.iaload, 1) := by decide +kernel
theorem dX12_note_83 : decode cX12_note 83 = .ok (.iconst 1, 1) := by decide +kernel
theorem dX12_note_84 : decode cX12_note 84 = .ok (.if_icmp .ne 13, 3) := by decide +kernel
theorem dX12_note_87 : decode cX12_note 87 = .ok (.iload_n 3, 1) := by decide +kernel
theorem dX12_note_88 : decode cX12_note 88 = .ok (.bipush 16, 2) := by decide +kernel
theorem dX12_note_90 : decode cX12_note 90 = .ok (.ishl, 1) := by decide +kernel
theorem dX12_note_91 : decode cX12_note 91 = .ok (.bipush 16, 2) := by decide +kernel
theorem dX12_note_93 : decode cX12_note 93 = .ok (.ishr, 1) := by decide +kernel
theorem dX12_note_94 : decode cX12_note 94 = .ok (.goto 4, 3) := by decide +kernel
theorem dX12_note_97 : decode cX12_note 97 = .ok (.iload_n 3, 1) := by decide +kernel
theorem dX12_note_98 : decode cX12_note 98 = .ok (.iastore, 1) := by decide +kernel
theorem dX12_note_99 : decode cX12_note 99 = .ok (.iconst 1, 1) := by decide +kernel
theorem dX12_note_100 : decode cX12_note 100 = .ok (.ireturn, 1) := by decide +kernel
theorem dX12_nearest_0 : decode cX12_nearest 0 = .ok (.iload_n 2, 1) := by decide +kernel
theorem dX12_nearest_1 : decode cX12_nearest 1 = .ok (.istore 4, 2) := by decide +kernel
theorem dX12_nearest_3 : decode cX12_nearest 3 = .ok (.iload 4, 2) := by decide +kernel
theorem dX12_nearest_5 : decode cX12_nearest 5 = .ok (.ifCond .lt 40, 3) := by decide +kernel
theorem dX12_nearest_8 : decode cX12_nearest 8 = .ok (.iload 4, 2) := by decide +kernel
theorem dX12_nearest_10 : decode cX12_nearest 10 = .ok (.aload_n 0, 1) := by decide +kernel
theorem dX12_nearest_11 : decode cX12_nearest 11 = .ok (.getfield 22, 3) := by decide +kernel
theorem dX12_nearest_14 : decode cX12_nearest 14 = .ok (.iload_n 1, 1) := by decide +kernel
theorem dX12_nearest_15 : decode cX12_nearest 15 = .ok (.iaload, 1) := by decide +kernel
theorem dX12_nearest_16 : decode cX12_nearest 16 = .ok (.if_icmp .ge 29, 3) := by decide +kernel
theorem dX12_nearest_19 : decode cX12_nearest 19 = .ok (.aload_n 0, 1) := by decide +kernel
theorem dX12_nearest_20 : decode cX12_nearest 20 = .ok (.getfield 25, 3) := by decide +kernel
theorem dX12_nearest_23 : decode cX12_nearest 23 = .ok (.bipush 24, 2) := by decide +kernel
theorem dX12_nearest_25 : decode cX12_nearest 25 = .ok (.iload_n 1, 1) := by decide +kernel
theorem dX12_nearest_26 : decode cX12_nearest 26 = .ok (.imul, 1) := by decide +kernel
theorem dX12_nearest_27 : decode cX12_nearest 27 = .ok (.iload 4, 2) := by decide +kernel
theorem dX12_nearest_29 : decode cX12_nearest 29 = .ok (.iadd, 1) := by decide +kernel
theorem dX12_nearest_30 : decode cX12_nearest 30 = .ok (.iaload, 1) := by decide +kernel
theorem dX12_nearest_31 : decode cX12_nearest 31 = .ok (.ldc 88, 2) := by decide +kernel
theorem dX12_nearest_33 : decode cX12_nearest 33 = .ok (.if_icmp .ne 12, 3) := by decide +kernel
theorem dX12_nearest_36 : decode cX12_nearest 36 = .ok (.iload 4, 2) := by decide +kernel
theorem dX12_nearest_38 : decode cX12_nearest 38 = .ok (.iload_n 3, 1) := by decide +kernel
theorem dX12_nearest_39 : decode cX12_nearest 39 = .ok (.iadd, 1) := by decide +kernel
theorem dX12_nearest_40 : decode cX12_nearest 40 = .ok (.istore 4, 2) := by decide +kernel
theorem dX12_nearest_42 : decode cX12_nearest 42 = .ok (.goto (-39), 3) := by decide +kernel
theorem dX12_nearest_45 : decode cX12_nearest 45 = .ok (.iload 4, 2) := by decide +kernel
theorem dX12_nearest_47 : decode cX12_nearest 47 = .ok (.ifCond .lt 19, 3) := by decide +kernel
theorem dX12_nearest_50 : decode cX12_nearest 50 = .ok (.iload 4, 2) := by decide +kernel
theorem dX12_nearest_52 : decode cX12_nearest 52 = .ok (.aload_n 0, 1) := by decide +kernel
theorem dX12_nearest_53 : decode cX12_nearest 53 = .ok (.getfield 22, 3) := by decide +kernel
theorem dX12_nearest_56 : decode cX12_nearest 56 = .ok (.iload_n 1, 1) := by decide +kernel
theorem dX12_nearest_57 : decode cX12_nearest 57 = .ok (.iaload, 1) := by decide +kernel
theorem dX12_nearest_58 : decode cX12_nearest 58 = .ok (.if_icmp .ge 8, 3) := by decide +kernel
theorem dX12_nearest_61 : decode cX12_nearest 61 = .ok (.iload 4, 2) := by decide +kernel
theorem dX12_nearest_63 : decode cX12_nearest 63 = .ok (.goto 4, 3) := by decide +kernel
theorem dX12_nearest_66 : decode cX12_nearest 66 = .ok (.iconst (-1), 1) := by decide +kernel
theorem dX12_nearest_67 : decode cX12_nearest 67 = .ok (.ireturn, 1) := by decide +kernel
theorem dX12_read_0 : decode cX12_read 0 = .ok (.aload_n 0, 1) := by decide +kernel
theorem dX12_read_1 : decode cX12_read 1 = .ok (.iload_n 1, 1) := by decide +kernel
theorem dX12_read_2 : decode cX12_read 2 = .ok (.iload_n 2, 1) := by decide +kernel
theorem dX12_read_3 : decode cX12_read 3 = .ok (.invokevirtual 351, 3) := by decide +kernel
theorem dX12_read_6 : decode cX12_read 6 = .ok (.istore_n 3, 1) := by decide +kernel
theorem dX12_read_7 : decode cX12_read 7 = .ok (.iload_n 3, 1) := by decide +kernel
theorem dX12_read_8 : decode cX12_read 8 = .ok (.ifCond .eq 5, 3) := by decide +kernel
theorem dX12_read_11 : decode cX12_read 11 = .ok (.iload_n 3, 1) := by decide +kernel
theorem dX12_read_12 : decode cX12_read 12 = .ok (.ireturn, 1) := by decide +kernel
theorem dX12_read_13 : decode cX12_read 13 = .ok (.aload_n 0, 1) := by decide +kernel
theorem dX12_read_14 : decode cX12_read 14 = .ok (.iload_n 1, 1) := by decide +kernel
theorem dX12_read_15 : decode cX12_read 15 = .ok (.iload_n 2, 1) := by decide +kernel
theorem dX12_read_16 : decode cX12_read 16 = .ok (.iconst (-1), 1) := by decide +kernel
theorem dX12_read_17 : decode cX12_read 17 = .ok (.invokevirtual 358, 3) := by decide +kernel
theorem dX12_read_20 : decode cX12_read 20 = .ok (.istore 4, 2) := by decide +kernel
theorem dX12_read_22 : decode cX12_read 22 = .ok (.aload_n 0, 1) := by decide +kernel
theorem dX12_read_23 : decode cX12_read 23 = .ok (.iload_n 1, 1) := by decide +kernel
theorem dX12_read_24 : decode cX12_read 24 = .ok (.iload_n 2, 1) := by decide +kernel
theorem dX12_read_25 : decode cX12_read 25 = .ok (.iconst 1, 1) := by decide +kernel
theorem dX12_read_26 : decode cX12_read 26 = .ok (.invokevirtual 358, 3) := by decide +kernel
theorem dX12_read_29 : decode cX12_read 29 = .ok (.istore 5, 2) := by decide +kernel
theorem dX12_read_31 : decode cX12_read 31 = .ok (.iload 4, 2) := by decide +kernel
theorem dX12_read_33 : decode cX12_read 33 = .ok (.ifCond .ge 11, 3) := by decide +kernel
theorem dX12_read_36 : decode cX12_read 36 = .ok (.iload 5, 2) := by decide +kernel
theorem dX12_read_38 : decode cX12_read 38 = .ok (.ifCond .ge 6, 3) := by decide +kernel
theorem dX12_read_41 : decode cX12_read 41 = .ok (.ldc 174, 2) := by decide +kernel
theorem dX12_read_43 : decode cX12_read 43 = .ok (.ireturn, 1) := by decide +kernel
theorem dX12_read_44 : decode cX12_read 44 = .ok (.aload_n 0, 1) := by decide +kernel
theorem dX12_read_45 : decode cX12_read 45 = .ok (.getfield 25, 3) := by decide +kernel
theorem dX12_read_48 : decode cX12_read 48 = .ok (.bipush 24, 2) := by decide +kernel
theorem dX12_read_50 : decode cX12_read 50 = .ok (.iload_n 1, 1) := by decide +kernel
theorem dX12_read_51 : decode cX12_read 51 = .ok (.imul, 1) := by decide +kernel
theorem dX12_read_52 : decode cX12_read 52 = .ok (.iload 4, 2) := by decide +kernel
theorem dX12_read_54 : decode cX12_read 54 = .ok (.ifCond .ge 8, 3) := by decide +kernel
theorem dX12_read_57 : decode cX12_read 57 = .ok (.iload 5, 2) := by decide +kernel
theorem dX12_read_59 : decode cX12_read 59 = .ok (.goto 5, 3) := by decide +kernel
theorem dX12_read_62 : decode cX12_read 62 = .ok (.iload 4, 2) := by decide +kernel
theorem dX12_read_64 : decode cX12_read 64 = .ok (.iadd, 1) := by decide +kernel
theorem dX12_read_65 : decode cX12_read 65 = .ok (.iaload, 1) := by decide +kernel
theorem dX12_read_66 : decode cX12_read 66 = .ok (.istore 6, 2) := by decide +kernel
theorem dX12_read_68 : decode cX12_read 68 = .ok (.aload_n 0, 1) := by decide +kernel
theorem dX12_read_69 : decode cX12_read 69 = .ok (.getfield 25, 3) := by decide +kernel
theorem dX12_read_72 : decode cX12_read 72 = .ok (.bipush 24, 2) := by decide +kernel
theorem dX12_read_74 : decode cX12_read 74 = .ok (.iload_n 1, 1) := by decide +kernel
theorem dX12_read_75 : decode cX12_read 75 = .ok (.imul, 1) := by decide +kernel
theorem dX12_read_76 : decode cX12_read 76 = .ok (.iload 5, 2) := by decide +kernel
theorem dX12_read_78 : decode cX12_read 78 = .ok (.ifCond .ge 8, 3) := by decide +kernel
theorem dX12_read_81 : decode cX12_read 81 = .ok (.iload 4, 2) := by decide +kernel
theorem dX12_read_83 : decode cX12_read 83 = .ok (.goto 5, 3) := by decide +kernel
theorem dX12_read_86 : decode cX12_read 86 = .ok (.iload 5, 2) := by decide +kernel
theorem dX12_read_88 : decode cX12_read 88 = .ok (.iadd, 1) := by decide +kernel
theorem dX12_read_89 : decode cX12_read 89 = .ok (.iaload, 1) := by decide +kernel
theorem dX12_read_90 : decode cX12_read 90 = .ok (.istore 7, 2) := by decide +kernel
theorem dX12_read_92 : decode cX12_read 92 = .ok (.iload 4, 2) := by decide +kernel
theorem dX12_read_94 : decode cX12_read 94 = .ok (.ifCond .lt 15, 3) := by decide +kernel
theorem dX12_read_97 : decode cX12_read 97 = .ok (.iload 5, 2) := by decide +kernel
theorem dX12_read_99 : decode cX12_read 99 = .ok (.ifCond .lt 10, 3) := by decide +kernel
theorem dX12_read_102 : decode cX12_read 102 = .ok (.iload 4, 2) := by decide +kernel
theorem dX12_read_104 : decode cX12_read 104 = .ok (.iload 5, 2) := by decide +kernel
theorem dX12_read_106 : decode cX12_read 106 = .ok (.if_icmp .ne 18, 3) := by decide +kernel
theorem dX12_read_109 : decode cX12_read 109 = .ok (.iload 4, 2) := by decide +kernel
theorem dX12_read_111 : decode cX12_read 111 = .ok (.ifCond .ge 8, 3) := by decide +kernel
theorem dX12_read_114 : decode cX12_read 114 = .ok (.iload 7, 2) := by decide +kernel
theorem dX12_read_116 : decode cX12_read 116 = .ok (.goto 29, 3) := by decide +kernel
theorem dX12_read_119 : decode cX12_read 119 = .ok (.iload 6, 2) := by decide +kernel
theorem dX12_read_121 : decode cX12_read 121 = .ok (.goto 24, 3) := by decide +kernel
theorem dX12_read_124 : decode cX12_read 124 = .ok (.iload 6, 2) := by decide +kernel
theorem dX12_read_126 : decode cX12_read 126 = .ok (.iload 5, 2) := by decide +kernel
theorem dX12_read_128 : decode cX12_read 128 = .ok (.iload_n 2, 1) := by decide +kernel
theorem dX12_read_129 : decode cX12_read 129 = .ok (.isub, 1) := by decide +kernel
theorem dX12_read_130 : decode cX12_read 130 = .ok (.imul, 1) := by decide +kernel
theorem dX12_read_131 : decode cX12_read 131 = .ok (.iload 7, 2) := by decide +kernel
theorem dX12_read_133 : decode cX12_read 133 = .ok (.iload_n 2, 1) := by decide +kernel
theorem dX12_read_134 : decode cX12_read 134 = .ok (.iload 4, 2) := by decide +kernel
theorem dX12_read_136 : decode cX12_read 136 = .ok (.isub, 1) := by decide +kernel
theorem dX12_read_137 : decode cX12_read 137 = .ok (.imul, 1) := by decide +kernel
theorem dX12_read_138 : decode cX12_read 138 = .ok (.iadd, 1) := by decide +kernel
theorem dX12_read_139 : decode cX12_read 139 = .ok (.iload 5, 2) := by decide +kernel
theorem dX12_read_141 : decode cX12_read 141 = .ok (.iload 4, 2) := by decide +kernel
theorem dX12_read_143 : decode cX12_read 143 = .ok (.isub, 1) := by decide +kernel
theorem dX12_read_144 : decode cX12_read 144 = .ok (.idiv, 1) := by decide +kernel
theorem dX12_read_145 : decode cX12_read 145 = .ok (.ireturn, 1) := by decide +kernel
theorem dX12_copy_0 : decode cX12_copy 0 = .ok (.iload_n 1, 1) := by decide +kernel
theorem dX12_copy_1 : decode cX12_copy 1 = .ok (.invokestatic 343, 3) := by decide +kernel
theorem dX12_copy_4 : decode cX12_copy 4 = .ok (.ifCond .eq 10, 3) := by decide +kernel
theorem dX12_copy_7 : decode cX12_copy 7 = .ok (.iload_n 3, 1) := by decide +kernel
theorem dX12_copy_8 : decode cX12_copy 8 = .ok (.invokestatic 343, 3) := by decide +kernel
theorem dX12_copy_11 : decode cX12_copy 11 = .ok (.ifCond .ne 6, 3) := by decide +kernel
theorem dX12_copy_14 : decode cX12_copy 14 = .ok (.ldc 100, 2) := by decide +kernel
theorem dX12_copy_16 : decode cX12_copy 16 = .ok (.ireturn, 1) := by decide +kernel
theorem dX12_copy_17 : decode cX12_copy 17 = .ok (.aload_n 0, 1) := by decide +kernel
theorem dX12_copy_18 : decode cX12_copy 18 = .ok (.getfield 19, 3) := by decide +kernel
theorem dX12_copy_21 : decode cX12_copy 21 = .ok (.iload_n 1, 1) := by decide +kernel
theorem dX12_copy_22 : decode cX12_copy 22 = .ok (.iaload, 1) := by decide +kernel
theorem dX12_copy_23 : decode cX12_copy 23 = .ok (.ifCond .lt 12, 3) := by decide +kernel
theorem dX12_copy_26 : decode cX12_copy 26 = .ok (.aload_n 0, 1) := by decide +kernel
theorem dX12_copy_27 : decode cX12_copy 27 = .ok (.getfield 19, 3) := by decide +kernel
theorem dX12_copy_30 : decode cX12_copy 30 = .ok (.iload_n 3, 1) := by decide +kernel
theorem dX12_copy_31 : decode cX12_copy 31 = .ok (.iaload, 1) := by decide +kernel
theorem dX12_copy_32 : decode cX12_copy 32 = .ok (.ifCond .ge 7, 3) := by decide +kernel
theorem dX12_copy_35 : decode cX12_copy 35 = .ok (.ldc_w 349, 3) := by decide +kernel
theorem dX12_copy_38 : decode cX12_copy 38 = .ok (.ireturn, 1) := by decide +kernel
theorem dX12_copy_39 : decode cX12_copy 39 = .ok (.aload_n 0, 1) := by decide +kernel
theorem dX12_copy_40 : decode cX12_copy 40 = .ok (.getfield 19, 3) := by decide +kernel
theorem dX12_copy_43 : decode cX12_copy 43 = .ok (.iload_n 1, 1) := by decide +kernel
theorem dX12_copy_44 : decode cX12_copy 44 = .ok (.iaload, 1) := by decide +kernel
theorem dX12_copy_45 : decode cX12_copy 45 = .ok (.aload_n 0, 1) := by decide +kernel
theorem dX12_copy_46 : decode cX12_copy 46 = .ok (.getfield 19, 3) := by decide +kernel
theorem dX12_copy_49 : decode cX12_copy 49 = .ok (.iload_n 3, 1) := by decide +kernel
theorem dX12_copy_50 : decode cX12_copy 50 = .ok (.iaload, 1) := by decide +kernel
theorem dX12_copy_51 : decode cX12_copy 51 = .ok (.if_icmp .eq 6, 3) := by decide +kernel
theorem dX12_copy_54 : decode cX12_copy 54 = .ok (.ldc 174, 2) := by decide +kernel
theorem dX12_copy_56 : decode cX12_copy 56 = .ok (.ireturn, 1) := by decide +kernel
theorem dX12_copy_57 : decode cX12_copy 57 = .ok (.iload_n 2, 1) := by decide +kernel
theorem dX12_copy_58 : decode cX12_copy 58 = .ok (.ifCond .lt 48, 3) := by decide +kernel
theorem dX12_copy_61 : decode cX12_copy 61 = .ok (.iload 4, 2) := by decide +kernel
theorem dX12_copy_63 : decode cX12_copy 63 = .ok (.ifCond .lt 43, 3) := by decide +kernel
theorem dX12_copy_66 : decode cX12_copy 66 = .ok (.iload 5, 2) := by decide +kernel
theorem dX12_copy_68 : decode cX12_copy 68 = .ok (.ifCond .lt 38, 3) := by decide +kernel
theorem dX12_copy_71 : decode cX12_copy 71 = .ok (.iload_n 2, 1) := by decide +kernel
theorem dX12_copy_72 : decode cX12_copy 72 = .ok (.i2l, 1) := by decide +kernel
theorem dX12_copy_73 : decode cX12_copy 73 = .ok (.iload 5, 2) := by decide +kernel
theorem dX12_copy_75 : decode cX12_copy 75 = .ok (.i2l, 1) := by decide +kernel
theorem dX12_copy_76 : decode cX12_copy 76 = .ok (.ladd, 1) := by decide +kernel
theorem dX12_copy_77 : decode cX12_copy 77 = .ok (.aload_n 0, 1) := by decide +kernel
theorem dX12_copy_78 : decode cX12_copy 78 = .ok (.getfield 22, 3) := by decide +kernel
theorem dX12_copy_81 : decode cX12_copy 81 = .ok (.iload_n 1, 1) := by decide +kernel
theorem dX12_copy_82 : decode cX12_copy 82 = .ok (.iaload, 1) := by decide +kernel
theorem dX12_copy_83 : decode cX12_copy 83 = .ok (.i2l, 1) := by decide +kernel
theorem dX12_copy_84 : decode cX12_copy 84 = .ok (.lcmp, 1) := by decide +kernel
theorem dX12_copy_85 : decode cX12_copy 85 = .ok (.ifCond .gt 21, 3) := by decide +kernel
theorem dX12_copy_88 : decode cX12_copy 88 = .ok (.iload 4, 2) := by decide +kernel
theorem dX12_copy_90 : decode cX12_copy 90 = .ok (.i2l, 1) := by decide +kernel
theorem dX12_copy_91 : decode cX12_copy 91 = .ok (.iload 5, 2) := by decide +kernel
theorem dX12_copy_93 : decode cX12_copy 93 = .ok (.i2l, 1) := by decide +kernel
theorem dX12_copy_94 : decode cX12_copy 94 = .ok (.ladd, 1) := by decide +kernel
theorem dX12_copy_95 : decode cX12_copy 95 = .ok (.aload_n 0, 1) := by decide +kernel
theorem dX12_copy_96 : decode cX12_copy 96 = .ok (.getfield 22, 3) := by decide +kernel
theorem dX12_copy_99 : decode cX12_copy 99 = .ok (.iload_n 3, 1) := by decide +kernel
theorem dX12_copy_100 : decode cX12_copy 100 = .ok (.iaload, 1) := by decide +kernel
theorem dX12_copy_101 : decode cX12_copy 101 = .ok (.i2l, 1) := by decide +kernel
theorem dX12_copy_102 : decode cX12_copy 102 = .ok (.lcmp, 1) := by decide +kernel
theorem dX12_copy_103 : decode cX12_copy 103 = .ok (.ifCond .le 7, 3) := by decide +kernel
theorem dX12_copy_106 : decode cX12_copy 106 = .ok (.ldc_w 350, 3) := by decide +kernel
theorem dX12_copy_109 : decode cX12_copy 109 = .ok (.ireturn, 1) := by decide +kernel
theorem dX12_copy_110 : decode cX12_copy 110 = .ok (.iconst 0, 1) := by decide +kernel
theorem dX12_copy_111 : decode cX12_copy 111 = .ok (.istore 6, 2) := by decide +kernel
theorem dX12_copy_113 : decode cX12_copy 113 = .ok (.iload 6, 2) := by decide +kernel
theorem dX12_copy_115 : decode cX12_copy 115 = .ok (.iload 5, 2) := by decide +kernel
theorem dX12_copy_117 : decode cX12_copy 117 = .ok (.if_icmp .ge 30, 3) := by decide +kernel
theorem dX12_copy_120 : decode cX12_copy 120 = .ok (.aload_n 0, 1) := by decide +kernel
theorem dX12_copy_121 : decode cX12_copy 121 = .ok (.getfield 71, 3) := by decide +kernel
theorem dX12_copy_124 : decode cX12_copy 124 = .ok (.iload 6, 2) := by decide +kernel
theorem dX12_copy_126 : decode cX12_copy 126 = .ok (.aload_n 0, 1) := by decide +kernel
theorem dX12_copy_127 : decode cX12_copy 127 = .ok (.getfield 25, 3) := by decide +kernel
theorem dX12_copy_130 : decode cX12_copy 130 = .ok (.bipush 24, 2) := by decide +kernel
theorem dX12_copy_132 : decode cX12_copy 132 = .ok (.iload_n 1, 1) := by decide +kernel
theorem dX12_copy_133 : decode cX12_copy 133 = .ok (.imul, 1) := by decide +kernel
theorem dX12_copy_134 : decode cX12_copy 134 = .ok (.iload_n 2, 1) := by decide +kernel
theorem dX12_copy_135 : decode cX12_copy 135 = .ok (.iadd, 1) := by decide +kernel
theorem dX12_copy_136 : decode cX12_copy 136 = .ok (.iload 6, 2) := by decide +kernel
theorem dX12_copy_138 : decode cX12_copy 138 = .ok (.iadd, 1) := by decide +kernel
theorem dX12_copy_139 : decode cX12_copy 139 = .ok (.iaload, 1) := by decide +kernel
theorem dX12_copy_140 : decode cX12_copy 140 = .ok (.iastore, 1) := by decide +kernel
theorem dX12_copy_141 : decode cX12_copy 141 = .ok (.iinc 6 1, 3) := by decide +kernel
theorem dX12_copy_144 : decode cX12_copy 144 = .ok (.goto (-31), 3) := by decide +kernel
theorem dX12_copy_147 : decode cX12_copy 147 = .ok (.iconst 0, 1) := by decide +kernel
theorem dX12_copy_148 : decode cX12_copy 148 = .ok (.istore 6, 2) := by decide +kernel
theorem dX12_copy_150 : decode cX12_copy 150 = .ok (.iload 6, 2) := by decide +kernel
theorem dX12_copy_152 : decode cX12_copy 152 = .ok (.iload 5, 2) := by decide +kernel
theorem dX12_copy_154 : decode cX12_copy 154 = .ok (.if_icmp .ge 31, 3) := by decide +kernel
theorem dX12_copy_157 : decode cX12_copy 157 = .ok (.aload_n 0, 1) := by decide +kernel
theorem dX12_copy_158 : decode cX12_copy 158 = .ok (.getfield 25, 3) := by decide +kernel
theorem dX12_copy_161 : decode cX12_copy 161 = .ok (.bipush 24, 2) := by decide +kernel
theorem dX12_copy_163 : decode cX12_copy 163 = .ok (.iload_n 3, 1) := by decide +kernel
theorem dX12_copy_164 : decode cX12_copy 164 = .ok (.imul, 1) := by decide +kernel
theorem dX12_copy_165 : decode cX12_copy 165 = .ok (.iload 4, 2) := by decide +kernel
theorem dX12_copy_167 : decode cX12_copy 167 = .ok (.iadd, 1) := by decide +kernel
theorem dX12_copy_168 : decode cX12_copy 168 = .ok (.iload 6, 2) := by decide +kernel
theorem dX12_copy_170 : decode cX12_copy 170 = .ok (.iadd, 1) := by decide +kernel
theorem dX12_copy_171 : decode cX12_copy 171 = .ok (.aload_n 0, 1) := by decide +kernel
theorem dX12_copy_172 : decode cX12_copy 172 = .ok (.getfield 71, 3) := by decide +kernel
theorem dX12_copy_175 : decode cX12_copy 175 = .ok (.iload 6, 2) := by decide +kernel
theorem dX12_copy_177 : decode cX12_copy 177 = .ok (.iaload, 1) := by decide +kernel
theorem dX12_copy_178 : decode cX12_copy 178 = .ok (.iastore, 1) := by decide +kernel
theorem dX12_copy_179 : decode cX12_copy 179 = .ok (.iinc 6 1, 3) := by decide +kernel
theorem dX12_copy_182 : decode cX12_copy 182 = .ok (.goto (-32), 3) := by decide +kernel
theorem dX12_copy_185 : decode cX12_copy 185 = .ok (.iload 5, 2) := by decide +kernel
theorem dX12_copy_187 : decode cX12_copy 187 = .ok (.ireturn, 1) := by decide +kernel
theorem dX12_tell_0 : decode cX12_tell 0 = .ok (.aload_n 0, 1) := by decide +kernel
theorem dX12_tell_1 : decode cX12_tell 1 = .ok (.getfield 361, 3) := by decide +kernel
theorem dX12_tell_4 : decode cX12_tell 4 = .ok (.bipush 60, 2) := by decide +kernel
theorem dX12_tell_6 : decode cX12_tell 6 = .ok (.if_icmp .ne 6, 3) := by decide +kernel
theorem dX12_tell_9 : decode cX12_tell 9 = .ok (.ldc 149, 2) := by decide +kernel
theorem dX12_tell_11 : decode cX12_tell 11 = .ok (.ireturn, 1) := by decide +kernel
theorem dX12_tell_12 : decode cX12_tell 12 = .ok (.aload_n 0, 1) := by decide +kernel
theorem dX12_tell_13 : decode cX12_tell 13 = .ok (.getfield 74, 3) := by decide +kernel
theorem dX12_tell_16 : decode cX12_tell 16 = .ok (.aload_n 0, 1) := by decide +kernel
theorem dX12_tell_17 : decode cX12_tell 17 = .ok (.getfield 361, 3) := by decide +kernel
theorem dX12_tell_20 : decode cX12_tell 20 = .ok (.iload_n 1, 1) := by decide +kernel
theorem dX12_tell_21 : decode cX12_tell 21 = .ok (.iastore, 1) := by decide +kernel
theorem dX12_tell_22 : decode cX12_tell 22 = .ok (.aload_n 0, 1) := by decide +kernel
theorem dX12_tell_23 : decode cX12_tell 23 = .ok (.dup, 1) := by decide +kernel
theorem dX12_tell_24 : decode cX12_tell 24 = .ok (.getfield 361, 3) := by decide +kernel
theorem dX12_tell_27 : decode cX12_tell 27 = .ok (.iconst 1, 1) := by decide +kernel
theorem dX12_tell_28 : decode cX12_tell 28 = .ok (.iadd, 1) := by decide +kernel
theorem dX12_tell_29 : decode cX12_tell 29 = .ok (.putfield 361, 3) := by decide +kernel
theorem dX12_tell_32 : decode cX12_tell 32 = .ok (.aload_n 0, 1) := by decide +kernel
theorem dX12_tell_33 : decode cX12_tell 33 = .ok (.getfield 361, 3) := by decide +kernel
theorem dX12_tell_36 : decode cX12_tell 36 = .ok (.ireturn, 1) := by decide +kernel
theorem dX12_setAside_0 : decode cX12_setAside 0 = .ok (.iconst 0, 1) := by decide +kernel
theorem dX12_setAside_1 : decode cX12_setAside 1 = .ok (.istore_n 3, 1) := by decide +kernel
theorem dX12_setAside_2 : decode cX12_setAside 2 = .ok (.iload_n 3, 1) := by decide +kernel
theorem dX12_setAside_3 : decode cX12_setAside 3 = .ok (.sipush 5530, 3) := by decide +kernel
theorem dX12_setAside_6 : decode cX12_setAside 6 = .ok (.if_icmp .ge 15, 3) := by decide +kernel
theorem dX12_setAside_9 : decode cX12_setAside 9 = .ok (.aload_n 2, 1) := by decide +kernel
theorem dX12_setAside_10 : decode cX12_setAside 10 = .ok (.iload_n 3, 1) := by decide +kernel
theorem dX12_setAside_11 : decode cX12_setAside 11 = .ok (.aload_n 1, 1) := by decide +kernel
theorem dX12_setAside_12 : decode cX12_setAside 12 = .ok (.iload_n 3, 1) := by decide +kernel
theorem dX12_setAside_13 : decode cX12_setAside 13 = .ok (.iaload, 1) := by decide +kernel
theorem dX12_setAside_14 : decode cX12_setAside 14 = .ok (.iastore, 1) := by decide +kernel
theorem dX12_setAside_15 : decode cX12_setAside 15 = .ok (.iinc 3 1, 3) := by decide +kernel
theorem dX12_setAside_18 : decode cX12_setAside 18 = .ok (.goto (-16), 3) := by decide +kernel
theorem dX12_setAside_21 : decode cX12_setAside 21 = .ok (.return_, 1) := by decide +kernel
theorem dX12_check_0 : decode cX12_check 0 = .ok (.aload_n 0, 1) := by decide +kernel
theorem dX12_check_1 : decode cX12_check 1 = .ok (.getfield 361, 3) := by decide +kernel
theorem dX12_check_4 : decode cX12_check 4 = .ok (.istore_n 2, 1) := by decide +kernel
theorem dX12_check_5 : decode cX12_check 5 = .ok (.aload_n 0, 1) := by decide +kernel
theorem dX12_check_6 : decode cX12_check 6 = .ok (.iconst 0, 1) := by decide +kernel
theorem dX12_check_7 : decode cX12_check 7 = .ok (.putfield 361, 3) := by decide +kernel
theorem dX12_check_10 : decode cX12_check 10 = .ok (.iload_n 1, 1) := by decide +kernel
theorem dX12_check_11 : decode cX12_check 11 = .ok (.i2l, 1) := by decide +kernel
theorem dX12_check_12 : decode cX12_check 12 = .ok (.lconst 1, 1) := by decide +kernel
theorem dX12_check_13 : decode cX12_check 13 = .ok (.ldc2_w 364, 3) := by decide +kernel
theorem dX12_check_16 : decode cX12_check 16 = .ok (.invokestatic 89, 3) := by decide +kernel
theorem dX12_check_19 : decode cX12_check 19 = .ok (.ifCond .ne 6, 3) := by decide +kernel
theorem dX12_check_22 : decode cX12_check 22 = .ok (.ldc 100, 2) := by decide +kernel
theorem dX12_check_24 : decode cX12_check 24 = .ok (.ireturn, 1) := by decide +kernel
theorem dX12_check_25 : decode cX12_check 25 = .ok (.aload_n 0, 1) := by decide +kernel
theorem dX12_check_26 : decode cX12_check 26 = .ok (.getfield 366, 3) := by decide +kernel
theorem dX12_check_29 : decode cX12_check 29 = .ok (.ifCond .ne 6, 3) := by decide +kernel
theorem dX12_check_32 : decode cX12_check 32 = .ok (.ldc 101, 2) := by decide +kernel
theorem dX12_check_34 : decode cX12_check 34 = .ok (.ireturn, 1) := by decide +kernel
theorem dX12_check_35 : decode cX12_check 35 = .ok (.aload_n 0, 1) := by decide +kernel
theorem dX12_check_36 : decode cX12_check 36 = .ok (.aload_n 0, 1) := by decide +kernel
theorem dX12_check_37 : decode cX12_check 37 = .ok (.getfield 7, 3) := by decide +kernel
theorem dX12_check_40 : decode cX12_check 40 = .ok (.aload_n 0, 1) := by decide +kernel
theorem dX12_check_41 : decode cX12_check 41 = .ok (.getfield 16, 3) := by decide +kernel
theorem dX12_check_44 : decode cX12_check 44 = .ok (.invokevirtual 370, 3) := by decide +kernel
theorem dX12_check_47 : decode cX12_check 47 = .ok (.aload_n 0, 1) := by decide +kernel
theorem dX12_check_48 : decode cX12_check 48 = .ok (.aload_n 0, 1) := by decide +kernel
theorem dX12_check_49 : decode cX12_check 49 = .ok (.getfield 13, 3) := by decide +kernel
theorem dX12_check_52 : decode cX12_check 52 = .ok (.aload_n 0, 1) := by decide +kernel
theorem dX12_check_53 : decode cX12_check 53 = .ok (.getfield 7, 3) := by decide +kernel
theorem dX12_check_56 : decode cX12_check 56 = .ok (.invokevirtual 370, 3) := by decide +kernel
theorem dX12_check_59 : decode cX12_check 59 = .ok (.iconst 0, 1) := by decide +kernel
theorem dX12_check_60 : decode cX12_check 60 = .ok (.istore_n 3, 1) := by decide +kernel
theorem dX12_check_61 : decode cX12_check 61 = .ok (.iload_n 3, 1) := by decide +kernel
theorem dX12_check_62 : decode cX12_check 62 = .ok (.iload_n 1, 1) := by decide +kernel
theorem dX12_check_63 : decode cX12_check 63 = .ok (.if_icmp .ge 83, 3) := by decide +kernel
theorem dX12_check_66 : decode cX12_check 66 = .ok (.aload_n 0, 1) := by decide +kernel
theorem dX12_check_67 : decode cX12_check 67 = .ok (.invokevirtual 211, 3) := by decide +kernel
theorem dX12_check_70 : decode cX12_check 70 = .ok (.aload_n 0, 1) := by decide +kernel
theorem dX12_check_71 : decode cX12_check 71 = .ok (.getfield 77, 3) := by decide +kernel
theorem dX12_check_74 : decode cX12_check 74 = .ok (.iconst 2, 1) := by decide +kernel
theorem dX12_check_75 : decode cX12_check 75 = .ok (.iload_n 3, 1) := by decide +kernel
theorem dX12_check_76 : decode cX12_check 76 = .ok (.imul, 1) := by decide +kernel
theorem dX12_check_77 : decode cX12_check 77 = .ok (.iconst 0, 1) := by decide +kernel
theorem dX12_check_78 : decode cX12_check 78 = .ok (.iastore, 1) := by decide +kernel
theorem dX12_check_79 : decode cX12_check 79 = .ok (.aload_n 0, 1) := by decide +kernel
theorem dX12_check_80 : decode cX12_check 80 = .ok (.getfield 77, 3) := by decide +kernel
theorem dX12_check_83 : decode cX12_check 83 = .ok (.iconst 2, 1) := by decide +kernel
theorem dX12_check_84 : decode cX12_check 84 = .ok (.iload_n 3, 1) := by decide +kernel
theorem dX12_check_85 : decode cX12_check 85 = .ok (.imul, 1) := by decide +kernel
theorem dX12_check_86 : decode cX12_check 86 = .ok (.iconst 1, 1) := by decide +kernel
theorem dX12_check_87 : decode cX12_check 87 = .ok (.iadd, 1) := by decide +kernel
theorem dX12_check_88 : decode cX12_check 88 = .ok (.aload_n 0, 1) := by decide +kernel
theorem dX12_check_89 : decode cX12_check 89 = .ok (.getfield 7, 3) := by decide +kernel
theorem dX12_check_92 : decode cX12_check 92 = .ok (.bipush 9, 2) := by decide +kernel
theorem dX12_check_94 : decode cX12_check 94 = .ok (.iaload, 1) := by decide +kernel
theorem dX12_check_95 : decode cX12_check 95 = .ok (.iastore, 1) := by decide +kernel
theorem dX12_check_96 : decode cX12_check 96 = .ok (.iconst 0, 1) := by decide +kernel
theorem dX12_check_97 : decode cX12_check 97 = .ok (.istore 4, 2) := by decide +kernel
theorem dX12_check_99 : decode cX12_check 99 = .ok (.iload 4, 2) := by decide +kernel
theorem dX12_check_101 : decode cX12_check 101 = .ok (.aload_n 0, 1) := by decide +kernel
theorem dX12_check_102 : decode cX12_check 102 = .ok (.getfield 7, 3) := by decide +kernel
theorem dX12_check_105 : decode cX12_check 105 = .ok (.iconst 1, 1) := by decide +kernel
theorem dX12_check_106 : decode cX12_check 106 = .ok (.iaload, 1) := by decide +kernel
theorem dX12_check_107 : decode cX12_check 107 = .ok (.if_icmp .ge 33, 3) := by decide +kernel
theorem dX12_check_110 : decode cX12_check 110 = .ok (.aload_n 0, 1) := by decide +kernel
theorem dX12_check_111 : decode cX12_check 111 = .ok (.getfield 77, 3) := by decide +kernel
theorem dX12_check_114 : decode cX12_check 114 = .ok (.iconst 2, 1) := by decide +kernel
theorem dX12_check_115 : decode cX12_check 115 = .ok (.iload_n 3, 1) := by decide +kernel
theorem dX12_check_116 : decode cX12_check 116 = .ok (.imul, 1) := by decide +kernel
theorem dX12_check_117 : decode cX12_check 117 = .ok (.dup2, 1) := by decide +kernel
theorem dX12_check_118 : decode cX12_check 118 = .ok (.iaload, 1) := by decide +kernel
theorem dX12_check_119 : decode cX12_check 119 = .ok (.aload_n 0, 1) := by decide +kernel
theorem dX12_check_120 : decode cX12_check 120 = .ok (.getfield 7, 3) := by decide +kernel
theorem dX12_check_123 : decode cX12_check 123 = .ok (.aload_n 0, 1) := by decide +kernel
theorem dX12_check_124 : decode cX12_check 124 = .ok (.iload 4, 2) := by decide +kernel
theorem dX12_check_126 : decode cX12_check 126 = .ok (.invokevirtual 93, 3) := by decide +kernel
theorem dX12_check_129 : decode cX12_check 129 = .ok (.iconst 3, 1) := by decide +kernel
theorem dX12_check_130 : decode cX12_check 130 = .ok (.iadd, 1) := by decide +kernel
theorem dX12_check_131 : decode cX12_check 131 = .ok (.iaload, 1) := by decide +kernel
theorem dX12_check_132 : decode cX12_check 132 = .ok (.iadd, 1) := by decide +kernel
theorem dX12_check_133 : decode cX12_check 133 = .ok (.iastore, 1) := by decide +kernel
theorem dX12_check_134 : decode cX12_check 134 = .ok (.iinc 4 1, 3) := by decide +kernel
theorem dX12_check_137 : decode cX12_check 137 = .ok (.goto (-38), 3) := by decide +kernel
theorem dX12_check_140 : decode cX12_check 140 = .ok (.iinc 3 1, 3) := by decide +kernel
theorem dX12_check_143 : decode cX12_check 143 = .ok (.goto (-82), 3) := by decide +kernel
theorem dX12_check_146 : decode cX12_check 146 = .ok (.aload_n 0, 1) := by decide +kernel
theorem dX12_check_147 : decode cX12_check 147 = .ok (.aload_n 0, 1) := by decide +kernel
theorem dX12_check_148 : decode cX12_check 148 = .ok (.getfield 16, 3) := by decide +kernel
theorem dX12_check_151 : decode cX12_check 151 = .ok (.aload_n 0, 1) := by decide +kernel
theorem dX12_check_152 : decode cX12_check 152 = .ok (.getfield 7, 3) := by decide +kernel
theorem dX12_check_155 : decode cX12_check 155 = .ok (.invokevirtual 370, 3) := by decide +kernel
theorem dX12_check_158 : decode cX12_check 158 = .ok (.iconst 0, 1) := by decide +kernel
theorem dX12_check_159 : decode cX12_check 159 = .ok (.istore_n 3, 1) := by decide +kernel
theorem dX12_check_160 : decode cX12_check 160 = .ok (.iload_n 3, 1) := by decide +kernel
theorem dX12_check_161 : decode cX12_check 161 = .ok (.iload_n 2, 1) := by decide +kernel
theorem dX12_check_162 : decode cX12_check 162 = .ok (.if_icmp .ge 31, 3) := by decide +kernel
theorem dX12_check_165 : decode cX12_check 165 = .ok (.iload_n 3, 1) := by decide +kernel
theorem dX12_check_166 : decode cX12_check 166 = .ok (.iconst 2, 1) := by decide +kernel
theorem dX12_check_167 : decode cX12_check 167 = .ok (.iload_n 1, 1) := by decide +kernel
theorem dX12_check_168 : decode cX12_check 168 = .ok (.imul, 1) := by decide +kernel
theorem dX12_check_169 : decode cX12_check 169 = .ok (.if_icmp .ge 24, 3) := by decide +kernel
theorem dX12_check_172 : decode cX12_check 172 = .ok (.aload_n 0, 1) := by decide +kernel
theorem dX12_check_173 : decode cX12_check 173 = .ok (.getfield 74, 3) := by decide +kernel
theorem dX12_check_176 : decode cX12_check 176 = .ok (.iload_n 3, 1) := by decide +kernel
theorem dX12_check_177 : decode cX12_check 177 = .ok (.iaload, 1) := by decide +kernel
theorem dX12_check_178 : decode cX12_check 178 = .ok (.aload_n 0, 1) := by decide +kernel
theorem dX12_check_179 : decode cX12_check 179 = .ok (.getfield 77, 3) := by decide +kernel
theorem dX12_check_182 : decode cX12_check 182 = .ok (.iload_n 3, 1) := by decide +kernel
theorem dX12_check_183 : decode cX12_check 183 = .ok (.iaload, 1) := by decide +kernel
theorem dX12_check_184 : decode cX12_check 184 = .ok (.if_icmp .ne 9, 3) := by decide +kernel
theorem dX12_check_187 : decode cX12_check 187 = .ok (.iinc 3 1, 3) := by decide +kernel
theorem dX12_check_190 : decode cX12_check 190 = .ok (.goto (-30), 3) := by decide +kernel
theorem dX12_check_193 : decode cX12_check 193 = .ok (.iload_n 3, 1) := by decide +kernel
theorem dX12_check_194 : decode cX12_check 194 = .ok (.iload_n 2, 1) := by decide +kernel
theorem dX12_check_195 : decode cX12_check 195 = .ok (.if_icmp .ne 14, 3) := by decide +kernel
theorem dX12_check_198 : decode cX12_check 198 = .ok (.iload_n 3, 1) := by decide +kernel
theorem dX12_check_199 : decode cX12_check 199 = .ok (.iconst 2, 1) := by decide +kernel
theorem dX12_check_200 : decode cX12_check 200 = .ok (.iload_n 1, 1) := by decide +kernel
theorem dX12_check_201 : decode cX12_check 201 = .ok (.imul, 1) := by decide +kernel
theorem dX12_check_202 : decode cX12_check 202 = .ok (.if_icmp .ne 7, 3) := by decide +kernel
theorem dX12_check_205 : decode cX12_check 205 = .ok (.iconst 0, 1) := by decide +kernel
theorem dX12_check_206 : decode cX12_check 206 = .ok (.goto 6, 3) := by decide +kernel
theorem dX12_check_209 : decode cX12_check 209 = .ok (.iconst 1, 1) := by decide +kernel
theorem dX12_check_210 : decode cX12_check 210 = .ok (.iload_n 3, 1) := by decide +kernel
theorem dX12_check_211 : decode cX12_check 211 = .ok (.iadd, 1) := by decide +kernel
theorem dX12_check_212 : decode cX12_check 212 = .ok (.ireturn, 1) := by decide +kernel
theorem dX12_keep_0 : decode cX12_keep 0 = .ok (.aload_n 0, 1) := by decide +kernel
theorem dX12_keep_1 : decode cX12_keep 1 = .ok (.iconst 1, 1) := by decide +kernel
theorem dX12_keep_2 : decode cX12_keep 2 = .ok (.putfield 366, 3) := by decide +kernel
theorem dX12_keep_5 : decode cX12_keep 5 = .ok (.aload_n 0, 1) := by decide +kernel
theorem dX12_keep_6 : decode cX12_keep 6 = .ok (.aload_n 0, 1) := by decide +kernel
theorem dX12_keep_7 : decode cX12_keep 7 = .ok (.getfield 7, 3) := by decide +kernel
theorem dX12_keep_10 : decode cX12_keep 10 = .ok (.aload_n 0, 1) := by decide +kernel
theorem dX12_keep_11 : decode cX12_keep 11 = .ok (.getfield 13, 3) := by decide +kernel
theorem dX12_keep_14 : decode cX12_keep 14 = .ok (.invokevirtual 370, 3) := by decide +kernel
theorem dX12_keep_17 : decode cX12_keep 17 = .ok (.aload_n 0, 1) := by decide +kernel
theorem dX12_keep_18 : decode cX12_keep 18 = .ok (.getfield 7, 3) := by decide +kernel
theorem dX12_keep_21 : decode cX12_keep 21 = .ok (.bipush 8, 2) := by decide +kernel
theorem dX12_keep_23 : decode cX12_keep 23 = .ok (.iaload, 1) := by decide +kernel
theorem dX12_keep_24 : decode cX12_keep 24 = .ok (.ireturn, 1) := by decide +kernel
theorem dX12_back_0 : decode cX12_back 0 = .ok (.aload_n 0, 1) := by decide +kernel
theorem dX12_back_1 : decode cX12_back 1 = .ok (.getfield 366, 3) := by decide +kernel
theorem dX12_back_4 : decode cX12_back 4 = .ok (.ifCond .ne 6, 3) := by decide +kernel
theorem dX12_back_7 : decode cX12_back 7 = .ok (.ldc 101, 2) := by decide +kernel
theorem dX12_back_9 : decode cX12_back 9 = .ok (.ireturn, 1) := by decide +kernel
theorem dX12_back_10 : decode cX12_back 10 = .ok (.aload_n 0, 1) := by decide +kernel
theorem dX12_back_11 : decode cX12_back 11 = .ok (.aload_n 0, 1) := by decide +kernel
theorem dX12_back_12 : decode cX12_back 12 = .ok (.getfield 13, 3) := by decide +kernel
theorem dX12_back_15 : decode cX12_back 15 = .ok (.aload_n 0, 1) := by decide +kernel
theorem dX12_back_16 : decode cX12_back 16 = .ok (.getfield 7, 3) := by decide +kernel
theorem dX12_back_19 : decode cX12_back 19 = .ok (.invokevirtual 370, 3) := by decide +kernel
theorem dX12_back_22 : decode cX12_back 22 = .ok (.aload_n 0, 1) := by decide +kernel
theorem dX12_back_23 : decode cX12_back 23 = .ok (.getfield 7, 3) := by decide +kernel
theorem dX12_back_26 : decode cX12_back 26 = .ok (.bipush 8, 2) := by decide +kernel
theorem dX12_back_28 : decode cX12_back 28 = .ok (.iaload, 1) := by decide +kernel
theorem dX12_back_29 : decode cX12_back 29 = .ok (.ireturn, 1) := by decide +kernel
theorem dX12_count_0 : decode cX12_count 0 = .ok (.iconst 0, 1) := by decide +kernel
theorem dX12_count_1 : decode cX12_count 1 = .ok (.istore_n 2, 1) := by decide +kernel
theorem dX12_count_2 : decode cX12_count 2 = .ok (.iload_n 1, 1) := by decide +kernel
theorem dX12_count_3 : decode cX12_count 3 = .ok (.tableswitch 218 0 14 #[73, 80, 87, 87, 140, 147, 154, 161, 168, 176, 184, 192, 200, 205, 210], 73) := by decide +kernel
theorem dX12_count_76 : decode cX12_count 76 = .ok (.aload_n 0, 1) := by decide +kernel
theorem dX12_count_77 : decode cX12_count 77 = .ok (.getfield 7, 3) := by decide +kernel
theorem dX12_count_80 : decode cX12_count 80 = .ok (.iconst 0, 1) := by decide +kernel
theorem dX12_count_81 : decode cX12_count 81 = .ok (.iaload, 1) := by decide +kernel
theorem dX12_count_82 : decode cX12_count 82 = .ok (.ireturn, 1) := by decide +kernel
theorem dX12_count_83 : decode cX12_count 83 = .ok (.aload_n 0, 1) := by decide +kernel
theorem dX12_count_84 : decode cX12_count 84 = .ok (.getfield 7, 3) := by decide +kernel
theorem dX12_count_87 : decode cX12_count 87 = .ok (.iconst 1, 1) := by decide +kernel
theorem dX12_count_88 : decode cX12_count 88 = .ok (.iaload, 1) := by decide +kernel
theorem dX12_count_89 : decode cX12_count 89 = .ok (.ireturn, 1) := by decide +kernel
theorem dX12_count_90 : decode cX12_count 90 = .ok (.iconst 0, 1) := by decide +kernel
theorem dX12_count_91 : decode cX12_count 91 = .ok (.istore_n 3, 1) := by decide +kernel
theorem dX12_count_92 : decode cX12_count 92 = .ok (.iload_n 3, 1) := by decide +kernel
theorem dX12_count_93 : decode cX12_count 93 = .ok (.aload_n 0, 1) := by decide +kernel
theorem dX12_count_94 : decode cX12_count 94 = .ok (.getfield 7, 3) := by decide +kernel
theorem dX12_count_97 : decode cX12_count 97 = .ok (.iconst 1, 1) := by decide +kernel
theorem dX12_count_98 : decode cX12_count 98 = .ok (.iaload, 1) := by decide +kernel
theorem dX12_count_99 : decode cX12_count 99 = .ok (.if_icmp .ge 42, 3) := by decide +kernel
theorem dX12_count_102 : decode cX12_count 102 = .ok (.iload_n 2, 1) := by decide +kernel
theorem dX12_count_103 : decode cX12_count 103 = .ok (.iload_n 1, 1) := by decide +kernel
theorem dX12_count_104 : decode cX12_count 104 = .ok (.iconst 2, 1) := by decide +kernel
theorem dX12_count_105 : decode cX12_count 105 = .ok (.if_icmp .ne 14, 3) := by decide +kernel
theorem dX12_count_108 : decode cX12_count 108 = .ok (.aload_n 0, 1) := by decide +kernel
theorem dX12_count_109 : decode cX12_count 109 = .ok (.iload_n 3, 1) := by decide +kernel
theorem dX12_count_110 : decode cX12_count 110 = .ok (.invokevirtual 187, 3) := by decide +kernel
theorem dX12_count_113 : decode cX12_count 113 = .ok (.ifCond .eq 19, 3) := by decide +kernel
theorem dX12_count_116 : decode cX12_count 116 = .ok (.goto 12, 3) := by decide +kernel
theorem dX12_count_119 : decode cX12_count 119 = .ok (.aload_n 0, 1) := by decide +kernel
theorem dX12_count_120 : decode cX12_count 120 = .ok (.iload_n 3, 1) := by decide +kernel
theorem dX12_count_121 : decode cX12_count 121 = .ok (.invokevirtual 114, 3) := by decide +kernel
theorem dX12_count_124 : decode cX12_count 124 = .ok (.iconst 5, 1) := by decide +kernel
theorem dX12_count_125 : decode cX12_count 125 = .ok (.if_icmp .ne 7, 3) := by decide +kernel
theorem dX12_count_128 : decode cX12_count 128 = .ok (.iconst 1, 1) := by decide +kernel
theorem dX12_count_129 : decode cX12_count 129 = .ok (.goto 4, 3) := by decide +kernel
theorem dX12_count_132 : decode cX12_count 132 = .ok (.iconst 0, 1) := by decide +kernel
theorem dX12_count_133 : decode cX12_count 133 = .ok (.iadd, 1) := by decide +kernel
theorem dX12_count_134 : decode cX12_count 134 = .ok (.istore_n 2, 1) := by decide +kernel
theorem dX12_count_135 : decode cX12_count 135 = .ok (.iinc 3 1, 3) := by decide +kernel
theorem dX12_count_138 : decode cX12_count 138 = .ok (.goto (-46), 3) := by decide +kernel
theorem dX12_count_141 : decode cX12_count 141 = .ok (.iload_n 2, 1) := by decide +kernel
theorem dX12_count_142 : decode cX12_count 142 = .ok (.ireturn, 1) := by decide +kernel
theorem dX12_count_143 : decode cX12_count 143 = .ok (.aload_n 0, 1) := by decide +kernel
theorem dX12_count_144 : decode cX12_count 144 = .ok (.getfield 7, 3) := by decide +kernel
theorem dX12_count_147 : decode cX12_count 147 = .ok (.iconst 2, 1) := by decide +kernel
theorem dX12_count_148 : decode cX12_count 148 = .ok (.iaload, 1) := by decide +kernel
theorem dX12_count_149 : decode cX12_count 149 = .ok (.ireturn, 1) := by decide +kernel
theorem dX12_count_150 : decode cX12_count 150 = .ok (.aload_n 0, 1) := by decide +kernel
theorem dX12_count_151 : decode cX12_count 151 = .ok (.getfield 7, 3) := by decide +kernel
theorem dX12_count_154 : decode cX12_count 154 = .ok (.iconst 3, 1) := by decide +kernel
theorem dX12_count_155 : decode cX12_count 155 = .ok (.iaload, 1) := by decide +kernel
theorem dX12_count_156 : decode cX12_count 156 = .ok (.ireturn, 1) := by decide +kernel
theorem dX12_count_157 : decode cX12_count 157 = .ok (.aload_n 0, 1) := by decide +kernel
theorem dX12_count_158 : decode cX12_count 158 = .ok (.getfield 7, 3) := by decide +kernel
theorem dX12_count_161 : decode cX12_count 161 = .ok (.iconst 4, 1) := by decide +kernel
theorem dX12_count_162 : decode cX12_count 162 = .ok (.iaload, 1) := by decide +kernel
theorem dX12_count_163 : decode cX12_count 163 = .ok (.ireturn, 1) := by decide +kernel
theorem dX12_count_164 : decode cX12_count 164 = .ok (.aload_n 0, 1) := by decide +kernel
theorem dX12_count_165 : decode cX12_count 165 = .ok (.getfield 7, 3) := by decide +kernel
theorem dX12_count_168 : decode cX12_count 168 = .ok (.iconst 5, 1) := by decide +kernel
theorem dX12_count_169 : decode cX12_count 169 = .ok (.iaload, 1) := by decide +kernel
theorem dX12_count_170 : decode cX12_count 170 = .ok (.ireturn, 1) := by decide +kernel
theorem dX12_count_171 : decode cX12_count 171 = .ok (.aload_n 0, 1) := by decide +kernel
theorem dX12_count_172 : decode cX12_count 172 = .ok (.getfield 7, 3) := by decide +kernel
theorem dX12_count_175 : decode cX12_count 175 = .ok (.bipush 6, 2) := by decide +kernel
theorem dX12_count_177 : decode cX12_count 177 = .ok (.iaload, 1) := by decide +kernel
theorem dX12_count_178 : decode cX12_count 178 = .ok (.ireturn, 1) := by decide +kernel
theorem dX12_count_179 : decode cX12_count 179 = .ok (.aload_n 0, 1) := by decide +kernel
theorem dX12_count_180 : decode cX12_count 180 = .ok (.getfield 7, 3) := by decide +kernel
theorem dX12_count_183 : decode cX12_count 183 = .ok (.bipush 7, 2) := by decide +kernel
theorem dX12_count_185 : decode cX12_count 185 = .ok (.iaload, 1) := by decide +kernel
theorem dX12_count_186 : decode cX12_count 186 = .ok (.ireturn, 1) := by decide +kernel
theorem dX12_count_187 : decode cX12_count 187 = .ok (.aload_n 0, 1) := by decide +kernel
theorem dX12_count_188 : decode cX12_count 188 = .ok (.getfield 7, 3) := by decide +kernel
theorem dX12_count_191 : decode cX12_count 191 = .ok (.bipush 9, 2) := by decide +kernel
theorem dX12_count_193 : decode cX12_count 193 = .ok (.iaload, 1) := by decide +kernel
theorem dX12_count_194 : decode cX12_count 194 = .ok (.ireturn, 1) := by decide +kernel
theorem dX12_count_195 : decode cX12_count 195 = .ok (.aload_n 0, 1) := by decide +kernel
theorem dX12_count_196 : decode cX12_count 196 = .ok (.getfield 7, 3) := by decide +kernel
theorem dX12_count_199 : decode cX12_count 199 = .ok (.bipush 10, 2) := by decide +kernel
theorem dX12_count_201 : decode cX12_count 201 = .ok (.iaload, 1) := by decide +kernel
theorem dX12_count_202 : decode cX12_count 202 = .ok (.ireturn, 1) := by decide +kernel
theorem dX12_count_203 : decode cX12_count 203 = .ok (.aload_n 0, 1) := by decide +kernel
theorem dX12_count_204 : decode cX12_count 204 = .ok (.getfield 361, 3) := by decide +kernel
theorem dX12_count_207 : decode cX12_count 207 = .ok (.ireturn, 1) := by decide +kernel
theorem dX12_count_208 : decode cX12_count 208 = .ok (.aload_n 0, 1) := by decide +kernel
theorem dX12_count_209 : decode cX12_count 209 = .ok (.getfield 214, 3) := by decide +kernel
theorem dX12_count_212 : decode cX12_count 212 = .ok (.ireturn, 1) := by decide +kernel
theorem dX12_count_213 : decode cX12_count 213 = .ok (.aload_n 0, 1) := by decide +kernel
theorem dX12_count_214 : decode cX12_count 214 = .ok (.getfield 7, 3) := by decide +kernel
theorem dX12_count_217 : decode cX12_count 217 = .ok (.bipush 8, 2) := by decide +kernel
theorem dX12_count_219 : decode cX12_count 219 = .ok (.iaload, 1) := by decide +kernel
theorem dX12_count_220 : decode cX12_count 220 = .ok (.ireturn, 1) := by decide +kernel
theorem dX12_count_221 : decode cX12_count 221 = .ok (.ldc 100, 2) := by decide +kernel
theorem dX12_count_223 : decode cX12_count 223 = .ok (.ireturn, 1) := by decide +kernel
