theorem dX10_labour_3 : decode cX10_labour 3 = .ok (.aload_n 0, 1) := by decide +kernel
theorem dX10_labour_4 : decode cX10_labour 4 = .ok (.getfield 36, 3) := by decide +kernel
theorem dX10_labour_7 : decode cX10_labour 7 = .ok (.if_icmp .ge 89, 3) := by decide +kernel
theorem dX10_labour_10 : decode cX10_labour 10 = .ok (.aload_n 0, 1) := by decide +kernel
theorem dX10_labour_11 : decode cX10_labour 11 = .ok (.aload_n 0, 1) := by decide +kernel
theorem dX10_labour_12 : decode cX10_labour 12 = .ok (.getfield 21, 3) := by decide +kernel
theorem dX10_labour_15 : decode cX10_labour 15 = .ok (.iload_n 3, 1) := by decide +kernel
theorem dX10_labour_16 : decode cX10_labour 16 = .ok (.iaload, 1) := by decide +kernel
theorem dX10_labour_17 : decode cX10_labour 17 = .ok (.invokevirtual 71, 3) := by decide +kernel
theorem dX10_labour_20 : decode cX10_labour 20 = .ok (.astore 4, 2) := by decide +kernel
theorem dX10_labour_22 : decode cX10_labour 22 = .ok (.aload 4, 2) := by decide +kernel
theorem dX10_labour_24 : decode cX10_labour 24 = .ok (.ifnull 66, 3) := by decide +kernel
theorem dX10_labour_27 : decode cX10_labour 27 = .ok (.aload 4, 2) := by decide +kernel
theorem dX10_labour_29 : decode cX10_labour 29 = .ok (.getfield 75, 3) := by decide +kernel
theorem dX10_labour_32 : decode cX10_labour 32 = .ok (.aload_n 0, 1) := by decide +kernel
theorem dX10_labour_33 : decode cX10_labour 33 = .ok (.invokevirtual 78, 3) := by decide +kernel
theorem dX10_labour_36 : decode cX10_labour 36 = .ok (.iconst (-1), 1) := by decide +kernel
theorem dX10_labour_37 : decode cX10_labour 37 = .ok (.ixor, 1) := by decide +kernel
theorem dX10_labour_38 : decode cX10_labour 38 = .ok (.iand, 1) := by decide +kernel
theorem dX10_labour_39 : decode cX10_labour 39 = .ok (.ifCond .ne 51, 3) := by decide +kernel
theorem dX10_labour_42 : decode cX10_labour 42 = .ok (.aload 4, 2) := by decide +kernel
theorem dX10_labour_44 : decode cX10_labour 44 = .ok (.aload_n 1, 1) := by decide +kernel
theorem dX10_labour_45 : decode cX10_labour 45 = .ok (.aload 4, 2) := by decide +kernel
theorem dX10_labour_47 : decode cX10_labour 47 = .ok (.getfield 55, 3) := by decide +kernel
theorem dX10_labour_50 : decode cX10_labour 50 = .ok (.invokevirtual 82, 3) := by decide +kernel
theorem dX10_labour_53 : decode cX10_labour 53 = .ok (.iload_n 2, 1) := by decide +kernel
theorem dX10_labour_54 : decode cX10_labour 54 = .ok (.invokevirtual 88, 3) := by decide +kernel
theorem dX10_labour_57 : decode cX10_labour 57 = .ok (.istore 5, 2) := by decide +kernel
theorem dX10_labour_59 : decode cX10_labour 59 = .ok (.aload 4, 2) := by decide +kernel
theorem dX10_labour_61 : decode cX10_labour 61 = .ok (.aload 4, 2) := by decide +kernel
theorem dX10_labour_63 : decode cX10_labour 63 = .ok (.getfield 92, 3) := by decide +kernel
theorem dX10_labour_66 : decode cX10_labour 66 = .ok (.aload 4, 2) := by decide +kernel
theorem dX10_labour_68 : decode cX10_labour 68 = .ok (.getfield 64, 3) := by decide +kernel
theorem dX10_labour_71 : decode cX10_labour 71 = .ok (.aload_n 0, 1) := by decide +kernel
theorem dX10_labour_72 : decode cX10_labour 72 = .ok (.getfield 17, 3) := by decide +kernel
theorem dX10_labour_75 : decode cX10_labour 75 = .ok (.iload_n 3, 1) := by decide +kernel
theorem dX10_labour_76 : decode cX10_labour 76 = .ok (.iaload, 1) := by decide +kernel
theorem dX10_labour_77 : decode cX10_labour 77 = .ok (.iload 5, 2) := by decide +kernel
theorem dX10_labour_79 : decode cX10_labour 79 = .ok (.imul, 1) := by decide +kernel
theorem dX10_labour_80 : decode cX10_labour 80 = .ok (.bipush 10, 2) := by decide +kernel
theorem dX10_labour_82 : decode cX10_labour 82 = .ok (.idiv, 1) := by decide +kernel
theorem dX10_labour_83 : decode cX10_labour 83 = .ok (.iadd, 1) := by decide +kernel
theorem dX10_labour_84 : decode cX10_labour 84 = .ok (.invokestatic 95, 3) := by decide +kernel
theorem dX10_labour_87 : decode cX10_labour 87 = .ok (.putfield 64, 3) := by decide +kernel
theorem dX10_labour_90 : decode cX10_labour 90 = .ok (.iinc 3 1, 3) := by decide +kernel
theorem dX10_labour_93 : decode cX10_labour 93 = .ok (.goto (-91), 3) := by decide +kernel
theorem dX10_labour_96 : decode cX10_labour 96 = .ok (.return_, 1) := by decide +kernel
theorem dX10_slipWhereSteep_0 : decode cX10_slipWhereSteep 0 = .ok (.aload_n 0, 1) := by decide +kernel
theorem dX10_slipWhereSteep_1 : decode cX10_slipWhereSteep 1 = .ok (.iconst 1, 1) := by decide +kernel
theorem dX10_slipWhereSteep_2 : decode cX10_slipWhereSteep 2 = .ok (.iconst 1, 1) := by decide +kernel
theorem dX10_slipWhereSteep_3 : decode cX10_slipWhereSteep 3 = .ok (.invokevirtual 100, 3) := by decide +kernel
theorem dX10_slipWhereSteep_6 : decode cX10_slipWhereSteep 6 = .ok (.aload_n 0, 1) := by decide +kernel
theorem dX10_slipWhereSteep_7 : decode cX10_slipWhereSteep 7 = .ok (.iconst 5, 1) := by decide +kernel
theorem dX10_slipWhereSteep_8 : decode cX10_slipWhereSteep 8 = .ok (.iconst 0, 1) := by decide +kernel
theorem dX10_slipWhereSteep_9 : decode cX10_slipWhereSteep 9 = .ok (.invokevirtual 100, 3) := by decide +kernel
theorem dX10_slipWhereSteep_12 : decode cX10_slipWhereSteep 12 = .ok (.iconst (-1), 1) := by decide +kernel
theorem dX10_slipWhereSteep_13 : decode cX10_slipWhereSteep 13 = .ok (.ixor, 1) := by decide +kernel
theorem dX10_slipWhereSteep_14 : decode cX10_slipWhereSteep 14 = .ok (.iand, 1) := by decide +kernel
theorem dX10_slipWhereSteep_15 : decode cX10_slipWhereSteep 15 = .ok (.aload_n 1, 1) := by decide +kernel
theorem dX10_slipWhereSteep_16 : decode cX10_slipWhereSteep 16 = .ok (.invokevirtual 103, 3) := by decide +kernel
theorem dX10_slipWhereSteep_19 : decode cX10_slipWhereSteep 19 = .ok (.iand, 1) := by decide +kernel
theorem dX10_slipWhereSteep_20 : decode cX10_slipWhereSteep 20 = .ok (.istore_n 3, 1) := by decide +kernel
theorem dX10_slipWhereSteep_21 : decode cX10_slipWhereSteep 21 = .ok (.iconst 0, 1) := by decide +kernel
theorem dX10_slipWhereSteep_22 : decode cX10_slipWhereSteep 22 = .ok (.istore 4, 2) := by decide +kernel
theorem dX10_slipWhereSteep_24 : decode cX10_slipWhereSteep 24 = .ok (.iload 4, 2) := by decide +kernel
theorem dX10_slipWhereSteep_26 : decode cX10_slipWhereSteep 26 = .ok (.aload_n 1, 1) := by decide +kernel
theorem dX10_slipWhereSteep_27 : decode cX10_slipWhereSteep 27 = .ok (.getfield 106, 3) := by decide +kernel
theorem dX10_slipWhereSteep_30 : decode cX10_slipWhereSteep 30 = .ok (.if_icmp .ge 42, 3) := by decide +kernel
theorem dX10_slipWhereSteep_33 : decode cX10_slipWhereSteep 33 = .ok (.iload_n 3, 1) := by decide +kernel
theorem dX10_slipWhereSteep_34 : decode cX10_slipWhereSteep 34 = .ok (.iload 4, 2) := by decide +kernel
theorem dX10_slipWhereSteep_36 : decode cX10_slipWhereSteep 36 = .ok (.invokestatic 107, 3) := by decide +kernel
theorem dX10_slipWhereSteep_39 : decode cX10_slipWhereSteep 39 = .ok (.ifCond .eq 27, 3) := by decide +kernel
theorem dX10_slipWhereSteep_42 : decode cX10_slipWhereSteep 42 = .ok (.aload_n 1, 1) := by decide +kernel
theorem dX10_slipWhereSteep_43 : decode cX10_slipWhereSteep 43 = .ok (.iload 4, 2) := by decide +kernel
theorem dX10_slipWhereSteep_45 : decode cX10_slipWhereSteep 45 = .ok (.iload_n 2, 1) := by decide +kernel
theorem dX10_slipWhereSteep_46 : decode cX10_slipWhereSteep 46 = .ok (.invokevirtual 111, 3) := by decide +kernel
theorem dX10_slipWhereSteep_49 : decode cX10_slipWhereSteep 49 = .ok (.ifCond .eq 17, 3) := by decide +kernel
theorem dX10_slipWhereSteep_52 : decode cX10_slipWhereSteep 52 = .ok (.aload_n 0, 1) := by decide +kernel
theorem dX10_slipWhereSteep_53 : decode cX10_slipWhereSteep 53 = .ok (.iconst 5, 1) := by decide +kernel
theorem dX10_slipWhereSteep_54 : decode cX10_slipWhereSteep 54 = .ok (.iload 4, 2) := by decide +kernel
theorem dX10_slipWhereSteep_56 : decode cX10_slipWhereSteep 56 = .ok (.aload_n 1, 1) := by decide +kernel
theorem dX10_slipWhereSteep_57 : decode cX10_slipWhereSteep 57 = .ok (.iload 4, 2) := by decide +kernel
theorem dX10_slipWhereSteep_59 : decode cX10_slipWhereSteep 59 = .ok (.invokevirtual 114, 3) := by decide +kernel
theorem dX10_slipWhereSteep_62 : decode cX10_slipWhereSteep 62 = .ok (.invokevirtual 117, 3) := by decide +kernel
theorem dX10_slipWhereSteep_65 : decode cX10_slipWhereSteep 65 = .ok (.pop, 1) := by decide +kernel
theorem dX10_slipWhereSteep_66 : decode cX10_slipWhereSteep 66 = .ok (.iinc 4 1, 3) := by decide +kernel
theorem dX10_slipWhereSteep_69 : decode cX10_slipWhereSteep 69 = .ok (.goto (-45), 3) := by decide +kernel
theorem dX10_slipWhereSteep_72 : decode cX10_slipWhereSteep 72 = .ok (.return_, 1) := by decide +kernel
theorem dX10_endOf_0 : decode cX10_endOf 0 = .ok (.aload_n 0, 1) := by decide +kernel
theorem dX10_endOf_1 : decode cX10_endOf 1 = .ok (.invokevirtual 121, 3) := by decide +kernel
theorem dX10_endOf_4 : decode cX10_endOf 4 = .ok (.iload_n 1, 1) := by decide +kernel
theorem dX10_endOf_5 : decode cX10_endOf 5 = .ok (.iconst 0, 1) := by decide +kernel
theorem dX10_endOf_6 : decode cX10_endOf 6 = .ok (.aload_n 0, 1) := by decide +kernel
theorem dX10_endOf_7 : decode cX10_endOf 7 = .ok (.getfield 28, 3) := by decide +kernel
theorem dX10_endOf_10 : decode cX10_endOf 10 = .ok (.iconst 1, 1) := by decide +kernel
theorem dX10_endOf_11 : decode cX10_endOf 11 = .ok (.isub, 1) := by decide +kernel
theorem dX10_endOf_12 : decode cX10_endOf 12 = .ok (.invokestatic 45, 3) := by decide +kernel
theorem dX10_endOf_15 : decode cX10_endOf 15 = .ok (.ifCond .eq 12, 3) := by decide +kernel
theorem dX10_endOf_18 : decode cX10_endOf 18 = .ok (.aload_n 0, 1) := by decide +kernel
theorem dX10_endOf_19 : decode cX10_endOf 19 = .ok (.getfield 24, 3) := by decide +kernel
theorem dX10_endOf_22 : decode cX10_endOf 22 = .ok (.iload_n 1, 1) := by decide +kernel
theorem dX10_endOf_23 : decode cX10_endOf 23 = .ok (.iaload, 1) := by decide +kernel
theorem dX10_endOf_24 : decode cX10_endOf 24 = .ok (.goto 5, 3) := by decide +kernel
theorem dX10_endOf_27 : decode cX10_endOf 27 = .ok (.ldc 54, 2) := by decide +kernel
theorem dX10_endOf_29 : decode cX10_endOf 29 = .ok (.ireturn, 1) := by decide +kernel
theorem dX10_findEnds_0 : decode cX10_findEnds 0 = .ok (.aload_n 0, 1) := by decide +kernel
theorem dX10_findEnds_1 : decode cX10_findEnds 1 = .ok (.getfield 24, 3) := by decide +kernel
theorem dX10_findEnds_4 : decode cX10_findEnds 4 = .ok (.ldc 54, 2) := by decide +kernel
theorem dX10_findEnds_6 : decode cX10_findEnds 6 = .ok (.invokestatic 124, 3) := by decide +kernel
theorem dX10_findEnds_9 : decode cX10_findEnds 9 = .ok (.iconst 0, 1) := by decide +kernel
theorem dX10_findEnds_10 : decode cX10_findEnds 10 = .ok (.istore_n 1, 1) := by decide +kernel
theorem dX10_findEnds_11 : decode cX10_findEnds 11 = .ok (.iconst 0, 1) := by decide +kernel
theorem dX10_findEnds_12 : decode cX10_findEnds 12 = .ok (.istore_n 2, 1) := by decide +kernel
theorem dX10_findEnds_13 : decode cX10_findEnds 13 = .ok (.iload_n 2, 1) := by decide +kernel
theorem dX10_findEnds_14 : decode cX10_findEnds 14 = .ok (.aload_n 0, 1) := by decide +kernel
theorem dX10_findEnds_15 : decode cX10_findEnds 15 = .ok (.getfield 28, 3) := by decide +kernel
theorem dX10_findEnds_18 : decode cX10_findEnds 18 = .ok (.if_icmp .ge 104, 3) := by decide +kernel
theorem dX10_findEnds_21 : decode cX10_findEnds 21 = .ok (.iconst 0, 1) := by decide +kernel
theorem dX10_findEnds_22 : decode cX10_findEnds 22 = .ok (.istore_n 3, 1) := by decide +kernel
theorem dX10_findEnds_23 : decode cX10_findEnds 23 = .ok (.iload_n 3, 1) := by decide +kernel
theorem dX10_findEnds_24 : decode cX10_findEnds 24 = .ok (.aload_n 0, 1) := by decide +kernel
theorem dX10_findEnds_25 : decode cX10_findEnds 25 = .ok (.getfield 28, 3) := by decide +kernel
theorem dX10_findEnds_28 : decode cX10_findEnds 28 = .ok (.if_icmp .ge 88, 3) := by decide +kernel
theorem dX10_findEnds_31 : decode cX10_findEnds 31 = .ok (.iload_n 1, 1) := by decide +kernel
theorem dX10_findEnds_32 : decode cX10_findEnds 32 = .ok (.iload_n 3, 1) := by decide +kernel
theorem dX10_findEnds_33 : decode cX10_findEnds 33 = .ok (.invokestatic 107, 3) := by decide +kernel
theorem dX10_findEnds_36 : decode cX10_findEnds 36 = .ok (.ifCond .ne 74, 3) := by decide +kernel
theorem dX10_findEnds_39 : decode cX10_findEnds 39 = .ok (.aload_n 0, 1) := by decide +kernel
theorem dX10_findEnds_40 : decode cX10_findEnds 40 = .ok (.getfield 13, 3) := by decide +kernel
theorem dX10_findEnds_43 : decode cX10_findEnds 43 = .ok (.iload_n 3, 1) := by decide +kernel
theorem dX10_findEnds_44 : decode cX10_findEnds 44 = .ok (.aaload, 1) := by decide +kernel
theorem dX10_findEnds_45 : decode cX10_findEnds 45 = .ok (.getfield 75, 3) := by decide +kernel
theorem dX10_findEnds_48 : decode cX10_findEnds 48 = .ok (.iload_n 1, 1) := by decide +kernel
theorem dX10_findEnds_49 : decode cX10_findEnds 49 = .ok (.iconst (-1), 1) := by decide +kernel
theorem dX10_findEnds_50 : decode cX10_findEnds 50 = .ok (.ixor, 1) := by decide +kernel
theorem dX10_findEnds_51 : decode cX10_findEnds 51 = .ok (.iand, 1) := by decide +kernel
theorem dX10_findEnds_52 : decode cX10_findEnds 52 = .ok (.ifCond .ne 58, 3) := by decide +kernel
theorem dX10_findEnds_55 : decode cX10_findEnds 55 = .ok (.aload_n 0, 1) := by decide +kernel
theorem dX10_findEnds_56 : decode cX10_findEnds 56 = .ok (.aload_n 0, 1) := by decide +kernel
theorem dX10_findEnds_57 : decode cX10_findEnds 57 = .ok (.getfield 13, 3) := by decide +kernel
theorem dX10_findEnds_60 : decode cX10_findEnds 60 = .ok (.iload_n 3, 1) := by decide +kernel
theorem dX10_findEnds_61 : decode cX10_findEnds 61 = .ok (.aaload, 1) := by decide +kernel
theorem dX10_findEnds_62 : decode cX10_findEnds 62 = .ok (.getfield 75, 3) := by decide +kernel
theorem dX10_findEnds_65 : decode cX10_findEnds 65 = .ok (.invokevirtual 130, 3) := by decide +kernel
theorem dX10_findEnds_68 : decode cX10_findEnds 68 = .ok (.istore 4, 2) := by decide +kernel
theorem dX10_findEnds_70 : decode cX10_findEnds 70 = .ok (.aload_n 0, 1) := by decide +kernel
theorem dX10_findEnds_71 : decode cX10_findEnds 71 = .ok (.getfield 24, 3) := by decide +kernel
theorem dX10_findEnds_74 : decode cX10_findEnds 74 = .ok (.iload_n 3, 1) := by decide +kernel
theorem dX10_findEnds_75 : decode cX10_findEnds 75 = .ok (.aload_n 0, 1) := by decide +kernel
theorem dX10_findEnds_76 : decode cX10_findEnds 76 = .ok (.getfield 13, 3) := by decide +kernel
theorem dX10_findEnds_79 : decode cX10_findEnds 79 = .ok (.iload_n 3, 1) := by decide +kernel
theorem dX10_findEnds_80 : decode cX10_findEnds 80 = .ok (.aaload, 1) := by decide +kernel
theorem dX10_findEnds_81 : decode cX10_findEnds 81 = .ok (.getfield 133, 3) := by decide +kernel
theorem dX10_findEnds_84 : decode cX10_findEnds 84 = .ok (.iload 4, 2) := by decide +kernel
theorem dX10_findEnds_86 : decode cX10_findEnds 86 = .ok (.ldc 54, 2) := by decide +kernel
theorem dX10_findEnds_88 : decode cX10_findEnds 88 = .ok (.if_icmp .ne 7, 3) := by decide +kernel
theorem dX10_findEnds_91 : decode cX10_findEnds 91 = .ok (.iconst 0, 1) := by decide +kernel
theorem dX10_findEnds_92 : decode cX10_findEnds 92 = .ok (.goto 10, 3) := by decide +kernel
theorem dX10_findEnds_95 : decode cX10_findEnds 95 = .ok (.aload_n 0, 1) := by decide +kernel
theorem dX10_findEnds_96 : decode cX10_findEnds 96 = .ok (.getfield 24, 3) := by decide +kernel
theorem dX10_findEnds_99 : decode cX10_findEnds 99 = .ok (.iload 4, 2) := by decide +kernel
theorem dX10_findEnds_101 : decode cX10_findEnds 101 = .ok (.iaload, 1) := by decide +kernel
theorem dX10_findEnds_102 : decode cX10_findEnds 102 = .ok (.iadd, 1) := by decide +kernel
theorem dX10_findEnds_103 : decode cX10_findEnds 103 = .ok (.iastore, 1) := by decide +kernel
theorem dX10_findEnds_104 : decode cX10_findEnds 104 = .ok (.iload_n 1, 1) := by decide +kernel
theorem dX10_findEnds_105 : decode cX10_findEnds 105 = .ok (.iconst 1, 1) := by decide +kernel
theorem dX10_findEnds_106 : decode cX10_findEnds 106 = .ok (.iload_n 3, 1) := by decide +kernel
theorem dX10_findEnds_107 : decode cX10_findEnds 107 = .ok (.ishl, 1) := by decide +kernel
theorem dX10_findEnds_108 : decode cX10_findEnds 108 = .ok (.ior, 1) := by decide +kernel
theorem dX10_findEnds_109 : decode cX10_findEnds 109 = .ok (.istore_n 1, 1) := by decide +kernel
theorem dX10_findEnds_110 : decode cX10_findEnds 110 = .ok (.iinc 3 1, 3) := by decide +kernel
theorem dX10_findEnds_113 : decode cX10_findEnds 113 = .ok (.goto (-90), 3) := by decide +kernel
theorem dX10_findEnds_116 : decode cX10_findEnds 116 = .ok (.iinc 2 1, 3) := by decide +kernel
theorem dX10_findEnds_119 : decode cX10_findEnds 119 = .ok (.goto (-106), 3) := by decide +kernel
theorem dX10_findEnds_122 : decode cX10_findEnds 122 = .ok (.return_, 1) := by decide +kernel
theorem dX10_latestOf_0 : decode cX10_latestOf 0 = .ok (.ldc 54, 2) := by decide +kernel
theorem dX10_latestOf_2 : decode cX10_latestOf 2 = .ok (.istore_n 2, 1) := by decide +kernel
theorem dX10_latestOf_3 : decode cX10_latestOf 3 = .ok (.iconst 0, 1) := by decide +kernel
theorem dX10_latestOf_4 : decode cX10_latestOf 4 = .ok (.istore_n 3, 1) := by decide +kernel
theorem dX10_latestOf_5 : decode cX10_latestOf 5 = .ok (.iload_n 3, 1) := by decide +kernel
theorem dX10_latestOf_6 : decode cX10_latestOf 6 = .ok (.aload_n 0, 1) := by decide +kernel
theorem dX10_latestOf_7 : decode cX10_latestOf 7 = .ok (.getfield 28, 3) := by decide +kernel
theorem dX10_latestOf_10 : decode cX10_latestOf 10 = .ok (.if_icmp .ge 40, 3) := by decide +kernel
theorem dX10_latestOf_13 : decode cX10_latestOf 13 = .ok (.iload_n 1, 1) := by decide +kernel
theorem dX10_latestOf_14 : decode cX10_latestOf 14 = .ok (.iload_n 3, 1) := by decide +kernel
theorem dX10_latestOf_15 : decode cX10_latestOf 15 = .ok (.invokestatic 107, 3) := by decide +kernel
theorem dX10_latestOf_18 : decode cX10_latestOf 18 = .ok (.ifCond .eq 26, 3) := by decide +kernel
theorem dX10_latestOf_21 : decode cX10_latestOf 21 = .ok (.iload_n 2, 1) := by decide +kernel
theorem dX10_latestOf_22 : decode cX10_latestOf 22 = .ok (.ldc 54, 2) := by decide +kernel
theorem dX10_latestOf_24 : decode cX10_latestOf 24 = .ok (.if_icmp .eq 18, 3) := by decide +kernel
theorem dX10_latestOf_27 : decode cX10_latestOf 27 = .ok (.aload_n 0, 1) := by decide +kernel
theorem dX10_latestOf_28 : decode cX10_latestOf 28 = .ok (.getfield 24, 3) := by decide +kernel
theorem dX10_latestOf_31 : decode cX10_latestOf 31 = .ok (.iload_n 3, 1) := by decide +kernel
theorem dX10_latestOf_32 : decode cX10_latestOf 32 = .ok (.iaload, 1) := by decide +kernel
theorem dX10_latestOf_33 : decode cX10_latestOf 33 = .ok (.aload_n 0, 1) := by decide +kernel
theorem dX10_latestOf_34 : decode cX10_latestOf 34 = .ok (.getfield 24, 3) := by decide +kernel
theorem dX10_latestOf_37 : decode cX10_latestOf 37 = .ok (.iload_n 2, 1) := by decide +kernel
theorem dX10_latestOf_38 : decode cX10_latestOf 38 = .ok (.iaload, 1) := by decide +kernel
theorem dX10_latestOf_39 : decode cX10_latestOf 39 = .ok (.if_icmp .le 5, 3) := by decide +kernel
theorem dX10_latestOf_42 : decode cX10_latestOf 42 = .ok (.iload_n 3, 1) := by decide +kernel
theorem dX10_latestOf_43 : decode cX10_latestOf 43 = .ok (.istore_n 2, 1) := by decide +kernel
theorem dX10_latestOf_44 : decode cX10_latestOf 44 = .ok (.iinc 3 1, 3) := by decide +kernel
theorem dX10_latestOf_47 : decode cX10_latestOf 47 = .ok (.goto (-42), 3) := by decide +kernel
theorem dX10_latestOf_50 : decode cX10_latestOf 50 = .ok (.iload_n 2, 1) := by decide +kernel
theorem dX10_latestOf_51 : decode cX10_latestOf 51 = .ok (.ireturn, 1) := by decide +kernel
theorem dX10_inChain_0 : decode cX10_inChain 0 = .ok (.aload_n 0, 1) := by decide +kernel
theorem dX10_inChain_1 : decode cX10_inChain 1 = .ok (.iload_n 1, 1) := by decide +kernel
theorem dX10_inChain_2 : decode cX10_inChain 2 = .ok (.invokevirtual 136, 3) := by decide +kernel
theorem dX10_inChain_5 : decode cX10_inChain 5 = .ok (.ldc 54, 2) := by decide +kernel
theorem dX10_inChain_7 : decode cX10_inChain 7 = .ok (.if_icmp .eq 11, 3) := by decide +kernel
theorem dX10_inChain_10 : decode cX10_inChain 10 = .ok (.iload_n 2, 1) := by decide +kernel
theorem dX10_inChain_11 : decode cX10_inChain 11 = .ok (.aload_n 0, 1) := by decide +kernel
theorem dX10_inChain_12 : decode cX10_inChain 12 = .ok (.getfield 28, 3) := by decide +kernel
theorem dX10_inChain_15 : decode cX10_inChain 15 = .ok (.if_icmp .lt 6, 3) := by decide +kernel
theorem dX10_inChain_18 : decode cX10_inChain 18 = .ok (.ldc 54, 2) := by decide +kernel
theorem dX10_inChain_20 : decode cX10_inChain 20 = .ok (.ireturn, 1) := by decide +kernel
theorem dX10_inChain_21 : decode cX10_inChain 21 = .ok (.iload_n 1, 1) := by decide +kernel
theorem dX10_inChain_22 : decode cX10_inChain 22 = .ok (.istore_n 3, 1) := by decide +kernel
theorem dX10_inChain_23 : decode cX10_inChain 23 = .ok (.iconst 0, 1) := by decide +kernel
theorem dX10_inChain_24 : decode cX10_inChain 24 = .ok (.istore 4, 2) := by decide +kernel
theorem dX10_inChain_26 : decode cX10_inChain 26 = .ok (.iload 4, 2) := by decide +kernel
theorem dX10_inChain_28 : decode cX10_inChain 28 = .ok (.iload_n 2, 1) := by decide +kernel
theorem dX10_inChain_29 : decode cX10_inChain 29 = .ok (.if_icmp .ge 36, 3) := by decide +kernel
theorem dX10_inChain_32 : decode cX10_inChain 32 = .ok (.aload_n 0, 1) := by decide +kernel
theorem dX10_inChain_33 : decode cX10_inChain 33 = .ok (.iload_n 3, 1) := by decide +kernel
theorem dX10_inChain_34 : decode cX10_inChain 34 = .ok (.invokevirtual 71, 3) := by decide +kernel
theorem dX10_inChain_37 : decode cX10_inChain 37 = .ok (.astore 5, 2) := by decide +kernel
theorem dX10_inChain_39 : decode cX10_inChain 39 = .ok (.aload 5, 2) := by decide +kernel
theorem dX10_inChain_41 : decode cX10_inChain 41 = .ok (.ifnonnull 8, 3) := by decide +kernel
theorem dX10_inChain_44 : decode cX10_inChain 44 = .ok (.ldc 54, 2) := by decide +kernel
theorem dX10_inChain_46 : decode cX10_inChain 46 = .ok (.goto 12, 3) := by decide +kernel
theorem dX10_inChain_49 : decode cX10_inChain 49 = .ok (.aload_n 0, 1) := by decide +kernel
theorem dX10_inChain_50 : decode cX10_inChain 50 = .ok (.aload 5, 2) := by decide +kernel
theorem dX10_inChain_52 : decode cX10_inChain 52 = .ok (.getfield 75, 3) := by decide +kernel
theorem dX10_inChain_55 : decode cX10_inChain 55 = .ok (.invokevirtual 130, 3) := by decide +kernel
theorem dX10_inChain_58 : decode cX10_inChain 58 = .ok (.istore_n 3, 1) := by decide +kernel
theorem dX10_inChain_59 : decode cX10_inChain 59 = .ok (.iinc 4 1, 3) := by decide +kernel
theorem dX10_inChain_62 : decode cX10_inChain 62 = .ok (.goto (-36), 3) := by decide +kernel
theorem dX10_inChain_65 : decode cX10_inChain 65 = .ok (.iload_n 3, 1) := by decide +kernel
theorem dX10_inChain_66 : decode cX10_inChain 66 = .ok (.ireturn, 1) := by decide +kernel
theorem dX11_init_0 : decode cX11_init 0 = .ok (.aload_n 0, 1) := by decide +kernel
theorem dX11_init_1 : decode cX11_init 1 = .ok (.invokespecial 1, 3) := by decide +kernel
theorem dX11_init_4 : decode cX11_init 4 = .ok (.aload_n 0, 1) := by decide +kernel
theorem dX11_init_5 : decode cX11_init 5 = .ok (.new 7, 3) := by decide +kernel
theorem dX11_init_8 : decode cX11_init 8 = .ok (.dup, 1) := by decide +kernel
theorem dX11_init_9 : decode cX11_init 9 = .ok (.invokespecial 9, 3) := by decide +kernel
theorem dX11_init_12 : decode cX11_init 12 = .ok (.putfield 10, 3) := by decide +kernel
theorem dX11_init_15 : decode cX11_init 15 = .ok (.aload_n 0, 1) := by decide +kernel
theorem dX11_init_16 : decode cX11_init 16 = .ok (.new 7, 3) := by decide +kernel
theorem dX11_init_19 : decode cX11_init 19 = .ok (.dup, 1) := by decide +kernel
theorem dX11_init_20 : decode cX11_init 20 = .ok (.invokespecial 9, 3) := by decide +kernel
theorem dX11_init_23 : decode cX11_init 23 = .ok (.putfield 16, 3) := by decide +kernel
theorem dX11_init_26 : decode cX11_init 26 = .ok (.aload_n 0, 1) := by decide +kernel
theorem dX11_init_27 : decode cX11_init 27 = .ok (.new 7, 3) := by decide +kernel
theorem dX11_init_30 : decode cX11_init 30 = .ok (.dup, 1) := by decide +kernel
theorem dX11_init_31 : decode cX11_init 31 = .ok (.invokespecial 9, 3) := by decide +kernel
theorem dX11_init_34 : decode cX11_init 34 = .ok (.putfield 19, 3) := by decide +kernel
theorem dX11_init_37 : decode cX11_init 37 = .ok (.aload_n 0, 1) := by decide +kernel
theorem dX11_init_38 : decode cX11_init 38 = .ok (.new 22, 3) := by decide +kernel
theorem dX11_init_41 : decode cX11_init 41 = .ok (.dup, 1) := by decide +kernel
theorem dX11_init_42 : decode cX11_init 42 = .ok (.invokespecial 24, 3) := by decide +kernel
theorem dX11_init_45 : decode cX11_init 45 = .ok (.putfield 25, 3) := by decide +kernel
theorem dX11_init_48 : decode cX11_init 48 = .ok (.aload_n 0, 1) := by decide +kernel
theorem dX11_init_49 : decode cX11_init 49 = .ok (.iconst 4, 1) := by decide +kernel
theorem dX11_init_50 : decode cX11_init 50 = .ok (.anewarray 29, 3) := by decide +kernel
theorem dX11_init_53 : decode cX11_init 53 = .ok (.putfield 31, 3) := by decide +kernel
theorem dX11_init_56 : decode cX11_init 56 = .ok (.iconst 0, 1) := by decide +kernel
theorem dX11_init_57 : decode cX11_init 57 = .ok (.istore_n 1, 1) := by decide +kernel
theorem dX11_init_58 : decode cX11_init 58 = .ok (.iload_n 1, 1) := by decide +kernel
theorem dX11_init_59 : decode cX11_init 59 = .ok (.iconst 4, 1) := by decide +kernel
theorem dX11_init_60 : decode cX11_init 60 = .ok (.if_icmp .ge 22, 3) := by decide +kernel
theorem dX11_init_63 : decode cX11_init 63 = .ok (.aload_n 0, 1) := by decide +kernel
theorem dX11_init_64 : decode cX11_init 64 = .ok (.getfield 31, 3) := by decide +kernel
theorem dX11_init_67 : decode cX11_init 67 = .ok (.iload_n 1, 1) := by decide +kernel
theorem dX11_init_68 : decode cX11_init 68 = .ok (.new 29, 3) := by decide +kernel
theorem dX11_init_71 : decode cX11_init 71 = .ok (.dup, 1) := by decide +kernel
theorem dX11_init_72 : decode cX11_init 72 = .ok (.invokespecial 35, 3) := by decide +kernel
theorem dX11_init_75 : decode cX11_init 75 = .ok (.aastore, 1) := by decide +kernel
theorem dX11_init_76 : decode cX11_init 76 = .ok (.iinc 1 1, 3) := by decide +kernel
theorem dX11_init_79 : decode cX11_init 79 = .ok (.goto (-21), 3) := by decide +kernel
theorem dX11_init_82 : decode cX11_init 82 = .ok (.aload_n 0, 1) := by decide +kernel
theorem dX11_init_83 : decode cX11_init 83 = .ok (.bipush 60, 2) := by decide +kernel
theorem dX11_init_85 : decode cX11_init 85 = .ok (.newarray .int, 2) := by decide +kernel
theorem dX11_init_87 : decode cX11_init 87 = .ok (.putfield 36, 3) := by decide +kernel
theorem dX11_init_90 : decode cX11_init 90 = .ok (.aload_n 0, 1) := by decide +kernel
theorem dX11_init_91 : decode cX11_init 91 = .ok (.iconst 0, 1) := by decide +kernel
theorem dX11_init_92 : decode cX11_init 92 = .ok (.putfield 40, 3) := by decide +kernel
theorem dX11_init_95 : decode cX11_init 95 = .ok (.aload_n 0, 1) := by decide +kernel
theorem dX11_init_96 : decode cX11_init 96 = .ok (.iconst 0, 1) := by decide +kernel
theorem dX11_init_97 : decode cX11_init 97 = .ok (.putfield 44, 3) := by decide +kernel
theorem dX11_init_100 : decode cX11_init 100 = .ok (.return_, 1) := by decide +kernel
theorem dX11_chains_0 : decode cX11_chains 0 = .ok (.iload_n 1, 1) := by decide +kernel
theorem dX11_chains_1 : decode cX11_chains 1 = .ok (.iconst 2, 1) := by decide +kernel
theorem dX11_chains_2 : decode cX11_chains 2 = .ok (.bipush 24, 2) := by decide +kernel
theorem dX11_chains_4 : decode cX11_chains 4 = .ok (.invokestatic 50, 3) := by decide +kernel
theorem dX11_chains_7 : decode cX11_chains 7 = .ok (.ifCond .ne 6, 3) := by decide +kernel
theorem dX11_chains_10 : decode cX11_chains 10 = .ok (.ldc 54, 2) := by decide +kernel
theorem dX11_chains_12 : decode cX11_chains 12 = .ok (.ireturn, 1) := by decide +kernel
theorem dX11_chains_13 : decode cX11_chains 13 = .ok (.aload_n 0, 1) := by decide +kernel
theorem dX11_chains_14 : decode cX11_chains 14 = .ok (.getfield 10, 3) := by decide +kernel
theorem dX11_chains_17 : decode cX11_chains 17 = .ok (.getfield 55, 3) := by decide +kernel
theorem dX11_chains_20 : decode cX11_chains 20 = .ok (.getfield 59, 3) := by decide +kernel
theorem dX11_chains_23 : decode cX11_chains 23 = .ok (.ifCond .le 6, 3) := by decide +kernel
theorem dX11_chains_26 : decode cX11_chains 26 = .ok (.ldc 64, 2) := by decide +kernel
theorem dX11_chains_28 : decode cX11_chains 28 = .ok (.ireturn, 1) := by decide +kernel
theorem dX11_chains_29 : decode cX11_chains 29 = .ok (.aload_n 0, 1) := by decide +kernel
theorem dX11_chains_30 : decode cX11_chains 30 = .ok (.getfield 10, 3) := by decide +kernel
theorem dX11_chains_33 : decode cX11_chains 33 = .ok (.getfield 65, 3) := by decide +kernel
theorem dX11_chains_36 : decode cX11_chains 36 = .ok (.getfield 69, 3) := by decide +kernel
theorem dX11_chains_39 : decode cX11_chains 39 = .ok (.istore_n 2, 1) := by decide +kernel
theorem dX11_chains_40 : decode cX11_chains 40 = .ok (.aload_n 0, 1) := by decide +kernel
theorem dX11_chains_41 : decode cX11_chains 41 = .ok (.getfield 10, 3) := by decide +kernel
theorem dX11_chains_44 : decode cX11_chains 44 = .ok (.getfield 65, 3) := by decide +kernel
theorem dX11_chains_47 : decode cX11_chains 47 = .ok (.iload_n 1, 1) := by decide +kernel
theorem dX11_chains_48 : decode cX11_chains 48 = .ok (.invokevirtual 70, 3) := by decide +kernel
theorem dX11_chains_51 : decode cX11_chains 51 = .ok (.iload_n 2, 1) := by decide +kernel
theorem dX11_chains_52 : decode cX11_chains 52 = .ok (.ireturn, 1) := by decide +kernel
theorem dX11_set_0 : decode cX11_set 0 = .ok (.aload_n 0, 1) := by decide +kernel
theorem dX11_set_1 : decode cX11_set 1 = .ok (.getfield 10, 3) := by decide +kernel
theorem dX11_set_4 : decode cX11_set 4 = .ok (.getfield 65, 3) := by decide +kernel
theorem dX11_set_7 : decode cX11_set 7 = .ok (.iload_n 1, 1) := by decide +kernel
theorem dX11_set_8 : decode cX11_set 8 = .ok (.invokevirtual 74, 3) := by decide +kernel
theorem dX11_set_11 : decode cX11_set 11 = .ok (.ifCond .eq 31, 3) := by decide +kernel
theorem dX11_set_14 : decode cX11_set 14 = .ok (.iload_n 2, 1) := by decide +kernel
theorem dX11_set_15 : decode cX11_set 15 = .ok (.iconst 0, 1) := by decide +kernel
theorem dX11_set_16 : decode cX11_set 16 = .ok (.iconst 2, 1) := by decide +kernel
theorem dX11_set_17 : decode cX11_set 17 = .ok (.invokestatic 50, 3) := by decide +kernel
theorem dX11_set_20 : decode cX11_set 20 = .ok (.ifCond .eq 22, 3) := by decide +kernel
theorem dX11_set_23 : decode cX11_set 23 = .ok (.iload_n 3, 1) := by decide +kernel
theorem dX11_set_24 : decode cX11_set 24 = .ok (.iconst 0, 1) := by decide +kernel
theorem dX11_set_25 : decode cX11_set 25 = .ok (.iload_n 2, 1) := by decide +kernel
theorem dX11_set_26 : decode cX11_set 26 = .ok (.iconst 2, 1) := by decide +kernel
theorem dX11_set_27 : decode cX11_set 27 = .ok (.if_icmp .ne 7, 3) := by decide +kernel
theorem dX11_set_30 : decode cX11_set 30 = .ok (.iconst 3, 1) := by decide +kernel
theorem dX11_set_31 : decode cX11_set 31 = .ok (.goto 5, 3) := by decide +kernel
theorem dX11_set_34 : decode cX11_set 34 = .ok (.bipush 99, 2) := by decide +kernel
theorem dX11_set_36 : decode cX11_set 36 = .ok (.invokestatic 50, 3) := by decide +kernel
theorem dX11_set_39 : decode cX11_set 39 = .ok (.ifCond .ne 6, 3) := by decide +kernel
theorem dX11_set_42 : decode cX11_set 42 = .ok (.ldc 54, 2) := by decide +kernel
theorem dX11_set_44 : decode cX11_set 44 = .ok (.ireturn, 1) := by decide +kernel
theorem dX11_set_45 : decode cX11_set 45 = .ok (.aload_n 0, 1) := by decide +kernel
theorem dX11_set_46 : decode cX11_set 46 = .ok (.getfield 10, 3) := by decide +kernel
theorem dX11_set_49 : decode cX11_set 49 = .ok (.getfield 65, 3) := by decide +kernel
theorem dX11_set_52 : decode cX11_set 52 = .ok (.iload_n 2, 1) := by decide +kernel
theorem dX11_set_53 : decode cX11_set 53 = .ok (.invokevirtual 78, 3) := by decide +kernel
theorem dX11_set_56 : decode cX11_set 56 = .ok (.iload_n 1, 1) := by decide +kernel
theorem dX11_set_57 : decode cX11_set 57 = .ok (.iload_n 3, 1) := by decide +kernel
theorem dX11_set_58 : decode cX11_set 58 = .ok (.invokestatic 82, 3) := by decide +kernel
theorem dX11_set_61 : decode cX11_set 61 = .ok (.ireturn, 1) := by decide +kernel
theorem dX11_bore_0 : decode cX11_bore 0 = .ok (.aload_n 0, 1) := by decide +kernel
theorem dX11_bore_1 : decode cX11_bore 1 = .ok (.getfield 10, 3) := by decide +kernel
theorem dX11_bore_4 : decode cX11_bore 4 = .ok (.getfield 65, 3) := by decide +kernel
theorem dX11_bore_7 : decode cX11_bore 7 = .ok (.iload_n 1, 1) := by decide +kernel
theorem dX11_bore_8 : decode cX11_bore 8 = .ok (.invokevirtual 74, 3) := by decide +kernel
theorem dX11_bore_11 : decode cX11_bore 11 = .ok (.ifCond .ne 6, 3) := by decide +kernel
theorem dX11_bore_14 : decode cX11_bore 14 = .ok (.ldc 54, 2) := by decide +kernel
theorem dX11_bore_16 : decode cX11_bore 16 = .ok (.ireturn, 1) := by decide +kernel
theorem dX11_bore_17 : decode cX11_bore 17 = .ok (.aload_n 0, 1) := by decide +kernel
theorem dX11_bore_18 : decode cX11_bore 18 = .ok (.getfield 10, 3) := by decide +kernel
theorem dX11_bore_21 : decode cX11_bore 21 = .ok (.getfield 65, 3) := by decide +kernel
theorem dX11_bore_24 : decode cX11_bore 24 = .ok (.dup, 1) := by decide +kernel
theorem dX11_bore_25 : decode cX11_bore 25 = .ok (.getfield 86, 3) := by decide +kernel
theorem dX11_bore_28 : decode cX11_bore 28 = .ok (.iconst 1, 1) := by decide +kernel
theorem dX11_bore_29 : decode cX11_bore 29 = .ok (.iload_n 1, 1) := by decide +kernel
theorem dX11_bore_30 : decode cX11_bore 30 = .ok (.ishl, 1) := by decide +kernel
theorem dX11_bore_31 : decode cX11_bore 31 = .ok (.ior, 1) := by decide +kernel
theorem dX11_bore_32 : decode cX11_bore 32 = .ok (.putfield 86, 3) := by decide +kernel
theorem dX11_bore_35 : decode cX11_bore 35 = .ok (.aload_n 0, 1) := by decide +kernel
theorem dX11_bore_36 : decode cX11_bore 36 = .ok (.getfield 10, 3) := by decide +kernel
theorem dX11_bore_39 : decode cX11_bore 39 = .ok (.getfield 65, 3) := by decide +kernel
theorem dX11_bore_42 : decode cX11_bore 42 = .ok (.iload_n 1, 1) := by decide +kernel
theorem dX11_bore_43 : decode cX11_bore 43 = .ok (.invokevirtual 89, 3) := by decide +kernel
theorem dX11_bore_46 : decode cX11_bore 46 = .ok (.ireturn, 1) := by decide +kernel
theorem dX11_at_0 : decode cX11_at 0 = .ok (.aload_n 0, 1) := by decide +kernel
theorem dX11_at_1 : decode cX11_at 1 = .ok (.getfield 10, 3) := by decide +kernel
theorem dX11_at_4 : decode cX11_at 4 = .ok (.getfield 65, 3) := by decide +kernel
theorem dX11_at_7 : decode cX11_at 7 = .ok (.iload_n 1, 1) := by decide +kernel
theorem dX11_at_8 : decode cX11_at 8 = .ok (.invokevirtual 74, 3) := by decide +kernel
theorem dX11_at_11 : decode cX11_at 11 = .ok (.ifCond .ne 6, 3) := by decide +kernel
theorem dX11_at_14 : decode cX11_at 14 = .ok (.ldc 54, 2) := by decide +kernel
theorem dX11_at_16 : decode cX11_at 16 = .ok (.ireturn, 1) := by decide +kernel
theorem dX11_at_17 : decode cX11_at 17 = .ok (.iload_n 2, 1) := by decide +kernel
theorem dX11_at_18 : decode cX11_at 18 = .ok (.tableswitch 135 0 5 #[38, 38, 52, 86, 98, 110], 38) := by decide +kernel
theorem dX11_at_56 : decode cX11_at 56 = .ok (.aload_n 0, 1) := by decide +kernel
theorem dX11_at_57 : decode cX11_at 57 = .ok (.getfield 10, 3) := by decide +kernel
theorem dX11_at_60 : decode cX11_at 60 = .ok (.getfield 65, 3) := by decide +kernel
theorem dX11_at_63 : decode cX11_at 63 = .ok (.iload_n 2, 1) := by decide +kernel
theorem dX11_at_64 : decode cX11_at 64 = .ok (.invokevirtual 78, 3) := by decide +kernel
theorem dX11_at_67 : decode cX11_at 67 = .ok (.iload_n 1, 1) := by decide +kernel
theorem dX11_at_68 : decode cX11_at 68 = .ok (.iaload, 1) := by decide +kernel
theorem dX11_at_69 : decode cX11_at 69 = .ok (.ireturn, 1) := by decide +kernel
theorem dX11_at_70 : decode cX11_at 70 = .ok (.aload_n 0, 1) := by decide +kernel
theorem dX11_at_71 : decode cX11_at 71 = .ok (.getfield 10, 3) := by decide +kernel
theorem dX11_at_74 : decode cX11_at 74 = .ok (.getfield 65, 3) := by decide +kernel
theorem dX11_at_77 : decode cX11_at 77 = .ok (.getfield 86, 3) := by decide +kernel
theorem dX11_at_80 : decode cX11_at 80 = .ok (.iload_n 1, 1) := by decide +kernel
theorem dX11_at_81 : decode cX11_at 81 = .ok (.invokestatic 93, 3) := by decide +kernel
theorem dX11_at_84 : decode cX11_at 84 = .ok (.ifCond .eq 17, 3) := by decide +kernel
theorem dX11_at_87 : decode cX11_at 87 = .ok (.aload_n 0, 1) := by decide +kernel
theorem dX11_at_88 : decode cX11_at 88 = .ok (.getfield 10, 3) := by decide +kernel
theorem dX11_at_91 : decode cX11_at 91 = .ok (.getfield 65, 3) := by decide +kernel
theorem dX11_at_94 : decode cX11_at 94 = .ok (.iload_n 1, 1) := by decide +kernel
theorem dX11_at_95 : decode cX11_at 95 = .ok (.invokevirtual 89, 3) := by decide +kernel
theorem dX11_at_98 : decode cX11_at 98 = .ok (.goto 5, 3) := by decide +kernel
theorem dX11_at_101 : decode cX11_at 101 = .ok (.ldc 97, 2) := by decide +kernel
theorem dX11_at_103 : decode cX11_at 103 = .ok (.ireturn, 1) := by decide +kernel
theorem dX11_at_104 : decode cX11_at 104 = .ok (.aload_n 0, 1) := by decide +kernel
theorem dX11_at_105 : decode cX11_at 105 = .ok (.getfield 10, 3) := by decide +kernel
theorem dX11_at_108 : decode cX11_at 108 = .ok (.getfield 65, 3) := by decide +kernel
theorem dX11_at_111 : decode cX11_at 111 = .ok (.iload_n 1, 1) := by decide +kernel
theorem dX11_at_112 : decode cX11_at 112 = .ok (.invokevirtual 98, 3) := by decide +kernel
theorem dX11_at_115 : decode cX11_at 115 = .ok (.ireturn, 1) := by decide +kernel
theorem dX11_at_116 : decode cX11_at 116 = .ok (.aload_n 0, 1) := by decide +kernel
theorem dX11_at_117 : decode cX11_at 117 = .ok (.getfield 10, 3) := by decide +kernel
theorem dX11_at_120 : decode cX11_at 120 = .ok (.getfield 55, 3) := by decide +kernel
theorem dX11_at_123 : decode cX11_at 123 = .ok (.iload_n 1, 1) := by decide +kernel
theorem dX11_at_124 : decode cX11_at 124 = .ok (.invokevirtual 101, 3) := by decide +kernel
theorem dX11_at_127 : decode cX11_at 127 = .ok (.ireturn, 1) := by decide +kernel
theorem dX11_at_128 : decode cX11_at 128 = .ok (.aload_n 0, 1) := by decide +kernel
theorem dX11_at_129 : decode cX11_at 129 = .ok (.getfield 10, 3) := by decide +kernel
theorem dX11_at_132 : decode cX11_at 132 = .ok (.getfield 55, 3) := by decide +kernel
theorem dX11_at_135 : decode cX11_at 135 = .ok (.iconst 5, 1) := by decide +kernel
theorem dX11_at_136 : decode cX11_at 136 = .ok (.iconst 0, 1) := by decide +kernel
theorem dX11_at_137 : decode cX11_at 137 = .ok (.invokevirtual 106, 3) := by decide +kernel
theorem dX11_at_140 : decode cX11_at 140 = .ok (.iload_n 1, 1) := by decide +kernel
theorem dX11_at_141 : decode cX11_at 141 = .ok (.invokestatic 93, 3) := by decide +kernel
theorem dX11_at_144 : decode cX11_at 144 = .ok (.ifCond .eq 7, 3) := by decide +kernel
theorem dX11_at_147 : decode cX11_at 147 = .ok (.iconst 1, 1) := by decide +kernel
theorem dX11_at_148 : decode cX11_at 148 = .ok (.goto 4, 3) := by decide +kernel
theorem dX11_at_151 : decode cX11_at 151 = .ok (.iconst 0, 1) := by decide +kernel
theorem dX11_at_152 : decode cX11_at 152 = .ok (.ireturn, 1) := by decide +kernel
theorem dX11_at_153 : decode cX11_at 153 = .ok (.ldc 54, 2) := by decide +kernel
theorem dX11_at_155 : decode cX11_at 155 = .ok (.ireturn, 1) := by decide +kernel
theorem dX11_rule_0 : decode cX11_rule 0 = .ok (.iload_n 1, 1) := by decide +kernel
theorem dX11_rule_1 : decode cX11_rule 1 = .ok (.iconst 0, 1) := by decide +kernel
theorem dX11_rule_2 : decode cX11_rule 2 = .ok (.iconst 5, 1) := by decide +kernel
theorem dX11_rule_3 : decode cX11_rule 3 = .ok (.invokestatic 50, 3) := by decide +kernel
theorem dX11_rule_6 : decode cX11_rule 6 = .ok (.ifCond .eq 16, 3) := by decide +kernel
theorem dX11_rule_9 : decode cX11_rule 9 = .ok (.iload_n 2, 1) := by decide +kernel
theorem dX11_rule_10 : decode cX11_rule 10 = .ok (.iconst 0, 1) := by decide +kernel
theorem dX11_rule_11 : decode cX11_rule 11 = .ok (.getstatic 110, 3) := by decide +kernel
theorem dX11_rule_14 : decode cX11_rule 14 = .ok (.iload_n 1, 1) := by decide +kernel
theorem dX11_rule_15 : decode cX11_rule 15 = .ok (.iaload, 1) := by decide +kernel
theorem dX11_rule_16 : decode cX11_rule 16 = .ok (.invokestatic 50, 3) := by decide +kernel
theorem dX11_rule_19 : decode cX11_rule 19 = .ok (.ifCond .ne 6, 3) := by decide +kernel
theorem dX11_rule_22 : decode cX11_rule 22 = .ok (.ldc 54, 2) := by decide +kernel
theorem dX11_rule_24 : decode cX11_rule 24 = .ok (.ireturn, 1) := by decide +kernel
theorem dX11_rule_25 : decode cX11_rule 25 = .ok (.aload_n 0, 1) := by decide +kernel
theorem dX11_rule_26 : decode cX11_rule 26 = .ok (.getfield 10, 3) := by decide +kernel
theorem dX11_rule_29 : decode cX11_rule 29 = .ok (.getfield 65, 3) := by decide +kernel
theorem dX11_rule_32 : decode cX11_rule 32 = .ok (.getfield 113, 3) := by decide +kernel
theorem dX11_rule_35 : decode cX11_rule 35 = .ok (.iload_n 1, 1) := by decide +kernel
theorem dX11_rule_36 : decode cX11_rule 36 = .ok (.iload_n 2, 1) := by decide +kernel
theorem dX11_rule_37 : decode cX11_rule 37 = .ok (.invokestatic 82, 3) := by decide +kernel
theorem dX11_rule_40 : decode cX11_rule 40 = .ok (.ireturn, 1) := by decide +kernel
theorem dX11_steep_0 : decode cX11_steep 0 = .ok (.aload_n 0, 1) := by decide +kernel
theorem dX11_steep_1 : decode cX11_steep 1 = .ok (.getfield 10, 3) := by decide +kernel
theorem dX11_steep_4 : decode cX11_steep 4 = .ok (.getfield 65, 3) := by decide +kernel
theorem dX11_steep_7 : decode cX11_steep 7 = .ok (.invokevirtual 116, 3) := by decide +kernel
theorem dX11_steep_10 : decode cX11_steep 10 = .ok (.ireturn, 1) := by decide +kernel
theorem dX11_best_0 : decode cX11_best 0 = .ok (.iload_n 1, 1) := by decide +kernel
theorem dX11_best_1 : decode cX11_best 1 = .ok (.iconst (-1), 1) := by decide +kernel
theorem dX11_best_2 : decode cX11_best 2 = .ok (.if_icmp .eq 20, 3) := by decide +kernel
theorem dX11_best_5 : decode cX11_best 5 = .ok (.aload_n 0, 1) := by decide +kernel
theorem dX11_best_6 : decode cX11_best 6 = .ok (.getfield 10, 3) := by decide +kernel
theorem dX11_best_9 : decode cX11_best 9 = .ok (.getfield 65, 3) := by decide +kernel
theorem dX11_best_12 : decode cX11_best 12 = .ok (.iload_n 1, 1) := by decide +kernel
theorem dX11_best_13 : decode cX11_best 13 = .ok (.invokevirtual 74, 3) := by decide +kernel
theorem dX11_best_16 : decode cX11_best 16 = .ok (.ifCond .ne 6, 3) := by decide +kernel
theorem dX11_best_19 : decode cX11_best 19 = .ok (.ldc 54, 2) := by decide +kernel
theorem dX11_best_21 : decode cX11_best 21 = .ok (.ireturn, 1) := by decide +kernel
theorem dX11_best_22 : decode cX11_best 22 = .ok (.aload_n 0, 1) := by decide +kernel
theorem dX11_best_23 : decode cX11_best 23 = .ok (.getfield 10, 3) := by decide +kernel
theorem dX11_best_26 : decode cX11_best 26 = .ok (.getfield 65, 3) := by decide +kernel
theorem dX11_best_29 : decode cX11_best 29 = .ok (.invokevirtual 120, 3) := by decide +kernel
theorem dX11_best_32 : decode cX11_best 32 = .ok (.istore_n 2, 1) := by decide +kernel
theorem dX11_best_33 : decode cX11_best 33 = .ok (.iload_n 1, 1) := by decide +kernel
theorem dX11_best_34 : decode cX11_best 34 = .ok (.iconst (-1), 1) := by decide +kernel
theorem dX11_best_35 : decode cX11_best 35 = .ok (.if_icmp .ne 7, 3) := by decide +kernel
theorem dX11_best_38 : decode cX11_best 38 = .ok (.iload_n 2, 1) := by decide +kernel
theorem dX11_best_39 : decode cX11_best 39 = .ok (.goto 15, 3) := by decide +kernel
theorem dX11_best_42 : decode cX11_best 42 = .ok (.aload_n 0, 1) := by decide +kernel
theorem dX11_best_43 : decode cX11_best 43 = .ok (.getfield 10, 3) := by decide +kernel
theorem dX11_best_46 : decode cX11_best 46 = .ok (.getfield 65, 3) := by decide +kernel
theorem dX11_best_49 : decode cX11_best 49 = .ok (.getfield 123, 3) := by decide +kernel
theorem dX11_best_52 : decode cX11_best 52 = .ok (.iload_n 1, 1) := by decide +kernel
theorem dX11_best_53 : decode cX11_best 53 = .ok (.iaload, 1) := by decide +kernel
theorem dX11_best_54 : decode cX11_best 54 = .ok (.ireturn, 1) := by decide +kernel
theorem dX11_lay_0 : decode cX11_lay 0 = .ok (.aload_n 0, 1) := by decide +kernel
theorem dX11_lay_1 : decode cX11_lay 1 = .ok (.getfield 10, 3) := by decide +kernel
theorem dX11_lay_4 : decode cX11_lay 4 = .ok (.getfield 65, 3) := by decide +kernel
theorem dX11_lay_7 : decode cX11_lay 7 = .ok (.invokevirtual 120, 3) := by decide +kernel
theorem dX11_lay_10 : decode cX11_lay 10 = .ok (.istore_n 1, 1) := by decide +kernel
theorem dX11_lay_11 : decode cX11_lay 11 = .ok (.aload_n 0, 1) := by decide +kernel
theorem dX11_lay_12 : decode cX11_lay 12 = .ok (.getfield 10, 3) := by decide +kernel
theorem dX11_lay_15 : decode cX11_lay 15 = .ok (.getfield 65, 3) := by decide +kernel
theorem dX11_lay_18 : decode cX11_lay 18 = .ok (.getfield 123, 3) := by decide +kernel
theorem dX11_lay_21 : decode cX11_lay 21 = .ok (.iconst 0, 1) := by decide +kernel
theorem dX11_lay_22 : decode cX11_lay 22 = .ok (.aload_n 0, 1) := by decide +kernel
theorem dX11_lay_23 : decode cX11_lay 23 = .ok (.getfield 10, 3) := by decide +kernel
theorem dX11_lay_26 : decode cX11_lay 26 = .ok (.getfield 65, 3) := by decide +kernel
theorem dX11_lay_29 : decode cX11_lay 29 = .ok (.getfield 126, 3) := by decide +kernel
theorem dX11_lay_32 : decode cX11_lay 32 = .ok (.iconst 0, 1) := by decide +kernel
theorem dX11_lay_33 : decode cX11_lay 33 = .ok (.aload_n 0, 1) := by decide +kernel
theorem dX11_lay_34 : decode cX11_lay 34 = .ok (.getfield 10, 3) := by decide +kernel
theorem dX11_lay_37 : decode cX11_lay 37 = .ok (.getfield 65, 3) := by decide +kernel
theorem dX11_lay_40 : decode cX11_lay 40 = .ok (.getfield 69, 3) := by decide +kernel
theorem dX11_lay_43 : decode cX11_lay 43 = .ok (.invokestatic 129, 3) := by decide +kernel
theorem dX11_lay_46 : decode cX11_lay 46 = .ok (.iload_n 1, 1) := by decide +kernel
theorem dX11_lay_47 : decode cX11_lay 47 = .ok (.ireturn, 1) := by decide +kernel
theorem dX11_haul_0 : decode cX11_haul 0 = .ok (.aload_n 0, 1) := by decide +kernel
theorem dX11_haul_1 : decode cX11_haul 1 = .ok (.getfield 10, 3) := by decide +kernel
theorem dX11_haul_4 : decode cX11_haul 4 = .ok (.getfield 65, 3) := by decide +kernel
theorem dX11_haul_7 : decode cX11_haul 7 = .ok (.invokevirtual 135, 3) := by decide +kernel
theorem dX11_haul_10 : decode cX11_haul 10 = .ok (.ireturn, 1) := by decide +kernel
theorem dX11_work_0 : decode cX11_work 0 = .ok (.iload_n 1, 1) := by decide +kernel
theorem dX11_work_1 : decode cX11_work 1 = .ok (.iconst 0, 1) := by decide +kernel
theorem dX11_work_2 : decode cX11_work 2 = .ok (.bipush 6, 2) := by decide +kernel
theorem dX11_work_4 : decode cX11_work 4 = .ok (.invokestatic 50, 3) := by decide +kernel
theorem dX11_work_7 : decode cX11_work 7 = .ok (.ifCond .eq 8, 3) := by decide +kernel
theorem dX11_work_10 : decode cX11_work 10 = .ok (.iload_n 1, 1) := by decide +kernel
theorem dX11_work_11 : decode cX11_work 11 = .ok (.iconst 5, 1) := by decide +kernel
theorem dX11_work_12 : decode cX11_work 12 = .ok (.if_icmp .ne 6, 3) := by decide +kernel
theorem dX11_work_15 : decode cX11_work 15 = .ok (.ldc 54, 2) := by decide +kernel
theorem dX11_work_17 : decode cX11_work 17 = .ok (.ireturn, 1) := by decide +kernel
theorem dX11_work_18 : decode cX11_work 18 = .ok (.aload_n 0, 1) := by decide +kernel
theorem dX11_work_19 : decode cX11_work 19 = .ok (.getfield 10, 3) := by decide +kernel
theorem dX11_work_22 : decode cX11_work 22 = .ok (.getfield 65, 3) := by decide +kernel
theorem dX11_work_25 : decode cX11_work 25 = .ok (.iload_n 2, 1) := by decide +kernel
theorem dX11_work_26 : decode cX11_work 26 = .ok (.invokevirtual 74, 3) := by decide +kernel
theorem dX11_work_29 : decode cX11_work 29 = .ok (.ifCond .eq 14, 3) := by decide +kernel
theorem dX11_work_32 : decode cX11_work 32 = .ok (.iload_n 3, 1) := by decide +kernel
theorem dX11_work_33 : decode cX11_work 33 = .ok (.iconst 1, 1) := by decide +kernel
theorem dX11_work_34 : decode cX11_work 34 = .ok (.sipush 9999, 3) := by decide +kernel
theorem dX11_work_37 : decode cX11_work 37 = .ok (.invokestatic 50, 3) := by decide +kernel
theorem dX11_work_40 : decode cX11_work 40 = .ok (.ifCond .ne 6, 3) := by decide +kernel
theorem dX11_work_43 : decode cX11_work 43 = .ok (.ldc 54, 2) := by decide +kernel
theorem dX11_work_45 : decode cX11_work 45 = .ok (.ireturn, 1) := by decide +kernel
theorem dX11_work_46 : decode cX11_work 46 = .ok (.aload_n 0, 1) := by decide +kernel
theorem dX11_work_47 : decode cX11_work 47 = .ok (.getfield 10, 3) := by decide +kernel
theorem dX11_work_50 : decode cX11_work 50 = .ok (.getfield 55, 3) := by decide +kernel
theorem dX11_work_53 : decode cX11_work 53 = .ok (.iload_n 1, 1) := by decide +kernel
theorem dX11_work_54 : decode cX11_work 54 = .ok (.iload_n 2, 1) := by decide +kernel
theorem dX11_work_55 : decode cX11_work 55 = .ok (.iload_n 3, 1) := by decide +kernel
theorem dX11_work_56 : decode cX11_work 56 = .ok (.invokevirtual 138, 3) := by decide +kernel
theorem dX11_work_59 : decode cX11_work 59 = .ok (.ireturn, 1) := by decide +kernel
theorem dX11_told_0 : decode cX11_told 0 = .ok (.aload_n 0, 1) := by decide +kernel
theorem dX11_told_1 : decode cX11_told 1 = .ok (.getfield 10, 3) := by decide +kernel
theorem dX11_told_4 : decode cX11_told 4 = .ok (.getfield 55, 3) := by decide +kernel
theorem dX11_told_7 : decode cX11_told 7 = .ok (.iload_n 1, 1) := by decide +kernel
theorem dX11_told_8 : decode cX11_told 8 = .ok (.invokevirtual 142, 3) := by decide +kernel
theorem dX11_told_11 : decode cX11_told 11 = .ok (.astore_n 3, 1) := by decide +kernel
theorem dX11_told_12 : decode cX11_told 12 = .ok (.aload_n 3, 1) := by decide +kernel
theorem dX11_told_13 : decode cX11_told 13 = .ok (.ifnull 13, 3) := by decide +kernel
theorem dX11_told_16 : decode cX11_told 16 = .ok (.iload_n 2, 1) := by decide +kernel
theorem dX11_told_17 : decode cX11_told 17 = .ok (.iconst 0, 1) := by decide +kernel
theorem dX11_told_18 : decode cX11_told 18 = .ok (.bipush 12, 2) := by decide +kernel
theorem dX11_told_20 : decode cX11_told 20 = .ok (.invokestatic 50, 3) := by decide +kernel
theorem dX11_told_23 : decode cX11_told 23 = .ok (.ifCond .ne 6, 3) := by decide +kernel
theorem dX11_told_26 : decode cX11_told 26 = .ok (.ldc 54, 2) := by decide +kernel
theorem dX11_told_28 : decode cX11_told 28 = .ok (.ireturn, 1) := by decide +kernel
theorem dX11_told_29 : decode cX11_told 29 = .ok (.aload_n 0, 1) := by decide +kernel
theorem dX11_told_30 : decode cX11_told 30 = .ok (.getfield 10, 3) := by decide +kernel
theorem dX11_told_33 : decode cX11_told 33 = .ok (.getfield 65, 3) := by decide +kernel
theorem dX11_told_36 : decode cX11_told 36 = .ok (.aload_n 3, 1) := by decide +kernel
theorem dX11_told_37 : decode cX11_told 37 = .ok (.getfield 146, 3) := by decide +kernel
theorem dX11_told_40 : decode cX11_told 40 = .ok (.invokevirtual 89, 3) := by decide +kernel
theorem dX11_told_43 : decode cX11_told 43 = .ok (.istore 4, 2) := by decide +kernel
theorem dX11_told_45 : decode cX11_told 45 = .ok (.iload_n 2, 1) := by decide +kernel
theorem dX11_told_46 : decode cX11_told 46 = .ok (.tableswitch 74 4 8 #[34, 74, 74, 46, 67], 34) := by decide +kernel
theorem dX11_told_80 : decode cX11_told 80 = .ok (.aload_n 0, 1) := by decide +kernel
theorem dX11_told_81 : decode cX11_told 81 = .ok (.getfield 10, 3) := by decide +kernel
theorem dX11_told_84 : decode cX11_told 84 = .ok (.getfield 55, 3) := by decide +kernel
theorem dX11_told_87 : decode cX11_told 87 = .ok (.iload_n 1, 1) := by decide +kernel
theorem dX11_told_88 : decode cX11_told 88 = .ok (.invokevirtual 149, 3) := by decide +kernel
theorem dX11_told_91 : decode cX11_told 91 = .ok (.ireturn, 1) := by decide +kernel
theorem dX11_told_92 : decode cX11_told 92 = .ok (.aload_n 3, 1) := by decide +kernel
theorem dX11_told_93 : decode cX11_told 93 = .ok (.iload 4, 2) := by decide +kernel
theorem dX11_told_95 : decode cX11_told 95 = .ok (.aload_n 0, 1) := by decide +kernel
theorem dX11_told_96 : decode cX11_told 96 = .ok (.getfield 10, 3) := by decide +kernel
theorem dX11_told_99 : decode cX11_told 99 = .ok (.aload_n 0, 1) := by decide +kernel
theorem dX11_told_100 : decode cX11_told 100 = .ok (.getfield 10, 3) := by decide +kernel
theorem dX11_told_103 : decode cX11_told 103 = .ok (.getfield 152, 3) := by decide +kernel
theorem dX11_told_106 : decode cX11_told 106 = .ok (.invokevirtual 155, 3) := by decide +kernel
theorem dX11_told_109 : decode cX11_told 109 = .ok (.invokevirtual 158, 3) := by decide +kernel
theorem dX11_told_112 : decode cX11_told 112 = .ok (.ireturn, 1) := by decide +kernel
theorem dX11_told_113 : decode cX11_told 113 = .ok (.aload_n 3, 1) := by decide +kernel
theorem dX11_told_114 : decode cX11_told 114 = .ok (.iload 4, 2) := by decide +kernel
theorem dX11_told_116 : decode cX11_told 116 = .ok (.invokevirtual 161, 3) := by decide +kernel
theorem dX11_told_119 : decode cX11_told 119 = .ok (.ireturn, 1) := by decide +kernel
theorem dX11_told_120 : decode cX11_told 120 = .ok (.aload_n 3, 1) := by decide +kernel
theorem dX11_told_121 : decode cX11_told 121 = .ok (.iload_n 2, 1) := by decide +kernel
theorem dX11_told_122 : decode cX11_told 122 = .ok (.invokevirtual 164, 3) := by decide +kernel
theorem dX11_told_125 : decode cX11_told 125 = .ok (.ireturn, 1) := by decide +kernel
theorem dX11_as_0 : decode cX11_as 0 = .ok (.aload_n 0, 1) := by decide +kernel
theorem dX11_as_1 : decode cX11_as 1 = .ok (.getfield 10, 3) := by decide +kernel
theorem dX11_as_4 : decode cX11_as 4 = .ok (.getfield 55, 3) := by decide +kernel
theorem dX11_as_7 : decode cX11_as 7 = .ok (.iload_n 1, 1) := by decide +kernel
theorem dX11_as_8 : decode cX11_as 8 = .ok (.invokevirtual 142, 3) := by decide +kernel
theorem dX11_as_11 : decode cX11_as 11 = .ok (.astore_n 3, 1) := by decide +kernel
theorem dX11_as_12 : decode cX11_as 12 = .ok (.aload_n 3, 1) := by decide +kernel
theorem dX11_as_13 : decode cX11_as 13 = .ok (.ifnull 13, 3) := by decide +kernel
theorem dX11_as_16 : decode cX11_as 16 = .ok (.iload_n 2, 1) := by decide +kernel
theorem dX11_as_17 : decode cX11_as 17 = .ok (.iconst 0, 1) := by decide +kernel
theorem dX11_as_18 : decode cX11_as 18 = .ok (.bipush 6, 2) := by decide +kernel
theorem dX11_as_20 : decode cX11_as 20 = .ok (.invokestatic 50, 3) := by decide +kernel
theorem dX11_as_23 : decode cX11_as 23 = .ok (.ifCond .ne 6, 3) := by decide +kernel
theorem dX11_as_26 : decode cX11_as 26 = .ok (.ldc 54, 2) := by decide +kernel
theorem dX11_as_28 : decode cX11_as 28 = .ok (.ireturn, 1) := by decide +kernel
theorem dX11_as_29 : decode cX11_as 29 = .ok (.aload_n 3, 1) := by decide +kernel
theorem dX11_as_30 : decode cX11_as 30 = .ok (.getfield 167, 3) := by decide +kernel
theorem dX11_as_33 : decode cX11_as 33 = .ok (.iload_n 2, 1) := by decide +kernel
theorem dX11_as_34 : decode cX11_as 34 = .ok (.invokestatic 170, 3) := by decide +kernel
theorem dX11_as_37 : decode cX11_as 37 = .ok (.ifCond .eq 10, 3) := by decide +kernel
theorem dX11_as_40 : decode cX11_as 40 = .ok (.aload_n 3, 1) := by decide +kernel
theorem dX11_as_41 : decode cX11_as 41 = .ok (.getfield 173, 3) := by decide +kernel
theorem dX11_as_44 : decode cX11_as 44 = .ok (.goto 5, 3) := by decide +kernel
theorem dX11_as_47 : decode cX11_as 47 = .ok (.ldc 176, 2) := by decide +kernel
theorem dX11_as_49 : decode cX11_as 49 = .ok (.ireturn, 1) := by decide +kernel
theorem dX11_ahead_0 : decode cX11_ahead 0 = .ok (.aload_n 0, 1) := by decide +kernel
theorem dX11_ahead_1 : decode cX11_ahead 1 = .ok (.getfield 10, 3) := by decide +kernel
theorem dX11_ahead_4 : decode cX11_ahead 4 = .ok (.getfield 55, 3) := by decide +kernel
theorem dX11_ahead_7 : decode cX11_ahead 7 = .ok (.iload_n 1, 1) := by decide +kernel
theorem dX11_ahead_8 : decode cX11_ahead 8 = .ok (.invokevirtual 142, 3) := by decide +kernel
theorem dX11_ahead_11 : decode cX11_ahead 11 = .ok (.astore_n 3, 1) := by decide +kernel
theorem dX11_ahead_12 : decode cX11_ahead 12 = .ok (.aload_n 3, 1) := by decide +kernel
theorem dX11_ahead_13 : decode cX11_ahead 13 = .ok (.ifnull 13, 3) := by decide +kernel
theorem dX11_ahead_16 : decode cX11_ahead 16 = .ok (.iload_n 2, 1) := by decide +kernel
theorem dX11_ahead_17 : decode cX11_ahead 17 = .ok (.iconst 0, 1) := by decide +kernel
theorem dX11_ahead_18 : decode cX11_ahead 18 = .ok (.ldc 177, 2) := by decide +kernel
theorem dX11_ahead_20 : decode cX11_ahead 20 = .ok (.invokestatic 50, 3) := by decide +kernel
theorem dX11_ahead_23 : decode cX11_ahead 23 = .ok (.ifCond .ne 6, 3) := by decide +kernel
theorem dX11_ahead_26 : decode cX11_ahead 26 = .ok (.ldc 54, 2) := by decide +kernel
theorem dX11_ahead_28 : decode cX11_ahead 28 = .ok (.ireturn, 1) := by decide +kernel
theorem dX11_ahead_29 : decode cX11_ahead 29 = .ok (.aload_n 3, 1) := by decide +kernel
theorem dX11_ahead_30 : decode cX11_ahead 30 = .ok (.getfield 178, 3) := by decide +kernel
theorem dX11_ahead_33 : decode cX11_ahead 33 = .ok (.istore 4, 2) := by decide +kernel
theorem dX11_ahead_35 : decode cX11_ahead 35 = .ok (.aload_n 3, 1) := by decide +kernel
theorem dX11_ahead_36 : decode cX11_ahead 36 = .ok (.iload_n 2, 1) := by decide +kernel
theorem dX11_ahead_37 : decode cX11_ahead 37 = .ok (.putfield 178, 3) := by decide +kernel
theorem dX11_ahead_40 : decode cX11_ahead 40 = .ok (.iload 4, 2) := by decide +kernel
theorem dX11_ahead_42 : decode cX11_ahead 42 = .ok (.ireturn, 1) := by decide +kernel
theorem dX11_days_0 : decode cX11_days 0 = .ok (.aload_n 0, 1) := by decide +kernel
theorem dX11_days_1 : decode cX11_days 1 = .ok (.getfield 10, 3) := by decide +kernel
theorem dX11_days_4 : decode cX11_days 4 = .ok (.getfield 55, 3) := by decide +kernel
theorem dX11_days_7 : decode cX11_days 7 = .ok (.iload_n 1, 1) := by decide +kernel
theorem dX11_days_8 : decode cX11_days 8 = .ok (.invokevirtual 142, 3) := by decide +kernel
theorem dX11_days_11 : decode cX11_days 11 = .ok (.astore_n 3, 1) := by decide +kernel
theorem dX11_days_12 : decode cX11_days 12 = .ok (.aload_n 3, 1) := by decide +kernel
theorem dX11_days_13 : decode cX11_days 13 = .ok (.ifnull 13, 3) := by decide +kernel
theorem dX11_days_16 : decode cX11_days 16 = .ok (.iload_n 2, 1) := by decide +kernel
theorem dX11_days_17 : decode cX11_days 17 = .ok (.iconst 1, 1) := by decide +kernel
theorem dX11_days_18 : decode cX11_days 18 = .ok (.bipush 99, 2) := by decide +kernel
theorem dX11_days_20 : decode cX11_days 20 = .ok (.invokestatic 50, 3) := by decide +kernel
theorem dX11_days_23 : decode cX11_days 23 = .ok (.ifCond .ne 6, 3) := by decide +kernel
theorem dX11_days_26 : decode cX11_days 26 = .ok (.ldc 54, 2) := by decide +kernel
theorem dX11_days_28 : decode cX11_days 28 = .ok (.ireturn, 1) := by decide +kernel
theorem dX11_days_29 : decode cX11_days 29 = .ok (.aload_n 3, 1) := by decide +kernel
theorem dX11_days_30 : decode cX11_days 30 = .ok (.getfield 181, 3) := by decide +kernel
theorem dX11_days_33 : decode cX11_days 33 = .ok (.istore 4, 2) := by decide +kernel
theorem dX11_days_35 : decode cX11_days 35 = .ok (.aload_n 3, 1) := by decide +kernel
theorem dX11_days_36 : decode cX11_days 36 = .ok (.iload_n 2, 1) := by decide +kernel
theorem dX11_days_37 : decode cX11_days 37 = .ok (.putfield 181, 3) := by decide +kernel
theorem dX11_days_40 : decode cX11_days 40 = .ok (.iload 4, 2) := by decide +kernel
theorem dX11_days_42 : decode cX11_days 42 = .ok (.ireturn, 1) := by decide +kernel
theorem dX11_gang_0 : decode cX11_gang 0 = .ok (.iload_n 1, 1) := by decide +kernel
theorem dX11_gang_1 : decode cX11_gang 1 = .ok (.iconst 1, 1) := by decide +kernel
theorem dX11_gang_2 : decode cX11_gang 2 = .ok (.bipush 99, 2) := by decide +kernel
theorem dX11_gang_4 : decode cX11_gang 4 = .ok (.invokestatic 50, 3) := by decide +kernel
theorem dX11_gang_7 : decode cX11_gang 7 = .ok (.ifCond .eq 17, 3) := by decide +kernel
theorem dX11_gang_10 : decode cX11_gang 10 = .ok (.aload_n 0, 1) := by decide +kernel
theorem dX11_gang_11 : decode cX11_gang 11 = .ok (.getfield 10, 3) := by decide +kernel
theorem dX11_gang_14 : decode cX11_gang 14 = .ok (.getfield 55, 3) := by decide +kernel
theorem dX11_gang_17 : decode cX11_gang 17 = .ok (.iload_n 1, 1) := by decide +kernel
theorem dX11_gang_18 : decode cX11_gang 18 = .ok (.invokevirtual 184, 3) := by decide +kernel
theorem dX11_gang_21 : decode cX11_gang 21 = .ok (.goto 5, 3) := by decide +kernel
theorem dX11_gang_24 : decode cX11_gang 24 = .ok (.ldc 54, 2) := by decide +kernel
theorem dX11_gang_26 : decode cX11_gang 26 = .ok (.ireturn, 1) := by decide +kernel
theorem dX11_goes_0 : decode cX11_goes 0 = .ok (.iload_n 1, 1) := by decide +kernel
theorem dX11_goes_1 : decode cX11_goes 1 = .ok (.iconst 0, 1) := by decide +kernel
theorem dX11_goes_2 : decode cX11_goes 2 = .ok (.aload_n 0, 1) := by decide +kernel
theorem dX11_goes_3 : decode cX11_goes 3 = .ok (.getfield 10, 3) := by decide +kernel
theorem dX11_goes_6 : decode cX11_goes 6 = .ok (.getfield 55, 3) := by decide +kernel
theorem dX11_goes_9 : decode cX11_goes 9 = .ok (.getfield 187, 3) := by decide +kernel
theorem dX11_goes_12 : decode cX11_goes 12 = .ok (.iconst 1, 1) := by decide +kernel
theorem dX11_goes_13 : decode cX11_goes 13 = .ok (.isub, 1) := by decide +kernel
theorem dX11_goes_14 : decode cX11_goes 14 = .ok (.invokestatic 50, 3) := by decide +kernel
theorem dX11_goes_17 : decode cX11_goes 17 = .ok (.ifCond .ne 6, 3) := by decide +kernel
theorem dX11_goes_20 : decode cX11_goes 20 = .ok (.ldc 54, 2) := by decide +kernel
theorem dX11_goes_22 : decode cX11_goes 22 = .ok (.ireturn, 1) := by decide +kernel
theorem dX11_goes_23 : decode cX11_goes 23 = .ok (.iload_n 2, 1) := by decide +kernel
theorem dX11_goes_24 : decode cX11_goes 24 = .ok (.ldc 97, 2) := by decide +kernel
theorem dX11_goes_26 : decode cX11_goes 26 = .ok (.if_icmp .eq 20, 3) := by decide +kernel
theorem dX11_goes_29 : decode cX11_goes 29 = .ok (.aload_n 0, 1) := by decide +kernel
theorem dX11_goes_30 : decode cX11_goes 30 = .ok (.getfield 10, 3) := by decide +kernel
theorem dX11_goes_33 : decode cX11_goes 33 = .ok (.getfield 55, 3) := by decide +kernel
theorem dX11_goes_36 : decode cX11_goes 36 = .ok (.iload_n 2, 1) := by decide +kernel
theorem dX11_goes_37 : decode cX11_goes 37 = .ok (.invokevirtual 142, 3) := by decide +kernel
theorem dX11_goes_40 : decode cX11_goes 40 = .ok (.ifnonnull 6, 3) := by decide +kernel
theorem dX11_goes_43 : decode cX11_goes 43 = .ok (.ldc 54, 2) := by decide +kernel
theorem dX11_goes_45 : decode cX11_goes 45 = .ok (.ireturn, 1) := by decide +kernel
theorem dX11_goes_46 : decode cX11_goes 46 = .ok (.iload_n 2, 1) := by decide +kernel
theorem dX11_goes_47 : decode cX11_goes 47 = .ok (.ldc 97, 2) := by decide +kernel
theorem dX11_goes_49 : decode cX11_goes 49 = .ok (.if_icmp .ne 8, 3) := by decide +kernel
theorem dX11_goes_52 : decode cX11_goes 52 = .ok (.ldc 97, 2) := by decide +kernel
theorem dX11_goes_54 : decode cX11_goes 54 = .ok (.goto 14, 3) := by decide +kernel
theorem dX11_goes_57 : decode cX11_goes 57 = .ok (.aload_n 0, 1) := by decide +kernel
theorem dX11_goes_58 : decode cX11_goes 58 = .ok (.getfield 10, 3) := by decide +kernel
theorem dX11_goes_61 : decode cX11_goes 61 = .ok (.getfield 55, 3) := by decide +kernel
theorem dX11_goes_64 : decode cX11_goes 64 = .ok (.iload_n 2, 1) := by decide +kernel
theorem dX11_goes_65 : decode cX11_goes 65 = .ok (.invokevirtual 149, 3) := by decide +kernel
theorem dX11_goes_68 : decode cX11_goes 68 = .ok (.istore_n 3, 1) := by decide +kernel
theorem dX11_goes_69 : decode cX11_goes 69 = .ok (.iload_n 3, 1) := by decide +kernel
theorem dX11_goes_70 : decode cX11_goes 70 = .ok (.ldc 97, 2) := by decide +kernel
theorem dX11_goes_72 : decode cX11_goes 72 = .ok (.if_icmp .eq 11, 3) := by decide +kernel
theorem dX11_goes_75 : decode cX11_goes 75 = .ok (.iload_n 3, 1) := by decide +kernel
theorem dX11_goes_76 : decode cX11_goes 76 = .ok (.iload_n 1, 1) := by decide +kernel
theorem dX11_goes_77 : decode cX11_goes 77 = .ok (.if_icmp .eq 6, 3) := by decide +kernel
theorem dX11_goes_80 : decode cX11_goes 80 = .ok (.ldc 64, 2) := by decide +kernel
theorem dX11_goes_82 : decode cX11_goes 82 = .ok (.ireturn, 1) := by decide +kernel
theorem dX11_goes_83 : decode cX11_goes 83 = .ok (.aload_n 0, 1) := by decide +kernel
theorem dX11_goes_84 : decode cX11_goes 84 = .ok (.getfield 10, 3) := by decide +kernel
theorem dX11_goes_87 : decode cX11_goes 87 = .ok (.getfield 55, 3) := by decide +kernel
theorem dX11_goes_90 : decode cX11_goes 90 = .ok (.getfield 190, 3) := by decide +kernel
theorem dX11_goes_93 : decode cX11_goes 93 = .ok (.iload_n 1, 1) := by decide +kernel
theorem dX11_goes_94 : decode cX11_goes 94 = .ok (.iload_n 2, 1) := by decide +kernel
theorem dX11_goes_95 : decode cX11_goes 95 = .ok (.invokestatic 82, 3) := by decide +kernel
theorem dX11_goes_98 : decode cX11_goes 98 = .ok (.ireturn, 1) := by decide +kernel
theorem dX11_wet_0 : decode cX11_wet 0 = .ok (.iload_n 1, 1) := by decide +kernel
theorem dX11_wet_1 : decode cX11_wet 1 = .ok (.iconst 0, 1) := by decide +kernel
theorem dX11_wet_2 : decode cX11_wet 2 = .ok (.sipush 1999, 3) := by decide +kernel
theorem dX11_wet_5 : decode cX11_wet 5 = .ok (.invokestatic 50, 3) := by decide +kernel
theorem dX11_wet_8 : decode cX11_wet 8 = .ok (.ifCond .eq 13, 3) := by decide +kernel
theorem dX11_wet_11 : decode cX11_wet 11 = .ok (.iload_n 2, 1) := by decide +kernel
theorem dX11_wet_12 : decode cX11_wet 12 = .ok (.iconst 0, 1) := by decide +kernel
theorem dX11_wet_13 : decode cX11_wet 13 = .ok (.bipush 9, 2) := by decide +kernel
theorem dX11_wet_15 : decode cX11_wet 15 = .ok (.invokestatic 50, 3) := by decide +kernel
theorem dX11_wet_18 : decode cX11_wet 18 = .ok (.ifCond .ne 6, 3) := by decide +kernel
theorem dX11_wet_21 : decode cX11_wet 21 = .ok (.ldc 54, 2) := by decide +kernel
theorem dX11_wet_23 : decode cX11_wet 23 = .ok (.ireturn, 1) := by decide +kernel
theorem dX11_wet_24 : decode cX11_wet 24 = .ok (.aload_n 0, 1) := by decide +kernel
theorem dX11_wet_25 : decode cX11_wet 25 = .ok (.getfield 10, 3) := by decide +kernel
theorem dX11_wet_28 : decode cX11_wet 28 = .ok (.getfield 193, 3) := by decide +kernel
theorem dX11_wet_31 : decode cX11_wet 31 = .ok (.iload_n 1, 1) := by decide +kernel
theorem dX11_wet_32 : decode cX11_wet 32 = .ok (.iload_n 2, 1) := by decide +kernel
theorem dX11_wet_33 : decode cX11_wet 33 = .ok (.invokestatic 82, 3) := by decide +kernel
theorem dX11_wet_36 : decode cX11_wet 36 = .ok (.ireturn, 1) := by decide +kernel
theorem dX11_run_0 : decode cX11_run 0 = .ok (.iload_n 1, 1) := by decide +kernel
theorem dX11_run_1 : decode cX11_run 1 = .ok (.iconst 1, 1) := by decide +kernel
theorem dX11_run_2 : decode cX11_run 2 = .ok (.bipush 60, 2) := by decide +kernel
theorem dX11_run_4 : decode cX11_run 4 = .ok (.invokestatic 50, 3) := by decide +kernel
theorem dX11_run_7 : decode cX11_run 7 = .ok (.ifCond .ne 6, 3) := by decide +kernel
theorem dX11_run_10 : decode cX11_run 10 = .ok (.ldc 54, 2) := by decide +kernel
theorem dX11_run_12 : decode cX11_run 12 = .ok (.ireturn, 1) := by decide +kernel
theorem dX11_run_13 : decode cX11_run 13 = .ok (.aload_n 0, 1) := by decide +kernel
theorem dX11_run_14 : decode cX11_run 14 = .ok (.getfield 10, 3) := by decide +kernel
theorem dX11_run_17 : decode cX11_run 17 = .ok (.getfield 152, 3) := by decide +kernel
theorem dX11_run_20 : decode cX11_run 20 = .ok (.iload_n 1, 1) := by decide +kernel
theorem dX11_run_21 : decode cX11_run 21 = .ok (.iadd, 1) := by decide +kernel
theorem dX11_run_22 : decode cX11_run 22 = .ok (.sipush 1999, 3) := by decide +kernel
theorem dX11_run_25 : decode cX11_run 25 = .ok (.if_icmp .le 6, 3) := by decide +kernel
theorem dX11_run_28 : decode cX11_run 28 = .ok (.ldc 196, 2) := by decide +kernel
theorem dX11_run_30 : decode cX11_run 30 = .ok (.ireturn, 1) := by decide +kernel
theorem dX11_run_31 : decode cX11_run 31 = .ok (.iconst 0, 1) := by decide +kernel
theorem dX11_run_32 : decode cX11_run 32 = .ok (.istore_n 2, 1) := by decide +kernel
theorem dX11_run_33 : decode cX11_run 33 = .ok (.iload_n 2, 1) := by decide +kernel
theorem dX11_run_34 : decode cX11_run 34 = .ok (.iload_n 1, 1) := by decide +kernel
theorem dX11_run_35 : decode cX11_run 35 = .ok (.if_icmp .ge 16, 3) := by decide +kernel
theorem dX11_run_38 : decode cX11_run 38 = .ok (.aload_n 0, 1) := by decide +kernel
theorem dX11_run_39 : decode cX11_run 39 = .ok (.getfield 10, 3) := by decide +kernel
theorem dX11_run_42 : decode cX11_run 42 = .ok (.invokevirtual 197, 3) := by decide +kernel
theorem dX11_run_45 : decode cX11_run 45 = .ok (.iinc 2 1, 3) := by decide +kernel
theorem dX11_run_48 : decode cX11_run 48 = .ok (.goto (-15), 3) := by decide +kernel
theorem dX11_run_51 : decode cX11_run 51 = .ok (.aload_n 0, 1) := by decide +kernel
theorem dX11_run_52 : decode cX11_run 52 = .ok (.getfield 10, 3) := by decide +kernel
theorem dX11_run_55 : decode cX11_run 55 = .ok (.getfield 152, 3) := by decide +kernel
theorem dX11_run_58 : decode cX11_run 58 = .ok (.ireturn, 1) := by decide +kernel
theorem dX11_foretold_0 : decode cX11_foretold 0 = .ok (.aload_n 0, 1) := by decide +kernel
theorem dX11_foretold_1 : decode cX11_foretold 1 = .ok (.getfield 10, 3) := by decide +kernel
theorem dX11_foretold_4 : decode cX11_foretold 4 = .ok (.getfield 55, 3) := by decide +kernel
theorem dX11_foretold_7 : decode cX11_foretold 7 = .ok (.iconst 1, 1) := by decide +kernel
theorem dX11_foretold_8 : decode cX11_foretold 8 = .ok (.iconst 0, 1) := by decide +kernel
theorem dX11_foretold_9 : decode cX11_foretold 9 = .ok (.invokevirtual 106, 3) := by decide +kernel
theorem dX11_foretold_12 : decode cX11_foretold 12 = .ok (.aload_n 0, 1) := by decide +kernel
theorem dX11_foretold_13 : decode cX11_foretold 13 = .ok (.getfield 10, 3) := by decide +kernel
theorem dX11_foretold_16 : decode cX11_foretold 16 = .ok (.getfield 55, 3) := by decide +kernel
theorem dX11_foretold_19 : decode cX11_foretold 19 = .ok (.iconst 5, 1) := by decide +kernel
theorem dX11_foretold_20 : decode cX11_foretold 20 = .ok (.iconst 0, 1) := by decide +kernel
theorem dX11_foretold_21 : decode cX11_foretold 21 = .ok (.invokevirtual 106, 3) := by decide +kernel
theorem dX11_foretold_24 : decode cX11_foretold 24 = .ok (.iconst (-1), 1) := by decide +kernel
theorem dX11_foretold_25 : decode cX11_foretold 25 = .ok (.ixor, 1) := by decide +kernel
theorem dX11_foretold_26 : decode cX11_foretold 26 = .ok (.iand, 1) := by decide +kernel
theorem dX11_foretold_27 : decode cX11_foretold 27 = .ok (.istore_n 1, 1) := by decide +kernel
theorem dX11_foretold_28 : decode cX11_foretold 28 = .ok (.iload_n 1, 1) := by decide +kernel
theorem dX11_foretold_29 : decode cX11_foretold 29 = .ok (.aload_n 0, 1) := by decide +kernel
theorem dX11_foretold_30 : decode cX11_foretold 30 = .ok (.getfield 10, 3) := by decide +kernel
theorem dX11_foretold_33 : decode cX11_foretold 33 = .ok (.getfield 65, 3) := by decide +kernel
theorem dX11_foretold_36 : decode cX11_foretold 36 = .ok (.getfield 86, 3) := by decide +kernel
theorem dX11_foretold_39 : decode cX11_foretold 39 = .ok (.iand, 1) := by decide +kernel
theorem dX11_foretold_40 : decode cX11_foretold 40 = .ok (.aload_n 0, 1) := by decide +kernel
theorem dX11_foretold_41 : decode cX11_foretold 41 = .ok (.getfield 10, 3) := by decide +kernel
theorem dX11_foretold_44 : decode cX11_foretold 44 = .ok (.getfield 65, 3) := by decide +kernel
theorem dX11_foretold_47 : decode cX11_foretold 47 = .ok (.invokevirtual 200, 3) := by decide +kernel
theorem dX11_foretold_50 : decode cX11_foretold 50 = .ok (.iand, 1) := by decide +kernel
theorem dX11_foretold_51 : decode cX11_foretold 51 = .ok (.ireturn, 1) := by decide +kernel
theorem dX11_feed_0 : decode cX11_feed 0 = .ok (.aload_n 0, 1) := by decide +kernel
theorem dX11_feed_1 : decode cX11_feed 1 = .ok (.getfield 25, 3) := by decide +kernel
theorem dX11_feed_4 : decode cX11_feed 4 = .ok (.getfield 203, 3) := by decide +kernel
theorem dX11_feed_7 : decode cX11_feed 7 = .ok (.bipush 12, 2) := by decide +kernel
theorem dX11_feed_9 : decode cX11_feed 9 = .ok (.iadd, 1) := by decide +kernel
theorem dX11_feed_10 : decode cX11_feed 10 = .ok (.bipush 96, 2) := by decide +kernel
theorem dX11_feed_12 : decode cX11_feed 12 = .ok (.if_icmp .le 6, 3) := by decide +kernel
theorem dX11_feed_15 : decode cX11_feed 15 = .ok (.ldc 196, 2) := by decide +kernel
theorem dX11_feed_17 : decode cX11_feed 17 = .ok (.ireturn, 1) := by decide +kernel
theorem dX11_feed_18 : decode cX11_feed 18 = .ok (.aload_n 0, 1) := by decide +kernel
theorem dX11_feed_19 : decode cX11_feed 19 = .ok (.getfield 25, 3) := by decide +kernel
theorem dX11_feed_22 : decode cX11_feed 22 = .ok (.iload_n 1, 1) := by decide +kernel
theorem dX11_feed_23 : decode cX11_feed 23 = .ok (.invokevirtual 206, 3) := by decide +kernel
theorem dX11_feed_26 : decode cX11_feed 26 = .ok (.aload_n 0, 1) := by decide +kernel
theorem dX11_feed_27 : decode cX11_feed 27 = .ok (.getfield 25, 3) := by decide +kernel
theorem dX11_feed_30 : decode cX11_feed 30 = .ok (.iload_n 2, 1) := by decide +kernel
theorem dX11_feed_31 : decode cX11_feed 31 = .ok (.invokevirtual 206, 3) := by decide +kernel
theorem dX11_feed_34 : decode cX11_feed 34 = .ok (.aload_n 0, 1) := by decide +kernel
theorem dX11_feed_35 : decode cX11_feed 35 = .ok (.getfield 25, 3) := by decide +kernel
theorem dX11_feed_38 : decode cX11_feed 38 = .ok (.iload_n 3, 1) := by decide +kernel
theorem dX11_feed_39 : decode cX11_feed 39 = .ok (.invokevirtual 206, 3) := by decide +kernel
theorem dX11_feed_42 : decode cX11_feed 42 = .ok (.aload_n 0, 1) := by decide +kernel
theorem dX11_feed_43 : decode cX11_feed 43 = .ok (.getfield 25, 3) := by decide +kernel
theorem dX11_feed_46 : decode cX11_feed 46 = .ok (.getfield 203, 3) := by decide +kernel
theorem dX11_feed_49 : decode cX11_feed 49 = .ok (.ireturn, 1) := by decide +kernel
theorem dX11_trim_0 : decode cX11_trim 0 = .ok (.iload_n 1, 1) := by decide +kernel
theorem dX11_trim_1 : decode cX11_trim 1 = .ok (.iconst 0, 1) := by decide +kernel
theorem dX11_trim_2 : decode cX11_trim 2 = .ok (.aload_n 0, 1) := by decide +kernel
theorem dX11_trim_3 : decode cX11_trim 3 = .ok (.getfield 25, 3) := by decide +kernel
theorem dX11_trim_6 : decode cX11_trim 6 = .ok (.getfield 203, 3) := by decide +kernel
theorem dX11_trim_9 : decode cX11_trim 9 = .ok (.invokestatic 50, 3) := by decide +kernel
theorem dX11_trim_12 : decode cX11_trim 12 = .ok (.ifCond .ne 6, 3) := by decide +kernel
theorem dX11_trim_15 : decode cX11_trim 15 = .ok (.ldc 54, 2) := by decide +kernel
theorem dX11_trim_17 : decode cX11_trim 17 = .ok (.ireturn, 1) := by decide +kernel
theorem dX11_trim_18 : decode cX11_trim 18 = .ok (.aload_n 0, 1) := by decide +kernel
theorem dX11_trim_19 : decode cX11_trim 19 = .ok (.getfield 25, 3) := by decide +kernel
theorem dX11_trim_22 : decode cX11_trim 22 = .ok (.iload_n 1, 1) := by decide +kernel
theorem dX11_trim_23 : decode cX11_trim 23 = .ok (.putfield 203, 3) := by decide +kernel
theorem dX11_trim_26 : decode cX11_trim 26 = .ok (.iload_n 1, 1) := by decide +kernel
theorem dX11_trim_27 : decode cX11_trim 27 = .ok (.ireturn, 1) := by decide +kernel
theorem dX11_text_0 : decode cX11_text 0 = .ok (.iload_n 1, 1) := by decide +kernel
theorem dX11_text_1 : decode cX11_text 1 = .ok (.iconst 0, 1) := by decide +kernel
theorem dX11_text_2 : decode cX11_text 2 = .ok (.sipush 1999, 3) := by decide +kernel
theorem dX11_text_5 : decode cX11_text 5 = .ok (.invokestatic 50, 3) := by decide +kernel
theorem dX11_text_8 : decode cX11_text 8 = .ok (.istore_n 2, 1) := by decide +kernel
theorem dX11_text_9 : decode cX11_text 9 = .ok (.iload_n 2, 1) := by decide +kernel
theorem dX11_text_10 : decode cX11_text 10 = .ok (.ifCond .eq 14, 3) := by decide +kernel
theorem dX11_text_13 : decode cX11_text 13 = .ok (.aload_n 0, 1) := by decide +kernel
theorem dX11_text_14 : decode cX11_text 14 = .ok (.getfield 25, 3) := by decide +kernel
theorem dX11_text_17 : decode cX11_text 17 = .ok (.iload_n 1, 1) := by decide +kernel
theorem dX11_text_18 : decode cX11_text 18 = .ok (.invokevirtual 209, 3) := by decide +kernel
theorem dX11_text_21 : decode cX11_text 21 = .ok (.goto 4, 3) := by decide +kernel
theorem dX11_text_24 : decode cX11_text 24 = .ok (.aconst_null, 1) := by decide +kernel
theorem dX11_text_25 : decode cX11_text 25 = .ok (.astore_n 3, 1) := by decide +kernel
theorem dX11_text_26 : decode cX11_text 26 = .ok (.aload_n 0, 1) := by decide +kernel
theorem dX11_text_27 : decode cX11_text 27 = .ok (.getfield 25, 3) := by decide +kernel
theorem dX11_text_30 : decode cX11_text 30 = .ok (.iconst 0, 1) := by decide +kernel
theorem dX11_text_31 : decode cX11_text 31 = .ok (.putfield 203, 3) := by decide +kernel
theorem dX11_text_34 : decode cX11_text 34 = .ok (.iload_n 2, 1) := by decide +kernel
theorem dX11_text_35 : decode cX11_text 35 = .ok (.ifCond .ne 6, 3) := by decide +kernel
theorem dX11_text_38 : decode cX11_text 38 = .ok (.ldc 54, 2) := by decide +kernel
theorem dX11_text_40 : decode cX11_text 40 = .ok (.ireturn, 1) := by decide +kernel
theorem dX11_text_41 : decode cX11_text 41 = .ok (.aload_n 3, 1) := by decide +kernel
theorem dX11_text_42 : decode cX11_text 42 = .ok (.ifnonnull 16, 3) := by decide +kernel
theorem dX11_text_45 : decode cX11_text 45 = .ok (.bipush (-100), 2) := by decide +kernel
theorem dX11_text_47 : decode cX11_text 47 = .ok (.aload_n 0, 1) := by decide +kernel
theorem dX11_text_48 : decode cX11_text 48 = .ok (.getfield 25, 3) := by decide +kernel
theorem dX11_text_51 : decode cX11_text 51 = .ok (.getfield 213, 3) := by decide +kernel
theorem dX11_text_54 : decode cX11_text 54 = .ok (.isub, 1) := by decide +kernel
theorem dX11_text_55 : decode cX11_text 55 = .ok (.goto 14, 3) := by decide +kernel
theorem dX11_text_58 : decode cX11_text 58 = .ok (.aload_n 0, 1) := by decide +kernel
theorem dX11_text_59 : decode cX11_text 59 = .ok (.getfield 10, 3) := by decide +kernel
theorem dX11_text_62 : decode cX11_text 62 = .ok (.getfield 216, 3) := by decide +kernel
theorem dX11_text_65 : decode cX11_text 65 = .ok (.aload_n 3, 1) := by decide +kernel
theorem dX11_text_66 : decode cX11_text 66 = .ok (.invokevirtual 220, 3) := by decide +kernel
theorem dX11_text_69 : decode cX11_text 69 = .ok (.ireturn, 1) := by decide +kernel
theorem dX11_of_0 : decode cX11_of 0 = .ok (.aload_n 0, 1) := by decide +kernel
theorem dX11_of_1 : decode cX11_of 1 = .ok (.getfield 10, 3) := by decide +kernel
theorem dX11_of_4 : decode cX11_of 4 = .ok (.getfield 216, 3) := by decide +kernel
theorem dX11_of_7 : decode cX11_of 7 = .ok (.iload_n 1, 1) := by decide +kernel
theorem dX11_of_8 : decode cX11_of 8 = .ok (.invokevirtual 226, 3) := by decide +kernel
theorem dX11_of_11 : decode cX11_of 11 = .ok (.astore_n 3, 1) := by decide +kernel
theorem dX11_of_12 : decode cX11_of 12 = .ok (.aload_n 3, 1) := by decide +kernel
theorem dX11_of_13 : decode cX11_of 13 = .ok (.ifnonnull 6, 3) := by decide +kernel
theorem dX11_of_16 : decode cX11_of 16 = .ok (.ldc 54, 2) := by decide +kernel
theorem dX11_of_18 : decode cX11_of 18 = .ok (.ireturn, 1) := by decide +kernel
theorem dX11_of_19 : decode cX11_of 19 = .ok (.iload_n 2, 1) := by decide +kernel
theorem dX11_of_20 : decode cX11_of 20 = .ok (.tableswitch 43 0 2 #[28, 33, 38], 28) := by decide +kernel
theorem dX11_of_48 : decode cX11_of 48 = .ok (.aload_n 3, 1) := by decide +kernel
theorem dX11_of_49 : decode cX11_of 49 = .ok (.getfield 228, 3) := by decide +kernel
theorem dX11_of_52 : decode cX11_of 52 = .ok (.ireturn, 1) := by decide +kernel
theorem dX11_of_53 : decode cX11_of 53 = .ok (.aload_n 3, 1) := by decide +kernel
theorem dX11_of_54 : decode cX11_of 54 = .ok (.getfield 233, 3) := by decide +kernel
theorem dX11_of_57 : decode cX11_of 57 = .ok (.ireturn, 1) := by decide +kernel
theorem dX11_of_58 : decode cX11_of 58 = .ok (.aload_n 3, 1) := by decide +kernel
theorem dX11_of_59 : decode cX11_of 59 = .ok (.getfield 234, 3) := by decide +kernel
theorem dX11_of_62 : decode cX11_of 62 = .ok (.ireturn, 1) := by decide +kernel
theorem dX11_of_63 : decode cX11_of 63 = .ok (.ldc 54, 2) := by decide +kernel
theorem dX11_of_65 : decode cX11_of 65 = .ok (.ireturn, 1) := by decide +kernel
theorem dX11_why_0 : decode cX11_why 0 = .ok (.iload_n 1, 1) := by decide +kernel
theorem dX11_why_1 : decode cX11_why 1 = .ok (.iconst 0, 1) := by decide +kernel
theorem dX11_why_2 : decode cX11_why 2 = .ok (.iconst 3, 1) := by decide +kernel
theorem dX11_why_3 : decode cX11_why 3 = .ok (.invokestatic 50, 3) := by decide +kernel
theorem dX11_why_6 : decode cX11_why 6 = .ok (.ifCond .eq 24, 3) := by decide +kernel
theorem dX11_why_9 : decode cX11_why 9 = .ok (.aload_n 0, 1) := by decide +kernel
theorem dX11_why_10 : decode cX11_why 10 = .ok (.getfield 10, 3) := by decide +kernel
theorem dX11_why_13 : decode cX11_why 13 = .ok (.getfield 216, 3) := by decide +kernel
theorem dX11_why_16 : decode cX11_why 16 = .ok (.iload_n 1, 1) := by decide +kernel
theorem dX11_why_17 : decode cX11_why 17 = .ok (.aload_n 0, 1) := by decide +kernel
theorem dX11_why_18 : decode cX11_why 18 = .ok (.getfield 10, 3) := by decide +kernel
theorem dX11_why_21 : decode cX11_why 21 = .ok (.getfield 152, 3) := by decide +kernel
theorem dX11_why_24 : decode cX11_why 24 = .ok (.invokevirtual 237, 3) := by decide +kernel
theorem dX11_why_27 : decode cX11_why 27 = .ok (.goto 5, 3) := by decide +kernel
theorem dX11_why_30 : decode cX11_why 30 = .ok (.ldc 54, 2) := by decide +kernel
theorem dX11_why_32 : decode cX11_why 32 = .ok (.ireturn, 1) := by decide +kernel
theorem dX11_rules_0 : decode cX11_rules 0 = .ok (.iload_n 1, 1) := by decide +kernel
theorem dX11_rules_1 : decode cX11_rules 1 = .ok (.iconst 0, 1) := by decide +kernel
theorem dX11_rules_2 : decode cX11_rules 2 = .ok (.iconst 3, 1) := by decide +kernel
theorem dX11_rules_3 : decode cX11_rules 3 = .ok (.invokestatic 50, 3) := by decide +kernel
theorem dX11_rules_6 : decode cX11_rules 6 = .ok (.ifCond .eq 28, 3) := by decide +kernel
theorem dX11_rules_9 : decode cX11_rules 9 = .ok (.aload_n 0, 1) := by decide +kernel
theorem dX11_rules_10 : decode cX11_rules 10 = .ok (.getfield 10, 3) := by decide +kernel
theorem dX11_rules_13 : decode cX11_rules 13 = .ok (.getfield 216, 3) := by decide +kernel
theorem dX11_rules_16 : decode cX11_rules 16 = .ok (.iload_n 1, 1) := by decide +kernel
theorem dX11_rules_17 : decode cX11_rules 17 = .ok (.aload_n 0, 1) := by decide +kernel
theorem dX11_rules_18 : decode cX11_rules 18 = .ok (.getfield 10, 3) := by decide +kernel
theorem dX11_rules_21 : decode cX11_rules 21 = .ok (.getfield 152, 3) := by decide +kernel
theorem dX11_rules_24 : decode cX11_rules 24 = .ok (.iload_n 2, 1) := by decide +kernel
theorem dX11_rules_25 : decode cX11_rules 25 = .ok (.iload_n 3, 1) := by decide +kernel
theorem dX11_rules_26 : decode cX11_rules 26 = .ok (.iload 4, 2) := by decide +kernel
theorem dX11_rules_28 : decode cX11_rules 28 = .ok (.invokevirtual 240, 3) := by decide +kernel
theorem dX11_rules_31 : decode cX11_rules 31 = .ok (.goto 5, 3) := by decide +kernel
theorem dX11_rules_34 : decode cX11_rules 34 = .ok (.ldc 54, 2) := by decide +kernel
theorem dX11_rules_36 : decode cX11_rules 36 = .ok (.ireturn, 1) := by decide +kernel
theorem dX11_price_0 : decode cX11_price 0 = .ok (.aload_n 0, 1) := by decide +kernel
theorem dX11_price_1 : decode cX11_price 1 = .ok (.getfield 10, 3) := by decide +kernel
theorem dX11_price_4 : decode cX11_price 4 = .ok (.getfield 55, 3) := by decide +kernel
theorem dX11_price_7 : decode cX11_price 7 = .ok (.iload_n 1, 1) := by decide +kernel
theorem dX11_price_8 : decode cX11_price 8 = .ok (.invokevirtual 142, 3) := by decide +kernel
theorem dX11_price_11 : decode cX11_price 11 = .ok (.astore_n 2, 1) := by decide +kernel
theorem dX11_price_12 : decode cX11_price 12 = .ok (.aload_n 2, 1) := by decide +kernel
theorem dX11_price_13 : decode cX11_price 13 = .ok (.ifnonnull 8, 3) := by decide +kernel
theorem dX11_price_16 : decode cX11_price 16 = .ok (.ldc 54, 2) := by decide +kernel
theorem dX11_price_18 : decode cX11_price 18 = .ok (.goto 11, 3) := by decide +kernel
theorem dX11_price_21 : decode cX11_price 21 = .ok (.aload_n 0, 1) := by decide +kernel
theorem dX11_price_22 : decode cX11_price 22 = .ok (.getfield 10, 3) := by decide +kernel
theorem dX11_price_25 : decode cX11_price 25 = .ok (.aload_n 2, 1) := by decide +kernel
theorem dX11_price_26 : decode cX11_price 26 = .ok (.invokevirtual 244, 3) := by decide +kernel
theorem dX11_price_29 : decode cX11_price 29 = .ok (.ireturn, 1) := by decide +kernel
theorem dX11_measure_0 : decode cX11_measure 0 = .ok (.aload_n 0, 1) := by decide +kernel
theorem dX11_measure_1 : decode cX11_measure 1 = .ok (.getfield 10, 3) := by decide +kernel
theorem dX11_measure_4 : decode cX11_measure 4 = .ok (.getfield 55, 3) := by decide +kernel
theorem dX11_measure_7 : decode cX11_measure 7 = .ok (.iload_n 1, 1) := by decide +kernel
theorem dX11_measure_8 : decode cX11_measure 8 = .ok (.invokevirtual 142, 3) := by decide +kernel
theorem dX11_measure_11 : decode cX11_measure 11 = .ok (.astore 4, 2) := by decide +kernel
theorem dX11_measure_13 : decode cX11_measure 13 = .ok (.aload 4, 2) := by decide +kernel
theorem dX11_measure_15 : decode cX11_measure 15 = .ok (.ifnull 23, 3) := by decide +kernel
theorem dX11_measure_18 : decode cX11_measure 18 = .ok (.iload_n 2, 1) := by decide +kernel
theorem dX11_measure_19 : decode cX11_measure 19 = .ok (.iconst 0, 1) := by decide +kernel
theorem dX11_measure_20 : decode cX11_measure 20 = .ok (.iconst 1, 1) := by decide +kernel
theorem dX11_measure_21 : decode cX11_measure 21 = .ok (.invokestatic 50, 3) := by decide +kernel
theorem dX11_measure_24 : decode cX11_measure 24 = .ok (.ifCond .eq 14, 3) := by decide +kernel
theorem dX11_measure_27 : decode cX11_measure 27 = .ok (.iload_n 3, 1) := by decide +kernel
theorem dX11_measure_28 : decode cX11_measure 28 = .ok (.iconst 0, 1) := by decide +kernel
theorem dX11_measure_29 : decode cX11_measure 29 = .ok (.sipush 9999, 3) := by decide +kernel
theorem dX11_measure_32 : decode cX11_measure 32 = .ok (.invokestatic 50, 3) := by decide +kernel
theorem dX11_measure_35 : decode cX11_measure 35 = .ok (.ifCond .ne 6, 3) := by decide +kernel
theorem dX11_measure_38 : decode cX11_measure 38 = .ok (.ldc 54, 2) := by decide +kernel
theorem dX11_measure_40 : decode cX11_measure 40 = .ok (.ireturn, 1) := by decide +kernel
theorem dX11_measure_41 : decode cX11_measure 41 = .ok (.aload 4, 2) := by decide +kernel
theorem dX11_measure_43 : decode cX11_measure 43 = .ok (.getfield 248, 3) := by decide +kernel
theorem dX11_measure_46 : decode cX11_measure 46 = .ok (.iload_n 2, 1) := by decide +kernel
theorem dX11_measure_47 : decode cX11_measure 47 = .ok (.iload_n 3, 1) := by decide +kernel
theorem dX11_measure_48 : decode cX11_measure 48 = .ok (.invokestatic 82, 3) := by decide +kernel
theorem dX11_measure_51 : decode cX11_measure 51 = .ok (.ireturn, 1) := by decide +kernel
theorem dX11_quarrels_0 : decode cX11_quarrels 0 = .ok (.aload_n 0, 1) := by decide +kernel
theorem dX11_quarrels_1 : decode cX11_quarrels 1 = .ok (.getfield 10, 3) := by decide +kernel
theorem dX11_quarrels_4 : decode cX11_quarrels 4 = .ok (.getfield 55, 3) := by decide +kernel
theorem dX11_quarrels_7 : decode cX11_quarrels 7 = .ok (.invokevirtual 251, 3) := by decide +kernel
theorem dX11_quarrels_10 : decode cX11_quarrels 10 = .ok (.ireturn, 1) := by decide +kernel
theorem dX11_claim_0 : decode cX11_claim 0 = .ok (.iload_n 1, 1) := by decide +kernel
theorem dX11_claim_1 : decode cX11_claim 1 = .ok (.iconst 0, 1) := by decide +kernel
theorem dX11_claim_2 : decode cX11_claim 2 = .ok (.sipush 1999, 3) := by decide +kernel
theorem dX11_claim_5 : decode cX11_claim 5 = .ok (.invokestatic 50, 3) := by decide +kernel
theorem dX11_claim_8 : decode cX11_claim 8 = .ok (.ifCond .eq 23, 3) := by decide +kernel
theorem dX11_claim_11 : decode cX11_claim 11 = .ok (.iload_n 2, 1) := by decide +kernel
theorem dX11_claim_12 : decode cX11_claim 12 = .ok (.iload_n 1, 1) := by decide +kernel
theorem dX11_claim_13 : decode cX11_claim 13 = .ok (.sipush 1999, 3) := by decide +kernel
theorem dX11_claim_16 : decode cX11_claim 16 = .ok (.invokestatic 50, 3) := by decide +kernel
theorem dX11_claim_19 : decode cX11_claim 19 = .ok (.ifCond .eq 12, 3) := by decide +kernel
theorem dX11_claim_22 : decode cX11_claim 22 = .ok (.iload_n 3, 1) := by decide +kernel
theorem dX11_claim_23 : decode cX11_claim 23 = .ok (.iconst 0, 1) := by decide +kernel
theorem dX11_claim_24 : decode cX11_claim 24 = .ok (.iconst 3, 1) := by decide +kernel
theorem dX11_claim_25 : decode cX11_claim 25 = .ok (.invokestatic 50, 3) := by decide +kernel
theorem dX11_claim_28 : decode cX11_claim 28 = .ok (.ifCond .ne 6, 3) := by decide +kernel
theorem dX11_claim_31 : decode cX11_claim 31 = .ok (.ldc 54, 2) := by decide +kernel
theorem dX11_claim_33 : decode cX11_claim 33 = .ok (.ireturn, 1) := by decide +kernel
theorem dX11_claim_34 : decode cX11_claim 34 = .ok (.aload_n 0, 1) := by decide +kernel
theorem dX11_claim_35 : decode cX11_claim 35 = .ok (.getfield 10, 3) := by decide +kernel
theorem dX11_claim_38 : decode cX11_claim 38 = .ok (.getfield 256, 3) := by decide +kernel
theorem dX11_claim_41 : decode cX11_claim 41 = .ok (.iload_n 1, 1) := by decide +kernel
theorem dX11_claim_42 : decode cX11_claim 42 = .ok (.iload_n 2, 1) := by decide +kernel
theorem dX11_claim_43 : decode cX11_claim 43 = .ok (.iload_n 3, 1) := by decide +kernel
theorem dX11_claim_44 : decode cX11_claim 44 = .ok (.invokevirtual 260, 3) := by decide +kernel
theorem dX11_claim_47 : decode cX11_claim 47 = .ok (.ireturn, 1) := by decide +kernel
theorem dX11_given_0 : decode cX11_given 0 = .ok (.iload_n 1, 1) := by decide +kernel
theorem dX11_given_1 : decode cX11_given 1 = .ok (.iconst 0, 1) := by decide +kernel
theorem dX11_given_2 : decode cX11_given 2 = .ok (.aload_n 0, 1) := by decide +kernel
theorem dX11_given_3 : decode cX11_given 3 = .ok (.getfield 10, 3) := by decide +kernel
theorem dX11_given_6 : decode cX11_given 6 = .ok (.getfield 256, 3) := by decide +kernel
theorem dX11_given_9 : decode cX11_given 9 = .ok (.getfield 263, 3) := by decide +kernel
theorem dX11_given_12 : decode cX11_given 12 = .ok (.iconst 1, 1) := by decide +kernel
theorem dX11_given_13 : decode cX11_given 13 = .ok (.isub, 1) := by decide +kernel
theorem dX11_given_14 : decode cX11_given 14 = .ok (.invokestatic 50, 3) := by decide +kernel
theorem dX11_given_17 : decode cX11_given 17 = .ok (.ifCond .ne 6, 3) := by decide +kernel
theorem dX11_given_20 : decode cX11_given 20 = .ok (.ldc 54, 2) := by decide +kernel
theorem dX11_given_22 : decode cX11_given 22 = .ok (.ireturn, 1) := by decide +kernel
theorem dX11_given_23 : decode cX11_given 23 = .ok (.aload_n 0, 1) := by decide +kernel
theorem dX11_given_24 : decode cX11_given 24 = .ok (.getfield 10, 3) := by decide +kernel
theorem dX11_given_27 : decode cX11_given 27 = .ok (.iload_n 1, 1) := by decide +kernel
theorem dX11_given_28 : decode cX11_given 28 = .ok (.iload_n 1, 1) := by decide +kernel
theorem dX11_given_29 : decode cX11_given 29 = .ok (.invokevirtual 264, 3) := by decide +kernel
theorem dX11_given_32 : decode cX11_given 32 = .ok (.ireturn, 1) := by decide +kernel
theorem dX11_late_0 : decode cX11_late 0 = .ok (.iload_n 1, 1) := by decide +kernel
theorem dX11_late_1 : decode cX11_late 1 = .ok (.iconst 0, 1) := by decide +kernel
theorem dX11_late_2 : decode cX11_late 2 = .ok (.sipush 9999, 3) := by decide +kernel
theorem dX11_late_5 : decode cX11_late 5 = .ok (.invokestatic 50, 3) := by decide +kernel
theorem dX11_late_8 : decode cX11_late 8 = .ok (.ifCond .ne 6, 3) := by decide +kernel
theorem dX11_late_11 : decode cX11_late 11 = .ok (.ldc 54, 2) := by decide +kernel
theorem dX11_late_13 : decode cX11_late 13 = .ok (.ireturn, 1) := by decide +kernel
theorem dX11_late_14 : decode cX11_late 14 = .ok (.iload_n 1, 1) := by decide +kernel
theorem dX11_late_15 : decode cX11_late 15 = .ok (.aload_n 0, 1) := by decide +kernel
theorem dX11_late_16 : decode cX11_late 16 = .ok (.getfield 10, 3) := by decide +kernel
theorem dX11_late_19 : decode cX11_late 19 = .ok (.getfield 65, 3) := by decide +kernel
theorem dX11_late_22 : decode cX11_late 22 = .ok (.getfield 113, 3) := by decide +kernel
theorem dX11_late_25 : decode cX11_late 25 = .ok (.iconst 5, 1) := by decide +kernel
theorem dX11_late_26 : decode cX11_late 26 = .ok (.iaload, 1) := by decide +kernel
theorem dX11_late_27 : decode cX11_late 27 = .ok (.isub, 1) := by decide +kernel
theorem dX11_late_28 : decode cX11_late 28 = .ok (.aload_n 0, 1) := by decide +kernel
theorem dX11_late_29 : decode cX11_late 29 = .ok (.getfield 10, 3) := by decide +kernel
theorem dX11_late_32 : decode cX11_late 32 = .ok (.iconst 0, 1) := by decide +kernel
theorem dX11_late_33 : decode cX11_late 33 = .ok (.aload_n 0, 1) := by decide +kernel
theorem dX11_late_34 : decode cX11_late 34 = .ok (.getfield 10, 3) := by decide +kernel
theorem dX11_late_37 : decode cX11_late 37 = .ok (.getfield 256, 3) := by decide +kernel
theorem dX11_late_40 : decode cX11_late 40 = .ok (.getfield 263, 3) := by decide +kernel
theorem dX11_late_43 : decode cX11_late 43 = .ok (.iconst 1, 1) := by decide +kernel
theorem dX11_late_44 : decode cX11_late 44 = .ok (.isub, 1) := by decide +kernel
theorem dX11_late_45 : decode cX11_late 45 = .ok (.invokevirtual 264, 3) := by decide +kernel
theorem dX11_late_48 : decode cX11_late 48 = .ok (.isub, 1) := by decide +kernel
theorem dX11_late_49 : decode cX11_late 49 = .ok (.istore_n 2, 1) := by decide +kernel
theorem dX11_late_50 : decode cX11_late 50 = .ok (.aload_n 0, 1) := by decide +kernel
theorem dX11_late_51 : decode cX11_late 51 = .ok (.getfield 10, 3) := by decide +kernel
theorem dX11_late_54 : decode cX11_late 54 = .ok (.getfield 216, 3) := by decide +kernel
theorem dX11_late_57 : decode cX11_late 57 = .ok (.iconst 2, 1) := by decide +kernel
theorem dX11_late_58 : decode cX11_late 58 = .ok (.aload_n 0, 1) := by decide +kernel
theorem dX11_late_59 : decode cX11_late 59 = .ok (.getfield 10, 3) := by decide +kernel
theorem dX11_late_62 : decode cX11_late 62 = .ok (.getfield 152, 3) := by decide +kernel
theorem dX11_late_65 : decode cX11_late 65 = .ok (.iconst 0, 1) := by decide +kernel
theorem dX11_late_66 : decode cX11_late 66 = .ok (.iload_n 2, 1) := by decide +kernel
theorem dX11_late_67 : decode cX11_late 67 = .ok (.invokestatic 267, 3) := by decide +kernel
theorem dX11_late_70 : decode cX11_late 70 = .ok (.iconst 0, 1) := by decide +kernel
theorem dX11_late_71 : decode cX11_late 71 = .ok (.iconst 0, 1) := by decide +kernel
theorem dX11_late_72 : decode cX11_late 72 = .ok (.invokevirtual 240, 3) := by decide +kernel
theorem dX11_late_75 : decode cX11_late 75 = .ok (.ireturn, 1) := by decide +kernel
theorem dX11_call_0 : decode cX11_call 0 = .ok (.iload_n 1, 1) := by decide +kernel
theorem dX11_call_1 : decode cX11_call 1 = .ok (.iconst 1, 1) := by decide +kernel
theorem dX11_call_2 : decode cX11_call 2 = .ok (.ldc_w 272, 3) := by decide +kernel
theorem dX11_call_5 : decode cX11_call 5 = .ok (.invokestatic 50, 3) := by decide +kernel
theorem dX11_call_8 : decode cX11_call 8 = .ok (.ifCond .ne 6, 3) := by decide +kernel
theorem dX11_call_11 : decode cX11_call 11 = .ok (.ldc 54, 2) := by decide +kernel
theorem dX11_call_13 : decode cX11_call 13 = .ok (.ireturn, 1) := by decide +kernel
theorem dX11_call_14 : decode cX11_call 14 = .ok (.aload_n 0, 1) := by decide +kernel
theorem dX11_call_15 : decode cX11_call 15 = .ok (.getfield 10, 3) := by decide +kernel
theorem dX11_call_18 : decode cX11_call 18 = .ok (.getfield 273, 3) := by decide +kernel
theorem dX11_call_21 : decode cX11_call 21 = .ok (.dup, 1) := by decide +kernel
theorem dX11_call_22 : decode cX11_call 22 = .ok (.getfield 277, 3) := by decide +kernel
theorem dX11_call_25 : decode cX11_call 25 = .ok (.iload_n 1, 1) := by decide +kernel
theorem dX11_call_26 : decode cX11_call 26 = .ok (.iadd, 1) := by decide +kernel
theorem dX11_call_27 : decode cX11_call 27 = .ok (.putfield 277, 3) := by decide +kernel
theorem dX11_call_30 : decode cX11_call 30 = .ok (.aload_n 0, 1) := by decide +kernel
theorem dX11_call_31 : decode cX11_call 31 = .ok (.getfield 10, 3) := by decide +kernel
theorem dX11_call_34 : decode cX11_call 34 = .ok (.getfield 273, 3) := by decide +kernel
theorem dX11_call_37 : decode cX11_call 37 = .ok (.getfield 277, 3) := by decide +kernel
theorem dX11_call_40 : decode cX11_call 40 = .ok (.ireturn, 1) := by decide +kernel
theorem dX11_due_0 : decode cX11_due 0 = .ok (.iload_n 1, 1) := by decide +kernel
theorem dX11_due_1 : decode cX11_due 1 = .ok (.aload_n 0, 1) := by decide +kernel
theorem dX11_due_2 : decode cX11_due 2 = .ok (.getfield 10, 3) := by decide +kernel
theorem dX11_due_5 : decode cX11_due 5 = .ok (.getfield 152, 3) := by decide +kernel
theorem dX11_due_8 : decode cX11_due 8 = .ok (.sipush 1999, 3) := by decide +kernel
theorem dX11_due_11 : decode cX11_due 11 = .ok (.invokestatic 50, 3) := by decide +kernel
theorem dX11_due_14 : decode cX11_due 14 = .ok (.ifCond .eq 16, 3) := by decide +kernel
theorem dX11_due_17 : decode cX11_due 17 = .ok (.iload_n 2, 1) := by decide +kernel
theorem dX11_due_18 : decode cX11_due 18 = .ok (.ldc_w 282, 3) := by decide +kernel
theorem dX11_due_21 : decode cX11_due 21 = .ok (.ldc_w 272, 3) := by decide +kernel
theorem dX11_due_24 : decode cX11_due 24 = .ok (.invokestatic 50, 3) := by decide +kernel
theorem dX11_due_27 : decode cX11_due 27 = .ok (.ifCond .ne 6, 3) := by decide +kernel
theorem dX11_due_30 : decode cX11_due 30 = .ok (.ldc 54, 2) := by decide +kernel
theorem dX11_due_32 : decode cX11_due 32 = .ok (.ireturn, 1) := by decide +kernel
theorem dX11_due_33 : decode cX11_due 33 = .ok (.aload_n 0, 1) := by decide +kernel
theorem dX11_due_34 : decode cX11_due 34 = .ok (.getfield 10, 3) := by decide +kernel
theorem dX11_due_37 : decode cX11_due 37 = .ok (.getfield 273, 3) := by decide +kernel
theorem dX11_due_40 : decode cX11_due 40 = .ok (.iload_n 1, 1) := by decide +kernel
theorem dX11_due_41 : decode cX11_due 41 = .ok (.iload_n 2, 1) := by decide +kernel
theorem dX11_due_42 : decode cX11_due 42 = .ok (.invokevirtual 283, 3) := by decide +kernel
theorem dX11_due_45 : decode cX11_due 45 = .ok (.ireturn, 1) := by decide +kernel
theorem dX11_out_0 : decode cX11_out 0 = .ok (.aload_n 0, 1) := by decide +kernel
theorem dX11_out_1 : decode cX11_out 1 = .ok (.getfield 10, 3) := by decide +kernel
theorem dX11_out_4 : decode cX11_out 4 = .ok (.getfield 273, 3) := by decide +kernel
theorem dX11_out_7 : decode cX11_out 7 = .ok (.aload_n 0, 1) := by decide +kernel
theorem dX11_out_8 : decode cX11_out 8 = .ok (.getfield 10, 3) := by decide +kernel
theorem dX11_out_11 : decode cX11_out 11 = .ok (.getfield 152, 3) := by decide +kernel
theorem dX11_out_14 : decode cX11_out 14 = .ok (.invokevirtual 286, 3) := by decide +kernel
theorem dX11_out_17 : decode cX11_out 17 = .ok (.ireturn, 1) := by decide +kernel
theorem dX11_face_0 : decode cX11_face 0 = .ok (.iload_n 1, 1) := by decide +kernel
theorem dX11_face_1 : decode cX11_face 1 = .ok (.iconst 0, 1) := by decide +kernel
theorem dX11_face_2 : decode cX11_face 2 = .ok (.sipush 1999, 3) := by decide +kernel
theorem dX11_face_5 : decode cX11_face 5 = .ok (.invokestatic 50, 3) := by decide +kernel
theorem dX11_face_8 : decode cX11_face 8 = .ok (.ifCond .eq 13, 3) := by decide +kernel
theorem dX11_face_11 : decode cX11_face 11 = .ok (.iload_n 2, 1) := by decide +kernel
theorem dX11_face_12 : decode cX11_face 12 = .ok (.iconst 1, 1) := by decide +kernel
theorem dX11_face_13 : decode cX11_face 13 = .ok (.bipush 99, 2) := by decide +kernel
theorem dX11_face_15 : decode cX11_face 15 = .ok (.invokestatic 50, 3) := by decide +kernel
theorem dX11_face_18 : decode cX11_face 18 = .ok (.ifCond .ne 6, 3) := by decide +kernel
theorem dX11_face_21 : decode cX11_face 21 = .ok (.ldc 54, 2) := by decide +kernel
theorem dX11_face_23 : decode cX11_face 23 = .ok (.ireturn, 1) := by decide +kernel
theorem dX11_face_24 : decode cX11_face 24 = .ok (.aload_n 0, 1) := by decide +kernel
theorem dX11_face_25 : decode cX11_face 25 = .ok (.getfield 10, 3) := by decide +kernel
theorem dX11_face_28 : decode cX11_face 28 = .ok (.getfield 289, 3) := by decide +kernel
theorem dX11_face_31 : decode cX11_face 31 = .ok (.iload_n 1, 1) := by decide +kernel
theorem dX11_face_32 : decode cX11_face 32 = .ok (.iload_n 2, 1) := by decide +kernel
theorem dX11_face_33 : decode cX11_face 33 = .ok (.invokevirtual 293, 3) := by decide +kernel
theorem dX11_face_36 : decode cX11_face 36 = .ok (.ireturn, 1) := by decide +kernel
theorem dX11_meets_0 : decode cX11_meets 0 = .ok (.iload_n 1, 1) := by decide +kernel
theorem dX11_meets_1 : decode cX11_meets 1 = .ok (.iconst 1, 1) := by decide +kernel
theorem dX11_meets_2 : decode cX11_meets 2 = .ok (.sipush 9999, 3) := by decide +kernel
theorem dX11_meets_5 : decode cX11_meets 5 = .ok (.invokestatic 50, 3) := by decide +kernel
theorem dX11_meets_8 : decode cX11_meets 8 = .ok (.ifCond .eq 17, 3) := by decide +kernel
theorem dX11_meets_11 : decode cX11_meets 11 = .ok (.aload_n 0, 1) := by decide +kernel
theorem dX11_meets_12 : decode cX11_meets 12 = .ok (.getfield 10, 3) := by decide +kernel
theorem dX11_meets_15 : decode cX11_meets 15 = .ok (.getfield 289, 3) := by decide +kernel
theorem dX11_meets_18 : decode cX11_meets 18 = .ok (.iload_n 1, 1) := by decide +kernel
theorem dX11_meets_19 : decode cX11_meets 19 = .ok (.invokevirtual 298, 3) := by decide +kernel
theorem dX11_meets_22 : decode cX11_meets 22 = .ok (.goto 5, 3) := by decide +kernel
theorem dX11_meets_25 : decode cX11_meets 25 = .ok (.ldc 54, 2) := by decide +kernel
theorem dX11_meets_27 : decode cX11_meets 27 = .ok (.ireturn, 1) := by decide +kernel
theorem dX11_arch_0 : decode cX11_arch 0 = .ok (.iload_n 1, 1) := by decide +kernel
theorem dX11_arch_1 : decode cX11_arch 1 = .ok (.iconst 1, 1) := by decide +kernel
theorem dX11_arch_2 : decode cX11_arch 2 = .ok (.bipush 9, 2) := by decide +kernel
theorem dX11_arch_4 : decode cX11_arch 4 = .ok (.invokestatic 50, 3) := by decide +kernel
theorem dX11_arch_7 : decode cX11_arch 7 = .ok (.ifCond .eq 17, 3) := by decide +kernel
theorem dX11_arch_10 : decode cX11_arch 10 = .ok (.aload_n 0, 1) := by decide +kernel
theorem dX11_arch_11 : decode cX11_arch 11 = .ok (.getfield 10, 3) := by decide +kernel
theorem dX11_arch_14 : decode cX11_arch 14 = .ok (.getfield 289, 3) := by decide +kernel
theorem dX11_arch_17 : decode cX11_arch 17 = .ok (.iload_n 1, 1) := by decide +kernel
theorem dX11_arch_18 : decode cX11_arch 18 = .ok (.invokevirtual 301, 3) := by decide +kernel
theorem dX11_arch_21 : decode cX11_arch 21 = .ok (.goto 5, 3) := by decide +kernel
theorem dX11_arch_24 : decode cX11_arch 24 = .ok (.ldc 54, 2) := by decide +kernel
theorem dX11_arch_26 : decode cX11_arch 26 = .ok (.ireturn, 1) := by decide +kernel
theorem dX11_order_0 : decode cX11_order 0 = .ok (.iload_n 1, 1) := by decide +kernel
theorem dX11_order_1 : decode cX11_order 1 = .ok (.iconst 0, 1) := by decide +kernel
theorem dX11_order_2 : decode cX11_order 2 = .ok (.bipush 9, 2) := by decide +kernel
theorem dX11_order_4 : decode cX11_order 4 = .ok (.invokestatic 50, 3) := by decide +kernel
theorem dX11_order_7 : decode cX11_order 7 = .ok (.ifCond .eq 7, 3) := by decide +kernel
theorem dX11_order_10 : decode cX11_order 10 = .ok (.iload_n 2, 1) := by decide +kernel
theorem dX11_order_11 : decode cX11_order 11 = .ok (.ifCond .ge 6, 3) := by decide +kernel
theorem dX11_order_14 : decode cX11_order 14 = .ok (.ldc 54, 2) := by decide +kernel
theorem dX11_order_16 : decode cX11_order 16 = .ok (.ireturn, 1) := by decide +kernel
theorem dX11_order_17 : decode cX11_order 17 = .ok (.aload_n 0, 1) := by decide +kernel
theorem dX11_order_18 : decode cX11_order 18 = .ok (.getfield 10, 3) := by decide +kernel
theorem dX11_order_21 : decode cX11_order 21 = .ok (.getfield 289, 3) := by decide +kernel
theorem dX11_order_24 : decode cX11_order 24 = .ok (.iload_n 1, 1) := by decide +kernel
theorem dX11_order_25 : decode cX11_order 25 = .ok (.iload_n 2, 1) := by decide +kernel
theorem dX11_order_26 : decode cX11_order 26 = .ok (.invokevirtual 304, 3) := by decide +kernel
theorem dX11_order_29 : decode cX11_order 29 = .ok (.ireturn, 1) := by decide +kernel
theorem dX11_through_0 : decode cX11_through 0 = .ok (.aload_n 0, 1) := by decide +kernel
theorem dX11_through_1 : decode cX11_through 1 = .ok (.getfield 10, 3) := by decide +kernel
theorem dX11_through_4 : decode cX11_through 4 = .ok (.getfield 55, 3) := by decide +kernel
theorem dX11_through_7 : decode cX11_through 7 = .ok (.iload_n 1, 1) := by decide +kernel
theorem dX11_through_8 : decode cX11_through 8 = .ok (.invokevirtual 142, 3) := by decide +kernel
theorem dX11_through_11 : decode cX11_through 11 = .ok (.ifnonnull 8, 3) := by decide +kernel
theorem dX11_through_14 : decode cX11_through 14 = .ok (.ldc 54, 2) := by decide +kernel
theorem dX11_through_16 : decode cX11_through 16 = .ok (.goto 14, 3) := by decide +kernel
theorem dX11_through_19 : decode cX11_through 19 = .ok (.aload_n 0, 1) := by decide +kernel
theorem dX11_through_20 : decode cX11_through 20 = .ok (.getfield 10, 3) := by decide +kernel
theorem dX11_through_23 : decode cX11_through 23 = .ok (.getfield 55, 3) := by decide +kernel
theorem dX11_through_26 : decode cX11_through 26 = .ok (.iload_n 1, 1) := by decide +kernel
theorem dX11_through_27 : decode cX11_through 27 = .ok (.invokevirtual 307, 3) := by decide +kernel
theorem dX11_through_30 : decode cX11_through 30 = .ok (.ireturn, 1) := by decide +kernel
theorem dX11_chain_0 : decode cX11_chain 0 = .ok (.aload_n 0, 1) := by decide +kernel
theorem dX11_chain_1 : decode cX11_chain 1 = .ok (.getfield 10, 3) := by decide +kernel
theorem dX11_chain_4 : decode cX11_chain 4 = .ok (.getfield 55, 3) := by decide +kernel
theorem dX11_chain_7 : decode cX11_chain 7 = .ok (.iload_n 1, 1) := by decide +kernel
theorem dX11_chain_8 : decode cX11_chain 8 = .ok (.invokevirtual 142, 3) := by decide +kernel
theorem dX11_chain_11 : decode cX11_chain 11 = .ok (.ifnull 7, 3) := by decide +kernel
theorem dX11_chain_14 : decode cX11_chain 14 = .ok (.iload_n 2, 1) := by decide +kernel
theorem dX11_chain_15 : decode cX11_chain 15 = .ok (.ifCond .ge 6, 3) := by decide +kernel
theorem dX11_chain_18 : decode cX11_chain 18 = .ok (.ldc 54, 2) := by decide +kernel
theorem dX11_chain_20 : decode cX11_chain 20 = .ok (.ireturn, 1) := by decide +kernel
theorem dX11_chain_21 : decode cX11_chain 21 = .ok (.aload_n 0, 1) := by decide +kernel
theorem dX11_chain_22 : decode cX11_chain 22 = .ok (.getfield 10, 3) := by decide +kernel
theorem dX11_chain_25 : decode cX11_chain 25 = .ok (.getfield 55, 3) := by decide +kernel
theorem dX11_chain_28 : decode cX11_chain 28 = .ok (.iload_n 1, 1) := by decide +kernel
theorem dX11_chain_29 : decode cX11_chain 29 = .ok (.iload_n 2, 1) := by decide +kernel
theorem dX11_chain_30 : decode cX11_chain 30 = .ok (.invokevirtual 310, 3) := by decide +kernel
theorem dX11_chain_33 : decode cX11_chain 33 = .ok (.ireturn, 1) := by decide +kernel
theorem dX11_survey_0 : decode cX11_survey 0 = .ok (.aload_n 0, 1) := by decide +kernel
theorem dX11_survey_1 : decode cX11_survey 1 = .ok (.iload_n 1, 1) := by decide +kernel
theorem dX11_survey_2 : decode cX11_survey 2 = .ok (.invokevirtual 313, 3) := by decide +kernel
theorem dX11_survey_5 : decode cX11_survey 5 = .ok (.astore 4, 2) := by decide +kernel
theorem dX11_survey_7 : decode cX11_survey 7 = .ok (.aload 4, 2) := by decide +kernel
theorem dX11_survey_9 : decode cX11_survey 9 = .ok (.ifnull 12, 3) := by decide +kernel
theorem dX11_survey_12 : decode cX11_survey 12 = .ok (.iload_n 2, 1) := by decide +kernel
theorem dX11_survey_13 : decode cX11_survey 13 = .ok (.iconst (-1), 1) := by decide +kernel
theorem dX11_survey_14 : decode cX11_survey 14 = .ok (.iconst 1, 1) := by decide +kernel
theorem dX11_survey_15 : decode cX11_survey 15 = .ok (.invokestatic 50, 3) := by decide +kernel
theorem dX11_survey_18 : decode cX11_survey 18 = .ok (.ifCond .ne 6, 3) := by decide +kernel
theorem dX11_survey_21 : decode cX11_survey 21 = .ok (.ldc 54, 2) := by decide +kernel
theorem dX11_survey_23 : decode cX11_survey 23 = .ok (.ireturn, 1) := by decide +kernel
theorem dX11_survey_24 : decode cX11_survey 24 = .ok (.iload_n 2, 1) := by decide +kernel
theorem dX11_survey_25 : decode cX11_survey 25 = .ok (.iconst (-1), 1) := by decide +kernel
theorem dX11_survey_26 : decode cX11_survey 26 = .ok (.if_icmp .ne 12, 3) := by decide +kernel
theorem dX11_survey_29 : decode cX11_survey 29 = .ok (.aload 4, 2) := by decide +kernel
theorem dX11_survey_31 : decode cX11_survey 31 = .ok (.iload_n 2, 1) := by decide +kernel
theorem dX11_survey_32 : decode cX11_survey 32 = .ok (.iconst 0, 1) := by decide +kernel
theorem dX11_survey_33 : decode cX11_survey 33 = .ok (.invokevirtual 317, 3) := by decide +kernel
theorem dX11_survey_36 : decode cX11_survey 36 = .ok (.iconst 0, 1) := by decide +kernel
theorem dX11_survey_37 : decode cX11_survey 37 = .ok (.ireturn, 1) := by decide +kernel
theorem dX11_survey_38 : decode cX11_survey 38 = .ok (.iload_n 3, 1) := by decide +kernel
theorem dX11_survey_39 : decode cX11_survey 39 = .ok (.bipush 24, 2) := by decide +kernel
theorem dX11_survey_41 : decode cX11_survey 41 = .ok (.if_icmp .le 6, 3) := by decide +kernel
theorem dX11_survey_44 : decode cX11_survey 44 = .ok (.ldc 54, 2) := by decide +kernel
theorem dX11_survey_46 : decode cX11_survey 46 = .ok (.ireturn, 1) := by decide +kernel
theorem dX11_survey_47 : decode cX11_survey 47 = .ok (.iload_n 3, 1) := by decide +kernel
theorem dX11_survey_48 : decode cX11_survey 48 = .ok (.ifCond .ge 7, 3) := by decide +kernel
theorem dX11_survey_51 : decode cX11_survey 51 = .ok (.ldc_w 320, 3) := by decide +kernel
theorem dX11_survey_54 : decode cX11_survey 54 = .ok (.ireturn, 1) := by decide +kernel
theorem dX11_survey_55 : decode cX11_survey 55 = .ok (.aload 4, 2) := by decide +kernel
theorem dX11_survey_57 : decode cX11_survey 57 = .ok (.iload_n 2, 1) := by decide +kernel
theorem dX11_survey_58 : decode cX11_survey 58 = .ok (.iload_n 3, 1) := by decide +kernel
theorem dX11_survey_59 : decode cX11_survey 59 = .ok (.invokevirtual 317, 3) := by decide +kernel
theorem dX11_survey_62 : decode cX11_survey 62 = .ok (.iload_n 3, 1) := by decide +kernel
theorem dX11_survey_63 : decode cX11_survey 63 = .ok (.ireturn, 1) := by decide +kernel
theorem dX11_note_0 : decode cX11_note 0 = .ok (.aload_n 0, 1) := by decide +kernel
theorem dX11_note_1 : decode cX11_note 1 = .ok (.iload_n 1, 1) := by decide +kernel
theorem dX11_note_2 : decode cX11_note 2 = .ok (.invokevirtual 313, 3) := by decide +kernel
theorem dX11_note_5 : decode cX11_note 5 = .ok (.astore 4, 2) := by decide +kernel
theorem dX11_note_7 : decode cX11_note 7 = .ok (.aload 4, 2) := by decide +kernel
theorem dX11_note_9 : decode cX11_note 9 = .ok (.ifnonnull 6, 3) := by decide +kernel
theorem dX11_note_12 : decode cX11_note 12 = .ok (.ldc 54, 2) := by decide +kernel
theorem dX11_note_14 : decode cX11_note 14 = .ok (.ireturn, 1) := by decide +kernel
theorem dX11_note_15 : decode cX11_note 15 = .ok (.aload 4, 2) := by decide +kernel
theorem dX11_note_17 : decode cX11_note 17 = .ok (.iload_n 2, 1) := by decide +kernel
theorem dX11_note_18 : decode cX11_note 18 = .ok (.invokevirtual 321, 3) := by decide +kernel
theorem dX11_note_21 : decode cX11_note 21 = .ok (.istore 5, 2) := by decide +kernel
theorem dX11_note_23 : decode cX11_note 23 = .ok (.iload 5, 2) := by decide +kernel
theorem dX11_note_25 : decode cX11_note 25 = .ok (.ifCond .ne 13, 3) := by decide +kernel
theorem dX11_note_28 : decode cX11_note 28 = .ok (.aload 4, 2) := by decide +kernel
theorem dX11_note_30 : decode cX11_note 30 = .ok (.iload_n 2, 1) := by decide +kernel
theorem dX11_note_31 : decode cX11_note 31 = .ok (.iload_n 3, 1) := by decide +kernel
theorem dX11_note_32 : decode cX11_note 32 = .ok (.invokevirtual 324, 3) := by decide +kernel
theorem dX11_note_35 : decode cX11_note 35 = .ok (.goto 5, 3) := by decide +kernel
theorem dX11_note_38 : decode cX11_note 38 = .ok (.iload 5, 2) := by decide +kernel
theorem dX11_note_40 : decode cX11_note 40 = .ok (.ireturn, 1) := by decide +kernel
theorem dX11_read_0 : decode cX11_read 0 = .ok (.aload_n 0, 1) := by decide +kernel
theorem dX11_read_1 : decode cX11_read 1 = .ok (.iload_n 1, 1) := by decide +kernel
theorem dX11_read_2 : decode cX11_read 2 = .ok (.invokevirtual 313, 3) := by decide +kernel
theorem dX11_read_5 : decode cX11_read 5 = .ok (.astore_n 3, 1) := by decide +kernel
theorem dX11_read_6 : decode cX11_read 6 = .ok (.aload_n 3, 1) := by decide +kernel
theorem dX11_read_7 : decode cX11_read 7 = .ok (.ifnonnull 6, 3) := by decide +kernel
theorem dX11_read_10 : decode cX11_read 10 = .ok (.ldc 54, 2) := by decide +kernel
theorem dX11_read_12 : decode cX11_read 12 = .ok (.ireturn, 1) := by decide +kernel
theorem dX11_read_13 : decode cX11_read 13 = .ok (.aload_n 3, 1) := by decide +kernel
theorem dX11_read_14 : decode cX11_read 14 = .ok (.iload_n 2, 1) := by decide +kernel
theorem dX11_read_15 : decode cX11_read 15 = .ok (.invokevirtual 321, 3) := by decide +kernel
theorem dX11_read_18 : decode cX11_read 18 = .ok (.istore 4, 2) := by decide +kernel
theorem dX11_read_20 : decode cX11_read 20 = .ok (.iload 4, 2) := by decide +kernel
theorem dX11_read_22 : decode cX11_read 22 = .ok (.ifCond .ne 11, 3) := by decide +kernel
theorem dX11_read_25 : decode cX11_read 25 = .ok (.aload_n 3, 1) := by decide +kernel
theorem dX11_read_26 : decode cX11_read 26 = .ok (.iload_n 2, 1) := by decide +kernel
theorem dX11_read_27 : decode cX11_read 27 = .ok (.invokevirtual 327, 3) := by decide +kernel
theorem dX11_read_30 : decode cX11_read 30 = .ok (.goto 5, 3) := by decide +kernel
theorem dX11_read_33 : decode cX11_read 33 = .ok (.iload 4, 2) := by decide +kernel
theorem dX11_read_35 : decode cX11_read 35 = .ok (.ireturn, 1) := by decide +kernel
theorem dX11_copy_0 : decode cX11_copy 0 = .ok (.aload_n 0, 1) := by decide +kernel
theorem dX11_copy_1 : decode cX11_copy 1 = .ok (.iload_n 1, 1) := by decide +kernel
theorem dX11_copy_2 : decode cX11_copy 2 = .ok (.invokevirtual 313, 3) := by decide +kernel
theorem dX11_copy_5 : decode cX11_copy 5 = .ok (.astore 6, 2) := by decide +kernel
theorem dX11_copy_7 : decode cX11_copy 7 = .ok (.aload_n 0, 1) := by decide +kernel
theorem dX11_copy_8 : decode cX11_copy 8 = .ok (.iload_n 3, 1) := by decide +kernel
theorem dX11_copy_9 : decode cX11_copy 9 = .ok (.invokevirtual 313, 3) := by decide +kernel
theorem dX11_copy_12 : decode cX11_copy 12 = .ok (.astore 7, 2) := by decide +kernel
theorem dX11_copy_14 : decode cX11_copy 14 = .ok (.aload 6, 2) := by decide +kernel
theorem dX11_copy_16 : decode cX11_copy 16 = .ok (.ifnull 8, 3) := by decide +kernel
theorem dX11_copy_19 : decode cX11_copy 19 = .ok (.aload 7, 2) := by decide +kernel
theorem dX11_copy_21 : decode cX11_copy 21 = .ok (.ifnonnull 6, 3) := by decide +kernel
theorem dX11_copy_24 : decode cX11_copy 24 = .ok (.ldc 54, 2) := by decide +kernel
theorem dX11_copy_26 : decode cX11_copy 26 = .ok (.ireturn, 1) := by decide +kernel
theorem dX11_copy_27 : decode cX11_copy 27 = .ok (.aload 6, 2) := by decide +kernel
theorem dX11_copy_29 : decode cX11_copy 29 = .ok (.getfield 330, 3) := by decide +kernel
theorem dX11_copy_32 : decode cX11_copy 32 = .ok (.iconst (-1), 1) := by decide +kernel
theorem dX11_copy_33 : decode cX11_copy 33 = .ok (.if_icmp .eq 12, 3) := by decide +kernel
theorem dX11_copy_36 : decode cX11_copy 36 = .ok (.aload 7, 2) := by decide +kernel
theorem dX11_copy_38 : decode cX11_copy 38 = .ok (.getfield 330, 3) := by decide +kernel
theorem dX11_copy_41 : decode cX11_copy 41 = .ok (.iconst (-1), 1) := by decide +kernel
theorem dX11_copy_42 : decode cX11_copy 42 = .ok (.if_icmp .ne 7, 3) := by decide +kernel
theorem dX11_copy_45 : decode cX11_copy 45 = .ok (.ldc_w 333, 3) := by decide +kernel
theorem dX11_copy_48 : decode cX11_copy 48 = .ok (.ireturn, 1) := by decide +kernel
theorem dX11_copy_49 : decode cX11_copy 49 = .ok (.aload 6, 2) := by decide +kernel
theorem dX11_copy_51 : decode cX11_copy 51 = .ok (.getfield 330, 3) := by decide +kernel
theorem dX11_copy_54 : decode cX11_copy 54 = .ok (.aload 7, 2) := by decide +kernel
theorem dX11_copy_56 : decode cX11_copy 56 = .ok (.getfield 330, 3) := by decide +kernel
theorem dX11_copy_59 : decode cX11_copy 59 = .ok (.if_icmp .eq 6, 3) := by decide +kernel
theorem dX11_copy_62 : decode cX11_copy 62 = .ok (.ldc 176, 2) := by decide +kernel
theorem dX11_copy_64 : decode cX11_copy 64 = .ok (.ireturn, 1) := by decide +kernel
theorem dX11_copy_65 : decode cX11_copy 65 = .ok (.aload 6, 2) := by decide +kernel
theorem dX11_copy_67 : decode cX11_copy 67 = .ok (.iload_n 2, 1) := by decide +kernel
theorem dX11_copy_68 : decode cX11_copy 68 = .ok (.iload 5, 2) := by decide +kernel
theorem dX11_copy_70 : decode cX11_copy 70 = .ok (.invokevirtual 334, 3) := by decide +kernel
theorem dX11_copy_73 : decode cX11_copy 73 = .ok (.ifCond .eq 15, 3) := by decide +kernel
theorem dX11_copy_76 : decode cX11_copy 76 = .ok (.aload 7, 2) := by decide +kernel
theorem dX11_copy_78 : decode cX11_copy 78 = .ok (.iload 4, 2) := by decide +kernel
theorem dX11_copy_80 : decode cX11_copy 80 = .ok (.iload 5, 2) := by decide +kernel
theorem dX11_copy_82 : decode cX11_copy 82 = .ok (.invokevirtual 334, 3) := by decide +kernel
theorem dX11_copy_85 : decode cX11_copy 85 = .ok (.ifCond .ne 7, 3) := by decide +kernel
theorem dX11_copy_88 : decode cX11_copy 88 = .ok (.ldc_w 337, 3) := by decide +kernel
theorem dX11_copy_91 : decode cX11_copy 91 = .ok (.ireturn, 1) := by decide +kernel
theorem dX11_copy_92 : decode cX11_copy 92 = .ok (.aload 6, 2) := by decide +kernel
theorem dX11_copy_94 : decode cX11_copy 94 = .ok (.getfield 338, 3) := by decide +kernel
theorem dX11_copy_97 : decode cX11_copy 97 = .ok (.iload_n 2, 1) := by decide +kernel
theorem dX11_copy_98 : decode cX11_copy 98 = .ok (.aload 7, 2) := by decide +kernel
theorem dX11_copy_100 : decode cX11_copy 100 = .ok (.getfield 338, 3) := by decide +kernel
theorem dX11_copy_103 : decode cX11_copy 103 = .ok (.iload 4, 2) := by decide +kernel
theorem dX11_copy_105 : decode cX11_copy 105 = .ok (.iload 5, 2) := by decide +kernel
theorem dX11_copy_107 : decode cX11_copy 107 = .ok (.invokestatic 129, 3) := by decide +kernel
theorem dX11_copy_110 : decode cX11_copy 110 = .ok (.iload 5, 2) := by decide +kernel
theorem dX11_copy_112 : decode cX11_copy 112 = .ok (.ireturn, 1) := by decide +kernel
theorem dX11_tell_0 : decode cX11_tell 0 = .ok (.aload_n 0, 1) := by decide +kernel
theorem dX11_tell_1 : decode cX11_tell 1 = .ok (.getfield 40, 3) := by decide +kernel
theorem dX11_tell_4 : decode cX11_tell 4 = .ok (.bipush 60, 2) := by decide +kernel
theorem dX11_tell_6 : decode cX11_tell 6 = .ok (.if_icmp .lt 6, 3) := by decide +kernel
theorem dX11_tell_9 : decode cX11_tell 9 = .ok (.ldc 196, 2) := by decide +kernel
theorem dX11_tell_11 : decode cX11_tell 11 = .ok (.ireturn, 1) := by decide +kernel
theorem dX11_tell_12 : decode cX11_tell 12 = .ok (.aload_n 0, 1) := by decide +kernel
theorem dX11_tell_13 : decode cX11_tell 13 = .ok (.getfield 36, 3) := by decide +kernel
theorem dX11_tell_16 : decode cX11_tell 16 = .ok (.aload_n 0, 1) := by decide +kernel
theorem dX11_tell_17 : decode cX11_tell 17 = .ok (.getfield 40, 3) := by decide +kernel
theorem dX11_tell_20 : decode cX11_tell 20 = .ok (.iload_n 1, 1) := by decide +kernel
theorem dX11_tell_21 : decode cX11_tell 21 = .ok (.iastore, 1) := by decide +kernel
theorem dX11_tell_22 : decode cX11_tell 22 = .ok (.aload_n 0, 1) := by decide +kernel
theorem dX11_tell_23 : decode cX11_tell 23 = .ok (.dup, 1) := by decide +kernel
theorem dX11_tell_24 : decode cX11_tell 24 = .ok (.getfield 40, 3) := by decide +kernel
theorem dX11_tell_27 : decode cX11_tell 27 = .ok (.iconst 1, 1) := by decide +kernel
theorem dX11_tell_28 : decode cX11_tell 28 = .ok (.iadd, 1) := by decide +kernel
theorem dX11_tell_29 : decode cX11_tell 29 = .ok (.putfield 40, 3) := by decide +kernel
theorem dX11_tell_32 : decode cX11_tell 32 = .ok (.aload_n 0, 1) := by decide +kernel
theorem dX11_tell_33 : decode cX11_tell 33 = .ok (.getfield 40, 3) := by decide +kernel
theorem dX11_tell_36 : decode cX11_tell 36 = .ok (.ireturn, 1) := by decide +kernel
theorem dX11_check_0 : decode cX11_check 0 = .ok (.aload_n 0, 1) := by decide +kernel
theorem dX11_check_1 : decode cX11_check 1 = .ok (.getfield 40, 3) := by decide +kernel
theorem dX11_check_4 : decode cX11_check 4 = .ok (.istore_n 2, 1) := by decide +kernel
theorem dX11_check_5 : decode cX11_check 5 = .ok (.aload_n 0, 1) := by decide +kernel
theorem dX11_check_6 : decode cX11_check 6 = .ok (.iconst 0, 1) := by decide +kernel
theorem dX11_check_7 : decode cX11_check 7 = .ok (.putfield 40, 3) := by decide +kernel
theorem dX11_check_10 : decode cX11_check 10 = .ok (.iload_n 1, 1) := by decide +kernel
theorem dX11_check_11 : decode cX11_check 11 = .ok (.iconst 1, 1) := by decide +kernel
theorem dX11_check_12 : decode cX11_check 12 = .ok (.bipush 30, 2) := by decide +kernel
theorem dX11_check_14 : decode cX11_check 14 = .ok (.invokestatic 50, 3) := by decide +kernel
theorem dX11_check_17 : decode cX11_check 17 = .ok (.ifCond .ne 6, 3) := by decide +kernel
theorem dX11_check_20 : decode cX11_check 20 = .ok (.ldc 54, 2) := by decide +kernel
theorem dX11_check_22 : decode cX11_check 22 = .ok (.ireturn, 1) := by decide +kernel
theorem dX11_check_23 : decode cX11_check 23 = .ok (.aload_n 0, 1) := by decide +kernel
theorem dX11_check_24 : decode cX11_check 24 = .ok (.getfield 44, 3) := by decide +kernel
theorem dX11_check_27 : decode cX11_check 27 = .ok (.ifCond .ne 6, 3) := by decide +kernel
theorem dX11_check_30 : decode cX11_check 30 = .ok (.ldc 64, 2) := by decide +kernel
theorem dX11_check_32 : decode cX11_check 32 = .ok (.ireturn, 1) := by decide +kernel
theorem dX11_check_33 : decode cX11_check 33 = .ok (.aload_n 0, 1) := by decide +kernel
theorem dX11_check_34 : decode cX11_check 34 = .ok (.iload_n 1, 1) := by decide +kernel
theorem dX11_check_35 : decode cX11_check 35 = .ok (.iload_n 2, 1) := by decide +kernel
theorem dX11_check_36 : decode cX11_check 36 = .ok (.invokevirtual 341, 3) := by decide +kernel
theorem dX11_check_39 : decode cX11_check 39 = .ok (.istore_n 3, 1) := by decide +kernel
theorem dX11_check_40 : decode cX11_check 40 = .ok (.iload_n 3, 1) := by decide +kernel
theorem dX11_check_41 : decode cX11_check 41 = .ok (.iconst 2, 1) := by decide +kernel
theorem dX11_check_42 : decode cX11_check 42 = .ok (.iload_n 1, 1) := by decide +kernel
theorem dX11_check_43 : decode cX11_check 43 = .ok (.imul, 1) := by decide +kernel
theorem dX11_check_44 : decode cX11_check 44 = .ok (.if_icmp .ne 12, 3) := by decide +kernel
theorem dX11_check_47 : decode cX11_check 47 = .ok (.iload_n 2, 1) := by decide +kernel
theorem dX11_check_48 : decode cX11_check 48 = .ok (.iload_n 3, 1) := by decide +kernel
theorem dX11_check_49 : decode cX11_check 49 = .ok (.if_icmp .ne 7, 3) := by decide +kernel
theorem dX11_check_52 : decode cX11_check 52 = .ok (.iconst 0, 1) := by decide +kernel
theorem dX11_check_53 : decode cX11_check 53 = .ok (.goto 6, 3) := by decide +kernel
theorem dX11_check_56 : decode cX11_check 56 = .ok (.iconst 1, 1) := by decide +kernel
theorem dX11_check_57 : decode cX11_check 57 = .ok (.iload_n 3, 1) := by decide +kernel
theorem dX11_check_58 : decode cX11_check 58 = .ok (.iadd, 1) := by decide +kernel
theorem dX11_check_59 : decode cX11_check 59 = .ok (.ireturn, 1) := by decide +kernel
theorem dX11_keep_0 : decode cX11_keep 0 = .ok (.aload_n 0, 1) := by decide +kernel
theorem dX11_keep_1 : decode cX11_keep 1 = .ok (.getfield 16, 3) := by decide +kernel
theorem dX11_keep_4 : decode cX11_keep 4 = .ok (.aload_n 0, 1) := by decide +kernel
theorem dX11_keep_5 : decode cX11_keep 5 = .ok (.getfield 10, 3) := by decide +kernel
theorem dX11_keep_8 : decode cX11_keep 8 = .ok (.invokevirtual 344, 3) := by decide +kernel
theorem dX11_keep_11 : decode cX11_keep 11 = .ok (.aload_n 0, 1) := by decide +kernel
theorem dX11_keep_12 : decode cX11_keep 12 = .ok (.iconst 1, 1) := by decide +kernel
theorem dX11_keep_13 : decode cX11_keep 13 = .ok (.putfield 44, 3) := by decide +kernel
theorem dX11_keep_16 : decode cX11_keep 16 = .ok (.aload_n 0, 1) := by decide +kernel
theorem dX11_keep_17 : decode cX11_keep 17 = .ok (.getfield 10, 3) := by decide +kernel
theorem dX11_keep_20 : decode cX11_keep 20 = .ok (.getfield 152, 3) := by decide +kernel
theorem dX11_keep_23 : decode cX11_keep 23 = .ok (.ireturn, 1) := by decide +kernel
theorem dX11_back_0 : decode cX11_back 0 = .ok (.aload_n 0, 1) := by decide +kernel
theorem dX11_back_1 : decode cX11_back 1 = .ok (.getfield 44, 3) := by decide +kernel
theorem dX11_back_4 : decode cX11_back 4 = .ok (.ifCond .ne 6, 3) := by decide +kernel
theorem dX11_back_7 : decode cX11_back 7 = .ok (.ldc 64, 2) := by decide +kernel
theorem dX11_back_9 : decode cX11_back 9 = .ok (.ireturn, 1) := by decide +kernel
theorem dX11_back_10 : decode cX11_back 10 = .ok (.aload_n 0, 1) := by decide +kernel
theorem dX11_back_11 : decode cX11_back 11 = .ok (.getfield 10, 3) := by decide +kernel
theorem dX11_back_14 : decode cX11_back 14 = .ok (.aload_n 0, 1) := by decide +kernel
theorem dX11_back_15 : decode cX11_back 15 = .ok (.getfield 16, 3) := by decide +kernel
theorem dX11_back_18 : decode cX11_back 18 = .ok (.invokevirtual 344, 3) := by decide +kernel
theorem dX11_back_21 : decode cX11_back 21 = .ok (.aload_n 0, 1) := by decide +kernel
theorem dX11_back_22 : decode cX11_back 22 = .ok (.getfield 10, 3) := by decide +kernel
theorem dX11_back_25 : decode cX11_back 25 = .ok (.getfield 152, 3) := by decide +kernel
theorem dX11_back_28 : decode cX11_back 28 = .ok (.ireturn, 1) := by decide +kernel
theorem dX11_count_0 : decode cX11_count 0 = .ok (.iload_n 1, 1) := by decide +kernel
theorem dX11_count_1 : decode cX11_count 1 = .ok (.tableswitch 78 10 14 #[35, 46, 57, 62, 70], 35) := by decide +kernel
theorem dX11_count_36 : decode cX11_count 36 = .ok (.aload_n 0, 1) := by decide +kernel
theorem dX11_count_37 : decode cX11_count 37 = .ok (.getfield 10, 3) := by decide +kernel
theorem dX11_count_40 : decode cX11_count 40 = .ok (.getfield 273, 3) := by decide +kernel
theorem dX11_count_43 : decode cX11_count 43 = .ok (.getfield 277, 3) := by decide +kernel
theorem dX11_count_46 : decode cX11_count 46 = .ok (.ireturn, 1) := by decide +kernel
theorem dX11_count_47 : decode cX11_count 47 = .ok (.aload_n 0, 1) := by decide +kernel
theorem dX11_count_48 : decode cX11_count 48 = .ok (.getfield 10, 3) := by decide +kernel
theorem dX11_count_51 : decode cX11_count 51 = .ok (.getfield 273, 3) := by decide +kernel
theorem dX11_count_54 : decode cX11_count 54 = .ok (.getfield 348, 3) := by decide +kernel
theorem dX11_count_57 : decode cX11_count 57 = .ok (.ireturn, 1) := by decide +kernel
theorem dX11_count_58 : decode cX11_count 58 = .ok (.aload_n 0, 1) := by decide +kernel
theorem dX11_count_59 : decode cX11_count 59 = .ok (.getfield 40, 3) := by decide +kernel
theorem dX11_count_62 : decode cX11_count 62 = .ok (.ireturn, 1) := by decide +kernel
theorem dX11_count_63 : decode cX11_count 63 = .ok (.aload_n 0, 1) := by decide +kernel
theorem dX11_count_64 : decode cX11_count 64 = .ok (.getfield 25, 3) := by decide +kernel
theorem dX11_count_67 : decode cX11_count 67 = .ok (.getfield 203, 3) := by decide +kernel
theorem dX11_count_70 : decode cX11_count 70 = .ok (.ireturn, 1) := by decide +kernel
theorem dX11_count_71 : decode cX11_count 71 = .ok (.aload_n 0, 1) := by decide +kernel
theorem dX11_count_72 : decode cX11_count 72 = .ok (.getfield 10, 3) := by decide +kernel
theorem dX11_count_75 : decode cX11_count 75 = .ok (.getfield 152, 3) := by decide +kernel
theorem dX11_count_78 : decode cX11_count 78 = .ok (.ireturn, 1) := by decide +kernel
theorem dX11_count_79 : decode cX11_count 79 = .ok (.aload_n 0, 1) := by decide +kernel
theorem dX11_count_80 : decode cX11_count 80 = .ok (.getfield 10, 3) := by decide +kernel
theorem dX11_count_83 : decode cX11_count 83 = .ok (.iload_n 1, 1) := by decide +kernel
theorem dX11_count_84 : decode cX11_count 84 = .ok (.invokevirtual 351, 3) := by decide +kernel
theorem dX11_count_87 : decode cX11_count 87 = .ok (.ireturn, 1) := by decide +kernel
theorem dX11_inside_0 : decode cX11_inside 0 = .ok (.iload_n 0, 1) := by decide +kernel
theorem dX11_inside_1 : decode cX11_inside 1 = .ok (.iload_n 1, 1) := by decide +kernel
theorem dX11_inside_2 : decode cX11_inside 2 = .ok (.if_icmp .lt 12, 3) := by decide +kernel
theorem dX11_inside_5 : decode cX11_inside 5 = .ok (.iload_n 0, 1) := by decide +kernel
theorem dX11_inside_6 : decode cX11_inside 6 = .ok (.iload_n 2, 1) := by decide +kernel
theorem dX11_inside_7 : decode cX11_inside 7 = .ok (.if_icmp .gt 7, 3) := by decide +kernel
theorem dX11_inside_10 : decode cX11_inside 10 = .ok (.iconst 1, 1) := by decide +kernel
theorem dX11_inside_11 : decode cX11_inside 11 = .ok (.goto 4, 3) := by decide +kernel
theorem dX11_inside_14 : decode cX11_inside 14 = .ok (.iconst 0, 1) := by decide +kernel
theorem dX11_inside_15 : decode cX11_inside 15 = .ok (.ireturn, 1) := by decide +kernel
theorem dX11_hasBit_0 : decode cX11_hasBit 0 = .ok (.iload_n 0, 1) := by decide +kernel
theorem dX11_hasBit_1 : decode cX11_hasBit 1 = .ok (.iload_n 1, 1) := by decide +kernel
theorem dX11_hasBit_2 : decode cX11_hasBit 2 = .ok (.ishr, 1) := by decide +kernel
theorem dX11_hasBit_3 : decode cX11_hasBit 3 = .ok (.iconst 1, 1) := by decide +kernel
theorem dX11_hasBit_4 : decode cX11_hasBit 4 = .ok (.iand, 1) := by decide +kernel
theorem dX11_hasBit_5 : decode cX11_hasBit 5 = .ok (.ifCond .eq 7, 3) := by decide +kernel
theorem dX11_hasBit_8 : decode cX11_hasBit 8 = .ok (.iconst 1, 1) := by decide +kernel
theorem dX11_hasBit_9 : decode cX11_hasBit 9 = .ok (.goto 4, 3) := by decide +kernel
theorem dX11_hasBit_12 : decode cX11_hasBit 12 = .ok (.iconst 0, 1) := by decide +kernel
theorem dX11_hasBit_13 : decode cX11_hasBit 13 = .ok (.ireturn, 1) := by decide +kernel
theorem dX11_clamp_0 : decode cX11_clamp 0 = .ok (.iload_n 1, 1) := by decide +kernel
theorem dX11_clamp_1 : decode cX11_clamp 1 = .ok (.iload_n 2, 1) := by decide +kernel
theorem dX11_clamp_2 : decode cX11_clamp 2 = .ok (.iload_n 0, 1) := by decide +kernel
theorem dX11_clamp_3 : decode cX11_clamp 3 = .ok (.invokestatic 354, 3) := by decide +kernel
theorem dX11_clamp_6 : decode cX11_clamp 6 = .ok (.invokestatic 267, 3) := by decide +kernel
theorem dX11_clamp_9 : decode cX11_clamp 9 = .ok (.ireturn, 1) := by decide +kernel
theorem dX11_exchange_0 : decode cX11_exchange 0 = .ok (.iload_n 1, 1) := by decide +kernel
theorem dX11_exchange_1 : decode cX11_exchange 1 = .ok (.ifCond .lt 9, 3) := by decide +kernel
theorem dX11_exchange_4 : decode cX11_exchange 4 = .ok (.iload_n 1, 1) := by decide +kernel
theorem dX11_exchange_5 : decode cX11_exchange 5 = .ok (.aload_n 0, 1) := by decide +kernel
theorem dX11_exchange_6 : decode cX11_exchange 6 = .ok (.arraylength, 1) := by decide +kernel
theorem dX11_exchange_7 : decode cX11_exchange 7 = .ok (.if_icmp .lt 6, 3) := by decide +kernel
theorem dX11_exchange_10 : decode cX11_exchange 10 = .ok (.ldc 54, 2) := by decide +kernel
theorem dX11_exchange_12 : decode cX11_exchange 12 = .ok (.ireturn, 1) := by decide +kernel
theorem dX11_exchange_13 : decode cX11_exchange 13 = .ok (.aload_n 0, 1) := by decide +kernel
theorem dX11_exchange_14 : decode cX11_exchange 14 = .ok (.iload_n 1, 1) := by decide +kernel
theorem dX11_exchange_15 : decode cX11_exchange 15 = .ok (.iaload, 1) := by decide +kernel
theorem dX11_exchange_16 : decode cX11_exchange 16 = .ok (.istore_n 3, 1) := by decide +kernel
theorem dX11_exchange_17 : decode cX11_exchange 17 = .ok (.aload_n 0, 1) := by decide +kernel
theorem dX11_exchange_18 : decode cX11_exchange 18 = .ok (.iload_n 1, 1) := by decide +kernel
theorem dX11_exchange_19 : decode cX11_exchange 19 = .ok (.iload_n 2, 1) := by decide +kernel
theorem dX11_exchange_20 : decode cX11_exchange 20 = .ok (.iastore, 1) := by decide +kernel
theorem dX11_exchange_21 : decode cX11_exchange 21 = .ok (.iload_n 3, 1) := by decide +kernel
theorem dX11_exchange_22 : decode cX11_exchange 22 = .ok (.ireturn, 1) := by decide +kernel
theorem dX11_surveyNumbered_0 : decode cX11_surveyNumbered 0 = .ok (.iload_n 1, 1) := by decide +kernel
theorem dX11_surveyNumbered_1 : decode cX11_surveyNumbered 1 = .ok (.iconst 0, 1) := by decide +kernel
theorem dX11_surveyNumbered_2 : decode cX11_surveyNumbered 2 = .ok (.iconst 3, 1) := by decide +kernel
theorem dX11_surveyNumbered_3 : decode cX11_surveyNumbered 3 = .ok (.invokestatic 50, 3) := by decide +kernel
theorem dX11_surveyNumbered_6 : decode cX11_surveyNumbered 6 = .ok (.ifCond .eq 12, 3) := by decide +kernel
theorem dX11_surveyNumbered_9 : decode cX11_surveyNumbered 9 = .ok (.aload_n 0, 1) := by decide +kernel
theorem dX11_surveyNumbered_10 : decode cX11_surveyNumbered 10 = .ok (.getfield 31, 3) := by decide +kernel
theorem dX11_surveyNumbered_13 : decode cX11_surveyNumbered 13 = .ok (.iload_n 1, 1) := by decide +kernel
theorem dX11_surveyNumbered_14 : decode cX11_surveyNumbered 14 = .ok (.aaload, 1) := by decide +kernel
theorem dX11_surveyNumbered_15 : decode cX11_surveyNumbered 15 = .ok (.goto 4, 3) := by decide +kernel
theorem dX11_surveyNumbered_18 : decode cX11_surveyNumbered 18 = .ok (.aconst_null, 1) := by decide +kernel
theorem dX11_surveyNumbered_19 : decode cX11_surveyNumbered 19 = .ok (.areturn, 1) := by decide +kernel
theorem dX11_rightNumbers_0 : decode cX11_rightNumbers 0 = .ok (.aload_n 0, 1) := by decide +kernel
theorem dX11_rightNumbers_1 : decode cX11_rightNumbers 1 = .ok (.getfield 19, 3) := by decide +kernel
theorem dX11_rightNumbers_4 : decode cX11_rightNumbers 4 = .ok (.aload_n 0, 1) := by decide +kernel
theorem dX11_rightNumbers_5 : decode cX11_rightNumbers 5 = .ok (.getfield 16, 3) := by decide +kernel
theorem dX11_rightNumbers_8 : decode cX11_rightNumbers 8 = .ok (.invokevirtual 344, 3) := by decide +kernel
theorem dX11_rightNumbers_11 : decode cX11_rightNumbers 11 = .ok (.iconst 0, 1) := by decide +kernel
theorem dX11_rightNumbers_12 : decode cX11_rightNumbers 12 = .ok (.istore_n 3, 1) := by decide +kernel
theorem dX11_rightNumbers_13 : decode cX11_rightNumbers 13 = .ok (.iconst 0, 1) := by decide +kernel
theorem dX11_rightNumbers_14 : decode cX11_rightNumbers 14 = .ok (.istore 4, 2) := by decide +kernel
theorem dX11_rightNumbers_16 : decode cX11_rightNumbers 16 = .ok (.iload 4, 2) := by decide +kernel
theorem dX11_rightNumbers_18 : decode cX11_rightNumbers 18 = .ok (.iload_n 1, 1) := by decide +kernel
theorem dX11_rightNumbers_19 : decode cX11_rightNumbers 19 = .ok (.if_icmp .ge 74, 3) := by decide +kernel
theorem dX11_rightNumbers_22 : decode cX11_rightNumbers 22 = .ok (.aload_n 0, 1) := by decide +kernel
theorem dX11_rightNumbers_23 : decode cX11_rightNumbers 23 = .ok (.getfield 19, 3) := by decide +kernel
theorem dX11_rightNumbers_26 : decode cX11_rightNumbers 26 = .ok (.invokevirtual 197, 3) := by decide +kernel
theorem dX11_rightNumbers_29 : decode cX11_rightNumbers 29 = .ok (.iload_n 3, 1) := by decide +kernel
theorem dX11_rightNumbers_30 : decode cX11_rightNumbers 30 = .ok (.iload_n 2, 1) := by decide +kernel
theorem dX11_rightNumbers_31 : decode cX11_rightNumbers 31 = .ok (.if_icmp .ge 22, 3) := by decide +kernel
theorem dX11_rightNumbers_34 : decode cX11_rightNumbers 34 = .ok (.aload_n 0, 1) := by decide +kernel
theorem dX11_rightNumbers_35 : decode cX11_rightNumbers 35 = .ok (.getfield 36, 3) := by decide +kernel
theorem dX11_rightNumbers_38 : decode cX11_rightNumbers 38 = .ok (.iload_n 3, 1) := by decide +kernel
theorem dX11_rightNumbers_39 : decode cX11_rightNumbers 39 = .ok (.iaload, 1) := by decide +kernel
theorem dX11_rightNumbers_40 : decode cX11_rightNumbers 40 = .ok (.aload_n 0, 1) := by decide +kernel
theorem dX11_rightNumbers_41 : decode cX11_rightNumbers 41 = .ok (.getfield 19, 3) := by decide +kernel
theorem dX11_rightNumbers_44 : decode cX11_rightNumbers 44 = .ok (.getfield 55, 3) := by decide +kernel
theorem dX11_rightNumbers_47 : decode cX11_rightNumbers 47 = .ok (.invokevirtual 357, 3) := by decide +kernel
theorem dX11_rightNumbers_50 : decode cX11_rightNumbers 50 = .ok (.if_icmp .eq 5, 3) := by decide +kernel
theorem dX11_rightNumbers_53 : decode cX11_rightNumbers 53 = .ok (.iload_n 3, 1) := by decide +kernel
theorem dX11_rightNumbers_54 : decode cX11_rightNumbers 54 = .ok (.ireturn, 1) := by decide +kernel
theorem dX11_rightNumbers_55 : decode cX11_rightNumbers 55 = .ok (.iinc 3 1, 3) := by decide +kernel
theorem dX11_rightNumbers_58 : decode cX11_rightNumbers 58 = .ok (.iload_n 3, 1) := by decide +kernel
theorem dX11_rightNumbers_59 : decode cX11_rightNumbers 59 = .ok (.iload_n 2, 1) := by decide +kernel
theorem dX11_rightNumbers_60 : decode cX11_rightNumbers 60 = .ok (.if_icmp .ge 22, 3) := by decide +kernel
theorem dX11_rightNumbers_63 : decode cX11_rightNumbers 63 = .ok (.aload_n 0, 1) := by decide +kernel
theorem dX11_rightNumbers_64 : decode cX11_rightNumbers 64 = .ok (.getfield 36, 3) := by decide +kernel
theorem dX11_rightNumbers_67 : decode cX11_rightNumbers 67 = .ok (.iload_n 3, 1) := by decide +kernel
theorem dX11_rightNumbers_68 : decode cX11_rightNumbers 68 = .ok (.iaload, 1) := by decide +kernel
theorem dX11_rightNumbers_69 : decode cX11_rightNumbers 69 = .ok (.aload_n 0, 1) := by decide +kernel
theorem dX11_rightNumbers_70 : decode cX11_rightNumbers 70 = .ok (.getfield 19, 3) := by decide +kernel
theorem dX11_rightNumbers_73 : decode cX11_rightNumbers 73 = .ok (.getfield 273, 3) := by decide +kernel
theorem dX11_rightNumbers_76 : decode cX11_rightNumbers 76 = .ok (.getfield 277, 3) := by decide +kernel
theorem dX11_rightNumbers_79 : decode cX11_rightNumbers 79 = .ok (.if_icmp .eq 5, 3) := by decide +kernel
theorem dX11_rightNumbers_82 : decode cX11_rightNumbers 82 = .ok (.iload_n 3, 1) := by decide +kernel
theorem dX11_rightNumbers_83 : decode cX11_rightNumbers 83 = .ok (.ireturn, 1) := by decide +kernel
theorem dX11_rightNumbers_84 : decode cX11_rightNumbers 84 = .ok (.iinc 3 1, 3) := by decide +kernel
theorem dX11_rightNumbers_87 : decode cX11_rightNumbers 87 = .ok (.iinc 4 1, 3) := by decide +kernel
theorem dX11_rightNumbers_90 : decode cX11_rightNumbers 90 = .ok (.goto (-74), 3) := by decide +kernel
theorem dX11_rightNumbers_93 : decode cX11_rightNumbers 93 = .ok (.iload_n 3, 1) := by decide +kernel
theorem dX11_rightNumbers_94 : decode cX11_rightNumbers 94 = .ok (.ireturn, 1) := by decide +kernel
