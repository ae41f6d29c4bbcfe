theorem dX5_valueAt_98 : decode cX5_valueAt 98 = .ok (.idiv, 1) := by decide +kernel
theorem dX5_valueAt_99 : decode cX5_valueAt 99 = .ok (.ireturn, 1) := by decide +kernel
theorem dX5_nearest_0 : decode cX5_nearest 0 = .ok (.iconst 0, 1) := by decide +kernel
theorem dX5_nearest_1 : decode cX5_nearest 1 = .ok (.istore_n 3, 1) := by decide +kernel
theorem dX5_nearest_2 : decode cX5_nearest 2 = .ok (.iload_n 3, 1) := by decide +kernel
theorem dX5_nearest_3 : decode cX5_nearest 3 = .ok (.aload_n 0, 1) := by decide +kernel
theorem dX5_nearest_4 : decode cX5_nearest 4 = .ok (.getfield 23, 3) := by decide +kernel
theorem dX5_nearest_7 : decode cX5_nearest 7 = .ok (.if_icmp .ge 46, 3) := by decide +kernel
theorem dX5_nearest_10 : decode cX5_nearest 10 = .ok (.iload_n 1, 1) := by decide +kernel
theorem dX5_nearest_11 : decode cX5_nearest 11 = .ok (.iload_n 3, 1) := by decide +kernel
theorem dX5_nearest_12 : decode cX5_nearest 12 = .ok (.iload_n 2, 1) := by decide +kernel
theorem dX5_nearest_13 : decode cX5_nearest 13 = .ok (.imul, 1) := by decide +kernel
theorem dX5_nearest_14 : decode cX5_nearest 14 = .ok (.iadd, 1) := by decide +kernel
theorem dX5_nearest_15 : decode cX5_nearest 15 = .ok (.istore 4, 2) := by decide +kernel
theorem dX5_nearest_17 : decode cX5_nearest 17 = .ok (.iload 4, 2) := by decide +kernel
theorem dX5_nearest_19 : decode cX5_nearest 19 = .ok (.iconst 0, 1) := by decide +kernel
theorem dX5_nearest_20 : decode cX5_nearest 20 = .ok (.aload_n 0, 1) := by decide +kernel
theorem dX5_nearest_21 : decode cX5_nearest 21 = .ok (.getfield 23, 3) := by decide +kernel
theorem dX5_nearest_24 : decode cX5_nearest 24 = .ok (.iconst 1, 1) := by decide +kernel
theorem dX5_nearest_25 : decode cX5_nearest 25 = .ok (.isub, 1) := by decide +kernel
theorem dX5_nearest_26 : decode cX5_nearest 26 = .ok (.invokestatic 33, 3) := by decide +kernel
theorem dX5_nearest_29 : decode cX5_nearest 29 = .ok (.ifCond .eq 18, 3) := by decide +kernel
theorem dX5_nearest_32 : decode cX5_nearest 32 = .ok (.aload_n 0, 1) := by decide +kernel
theorem dX5_nearest_33 : decode cX5_nearest 33 = .ok (.getfield 15, 3) := by decide +kernel
theorem dX5_nearest_36 : decode cX5_nearest 36 = .ok (.iload 4, 2) := by decide +kernel
theorem dX5_nearest_38 : decode cX5_nearest 38 = .ok (.iaload, 1) := by decide +kernel
theorem dX5_nearest_39 : decode cX5_nearest 39 = .ok (.ldc 38, 2) := by decide +kernel
theorem dX5_nearest_41 : decode cX5_nearest 41 = .ok (.if_icmp .eq 6, 3) := by decide +kernel
theorem dX5_nearest_44 : decode cX5_nearest 44 = .ok (.iload 4, 2) := by decide +kernel
theorem dX5_nearest_46 : decode cX5_nearest 46 = .ok (.ireturn, 1) := by decide +kernel
theorem dX5_nearest_47 : decode cX5_nearest 47 = .ok (.iinc 3 1, 3) := by decide +kernel
theorem dX5_nearest_50 : decode cX5_nearest 50 = .ok (.goto (-48), 3) := by decide +kernel
theorem dX5_nearest_53 : decode cX5_nearest 53 = .ok (.ldc 38, 2) := by decide +kernel
theorem dX5_nearest_55 : decode cX5_nearest 55 = .ok (.ireturn, 1) := by decide +kernel
theorem dX6_init_0 : decode cX6_init 0 = .ok (.aload_n 0, 1) := by decide +kernel
theorem dX6_init_1 : decode cX6_init 1 = .ok (.invokespecial 1, 3) := by decide +kernel
theorem dX6_init_4 : decode cX6_init 4 = .ok (.aload_n 0, 1) := by decide +kernel
theorem dX6_init_5 : decode cX6_init 5 = .ok (.bipush 96, 2) := by decide +kernel
theorem dX6_init_7 : decode cX6_init 7 = .ok (.newarray .int, 2) := by decide +kernel
theorem dX6_init_9 : decode cX6_init 9 = .ok (.putfield 9, 3) := by decide +kernel
theorem dX6_init_12 : decode cX6_init 12 = .ok (.aload_n 0, 1) := by decide +kernel
theorem dX6_init_13 : decode cX6_init 13 = .ok (.bipush 96, 2) := by decide +kernel
theorem dX6_init_15 : decode cX6_init 15 = .ok (.newarray .int, 2) := by decide +kernel
theorem dX6_init_17 : decode cX6_init 17 = .ok (.putfield 13, 3) := by decide +kernel
theorem dX6_init_20 : decode cX6_init 20 = .ok (.aload_n 0, 1) := by decide +kernel
theorem dX6_init_21 : decode cX6_init 21 = .ok (.bipush 96, 2) := by decide +kernel
theorem dX6_init_23 : decode cX6_init 23 = .ok (.newarray .int, 2) := by decide +kernel
theorem dX6_init_25 : decode cX6_init 25 = .ok (.putfield 16, 3) := by decide +kernel
theorem dX6_init_28 : decode cX6_init 28 = .ok (.return_, 1) := by decide +kernel
theorem dX6_takeFour_0 : decode cX6_takeFour 0 = .ok (.bipush 24, 2) := by decide +kernel
theorem dX6_takeFour_2 : decode cX6_takeFour 2 = .ok (.istore_n 2, 1) := by decide +kernel
theorem dX6_takeFour_3 : decode cX6_takeFour 3 = .ok (.iload_n 2, 1) := by decide +kernel
theorem dX6_takeFour_4 : decode cX6_takeFour 4 = .ok (.ifCond .lt 44, 3) := by decide +kernel
theorem dX6_takeFour_7 : decode cX6_takeFour 7 = .ok (.aload_n 0, 1) := by decide +kernel
theorem dX6_takeFour_8 : decode cX6_takeFour 8 = .ok (.getfield 19, 3) := by decide +kernel
theorem dX6_takeFour_11 : decode cX6_takeFour 11 = .ok (.bipush 96, 2) := by decide +kernel
theorem dX6_takeFour_13 : decode cX6_takeFour 13 = .ok (.if_icmp .ge 35, 3) := by decide +kernel
theorem dX6_takeFour_16 : decode cX6_takeFour 16 = .ok (.aload_n 0, 1) := by decide +kernel
theorem dX6_takeFour_17 : decode cX6_takeFour 17 = .ok (.getfield 9, 3) := by decide +kernel
theorem dX6_takeFour_20 : decode cX6_takeFour 20 = .ok (.aload_n 0, 1) := by decide +kernel
theorem dX6_takeFour_21 : decode cX6_takeFour 21 = .ok (.getfield 19, 3) := by decide +kernel
theorem dX6_takeFour_24 : decode cX6_takeFour 24 = .ok (.iload_n 1, 1) := by decide +kernel
theorem dX6_takeFour_25 : decode cX6_takeFour 25 = .ok (.iload_n 2, 1) := by decide +kernel
theorem dX6_takeFour_26 : decode cX6_takeFour 26 = .ok (.ishr, 1) := by decide +kernel
theorem dX6_takeFour_27 : decode cX6_takeFour 27 = .ok (.sipush 255, 3) := by decide +kernel
theorem dX6_takeFour_30 : decode cX6_takeFour 30 = .ok (.iand, 1) := by decide +kernel
theorem dX6_takeFour_31 : decode cX6_takeFour 31 = .ok (.iastore, 1) := by decide +kernel
theorem dX6_takeFour_32 : decode cX6_takeFour 32 = .ok (.aload_n 0, 1) := by decide +kernel
theorem dX6_takeFour_33 : decode cX6_takeFour 33 = .ok (.dup, 1) := by decide +kernel
theorem dX6_takeFour_34 : decode cX6_takeFour 34 = .ok (.getfield 19, 3) := by decide +kernel
theorem dX6_takeFour_37 : decode cX6_takeFour 37 = .ok (.iconst 1, 1) := by decide +kernel
theorem dX6_takeFour_38 : decode cX6_takeFour 38 = .ok (.iadd, 1) := by decide +kernel
theorem dX6_takeFour_39 : decode cX6_takeFour 39 = .ok (.putfield 19, 3) := by decide +kernel
theorem dX6_takeFour_42 : decode cX6_takeFour 42 = .ok (.iinc 2 (-8), 3) := by decide +kernel
theorem dX6_takeFour_45 : decode cX6_takeFour 45 = .ok (.goto (-42), 3) := by decide +kernel
theorem dX6_takeFour_48 : decode cX6_takeFour 48 = .ok (.return_, 1) := by decide +kernel
theorem dX6_translate_0 : decode cX6_translate 0 = .ok (.aload_n 0, 1) := by decide +kernel
theorem dX6_translate_1 : decode cX6_translate 1 = .ok (.iconst 0, 1) := by decide +kernel
theorem dX6_translate_2 : decode cX6_translate 2 = .ok (.putfield 23, 3) := by decide +kernel
theorem dX6_translate_5 : decode cX6_translate 5 = .ok (.aload_n 0, 1) := by decide +kernel
theorem dX6_translate_6 : decode cX6_translate 6 = .ok (.iconst 0, 1) := by decide +kernel
theorem dX6_translate_7 : decode cX6_translate 7 = .ok (.putfield 26, 3) := by decide +kernel
theorem dX6_translate_10 : decode cX6_translate 10 = .ok (.aload_n 0, 1) := by decide +kernel
theorem dX6_translate_11 : decode cX6_translate 11 = .ok (.iconst 0, 1) := by decide +kernel
theorem dX6_translate_12 : decode cX6_translate 12 = .ok (.putfield 29, 3) := by decide +kernel
theorem dX6_translate_15 : decode cX6_translate 15 = .ok (.aload_n 0, 1) := by decide +kernel
theorem dX6_translate_16 : decode cX6_translate 16 = .ok (.iconst 0, 1) := by decide +kernel
theorem dX6_translate_17 : decode cX6_translate 17 = .ok (.putfield 32, 3) := by decide +kernel
theorem dX6_translate_20 : decode cX6_translate 20 = .ok (.aload_n 0, 1) := by decide +kernel
theorem dX6_translate_21 : decode cX6_translate 21 = .ok (.iconst 0, 1) := by decide +kernel
theorem dX6_translate_22 : decode cX6_translate 22 = .ok (.putfield 35, 3) := by decide +kernel
theorem dX6_translate_25 : decode cX6_translate 25 = .ok (.aload_n 0, 1) := by decide +kernel
theorem dX6_translate_26 : decode cX6_translate 26 = .ok (.iconst 1, 1) := by decide +kernel
theorem dX6_translate_27 : decode cX6_translate 27 = .ok (.putfield 38, 3) := by decide +kernel
theorem dX6_translate_30 : decode cX6_translate 30 = .ok (.aload_n 0, 1) := by decide +kernel
theorem dX6_translate_31 : decode cX6_translate 31 = .ok (.iconst 0, 1) := by decide +kernel
theorem dX6_translate_32 : decode cX6_translate 32 = .ok (.invokevirtual 42, 3) := by decide +kernel
theorem dX6_translate_35 : decode cX6_translate 35 = .ok (.istore_n 2, 1) := by decide +kernel
theorem dX6_translate_36 : decode cX6_translate 36 = .ok (.aload_n 0, 1) := by decide +kernel
theorem dX6_translate_37 : decode cX6_translate 37 = .ok (.iload_n 2, 1) := by decide +kernel
theorem dX6_translate_38 : decode cX6_translate 38 = .ok (.invokevirtual 46, 3) := by decide +kernel
theorem dX6_translate_41 : decode cX6_translate 41 = .ok (.istore_n 3, 1) := by decide +kernel
theorem dX6_translate_42 : decode cX6_translate 42 = .ok (.aload_n 0, 1) := by decide +kernel
theorem dX6_translate_43 : decode cX6_translate 43 = .ok (.aload_n 0, 1) := by decide +kernel
theorem dX6_translate_44 : decode cX6_translate 44 = .ok (.iload_n 2, 1) := by decide +kernel
theorem dX6_translate_45 : decode cX6_translate 45 = .ok (.iload_n 3, 1) := by decide +kernel
theorem dX6_translate_46 : decode cX6_translate 46 = .ok (.invokevirtual 49, 3) := by decide +kernel
theorem dX6_translate_49 : decode cX6_translate 49 = .ok (.putfield 53, 3) := by decide +kernel
theorem dX6_translate_52 : decode cX6_translate 52 = .ok (.aload_n 0, 1) := by decide +kernel
theorem dX6_translate_53 : decode cX6_translate 53 = .ok (.aload_n 0, 1) := by decide +kernel
theorem dX6_translate_54 : decode cX6_translate 54 = .ok (.getfield 53, 3) := by decide +kernel
theorem dX6_translate_57 : decode cX6_translate 57 = .ok (.ifCond .ge 7, 3) := by decide +kernel
theorem dX6_translate_60 : decode cX6_translate 60 = .ok (.iload_n 2, 1) := by decide +kernel
theorem dX6_translate_61 : decode cX6_translate 61 = .ok (.goto 8, 3) := by decide +kernel
theorem dX6_translate_64 : decode cX6_translate 64 = .ok (.aload_n 0, 1) := by decide +kernel
theorem dX6_translate_65 : decode cX6_translate 65 = .ok (.iload_n 3, 1) := by decide +kernel
theorem dX6_translate_66 : decode cX6_translate 66 = .ok (.invokevirtual 56, 3) := by decide +kernel
theorem dX6_translate_69 : decode cX6_translate 69 = .ok (.putfield 59, 3) := by decide +kernel
theorem dX6_translate_72 : decode cX6_translate 72 = .ok (.aload_n 0, 1) := by decide +kernel
theorem dX6_translate_73 : decode cX6_translate 73 = .ok (.getfield 59, 3) := by decide +kernel
theorem dX6_translate_76 : decode cX6_translate 76 = .ok (.ifCond .lt 7, 3) := by decide +kernel
theorem dX6_translate_79 : decode cX6_translate 79 = .ok (.aconst_null, 1) := by decide +kernel
theorem dX6_translate_80 : decode cX6_translate 80 = .ok (.goto 30, 3) := by decide +kernel
theorem dX6_translate_83 : decode cX6_translate 83 = .ok (.new 62, 3) := by decide +kernel
theorem dX6_translate_86 : decode cX6_translate 86 = .ok (.dup, 1) := by decide +kernel
theorem dX6_translate_87 : decode cX6_translate 87 = .ok (.aload_n 0, 1) := by decide +kernel
theorem dX6_translate_88 : decode cX6_translate 88 = .ok (.getfield 53, 3) := by decide +kernel
theorem dX6_translate_91 : decode cX6_translate 91 = .ok (.iload_n 1, 1) := by decide +kernel
theorem dX6_translate_92 : decode cX6_translate 92 = .ok (.aload_n 0, 1) := by decide +kernel
theorem dX6_translate_93 : decode cX6_translate 93 = .ok (.getfield 29, 3) := by decide +kernel
theorem dX6_translate_96 : decode cX6_translate 96 = .ok (.aload_n 0, 1) := by decide +kernel
theorem dX6_translate_97 : decode cX6_translate 97 = .ok (.getfield 13, 3) := by decide +kernel
theorem dX6_translate_100 : decode cX6_translate 100 = .ok (.aload_n 0, 1) := by decide +kernel
theorem dX6_translate_101 : decode cX6_translate 101 = .ok (.getfield 23, 3) := by decide +kernel
theorem dX6_translate_104 : decode cX6_translate 104 = .ok (.invokestatic 64, 3) := by decide +kernel
theorem dX6_translate_107 : decode cX6_translate 107 = .ok (.invokespecial 70, 3) := by decide +kernel
theorem dX6_translate_110 : decode cX6_translate 110 = .ok (.areturn, 1) := by decide +kernel
theorem dX6_firstFault_0 : decode cX6_firstFault 0 = .ok (.iload_n 1, 1) := by decide +kernel
theorem dX6_firstFault_1 : decode cX6_firstFault 1 = .ok (.istore_n 2, 1) := by decide +kernel
theorem dX6_firstFault_2 : decode cX6_firstFault 2 = .ok (.iload_n 2, 1) := by decide +kernel
theorem dX6_firstFault_3 : decode cX6_firstFault 3 = .ok (.aload_n 0, 1) := by decide +kernel
theorem dX6_firstFault_4 : decode cX6_firstFault 4 = .ok (.getfield 19, 3) := by decide +kernel
theorem dX6_firstFault_7 : decode cX6_firstFault 7 = .ok (.if_icmp .ge 101, 3) := by decide +kernel
theorem dX6_firstFault_10 : decode cX6_firstFault 10 = .ok (.aload_n 0, 1) := by decide +kernel
theorem dX6_firstFault_11 : decode cX6_firstFault 11 = .ok (.getfield 9, 3) := by decide +kernel
theorem dX6_firstFault_14 : decode cX6_firstFault 14 = .ok (.iload_n 2, 1) := by decide +kernel
theorem dX6_firstFault_15 : decode cX6_firstFault 15 = .ok (.iaload, 1) := by decide +kernel
theorem dX6_firstFault_16 : decode cX6_firstFault 16 = .ok (.bipush 32, 2) := by decide +kernel
theorem dX6_firstFault_18 : decode cX6_firstFault 18 = .ok (.if_icmp .ne 6, 3) := by decide +kernel
theorem dX6_firstFault_21 : decode cX6_firstFault 21 = .ok (.goto 81, 3) := by decide +kernel
theorem dX6_firstFault_24 : decode cX6_firstFault 24 = .ok (.aload_n 0, 1) := by decide +kernel
theorem dX6_firstFault_25 : decode cX6_firstFault 25 = .ok (.iload_n 2, 1) := by decide +kernel
theorem dX6_firstFault_26 : decode cX6_firstFault 26 = .ok (.invokevirtual 46, 3) := by decide +kernel
theorem dX6_firstFault_29 : decode cX6_firstFault 29 = .ok (.istore_n 3, 1) := by decide +kernel
theorem dX6_firstFault_30 : decode cX6_firstFault 30 = .ok (.aload_n 0, 1) := by decide +kernel
theorem dX6_firstFault_31 : decode cX6_firstFault 31 = .ok (.iload_n 2, 1) := by decide +kernel
theorem dX6_firstFault_32 : decode cX6_firstFault 32 = .ok (.invokevirtual 73, 3) := by decide +kernel
theorem dX6_firstFault_35 : decode cX6_firstFault 35 = .ok (.ifCond .eq 17, 3) := by decide +kernel
theorem dX6_firstFault_38 : decode cX6_firstFault 38 = .ok (.aload_n 0, 1) := by decide +kernel
theorem dX6_firstFault_39 : decode cX6_firstFault 39 = .ok (.iload_n 2, 1) := by decide +kernel
theorem dX6_firstFault_40 : decode cX6_firstFault 40 = .ok (.iconst 1, 1) := by decide +kernel
theorem dX6_firstFault_41 : decode cX6_firstFault 41 = .ok (.isub, 1) := by decide +kernel
theorem dX6_firstFault_42 : decode cX6_firstFault 42 = .ok (.invokevirtual 73, 3) := by decide +kernel
theorem dX6_firstFault_45 : decode cX6_firstFault 45 = .ok (.ifCond .eq 7, 3) := by decide +kernel
theorem dX6_firstFault_48 : decode cX6_firstFault 48 = .ok (.iconst 1, 1) := by decide +kernel
theorem dX6_firstFault_49 : decode cX6_firstFault 49 = .ok (.goto 4, 3) := by decide +kernel
theorem dX6_firstFault_52 : decode cX6_firstFault 52 = .ok (.iconst 0, 1) := by decide +kernel
theorem dX6_firstFault_53 : decode cX6_firstFault 53 = .ok (.istore 4, 2) := by decide +kernel
theorem dX6_firstFault_55 : decode cX6_firstFault 55 = .ok (.iload 4, 2) := by decide +kernel
theorem dX6_firstFault_57 : decode cX6_firstFault 57 = .ok (.ifCond .ne 35, 3) := by decide +kernel
theorem dX6_firstFault_60 : decode cX6_firstFault 60 = .ok (.aload_n 0, 1) := by decide +kernel
theorem dX6_firstFault_61 : decode cX6_firstFault 61 = .ok (.getfield 38, 3) := by decide +kernel
theorem dX6_firstFault_64 : decode cX6_firstFault 64 = .ok (.ifCond .eq 15, 3) := by decide +kernel
theorem dX6_firstFault_67 : decode cX6_firstFault 67 = .ok (.aload_n 0, 1) := by decide +kernel
theorem dX6_firstFault_68 : decode cX6_firstFault 68 = .ok (.iload_n 2, 1) := by decide +kernel
theorem dX6_firstFault_69 : decode cX6_firstFault 69 = .ok (.iload_n 3, 1) := by decide +kernel
theorem dX6_firstFault_70 : decode cX6_firstFault 70 = .ok (.invokevirtual 77, 3) := by decide +kernel
theorem dX6_firstFault_73 : decode cX6_firstFault 73 = .ok (.ifCond .eq 19, 3) := by decide +kernel
theorem dX6_firstFault_76 : decode cX6_firstFault 76 = .ok (.goto 18, 3) := by decide +kernel
theorem dX6_firstFault_79 : decode cX6_firstFault 79 = .ok (.aload_n 0, 1) := by decide +kernel
theorem dX6_firstFault_80 : decode cX6_firstFault 80 = .ok (.aload_n 0, 1) := by decide +kernel
theorem dX6_firstFault_81 : decode cX6_firstFault 81 = .ok (.getfield 9, 3) := by decide +kernel
theorem dX6_firstFault_84 : decode cX6_firstFault 84 = .ok (.iload_n 2, 1) := by decide +kernel
theorem dX6_firstFault_85 : decode cX6_firstFault 85 = .ok (.iaload, 1) := by decide +kernel
theorem dX6_firstFault_86 : decode cX6_firstFault 86 = .ok (.invokevirtual 81, 3) := by decide +kernel
theorem dX6_firstFault_89 : decode cX6_firstFault 89 = .ok (.ifCond .ne 5, 3) := by decide +kernel
theorem dX6_firstFault_92 : decode cX6_firstFault 92 = .ok (.iload_n 2, 1) := by decide +kernel
theorem dX6_firstFault_93 : decode cX6_firstFault 93 = .ok (.ireturn, 1) := by decide +kernel
theorem dX6_firstFault_94 : decode cX6_firstFault 94 = .ok (.iload_n 2, 1) := by decide +kernel
theorem dX6_firstFault_95 : decode cX6_firstFault 95 = .ok (.iload_n 3, 1) := by decide +kernel
theorem dX6_firstFault_96 : decode cX6_firstFault 96 = .ok (.iconst 1, 1) := by decide +kernel
theorem dX6_firstFault_97 : decode cX6_firstFault 97 = .ok (.isub, 1) := by decide +kernel
theorem dX6_firstFault_98 : decode cX6_firstFault 98 = .ok (.invokestatic 84, 3) := by decide +kernel
theorem dX6_firstFault_101 : decode cX6_firstFault 101 = .ok (.istore_n 2, 1) := by decide +kernel
theorem dX6_firstFault_102 : decode cX6_firstFault 102 = .ok (.iinc 2 1, 3) := by decide +kernel
theorem dX6_firstFault_105 : decode cX6_firstFault 105 = .ok (.goto (-103), 3) := by decide +kernel
theorem dX6_firstFault_108 : decode cX6_firstFault 108 = .ok (.aload_n 0, 1) := by decide +kernel
theorem dX6_firstFault_109 : decode cX6_firstFault 109 = .ok (.getfield 38, 3) := by decide +kernel
theorem dX6_firstFault_112 : decode cX6_firstFault 112 = .ok (.ifCond .ne 10, 3) := by decide +kernel
theorem dX6_firstFault_115 : decode cX6_firstFault 115 = .ok (.aload_n 0, 1) := by decide +kernel
theorem dX6_firstFault_116 : decode cX6_firstFault 116 = .ok (.getfield 32, 3) := by decide +kernel
theorem dX6_firstFault_119 : decode cX6_firstFault 119 = .ok (.ifCond .le 8, 3) := by decide +kernel
theorem dX6_firstFault_122 : decode cX6_firstFault 122 = .ok (.aload_n 0, 1) := by decide +kernel
theorem dX6_firstFault_123 : decode cX6_firstFault 123 = .ok (.getfield 19, 3) := by decide +kernel
theorem dX6_firstFault_126 : decode cX6_firstFault 126 = .ok (.ireturn, 1) := by decide +kernel
theorem dX6_firstFault_127 : decode cX6_firstFault 127 = .ok (.aload_n 0, 1) := by decide +kernel
theorem dX6_firstFault_128 : decode cX6_firstFault 128 = .ok (.iconst 1, 1) := by decide +kernel
theorem dX6_firstFault_129 : decode cX6_firstFault 129 = .ok (.invokevirtual 89, 3) := by decide +kernel
theorem dX6_firstFault_132 : decode cX6_firstFault 132 = .ok (.iconst (-1), 1) := by decide +kernel
theorem dX6_firstFault_133 : decode cX6_firstFault 133 = .ok (.ireturn, 1) := by decide +kernel
theorem dX6_behindBlanks_0 : decode cX6_behindBlanks 0 = .ok (.iload_n 1, 1) := by decide +kernel
theorem dX6_behindBlanks_1 : decode cX6_behindBlanks 1 = .ok (.istore_n 2, 1) := by decide +kernel
theorem dX6_behindBlanks_2 : decode cX6_behindBlanks 2 = .ok (.iload_n 2, 1) := by decide +kernel
theorem dX6_behindBlanks_3 : decode cX6_behindBlanks 3 = .ok (.aload_n 0, 1) := by decide +kernel
theorem dX6_behindBlanks_4 : decode cX6_behindBlanks 4 = .ok (.getfield 19, 3) := by decide +kernel
theorem dX6_behindBlanks_7 : decode cX6_behindBlanks 7 = .ok (.if_icmp .ge 20, 3) := by decide +kernel
theorem dX6_behindBlanks_10 : decode cX6_behindBlanks 10 = .ok (.aload_n 0, 1) := by decide +kernel
theorem dX6_behindBlanks_11 : decode cX6_behindBlanks 11 = .ok (.getfield 9, 3) := by decide +kernel
theorem dX6_behindBlanks_14 : decode cX6_behindBlanks 14 = .ok (.iload_n 2, 1) := by decide +kernel
theorem dX6_behindBlanks_15 : decode cX6_behindBlanks 15 = .ok (.iaload, 1) := by decide +kernel
theorem dX6_behindBlanks_16 : decode cX6_behindBlanks 16 = .ok (.bipush 32, 2) := by decide +kernel
theorem dX6_behindBlanks_18 : decode cX6_behindBlanks 18 = .ok (.if_icmp .ne 9, 3) := by decide +kernel
theorem dX6_behindBlanks_21 : decode cX6_behindBlanks 21 = .ok (.iinc 2 1, 3) := by decide +kernel
theorem dX6_behindBlanks_24 : decode cX6_behindBlanks 24 = .ok (.goto (-22), 3) := by decide +kernel
theorem dX6_behindBlanks_27 : decode cX6_behindBlanks 27 = .ok (.iload_n 2, 1) := by decide +kernel
theorem dX6_behindBlanks_28 : decode cX6_behindBlanks 28 = .ok (.ireturn, 1) := by decide +kernel
theorem dX6_endOfWord_0 : decode cX6_endOfWord 0 = .ok (.iload_n 1, 1) := by decide +kernel
theorem dX6_endOfWord_1 : decode cX6_endOfWord 1 = .ok (.iconst 1, 1) := by decide +kernel
theorem dX6_endOfWord_2 : decode cX6_endOfWord 2 = .ok (.iadd, 1) := by decide +kernel
theorem dX6_endOfWord_3 : decode cX6_endOfWord 3 = .ok (.istore_n 2, 1) := by decide +kernel
theorem dX6_endOfWord_4 : decode cX6_endOfWord 4 = .ok (.iload_n 2, 1) := by decide +kernel
theorem dX6_endOfWord_5 : decode cX6_endOfWord 5 = .ok (.aload_n 0, 1) := by decide +kernel
theorem dX6_endOfWord_6 : decode cX6_endOfWord 6 = .ok (.getfield 19, 3) := by decide +kernel
theorem dX6_endOfWord_9 : decode cX6_endOfWord 9 = .ok (.if_icmp .ge 41, 3) := by decide +kernel
theorem dX6_endOfWord_12 : decode cX6_endOfWord 12 = .ok (.aload_n 0, 1) := by decide +kernel
theorem dX6_endOfWord_13 : decode cX6_endOfWord 13 = .ok (.iload_n 1, 1) := by decide +kernel
theorem dX6_endOfWord_14 : decode cX6_endOfWord 14 = .ok (.invokevirtual 93, 3) := by decide +kernel
theorem dX6_endOfWord_17 : decode cX6_endOfWord 17 = .ok (.ifCond .eq 11, 3) := by decide +kernel
theorem dX6_endOfWord_20 : decode cX6_endOfWord 20 = .ok (.aload_n 0, 1) := by decide +kernel
theorem dX6_endOfWord_21 : decode cX6_endOfWord 21 = .ok (.iload_n 2, 1) := by decide +kernel
theorem dX6_endOfWord_22 : decode cX6_endOfWord 22 = .ok (.invokevirtual 93, 3) := by decide +kernel
theorem dX6_endOfWord_25 : decode cX6_endOfWord 25 = .ok (.ifCond .ne 19, 3) := by decide +kernel
theorem dX6_endOfWord_28 : decode cX6_endOfWord 28 = .ok (.aload_n 0, 1) := by decide +kernel
theorem dX6_endOfWord_29 : decode cX6_endOfWord 29 = .ok (.iload_n 1, 1) := by decide +kernel
theorem dX6_endOfWord_30 : decode cX6_endOfWord 30 = .ok (.invokevirtual 96, 3) := by decide +kernel
theorem dX6_endOfWord_33 : decode cX6_endOfWord 33 = .ok (.ifCond .eq 17, 3) := by decide +kernel
theorem dX6_endOfWord_36 : decode cX6_endOfWord 36 = .ok (.aload_n 0, 1) := by decide +kernel
theorem dX6_endOfWord_37 : decode cX6_endOfWord 37 = .ok (.iload_n 2, 1) := by decide +kernel
theorem dX6_endOfWord_38 : decode cX6_endOfWord 38 = .ok (.invokevirtual 96, 3) := by decide +kernel
theorem dX6_endOfWord_41 : decode cX6_endOfWord 41 = .ok (.ifCond .eq 9, 3) := by decide +kernel
theorem dX6_endOfWord_44 : decode cX6_endOfWord 44 = .ok (.iinc 2 1, 3) := by decide +kernel
theorem dX6_endOfWord_47 : decode cX6_endOfWord 47 = .ok (.goto (-43), 3) := by decide +kernel
theorem dX6_endOfWord_50 : decode cX6_endOfWord 50 = .ok (.iload_n 2, 1) := by decide +kernel
theorem dX6_endOfWord_51 : decode cX6_endOfWord 51 = .ok (.ireturn, 1) := by decide +kernel
theorem dX6_isLetter_0 : decode cX6_isLetter 0 = .ok (.iload_n 1, 1) := by decide +kernel
theorem dX6_isLetter_1 : decode cX6_isLetter 1 = .ok (.iconst 0, 1) := by decide +kernel
theorem dX6_isLetter_2 : decode cX6_isLetter 2 = .ok (.aload_n 0, 1) := by decide +kernel
theorem dX6_isLetter_3 : decode cX6_isLetter 3 = .ok (.getfield 19, 3) := by decide +kernel
theorem dX6_isLetter_6 : decode cX6_isLetter 6 = .ok (.iconst 1, 1) := by decide +kernel
theorem dX6_isLetter_7 : decode cX6_isLetter 7 = .ok (.isub, 1) := by decide +kernel
theorem dX6_isLetter_8 : decode cX6_isLetter 8 = .ok (.invokestatic 99, 3) := by decide +kernel
theorem dX6_isLetter_11 : decode cX6_isLetter 11 = .ok (.ifCond .eq 23, 3) := by decide +kernel
theorem dX6_isLetter_14 : decode cX6_isLetter 14 = .ok (.aload_n 0, 1) := by decide +kernel
theorem dX6_isLetter_15 : decode cX6_isLetter 15 = .ok (.getfield 9, 3) := by decide +kernel
theorem dX6_isLetter_18 : decode cX6_isLetter 18 = .ok (.iload_n 1, 1) := by decide +kernel
theorem dX6_isLetter_19 : decode cX6_isLetter 19 = .ok (.iaload, 1) := by decide +kernel
theorem dX6_isLetter_20 : decode cX6_isLetter 20 = .ok (.bipush 97, 2) := by decide +kernel
theorem dX6_isLetter_22 : decode cX6_isLetter 22 = .ok (.bipush 122, 2) := by decide +kernel
theorem dX6_isLetter_24 : decode cX6_isLetter 24 = .ok (.invokestatic 99, 3) := by decide +kernel
theorem dX6_isLetter_27 : decode cX6_isLetter 27 = .ok (.ifCond .eq 7, 3) := by decide +kernel
theorem dX6_isLetter_30 : decode cX6_isLetter 30 = .ok (.iconst 1, 1) := by decide +kernel
theorem dX6_isLetter_31 : decode cX6_isLetter 31 = .ok (.goto 4, 3) := by decide +kernel
theorem dX6_isLetter_34 : decode cX6_isLetter 34 = .ok (.iconst 0, 1) := by decide +kernel
theorem dX6_isLetter_35 : decode cX6_isLetter 35 = .ok (.ireturn, 1) := by decide +kernel
theorem dX6_isDigit_0 : decode cX6_isDigit 0 = .ok (.iload_n 1, 1) := by decide +kernel
theorem dX6_isDigit_1 : decode cX6_isDigit 1 = .ok (.iconst 0, 1) := by decide +kernel
theorem dX6_isDigit_2 : decode cX6_isDigit 2 = .ok (.aload_n 0, 1) := by decide +kernel
theorem dX6_isDigit_3 : decode cX6_isDigit 3 = .ok (.getfield 19, 3) := by decide +kernel
theorem dX6_isDigit_6 : decode cX6_isDigit 6 = .ok (.iconst 1, 1) := by decide +kernel
theorem dX6_isDigit_7 : decode cX6_isDigit 7 = .ok (.isub, 1) := by decide +kernel
theorem dX6_isDigit_8 : decode cX6_isDigit 8 = .ok (.invokestatic 99, 3) := by decide +kernel
theorem dX6_isDigit_11 : decode cX6_isDigit 11 = .ok (.ifCond .eq 23, 3) := by decide +kernel
theorem dX6_isDigit_14 : decode cX6_isDigit 14 = .ok (.aload_n 0, 1) := by decide +kernel
theorem dX6_isDigit_15 : decode cX6_isDigit 15 = .ok (.getfield 9, 3) := by decide +kernel
theorem dX6_isDigit_18 : decode cX6_isDigit 18 = .ok (.iload_n 1, 1) := by decide +kernel
theorem dX6_isDigit_19 : decode cX6_isDigit 19 = .ok (.iaload, 1) := by decide +kernel
theorem dX6_isDigit_20 : decode cX6_isDigit 20 = .ok (.bipush 48, 2) := by decide +kernel
theorem dX6_isDigit_22 : decode cX6_isDigit 22 = .ok (.bipush 57, 2) := by decide +kernel
theorem dX6_isDigit_24 : decode cX6_isDigit 24 = .ok (.invokestatic 99, 3) := by decide +kernel
theorem dX6_isDigit_27 : decode cX6_isDigit 27 = .ok (.ifCond .eq 7, 3) := by decide +kernel
theorem dX6_isDigit_30 : decode cX6_isDigit 30 = .ok (.iconst 1, 1) := by decide +kernel
theorem dX6_isDigit_31 : decode cX6_isDigit 31 = .ok (.goto 4, 3) := by decide +kernel
theorem dX6_isDigit_34 : decode cX6_isDigit 34 = .ok (.iconst 0, 1) := by decide +kernel
theorem dX6_isDigit_35 : decode cX6_isDigit 35 = .ok (.ireturn, 1) := by decide +kernel
theorem dX6_isWordByte_0 : decode cX6_isWordByte 0 = .ok (.aload_n 0, 1) := by decide +kernel
theorem dX6_isWordByte_1 : decode cX6_isWordByte 1 = .ok (.iload_n 1, 1) := by decide +kernel
theorem dX6_isWordByte_2 : decode cX6_isWordByte 2 = .ok (.invokevirtual 93, 3) := by decide +kernel
theorem dX6_isWordByte_5 : decode cX6_isWordByte 5 = .ok (.ifCond .ne 11, 3) := by decide +kernel
theorem dX6_isWordByte_8 : decode cX6_isWordByte 8 = .ok (.aload_n 0, 1) := by decide +kernel
theorem dX6_isWordByte_9 : decode cX6_isWordByte 9 = .ok (.iload_n 1, 1) := by decide +kernel
theorem dX6_isWordByte_10 : decode cX6_isWordByte 10 = .ok (.invokevirtual 96, 3) := by decide +kernel
theorem dX6_isWordByte_13 : decode cX6_isWordByte 13 = .ok (.ifCond .eq 7, 3) := by decide +kernel
theorem dX6_isWordByte_16 : decode cX6_isWordByte 16 = .ok (.iconst 1, 1) := by decide +kernel
theorem dX6_isWordByte_17 : decode cX6_isWordByte 17 = .ok (.goto 4, 3) := by decide +kernel
theorem dX6_isWordByte_20 : decode cX6_isWordByte 20 = .ok (.iconst 0, 1) := by decide +kernel
theorem dX6_isWordByte_21 : decode cX6_isWordByte 21 = .ok (.ireturn, 1) := by decide +kernel
theorem dX6_keyOf_0 : decode cX6_keyOf 0 = .ok (.aload_n 0, 1) := by decide +kernel
theorem dX6_keyOf_1 : decode cX6_keyOf 1 = .ok (.ldc 105, 2) := by decide +kernel
theorem dX6_keyOf_3 : decode cX6_keyOf 3 = .ok (.iload_n 1, 1) := by decide +kernel
theorem dX6_keyOf_4 : decode cX6_keyOf 4 = .ok (.iload_n 2, 1) := by decide +kernel
theorem dX6_keyOf_5 : decode cX6_keyOf 5 = .ok (.invokevirtual 107, 3) := by decide +kernel
theorem dX6_keyOf_8 : decode cX6_keyOf 8 = .ok (.ifCond .eq 5, 3) := by decide +kernel
theorem dX6_keyOf_11 : decode cX6_keyOf 11 = .ok (.iconst 0, 1) := by decide +kernel
theorem dX6_keyOf_12 : decode cX6_keyOf 12 = .ok (.ireturn, 1) := by decide +kernel
theorem dX6_keyOf_13 : decode cX6_keyOf 13 = .ok (.aload_n 0, 1) := by decide +kernel
theorem dX6_keyOf_14 : decode cX6_keyOf 14 = .ok (.ldc 111, 2) := by decide +kernel
theorem dX6_keyOf_16 : decode cX6_keyOf 16 = .ok (.iload_n 1, 1) := by decide +kernel
theorem dX6_keyOf_17 : decode cX6_keyOf 17 = .ok (.iload_n 2, 1) := by decide +kernel
theorem dX6_keyOf_18 : decode cX6_keyOf 18 = .ok (.invokevirtual 107, 3) := by decide +kernel
theorem dX6_keyOf_21 : decode cX6_keyOf 21 = .ok (.ifCond .eq 5, 3) := by decide +kernel
theorem dX6_keyOf_24 : decode cX6_keyOf 24 = .ok (.iconst 1, 1) := by decide +kernel
theorem dX6_keyOf_25 : decode cX6_keyOf 25 = .ok (.ireturn, 1) := by decide +kernel
theorem dX6_keyOf_26 : decode cX6_keyOf 26 = .ok (.aload_n 0, 1) := by decide +kernel
theorem dX6_keyOf_27 : decode cX6_keyOf 27 = .ok (.ldc 113, 2) := by decide +kernel
theorem dX6_keyOf_29 : decode cX6_keyOf 29 = .ok (.iload_n 1, 1) := by decide +kernel
theorem dX6_keyOf_30 : decode cX6_keyOf 30 = .ok (.iload_n 2, 1) := by decide +kernel
theorem dX6_keyOf_31 : decode cX6_keyOf 31 = .ok (.invokevirtual 107, 3) := by decide +kernel
theorem dX6_keyOf_34 : decode cX6_keyOf 34 = .ok (.ifCond .eq 5, 3) := by decide +kernel
theorem dX6_keyOf_37 : decode cX6_keyOf 37 = .ok (.iconst 2, 1) := by decide +kernel
theorem dX6_keyOf_38 : decode cX6_keyOf 38 = .ok (.ireturn, 1) := by decide +kernel
theorem dX6_keyOf_39 : decode cX6_keyOf 39 = .ok (.aload_n 0, 1) := by decide +kernel
theorem dX6_keyOf_40 : decode cX6_keyOf 40 = .ok (.ldc 115, 2) := by decide +kernel
theorem dX6_keyOf_42 : decode cX6_keyOf 42 = .ok (.iload_n 1, 1) := by decide +kernel
theorem dX6_keyOf_43 : decode cX6_keyOf 43 = .ok (.iload_n 2, 1) := by decide +kernel
theorem dX6_keyOf_44 : decode cX6_keyOf 44 = .ok (.invokevirtual 107, 3) := by decide +kernel
theorem dX6_keyOf_47 : decode cX6_keyOf 47 = .ok (.ifCond .eq 7, 3) := by decide +kernel
theorem dX6_keyOf_50 : decode cX6_keyOf 50 = .ok (.iconst 3, 1) := by decide +kernel
theorem dX6_keyOf_51 : decode cX6_keyOf 51 = .ok (.goto 4, 3) := by decide +kernel
theorem dX6_keyOf_54 : decode cX6_keyOf 54 = .ok (.iconst (-1), 1) := by decide +kernel
theorem dX6_keyOf_55 : decode cX6_keyOf 55 = .ok (.ireturn, 1) := by decide +kernel
theorem dX6_stands_0 : decode cX6_stands 0 = .ok (.iload_n 3, 1) := by decide +kernel
theorem dX6_stands_1 : decode cX6_stands 1 = .ok (.aload_n 0, 1) := by decide +kernel
theorem dX6_stands_2 : decode cX6_stands 2 = .ok (.getfield 19, 3) := by decide +kernel
theorem dX6_stands_5 : decode cX6_stands 5 = .ok (.if_icmp .gt 13, 3) := by decide +kernel
theorem dX6_stands_8 : decode cX6_stands 8 = .ok (.iload_n 3, 1) := by decide +kernel
theorem dX6_stands_9 : decode cX6_stands 9 = .ok (.iload_n 2, 1) := by decide +kernel
theorem dX6_stands_10 : decode cX6_stands 10 = .ok (.isub, 1) := by decide +kernel
theorem dX6_stands_11 : decode cX6_stands 11 = .ok (.aload_n 1, 1) := by decide +kernel
theorem dX6_stands_12 : decode cX6_stands 12 = .ok (.invokevirtual 117, 3) := by decide +kernel
theorem dX6_stands_15 : decode cX6_stands 15 = .ok (.if_icmp .eq 5, 3) := by decide +kernel
theorem dX6_stands_18 : decode cX6_stands 18 = .ok (.iconst 0, 1) := by decide +kernel
theorem dX6_stands_19 : decode cX6_stands 19 = .ok (.ireturn, 1) := by decide +kernel
theorem dX6_stands_20 : decode cX6_stands 20 = .ok (.iconst 0, 1) := by decide +kernel
theorem dX6_stands_21 : decode cX6_stands 21 = .ok (.istore 4, 2) := by decide +kernel
theorem dX6_stands_23 : decode cX6_stands 23 = .ok (.iload 4, 2) := by decide +kernel
theorem dX6_stands_25 : decode cX6_stands 25 = .ok (.aload_n 1, 1) := by decide +kernel
theorem dX6_stands_26 : decode cX6_stands 26 = .ok (.invokevirtual 117, 3) := by decide +kernel
theorem dX6_stands_29 : decode cX6_stands 29 = .ok (.if_icmp .ge 29, 3) := by decide +kernel
theorem dX6_stands_32 : decode cX6_stands 32 = .ok (.aload_n 0, 1) := by decide +kernel
theorem dX6_stands_33 : decode cX6_stands 33 = .ok (.getfield 9, 3) := by decide +kernel
theorem dX6_stands_36 : decode cX6_stands 36 = .ok (.iload_n 2, 1) := by decide +kernel
theorem dX6_stands_37 : decode cX6_stands 37 = .ok (.iload 4, 2) := by decide +kernel
theorem dX6_stands_39 : decode cX6_stands 39 = .ok (.iadd, 1) := by decide +kernel
theorem dX6_stands_40 : decode cX6_stands 40 = .ok (.iaload, 1) := by decide +kernel
theorem dX6_stands_41 : decode cX6_stands 41 = .ok (.aload_n 1, 1) := by decide +kernel
theorem dX6_stands_42 : decode cX6_stands 42 = .ok (.iload 4, 2) := by decide +kernel
theorem dX6_stands_44 : decode cX6_stands 44 = .ok (.invokevirtual 122, 3) := by decide +kernel
theorem dX6_stands_47 : decode cX6_stands 47 = .ok (.if_icmp .eq 5, 3) := by decide +kernel
theorem dX6_stands_50 : decode cX6_stands 50 = .ok (.iconst 0, 1) := by decide +kernel
theorem dX6_stands_51 : decode cX6_stands 51 = .ok (.ireturn, 1) := by decide +kernel
theorem dX6_stands_52 : decode cX6_stands 52 = .ok (.iinc 4 1, 3) := by decide +kernel
theorem dX6_stands_55 : decode cX6_stands 55 = .ok (.goto (-32), 3) := by decide +kernel
theorem dX6_stands_58 : decode cX6_stands 58 = .ok (.iconst 1, 1) := by decide +kernel
theorem dX6_stands_59 : decode cX6_stands 59 = .ok (.ireturn, 1) := by decide +kernel
theorem dX6_namesOfKey_0 : decode cX6_namesOfKey 0 = .ok (.aload_n 0, 1) := by decide +kernel
theorem dX6_namesOfKey_1 : decode cX6_namesOfKey 1 = .ok (.getfield 53, 3) := by decide +kernel
theorem dX6_namesOfKey_4 : decode cX6_namesOfKey 4 = .ok (.tableswitch 37 0 2 #[28, 31, 34], 28) := by decide +kernel
theorem dX6_namesOfKey_32 : decode cX6_namesOfKey 32 = .ok (.ldc 126, 2) := by decide +kernel
theorem dX6_namesOfKey_34 : decode cX6_namesOfKey 34 = .ok (.areturn, 1) := by decide +kernel
theorem dX6_namesOfKey_35 : decode cX6_namesOfKey 35 = .ok (.ldc 128, 2) := by decide +kernel
theorem dX6_namesOfKey_37 : decode cX6_namesOfKey 37 = .ok (.areturn, 1) := by decide +kernel
theorem dX6_namesOfKey_38 : decode cX6_namesOfKey 38 = .ok (.ldc 130, 2) := by decide +kernel
theorem dX6_namesOfKey_40 : decode cX6_namesOfKey 40 = .ok (.areturn, 1) := by decide +kernel
theorem dX6_namesOfKey_41 : decode cX6_namesOfKey 41 = .ok (.ldc 132, 2) := by decide +kernel
theorem dX6_namesOfKey_43 : decode cX6_namesOfKey 43 = .ok (.areturn, 1) := by decide +kernel
theorem dX6_takesPart_0 : decode cX6_takesPart 0 = .ok (.aload_n 0, 1) := by decide +kernel
theorem dX6_takesPart_1 : decode cX6_takesPart 1 = .ok (.iload_n 1, 1) := by decide +kernel
theorem dX6_takesPart_2 : decode cX6_takesPart 2 = .ok (.invokevirtual 96, 3) := by decide +kernel
theorem dX6_takesPart_5 : decode cX6_takesPart 5 = .ok (.ifCond .eq 10, 3) := by decide +kernel
theorem dX6_takesPart_8 : decode cX6_takesPart 8 = .ok (.aload_n 0, 1) := by decide +kernel
theorem dX6_takesPart_9 : decode cX6_takesPart 9 = .ok (.iload_n 1, 1) := by decide +kernel
theorem dX6_takesPart_10 : decode cX6_takesPart 10 = .ok (.iload_n 2, 1) := by decide +kernel
theorem dX6_takesPart_11 : decode cX6_takesPart 11 = .ok (.invokevirtual 134, 3) := by decide +kernel
theorem dX6_takesPart_14 : decode cX6_takesPart 14 = .ok (.ireturn, 1) := by decide +kernel
theorem dX6_takesPart_15 : decode cX6_takesPart 15 = .ok (.aload_n 0, 1) := by decide +kernel
theorem dX6_takesPart_16 : decode cX6_takesPart 16 = .ok (.iload_n 1, 1) := by decide +kernel
theorem dX6_takesPart_17 : decode cX6_takesPart 17 = .ok (.invokevirtual 93, 3) := by decide +kernel
theorem dX6_takesPart_20 : decode cX6_takesPart 20 = .ok (.ifCond .eq 51, 3) := by decide +kernel
theorem dX6_takesPart_23 : decode cX6_takesPart 23 = .ok (.iload_n 2, 1) := by decide +kernel
theorem dX6_takesPart_24 : decode cX6_takesPart 24 = .ok (.iload_n 1, 1) := by decide +kernel
theorem dX6_takesPart_25 : decode cX6_takesPart 25 = .ok (.isub, 1) := by decide +kernel
theorem dX6_takesPart_26 : decode cX6_takesPart 26 = .ok (.iconst 1, 1) := by decide +kernel
theorem dX6_takesPart_27 : decode cX6_takesPart 27 = .ok (.if_icmp .ne 20, 3) := by decide +kernel
theorem dX6_takesPart_30 : decode cX6_takesPart 30 = .ok (.aload_n 0, 1) := by decide +kernel
theorem dX6_takesPart_31 : decode cX6_takesPart 31 = .ok (.invokevirtual 137, 3) := by decide +kernel
theorem dX6_takesPart_34 : decode cX6_takesPart 34 = .ok (.aload_n 0, 1) := by decide +kernel
theorem dX6_takesPart_35 : decode cX6_takesPart 35 = .ok (.getfield 9, 3) := by decide +kernel
theorem dX6_takesPart_38 : decode cX6_takesPart 38 = .ok (.iload_n 1, 1) := by decide +kernel
theorem dX6_takesPart_39 : decode cX6_takesPart 39 = .ok (.iaload, 1) := by decide +kernel
theorem dX6_takesPart_40 : decode cX6_takesPart 40 = .ok (.i2c, 1) := by decide +kernel
theorem dX6_takesPart_41 : decode cX6_takesPart 41 = .ok (.invokevirtual 141, 3) := by decide +kernel
theorem dX6_takesPart_44 : decode cX6_takesPart 44 = .ok (.goto 4, 3) := by decide +kernel
theorem dX6_takesPart_47 : decode cX6_takesPart 47 = .ok (.iconst (-1), 1) := by decide +kernel
theorem dX6_takesPart_48 : decode cX6_takesPart 48 = .ok (.istore_n 3, 1) := by decide +kernel
theorem dX6_takesPart_49 : decode cX6_takesPart 49 = .ok (.iload_n 3, 1) := by decide +kernel
theorem dX6_takesPart_50 : decode cX6_takesPart 50 = .ok (.ifCond .lt 19, 3) := by decide +kernel
theorem dX6_takesPart_53 : decode cX6_takesPart 53 = .ok (.aload_n 0, 1) := by decide +kernel
theorem dX6_takesPart_54 : decode cX6_takesPart 54 = .ok (.sipush 10000, 3) := by decide +kernel
theorem dX6_takesPart_57 : decode cX6_takesPart 57 = .ok (.iload_n 3, 1) := by decide +kernel
theorem dX6_takesPart_58 : decode cX6_takesPart 58 = .ok (.iadd, 1) := by decide +kernel
theorem dX6_takesPart_59 : decode cX6_takesPart 59 = .ok (.invokevirtual 144, 3) := by decide +kernel
theorem dX6_takesPart_62 : decode cX6_takesPart 62 = .ok (.ifCond .eq 7, 3) := by decide +kernel
theorem dX6_takesPart_65 : decode cX6_takesPart 65 = .ok (.iconst 1, 1) := by decide +kernel
theorem dX6_takesPart_66 : decode cX6_takesPart 66 = .ok (.goto 4, 3) := by decide +kernel
theorem dX6_takesPart_69 : decode cX6_takesPart 69 = .ok (.iconst 0, 1) := by decide +kernel
theorem dX6_takesPart_70 : decode cX6_takesPart 70 = .ok (.ireturn, 1) := by decide +kernel
theorem dX6_takesPart_71 : decode cX6_takesPart 71 = .ok (.aload_n 0, 1) := by decide +kernel
theorem dX6_takesPart_72 : decode cX6_takesPart 72 = .ok (.getfield 9, 3) := by decide +kernel
theorem dX6_takesPart_75 : decode cX6_takesPart 75 = .ok (.iload_n 1, 1) := by decide +kernel
theorem dX6_takesPart_76 : decode cX6_takesPart 76 = .ok (.iaload, 1) := by decide +kernel
theorem dX6_takesPart_77 : decode cX6_takesPart 77 = .ok (.bipush 40, 2) := by decide +kernel
theorem dX6_takesPart_79 : decode cX6_takesPart 79 = .ok (.if_icmp .ne 29, 3) := by decide +kernel
theorem dX6_takesPart_82 : decode cX6_takesPart 82 = .ok (.aload_n 0, 1) := by decide +kernel
theorem dX6_takesPart_83 : decode cX6_takesPart 83 = .ok (.getfield 32, 3) := by decide +kernel
theorem dX6_takesPart_86 : decode cX6_takesPart 86 = .ok (.bipush 8, 2) := by decide +kernel
theorem dX6_takesPart_88 : decode cX6_takesPart 88 = .ok (.if_icmp .ge 20, 3) := by decide +kernel
theorem dX6_takesPart_91 : decode cX6_takesPart 91 = .ok (.aload_n 0, 1) := by decide +kernel
theorem dX6_takesPart_92 : decode cX6_takesPart 92 = .ok (.dup, 1) := by decide +kernel
theorem dX6_takesPart_93 : decode cX6_takesPart 93 = .ok (.getfield 32, 3) := by decide +kernel
theorem dX6_takesPart_96 : decode cX6_takesPart 96 = .ok (.iconst 1, 1) := by decide +kernel
theorem dX6_takesPart_97 : decode cX6_takesPart 97 = .ok (.iadd, 1) := by decide +kernel
theorem dX6_takesPart_98 : decode cX6_takesPart 98 = .ok (.putfield 32, 3) := by decide +kernel
theorem dX6_takesPart_101 : decode cX6_takesPart 101 = .ok (.aload_n 0, 1) := by decide +kernel
theorem dX6_takesPart_102 : decode cX6_takesPart 102 = .ok (.bipush 40, 2) := by decide +kernel
theorem dX6_takesPart_104 : decode cX6_takesPart 104 = .ok (.invokevirtual 147, 3) := by decide +kernel
theorem dX6_takesPart_107 : decode cX6_takesPart 107 = .ok (.ireturn, 1) := by decide +kernel
theorem dX6_takesPart_108 : decode cX6_takesPart 108 = .ok (.aload_n 0, 1) := by decide +kernel
theorem dX6_takesPart_109 : decode cX6_takesPart 109 = .ok (.getfield 9, 3) := by decide +kernel
theorem dX6_takesPart_112 : decode cX6_takesPart 112 = .ok (.iload_n 1, 1) := by decide +kernel
theorem dX6_takesPart_113 : decode cX6_takesPart 113 = .ok (.iaload, 1) := by decide +kernel
theorem dX6_takesPart_114 : decode cX6_takesPart 114 = .ok (.bipush 33, 2) := by decide +kernel
theorem dX6_takesPart_116 : decode cX6_takesPart 116 = .ok (.if_icmp .ne 29, 3) := by decide +kernel
theorem dX6_takesPart_119 : decode cX6_takesPart 119 = .ok (.aload_n 0, 1) := by decide +kernel
theorem dX6_takesPart_120 : decode cX6_takesPart 120 = .ok (.getfield 35, 3) := by decide +kernel
theorem dX6_takesPart_123 : decode cX6_takesPart 123 = .ok (.bipush 8, 2) := by decide +kernel
theorem dX6_takesPart_125 : decode cX6_takesPart 125 = .ok (.if_icmp .ge 20, 3) := by decide +kernel
theorem dX6_takesPart_128 : decode cX6_takesPart 128 = .ok (.aload_n 0, 1) := by decide +kernel
theorem dX6_takesPart_129 : decode cX6_takesPart 129 = .ok (.dup, 1) := by decide +kernel
theorem dX6_takesPart_130 : decode cX6_takesPart 130 = .ok (.getfield 35, 3) := by decide +kernel
theorem dX6_takesPart_133 : decode cX6_takesPart 133 = .ok (.iconst 1, 1) := by decide +kernel
theorem dX6_takesPart_134 : decode cX6_takesPart 134 = .ok (.iadd, 1) := by decide +kernel
theorem dX6_takesPart_135 : decode cX6_takesPart 135 = .ok (.putfield 35, 3) := by decide +kernel
theorem dX6_takesPart_138 : decode cX6_takesPart 138 = .ok (.aload_n 0, 1) := by decide +kernel
theorem dX6_takesPart_139 : decode cX6_takesPart 139 = .ok (.bipush 33, 2) := by decide +kernel
theorem dX6_takesPart_141 : decode cX6_takesPart 141 = .ok (.invokevirtual 147, 3) := by decide +kernel
theorem dX6_takesPart_144 : decode cX6_takesPart 144 = .ok (.ireturn, 1) := by decide +kernel
theorem dX6_takesPart_145 : decode cX6_takesPart 145 = .ok (.iconst 0, 1) := by decide +kernel
theorem dX6_takesPart_146 : decode cX6_takesPart 146 = .ok (.ireturn, 1) := by decide +kernel
theorem dX6_takesNumber_0 : decode cX6_takesNumber 0 = .ok (.iload_n 2, 1) := by decide +kernel
theorem dX6_takesNumber_1 : decode cX6_takesNumber 1 = .ok (.iload_n 1, 1) := by decide +kernel
theorem dX6_takesNumber_2 : decode cX6_takesNumber 2 = .ok (.isub, 1) := by decide +kernel
theorem dX6_takesNumber_3 : decode cX6_takesNumber 3 = .ok (.iconst 4, 1) := by decide +kernel
theorem dX6_takesNumber_4 : decode cX6_takesNumber 4 = .ok (.if_icmp .le 5, 3) := by decide +kernel
theorem dX6_takesNumber_7 : decode cX6_takesNumber 7 = .ok (.iconst 0, 1) := by decide +kernel
theorem dX6_takesNumber_8 : decode cX6_takesNumber 8 = .ok (.ireturn, 1) := by decide +kernel
theorem dX6_takesNumber_9 : decode cX6_takesNumber 9 = .ok (.iconst 0, 1) := by decide +kernel
theorem dX6_takesNumber_10 : decode cX6_takesNumber 10 = .ok (.istore_n 3, 1) := by decide +kernel
theorem dX6_takesNumber_11 : decode cX6_takesNumber 11 = .ok (.iload_n 1, 1) := by decide +kernel
theorem dX6_takesNumber_12 : decode cX6_takesNumber 12 = .ok (.istore 4, 2) := by decide +kernel
theorem dX6_takesNumber_14 : decode cX6_takesNumber 14 = .ok (.iload 4, 2) := by decide +kernel
theorem dX6_takesNumber_16 : decode cX6_takesNumber 16 = .ok (.iload_n 2, 1) := by decide +kernel
theorem dX6_takesNumber_17 : decode cX6_takesNumber 17 = .ok (.if_icmp .ge 25, 3) := by decide +kernel
theorem dX6_takesNumber_20 : decode cX6_takesNumber 20 = .ok (.iload_n 3, 1) := by decide +kernel
theorem dX6_takesNumber_21 : decode cX6_takesNumber 21 = .ok (.bipush 10, 2) := by decide +kernel
theorem dX6_takesNumber_23 : decode cX6_takesNumber 23 = .ok (.imul, 1) := by decide +kernel
theorem dX6_takesNumber_24 : decode cX6_takesNumber 24 = .ok (.aload_n 0, 1) := by decide +kernel
theorem dX6_takesNumber_25 : decode cX6_takesNumber 25 = .ok (.getfield 9, 3) := by decide +kernel
theorem dX6_takesNumber_28 : decode cX6_takesNumber 28 = .ok (.iload 4, 2) := by decide +kernel
theorem dX6_takesNumber_30 : decode cX6_takesNumber 30 = .ok (.iaload, 1) := by decide +kernel
theorem dX6_takesNumber_31 : decode cX6_takesNumber 31 = .ok (.iadd, 1) := by decide +kernel
theorem dX6_takesNumber_32 : decode cX6_takesNumber 32 = .ok (.bipush 48, 2) := by decide +kernel
theorem dX6_takesNumber_34 : decode cX6_takesNumber 34 = .ok (.isub, 1) := by decide +kernel
theorem dX6_takesNumber_35 : decode cX6_takesNumber 35 = .ok (.istore_n 3, 1) := by decide +kernel
theorem dX6_takesNumber_36 : decode cX6_takesNumber 36 = .ok (.iinc 4 1, 3) := by decide +kernel
theorem dX6_takesNumber_39 : decode cX6_takesNumber 39 = .ok (.goto (-25), 3) := by decide +kernel
theorem dX6_takesNumber_42 : decode cX6_takesNumber 42 = .ok (.aload_n 0, 1) := by decide +kernel
theorem dX6_takesNumber_43 : decode cX6_takesNumber 43 = .ok (.iload_n 3, 1) := by decide +kernel
theorem dX6_takesNumber_44 : decode cX6_takesNumber 44 = .ok (.invokevirtual 144, 3) := by decide +kernel
theorem dX6_takesNumber_47 : decode cX6_takesNumber 47 = .ok (.ireturn, 1) := by decide +kernel
theorem dX6_endsPart_0 : decode cX6_endsPart 0 = .ok (.aload_n 0, 1) := by decide +kernel
theorem dX6_endsPart_1 : decode cX6_endsPart 1 = .ok (.dup, 1) := by decide +kernel
theorem dX6_endsPart_2 : decode cX6_endsPart 2 = .ok (.getfield 29, 3) := by decide +kernel
theorem dX6_endsPart_5 : decode cX6_endsPart 5 = .ok (.iconst 1, 1) := by decide +kernel
theorem dX6_endsPart_6 : decode cX6_endsPart 6 = .ok (.iadd, 1) := by decide +kernel
theorem dX6_endsPart_7 : decode cX6_endsPart 7 = .ok (.putfield 29, 3) := by decide +kernel
theorem dX6_endsPart_10 : decode cX6_endsPart 10 = .ok (.aload_n 0, 1) := by decide +kernel
theorem dX6_endsPart_11 : decode cX6_endsPart 11 = .ok (.iload_n 1, 1) := by decide +kernel
theorem dX6_endsPart_12 : decode cX6_endsPart 12 = .ok (.invokevirtual 150, 3) := by decide +kernel
theorem dX6_endsPart_15 : decode cX6_endsPart 15 = .ok (.aload_n 0, 1) := by decide +kernel
theorem dX6_endsPart_16 : decode cX6_endsPart 16 = .ok (.invokevirtual 153, 3) := by decide +kernel
theorem dX6_endsPart_19 : decode cX6_endsPart 19 = .ok (.aload_n 0, 1) := by decide +kernel
theorem dX6_endsPart_20 : decode cX6_endsPart 20 = .ok (.iconst 0, 1) := by decide +kernel
theorem dX6_endsPart_21 : decode cX6_endsPart 21 = .ok (.putfield 38, 3) := by decide +kernel
theorem dX6_endsPart_24 : decode cX6_endsPart 24 = .ok (.iconst 1, 1) := by decide +kernel
theorem dX6_endsPart_25 : decode cX6_endsPart 25 = .ok (.ireturn, 1) := by decide +kernel
theorem dX6_takesSign_0 : decode cX6_takesSign 0 = .ok (.iload_n 1, 1) := by decide +kernel
theorem dX6_takesSign_1 : decode cX6_takesSign 1 = .ok (.bipush 41, 2) := by decide +kernel
theorem dX6_takesSign_3 : decode cX6_takesSign 3 = .ok (.if_icmp .ne 8, 3) := by decide +kernel
theorem dX6_takesSign_6 : decode cX6_takesSign 6 = .ok (.aload_n 0, 1) := by decide +kernel
theorem dX6_takesSign_7 : decode cX6_takesSign 7 = .ok (.invokevirtual 156, 3) := by decide +kernel
theorem dX6_takesSign_10 : decode cX6_takesSign 10 = .ok (.ireturn, 1) := by decide +kernel
theorem dX6_takesSign_11 : decode cX6_takesSign 11 = .ok (.iload_n 1, 1) := by decide +kernel
theorem dX6_takesSign_12 : decode cX6_takesSign 12 = .ok (.invokestatic 160, 3) := by decide +kernel
theorem dX6_takesSign_15 : decode cX6_takesSign 15 = .ok (.istore_n 2, 1) := by decide +kernel
theorem dX6_takesSign_16 : decode cX6_takesSign 16 = .ok (.iload_n 2, 1) := by decide +kernel
theorem dX6_takesSign_17 : decode cX6_takesSign 17 = .ok (.ifCond .ne 5, 3) := by decide +kernel
theorem dX6_takesSign_20 : decode cX6_takesSign 20 = .ok (.iconst 0, 1) := by decide +kernel
theorem dX6_takesSign_21 : decode cX6_takesSign 21 = .ok (.ireturn, 1) := by decide +kernel
theorem dX6_takesSign_22 : decode cX6_takesSign 22 = .ok (.aload_n 0, 1) := by decide +kernel
theorem dX6_takesSign_23 : decode cX6_takesSign 23 = .ok (.iload_n 2, 1) := by decide +kernel
theorem dX6_takesSign_24 : decode cX6_takesSign 24 = .ok (.iconst 1, 1) := by decide +kernel
theorem dX6_takesSign_25 : decode cX6_takesSign 25 = .ok (.iadd, 1) := by decide +kernel
theorem dX6_takesSign_26 : decode cX6_takesSign 26 = .ok (.invokevirtual 89, 3) := by decide +kernel
theorem dX6_takesSign_29 : decode cX6_takesSign 29 = .ok (.iload_n 2, 1) := by decide +kernel
theorem dX6_takesSign_30 : decode cX6_takesSign 30 = .ok (.bipush 61, 2) := by decide +kernel
theorem dX6_takesSign_32 : decode cX6_takesSign 32 = .ok (.invokestatic 160, 3) := by decide +kernel
theorem dX6_takesSign_35 : decode cX6_takesSign 35 = .ok (.if_icmp .ne 16, 3) := by decide +kernel
theorem dX6_takesSign_38 : decode cX6_takesSign 38 = .ok (.aload_n 0, 1) := by decide +kernel
theorem dX6_takesSign_39 : decode cX6_takesSign 39 = .ok (.invokevirtual 163, 3) := by decide +kernel
theorem dX6_takesSign_42 : decode cX6_takesSign 42 = .ok (.invokestatic 160, 3) := by decide +kernel
theorem dX6_takesSign_45 : decode cX6_takesSign 45 = .ok (.iload_n 2, 1) := by decide +kernel
theorem dX6_takesSign_46 : decode cX6_takesSign 46 = .ok (.if_icmp .ne 5, 3) := by decide +kernel
theorem dX6_takesSign_49 : decode cX6_takesSign 49 = .ok (.iconst 0, 1) := by decide +kernel
theorem dX6_takesSign_50 : decode cX6_takesSign 50 = .ok (.ireturn, 1) := by decide +kernel
theorem dX6_takesSign_51 : decode cX6_takesSign 51 = .ok (.aload_n 0, 1) := by decide +kernel
theorem dX6_takesSign_52 : decode cX6_takesSign 52 = .ok (.iload_n 2, 1) := by decide +kernel
theorem dX6_takesSign_53 : decode cX6_takesSign 53 = .ok (.invokevirtual 89, 3) := by decide +kernel
theorem dX6_takesSign_56 : decode cX6_takesSign 56 = .ok (.aload_n 0, 1) := by decide +kernel
theorem dX6_takesSign_57 : decode cX6_takesSign 57 = .ok (.iconst 1, 1) := by decide +kernel
theorem dX6_takesSign_58 : decode cX6_takesSign 58 = .ok (.putfield 38, 3) := by decide +kernel
theorem dX6_takesSign_61 : decode cX6_takesSign 61 = .ok (.aload_n 0, 1) := by decide +kernel
theorem dX6_takesSign_62 : decode cX6_takesSign 62 = .ok (.iload_n 1, 1) := by decide +kernel
theorem dX6_takesSign_63 : decode cX6_takesSign 63 = .ok (.invokevirtual 147, 3) := by decide +kernel
theorem dX6_takesSign_66 : decode cX6_takesSign 66 = .ok (.ireturn, 1) := by decide +kernel
theorem dX6_closesBracket_0 : decode cX6_closesBracket 0 = .ok (.aload_n 0, 1) := by decide +kernel
theorem dX6_closesBracket_1 : decode cX6_closesBracket 1 = .ok (.getfield 32, 3) := by decide +kernel
theorem dX6_closesBracket_4 : decode cX6_closesBracket 4 = .ok (.ifCond .ne 5, 3) := by decide +kernel
theorem dX6_closesBracket_7 : decode cX6_closesBracket 7 = .ok (.iconst 0, 1) := by decide +kernel
theorem dX6_closesBracket_8 : decode cX6_closesBracket 8 = .ok (.ireturn, 1) := by decide +kernel
theorem dX6_closesBracket_9 : decode cX6_closesBracket 9 = .ok (.aload_n 0, 1) := by decide +kernel
theorem dX6_closesBracket_10 : decode cX6_closesBracket 10 = .ok (.iconst 1, 1) := by decide +kernel
theorem dX6_closesBracket_11 : decode cX6_closesBracket 11 = .ok (.invokevirtual 89, 3) := by decide +kernel
theorem dX6_closesBracket_14 : decode cX6_closesBracket 14 = .ok (.aload_n 0, 1) := by decide +kernel
theorem dX6_closesBracket_15 : decode cX6_closesBracket 15 = .ok (.dup, 1) := by decide +kernel
theorem dX6_closesBracket_16 : decode cX6_closesBracket 16 = .ok (.getfield 26, 3) := by decide +kernel
theorem dX6_closesBracket_19 : decode cX6_closesBracket 19 = .ok (.iconst 1, 1) := by decide +kernel
theorem dX6_closesBracket_20 : decode cX6_closesBracket 20 = .ok (.isub, 1) := by decide +kernel
theorem dX6_closesBracket_21 : decode cX6_closesBracket 21 = .ok (.putfield 26, 3) := by decide +kernel
theorem dX6_closesBracket_24 : decode cX6_closesBracket 24 = .ok (.aload_n 0, 1) := by decide +kernel
theorem dX6_closesBracket_25 : decode cX6_closesBracket 25 = .ok (.dup, 1) := by decide +kernel
theorem dX6_closesBracket_26 : decode cX6_closesBracket 26 = .ok (.getfield 32, 3) := by decide +kernel
theorem dX6_closesBracket_29 : decode cX6_closesBracket 29 = .ok (.iconst 1, 1) := by decide +kernel
theorem dX6_closesBracket_30 : decode cX6_closesBracket 30 = .ok (.isub, 1) := by decide +kernel
theorem dX6_closesBracket_31 : decode cX6_closesBracket 31 = .ok (.putfield 32, 3) := by decide +kernel
theorem dX6_closesBracket_34 : decode cX6_closesBracket 34 = .ok (.aload_n 0, 1) := by decide +kernel
theorem dX6_closesBracket_35 : decode cX6_closesBracket 35 = .ok (.invokevirtual 153, 3) := by decide +kernel
theorem dX6_closesBracket_38 : decode cX6_closesBracket 38 = .ok (.iconst 1, 1) := by decide +kernel
theorem dX6_closesBracket_39 : decode cX6_closesBracket 39 = .ok (.ireturn, 1) := by decide +kernel
theorem dX6_settleNots_0 : decode cX6_settleNots 0 = .ok (.aload_n 0, 1) := by decide +kernel
theorem dX6_settleNots_1 : decode cX6_settleNots 1 = .ok (.getfield 26, 3) := by decide +kernel
theorem dX6_settleNots_4 : decode cX6_settleNots 4 = .ok (.ifCond .le 41, 3) := by decide +kernel
theorem dX6_settleNots_7 : decode cX6_settleNots 7 = .ok (.aload_n 0, 1) := by decide +kernel
theorem dX6_settleNots_8 : decode cX6_settleNots 8 = .ok (.invokevirtual 163, 3) := by decide +kernel
theorem dX6_settleNots_11 : decode cX6_settleNots 11 = .ok (.bipush 33, 2) := by decide +kernel
theorem dX6_settleNots_13 : decode cX6_settleNots 13 = .ok (.if_icmp .ne 32, 3) := by decide +kernel
theorem dX6_settleNots_16 : decode cX6_settleNots 16 = .ok (.aload_n 0, 1) := by decide +kernel
theorem dX6_settleNots_17 : decode cX6_settleNots 17 = .ok (.bipush (-33), 2) := by decide +kernel
theorem dX6_settleNots_19 : decode cX6_settleNots 19 = .ok (.invokevirtual 150, 3) := by decide +kernel
theorem dX6_settleNots_22 : decode cX6_settleNots 22 = .ok (.aload_n 0, 1) := by decide +kernel
theorem dX6_settleNots_23 : decode cX6_settleNots 23 = .ok (.dup, 1) := by decide +kernel
theorem dX6_settleNots_24 : decode cX6_settleNots 24 = .ok (.getfield 26, 3) := by decide +kernel
theorem dX6_settleNots_27 : decode cX6_settleNots 27 = .ok (.iconst 1, 1) := by decide +kernel
theorem dX6_settleNots_28 : decode cX6_settleNots 28 = .ok (.isub, 1) := by decide +kernel
theorem dX6_settleNots_29 : decode cX6_settleNots 29 = .ok (.putfield 26, 3) := by decide +kernel
theorem dX6_settleNots_32 : decode cX6_settleNots 32 = .ok (.aload_n 0, 1) := by decide +kernel
theorem dX6_settleNots_33 : decode cX6_settleNots 33 = .ok (.dup, 1) := by decide +kernel
theorem dX6_settleNots_34 : decode cX6_settleNots 34 = .ok (.getfield 35, 3) := by decide +kernel
theorem dX6_settleNots_37 : decode cX6_settleNots 37 = .ok (.iconst 1, 1) := by decide +kernel
theorem dX6_settleNots_38 : decode cX6_settleNots 38 = .ok (.isub, 1) := by decide +kernel
theorem dX6_settleNots_39 : decode cX6_settleNots 39 = .ok (.putfield 35, 3) := by decide +kernel
theorem dX6_settleNots_42 : decode cX6_settleNots 42 = .ok (.goto (-42), 3) := by decide +kernel
theorem dX6_settleNots_45 : decode cX6_settleNots 45 = .ok (.return_, 1) := by decide +kernel
theorem dX6_settleFrom_0 : decode cX6_settleFrom 0 = .ok (.aload_n 0, 1) := by decide +kernel
theorem dX6_settleFrom_1 : decode cX6_settleFrom 1 = .ok (.getfield 26, 3) := by decide +kernel
theorem dX6_settleFrom_4 : decode cX6_settleFrom 4 = .ok (.ifCond .le 36, 3) := by decide +kernel
theorem dX6_settleFrom_7 : decode cX6_settleFrom 7 = .ok (.aload_n 0, 1) := by decide +kernel
theorem dX6_settleFrom_8 : decode cX6_settleFrom 8 = .ok (.invokevirtual 163, 3) := by decide +kernel
theorem dX6_settleFrom_11 : decode cX6_settleFrom 11 = .ok (.invokestatic 160, 3) := by decide +kernel
theorem dX6_settleFrom_14 : decode cX6_settleFrom 14 = .ok (.iload_n 1, 1) := by decide +kernel
theorem dX6_settleFrom_15 : decode cX6_settleFrom 15 = .ok (.if_icmp .lt 25, 3) := by decide +kernel
theorem dX6_settleFrom_18 : decode cX6_settleFrom 18 = .ok (.aload_n 0, 1) := by decide +kernel
theorem dX6_settleFrom_19 : decode cX6_settleFrom 19 = .ok (.aload_n 0, 1) := by decide +kernel
theorem dX6_settleFrom_20 : decode cX6_settleFrom 20 = .ok (.invokevirtual 163, 3) := by decide +kernel
theorem dX6_settleFrom_23 : decode cX6_settleFrom 23 = .ok (.ineg, 1) := by decide +kernel
theorem dX6_settleFrom_24 : decode cX6_settleFrom 24 = .ok (.invokevirtual 150, 3) := by decide +kernel
theorem dX6_settleFrom_27 : decode cX6_settleFrom 27 = .ok (.aload_n 0, 1) := by decide +kernel
theorem dX6_settleFrom_28 : decode cX6_settleFrom 28 = .ok (.dup, 1) := by decide +kernel
theorem dX6_settleFrom_29 : decode cX6_settleFrom 29 = .ok (.getfield 26, 3) := by decide +kernel
theorem dX6_settleFrom_32 : decode cX6_settleFrom 32 = .ok (.iconst 1, 1) := by decide +kernel
theorem dX6_settleFrom_33 : decode cX6_settleFrom 33 = .ok (.isub, 1) := by decide +kernel
theorem dX6_settleFrom_34 : decode cX6_settleFrom 34 = .ok (.putfield 26, 3) := by decide +kernel
theorem dX6_settleFrom_37 : decode cX6_settleFrom 37 = .ok (.goto (-37), 3) := by decide +kernel
theorem dX6_settleFrom_40 : decode cX6_settleFrom 40 = .ok (.return_, 1) := by decide +kernel
theorem dX6_topSign_0 : decode cX6_topSign 0 = .ok (.aload_n 0, 1) := by decide +kernel
theorem dX6_topSign_1 : decode cX6_topSign 1 = .ok (.getfield 26, 3) := by decide +kernel
theorem dX6_topSign_4 : decode cX6_topSign 4 = .ok (.ifCond .le 17, 3) := by decide +kernel
theorem dX6_topSign_7 : decode cX6_topSign 7 = .ok (.aload_n 0, 1) := by decide +kernel
theorem dX6_topSign_8 : decode cX6_topSign 8 = .ok (.getfield 16, 3) := by decide +kernel
theorem dX6_topSign_11 : decode cX6_topSign 11 = .ok (.aload_n 0, 1) := by decide +kernel
theorem dX6_topSign_12 : decode cX6_topSign 12 = .ok (.getfield 26, 3) := by decide +kernel
theorem dX6_topSign_15 : decode cX6_topSign 15 = .ok (.iconst 1, 1) := by decide +kernel
theorem dX6_topSign_16 : decode cX6_topSign 16 = .ok (.isub, 1) := by decide +kernel
theorem dX6_topSign_17 : decode cX6_topSign 17 = .ok (.iaload, 1) := by decide +kernel
theorem dX6_topSign_18 : decode cX6_topSign 18 = .ok (.goto 4, 3) := by decide +kernel
theorem dX6_topSign_21 : decode cX6_topSign 21 = .ok (.iconst 0, 1) := by decide +kernel
theorem dX6_topSign_22 : decode cX6_topSign 22 = .ok (.ireturn, 1) := by decide +kernel
theorem dX6_pushSign_0 : decode cX6_pushSign 0 = .ok (.aload_n 0, 1) := by decide +kernel
theorem dX6_pushSign_1 : decode cX6_pushSign 1 = .ok (.getfield 26, 3) := by decide +kernel
theorem dX6_pushSign_4 : decode cX6_pushSign 4 = .ok (.bipush 96, 2) := by decide +kernel
theorem dX6_pushSign_6 : decode cX6_pushSign 6 = .ok (.if_icmp .lt 5, 3) := by decide +kernel
theorem dX6_pushSign_9 : decode cX6_pushSign 9 = .ok (.iconst 0, 1) := by decide +kernel
theorem dX6_pushSign_10 : decode cX6_pushSign 10 = .ok (.ireturn, 1) := by decide +kernel
theorem dX6_pushSign_11 : decode cX6_pushSign 11 = .ok (.aload_n 0, 1) := by decide +kernel
theorem dX6_pushSign_12 : decode cX6_pushSign 12 = .ok (.getfield 16, 3) := by decide +kernel
theorem dX6_pushSign_15 : decode cX6_pushSign 15 = .ok (.aload_n 0, 1) := by decide +kernel
theorem dX6_pushSign_16 : decode cX6_pushSign 16 = .ok (.getfield 26, 3) := by decide +kernel
theorem dX6_pushSign_19 : decode cX6_pushSign 19 = .ok (.iload_n 1, 1) := by decide +kernel
theorem dX6_pushSign_20 : decode cX6_pushSign 20 = .ok (.iastore, 1) := by decide +kernel
theorem dX6_pushSign_21 : decode cX6_pushSign 21 = .ok (.aload_n 0, 1) := by decide +kernel
theorem dX6_pushSign_22 : decode cX6_pushSign 22 = .ok (.dup, 1) := by decide +kernel
theorem dX6_pushSign_23 : decode cX6_pushSign 23 = .ok (.getfield 26, 3) := by decide +kernel
theorem dX6_pushSign_26 : decode cX6_pushSign 26 = .ok (.iconst 1, 1) := by decide +kernel
theorem dX6_pushSign_27 : decode cX6_pushSign 27 = .ok (.iadd, 1) := by decide +kernel
theorem dX6_pushSign_28 : decode cX6_pushSign 28 = .ok (.putfield 26, 3) := by decide +kernel
theorem dX6_pushSign_31 : decode cX6_pushSign 31 = .ok (.iconst 1, 1) := by decide +kernel
theorem dX6_pushSign_32 : decode cX6_pushSign 32 = .ok (.ireturn, 1) := by decide +kernel
theorem dX6_emit_0 : decode cX6_emit 0 = .ok (.aload_n 0, 1) := by decide +kernel
theorem dX6_emit_1 : decode cX6_emit 1 = .ok (.getfield 23, 3) := by decide +kernel
theorem dX6_emit_4 : decode cX6_emit 4 = .ok (.bipush 96, 2) := by decide +kernel
theorem dX6_emit_6 : decode cX6_emit 6 = .ok (.if_icmp .ge 23, 3) := by decide +kernel
theorem dX6_emit_9 : decode cX6_emit 9 = .ok (.aload_n 0, 1) := by decide +kernel
theorem dX6_emit_10 : decode cX6_emit 10 = .ok (.getfield 13, 3) := by decide +kernel
theorem dX6_emit_13 : decode cX6_emit 13 = .ok (.aload_n 0, 1) := by decide +kernel
theorem dX6_emit_14 : decode cX6_emit 14 = .ok (.getfield 23, 3) := by decide +kernel
theorem dX6_emit_17 : decode cX6_emit 17 = .ok (.iload_n 1, 1) := by decide +kernel
theorem dX6_emit_18 : decode cX6_emit 18 = .ok (.iastore, 1) := by decide +kernel
theorem dX6_emit_19 : decode cX6_emit 19 = .ok (.aload_n 0, 1) := by decide +kernel
theorem dX6_emit_20 : decode cX6_emit 20 = .ok (.dup, 1) := by decide +kernel
theorem dX6_emit_21 : decode cX6_emit 21 = .ok (.getfield 23, 3) := by decide +kernel
theorem dX6_emit_24 : decode cX6_emit 24 = .ok (.iconst 1, 1) := by decide +kernel
theorem dX6_emit_25 : decode cX6_emit 25 = .ok (.iadd, 1) := by decide +kernel
theorem dX6_emit_26 : decode cX6_emit 26 = .ok (.putfield 23, 3) := by decide +kernel
theorem dX6_emit_29 : decode cX6_emit 29 = .ok (.return_, 1) := by decide +kernel
theorem dX6_rankOf_0 : decode cX6_rankOf 0 = .ok (.iload_n 0, 1) := by decide +kernel
theorem dX6_rankOf_1 : decode cX6_rankOf 1 = .ok (.lookupswitch 93 #[(38, 85), (42, 91), (43, 89), (45, 89), (47, 91), (60, 87), (61, 87), (62, 87), (124, 83)], 83) := by decide +kernel
theorem dX6_rankOf_84 : decode cX6_rankOf 84 = .ok (.iconst 1, 1) := by decide +kernel
theorem dX6_rankOf_85 : decode cX6_rankOf 85 = .ok (.ireturn, 1) := by decide +kernel
theorem dX6_rankOf_86 : decode cX6_rankOf 86 = .ok (.iconst 2, 1) := by decide +kernel
theorem dX6_rankOf_87 : decode cX6_rankOf 87 = .ok (.ireturn, 1) := by decide +kernel
theorem dX6_rankOf_88 : decode cX6_rankOf 88 = .ok (.iconst 3, 1) := by decide +kernel
theorem dX6_rankOf_89 : decode cX6_rankOf 89 = .ok (.ireturn, 1) := by decide +kernel
theorem dX6_rankOf_90 : decode cX6_rankOf 90 = .ok (.iconst 4, 1) := by decide +kernel
theorem dX6_rankOf_91 : decode cX6_rankOf 91 = .ok (.ireturn, 1) := by decide +kernel
theorem dX6_rankOf_92 : decode cX6_rankOf 92 = .ok (.iconst 5, 1) := by decide +kernel
theorem dX6_rankOf_93 : decode cX6_rankOf 93 = .ok (.ireturn, 1) := by decide +kernel
theorem dX6_rankOf_94 : decode cX6_rankOf 94 = .ok (.iconst 0, 1) := by decide +kernel
theorem dX6_rankOf_95 : decode cX6_rankOf 95 = .ok (.ireturn, 1) := by decide +kernel
theorem dX7_init_0 : decode cX7_init 0 = .ok (.aload_n 0, 1) := by decide +kernel
theorem dX7_init_1 : decode cX7_init 1 = .ok (.invokespecial 1, 3) := by decide +kernel
theorem dX7_init_4 : decode cX7_init 4 = .ok (.aload_n 0, 1) := by decide +kernel
theorem dX7_init_5 : decode cX7_init 5 = .ok (.iload_n 1, 1) := by decide +kernel
theorem dX7_init_6 : decode cX7_init 6 = .ok (.putfield 7, 3) := by decide +kernel
theorem dX7_init_9 : decode cX7_init 9 = .ok (.aload_n 0, 1) := by decide +kernel
theorem dX7_init_10 : decode cX7_init 10 = .ok (.iload_n 2, 1) := by decide +kernel
theorem dX7_init_11 : decode cX7_init 11 = .ok (.putfield 13, 3) := by decide +kernel
theorem dX7_init_14 : decode cX7_init 14 = .ok (.aload_n 0, 1) := by decide +kernel
theorem dX7_init_15 : decode cX7_init 15 = .ok (.iload_n 3, 1) := by decide +kernel
theorem dX7_init_16 : decode cX7_init 16 = .ok (.putfield 16, 3) := by decide +kernel
theorem dX7_init_19 : decode cX7_init 19 = .ok (.aload_n 0, 1) := by decide +kernel
theorem dX7_init_20 : decode cX7_init 20 = .ok (.aload 4, 2) := by decide +kernel
theorem dX7_init_22 : decode cX7_init 22 = .ok (.putfield 19, 3) := by decide +kernel
theorem dX7_init_25 : decode cX7_init 25 = .ok (.return_, 1) := by decide +kernel
theorem dX7_valueFor_0 : decode cX7_valueFor 0 = .ok (.iconst 0, 1) := by decide +kernel
theorem dX7_valueFor_1 : decode cX7_valueFor 1 = .ok (.istore 5, 2) := by decide +kernel
theorem dX7_valueFor_3 : decode cX7_valueFor 3 = .ok (.iconst 0, 1) := by decide +kernel
theorem dX7_valueFor_4 : decode cX7_valueFor 4 = .ok (.istore 6, 2) := by decide +kernel
theorem dX7_valueFor_6 : decode cX7_valueFor 6 = .ok (.iload 6, 2) := by decide +kernel
theorem dX7_valueFor_8 : decode cX7_valueFor 8 = .ok (.aload_n 0, 1) := by decide +kernel
theorem dX7_valueFor_9 : decode cX7_valueFor 9 = .ok (.getfield 19, 3) := by decide +kernel
theorem dX7_valueFor_12 : decode cX7_valueFor 12 = .ok (.arraylength, 1) := by decide +kernel
theorem dX7_valueFor_13 : decode cX7_valueFor 13 = .ok (.if_icmp .ge 160, 3) := by decide +kernel
theorem dX7_valueFor_16 : decode cX7_valueFor 16 = .ok (.iload 5, 2) := by decide +kernel
theorem dX7_valueFor_18 : decode cX7_valueFor 18 = .ok (.aload 4, 2) := by decide +kernel
theorem dX7_valueFor_20 : decode cX7_valueFor 20 = .ok (.arraylength, 1) := by decide +kernel
theorem dX7_valueFor_21 : decode cX7_valueFor 21 = .ok (.if_icmp .ge 152, 3) := by decide +kernel
theorem dX7_valueFor_24 : decode cX7_valueFor 24 = .ok (.aload_n 0, 1) := by decide +kernel
theorem dX7_valueFor_25 : decode cX7_valueFor 25 = .ok (.getfield 19, 3) := by decide +kernel
theorem dX7_valueFor_28 : decode cX7_valueFor 28 = .ok (.iload 6, 2) := by decide +kernel
theorem dX7_valueFor_30 : decode cX7_valueFor 30 = .ok (.iaload, 1) := by decide +kernel
theorem dX7_valueFor_31 : decode cX7_valueFor 31 = .ok (.istore 7, 2) := by decide +kernel
theorem dX7_valueFor_33 : decode cX7_valueFor 33 = .ok (.iload 7, 2) := by decide +kernel
theorem dX7_valueFor_35 : decode cX7_valueFor 35 = .ok (.sipush 10000, 3) := by decide +kernel
theorem dX7_valueFor_38 : decode cX7_valueFor 38 = .ok (.if_icmp .lt 39, 3) := by decide +kernel
theorem dX7_valueFor_41 : decode cX7_valueFor 41 = .ok (.aload 4, 2) := by decide +kernel
theorem dX7_valueFor_43 : decode cX7_valueFor 43 = .ok (.iload 5, 2) := by decide +kernel
theorem dX7_valueFor_45 : decode cX7_valueFor 45 = .ok (.iload 7, 2) := by decide +kernel
theorem dX7_valueFor_47 : decode cX7_valueFor 47 = .ok (.sipush 10000, 3) := by decide +kernel
theorem dX7_valueFor_50 : decode cX7_valueFor 50 = .ok (.if_icmp .ne 7, 3) := by decide +kernel
theorem dX7_valueFor_53 : decode cX7_valueFor 53 = .ok (.iload_n 1, 1) := by decide +kernel
theorem dX7_valueFor_54 : decode cX7_valueFor 54 = .ok (.goto 16, 3) := by decide +kernel
theorem dX7_valueFor_57 : decode cX7_valueFor 57 = .ok (.iload 7, 2) := by decide +kernel
theorem dX7_valueFor_59 : decode cX7_valueFor 59 = .ok (.sipush 10001, 3) := by decide +kernel
theorem dX7_valueFor_62 : decode cX7_valueFor 62 = .ok (.if_icmp .ne 7, 3) := by decide +kernel
theorem dX7_valueFor_65 : decode cX7_valueFor 65 = .ok (.iload_n 2, 1) := by decide +kernel
theorem dX7_valueFor_66 : decode cX7_valueFor 66 = .ok (.goto 4, 3) := by decide +kernel
theorem dX7_valueFor_69 : decode cX7_valueFor 69 = .ok (.iload_n 3, 1) := by decide +kernel
theorem dX7_valueFor_70 : decode cX7_valueFor 70 = .ok (.iastore, 1) := by decide +kernel
theorem dX7_valueFor_71 : decode cX7_valueFor 71 = .ok (.iinc 5 1, 3) := by decide +kernel
theorem dX7_valueFor_74 : decode cX7_valueFor 74 = .ok (.goto 93, 3) := by decide +kernel
theorem dX7_valueFor_77 : decode cX7_valueFor 77 = .ok (.iload 7, 2) := by decide +kernel
theorem dX7_valueFor_79 : decode cX7_valueFor 79 = .ok (.ifCond .lt 16, 3) := by decide +kernel
theorem dX7_valueFor_82 : decode cX7_valueFor 82 = .ok (.aload 4, 2) := by decide +kernel
theorem dX7_valueFor_84 : decode cX7_valueFor 84 = .ok (.iload 5, 2) := by decide +kernel
theorem dX7_valueFor_86 : decode cX7_valueFor 86 = .ok (.iload 7, 2) := by decide +kernel
theorem dX7_valueFor_88 : decode cX7_valueFor 88 = .ok (.iastore, 1) := by decide +kernel
theorem dX7_valueFor_89 : decode cX7_valueFor 89 = .ok (.iinc 5 1, 3) := by decide +kernel
theorem dX7_valueFor_92 : decode cX7_valueFor 92 = .ok (.goto 75, 3) := by decide +kernel
theorem dX7_valueFor_95 : decode cX7_valueFor 95 = .ok (.iload 7, 2) := by decide +kernel
theorem dX7_valueFor_97 : decode cX7_valueFor 97 = .ok (.bipush (-33), 2) := by decide +kernel
theorem dX7_valueFor_99 : decode cX7_valueFor 99 = .ok (.if_icmp .ne 34, 3) := by decide +kernel
theorem dX7_valueFor_102 : decode cX7_valueFor 102 = .ok (.iload 5, 2) := by decide +kernel
theorem dX7_valueFor_104 : decode cX7_valueFor 104 = .ok (.iconst 1, 1) := by decide +kernel
theorem dX7_valueFor_105 : decode cX7_valueFor 105 = .ok (.if_icmp .lt 28, 3) := by decide +kernel
theorem dX7_valueFor_108 : decode cX7_valueFor 108 = .ok (.aload 4, 2) := by decide +kernel
theorem dX7_valueFor_110 : decode cX7_valueFor 110 = .ok (.iload 5, 2) := by decide +kernel
theorem dX7_valueFor_112 : decode cX7_valueFor 112 = .ok (.iconst 1, 1) := by decide +kernel
theorem dX7_valueFor_113 : decode cX7_valueFor 113 = .ok (.isub, 1) := by decide +kernel
theorem dX7_valueFor_114 : decode cX7_valueFor 114 = .ok (.aload 4, 2) := by decide +kernel
theorem dX7_valueFor_116 : decode cX7_valueFor 116 = .ok (.iload 5, 2) := by decide +kernel
theorem dX7_valueFor_118 : decode cX7_valueFor 118 = .ok (.iconst 1, 1) := by decide +kernel
theorem dX7_valueFor_119 : decode cX7_valueFor 119 = .ok (.isub, 1) := by decide +kernel
theorem dX7_valueFor_120 : decode cX7_valueFor 120 = .ok (.iaload, 1) := by decide +kernel
theorem dX7_valueFor_121 : decode cX7_valueFor 121 = .ok (.ifCond .ne 7, 3) := by decide +kernel
theorem dX7_valueFor_124 : decode cX7_valueFor 124 = .ok (.iconst 1, 1) := by decide +kernel
theorem dX7_valueFor_125 : decode cX7_valueFor 125 = .ok (.goto 4, 3) := by decide +kernel
theorem dX7_valueFor_128 : decode cX7_valueFor 128 = .ok (.iconst 0, 1) := by decide +kernel
theorem dX7_valueFor_129 : decode cX7_valueFor 129 = .ok (.iastore, 1) := by decide +kernel
theorem dX7_valueFor_130 : decode cX7_valueFor 130 = .ok (.goto 37, 3) := by decide +kernel
theorem dX7_valueFor_133 : decode cX7_valueFor 133 = .ok (.iload 5, 2) := by decide +kernel
theorem dX7_valueFor_135 : decode cX7_valueFor 135 = .ok (.iconst 2, 1) := by decide +kernel
theorem dX7_valueFor_136 : decode cX7_valueFor 136 = .ok (.if_icmp .lt 31, 3) := by decide +kernel
theorem dX7_valueFor_139 : decode cX7_valueFor 139 = .ok (.iinc 5 (-1), 3) := by decide +kernel
theorem dX7_valueFor_142 : decode cX7_valueFor 142 = .ok (.aload 4, 2) := by decide +kernel
theorem dX7_valueFor_144 : decode cX7_valueFor 144 = .ok (.iload 5, 2) := by decide +kernel
theorem dX7_valueFor_146 : decode cX7_valueFor 146 = .ok (.iconst 1, 1) := by decide +kernel
theorem dX7_valueFor_147 : decode cX7_valueFor 147 = .ok (.isub, 1) := by decide +kernel
theorem dX7_valueFor_148 : decode cX7_valueFor 148 = .ok (.iload 7, 2) := by decide +kernel
theorem dX7_valueFor_150 : decode cX7_valueFor 150 = .ok (.ineg, 1) := by decide +kernel
theorem dX7_valueFor_151 : decode cX7_valueFor 151 = .ok (.aload 4, 2) := by decide +kernel
theorem dX7_valueFor_153 : decode cX7_valueFor 153 = .ok (.iload 5, 2) := by decide +kernel
theorem dX7_valueFor_155 : decode cX7_valueFor 155 = .ok (.iconst 1, 1) := by decide +kernel
theorem dX7_valueFor_156 : decode cX7_valueFor 156 = .ok (.isub, 1) := by decide +kernel
theorem dX7_valueFor_157 : decode cX7_valueFor 157 = .ok (.iaload, 1) := by decide +kernel
theorem dX7_valueFor_158 : decode cX7_valueFor 158 = .ok (.aload 4, 2) := by decide +kernel
theorem dX7_valueFor_160 : decode cX7_valueFor 160 = .ok (.iload 5, 2) := by decide +kernel
theorem dX7_valueFor_162 : decode cX7_valueFor 162 = .ok (.iaload, 1) := by decide +kernel
theorem dX7_valueFor_163 : decode cX7_valueFor 163 = .ok (.invokestatic 23, 3) := by decide +kernel
theorem dX7_valueFor_166 : decode cX7_valueFor 166 = .ok (.iastore, 1) := by decide +kernel
theorem dX7_valueFor_167 : decode cX7_valueFor 167 = .ok (.iinc 6 1, 3) := by decide +kernel
theorem dX7_valueFor_170 : decode cX7_valueFor 170 = .ok (.goto (-164), 3) := by decide +kernel
theorem dX7_valueFor_173 : decode cX7_valueFor 173 = .ok (.iload 5, 2) := by decide +kernel
theorem dX7_valueFor_175 : decode cX7_valueFor 175 = .ok (.iconst 1, 1) := by decide +kernel
theorem dX7_valueFor_176 : decode cX7_valueFor 176 = .ok (.if_icmp .lt 10, 3) := by decide +kernel
theorem dX7_valueFor_179 : decode cX7_valueFor 179 = .ok (.aload 4, 2) := by decide +kernel
theorem dX7_valueFor_181 : decode cX7_valueFor 181 = .ok (.iconst 0, 1) := by decide +kernel
theorem dX7_valueFor_182 : decode cX7_valueFor 182 = .ok (.iaload, 1) := by decide +kernel
theorem dX7_valueFor_183 : decode cX7_valueFor 183 = .ok (.goto 4, 3) := by decide +kernel
theorem dX7_valueFor_186 : decode cX7_valueFor 186 = .ok (.iconst 0, 1) := by decide +kernel
theorem dX7_valueFor_187 : decode cX7_valueFor 187 = .ok (.ireturn, 1) := by decide +kernel
theorem dX7_joinBy_0 : decode cX7_joinBy 0 = .ok (.iload_n 0, 1) := by decide +kernel
theorem dX7_joinBy_1 : decode cX7_joinBy 1 = .ok (.tableswitch 186 38 62 #[172, 186, 186, 186, 115, 131, 186, 135, 186, 119, 186, 186, 186, 186, 186, 186, 186, 186, 186, 186, 186, 186, 139, 150, 161], 115) := by decide +kernel
theorem dX7_joinBy_116 : decode cX7_joinBy 116 = .ok (.iload_n 1, 1) := by decide +kernel
theorem dX7_joinBy_117 : decode cX7_joinBy 117 = .ok (.iload_n 2, 1) := by decide +kernel
theorem dX7_joinBy_118 : decode cX7_joinBy 118 = .ok (.imul, 1) := by decide +kernel
theorem dX7_joinBy_119 : decode cX7_joinBy 119 = .ok (.ireturn, 1) := by decide +kernel
theorem dX7_joinBy_120 : decode cX7_joinBy 120 = .ok (.iload_n 2, 1) := by decide +kernel
theorem dX7_joinBy_121 : decode cX7_joinBy 121 = .ok (.ifCond .ne 7, 3) := by decide +kernel
theorem dX7_joinBy_124 : decode cX7_joinBy 124 = .ok (.iconst 0, 1) := by decide +kernel
theorem dX7_joinBy_125 : decode cX7_joinBy 125 = .ok (.goto 6, 3) := by decide +kernel
theorem dX7_joinBy_128 : decode cX7_joinBy 128 = .ok (.iload_n 1, 1) := by decide +kernel
theorem dX7_joinBy_129 : decode cX7_joinBy 129 = .ok (.iload_n 2, 1) := by decide +kernel
theorem dX7_joinBy_130 : decode cX7_joinBy 130 = .ok (.idiv, 1) := by decide +kernel
theorem dX7_joinBy_131 : decode cX7_joinBy 131 = .ok (.ireturn, 1) := by decide +kernel
theorem dX7_joinBy_132 : decode cX7_joinBy 132 = .ok (.iload_n 1, 1) := by decide +kernel
theorem dX7_joinBy_133 : decode cX7_joinBy 133 = .ok (.iload_n 2, 1) := by decide +kernel
theorem dX7_joinBy_134 : decode cX7_joinBy 134 = .ok (.iadd, 1) := by decide +kernel
theorem dX7_joinBy_135 : decode cX7_joinBy 135 = .ok (.ireturn, 1) := by decide +kernel
theorem dX7_joinBy_136 : decode cX7_joinBy 136 = .ok (.iload_n 1, 1) := by decide +kernel
theorem dX7_joinBy_137 : decode cX7_joinBy 137 = .ok (.iload_n 2, 1) := by decide +kernel
theorem dX7_joinBy_138 : decode cX7_joinBy 138 = .ok (.isub, 1) := by decide +kernel
theorem dX7_joinBy_139 : decode cX7_joinBy 139 = .ok (.ireturn, 1) := by decide +kernel
theorem dX7_joinBy_140 : decode cX7_joinBy 140 = .ok (.iload_n 1, 1) := by decide +kernel
theorem dX7_joinBy_141 : decode cX7_joinBy 141 = .ok (.iload_n 2, 1) := by decide +kernel
theorem dX7_joinBy_142 : decode cX7_joinBy 142 = .ok (.if_icmp .ge 7, 3) := by decide +kernel
theorem dX7_joinBy_145 : decode cX7_joinBy 145 = .ok (.iconst 1, 1) := by decide +kernel
theorem dX7_joinBy_146 : decode cX7_joinBy 146 = .ok (.goto 4, 3) := by decide +kernel
theorem dX7_joinBy_149 : decode cX7_joinBy 149 = .ok (.iconst 0, 1) := by decide +kernel
theorem dX7_joinBy_150 : decode cX7_joinBy 150 = .ok (.ireturn, 1) := by decide +kernel
theorem dX7_joinBy_151 : decode cX7_joinBy 151 = .ok (.iload_n 1, 1) := by decide +kernel
theorem dX7_joinBy_152 : decode cX7_joinBy 152 = .ok (.iload_n 2, 1) := by decide +kernel
theorem dX7_joinBy_153 : decode cX7_joinBy 153 = .ok (.if_icmp .ne 7, 3) := by decide +kernel
theorem dX7_joinBy_156 : decode cX7_joinBy 156 = .ok (.iconst 1, 1) := by decide +kernel
theorem dX7_joinBy_157 : decode cX7_joinBy 157 = .ok (.goto 4, 3) := by decide +kernel
theorem dX7_joinBy_160 : decode cX7_joinBy 160 = .ok (.iconst 0, 1) := by decide +kernel
theorem dX7_joinBy_161 : decode cX7_joinBy 161 = .ok (.ireturn, 1) := by decide +kernel
theorem dX7_joinBy_162 : decode cX7_joinBy 162 = .ok (.iload_n 1, 1) := by decide +kernel
theorem dX7_joinBy_163 : decode cX7_joinBy 163 = .ok (.iload_n 2, 1) := by decide +kernel
theorem dX7_joinBy_164 : decode cX7_joinBy 164 = .ok (.if_icmp .le 7, 3) := by decide +kernel
theorem dX7_joinBy_167 : decode cX7_joinBy 167 = .ok (.iconst 1, 1) := by decide +kernel
theorem dX7_joinBy_168 : decode cX7_joinBy 168 = .ok (.goto 4, 3) := by decide +kernel
theorem dX7_joinBy_171 : decode cX7_joinBy 171 = .ok (.iconst 0, 1) := by decide +kernel
theorem dX7_joinBy_172 : decode cX7_joinBy 172 = .ok (.ireturn, 1) := by decide +kernel
theorem dX7_joinBy_173 : decode cX7_joinBy 173 = .ok (.iload_n 1, 1) := by decide +kernel
theorem dX7_joinBy_174 : decode cX7_joinBy 174 = .ok (.ifCond .eq 11, 3) := by decide +kernel
theorem dX7_joinBy_177 : decode cX7_joinBy 177 = .ok (.iload_n 2, 1) := by decide +kernel
theorem dX7_joinBy_178 : decode cX7_joinBy 178 = .ok (.ifCond .eq 7, 3) := by decide +kernel
theorem dX7_joinBy_181 : decode cX7_joinBy 181 = .ok (.iconst 1, 1) := by decide +kernel
theorem dX7_joinBy_182 : decode cX7_joinBy 182 = .ok (.goto 4, 3) := by decide +kernel
theorem dX7_joinBy_185 : decode cX7_joinBy 185 = .ok (.iconst 0, 1) := by decide +kernel
theorem dX7_joinBy_186 : decode cX7_joinBy 186 = .ok (.ireturn, 1) := by decide +kernel
theorem dX7_joinBy_187 : decode cX7_joinBy 187 = .ok (.iload_n 1, 1) := by decide +kernel
theorem dX7_joinBy_188 : decode cX7_joinBy 188 = .ok (.ifCond .ne 7, 3) := by decide +kernel
theorem dX7_joinBy_191 : decode cX7_joinBy 191 = .ok (.iload_n 2, 1) := by decide +kernel
theorem dX7_joinBy_192 : decode cX7_joinBy 192 = .ok (.ifCond .eq 7, 3) := by decide +kernel
theorem dX7_joinBy_195 : decode cX7_joinBy 195 = .ok (.iconst 1, 1) := by decide +kernel
theorem dX7_joinBy_196 : decode cX7_joinBy 196 = .ok (.goto 4, 3) := by decide +kernel
theorem dX7_joinBy_199 : decode cX7_joinBy 199 = .ok (.iconst 0, 1) := by decide +kernel
theorem dX7_joinBy_200 : decode cX7_joinBy 200 = .ok (.ireturn, 1) := by decide +kernel
theorem dX8_init_0 : decode cX8_init 0 = .ok (.aload_n 0, 1) := by decide +kernel
theorem dX8_init_1 : decode cX8_init 1 = .ok (.invokespecial 3, 3) := by decide +kernel
theorem dX8_init_4 : decode cX8_init 4 = .ok (.aload_n 0, 1) := by decide +kernel
theorem dX8_init_5 : decode cX8_init 5 = .ok (.bipush 14, 2) := by decide +kernel
theorem dX8_init_7 : decode cX8_init 7 = .ok (.anewarray 11, 3) := by decide +kernel
theorem dX8_init_10 : decode cX8_init 10 = .ok (.putfield 13, 3) := by decide +kernel
theorem dX8_init_13 : decode cX8_init 13 = .ok (.aload_n 0, 1) := by decide +kernel
theorem dX8_init_14 : decode cX8_init 14 = .ok (.bipush 96, 2) := by decide +kernel
theorem dX8_init_16 : decode cX8_init 16 = .ok (.newarray .int, 2) := by decide +kernel
theorem dX8_init_18 : decode cX8_init 18 = .ok (.putfield 19, 3) := by decide +kernel
theorem dX8_init_21 : decode cX8_init 21 = .ok (.return_, 1) := by decide +kernel
theorem dX8_takeFrom_0 : decode cX8_takeFrom 0 = .ok (.aload_n 0, 1) := by decide +kernel
theorem dX8_takeFrom_1 : decode cX8_takeFrom 1 = .ok (.aload_n 1, 1) := by decide +kernel
theorem dX8_takeFrom_2 : decode cX8_takeFrom 2 = .ok (.getfield 23, 3) := by decide +kernel
theorem dX8_takeFrom_5 : decode cX8_takeFrom 5 = .ok (.putfield 23, 3) := by decide +kernel
theorem dX8_takeFrom_8 : decode cX8_takeFrom 8 = .ok (.iconst 0, 1) := by decide +kernel
theorem dX8_takeFrom_9 : decode cX8_takeFrom 9 = .ok (.istore_n 2, 1) := by decide +kernel
theorem dX8_takeFrom_10 : decode cX8_takeFrom 10 = .ok (.iload_n 2, 1) := by decide +kernel
theorem dX8_takeFrom_11 : decode cX8_takeFrom 11 = .ok (.aload_n 0, 1) := by decide +kernel
theorem dX8_takeFrom_12 : decode cX8_takeFrom 12 = .ok (.getfield 23, 3) := by decide +kernel
theorem dX8_takeFrom_15 : decode cX8_takeFrom 15 = .ok (.if_icmp .ge 21, 3) := by decide +kernel
theorem dX8_takeFrom_18 : decode cX8_takeFrom 18 = .ok (.aload_n 0, 1) := by decide +kernel
theorem dX8_takeFrom_19 : decode cX8_takeFrom 19 = .ok (.getfield 13, 3) := by decide +kernel
theorem dX8_takeFrom_22 : decode cX8_takeFrom 22 = .ok (.iload_n 2, 1) := by decide +kernel
theorem dX8_takeFrom_23 : decode cX8_takeFrom 23 = .ok (.aload_n 1, 1) := by decide +kernel
theorem dX8_takeFrom_24 : decode cX8_takeFrom 24 = .ok (.getfield 13, 3) := by decide +kernel
theorem dX8_takeFrom_27 : decode cX8_takeFrom 27 = .ok (.iload_n 2, 1) := by decide +kernel
theorem dX8_takeFrom_28 : decode cX8_takeFrom 28 = .ok (.aaload, 1) := by decide +kernel
theorem dX8_takeFrom_29 : decode cX8_takeFrom 29 = .ok (.aastore, 1) := by decide +kernel
theorem dX8_takeFrom_30 : decode cX8_takeFrom 30 = .ok (.iinc 2 1, 3) := by decide +kernel
theorem dX8_takeFrom_33 : decode cX8_takeFrom 33 = .ok (.goto (-23), 3) := by decide +kernel
theorem dX8_takeFrom_36 : decode cX8_takeFrom 36 = .ok (.return_, 1) := by decide +kernel
theorem dX8_numbered_0 : decode cX8_numbered 0 = .ok (.iload_n 1, 1) := by decide +kernel
theorem dX8_numbered_1 : decode cX8_numbered 1 = .ok (.iconst 0, 1) := by decide +kernel
theorem dX8_numbered_2 : decode cX8_numbered 2 = .ok (.aload_n 0, 1) := by decide +kernel
theorem dX8_numbered_3 : decode cX8_numbered 3 = .ok (.getfield 23, 3) := by decide +kernel
theorem dX8_numbered_6 : decode cX8_numbered 6 = .ok (.iconst 1, 1) := by decide +kernel
theorem dX8_numbered_7 : decode cX8_numbered 7 = .ok (.isub, 1) := by decide +kernel
theorem dX8_numbered_8 : decode cX8_numbered 8 = .ok (.invokestatic 27, 3) := by decide +kernel
theorem dX8_numbered_11 : decode cX8_numbered 11 = .ok (.ifCond .eq 12, 3) := by decide +kernel
theorem dX8_numbered_14 : decode cX8_numbered 14 = .ok (.aload_n 0, 1) := by decide +kernel
theorem dX8_numbered_15 : decode cX8_numbered 15 = .ok (.getfield 13, 3) := by decide +kernel
theorem dX8_numbered_18 : decode cX8_numbered 18 = .ok (.iload_n 1, 1) := by decide +kernel
theorem dX8_numbered_19 : decode cX8_numbered 19 = .ok (.aaload, 1) := by decide +kernel
theorem dX8_numbered_20 : decode cX8_numbered 20 = .ok (.goto 4, 3) := by decide +kernel
theorem dX8_numbered_23 : decode cX8_numbered 23 = .ok (.aconst_null, 1) := by decide +kernel
theorem dX8_numbered_24 : decode cX8_numbered 24 = .ok (.areturn, 1) := by decide +kernel
theorem dX8_addText_0 : decode cX8_addText 0 = .ok (.aload_n 0, 1) := by decide +kernel
theorem dX8_addText_1 : decode cX8_addText 1 = .ok (.getfield 23, 3) := by decide +kernel
theorem dX8_addText_4 : decode cX8_addText 4 = .ok (.bipush 14, 2) := by decide +kernel
theorem dX8_addText_6 : decode cX8_addText 6 = .ok (.if_icmp .lt 6, 3) := by decide +kernel
theorem dX8_addText_9 : decode cX8_addText 9 = .ok (.ldc 31, 2) := by decide +kernel
theorem dX8_addText_11 : decode cX8_addText 11 = .ok (.ireturn, 1) := by decide +kernel
theorem dX8_addText_12 : decode cX8_addText 12 = .ok (.aload_n 0, 1) := by decide +kernel
theorem dX8_addText_13 : decode cX8_addText 13 = .ok (.getfield 13, 3) := by decide +kernel
theorem dX8_addText_16 : decode cX8_addText 16 = .ok (.aload_n 0, 1) := by decide +kernel
theorem dX8_addText_17 : decode cX8_addText 17 = .ok (.getfield 23, 3) := by decide +kernel
theorem dX8_addText_20 : decode cX8_addText 20 = .ok (.aload_n 1, 1) := by decide +kernel
theorem dX8_addText_21 : decode cX8_addText 21 = .ok (.aastore, 1) := by decide +kernel
theorem dX8_addText_22 : decode cX8_addText 22 = .ok (.aload_n 0, 1) := by decide +kernel
theorem dX8_addText_23 : decode cX8_addText 23 = .ok (.dup, 1) := by decide +kernel
theorem dX8_addText_24 : decode cX8_addText 24 = .ok (.getfield 23, 3) := by decide +kernel
theorem dX8_addText_27 : decode cX8_addText 27 = .ok (.iconst 1, 1) := by decide +kernel
theorem dX8_addText_28 : decode cX8_addText 28 = .ok (.iadd, 1) := by decide +kernel
theorem dX8_addText_29 : decode cX8_addText 29 = .ok (.putfield 23, 3) := by decide +kernel
theorem dX8_addText_32 : decode cX8_addText 32 = .ok (.aload_n 0, 1) := by decide +kernel
theorem dX8_addText_33 : decode cX8_addText 33 = .ok (.getfield 23, 3) := by decide +kernel
theorem dX8_addText_36 : decode cX8_addText 36 = .ok (.iconst 1, 1) := by decide +kernel
theorem dX8_addText_37 : decode cX8_addText 37 = .ok (.isub, 1) := by decide +kernel
theorem dX8_addText_38 : decode cX8_addText 38 = .ok (.ireturn, 1) := by decide +kernel
theorem dX8_counting_0 : decode cX8_counting 0 = .ok (.ldc 32, 2) := by decide +kernel
theorem dX8_counting_2 : decode cX8_counting 2 = .ok (.istore_n 3, 1) := by decide +kernel
theorem dX8_counting_3 : decode cX8_counting 3 = .ok (.iconst (-1), 1) := by decide +kernel
theorem dX8_counting_4 : decode cX8_counting 4 = .ok (.istore 4, 2) := by decide +kernel
theorem dX8_counting_6 : decode cX8_counting 6 = .ok (.iconst 0, 1) := by decide +kernel
theorem dX8_counting_7 : decode cX8_counting 7 = .ok (.istore 5, 2) := by decide +kernel
theorem dX8_counting_9 : decode cX8_counting 9 = .ok (.iload 5, 2) := by decide +kernel
theorem dX8_counting_11 : decode cX8_counting 11 = .ok (.aload_n 0, 1) := by decide +kernel
theorem dX8_counting_12 : decode cX8_counting 12 = .ok (.getfield 23, 3) := by decide +kernel
theorem dX8_counting_15 : decode cX8_counting 15 = .ok (.if_icmp .ge 56, 3) := by decide +kernel
theorem dX8_counting_18 : decode cX8_counting 18 = .ok (.aload_n 0, 1) := by decide +kernel
theorem dX8_counting_19 : decode cX8_counting 19 = .ok (.getfield 13, 3) := by decide +kernel
theorem dX8_counting_22 : decode cX8_counting 22 = .ok (.iload 5, 2) := by decide +kernel
theorem dX8_counting_24 : decode cX8_counting 24 = .ok (.aaload, 1) := by decide +kernel
theorem dX8_counting_25 : decode cX8_counting 25 = .ok (.astore 6, 2) := by decide +kernel
theorem dX8_counting_27 : decode cX8_counting 27 = .ok (.aload 6, 2) := by decide +kernel
theorem dX8_counting_29 : decode cX8_counting 29 = .ok (.ifnull 36, 3) := by decide +kernel
theorem dX8_counting_32 : decode cX8_counting 32 = .ok (.aload 6, 2) := by decide +kernel
theorem dX8_counting_34 : decode cX8_counting 34 = .ok (.getfield 33, 3) := by decide +kernel
theorem dX8_counting_37 : decode cX8_counting 37 = .ok (.iload_n 1, 1) := by decide +kernel
theorem dX8_counting_38 : decode cX8_counting 38 = .ok (.if_icmp .ne 27, 3) := by decide +kernel
theorem dX8_counting_41 : decode cX8_counting 41 = .ok (.aload 6, 2) := by decide +kernel
theorem dX8_counting_43 : decode cX8_counting 43 = .ok (.getfield 36, 3) := by decide +kernel
theorem dX8_counting_46 : decode cX8_counting 46 = .ok (.iload 4, 2) := by decide +kernel
theorem dX8_counting_48 : decode cX8_counting 48 = .ok (.iload_n 2, 1) := by decide +kernel
theorem dX8_counting_49 : decode cX8_counting 49 = .ok (.invokestatic 27, 3) := by decide +kernel
theorem dX8_counting_52 : decode cX8_counting 52 = .ok (.ifCond .eq 13, 3) := by decide +kernel
theorem dX8_counting_55 : decode cX8_counting 55 = .ok (.iload 5, 2) := by decide +kernel
theorem dX8_counting_57 : decode cX8_counting 57 = .ok (.istore_n 3, 1) := by decide +kernel
theorem dX8_counting_58 : decode cX8_counting 58 = .ok (.aload 6, 2) := by decide +kernel
theorem dX8_counting_60 : decode cX8_counting 60 = .ok (.getfield 36, 3) := by decide +kernel
theorem dX8_counting_63 : decode cX8_counting 63 = .ok (.istore 4, 2) := by decide +kernel
theorem dX8_counting_65 : decode cX8_counting 65 = .ok (.iinc 5 1, 3) := by decide +kernel
theorem dX8_counting_68 : decode cX8_counting 68 = .ok (.goto (-59), 3) := by decide +kernel
theorem dX8_counting_71 : decode cX8_counting 71 = .ok (.iload_n 3, 1) := by decide +kernel
theorem dX8_counting_72 : decode cX8_counting 72 = .ok (.ireturn, 1) := by decide +kernel
theorem dX8_ruling_0 : decode cX8_ruling 0 = .ok (.aload_n 0, 1) := by decide +kernel
theorem dX8_ruling_1 : decode cX8_ruling 1 = .ok (.aload_n 0, 1) := by decide +kernel
theorem dX8_ruling_2 : decode cX8_ruling 2 = .ok (.iload_n 1, 1) := by decide +kernel
theorem dX8_ruling_3 : decode cX8_ruling 3 = .ok (.iload_n 2, 1) := by decide +kernel
theorem dX8_ruling_4 : decode cX8_ruling 4 = .ok (.invokevirtual 39, 3) := by decide +kernel
theorem dX8_ruling_7 : decode cX8_ruling 7 = .ok (.invokevirtual 43, 3) := by decide +kernel
theorem dX8_ruling_10 : decode cX8_ruling 10 = .ok (.astore 6, 2) := by decide +kernel
theorem dX8_ruling_12 : decode cX8_ruling 12 = .ok (.aload 6, 2) := by decide +kernel
theorem dX8_ruling_14 : decode cX8_ruling 14 = .ok (.ifnonnull 15, 3) := by decide +kernel
theorem dX8_ruling_17 : decode cX8_ruling 17 = .ok (.iload_n 1, 1) := by decide +kernel
theorem dX8_ruling_18 : decode cX8_ruling 18 = .ok (.iload_n 3, 1) := by decide +kernel
theorem dX8_ruling_19 : decode cX8_ruling 19 = .ok (.iload 4, 2) := by decide +kernel
theorem dX8_ruling_21 : decode cX8_ruling 21 = .ok (.iload 5, 2) := by decide +kernel
theorem dX8_ruling_23 : decode cX8_ruling 23 = .ok (.invokestatic 47, 3) := by decide +kernel
theorem dX8_ruling_26 : decode cX8_ruling 26 = .ok (.goto 17, 3) := by decide +kernel
theorem dX8_ruling_29 : decode cX8_ruling 29 = .ok (.aload 6, 2) := by decide +kernel
theorem dX8_ruling_31 : decode cX8_ruling 31 = .ok (.iload_n 3, 1) := by decide +kernel
theorem dX8_ruling_32 : decode cX8_ruling 32 = .ok (.iload 4, 2) := by decide +kernel
theorem dX8_ruling_34 : decode cX8_ruling 34 = .ok (.iload 5, 2) := by decide +kernel
theorem dX8_ruling_36 : decode cX8_ruling 36 = .ok (.aload_n 0, 1) := by decide +kernel
theorem dX8_ruling_37 : decode cX8_ruling 37 = .ok (.getfield 19, 3) := by decide +kernel
theorem dX8_ruling_40 : decode cX8_ruling 40 = .ok (.invokevirtual 51, 3) := by decide +kernel
theorem dX8_ruling_43 : decode cX8_ruling 43 = .ok (.istore 7, 2) := by decide +kernel
theorem dX8_ruling_45 : decode cX8_ruling 45 = .ok (.iload_n 1, 1) := by decide +kernel
theorem dX8_ruling_46 : decode cX8_ruling 46 = .ok (.iconst 0, 1) := by decide +kernel
theorem dX8_ruling_47 : decode cX8_ruling 47 = .ok (.getstatic 55, 3) := by decide +kernel
theorem dX8_ruling_50 : decode cX8_ruling 50 = .ok (.arraylength, 1) := by decide +kernel
theorem dX8_ruling_51 : decode cX8_ruling 51 = .ok (.iconst 1, 1) := by decide +kernel
theorem dX8_ruling_52 : decode cX8_ruling 52 = .ok (.isub, 1) := by decide +kernel
theorem dX8_ruling_53 : decode cX8_ruling 53 = .ok (.invokestatic 27, 3) := by decide +kernel
theorem dX8_ruling_56 : decode cX8_ruling 56 = .ok (.ifCond .eq 17, 3) := by decide +kernel
theorem dX8_ruling_59 : decode cX8_ruling 59 = .ok (.iload 7, 2) := by decide +kernel
theorem dX8_ruling_61 : decode cX8_ruling 61 = .ok (.iconst 0, 1) := by decide +kernel
theorem dX8_ruling_62 : decode cX8_ruling 62 = .ok (.getstatic 55, 3) := by decide +kernel
theorem dX8_ruling_65 : decode cX8_ruling 65 = .ok (.iload_n 1, 1) := by decide +kernel
theorem dX8_ruling_66 : decode cX8_ruling 66 = .ok (.iaload, 1) := by decide +kernel
theorem dX8_ruling_67 : decode cX8_ruling 67 = .ok (.invokestatic 58, 3) := by decide +kernel
theorem dX8_ruling_70 : decode cX8_ruling 70 = .ok (.goto 5, 3) := by decide +kernel
theorem dX8_ruling_73 : decode cX8_ruling 73 = .ok (.iload 7, 2) := by decide +kernel
theorem dX8_ruling_75 : decode cX8_ruling 75 = .ok (.ireturn, 1) := by decide +kernel
theorem dX8_valueWithout_0 : decode cX8_valueWithout 0 = .ok (.iload_n 0, 1) := by decide +kernel
theorem dX8_valueWithout_1 : decode cX8_valueWithout 1 = .ok (.tableswitch 37 0 2 #[27, 29, 32], 27) := by decide +kernel
theorem dX8_valueWithout_28 : decode cX8_valueWithout 28 = .ok (.iload_n 3, 1) := by decide +kernel
theorem dX8_valueWithout_29 : decode cX8_valueWithout 29 = .ok (.ireturn, 1) := by decide +kernel
theorem dX8_valueWithout_30 : decode cX8_valueWithout 30 = .ok (.bipush 10, 2) := by decide +kernel
theorem dX8_valueWithout_32 : decode cX8_valueWithout 32 = .ok (.ireturn, 1) := by decide +kernel
theorem dX8_valueWithout_33 : decode cX8_valueWithout 33 = .ok (.bipush 10, 2) := by decide +kernel
theorem dX8_valueWithout_35 : decode cX8_valueWithout 35 = .ok (.iload_n 1, 1) := by decide +kernel
theorem dX8_valueWithout_36 : decode cX8_valueWithout 36 = .ok (.imul, 1) := by decide +kernel
theorem dX8_valueWithout_37 : decode cX8_valueWithout 37 = .ok (.ireturn, 1) := by decide +kernel
theorem dX8_valueWithout_38 : decode cX8_valueWithout 38 = .ok (.iload_n 2, 1) := by decide +kernel
theorem dX8_valueWithout_39 : decode cX8_valueWithout 39 = .ok (.iconst 4, 1) := by decide +kernel
theorem dX8_valueWithout_40 : decode cX8_valueWithout 40 = .ok (.if_icmp .le 7, 3) := by decide +kernel
theorem dX8_valueWithout_43 : decode cX8_valueWithout 43 = .ok (.iconst 1, 1) := by decide +kernel
theorem dX8_valueWithout_44 : decode cX8_valueWithout 44 = .ok (.goto 4, 3) := by decide +kernel
theorem dX8_valueWithout_47 : decode cX8_valueWithout 47 = .ok (.iconst 0, 1) := by decide +kernel
theorem dX8_valueWithout_48 : decode cX8_valueWithout 48 = .ok (.ireturn, 1) := by decide +kernel
theorem dX9_init_0 : decode cX9_init 0 = .ok (.aload_n 0, 1) := by decide +kernel
theorem dX9_init_1 : decode cX9_init 1 = .ok (.invokespecial 3, 3) := by decide +kernel
theorem dX9_init_4 : decode cX9_init 4 = .ok (.aload_n 0, 1) := by decide +kernel
theorem dX9_init_5 : decode cX9_init 5 = .ok (.iconst 2, 1) := by decide +kernel
theorem dX9_init_6 : decode cX9_init 6 = .ok (.newarray .int, 2) := by decide +kernel
theorem dX9_init_8 : decode cX9_init 8 = .ok (.putfield 9, 3) := by decide +kernel
theorem dX9_init_11 : decode cX9_init 11 = .ok (.return_, 1) := by decide +kernel
theorem dX9_begin_0 : decode cX9_begin 0 = .ok (.aload_n 0, 1) := by decide +kernel
theorem dX9_begin_1 : decode cX9_begin 1 = .ok (.iload_n 1, 1) := by decide +kernel
theorem dX9_begin_2 : decode cX9_begin 2 = .ok (.putfield 15, 3) := by decide +kernel
theorem dX9_begin_5 : decode cX9_begin 5 = .ok (.aload_n 0, 1) := by decide +kernel
theorem dX9_begin_6 : decode cX9_begin 6 = .ok (.iload_n 2, 1) := by decide +kernel
theorem dX9_begin_7 : decode cX9_begin 7 = .ok (.putfield 19, 3) := by decide +kernel
theorem dX9_begin_10 : decode cX9_begin 10 = .ok (.aload_n 0, 1) := by decide +kernel
theorem dX9_begin_11 : decode cX9_begin 11 = .ok (.iload_n 3, 1) := by decide +kernel
theorem dX9_begin_12 : decode cX9_begin 12 = .ok (.putfield 22, 3) := by decide +kernel
theorem dX9_begin_15 : decode cX9_begin 15 = .ok (.aload_n 0, 1) := by decide +kernel
theorem dX9_begin_16 : decode cX9_begin 16 = .ok (.iconst 0, 1) := by decide +kernel
theorem dX9_begin_17 : decode cX9_begin 17 = .ok (.putfield 25, 3) := by decide +kernel
theorem dX9_begin_20 : decode cX9_begin 20 = .ok (.aload_n 0, 1) := by decide +kernel
theorem dX9_begin_21 : decode cX9_begin 21 = .ok (.iconst 0, 1) := by decide +kernel
theorem dX9_begin_22 : decode cX9_begin 22 = .ok (.putfield 28, 3) := by decide +kernel
theorem dX9_begin_25 : decode cX9_begin 25 = .ok (.aload_n 0, 1) := by decide +kernel
theorem dX9_begin_26 : decode cX9_begin 26 = .ok (.iconst 1, 1) := by decide +kernel
theorem dX9_begin_27 : decode cX9_begin 27 = .ok (.putfield 31, 3) := by decide +kernel
theorem dX9_begin_30 : decode cX9_begin 30 = .ok (.aload_n 0, 1) := by decide +kernel
theorem dX9_begin_31 : decode cX9_begin 31 = .ok (.iconst 0, 1) := by decide +kernel
theorem dX9_begin_32 : decode cX9_begin 32 = .ok (.putfield 34, 3) := by decide +kernel
theorem dX9_begin_35 : decode cX9_begin 35 = .ok (.aload_n 0, 1) := by decide +kernel
theorem dX9_begin_36 : decode cX9_begin 36 = .ok (.getfield 9, 3) := by decide +kernel
theorem dX9_begin_39 : decode cX9_begin 39 = .ok (.iconst 0, 1) := by decide +kernel
theorem dX9_begin_40 : decode cX9_begin 40 = .ok (.iconst 0, 1) := by decide +kernel
theorem dX9_begin_41 : decode cX9_begin 41 = .ok (.iastore, 1) := by decide +kernel
theorem dX9_begin_42 : decode cX9_begin 42 = .ok (.aload_n 0, 1) := by decide +kernel
theorem dX9_begin_43 : decode cX9_begin 43 = .ok (.getfield 9, 3) := by decide +kernel
theorem dX9_begin_46 : decode cX9_begin 46 = .ok (.iconst 1, 1) := by decide +kernel
theorem dX9_begin_47 : decode cX9_begin 47 = .ok (.iconst 0, 1) := by decide +kernel
theorem dX9_begin_48 : decode cX9_begin 48 = .ok (.iastore, 1) := by decide +kernel
theorem dX9_begin_49 : decode cX9_begin 49 = .ok (.return_, 1) := by decide +kernel
theorem dX9_takeFrom_0 : decode cX9_takeFrom 0 = .ok (.aload_n 0, 1) := by decide +kernel
theorem dX9_takeFrom_1 : decode cX9_takeFrom 1 = .ok (.aload_n 1, 1) := by decide +kernel
theorem dX9_takeFrom_2 : decode cX9_takeFrom 2 = .ok (.getfield 15, 3) := by decide +kernel
theorem dX9_takeFrom_5 : decode cX9_takeFrom 5 = .ok (.aload_n 1, 1) := by decide +kernel
theorem dX9_takeFrom_6 : decode cX9_takeFrom 6 = .ok (.getfield 19, 3) := by decide +kernel
theorem dX9_takeFrom_9 : decode cX9_takeFrom 9 = .ok (.aload_n 1, 1) := by decide +kernel
theorem dX9_takeFrom_10 : decode cX9_takeFrom 10 = .ok (.getfield 22, 3) := by decide +kernel
theorem dX9_takeFrom_13 : decode cX9_takeFrom 13 = .ok (.invokevirtual 37, 3) := by decide +kernel
theorem dX9_takeFrom_16 : decode cX9_takeFrom 16 = .ok (.aload_n 0, 1) := by decide +kernel
theorem dX9_takeFrom_17 : decode cX9_takeFrom 17 = .ok (.aload_n 1, 1) := by decide +kernel
theorem dX9_takeFrom_18 : decode cX9_takeFrom 18 = .ok (.getfield 25, 3) := by decide +kernel
theorem dX9_takeFrom_21 : decode cX9_takeFrom 21 = .ok (.putfield 25, 3) := by decide +kernel
theorem dX9_takeFrom_24 : decode cX9_takeFrom 24 = .ok (.aload_n 0, 1) := by decide +kernel
theorem dX9_takeFrom_25 : decode cX9_takeFrom 25 = .ok (.aload_n 1, 1) := by decide +kernel
theorem dX9_takeFrom_26 : decode cX9_takeFrom 26 = .ok (.getfield 28, 3) := by decide +kernel
theorem dX9_takeFrom_29 : decode cX9_takeFrom 29 = .ok (.putfield 28, 3) := by decide +kernel
theorem dX9_takeFrom_32 : decode cX9_takeFrom 32 = .ok (.aload_n 0, 1) := by decide +kernel
theorem dX9_takeFrom_33 : decode cX9_takeFrom 33 = .ok (.aload_n 1, 1) := by decide +kernel
theorem dX9_takeFrom_34 : decode cX9_takeFrom 34 = .ok (.getfield 31, 3) := by decide +kernel
theorem dX9_takeFrom_37 : decode cX9_takeFrom 37 = .ok (.putfield 31, 3) := by decide +kernel
theorem dX9_takeFrom_40 : decode cX9_takeFrom 40 = .ok (.aload_n 0, 1) := by decide +kernel
theorem dX9_takeFrom_41 : decode cX9_takeFrom 41 = .ok (.aload_n 1, 1) := by decide +kernel
theorem dX9_takeFrom_42 : decode cX9_takeFrom 42 = .ok (.getfield 34, 3) := by decide +kernel
theorem dX9_takeFrom_45 : decode cX9_takeFrom 45 = .ok (.putfield 34, 3) := by decide +kernel
theorem dX9_takeFrom_48 : decode cX9_takeFrom 48 = .ok (.aload_n 0, 1) := by decide +kernel
theorem dX9_takeFrom_49 : decode cX9_takeFrom 49 = .ok (.getfield 9, 3) := by decide +kernel
theorem dX9_takeFrom_52 : decode cX9_takeFrom 52 = .ok (.iconst 0, 1) := by decide +kernel
theorem dX9_takeFrom_53 : decode cX9_takeFrom 53 = .ok (.aload_n 1, 1) := by decide +kernel
theorem dX9_takeFrom_54 : decode cX9_takeFrom 54 = .ok (.getfield 9, 3) := by decide +kernel
theorem dX9_takeFrom_57 : decode cX9_takeFrom 57 = .ok (.iconst 0, 1) := by decide +kernel
theorem dX9_takeFrom_58 : decode cX9_takeFrom 58 = .ok (.iaload, 1) := by decide +kernel
theorem dX9_takeFrom_59 : decode cX9_takeFrom 59 = .ok (.iastore, 1) := by decide +kernel
theorem dX9_takeFrom_60 : decode cX9_takeFrom 60 = .ok (.aload_n 0, 1) := by decide +kernel
theorem dX9_takeFrom_61 : decode cX9_takeFrom 61 = .ok (.getfield 9, 3) := by decide +kernel
theorem dX9_takeFrom_64 : decode cX9_takeFrom 64 = .ok (.iconst 1, 1) := by decide +kernel
theorem dX9_takeFrom_65 : decode cX9_takeFrom 65 = .ok (.aload_n 1, 1) := by decide +kernel
theorem dX9_takeFrom_66 : decode cX9_takeFrom 66 = .ok (.getfield 9, 3) := by decide +kernel
theorem dX9_takeFrom_69 : decode cX9_takeFrom 69 = .ok (.iconst 1, 1) := by decide +kernel
theorem dX9_takeFrom_70 : decode cX9_takeFrom 70 = .ok (.iaload, 1) := by decide +kernel
theorem dX9_takeFrom_71 : decode cX9_takeFrom 71 = .ok (.iastore, 1) := by decide +kernel
theorem dX9_takeFrom_72 : decode cX9_takeFrom 72 = .ok (.return_, 1) := by decide +kernel
theorem dX9_isUnder_0 : decode cX9_isUnder 0 = .ok (.iload_n 0, 1) := by decide +kernel
theorem dX9_isUnder_1 : decode cX9_isUnder 1 = .ok (.istore_n 2, 1) := by decide +kernel
theorem dX9_isUnder_2 : decode cX9_isUnder 2 = .ok (.iconst 0, 1) := by decide +kernel
theorem dX9_isUnder_3 : decode cX9_isUnder 3 = .ok (.istore_n 3, 1) := by decide +kernel
theorem dX9_isUnder_4 : decode cX9_isUnder 4 = .ok (.iload_n 3, 1) := by decide +kernel
theorem dX9_isUnder_5 : decode cX9_isUnder 5 = .ok (.getstatic 41, 3) := by decide +kernel
theorem dX9_isUnder_8 : decode cX9_isUnder 8 = .ok (.arraylength, 1) := by decide +kernel
theorem dX9_isUnder_9 : decode cX9_isUnder 9 = .ok (.if_icmp .ge 32, 3) := by decide +kernel
theorem dX9_isUnder_12 : decode cX9_isUnder 12 = .ok (.iload_n 2, 1) := by decide +kernel
theorem dX9_isUnder_13 : decode cX9_isUnder 13 = .ok (.iconst 0, 1) := by decide +kernel
theorem dX9_isUnder_14 : decode cX9_isUnder 14 = .ok (.bipush 6, 2) := by decide +kernel
theorem dX9_isUnder_16 : decode cX9_isUnder 16 = .ok (.invokestatic 44, 3) := by decide +kernel
theorem dX9_isUnder_19 : decode cX9_isUnder 19 = .ok (.ifCond .eq 22, 3) := by decide +kernel
theorem dX9_isUnder_22 : decode cX9_isUnder 22 = .ok (.iload_n 2, 1) := by decide +kernel
theorem dX9_isUnder_23 : decode cX9_isUnder 23 = .ok (.iload_n 1, 1) := by decide +kernel
theorem dX9_isUnder_24 : decode cX9_isUnder 24 = .ok (.if_icmp .ne 5, 3) := by decide +kernel
theorem dX9_isUnder_27 : decode cX9_isUnder 27 = .ok (.iconst 1, 1) := by decide +kernel
theorem dX9_isUnder_28 : decode cX9_isUnder 28 = .ok (.ireturn, 1) := by decide +kernel
theorem dX9_isUnder_29 : decode cX9_isUnder 29 = .ok (.getstatic 41, 3) := by decide +kernel
theorem dX9_isUnder_32 : decode cX9_isUnder 32 = .ok (.iload_n 2, 1) := by decide +kernel
theorem dX9_isUnder_33 : decode cX9_isUnder 33 = .ok (.iaload, 1) := by decide +kernel
theorem dX9_isUnder_34 : decode cX9_isUnder 34 = .ok (.istore_n 2, 1) := by decide +kernel
theorem dX9_isUnder_35 : decode cX9_isUnder 35 = .ok (.iinc 3 1, 3) := by decide +kernel
theorem dX9_isUnder_38 : decode cX9_isUnder 38 = .ok (.goto (-34), 3) := by decide +kernel
theorem dX9_isUnder_41 : decode cX9_isUnder 41 = .ok (.iconst 0, 1) := by decide +kernel
theorem dX9_isUnder_42 : decode cX9_isUnder 42 = .ok (.ireturn, 1) := by decide +kernel
theorem dX9_rateIn_0 : decode cX9_rateIn 0 = .ok (.aload_n 0, 1) := by decide +kernel
theorem dX9_rateIn_1 : decode cX9_rateIn 1 = .ok (.getfield 15, 3) := by decide +kernel
theorem dX9_rateIn_4 : decode cX9_rateIn 4 = .ok (.tableswitch 89 1 6 #[40, 46, 57, 67, 79, 87], 40) := by decide +kernel
theorem dX9_rateIn_44 : decode cX9_rateIn 44 = .ok (.iload_n 1, 1) := by decide +kernel
theorem dX9_rateIn_45 : decode cX9_rateIn 45 = .ok (.iload_n 2, 1) := by decide +kernel
theorem dX9_rateIn_46 : decode cX9_rateIn 46 = .ok (.invokestatic 48, 3) := by decide +kernel
theorem dX9_rateIn_49 : decode cX9_rateIn 49 = .ok (.ireturn, 1) := by decide +kernel
theorem dX9_rateIn_50 : decode cX9_rateIn 50 = .ok (.iload_n 2, 1) := by decide +kernel
theorem dX9_rateIn_51 : decode cX9_rateIn 51 = .ok (.iconst 4, 1) := by decide +kernel
theorem dX9_rateIn_52 : decode cX9_rateIn 52 = .ok (.if_icmp .le 7, 3) := by decide +kernel
theorem dX9_rateIn_55 : decode cX9_rateIn 55 = .ok (.iconst 1, 1) := by decide +kernel
theorem dX9_rateIn_56 : decode cX9_rateIn 56 = .ok (.goto 4, 3) := by decide +kernel
theorem dX9_rateIn_59 : decode cX9_rateIn 59 = .ok (.iconst 2, 1) := by decide +kernel
theorem dX9_rateIn_60 : decode cX9_rateIn 60 = .ok (.ireturn, 1) := by decide +kernel
theorem dX9_rateIn_61 : decode cX9_rateIn 61 = .ok (.iload_n 1, 1) := by decide +kernel
theorem dX9_rateIn_62 : decode cX9_rateIn 62 = .ok (.iload_n 2, 1) := by decide +kernel
theorem dX9_rateIn_63 : decode cX9_rateIn 63 = .ok (.invokestatic 48, 3) := by decide +kernel
theorem dX9_rateIn_66 : decode cX9_rateIn 66 = .ok (.iconst 1, 1) := by decide +kernel
theorem dX9_rateIn_67 : decode cX9_rateIn 67 = .ok (.iadd, 1) := by decide +kernel
theorem dX9_rateIn_68 : decode cX9_rateIn 68 = .ok (.iconst 2, 1) := by decide +kernel
theorem dX9_rateIn_69 : decode cX9_rateIn 69 = .ok (.idiv, 1) := by decide +kernel
theorem dX9_rateIn_70 : decode cX9_rateIn 70 = .ok (.ireturn, 1) := by decide +kernel
theorem dX9_rateIn_71 : decode cX9_rateIn 71 = .ok (.iload_n 2, 1) := by decide +kernel
theorem dX9_rateIn_72 : decode cX9_rateIn 72 = .ok (.bipush 7, 2) := by decide +kernel
theorem dX9_rateIn_74 : decode cX9_rateIn 74 = .ok (.if_icmp .le 7, 3) := by decide +kernel
theorem dX9_rateIn_77 : decode cX9_rateIn 77 = .ok (.iconst 0, 1) := by decide +kernel
theorem dX9_rateIn_78 : decode cX9_rateIn 78 = .ok (.goto 4, 3) := by decide +kernel
theorem dX9_rateIn_81 : decode cX9_rateIn 81 = .ok (.iconst 1, 1) := by decide +kernel
theorem dX9_rateIn_82 : decode cX9_rateIn 82 = .ok (.ireturn, 1) := by decide +kernel
theorem dX9_rateIn_83 : decode cX9_rateIn 83 = .ok (.iload_n 1, 1) := by decide +kernel
theorem dX9_rateIn_84 : decode cX9_rateIn 84 = .ok (.iload_n 2, 1) := by decide +kernel
theorem dX9_rateIn_85 : decode cX9_rateIn 85 = .ok (.invokestatic 48, 3) := by decide +kernel
theorem dX9_rateIn_88 : decode cX9_rateIn 88 = .ok (.iconst 1, 1) := by decide +kernel
theorem dX9_rateIn_89 : decode cX9_rateIn 89 = .ok (.iadd, 1) := by decide +kernel
theorem dX9_rateIn_90 : decode cX9_rateIn 90 = .ok (.ireturn, 1) := by decide +kernel
theorem dX9_rateIn_91 : decode cX9_rateIn 91 = .ok (.iconst 4, 1) := by decide +kernel
theorem dX9_rateIn_92 : decode cX9_rateIn 92 = .ok (.ireturn, 1) := by decide +kernel
theorem dX9_rateIn_93 : decode cX9_rateIn 93 = .ok (.iconst 2, 1) := by decide +kernel
theorem dX9_rateIn_94 : decode cX9_rateIn 94 = .ok (.ireturn, 1) := by decide +kernel
theorem dX9_cutRate_0 : decode cX9_cutRate 0 = .ok (.iload_n 0, 1) := by decide +kernel
theorem dX9_cutRate_1 : decode cX9_cutRate 1 = .ok (.iconst 0, 1) := by decide +kernel
theorem dX9_cutRate_2 : decode cX9_cutRate 2 = .ok (.getstatic 52, 3) := by decide +kernel
theorem dX9_cutRate_5 : decode cX9_cutRate 5 = .ok (.arraylength, 1) := by decide +kernel
theorem dX9_cutRate_6 : decode cX9_cutRate 6 = .ok (.iconst 1, 1) := by decide +kernel
theorem dX9_cutRate_7 : decode cX9_cutRate 7 = .ok (.isub, 1) := by decide +kernel
theorem dX9_cutRate_8 : decode cX9_cutRate 8 = .ok (.invokestatic 44, 3) := by decide +kernel
theorem dX9_cutRate_11 : decode cX9_cutRate 11 = .ok (.ifCond .eq 14, 3) := by decide +kernel
theorem dX9_cutRate_14 : decode cX9_cutRate 14 = .ok (.iload_n 0, 1) := by decide +kernel
theorem dX9_cutRate_15 : decode cX9_cutRate 15 = .ok (.iconst 2, 1) := by decide +kernel
theorem dX9_cutRate_16 : decode cX9_cutRate 16 = .ok (.if_icmp .ne 11, 3) := by decide +kernel
theorem dX9_cutRate_19 : decode cX9_cutRate 19 = .ok (.iload_n 1, 1) := by decide +kernel
theorem dX9_cutRate_20 : decode cX9_cutRate 20 = .ok (.bipush 6, 2) := by decide +kernel
theorem dX9_cutRate_22 : decode cX9_cutRate 22 = .ok (.if_icmp .le 5, 3) := by decide +kernel
theorem dX9_cutRate_25 : decode cX9_cutRate 25 = .ok (.iconst 0, 1) := by decide +kernel
theorem dX9_cutRate_26 : decode cX9_cutRate 26 = .ok (.ireturn, 1) := by decide +kernel
theorem dX9_cutRate_27 : decode cX9_cutRate 27 = .ok (.getstatic 52, 3) := by decide +kernel
theorem dX9_cutRate_30 : decode cX9_cutRate 30 = .ok (.iload_n 0, 1) := by decide +kernel
theorem dX9_cutRate_31 : decode cX9_cutRate 31 = .ok (.iaload, 1) := by decide +kernel
theorem dX9_cutRate_32 : decode cX9_cutRate 32 = .ok (.ireturn, 1) := by decide +kernel
theorem dX9_worthIn_0 : decode cX9_worthIn 0 = .ok (.iload_n 1, 1) := by decide +kernel
theorem dX9_worthIn_1 : decode cX9_worthIn 1 = .ok (.ifCond .ne 8, 3) := by decide +kernel
theorem dX9_worthIn_4 : decode cX9_worthIn 4 = .ok (.bipush 10, 2) := by decide +kernel
theorem dX9_worthIn_6 : decode cX9_worthIn 6 = .ok (.goto 4, 3) := by decide +kernel
theorem dX9_worthIn_9 : decode cX9_worthIn 9 = .ok (.iconst 5, 1) := by decide +kernel
theorem dX9_worthIn_10 : decode cX9_worthIn 10 = .ok (.istore_n 2, 1) := by decide +kernel
theorem dX9_worthIn_11 : decode cX9_worthIn 11 = .ok (.aload_n 0, 1) := by decide +kernel
theorem dX9_worthIn_12 : decode cX9_worthIn 12 = .ok (.getfield 15, 3) := by decide +kernel
theorem dX9_worthIn_15 : decode cX9_worthIn 15 = .ok (.tableswitch 52 1 6 #[37, 52, 39, 43, 46, 50], 37) := by decide +kernel
theorem dX9_worthIn_52 : decode cX9_worthIn 52 = .ok (.iload_n 2, 1) := by decide +kernel
theorem dX9_worthIn_53 : decode cX9_worthIn 53 = .ok (.ireturn, 1) := by decide +kernel
theorem dX9_worthIn_54 : decode cX9_worthIn 54 = .ok (.iconst 4, 1) := by decide +kernel
theorem dX9_worthIn_55 : decode cX9_worthIn 55 = .ok (.iload_n 2, 1) := by decide +kernel
theorem dX9_worthIn_56 : decode cX9_worthIn 56 = .ok (.imul, 1) := by decide +kernel
theorem dX9_worthIn_57 : decode cX9_worthIn 57 = .ok (.ireturn, 1) := by decide +kernel
theorem dX9_worthIn_58 : decode cX9_worthIn 58 = .ok (.bipush 9, 2) := by decide +kernel
theorem dX9_worthIn_60 : decode cX9_worthIn 60 = .ok (.ireturn, 1) := by decide +kernel
theorem dX9_worthIn_61 : decode cX9_worthIn 61 = .ok (.iload_n 2, 1) := by decide +kernel
theorem dX9_worthIn_62 : decode cX9_worthIn 62 = .ok (.iconst 2, 1) := by decide +kernel
theorem dX9_worthIn_63 : decode cX9_worthIn 63 = .ok (.idiv, 1) := by decide +kernel
theorem dX9_worthIn_64 : decode cX9_worthIn 64 = .ok (.ireturn, 1) := by decide +kernel
theorem dX9_worthIn_65 : decode cX9_worthIn 65 = .ok (.iconst 2, 1) := by decide +kernel
theorem dX9_worthIn_66 : decode cX9_worthIn 66 = .ok (.ireturn, 1) := by decide +kernel
theorem dX9_worthIn_67 : decode cX9_worthIn 67 = .ok (.iconst 5, 1) := by decide +kernel
theorem dX9_worthIn_68 : decode cX9_worthIn 68 = .ok (.ireturn, 1) := by decide +kernel
theorem dX9_joined_0 : decode cX9_joined 0 = .ok (.aload_n 0, 1) := by decide +kernel
theorem dX9_joined_1 : decode cX9_joined 1 = .ok (.getfield 25, 3) := by decide +kernel
theorem dX9_joined_4 : decode cX9_joined 4 = .ok (.aload_n 0, 1) := by decide +kernel
theorem dX9_joined_5 : decode cX9_joined 5 = .ok (.getfield 9, 3) := by decide +kernel
theorem dX9_joined_8 : decode cX9_joined 8 = .ok (.iconst 0, 1) := by decide +kernel
theorem dX9_joined_9 : decode cX9_joined 9 = .ok (.iaload, 1) := by decide +kernel
theorem dX9_joined_10 : decode cX9_joined 10 = .ok (.aload_n 0, 1) := by decide +kernel
theorem dX9_joined_11 : decode cX9_joined 11 = .ok (.getfield 9, 3) := by decide +kernel
theorem dX9_joined_14 : decode cX9_joined 14 = .ok (.iconst 1, 1) := by decide +kernel
theorem dX9_joined_15 : decode cX9_joined 15 = .ok (.iaload, 1) := by decide +kernel
theorem dX9_joined_16 : decode cX9_joined 16 = .ok (.invokestatic 55, 3) := by decide +kernel
theorem dX9_joined_19 : decode cX9_joined 19 = .ok (.invokestatic 55, 3) := by decide +kernel
theorem dX9_joined_22 : decode cX9_joined 22 = .ok (.ireturn, 1) := by decide +kernel
theorem dX9_isThrough_0 : decode cX9_isThrough 0 = .ok (.aload_n 0, 1) := by decide +kernel
theorem dX9_isThrough_1 : decode cX9_isThrough 1 = .ok (.getfield 25, 3) := by decide +kernel
theorem dX9_isThrough_4 : decode cX9_isThrough 4 = .ok (.aload_n 0, 1) := by decide +kernel
theorem dX9_isThrough_5 : decode cX9_isThrough 5 = .ok (.getfield 22, 3) := by decide +kernel
theorem dX9_isThrough_8 : decode cX9_isThrough 8 = .ok (.if_icmp .ne 7, 3) := by decide +kernel
theorem dX9_isThrough_11 : decode cX9_isThrough 11 = .ok (.iconst 1, 1) := by decide +kernel
theorem dX9_isThrough_12 : decode cX9_isThrough 12 = .ok (.goto 4, 3) := by decide +kernel
theorem dX9_isThrough_15 : decode cX9_isThrough 15 = .ok (.iconst 0, 1) := by decide +kernel
theorem dX9_isThrough_16 : decode cX9_isThrough 16 = .ok (.ireturn, 1) := by decide +kernel
theorem dX9_toldOf_0 : decode cX9_toldOf 0 = .ok (.iload_n 1, 1) := by decide +kernel
theorem dX9_toldOf_1 : decode cX9_toldOf 1 = .ok (.tableswitch 121 0 12 #[67, 72, 77, 82, 121, 87, 92, 121, 121, 97, 104, 111, 116], 67) := by decide +kernel
theorem dX9_toldOf_68 : decode cX9_toldOf 68 = .ok (.aload_n 0, 1) := by decide +kernel
theorem dX9_toldOf_69 : decode cX9_toldOf 69 = .ok (.getfield 15, 3) := by decide +kernel
theorem dX9_toldOf_72 : decode cX9_toldOf 72 = .ok (.ireturn, 1) := by decide +kernel
theorem dX9_toldOf_73 : decode cX9_toldOf 73 = .ok (.aload_n 0, 1) := by decide +kernel
theorem dX9_toldOf_74 : decode cX9_toldOf 74 = .ok (.getfield 19, 3) := by decide +kernel
theorem dX9_toldOf_77 : decode cX9_toldOf 77 = .ok (.ireturn, 1) := by decide +kernel
theorem dX9_toldOf_78 : decode cX9_toldOf 78 = .ok (.aload_n 0, 1) := by decide +kernel
theorem dX9_toldOf_79 : decode cX9_toldOf 79 = .ok (.getfield 22, 3) := by decide +kernel
theorem dX9_toldOf_82 : decode cX9_toldOf 82 = .ok (.ireturn, 1) := by decide +kernel
theorem dX9_toldOf_83 : decode cX9_toldOf 83 = .ok (.aload_n 0, 1) := by decide +kernel
theorem dX9_toldOf_84 : decode cX9_toldOf 84 = .ok (.getfield 25, 3) := by decide +kernel
theorem dX9_toldOf_87 : decode cX9_toldOf 87 = .ok (.ireturn, 1) := by decide +kernel
theorem dX9_toldOf_88 : decode cX9_toldOf 88 = .ok (.aload_n 0, 1) := by decide +kernel
theorem dX9_toldOf_89 : decode cX9_toldOf 89 = .ok (.getfield 28, 3) := by decide +kernel
theorem dX9_toldOf_92 : decode cX9_toldOf 92 = .ok (.ireturn, 1) := by decide +kernel
theorem dX9_toldOf_93 : decode cX9_toldOf 93 = .ok (.aload_n 0, 1) := by decide +kernel
theorem dX9_toldOf_94 : decode cX9_toldOf 94 = .ok (.getfield 31, 3) := by decide +kernel
theorem dX9_toldOf_97 : decode cX9_toldOf 97 = .ok (.ireturn, 1) := by decide +kernel
theorem dX9_toldOf_98 : decode cX9_toldOf 98 = .ok (.aload_n 0, 1) := by decide +kernel
theorem dX9_toldOf_99 : decode cX9_toldOf 99 = .ok (.getfield 9, 3) := by decide +kernel
theorem dX9_toldOf_102 : decode cX9_toldOf 102 = .ok (.iconst 0, 1) := by decide +kernel
theorem dX9_toldOf_103 : decode cX9_toldOf 103 = .ok (.iaload, 1) := by decide +kernel
theorem dX9_toldOf_104 : decode cX9_toldOf 104 = .ok (.ireturn, 1) := by decide +kernel
theorem dX9_toldOf_105 : decode cX9_toldOf 105 = .ok (.aload_n 0, 1) := by decide +kernel
theorem dX9_toldOf_106 : decode cX9_toldOf 106 = .ok (.getfield 9, 3) := by decide +kernel
theorem dX9_toldOf_109 : decode cX9_toldOf 109 = .ok (.iconst 1, 1) := by decide +kernel
theorem dX9_toldOf_110 : decode cX9_toldOf 110 = .ok (.iaload, 1) := by decide +kernel
theorem dX9_toldOf_111 : decode cX9_toldOf 111 = .ok (.ireturn, 1) := by decide +kernel
theorem dX9_toldOf_112 : decode cX9_toldOf 112 = .ok (.aload_n 0, 1) := by decide +kernel
theorem dX9_toldOf_113 : decode cX9_toldOf 113 = .ok (.invokevirtual 60, 3) := by decide +kernel
theorem dX9_toldOf_116 : decode cX9_toldOf 116 = .ok (.ireturn, 1) := by decide +kernel
theorem dX9_toldOf_117 : decode cX9_toldOf 117 = .ok (.aload_n 0, 1) := by decide +kernel
theorem dX9_toldOf_118 : decode cX9_toldOf 118 = .ok (.getfield 34, 3) := by decide +kernel
theorem dX9_toldOf_121 : decode cX9_toldOf 121 = .ok (.ireturn, 1) := by decide +kernel
theorem dX9_toldOf_122 : decode cX9_toldOf 122 = .ok (.ldc 64, 2) := by decide +kernel
theorem dX9_toldOf_124 : decode cX9_toldOf 124 = .ok (.ireturn, 1) := by decide +kernel
theorem dX10_init_0 : decode cX10_init 0 = .ok (.aload_n 0, 1) := by decide +kernel
theorem dX10_init_1 : decode cX10_init 1 = .ok (.invokespecial 5, 3) := by decide +kernel
theorem dX10_init_4 : decode cX10_init 4 = .ok (.aload_n 0, 1) := by decide +kernel
theorem dX10_init_5 : decode cX10_init 5 = .ok (.bipush 24, 2) := by decide +kernel
theorem dX10_init_7 : decode cX10_init 7 = .ok (.anewarray 11, 3) := by decide +kernel
theorem dX10_init_10 : decode cX10_init 10 = .ok (.putfield 13, 3) := by decide +kernel
theorem dX10_init_13 : decode cX10_init 13 = .ok (.aload_n 0, 1) := by decide +kernel
theorem dX10_init_14 : decode cX10_init 14 = .ok (.bipush 8, 2) := by decide +kernel
theorem dX10_init_16 : decode cX10_init 16 = .ok (.newarray .int, 2) := by decide +kernel
theorem dX10_init_18 : decode cX10_init 18 = .ok (.putfield 17, 3) := by decide +kernel
theorem dX10_init_21 : decode cX10_init 21 = .ok (.aload_n 0, 1) := by decide +kernel
theorem dX10_init_22 : decode cX10_init 22 = .ok (.bipush 8, 2) := by decide +kernel
theorem dX10_init_24 : decode cX10_init 24 = .ok (.newarray .int, 2) := by decide +kernel
theorem dX10_init_26 : decode cX10_init 26 = .ok (.putfield 21, 3) := by decide +kernel
theorem dX10_init_29 : decode cX10_init 29 = .ok (.aload_n 0, 1) := by decide +kernel
theorem dX10_init_30 : decode cX10_init 30 = .ok (.bipush 24, 2) := by decide +kernel
theorem dX10_init_32 : decode cX10_init 32 = .ok (.newarray .int, 2) := by decide +kernel
theorem dX10_init_34 : decode cX10_init 34 = .ok (.putfield 24, 3) := by decide +kernel
theorem dX10_init_37 : decode cX10_init 37 = .ok (.iconst 0, 1) := by decide +kernel
theorem dX10_init_38 : decode cX10_init 38 = .ok (.istore_n 1, 1) := by decide +kernel
theorem dX10_init_39 : decode cX10_init 39 = .ok (.iload_n 1, 1) := by decide +kernel
theorem dX10_init_40 : decode cX10_init 40 = .ok (.bipush 24, 2) := by decide +kernel
theorem dX10_init_42 : decode cX10_init 42 = .ok (.if_icmp .ge 22, 3) := by decide +kernel
theorem dX10_init_45 : decode cX10_init 45 = .ok (.aload_n 0, 1) := by decide +kernel
theorem dX10_init_46 : decode cX10_init 46 = .ok (.getfield 13, 3) := by decide +kernel
theorem dX10_init_49 : decode cX10_init 49 = .ok (.iload_n 1, 1) := by decide +kernel
theorem dX10_init_50 : decode cX10_init 50 = .ok (.new 11, 3) := by decide +kernel
theorem dX10_init_53 : decode cX10_init 53 = .ok (.dup, 1) := by decide +kernel
theorem dX10_init_54 : decode cX10_init 54 = .ok (.invokespecial 27, 3) := by decide +kernel
theorem dX10_init_57 : decode cX10_init 57 = .ok (.aastore, 1) := by decide +kernel
theorem dX10_init_58 : decode cX10_init 58 = .ok (.iinc 1 1, 3) := by decide +kernel
theorem dX10_init_61 : decode cX10_init 61 = .ok (.goto (-22), 3) := by decide +kernel
theorem dX10_init_64 : decode cX10_init 64 = .ok (.return_, 1) := by decide +kernel
theorem dX10_takeFrom_0 : decode cX10_takeFrom 0 = .ok (.aload_n 0, 1) := by decide +kernel
theorem dX10_takeFrom_1 : decode cX10_takeFrom 1 = .ok (.aload_n 1, 1) := by decide +kernel
theorem dX10_takeFrom_2 : decode cX10_takeFrom 2 = .ok (.getfield 28, 3) := by decide +kernel
theorem dX10_takeFrom_5 : decode cX10_takeFrom 5 = .ok (.putfield 28, 3) := by decide +kernel
theorem dX10_takeFrom_8 : decode cX10_takeFrom 8 = .ok (.iconst 0, 1) := by decide +kernel
theorem dX10_takeFrom_9 : decode cX10_takeFrom 9 = .ok (.istore_n 2, 1) := by decide +kernel
theorem dX10_takeFrom_10 : decode cX10_takeFrom 10 = .ok (.iload_n 2, 1) := by decide +kernel
theorem dX10_takeFrom_11 : decode cX10_takeFrom 11 = .ok (.aload_n 0, 1) := by decide +kernel
theorem dX10_takeFrom_12 : decode cX10_takeFrom 12 = .ok (.getfield 28, 3) := by decide +kernel
theorem dX10_takeFrom_15 : decode cX10_takeFrom 15 = .ok (.if_icmp .ge 24, 3) := by decide +kernel
theorem dX10_takeFrom_18 : decode cX10_takeFrom 18 = .ok (.aload_n 0, 1) := by decide +kernel
theorem dX10_takeFrom_19 : decode cX10_takeFrom 19 = .ok (.getfield 13, 3) := by decide +kernel
theorem dX10_takeFrom_22 : decode cX10_takeFrom 22 = .ok (.iload_n 2, 1) := by decide +kernel
theorem dX10_takeFrom_23 : decode cX10_takeFrom 23 = .ok (.aaload, 1) := by decide +kernel
theorem dX10_takeFrom_24 : decode cX10_takeFrom 24 = .ok (.aload_n 1, 1) := by decide +kernel
theorem dX10_takeFrom_25 : decode cX10_takeFrom 25 = .ok (.getfield 13, 3) := by decide +kernel
theorem dX10_takeFrom_28 : decode cX10_takeFrom 28 = .ok (.iload_n 2, 1) := by decide +kernel
theorem dX10_takeFrom_29 : decode cX10_takeFrom 29 = .ok (.aaload, 1) := by decide +kernel
theorem dX10_takeFrom_30 : decode cX10_takeFrom 30 = .ok (.invokevirtual 32, 3) := by decide +kernel
theorem dX10_takeFrom_33 : decode cX10_takeFrom 33 = .ok (.iinc 2 1, 3) := by decide +kernel
theorem dX10_takeFrom_36 : decode cX10_takeFrom 36 = .ok (.goto (-26), 3) := by decide +kernel
theorem dX10_takeFrom_39 : decode cX10_takeFrom 39 = .ok (.aload_n 0, 1) := by decide +kernel
theorem dX10_takeFrom_40 : decode cX10_takeFrom 40 = .ok (.aload_n 1, 1) := by decide +kernel
theorem dX10_takeFrom_41 : decode cX10_takeFrom 41 = .ok (.getfield 36, 3) := by decide +kernel
theorem dX10_takeFrom_44 : decode cX10_takeFrom 44 = .ok (.putfield 36, 3) := by decide +kernel
theorem dX10_takeFrom_47 : decode cX10_takeFrom 47 = .ok (.aload_n 1, 1) := by decide +kernel
theorem dX10_takeFrom_48 : decode cX10_takeFrom 48 = .ok (.getfield 17, 3) := by decide +kernel
theorem dX10_takeFrom_51 : decode cX10_takeFrom 51 = .ok (.iconst 0, 1) := by decide +kernel
theorem dX10_takeFrom_52 : decode cX10_takeFrom 52 = .ok (.aload_n 0, 1) := by decide +kernel
theorem dX10_takeFrom_53 : decode cX10_takeFrom 53 = .ok (.getfield 17, 3) := by decide +kernel
theorem dX10_takeFrom_56 : decode cX10_takeFrom 56 = .ok (.iconst 0, 1) := by decide +kernel
theorem dX10_takeFrom_57 : decode cX10_takeFrom 57 = .ok (.bipush 8, 2) := by decide +kernel
theorem dX10_takeFrom_59 : decode cX10_takeFrom 59 = .ok (.invokestatic 39, 3) := by decide +kernel
theorem dX10_takeFrom_62 : decode cX10_takeFrom 62 = .ok (.aload_n 1, 1) := by decide +kernel
theorem dX10_takeFrom_63 : decode cX10_takeFrom 63 = .ok (.getfield 21, 3) := by decide +kernel
theorem dX10_takeFrom_66 : decode cX10_takeFrom 66 = .ok (.iconst 0, 1) := by decide +kernel
theorem dX10_takeFrom_67 : decode cX10_takeFrom 67 = .ok (.aload_n 0, 1) := by decide +kernel
theorem dX10_takeFrom_68 : decode cX10_takeFrom 68 = .ok (.getfield 21, 3) := by decide +kernel
theorem dX10_takeFrom_71 : decode cX10_takeFrom 71 = .ok (.iconst 0, 1) := by decide +kernel
theorem dX10_takeFrom_72 : decode cX10_takeFrom 72 = .ok (.bipush 8, 2) := by decide +kernel
theorem dX10_takeFrom_74 : decode cX10_takeFrom 74 = .ok (.invokestatic 39, 3) := by decide +kernel
theorem dX10_takeFrom_77 : decode cX10_takeFrom 77 = .ok (.return_, 1) := by decide +kernel
theorem dX10_numbered_0 : decode cX10_numbered 0 = .ok (.iload_n 1, 1) := by decide +kernel
theorem dX10_numbered_1 : decode cX10_numbered 1 = .ok (.iconst 0, 1) := by decide +kernel
theorem dX10_numbered_2 : decode cX10_numbered 2 = .ok (.aload_n 0, 1) := by decide +kernel
theorem dX10_numbered_3 : decode cX10_numbered 3 = .ok (.getfield 28, 3) := by decide +kernel
theorem dX10_numbered_6 : decode cX10_numbered 6 = .ok (.iconst 1, 1) := by decide +kernel
theorem dX10_numbered_7 : decode cX10_numbered 7 = .ok (.isub, 1) := by decide +kernel
theorem dX10_numbered_8 : decode cX10_numbered 8 = .ok (.invokestatic 45, 3) := by decide +kernel
theorem dX10_numbered_11 : decode cX10_numbered 11 = .ok (.ifCond .eq 12, 3) := by decide +kernel
theorem dX10_numbered_14 : decode cX10_numbered 14 = .ok (.aload_n 0, 1) := by decide +kernel
theorem dX10_numbered_15 : decode cX10_numbered 15 = .ok (.getfield 13, 3) := by decide +kernel
theorem dX10_numbered_18 : decode cX10_numbered 18 = .ok (.iload_n 1, 1) := by decide +kernel
theorem dX10_numbered_19 : decode cX10_numbered 19 = .ok (.aaload, 1) := by decide +kernel
theorem dX10_numbered_20 : decode cX10_numbered 20 = .ok (.goto 4, 3) := by decide +kernel
theorem dX10_numbered_23 : decode cX10_numbered 23 = .ok (.aconst_null, 1) := by decide +kernel
theorem dX10_numbered_24 : decode cX10_numbered 24 = .ok (.areturn, 1) := by decide +kernel
theorem dX10_addWork_0 : decode cX10_addWork 0 = .ok (.aload_n 0, 1) := by decide +kernel
theorem dX10_addWork_1 : decode cX10_addWork 1 = .ok (.getfield 28, 3) := by decide +kernel
theorem dX10_addWork_4 : decode cX10_addWork 4 = .ok (.bipush 24, 2) := by decide +kernel
theorem dX10_addWork_6 : decode cX10_addWork 6 = .ok (.if_icmp .lt 6, 3) := by decide +kernel
theorem dX10_addWork_9 : decode cX10_addWork 9 = .ok (.ldc 49, 2) := by decide +kernel
theorem dX10_addWork_11 : decode cX10_addWork 11 = .ok (.ireturn, 1) := by decide +kernel
theorem dX10_addWork_12 : decode cX10_addWork 12 = .ok (.aload_n 0, 1) := by decide +kernel
theorem dX10_addWork_13 : decode cX10_addWork 13 = .ok (.getfield 13, 3) := by decide +kernel
theorem dX10_addWork_16 : decode cX10_addWork 16 = .ok (.aload_n 0, 1) := by decide +kernel
theorem dX10_addWork_17 : decode cX10_addWork 17 = .ok (.getfield 28, 3) := by decide +kernel
theorem dX10_addWork_20 : decode cX10_addWork 20 = .ok (.aaload, 1) := by decide +kernel
theorem dX10_addWork_21 : decode cX10_addWork 21 = .ok (.iload_n 1, 1) := by decide +kernel
theorem dX10_addWork_22 : decode cX10_addWork 22 = .ok (.iload_n 2, 1) := by decide +kernel
theorem dX10_addWork_23 : decode cX10_addWork 23 = .ok (.iload_n 3, 1) := by decide +kernel
theorem dX10_addWork_24 : decode cX10_addWork 24 = .ok (.invokevirtual 50, 3) := by decide +kernel
theorem dX10_addWork_27 : decode cX10_addWork 27 = .ok (.aload_n 0, 1) := by decide +kernel
theorem dX10_addWork_28 : decode cX10_addWork 28 = .ok (.dup, 1) := by decide +kernel
theorem dX10_addWork_29 : decode cX10_addWork 29 = .ok (.getfield 28, 3) := by decide +kernel
theorem dX10_addWork_32 : decode cX10_addWork 32 = .ok (.iconst 1, 1) := by decide +kernel
theorem dX10_addWork_33 : decode cX10_addWork 33 = .ok (.iadd, 1) := by decide +kernel
theorem dX10_addWork_34 : decode cX10_addWork 34 = .ok (.putfield 28, 3) := by decide +kernel
theorem dX10_addWork_37 : decode cX10_addWork 37 = .ok (.aload_n 0, 1) := by decide +kernel
theorem dX10_addWork_38 : decode cX10_addWork 38 = .ok (.getfield 28, 3) := by decide +kernel
theorem dX10_addWork_41 : decode cX10_addWork 41 = .ok (.iconst 1, 1) := by decide +kernel
theorem dX10_addWork_42 : decode cX10_addWork 42 = .ok (.isub, 1) := by decide +kernel
theorem dX10_addWork_43 : decode cX10_addWork 43 = .ok (.ireturn, 1) := by decide +kernel
theorem dX10_addGang_0 : decode cX10_addGang 0 = .ok (.aload_n 0, 1) := by decide +kernel
theorem dX10_addGang_1 : decode cX10_addGang 1 = .ok (.getfield 36, 3) := by decide +kernel
theorem dX10_addGang_4 : decode cX10_addGang 4 = .ok (.bipush 8, 2) := by decide +kernel
theorem dX10_addGang_6 : decode cX10_addGang 6 = .ok (.if_icmp .lt 6, 3) := by decide +kernel
theorem dX10_addGang_9 : decode cX10_addGang 9 = .ok (.ldc 49, 2) := by decide +kernel
theorem dX10_addGang_11 : decode cX10_addGang 11 = .ok (.ireturn, 1) := by decide +kernel
theorem dX10_addGang_12 : decode cX10_addGang 12 = .ok (.aload_n 0, 1) := by decide +kernel
theorem dX10_addGang_13 : decode cX10_addGang 13 = .ok (.getfield 17, 3) := by decide +kernel
theorem dX10_addGang_16 : decode cX10_addGang 16 = .ok (.aload_n 0, 1) := by decide +kernel
theorem dX10_addGang_17 : decode cX10_addGang 17 = .ok (.getfield 36, 3) := by decide +kernel
theorem dX10_addGang_20 : decode cX10_addGang 20 = .ok (.iload_n 1, 1) := by decide +kernel
theorem dX10_addGang_21 : decode cX10_addGang 21 = .ok (.iastore, 1) := by decide +kernel
theorem dX10_addGang_22 : decode cX10_addGang 22 = .ok (.aload_n 0, 1) := by decide +kernel
theorem dX10_addGang_23 : decode cX10_addGang 23 = .ok (.getfield 21, 3) := by decide +kernel
theorem dX10_addGang_26 : decode cX10_addGang 26 = .ok (.aload_n 0, 1) := by decide +kernel
theorem dX10_addGang_27 : decode cX10_addGang 27 = .ok (.getfield 36, 3) := by decide +kernel
theorem dX10_addGang_30 : decode cX10_addGang 30 = .ok (.ldc 54, 2) := by decide +kernel
theorem dX10_addGang_32 : decode cX10_addGang 32 = .ok (.iastore, 1) := by decide +kernel
theorem dX10_addGang_33 : decode cX10_addGang 33 = .ok (.aload_n 0, 1) := by decide +kernel
theorem dX10_addGang_34 : decode cX10_addGang 34 = .ok (.dup, 1) := by decide +kernel
theorem dX10_addGang_35 : decode cX10_addGang 35 = .ok (.getfield 36, 3) := by decide +kernel
theorem dX10_addGang_38 : decode cX10_addGang 38 = .ok (.iconst 1, 1) := by decide +kernel
theorem dX10_addGang_39 : decode cX10_addGang 39 = .ok (.iadd, 1) := by decide +kernel
theorem dX10_addGang_40 : decode cX10_addGang 40 = .ok (.putfield 36, 3) := by decide +kernel
theorem dX10_addGang_43 : decode cX10_addGang 43 = .ok (.aload_n 0, 1) := by decide +kernel
theorem dX10_addGang_44 : decode cX10_addGang 44 = .ok (.getfield 36, 3) := by decide +kernel
theorem dX10_addGang_47 : decode cX10_addGang 47 = .ok (.iconst 1, 1) := by decide +kernel
theorem dX10_addGang_48 : decode cX10_addGang 48 = .ok (.isub, 1) := by decide +kernel
theorem dX10_addGang_49 : decode cX10_addGang 49 = .ok (.ireturn, 1) := by decide +kernel
theorem dX10_gangAt_0 : decode cX10_gangAt 0 = .ok (.iconst 0, 1) := by decide +kernel
theorem dX10_gangAt_1 : decode cX10_gangAt 1 = .ok (.istore_n 2, 1) := by decide +kernel
theorem dX10_gangAt_2 : decode cX10_gangAt 2 = .ok (.iload_n 2, 1) := by decide +kernel
theorem dX10_gangAt_3 : decode cX10_gangAt 3 = .ok (.aload_n 0, 1) := by decide +kernel
theorem dX10_gangAt_4 : decode cX10_gangAt 4 = .ok (.getfield 36, 3) := by decide +kernel
theorem dX10_gangAt_7 : decode cX10_gangAt 7 = .ok (.if_icmp .ge 21, 3) := by decide +kernel
theorem dX10_gangAt_10 : decode cX10_gangAt 10 = .ok (.aload_n 0, 1) := by decide +kernel
theorem dX10_gangAt_11 : decode cX10_gangAt 11 = .ok (.getfield 21, 3) := by decide +kernel
theorem dX10_gangAt_14 : decode cX10_gangAt 14 = .ok (.iload_n 2, 1) := by decide +kernel
theorem dX10_gangAt_15 : decode cX10_gangAt 15 = .ok (.iaload, 1) := by decide +kernel
theorem dX10_gangAt_16 : decode cX10_gangAt 16 = .ok (.iload_n 1, 1) := by decide +kernel
theorem dX10_gangAt_17 : decode cX10_gangAt 17 = .ok (.if_icmp .ne 5, 3) := by decide +kernel
theorem dX10_gangAt_20 : decode cX10_gangAt 20 = .ok (.iload_n 2, 1) := by decide +kernel
theorem dX10_gangAt_21 : decode cX10_gangAt 21 = .ok (.ireturn, 1) := by decide +kernel
theorem dX10_gangAt_22 : decode cX10_gangAt 22 = .ok (.iinc 2 1, 3) := by decide +kernel
theorem dX10_gangAt_25 : decode cX10_gangAt 25 = .ok (.goto (-23), 3) := by decide +kernel
theorem dX10_gangAt_28 : decode cX10_gangAt 28 = .ok (.ldc 54, 2) := by decide +kernel
theorem dX10_gangAt_30 : decode cX10_gangAt 30 = .ok (.ireturn, 1) := by decide +kernel
theorem dX10_howManyAt_0 : decode cX10_howManyAt 0 = .ok (.iconst 0, 1) := by decide +kernel
theorem dX10_howManyAt_1 : decode cX10_howManyAt 1 = .ok (.istore_n 2, 1) := by decide +kernel
theorem dX10_howManyAt_2 : decode cX10_howManyAt 2 = .ok (.iconst 0, 1) := by decide +kernel
theorem dX10_howManyAt_3 : decode cX10_howManyAt 3 = .ok (.istore_n 3, 1) := by decide +kernel
theorem dX10_howManyAt_4 : decode cX10_howManyAt 4 = .ok (.iload_n 3, 1) := by decide +kernel
theorem dX10_howManyAt_5 : decode cX10_howManyAt 5 = .ok (.aload_n 0, 1) := by decide +kernel
theorem dX10_howManyAt_6 : decode cX10_howManyAt 6 = .ok (.getfield 28, 3) := by decide +kernel
theorem dX10_howManyAt_9 : decode cX10_howManyAt 9 = .ok (.if_icmp .ge 30, 3) := by decide +kernel
theorem dX10_howManyAt_12 : decode cX10_howManyAt 12 = .ok (.iload_n 2, 1) := by decide +kernel
theorem dX10_howManyAt_13 : decode cX10_howManyAt 13 = .ok (.aload_n 0, 1) := by decide +kernel
theorem dX10_howManyAt_14 : decode cX10_howManyAt 14 = .ok (.getfield 13, 3) := by decide +kernel
theorem dX10_howManyAt_17 : decode cX10_howManyAt 17 = .ok (.iload_n 3, 1) := by decide +kernel
theorem dX10_howManyAt_18 : decode cX10_howManyAt 18 = .ok (.aaload, 1) := by decide +kernel
theorem dX10_howManyAt_19 : decode cX10_howManyAt 19 = .ok (.getfield 55, 3) := by decide +kernel
theorem dX10_howManyAt_22 : decode cX10_howManyAt 22 = .ok (.iload_n 1, 1) := by decide +kernel
theorem dX10_howManyAt_23 : decode cX10_howManyAt 23 = .ok (.if_icmp .ne 7, 3) := by decide +kernel
theorem dX10_howManyAt_26 : decode cX10_howManyAt 26 = .ok (.iconst 1, 1) := by decide +kernel
theorem dX10_howManyAt_27 : decode cX10_howManyAt 27 = .ok (.goto 4, 3) := by decide +kernel
theorem dX10_howManyAt_30 : decode cX10_howManyAt 30 = .ok (.iconst 0, 1) := by decide +kernel
theorem dX10_howManyAt_31 : decode cX10_howManyAt 31 = .ok (.iadd, 1) := by decide +kernel
theorem dX10_howManyAt_32 : decode cX10_howManyAt 32 = .ok (.istore_n 2, 1) := by decide +kernel
theorem dX10_howManyAt_33 : decode cX10_howManyAt 33 = .ok (.iinc 3 1, 3) := by decide +kernel
theorem dX10_howManyAt_36 : decode cX10_howManyAt 36 = .ok (.goto (-32), 3) := by decide +kernel
theorem dX10_howManyAt_39 : decode cX10_howManyAt 39 = .ok (.iload_n 2, 1) := by decide +kernel
theorem dX10_howManyAt_40 : decode cX10_howManyAt 40 = .ok (.ireturn, 1) := by decide +kernel
theorem dX10_howManySlips_0 : decode cX10_howManySlips 0 = .ok (.iconst 0, 1) := by decide +kernel
theorem dX10_howManySlips_1 : decode cX10_howManySlips 1 = .ok (.istore_n 1, 1) := by decide +kernel
theorem dX10_howManySlips_2 : decode cX10_howManySlips 2 = .ok (.iconst 0, 1) := by decide +kernel
theorem dX10_howManySlips_3 : decode cX10_howManySlips 3 = .ok (.istore_n 2, 1) := by decide +kernel
theorem dX10_howManySlips_4 : decode cX10_howManySlips 4 = .ok (.iload_n 2, 1) := by decide +kernel
theorem dX10_howManySlips_5 : decode cX10_howManySlips 5 = .ok (.aload_n 0, 1) := by decide +kernel
theorem dX10_howManySlips_6 : decode cX10_howManySlips 6 = .ok (.getfield 28, 3) := by decide +kernel
theorem dX10_howManySlips_9 : decode cX10_howManySlips 9 = .ok (.if_icmp .ge 30, 3) := by decide +kernel
theorem dX10_howManySlips_12 : decode cX10_howManySlips 12 = .ok (.iload_n 1, 1) := by decide +kernel
theorem dX10_howManySlips_13 : decode cX10_howManySlips 13 = .ok (.aload_n 0, 1) := by decide +kernel
theorem dX10_howManySlips_14 : decode cX10_howManySlips 14 = .ok (.getfield 13, 3) := by decide +kernel
theorem dX10_howManySlips_17 : decode cX10_howManySlips 17 = .ok (.iload_n 2, 1) := by decide +kernel
theorem dX10_howManySlips_18 : decode cX10_howManySlips 18 = .ok (.aaload, 1) := by decide +kernel
theorem dX10_howManySlips_19 : decode cX10_howManySlips 19 = .ok (.getfield 58, 3) := by decide +kernel
theorem dX10_howManySlips_22 : decode cX10_howManySlips 22 = .ok (.iconst 5, 1) := by decide +kernel
theorem dX10_howManySlips_23 : decode cX10_howManySlips 23 = .ok (.if_icmp .ne 7, 3) := by decide +kernel
theorem dX10_howManySlips_26 : decode cX10_howManySlips 26 = .ok (.iconst 1, 1) := by decide +kernel
theorem dX10_howManySlips_27 : decode cX10_howManySlips 27 = .ok (.goto 4, 3) := by decide +kernel
theorem dX10_howManySlips_30 : decode cX10_howManySlips 30 = .ok (.iconst 0, 1) := by decide +kernel
theorem dX10_howManySlips_31 : decode cX10_howManySlips 31 = .ok (.iadd, 1) := by decide +kernel
theorem dX10_howManySlips_32 : decode cX10_howManySlips 32 = .ok (.istore_n 1, 1) := by decide +kernel
theorem dX10_howManySlips_33 : decode cX10_howManySlips 33 = .ok (.iinc 2 1, 3) := by decide +kernel
theorem dX10_howManySlips_36 : decode cX10_howManySlips 36 = .ok (.goto (-32), 3) := by decide +kernel
theorem dX10_howManySlips_39 : decode cX10_howManySlips 39 = .ok (.iload_n 1, 1) := by decide +kernel
theorem dX10_howManySlips_40 : decode cX10_howManySlips 40 = .ok (.ireturn, 1) := by decide +kernel
theorem dX10_howManyQuarrel_0 : decode cX10_howManyQuarrel 0 = .ok (.iconst 0, 1) := by decide +kernel
theorem dX10_howManyQuarrel_1 : decode cX10_howManyQuarrel 1 = .ok (.istore_n 1, 1) := by decide +kernel
theorem dX10_howManyQuarrel_2 : decode cX10_howManyQuarrel 2 = .ok (.iconst 0, 1) := by decide +kernel
theorem dX10_howManyQuarrel_3 : decode cX10_howManyQuarrel 3 = .ok (.istore_n 2, 1) := by decide +kernel
theorem dX10_howManyQuarrel_4 : decode cX10_howManyQuarrel 4 = .ok (.iload_n 2, 1) := by decide +kernel
theorem dX10_howManyQuarrel_5 : decode cX10_howManyQuarrel 5 = .ok (.aload_n 0, 1) := by decide +kernel
theorem dX10_howManyQuarrel_6 : decode cX10_howManyQuarrel 6 = .ok (.getfield 28, 3) := by decide +kernel
theorem dX10_howManyQuarrel_9 : decode cX10_howManyQuarrel 9 = .ok (.if_icmp .ge 42, 3) := by decide +kernel
theorem dX10_howManyQuarrel_12 : decode cX10_howManyQuarrel 12 = .ok (.iload_n 1, 1) := by decide +kernel
theorem dX10_howManyQuarrel_13 : decode cX10_howManyQuarrel 13 = .ok (.aload_n 0, 1) := by decide +kernel
theorem dX10_howManyQuarrel_14 : decode cX10_howManyQuarrel 14 = .ok (.getfield 13, 3) := by decide +kernel
theorem dX10_howManyQuarrel_17 : decode cX10_howManyQuarrel 17 = .ok (.iload_n 2, 1) := by decide +kernel
theorem dX10_howManyQuarrel_18 : decode cX10_howManyQuarrel 18 = .ok (.aaload, 1) := by decide +kernel
theorem dX10_howManyQuarrel_19 : decode cX10_howManyQuarrel 19 = .ok (.getfield 61, 3) := by decide +kernel
theorem dX10_howManyQuarrel_22 : decode cX10_howManyQuarrel 22 = .ok (.iconst 0, 1) := by decide +kernel
theorem dX10_howManyQuarrel_23 : decode cX10_howManyQuarrel 23 = .ok (.iaload, 1) := by decide +kernel
theorem dX10_howManyQuarrel_24 : decode cX10_howManyQuarrel 24 = .ok (.aload_n 0, 1) := by decide +kernel
theorem dX10_howManyQuarrel_25 : decode cX10_howManyQuarrel 25 = .ok (.getfield 13, 3) := by decide +kernel
theorem dX10_howManyQuarrel_28 : decode cX10_howManyQuarrel 28 = .ok (.iload_n 2, 1) := by decide +kernel
theorem dX10_howManyQuarrel_29 : decode cX10_howManyQuarrel 29 = .ok (.aaload, 1) := by decide +kernel
theorem dX10_howManyQuarrel_30 : decode cX10_howManyQuarrel 30 = .ok (.getfield 61, 3) := by decide +kernel
theorem dX10_howManyQuarrel_33 : decode cX10_howManyQuarrel 33 = .ok (.iconst 1, 1) := by decide +kernel
theorem dX10_howManyQuarrel_34 : decode cX10_howManyQuarrel 34 = .ok (.iaload, 1) := by decide +kernel
theorem dX10_howManyQuarrel_35 : decode cX10_howManyQuarrel 35 = .ok (.if_icmp .eq 7, 3) := by decide +kernel
theorem dX10_howManyQuarrel_38 : decode cX10_howManyQuarrel 38 = .ok (.iconst 1, 1) := by decide +kernel
theorem dX10_howManyQuarrel_39 : decode cX10_howManyQuarrel 39 = .ok (.goto 4, 3) := by decide +kernel
theorem dX10_howManyQuarrel_42 : decode cX10_howManyQuarrel 42 = .ok (.iconst 0, 1) := by decide +kernel
theorem dX10_howManyQuarrel_43 : decode cX10_howManyQuarrel 43 = .ok (.iadd, 1) := by decide +kernel
theorem dX10_howManyQuarrel_44 : decode cX10_howManyQuarrel 44 = .ok (.istore_n 1, 1) := by decide +kernel
theorem dX10_howManyQuarrel_45 : decode cX10_howManyQuarrel 45 = .ok (.iinc 2 1, 3) := by decide +kernel
theorem dX10_howManyQuarrel_48 : decode cX10_howManyQuarrel 48 = .ok (.goto (-44), 3) := by decide +kernel
theorem dX10_howManyQuarrel_51 : decode cX10_howManyQuarrel 51 = .ok (.iload_n 1, 1) := by decide +kernel
theorem dX10_howManyQuarrel_52 : decode cX10_howManyQuarrel 52 = .ok (.ireturn, 1) := by decide +kernel
theorem dX10_doneTogether_0 : decode cX10_doneTogether 0 = .ok (.iconst 0, 1) := by decide +kernel
theorem dX10_doneTogether_1 : decode cX10_doneTogether 1 = .ok (.istore_n 1, 1) := by decide +kernel
theorem dX10_doneTogether_2 : decode cX10_doneTogether 2 = .ok (.iconst 0, 1) := by decide +kernel
theorem dX10_doneTogether_3 : decode cX10_doneTogether 3 = .ok (.istore_n 2, 1) := by decide +kernel
theorem dX10_doneTogether_4 : decode cX10_doneTogether 4 = .ok (.iload_n 2, 1) := by decide +kernel
theorem dX10_doneTogether_5 : decode cX10_doneTogether 5 = .ok (.aload_n 0, 1) := by decide +kernel
theorem dX10_doneTogether_6 : decode cX10_doneTogether 6 = .ok (.getfield 28, 3) := by decide +kernel
theorem dX10_doneTogether_9 : decode cX10_doneTogether 9 = .ok (.if_icmp .ge 21, 3) := by decide +kernel
theorem dX10_doneTogether_12 : decode cX10_doneTogether 12 = .ok (.iload_n 1, 1) := by decide +kernel
theorem dX10_doneTogether_13 : decode cX10_doneTogether 13 = .ok (.aload_n 0, 1) := by decide +kernel
theorem dX10_doneTogether_14 : decode cX10_doneTogether 14 = .ok (.getfield 13, 3) := by decide +kernel
theorem dX10_doneTogether_17 : decode cX10_doneTogether 17 = .ok (.iload_n 2, 1) := by decide +kernel
theorem dX10_doneTogether_18 : decode cX10_doneTogether 18 = .ok (.aaload, 1) := by decide +kernel
theorem dX10_doneTogether_19 : decode cX10_doneTogether 19 = .ok (.getfield 64, 3) := by decide +kernel
theorem dX10_doneTogether_22 : decode cX10_doneTogether 22 = .ok (.iadd, 1) := by decide +kernel
theorem dX10_doneTogether_23 : decode cX10_doneTogether 23 = .ok (.istore_n 1, 1) := by decide +kernel
theorem dX10_doneTogether_24 : decode cX10_doneTogether 24 = .ok (.iinc 2 1, 3) := by decide +kernel
theorem dX10_doneTogether_27 : decode cX10_doneTogether 27 = .ok (.goto (-23), 3) := by decide +kernel
theorem dX10_doneTogether_30 : decode cX10_doneTogether 30 = .ok (.iload_n 1, 1) := by decide +kernel
theorem dX10_doneTogether_31 : decode cX10_doneTogether 31 = .ok (.ireturn, 1) := by decide +kernel
theorem dX10_chainsWith_0 : decode cX10_chainsWith 0 = .ok (.iconst 0, 1) := by decide +kernel
theorem dX10_chainsWith_1 : decode cX10_chainsWith 1 = .ok (.istore_n 3, 1) := by decide +kernel
theorem dX10_chainsWith_2 : decode cX10_chainsWith 2 = .ok (.iconst 0, 1) := by decide +kernel
theorem dX10_chainsWith_3 : decode cX10_chainsWith 3 = .ok (.istore 4, 2) := by decide +kernel
theorem dX10_chainsWith_5 : decode cX10_chainsWith 5 = .ok (.iload 4, 2) := by decide +kernel
theorem dX10_chainsWith_7 : decode cX10_chainsWith 7 = .ok (.aload_n 0, 1) := by decide +kernel
theorem dX10_chainsWith_8 : decode cX10_chainsWith 8 = .ok (.getfield 28, 3) := by decide +kernel
theorem dX10_chainsWith_11 : decode cX10_chainsWith 11 = .ok (.if_icmp .ge 52, 3) := by decide +kernel
theorem dX10_chainsWith_14 : decode cX10_chainsWith 14 = .ok (.aload_n 0, 1) := by decide +kernel
theorem dX10_chainsWith_15 : decode cX10_chainsWith 15 = .ok (.getfield 13, 3) := by decide +kernel
theorem dX10_chainsWith_18 : decode cX10_chainsWith 18 = .ok (.iload 4, 2) := by decide +kernel
theorem dX10_chainsWith_20 : decode cX10_chainsWith 20 = .ok (.aaload, 1) := by decide +kernel
theorem dX10_chainsWith_21 : decode cX10_chainsWith 21 = .ok (.getfield 58, 3) := by decide +kernel
theorem dX10_chainsWith_24 : decode cX10_chainsWith 24 = .ok (.iload_n 1, 1) := by decide +kernel
theorem dX10_chainsWith_25 : decode cX10_chainsWith 25 = .ok (.if_icmp .ne 32, 3) := by decide +kernel
theorem dX10_chainsWith_28 : decode cX10_chainsWith 28 = .ok (.aload_n 0, 1) := by decide +kernel
theorem dX10_chainsWith_29 : decode cX10_chainsWith 29 = .ok (.getfield 13, 3) := by decide +kernel
theorem dX10_chainsWith_32 : decode cX10_chainsWith 32 = .ok (.iload 4, 2) := by decide +kernel
theorem dX10_chainsWith_34 : decode cX10_chainsWith 34 = .ok (.aaload, 1) := by decide +kernel
theorem dX10_chainsWith_35 : decode cX10_chainsWith 35 = .ok (.getfield 64, 3) := by decide +kernel
theorem dX10_chainsWith_38 : decode cX10_chainsWith 38 = .ok (.iload_n 2, 1) := by decide +kernel
theorem dX10_chainsWith_39 : decode cX10_chainsWith 39 = .ok (.if_icmp .lt 18, 3) := by decide +kernel
theorem dX10_chainsWith_42 : decode cX10_chainsWith 42 = .ok (.iload_n 3, 1) := by decide +kernel
theorem dX10_chainsWith_43 : decode cX10_chainsWith 43 = .ok (.iconst 1, 1) := by decide +kernel
theorem dX10_chainsWith_44 : decode cX10_chainsWith 44 = .ok (.aload_n 0, 1) := by decide +kernel
theorem dX10_chainsWith_45 : decode cX10_chainsWith 45 = .ok (.getfield 13, 3) := by decide +kernel
theorem dX10_chainsWith_48 : decode cX10_chainsWith 48 = .ok (.iload 4, 2) := by decide +kernel
theorem dX10_chainsWith_50 : decode cX10_chainsWith 50 = .ok (.aaload, 1) := by decide +kernel
theorem dX10_chainsWith_51 : decode cX10_chainsWith 51 = .ok (.getfield 55, 3) := by decide +kernel
theorem dX10_chainsWith_54 : decode cX10_chainsWith 54 = .ok (.ishl, 1) := by decide +kernel
theorem dX10_chainsWith_55 : decode cX10_chainsWith 55 = .ok (.ior, 1) := by decide +kernel
theorem dX10_chainsWith_56 : decode cX10_chainsWith 56 = .ok (.istore_n 3, 1) := by decide +kernel
theorem dX10_chainsWith_57 : decode cX10_chainsWith 57 = .ok (.iinc 4 1, 3) := by decide +kernel
theorem dX10_chainsWith_60 : decode cX10_chainsWith 60 = .ok (.goto (-55), 3) := by decide +kernel
theorem dX10_chainsWith_63 : decode cX10_chainsWith 63 = .ok (.iload_n 3, 1) := by decide +kernel
theorem dX10_chainsWith_64 : decode cX10_chainsWith 64 = .ok (.ireturn, 1) := by decide +kernel
theorem dX10_throughBits_0 : decode cX10_throughBits 0 = .ok (.iconst 0, 1) := by decide +kernel
theorem dX10_throughBits_1 : decode cX10_throughBits 1 = .ok (.istore_n 1, 1) := by decide +kernel
theorem dX10_throughBits_2 : decode cX10_throughBits 2 = .ok (.iconst 0, 1) := by decide +kernel
theorem dX10_throughBits_3 : decode cX10_throughBits 3 = .ok (.istore_n 2, 1) := by decide +kernel
theorem dX10_throughBits_4 : decode cX10_throughBits 4 = .ok (.iload_n 2, 1) := by decide +kernel
theorem dX10_throughBits_5 : decode cX10_throughBits 5 = .ok (.aload_n 0, 1) := by decide +kernel
theorem dX10_throughBits_6 : decode cX10_throughBits 6 = .ok (.getfield 28, 3) := by decide +kernel
theorem dX10_throughBits_9 : decode cX10_throughBits 9 = .ok (.if_icmp .ge 27, 3) := by decide +kernel
theorem dX10_throughBits_12 : decode cX10_throughBits 12 = .ok (.aload_n 0, 1) := by decide +kernel
theorem dX10_throughBits_13 : decode cX10_throughBits 13 = .ok (.getfield 13, 3) := by decide +kernel
theorem dX10_throughBits_16 : decode cX10_throughBits 16 = .ok (.iload_n 2, 1) := by decide +kernel
theorem dX10_throughBits_17 : decode cX10_throughBits 17 = .ok (.aaload, 1) := by decide +kernel
theorem dX10_throughBits_18 : decode cX10_throughBits 18 = .ok (.invokevirtual 67, 3) := by decide +kernel
theorem dX10_throughBits_21 : decode cX10_throughBits 21 = .ok (.ifCond .eq 9, 3) := by decide +kernel
theorem dX10_throughBits_24 : decode cX10_throughBits 24 = .ok (.iload_n 1, 1) := by decide +kernel
theorem dX10_throughBits_25 : decode cX10_throughBits 25 = .ok (.iconst 1, 1) := by decide +kernel
theorem dX10_throughBits_26 : decode cX10_throughBits 26 = .ok (.iload_n 2, 1) := by decide +kernel
theorem dX10_throughBits_27 : decode cX10_throughBits 27 = .ok (.ishl, 1) := by decide +kernel
theorem dX10_throughBits_28 : decode cX10_throughBits 28 = .ok (.ior, 1) := by decide +kernel
theorem dX10_throughBits_29 : decode cX10_throughBits 29 = .ok (.istore_n 1, 1) := by decide +kernel
theorem dX10_throughBits_30 : decode cX10_throughBits 30 = .ok (.iinc 2 1, 3) := by decide +kernel
theorem dX10_throughBits_33 : decode cX10_throughBits 33 = .ok (.goto (-29), 3) := by decide +kernel
theorem dX10_throughBits_36 : decode cX10_throughBits 36 = .ok (.iload_n 1, 1) := by decide +kernel
theorem dX10_throughBits_37 : decode cX10_throughBits 37 = .ok (.ireturn, 1) := by decide +kernel
theorem dX10_labour_0 : decode cX10_labour 0 = .ok (.iconst 0, 1) := by decide +kernel
theorem dX10_labour_1 : decode cX10_labour 1 = .ok (.istore_n 3, 1) := by decide +kernel
theorem dX10_labour_2 : decode cX10_labour 2 = .ok (.iload_n 3, 1) := by decide +kernel
