theorem dX0_init_0 : decode cX0_init 0 = .ok (.aload_n 0, 1) := by decide +kernel
theorem dX0_init_1 : decode cX0_init 1 = .ok (.invokespecial 3, 3) := by decide +kernel
theorem dX0_init_4 : decode cX0_init 4 = .ok (.aload_n 0, 1) := by decide +kernel
theorem dX0_init_5 : decode cX0_init 5 = .ok (.bipush 20, 2) := by decide +kernel
theorem dX0_init_7 : decode cX0_init 7 = .ok (.newarray .int, 2) := by decide +kernel
theorem dX0_init_9 : decode cX0_init 9 = .ok (.putfield 11, 3) := by decide +kernel
theorem dX0_init_12 : decode cX0_init 12 = .ok (.aload_n 0, 1) := by decide +kernel
theorem dX0_init_13 : decode cX0_init 13 = .ok (.bipush 20, 2) := by decide +kernel
theorem dX0_init_15 : decode cX0_init 15 = .ok (.newarray .int, 2) := by decide +kernel
theorem dX0_init_17 : decode cX0_init 17 = .ok (.putfield 15, 3) := by decide +kernel
theorem dX0_init_20 : decode cX0_init 20 = .ok (.aload_n 0, 1) := by decide +kernel
theorem dX0_init_21 : decode cX0_init 21 = .ok (.bipush 20, 2) := by decide +kernel
theorem dX0_init_23 : decode cX0_init 23 = .ok (.newarray .int, 2) := by decide +kernel
theorem dX0_init_25 : decode cX0_init 25 = .ok (.putfield 18, 3) := by decide +kernel
theorem dX0_init_28 : decode cX0_init 28 = .ok (.aload_n 0, 1) := by decide +kernel
theorem dX0_init_29 : decode cX0_init 29 = .ok (.bipush 40, 2) := by decide +kernel
theorem dX0_init_31 : decode cX0_init 31 = .ok (.newarray .int, 2) := by decide +kernel
theorem dX0_init_33 : decode cX0_init 33 = .ok (.putfield 21, 3) := by decide +kernel
theorem dX0_init_36 : decode cX0_init 36 = .ok (.aload_n 0, 1) := by decide +kernel
theorem dX0_init_37 : decode cX0_init 37 = .ok (.bipush 63, 2) := by decide +kernel
theorem dX0_init_39 : decode cX0_init 39 = .ok (.newarray .int, 2) := by decide +kernel
theorem dX0_init_41 : decode cX0_init 41 = .ok (.putfield 24, 3) := by decide +kernel
theorem dX0_init_44 : decode cX0_init 44 = .ok (.return_, 1) := by decide +kernel
theorem dX0_takeFrom_0 : decode cX0_takeFrom 0 = .ok (.aload_n 0, 1) := by decide +kernel
theorem dX0_takeFrom_1 : decode cX0_takeFrom 1 = .ok (.aload_n 1, 1) := by decide +kernel
theorem dX0_takeFrom_2 : decode cX0_takeFrom 2 = .ok (.getfield 27, 3) := by decide +kernel
theorem dX0_takeFrom_5 : decode cX0_takeFrom 5 = .ok (.putfield 27, 3) := by decide +kernel
theorem dX0_takeFrom_8 : decode cX0_takeFrom 8 = .ok (.aload_n 1, 1) := by decide +kernel
theorem dX0_takeFrom_9 : decode cX0_takeFrom 9 = .ok (.getfield 11, 3) := by decide +kernel
theorem dX0_takeFrom_12 : decode cX0_takeFrom 12 = .ok (.iconst 0, 1) := by decide +kernel
theorem dX0_takeFrom_13 : decode cX0_takeFrom 13 = .ok (.aload_n 0, 1) := by decide +kernel
theorem dX0_takeFrom_14 : decode cX0_takeFrom 14 = .ok (.getfield 11, 3) := by decide +kernel
theorem dX0_takeFrom_17 : decode cX0_takeFrom 17 = .ok (.iconst 0, 1) := by decide +kernel
theorem dX0_takeFrom_18 : decode cX0_takeFrom 18 = .ok (.bipush 20, 2) := by decide +kernel
theorem dX0_takeFrom_20 : decode cX0_takeFrom 20 = .ok (.invokestatic 31, 3) := by decide +kernel
theorem dX0_takeFrom_23 : decode cX0_takeFrom 23 = .ok (.aload_n 1, 1) := by decide +kernel
theorem dX0_takeFrom_24 : decode cX0_takeFrom 24 = .ok (.getfield 15, 3) := by decide +kernel
theorem dX0_takeFrom_27 : decode cX0_takeFrom 27 = .ok (.iconst 0, 1) := by decide +kernel
theorem dX0_takeFrom_28 : decode cX0_takeFrom 28 = .ok (.aload_n 0, 1) := by decide +kernel
theorem dX0_takeFrom_29 : decode cX0_takeFrom 29 = .ok (.getfield 15, 3) := by decide +kernel
theorem dX0_takeFrom_32 : decode cX0_takeFrom 32 = .ok (.iconst 0, 1) := by decide +kernel
theorem dX0_takeFrom_33 : decode cX0_takeFrom 33 = .ok (.bipush 20, 2) := by decide +kernel
theorem dX0_takeFrom_35 : decode cX0_takeFrom 35 = .ok (.invokestatic 31, 3) := by decide +kernel
theorem dX0_takeFrom_38 : decode cX0_takeFrom 38 = .ok (.aload_n 1, 1) := by decide +kernel
theorem dX0_takeFrom_39 : decode cX0_takeFrom 39 = .ok (.getfield 18, 3) := by decide +kernel
theorem dX0_takeFrom_42 : decode cX0_takeFrom 42 = .ok (.iconst 0, 1) := by decide +kernel
theorem dX0_takeFrom_43 : decode cX0_takeFrom 43 = .ok (.aload_n 0, 1) := by decide +kernel
theorem dX0_takeFrom_44 : decode cX0_takeFrom 44 = .ok (.getfield 18, 3) := by decide +kernel
theorem dX0_takeFrom_47 : decode cX0_takeFrom 47 = .ok (.iconst 0, 1) := by decide +kernel
theorem dX0_takeFrom_48 : decode cX0_takeFrom 48 = .ok (.bipush 20, 2) := by decide +kernel
theorem dX0_takeFrom_50 : decode cX0_takeFrom 50 = .ok (.invokestatic 31, 3) := by decide +kernel
theorem dX0_takeFrom_53 : decode cX0_takeFrom 53 = .ok (.return_, 1) := by decide +kernel
theorem dX0_addClaim_0 : decode cX0_addClaim 0 = .ok (.aload_n 0, 1) := by decide +kernel
theorem dX0_addClaim_1 : decode cX0_addClaim 1 = .ok (.getfield 27, 3) := by decide +kernel
theorem dX0_addClaim_4 : decode cX0_addClaim 4 = .ok (.bipush 20, 2) := by decide +kernel
theorem dX0_addClaim_6 : decode cX0_addClaim 6 = .ok (.if_icmp .lt 6, 3) := by decide +kernel
theorem dX0_addClaim_9 : decode cX0_addClaim 9 = .ok (.ldc 37, 2) := by decide +kernel
theorem dX0_addClaim_11 : decode cX0_addClaim 11 = .ok (.ireturn, 1) := by decide +kernel
theorem dX0_addClaim_12 : decode cX0_addClaim 12 = .ok (.aload_n 0, 1) := by decide +kernel
theorem dX0_addClaim_13 : decode cX0_addClaim 13 = .ok (.getfield 11, 3) := by decide +kernel
theorem dX0_addClaim_16 : decode cX0_addClaim 16 = .ok (.aload_n 0, 1) := by decide +kernel
theorem dX0_addClaim_17 : decode cX0_addClaim 17 = .ok (.getfield 27, 3) := by decide +kernel
theorem dX0_addClaim_20 : decode cX0_addClaim 20 = .ok (.iload_n 1, 1) := by decide +kernel
theorem dX0_addClaim_21 : decode cX0_addClaim 21 = .ok (.iastore, 1) := by decide +kernel
theorem dX0_addClaim_22 : decode cX0_addClaim 22 = .ok (.aload_n 0, 1) := by decide +kernel
theorem dX0_addClaim_23 : decode cX0_addClaim 23 = .ok (.getfield 15, 3) := by decide +kernel
theorem dX0_addClaim_26 : decode cX0_addClaim 26 = .ok (.aload_n 0, 1) := by decide +kernel
theorem dX0_addClaim_27 : decode cX0_addClaim 27 = .ok (.getfield 27, 3) := by decide +kernel
theorem dX0_addClaim_30 : decode cX0_addClaim 30 = .ok (.iload_n 2, 1) := by decide +kernel
theorem dX0_addClaim_31 : decode cX0_addClaim 31 = .ok (.iastore, 1) := by decide +kernel
theorem dX0_addClaim_32 : decode cX0_addClaim 32 = .ok (.aload_n 0, 1) := by decide +kernel
theorem dX0_addClaim_33 : decode cX0_addClaim 33 = .ok (.getfield 18, 3) := by decide +kernel
theorem dX0_addClaim_36 : decode cX0_addClaim 36 = .ok (.aload_n 0, 1) := by decide +kernel
theorem dX0_addClaim_37 : decode cX0_addClaim 37 = .ok (.getfield 27, 3) := by decide +kernel
theorem dX0_addClaim_40 : decode cX0_addClaim 40 = .ok (.iload_n 3, 1) := by decide +kernel
theorem dX0_addClaim_41 : decode cX0_addClaim 41 = .ok (.iastore, 1) := by decide +kernel
theorem dX0_addClaim_42 : decode cX0_addClaim 42 = .ok (.aload_n 0, 1) := by decide +kernel
theorem dX0_addClaim_43 : decode cX0_addClaim 43 = .ok (.dup, 1) := by decide +kernel
theorem dX0_addClaim_44 : decode cX0_addClaim 44 = .ok (.getfield 27, 3) := by decide +kernel
theorem dX0_addClaim_47 : decode cX0_addClaim 47 = .ok (.iconst 1, 1) := by decide +kernel
theorem dX0_addClaim_48 : decode cX0_addClaim 48 = .ok (.iadd, 1) := by decide +kernel
theorem dX0_addClaim_49 : decode cX0_addClaim 49 = .ok (.putfield 27, 3) := by decide +kernel
theorem dX0_addClaim_52 : decode cX0_addClaim 52 = .ok (.aload_n 0, 1) := by decide +kernel
theorem dX0_addClaim_53 : decode cX0_addClaim 53 = .ok (.getfield 27, 3) := by decide +kernel
theorem dX0_addClaim_56 : decode cX0_addClaim 56 = .ok (.iconst 1, 1) := by decide +kernel
theorem dX0_addClaim_57 : decode cX0_addClaim 57 = .ok (.isub, 1) := by decide +kernel
theorem dX0_addClaim_58 : decode cX0_addClaim 58 = .ok (.ireturn, 1) := by decide +kernel
theorem dX0_daysGiven_0 : decode cX0_daysGiven 0 = .ok (.aload_n 0, 1) := by decide +kernel
theorem dX0_daysGiven_1 : decode cX0_daysGiven 1 = .ok (.getfield 24, 3) := by decide +kernel
theorem dX0_daysGiven_4 : decode cX0_daysGiven 4 = .ok (.iconst 0, 1) := by decide +kernel
theorem dX0_daysGiven_5 : decode cX0_daysGiven 5 = .ok (.invokestatic 38, 3) := by decide +kernel
theorem dX0_daysGiven_8 : decode cX0_daysGiven 8 = .ok (.iconst 0, 1) := by decide +kernel
theorem dX0_daysGiven_9 : decode cX0_daysGiven 9 = .ok (.istore 4, 2) := by decide +kernel
theorem dX0_daysGiven_11 : decode cX0_daysGiven 11 = .ok (.iconst 0, 1) := by decide +kernel
theorem dX0_daysGiven_12 : decode cX0_daysGiven 12 = .ok (.istore 5, 2) := by decide +kernel
theorem dX0_daysGiven_14 : decode cX0_daysGiven 14 = .ok (.iload 5, 2) := by decide +kernel
theorem dX0_daysGiven_16 : decode cX0_daysGiven 16 = .ok (.iload_n 2, 1) := by decide +kernel
theorem dX0_daysGiven_17 : decode cX0_daysGiven 17 = .ok (.if_icmp .gt 44, 3) := by decide +kernel
theorem dX0_daysGiven_20 : decode cX0_daysGiven 20 = .ok (.iload 5, 2) := by decide +kernel
theorem dX0_daysGiven_22 : decode cX0_daysGiven 22 = .ok (.aload_n 0, 1) := by decide +kernel
theorem dX0_daysGiven_23 : decode cX0_daysGiven 23 = .ok (.getfield 27, 3) := by decide +kernel
theorem dX0_daysGiven_26 : decode cX0_daysGiven 26 = .ok (.if_icmp .ge 35, 3) := by decide +kernel
theorem dX0_daysGiven_29 : decode cX0_daysGiven 29 = .ok (.aload_n 0, 1) := by decide +kernel
theorem dX0_daysGiven_30 : decode cX0_daysGiven 30 = .ok (.iload 5, 2) := by decide +kernel
theorem dX0_daysGiven_32 : decode cX0_daysGiven 32 = .ok (.aload_n 3, 1) := by decide +kernel
theorem dX0_daysGiven_33 : decode cX0_daysGiven 33 = .ok (.invokevirtual 44, 3) := by decide +kernel
theorem dX0_daysGiven_36 : decode cX0_daysGiven 36 = .ok (.istore 6, 2) := by decide +kernel
theorem dX0_daysGiven_38 : decode cX0_daysGiven 38 = .ok (.iload 4, 2) := by decide +kernel
theorem dX0_daysGiven_40 : decode cX0_daysGiven 40 = .ok (.iload 5, 2) := by decide +kernel
theorem dX0_daysGiven_42 : decode cX0_daysGiven 42 = .ok (.iload_n 1, 1) := by decide +kernel
theorem dX0_daysGiven_43 : decode cX0_daysGiven 43 = .ok (.if_icmp .lt 8, 3) := by decide +kernel
theorem dX0_daysGiven_46 : decode cX0_daysGiven 46 = .ok (.iload 6, 2) := by decide +kernel
theorem dX0_daysGiven_48 : decode cX0_daysGiven 48 = .ok (.goto 4, 3) := by decide +kernel
theorem dX0_daysGiven_51 : decode cX0_daysGiven 51 = .ok (.iconst 0, 1) := by decide +kernel
theorem dX0_daysGiven_52 : decode cX0_daysGiven 52 = .ok (.iadd, 1) := by decide +kernel
theorem dX0_daysGiven_53 : decode cX0_daysGiven 53 = .ok (.istore 4, 2) := by decide +kernel
theorem dX0_daysGiven_55 : decode cX0_daysGiven 55 = .ok (.iinc 5 1, 3) := by decide +kernel
theorem dX0_daysGiven_58 : decode cX0_daysGiven 58 = .ok (.goto (-44), 3) := by decide +kernel
theorem dX0_daysGiven_61 : decode cX0_daysGiven 61 = .ok (.iload 4, 2) := by decide +kernel
theorem dX0_daysGiven_63 : decode cX0_daysGiven 63 = .ok (.ireturn, 1) := by decide +kernel
theorem dX0_takeDays_0 : decode cX0_takeDays 0 = .ok (.iconst 0, 1) := by decide +kernel
theorem dX0_takeDays_1 : decode cX0_takeDays 1 = .ok (.istore_n 3, 1) := by decide +kernel
theorem dX0_takeDays_2 : decode cX0_takeDays 2 = .ok (.aload_n 0, 1) := by decide +kernel
theorem dX0_takeDays_3 : decode cX0_takeDays 3 = .ok (.getfield 11, 3) := by decide +kernel
theorem dX0_takeDays_6 : decode cX0_takeDays 6 = .ok (.iload_n 1, 1) := by decide +kernel
theorem dX0_takeDays_7 : decode cX0_takeDays 7 = .ok (.iaload, 1) := by decide +kernel
theorem dX0_takeDays_8 : decode cX0_takeDays 8 = .ok (.istore 4, 2) := by decide +kernel
theorem dX0_takeDays_10 : decode cX0_takeDays 10 = .ok (.iload 4, 2) := by decide +kernel
theorem dX0_takeDays_12 : decode cX0_takeDays 12 = .ok (.aload_n 0, 1) := by decide +kernel
theorem dX0_takeDays_13 : decode cX0_takeDays 13 = .ok (.getfield 15, 3) := by decide +kernel
theorem dX0_takeDays_16 : decode cX0_takeDays 16 = .ok (.iload_n 1, 1) := by decide +kernel
theorem dX0_takeDays_17 : decode cX0_takeDays 17 = .ok (.iaload, 1) := by decide +kernel
theorem dX0_takeDays_18 : decode cX0_takeDays 18 = .ok (.if_icmp .gt 89, 3) := by decide +kernel
theorem dX0_takeDays_21 : decode cX0_takeDays 21 = .ok (.iload 4, 2) := by decide +kernel
theorem dX0_takeDays_23 : decode cX0_takeDays 23 = .ok (.aload_n 2, 1) := by decide +kernel
theorem dX0_takeDays_24 : decode cX0_takeDays 24 = .ok (.arraylength, 1) := by decide +kernel
theorem dX0_takeDays_25 : decode cX0_takeDays 25 = .ok (.if_icmp .ge 82, 3) := by decide +kernel
theorem dX0_takeDays_28 : decode cX0_takeDays 28 = .ok (.iload 4, 2) := by decide +kernel
theorem dX0_takeDays_30 : decode cX0_takeDays 30 = .ok (.bipush 32, 2) := by decide +kernel
theorem dX0_takeDays_32 : decode cX0_takeDays 32 = .ok (.idiv, 1) := by decide +kernel
theorem dX0_takeDays_33 : decode cX0_takeDays 33 = .ok (.istore 5, 2) := by decide +kernel
theorem dX0_takeDays_35 : decode cX0_takeDays 35 = .ok (.iload 4, 2) := by decide +kernel
theorem dX0_takeDays_37 : decode cX0_takeDays 37 = .ok (.bipush 32, 2) := by decide +kernel
theorem dX0_takeDays_39 : decode cX0_takeDays 39 = .ok (.irem, 1) := by decide +kernel
theorem dX0_takeDays_40 : decode cX0_takeDays 40 = .ok (.istore 6, 2) := by decide +kernel
theorem dX0_takeDays_42 : decode cX0_takeDays 42 = .ok (.iload 5, 2) := by decide +kernel
theorem dX0_takeDays_44 : decode cX0_takeDays 44 = .ok (.aload_n 0, 1) := by decide +kernel
theorem dX0_takeDays_45 : decode cX0_takeDays 45 = .ok (.getfield 24, 3) := by decide +kernel
theorem dX0_takeDays_48 : decode cX0_takeDays 48 = .ok (.arraylength, 1) := by decide +kernel
theorem dX0_takeDays_49 : decode cX0_takeDays 49 = .ok (.if_icmp .ge 52, 3) := by decide +kernel
theorem dX0_takeDays_52 : decode cX0_takeDays 52 = .ok (.aload_n 0, 1) := by decide +kernel
theorem dX0_takeDays_53 : decode cX0_takeDays 53 = .ok (.getfield 24, 3) := by decide +kernel
theorem dX0_takeDays_56 : decode cX0_takeDays 56 = .ok (.iload 5, 2) := by decide +kernel
theorem dX0_takeDays_58 : decode cX0_takeDays 58 = .ok (.iaload, 1) := by decide +kernel
theorem dX0_takeDays_59 : decode cX0_takeDays 59 = .ok (.iload 6, 2) := by decide +kernel
theorem dX0_takeDays_61 : decode cX0_takeDays 61 = .ok (.invokestatic 48, 3) := by decide +kernel
theorem dX0_takeDays_64 : decode cX0_takeDays 64 = .ok (.ifCond .ne 37, 3) := by decide +kernel
theorem dX0_takeDays_67 : decode cX0_takeDays 67 = .ok (.aload_n 0, 1) := by decide +kernel
theorem dX0_takeDays_68 : decode cX0_takeDays 68 = .ok (.aload_n 0, 1) := by decide +kernel
theorem dX0_takeDays_69 : decode cX0_takeDays 69 = .ok (.getfield 18, 3) := by decide +kernel
theorem dX0_takeDays_72 : decode cX0_takeDays 72 = .ok (.iload_n 1, 1) := by decide +kernel
theorem dX0_takeDays_73 : decode cX0_takeDays 73 = .ok (.iaload, 1) := by decide +kernel
theorem dX0_takeDays_74 : decode cX0_takeDays 74 = .ok (.aload_n 2, 1) := by decide +kernel
theorem dX0_takeDays_75 : decode cX0_takeDays 75 = .ok (.iload 4, 2) := by decide +kernel
theorem dX0_takeDays_77 : decode cX0_takeDays 77 = .ok (.iaload, 1) := by decide +kernel
theorem dX0_takeDays_78 : decode cX0_takeDays 78 = .ok (.invokevirtual 52, 3) := by decide +kernel
theorem dX0_takeDays_81 : decode cX0_takeDays 81 = .ok (.ifCond .eq 20, 3) := by decide +kernel
theorem dX0_takeDays_84 : decode cX0_takeDays 84 = .ok (.aload_n 0, 1) := by decide +kernel
theorem dX0_takeDays_85 : decode cX0_takeDays 85 = .ok (.getfield 24, 3) := by decide +kernel
theorem dX0_takeDays_88 : decode cX0_takeDays 88 = .ok (.iload 5, 2) := by decide +kernel
theorem dX0_takeDays_90 : decode cX0_takeDays 90 = .ok (.dup2, 1) := by decide +kernel
theorem dX0_takeDays_91 : decode cX0_takeDays 91 = .ok (.iaload, 1) := by decide +kernel
theorem dX0_takeDays_92 : decode cX0_takeDays 92 = .ok (.iconst 1, 1) := by decide +kernel
theorem dX0_takeDays_93 : decode cX0_takeDays 93 = .ok (.iload 6, 2) := by decide +kernel
theorem dX0_takeDays_95 : decode cX0_takeDays 95 = .ok (.ishl, 1) := by decide +kernel
theorem dX0_takeDays_96 : decode cX0_takeDays 96 = .ok (.ior, 1) := by decide +kernel
theorem dX0_takeDays_97 : decode cX0_takeDays 97 = .ok (.iastore, 1) := by decide +kernel
theorem dX0_takeDays_98 : decode cX0_takeDays 98 = .ok (.iinc 3 1, 3) := by decide +kernel
theorem dX0_takeDays_101 : decode cX0_takeDays 101 = .ok (.iinc 4 1, 3) := by decide +kernel
theorem dX0_takeDays_104 : decode cX0_takeDays 104 = .ok (.goto (-94), 3) := by decide +kernel
theorem dX0_takeDays_107 : decode cX0_takeDays 107 = .ok (.iload_n 3, 1) := by decide +kernel
theorem dX0_takeDays_108 : decode cX0_takeDays 108 = .ok (.ireturn, 1) := by decide +kernel
theorem dX0_isGranted_0 : decode cX0_isGranted 0 = .ok (.iload_n 1, 1) := by decide +kernel
theorem dX0_isGranted_1 : decode cX0_isGranted 1 = .ok (.bipush 10, 2) := by decide +kernel
theorem dX0_isGranted_3 : decode cX0_isGranted 3 = .ok (.imul, 1) := by decide +kernel
theorem dX0_isGranted_4 : decode cX0_isGranted 4 = .ok (.iload_n 2, 1) := by decide +kernel
theorem dX0_isGranted_5 : decode cX0_isGranted 5 = .ok (.iadd, 1) := by decide +kernel
theorem dX0_isGranted_6 : decode cX0_isGranted 6 = .ok (.istore_n 3, 1) := by decide +kernel
theorem dX0_isGranted_7 : decode cX0_isGranted 7 = .ok (.iload_n 3, 1) := by decide +kernel
theorem dX0_isGranted_8 : decode cX0_isGranted 8 = .ok (.iconst 0, 1) := by decide +kernel
theorem dX0_isGranted_9 : decode cX0_isGranted 9 = .ok (.aload_n 0, 1) := by decide +kernel
theorem dX0_isGranted_10 : decode cX0_isGranted 10 = .ok (.getfield 21, 3) := by decide +kernel
theorem dX0_isGranted_13 : decode cX0_isGranted 13 = .ok (.arraylength, 1) := by decide +kernel
theorem dX0_isGranted_14 : decode cX0_isGranted 14 = .ok (.iconst 1, 1) := by decide +kernel
theorem dX0_isGranted_15 : decode cX0_isGranted 15 = .ok (.isub, 1) := by decide +kernel
theorem dX0_isGranted_16 : decode cX0_isGranted 16 = .ok (.invokestatic 55, 3) := by decide +kernel
theorem dX0_isGranted_19 : decode cX0_isGranted 19 = .ok (.ifCond .eq 16, 3) := by decide +kernel
theorem dX0_isGranted_22 : decode cX0_isGranted 22 = .ok (.aload_n 0, 1) := by decide +kernel
theorem dX0_isGranted_23 : decode cX0_isGranted 23 = .ok (.getfield 21, 3) := by decide +kernel
theorem dX0_isGranted_26 : decode cX0_isGranted 26 = .ok (.iload_n 3, 1) := by decide +kernel
theorem dX0_isGranted_27 : decode cX0_isGranted 27 = .ok (.iaload, 1) := by decide +kernel
theorem dX0_isGranted_28 : decode cX0_isGranted 28 = .ok (.ifCond .eq 7, 3) := by decide +kernel
theorem dX0_isGranted_31 : decode cX0_isGranted 31 = .ok (.iconst 1, 1) := by decide +kernel
theorem dX0_isGranted_32 : decode cX0_isGranted 32 = .ok (.goto 4, 3) := by decide +kernel
theorem dX0_isGranted_35 : decode cX0_isGranted 35 = .ok (.iconst 0, 1) := by decide +kernel
theorem dX0_isGranted_36 : decode cX0_isGranted 36 = .ok (.ireturn, 1) := by decide +kernel
theorem dX1_init_0 : decode cX1_init 0 = .ok (.aload_n 0, 1) := by decide +kernel
theorem dX1_init_1 : decode cX1_init 1 = .ok (.invokespecial 3, 3) := by decide +kernel
theorem dX1_init_4 : decode cX1_init 4 = .ok (.aload_n 0, 1) := by decide +kernel
theorem dX1_init_5 : decode cX1_init 5 = .ok (.bipush 24, 2) := by decide +kernel
theorem dX1_init_7 : decode cX1_init 7 = .ok (.newarray .int, 2) := by decide +kernel
theorem dX1_init_9 : decode cX1_init 9 = .ok (.putfield 9, 3) := by decide +kernel
theorem dX1_init_12 : decode cX1_init 12 = .ok (.aload_n 0, 1) := by decide +kernel
theorem dX1_init_13 : decode cX1_init 13 = .ok (.bipush 24, 2) := by decide +kernel
theorem dX1_init_15 : decode cX1_init 15 = .ok (.newarray .int, 2) := by decide +kernel
theorem dX1_init_17 : decode cX1_init 17 = .ok (.putfield 13, 3) := by decide +kernel
theorem dX1_init_20 : decode cX1_init 20 = .ok (.aload_n 0, 1) := by decide +kernel
theorem dX1_init_21 : decode cX1_init 21 = .ok (.bipush 24, 2) := by decide +kernel
theorem dX1_init_23 : decode cX1_init 23 = .ok (.newarray .int, 2) := by decide +kernel
theorem dX1_init_25 : decode cX1_init 25 = .ok (.putfield 16, 3) := by decide +kernel
theorem dX1_init_28 : decode cX1_init 28 = .ok (.aload_n 0, 1) := by decide +kernel
theorem dX1_init_29 : decode cX1_init 29 = .ok (.bipush 6, 2) := by decide +kernel
theorem dX1_init_31 : decode cX1_init 31 = .ok (.newarray .int, 2) := by decide +kernel
theorem dX1_init_33 : decode cX1_init 33 = .ok (.dup, 1) := by decide +kernel
theorem dX1_init_34 : decode cX1_init 34 = .ok (.iconst 0, 1) := by decide +kernel
theorem dX1_init_35 : decode cX1_init 35 = .ok (.iconst 2, 1) := by decide +kernel
theorem dX1_init_36 : decode cX1_init 36 = .ok (.iastore, 1) := by decide +kernel
theorem dX1_init_37 : decode cX1_init 37 = .ok (.dup, 1) := by decide +kernel
theorem dX1_init_38 : decode cX1_init 38 = .ok (.iconst 1, 1) := by decide +kernel
theorem dX1_init_39 : decode cX1_init 39 = .ok (.iconst 2, 1) := by decide +kernel
theorem dX1_init_40 : decode cX1_init 40 = .ok (.iastore, 1) := by decide +kernel
theorem dX1_init_41 : decode cX1_init 41 = .ok (.dup, 1) := by decide +kernel
theorem dX1_init_42 : decode cX1_init 42 = .ok (.iconst 2, 1) := by decide +kernel
theorem dX1_init_43 : decode cX1_init 43 = .ok (.iconst 3, 1) := by decide +kernel
theorem dX1_init_44 : decode cX1_init 44 = .ok (.iastore, 1) := by decide +kernel
theorem dX1_init_45 : decode cX1_init 45 = .ok (.dup, 1) := by decide +kernel
theorem dX1_init_46 : decode cX1_init 46 = .ok (.iconst 3, 1) := by decide +kernel
theorem dX1_init_47 : decode cX1_init 47 = .ok (.bipush 9, 2) := by decide +kernel
theorem dX1_init_49 : decode cX1_init 49 = .ok (.iastore, 1) := by decide +kernel
theorem dX1_init_50 : decode cX1_init 50 = .ok (.dup, 1) := by decide +kernel
theorem dX1_init_51 : decode cX1_init 51 = .ok (.iconst 4, 1) := by decide +kernel
theorem dX1_init_52 : decode cX1_init 52 = .ok (.iconst 5, 1) := by decide +kernel
theorem dX1_init_53 : decode cX1_init 53 = .ok (.iastore, 1) := by decide +kernel
theorem dX1_init_54 : decode cX1_init 54 = .ok (.dup, 1) := by decide +kernel
theorem dX1_init_55 : decode cX1_init 55 = .ok (.iconst 5, 1) := by decide +kernel
theorem dX1_init_56 : decode cX1_init 56 = .ok (.sipush 999, 3) := by decide +kernel
theorem dX1_init_59 : decode cX1_init 59 = .ok (.iastore, 1) := by decide +kernel
theorem dX1_init_60 : decode cX1_init 60 = .ok (.putfield 19, 3) := by decide +kernel
theorem dX1_init_63 : decode cX1_init 63 = .ok (.aload_n 0, 1) := by decide +kernel
theorem dX1_init_64 : decode cX1_init 64 = .ok (.bipush 24, 2) := by decide +kernel
theorem dX1_init_66 : decode cX1_init 66 = .ok (.newarray .int, 2) := by decide +kernel
theorem dX1_init_68 : decode cX1_init 68 = .ok (.putfield 22, 3) := by decide +kernel
theorem dX1_init_71 : decode cX1_init 71 = .ok (.aload_n 0, 1) := by decide +kernel
theorem dX1_init_72 : decode cX1_init 72 = .ok (.sipush 199, 3) := by decide +kernel
theorem dX1_init_75 : decode cX1_init 75 = .ok (.newarray .int, 2) := by decide +kernel
theorem dX1_init_77 : decode cX1_init 77 = .ok (.putfield 25, 3) := by decide +kernel
theorem dX1_init_80 : decode cX1_init 80 = .ok (.aload_n 0, 1) := by decide +kernel
theorem dX1_init_81 : decode cX1_init 81 = .ok (.sipush 199, 3) := by decide +kernel
theorem dX1_init_84 : decode cX1_init 84 = .ok (.newarray .int, 2) := by decide +kernel
theorem dX1_init_86 : decode cX1_init 86 = .ok (.putfield 28, 3) := by decide +kernel
theorem dX1_init_89 : decode cX1_init 89 = .ok (.aload_n 0, 1) := by decide +kernel
theorem dX1_init_90 : decode cX1_init 90 = .ok (.bipush 24, 2) := by decide +kernel
theorem dX1_init_92 : decode cX1_init 92 = .ok (.newarray .int, 2) := by decide +kernel
theorem dX1_init_94 : decode cX1_init 94 = .ok (.putfield 31, 3) := by decide +kernel
theorem dX1_init_97 : decode cX1_init 97 = .ok (.aload_n 0, 1) := by decide +kernel
theorem dX1_init_98 : decode cX1_init 98 = .ok (.bipush 8, 2) := by decide +kernel
theorem dX1_init_100 : decode cX1_init 100 = .ok (.invokevirtual 34, 3) := by decide +kernel
theorem dX1_init_103 : decode cX1_init 103 = .ok (.return_, 1) := by decide +kernel
theorem dX1_begin_0 : decode cX1_begin 0 = .ok (.aload_n 0, 1) := by decide +kernel
theorem dX1_begin_1 : decode cX1_begin 1 = .ok (.iload_n 1, 1) := by decide +kernel
theorem dX1_begin_2 : decode cX1_begin 2 = .ok (.iconst 0, 1) := by decide +kernel
theorem dX1_begin_3 : decode cX1_begin 3 = .ok (.bipush 24, 2) := by decide +kernel
theorem dX1_begin_5 : decode cX1_begin 5 = .ok (.invokestatic 38, 3) := by decide +kernel
theorem dX1_begin_8 : decode cX1_begin 8 = .ok (.putfield 44, 3) := by decide +kernel
theorem dX1_begin_11 : decode cX1_begin 11 = .ok (.iconst 0, 1) := by decide +kernel
theorem dX1_begin_12 : decode cX1_begin 12 = .ok (.istore_n 2, 1) := by decide +kernel
theorem dX1_begin_13 : decode cX1_begin 13 = .ok (.iload_n 2, 1) := by decide +kernel
theorem dX1_begin_14 : decode cX1_begin 14 = .ok (.bipush 24, 2) := by decide +kernel
theorem dX1_begin_16 : decode cX1_begin 16 = .ok (.if_icmp .ge 32, 3) := by decide +kernel
theorem dX1_begin_19 : decode cX1_begin 19 = .ok (.aload_n 0, 1) := by decide +kernel
theorem dX1_begin_20 : decode cX1_begin 20 = .ok (.getfield 9, 3) := by decide +kernel
theorem dX1_begin_23 : decode cX1_begin 23 = .ok (.iload_n 2, 1) := by decide +kernel
theorem dX1_begin_24 : decode cX1_begin 24 = .ok (.bipush 50, 2) := by decide +kernel
theorem dX1_begin_26 : decode cX1_begin 26 = .ok (.iastore, 1) := by decide +kernel
theorem dX1_begin_27 : decode cX1_begin 27 = .ok (.aload_n 0, 1) := by decide +kernel
theorem dX1_begin_28 : decode cX1_begin 28 = .ok (.getfield 13, 3) := by decide +kernel
theorem dX1_begin_31 : decode cX1_begin 31 = .ok (.iload_n 2, 1) := by decide +kernel
theorem dX1_begin_32 : decode cX1_begin 32 = .ok (.bipush 50, 2) := by decide +kernel
theorem dX1_begin_34 : decode cX1_begin 34 = .ok (.iastore, 1) := by decide +kernel
theorem dX1_begin_35 : decode cX1_begin 35 = .ok (.aload_n 0, 1) := by decide +kernel
theorem dX1_begin_36 : decode cX1_begin 36 = .ok (.getfield 16, 3) := by decide +kernel
theorem dX1_begin_39 : decode cX1_begin 39 = .ok (.iload_n 2, 1) := by decide +kernel
theorem dX1_begin_40 : decode cX1_begin 40 = .ok (.iconst 0, 1) := by decide +kernel
theorem dX1_begin_41 : decode cX1_begin 41 = .ok (.iastore, 1) := by decide +kernel
theorem dX1_begin_42 : decode cX1_begin 42 = .ok (.iinc 2 1, 3) := by decide +kernel
theorem dX1_begin_45 : decode cX1_begin 45 = .ok (.goto (-32), 3) := by decide +kernel
theorem dX1_begin_48 : decode cX1_begin 48 = .ok (.aload_n 0, 1) := by decide +kernel
theorem dX1_begin_49 : decode cX1_begin 49 = .ok (.iconst 0, 1) := by decide +kernel
theorem dX1_begin_50 : decode cX1_begin 50 = .ok (.putfield 48, 3) := by decide +kernel
theorem dX1_begin_53 : decode cX1_begin 53 = .ok (.return_, 1) := by decide +kernel
theorem dX1_takeFrom_0 : decode cX1_takeFrom 0 = .ok (.aload_n 0, 1) := by decide +kernel
theorem dX1_takeFrom_1 : decode cX1_takeFrom 1 = .ok (.aload_n 1, 1) := by decide +kernel
theorem dX1_takeFrom_2 : decode cX1_takeFrom 2 = .ok (.getfield 44, 3) := by decide +kernel
theorem dX1_takeFrom_5 : decode cX1_takeFrom 5 = .ok (.putfield 44, 3) := by decide +kernel
theorem dX1_takeFrom_8 : decode cX1_takeFrom 8 = .ok (.aload_n 1, 1) := by decide +kernel
theorem dX1_takeFrom_9 : decode cX1_takeFrom 9 = .ok (.getfield 9, 3) := by decide +kernel
theorem dX1_takeFrom_12 : decode cX1_takeFrom 12 = .ok (.iconst 0, 1) := by decide +kernel
theorem dX1_takeFrom_13 : decode cX1_takeFrom 13 = .ok (.aload_n 0, 1) := by decide +kernel
theorem dX1_takeFrom_14 : decode cX1_takeFrom 14 = .ok (.getfield 9, 3) := by decide +kernel
theorem dX1_takeFrom_17 : decode cX1_takeFrom 17 = .ok (.iconst 0, 1) := by decide +kernel
theorem dX1_takeFrom_18 : decode cX1_takeFrom 18 = .ok (.bipush 24, 2) := by decide +kernel
theorem dX1_takeFrom_20 : decode cX1_takeFrom 20 = .ok (.invokestatic 51, 3) := by decide +kernel
theorem dX1_takeFrom_23 : decode cX1_takeFrom 23 = .ok (.aload_n 1, 1) := by decide +kernel
theorem dX1_takeFrom_24 : decode cX1_takeFrom 24 = .ok (.getfield 13, 3) := by decide +kernel
theorem dX1_takeFrom_27 : decode cX1_takeFrom 27 = .ok (.iconst 0, 1) := by decide +kernel
theorem dX1_takeFrom_28 : decode cX1_takeFrom 28 = .ok (.aload_n 0, 1) := by decide +kernel
theorem dX1_takeFrom_29 : decode cX1_takeFrom 29 = .ok (.getfield 13, 3) := by decide +kernel
theorem dX1_takeFrom_32 : decode cX1_takeFrom 32 = .ok (.iconst 0, 1) := by decide +kernel
theorem dX1_takeFrom_33 : decode cX1_takeFrom 33 = .ok (.bipush 24, 2) := by decide +kernel
theorem dX1_takeFrom_35 : decode cX1_takeFrom 35 = .ok (.invokestatic 51, 3) := by decide +kernel
theorem dX1_takeFrom_38 : decode cX1_takeFrom 38 = .ok (.aload_n 1, 1) := by decide +kernel
theorem dX1_takeFrom_39 : decode cX1_takeFrom 39 = .ok (.getfield 16, 3) := by decide +kernel
theorem dX1_takeFrom_42 : decode cX1_takeFrom 42 = .ok (.iconst 0, 1) := by decide +kernel
theorem dX1_takeFrom_43 : decode cX1_takeFrom 43 = .ok (.aload_n 0, 1) := by decide +kernel
theorem dX1_takeFrom_44 : decode cX1_takeFrom 44 = .ok (.getfield 16, 3) := by decide +kernel
theorem dX1_takeFrom_47 : decode cX1_takeFrom 47 = .ok (.iconst 0, 1) := by decide +kernel
theorem dX1_takeFrom_48 : decode cX1_takeFrom 48 = .ok (.bipush 24, 2) := by decide +kernel
theorem dX1_takeFrom_50 : decode cX1_takeFrom 50 = .ok (.invokestatic 51, 3) := by decide +kernel
theorem dX1_takeFrom_53 : decode cX1_takeFrom 53 = .ok (.aload_n 0, 1) := by decide +kernel
theorem dX1_takeFrom_54 : decode cX1_takeFrom 54 = .ok (.aload_n 1, 1) := by decide +kernel
theorem dX1_takeFrom_55 : decode cX1_takeFrom 55 = .ok (.getfield 48, 3) := by decide +kernel
theorem dX1_takeFrom_58 : decode cX1_takeFrom 58 = .ok (.putfield 48, 3) := by decide +kernel
theorem dX1_takeFrom_61 : decode cX1_takeFrom 61 = .ok (.aload_n 1, 1) := by decide +kernel
theorem dX1_takeFrom_62 : decode cX1_takeFrom 62 = .ok (.getfield 19, 3) := by decide +kernel
theorem dX1_takeFrom_65 : decode cX1_takeFrom 65 = .ok (.iconst 0, 1) := by decide +kernel
theorem dX1_takeFrom_66 : decode cX1_takeFrom 66 = .ok (.aload_n 0, 1) := by decide +kernel
theorem dX1_takeFrom_67 : decode cX1_takeFrom 67 = .ok (.getfield 19, 3) := by decide +kernel
theorem dX1_takeFrom_70 : decode cX1_takeFrom 70 = .ok (.iconst 0, 1) := by decide +kernel
theorem dX1_takeFrom_71 : decode cX1_takeFrom 71 = .ok (.aload_n 0, 1) := by decide +kernel
theorem dX1_takeFrom_72 : decode cX1_takeFrom 72 = .ok (.getfield 19, 3) := by decide +kernel
theorem dX1_takeFrom_75 : decode cX1_takeFrom 75 = .ok (.arraylength, 1) := by decide +kernel
theorem dX1_takeFrom_76 : decode cX1_takeFrom 76 = .ok (.invokestatic 51, 3) := by decide +kernel
theorem dX1_takeFrom_79 : decode cX1_takeFrom 79 = .ok (.return_, 1) := by decide +kernel
theorem dX1_has_0 : decode cX1_has 0 = .ok (.iload_n 1, 1) := by decide +kernel
theorem dX1_has_1 : decode cX1_has 1 = .ok (.ifCond .lt 15, 3) := by decide +kernel
theorem dX1_has_4 : decode cX1_has 4 = .ok (.iload_n 1, 1) := by decide +kernel
theorem dX1_has_5 : decode cX1_has 5 = .ok (.aload_n 0, 1) := by decide +kernel
theorem dX1_has_6 : decode cX1_has 6 = .ok (.getfield 44, 3) := by decide +kernel
theorem dX1_has_9 : decode cX1_has 9 = .ok (.if_icmp .ge 7, 3) := by decide +kernel
theorem dX1_has_12 : decode cX1_has 12 = .ok (.iconst 1, 1) := by decide +kernel
theorem dX1_has_13 : decode cX1_has 13 = .ok (.goto 4, 3) := by decide +kernel
theorem dX1_has_16 : decode cX1_has 16 = .ok (.iconst 0, 1) := by decide +kernel
theorem dX1_has_17 : decode cX1_has 17 = .ok (.ireturn, 1) := by decide +kernel
theorem dX1_rowOf_0 : decode cX1_rowOf 0 = .ok (.iload_n 1, 1) := by decide +kernel
theorem dX1_rowOf_1 : decode cX1_rowOf 1 = .ok (.ifCond .ne 8, 3) := by decide +kernel
theorem dX1_rowOf_4 : decode cX1_rowOf 4 = .ok (.aload_n 0, 1) := by decide +kernel
theorem dX1_rowOf_5 : decode cX1_rowOf 5 = .ok (.getfield 9, 3) := by decide +kernel
theorem dX1_rowOf_8 : decode cX1_rowOf 8 = .ok (.areturn, 1) := by decide +kernel
theorem dX1_rowOf_9 : decode cX1_rowOf 9 = .ok (.iload_n 1, 1) := by decide +kernel
theorem dX1_rowOf_10 : decode cX1_rowOf 10 = .ok (.iconst 1, 1) := by decide +kernel
theorem dX1_rowOf_11 : decode cX1_rowOf 11 = .ok (.if_icmp .ne 10, 3) := by decide +kernel
theorem dX1_rowOf_14 : decode cX1_rowOf 14 = .ok (.aload_n 0, 1) := by decide +kernel
theorem dX1_rowOf_15 : decode cX1_rowOf 15 = .ok (.getfield 13, 3) := by decide +kernel
theorem dX1_rowOf_18 : decode cX1_rowOf 18 = .ok (.goto 7, 3) := by decide +kernel
theorem dX1_rowOf_21 : decode cX1_rowOf 21 = .ok (.aload_n 0, 1) := by decide +kernel
theorem dX1_rowOf_22 : decode cX1_rowOf 22 = .ok (.getfield 16, 3) := by decide +kernel
theorem dX1_rowOf_25 : decode cX1_rowOf 25 = .ok (.areturn, 1) := by decide +kernel
theorem dX1_stratumOf_0 : decode cX1_stratumOf 0 = .ok (.aload_n 0, 1) := by decide +kernel
theorem dX1_stratumOf_1 : decode cX1_stratumOf 1 = .ok (.iload_n 1, 1) := by decide +kernel
theorem dX1_stratumOf_2 : decode cX1_stratumOf 2 = .ok (.invokevirtual 57, 3) := by decide +kernel
theorem dX1_stratumOf_5 : decode cX1_stratumOf 5 = .ok (.ifCond .eq 12, 3) := by decide +kernel
theorem dX1_stratumOf_8 : decode cX1_stratumOf 8 = .ok (.aload_n 0, 1) := by decide +kernel
theorem dX1_stratumOf_9 : decode cX1_stratumOf 9 = .ok (.getfield 16, 3) := by decide +kernel
theorem dX1_stratumOf_12 : decode cX1_stratumOf 12 = .ok (.iload_n 1, 1) := by decide +kernel
theorem dX1_stratumOf_13 : decode cX1_stratumOf 13 = .ok (.iaload, 1) := by decide +kernel
theorem dX1_stratumOf_14 : decode cX1_stratumOf 14 = .ok (.goto 4, 3) := by decide +kernel
theorem dX1_stratumOf_17 : decode cX1_stratumOf 17 = .ok (.iconst 0, 1) := by decide +kernel
theorem dX1_stratumOf_18 : decode cX1_stratumOf 18 = .ok (.ireturn, 1) := by decide +kernel
theorem dX1_depthOf_0 : decode cX1_depthOf 0 = .ok (.aload_n 0, 1) := by decide +kernel
theorem dX1_depthOf_1 : decode cX1_depthOf 1 = .ok (.iload_n 1, 1) := by decide +kernel
theorem dX1_depthOf_2 : decode cX1_depthOf 2 = .ok (.invokevirtual 57, 3) := by decide +kernel
theorem dX1_depthOf_5 : decode cX1_depthOf 5 = .ok (.ifCond .eq 19, 3) := by decide +kernel
theorem dX1_depthOf_8 : decode cX1_depthOf 8 = .ok (.aload_n 0, 1) := by decide +kernel
theorem dX1_depthOf_9 : decode cX1_depthOf 9 = .ok (.getfield 9, 3) := by decide +kernel
theorem dX1_depthOf_12 : decode cX1_depthOf 12 = .ok (.iload_n 1, 1) := by decide +kernel
theorem dX1_depthOf_13 : decode cX1_depthOf 13 = .ok (.iaload, 1) := by decide +kernel
theorem dX1_depthOf_14 : decode cX1_depthOf 14 = .ok (.aload_n 0, 1) := by decide +kernel
theorem dX1_depthOf_15 : decode cX1_depthOf 15 = .ok (.getfield 13, 3) := by decide +kernel
theorem dX1_depthOf_18 : decode cX1_depthOf 18 = .ok (.iload_n 1, 1) := by decide +kernel
theorem dX1_depthOf_19 : decode cX1_depthOf 19 = .ok (.iaload, 1) := by decide +kernel
theorem dX1_depthOf_20 : decode cX1_depthOf 20 = .ok (.isub, 1) := by decide +kernel
theorem dX1_depthOf_21 : decode cX1_depthOf 21 = .ok (.goto 4, 3) := by decide +kernel
theorem dX1_depthOf_24 : decode cX1_depthOf 24 = .ok (.iconst 0, 1) := by decide +kernel
theorem dX1_depthOf_25 : decode cX1_depthOf 25 = .ok (.ireturn, 1) := by decide +kernel
theorem dX1_tooDeepChains_0 : decode cX1_tooDeepChains 0 = .ok (.iconst 0, 1) := by decide +kernel
theorem dX1_tooDeepChains_1 : decode cX1_tooDeepChains 1 = .ok (.istore_n 1, 1) := by decide +kernel
theorem dX1_tooDeepChains_2 : decode cX1_tooDeepChains 2 = .ok (.iconst 0, 1) := by decide +kernel
theorem dX1_tooDeepChains_3 : decode cX1_tooDeepChains 3 = .ok (.istore_n 2, 1) := by decide +kernel
theorem dX1_tooDeepChains_4 : decode cX1_tooDeepChains 4 = .ok (.iload_n 2, 1) := by decide +kernel
theorem dX1_tooDeepChains_5 : decode cX1_tooDeepChains 5 = .ok (.aload_n 0, 1) := by decide +kernel
theorem dX1_tooDeepChains_6 : decode cX1_tooDeepChains 6 = .ok (.getfield 44, 3) := by decide +kernel
theorem dX1_tooDeepChains_9 : decode cX1_tooDeepChains 9 = .ok (.if_icmp .ge 28, 3) := by decide +kernel
theorem dX1_tooDeepChains_12 : decode cX1_tooDeepChains 12 = .ok (.aload_n 0, 1) := by decide +kernel
theorem dX1_tooDeepChains_13 : decode cX1_tooDeepChains 13 = .ok (.iload_n 2, 1) := by decide +kernel
theorem dX1_tooDeepChains_14 : decode cX1_tooDeepChains 14 = .ok (.invokevirtual 61, 3) := by decide +kernel
theorem dX1_tooDeepChains_17 : decode cX1_tooDeepChains 17 = .ok (.aload_n 0, 1) := by decide +kernel
theorem dX1_tooDeepChains_18 : decode cX1_tooDeepChains 18 = .ok (.iload_n 2, 1) := by decide +kernel
theorem dX1_tooDeepChains_19 : decode cX1_tooDeepChains 19 = .ok (.invokevirtual 65, 3) := by decide +kernel
theorem dX1_tooDeepChains_22 : decode cX1_tooDeepChains 22 = .ok (.if_icmp .le 9, 3) := by decide +kernel
theorem dX1_tooDeepChains_25 : decode cX1_tooDeepChains 25 = .ok (.iload_n 1, 1) := by decide +kernel
theorem dX1_tooDeepChains_26 : decode cX1_tooDeepChains 26 = .ok (.iconst 1, 1) := by decide +kernel
theorem dX1_tooDeepChains_27 : decode cX1_tooDeepChains 27 = .ok (.iload_n 2, 1) := by decide +kernel
theorem dX1_tooDeepChains_28 : decode cX1_tooDeepChains 28 = .ok (.ishl, 1) := by decide +kernel
theorem dX1_tooDeepChains_29 : decode cX1_tooDeepChains 29 = .ok (.ior, 1) := by decide +kernel
theorem dX1_tooDeepChains_30 : decode cX1_tooDeepChains 30 = .ok (.istore_n 1, 1) := by decide +kernel
theorem dX1_tooDeepChains_31 : decode cX1_tooDeepChains 31 = .ok (.iinc 2 1, 3) := by decide +kernel
theorem dX1_tooDeepChains_34 : decode cX1_tooDeepChains 34 = .ok (.goto (-30), 3) := by decide +kernel
theorem dX1_tooDeepChains_37 : decode cX1_tooDeepChains 37 = .ok (.iload_n 1, 1) := by decide +kernel
theorem dX1_tooDeepChains_38 : decode cX1_tooDeepChains 38 = .ok (.ireturn, 1) := by decide +kernel
theorem dX1_depthThatStands_0 : decode cX1_depthThatStands 0 = .ok (.aload_n 0, 1) := by decide +kernel
theorem dX1_depthThatStands_1 : decode cX1_depthThatStands 1 = .ok (.iload_n 1, 1) := by decide +kernel
theorem dX1_depthThatStands_2 : decode cX1_depthThatStands 2 = .ok (.invokevirtual 68, 3) := by decide +kernel
theorem dX1_depthThatStands_5 : decode cX1_depthThatStands 5 = .ok (.istore_n 2, 1) := by decide +kernel
theorem dX1_depthThatStands_6 : decode cX1_depthThatStands 6 = .ok (.iload_n 2, 1) := by decide +kernel
theorem dX1_depthThatStands_7 : decode cX1_depthThatStands 7 = .ok (.iconst 0, 1) := by decide +kernel
theorem dX1_depthThatStands_8 : decode cX1_depthThatStands 8 = .ok (.getstatic 71, 3) := by decide +kernel
theorem dX1_depthThatStands_11 : decode cX1_depthThatStands 11 = .ok (.arraylength, 1) := by decide +kernel
theorem dX1_depthThatStands_12 : decode cX1_depthThatStands 12 = .ok (.iconst 1, 1) := by decide +kernel
theorem dX1_depthThatStands_13 : decode cX1_depthThatStands 13 = .ok (.isub, 1) := by decide +kernel
theorem dX1_depthThatStands_14 : decode cX1_depthThatStands 14 = .ok (.invokestatic 74, 3) := by decide +kernel
theorem dX1_depthThatStands_17 : decode cX1_depthThatStands 17 = .ok (.ifCond .eq 11, 3) := by decide +kernel
theorem dX1_depthThatStands_20 : decode cX1_depthThatStands 20 = .ok (.getstatic 71, 3) := by decide +kernel
theorem dX1_depthThatStands_23 : decode cX1_depthThatStands 23 = .ok (.iload_n 2, 1) := by decide +kernel
theorem dX1_depthThatStands_24 : decode cX1_depthThatStands 24 = .ok (.iaload, 1) := by decide +kernel
theorem dX1_depthThatStands_25 : decode cX1_depthThatStands 25 = .ok (.goto 5, 3) := by decide +kernel
theorem dX1_depthThatStands_28 : decode cX1_depthThatStands 28 = .ok (.bipush 99, 2) := by decide +kernel
theorem dX1_depthThatStands_30 : decode cX1_depthThatStands 30 = .ok (.ireturn, 1) := by decide +kernel
theorem dX1_isSoaked_0 : decode cX1_isSoaked 0 = .ok (.iload_n 2, 1) := by decide +kernel
theorem dX1_isSoaked_1 : decode cX1_isSoaked 1 = .ok (.aload_n 0, 1) := by decide +kernel
theorem dX1_isSoaked_2 : decode cX1_isSoaked 2 = .ok (.iload_n 1, 1) := by decide +kernel
theorem dX1_isSoaked_3 : decode cX1_isSoaked 3 = .ok (.invokevirtual 68, 3) := by decide +kernel
theorem dX1_isSoaked_6 : decode cX1_isSoaked 6 = .ok (.iconst 2, 1) := by decide +kernel
theorem dX1_isSoaked_7 : decode cX1_isSoaked 7 = .ok (.if_icmp .ne 7, 3) := by decide +kernel
theorem dX1_isSoaked_10 : decode cX1_isSoaked 10 = .ok (.iconst 4, 1) := by decide +kernel
theorem dX1_isSoaked_11 : decode cX1_isSoaked 11 = .ok (.goto 5, 3) := by decide +kernel
theorem dX1_isSoaked_14 : decode cX1_isSoaked 14 = .ok (.bipush 6, 2) := by decide +kernel
theorem dX1_isSoaked_16 : decode cX1_isSoaked 16 = .ok (.if_icmp .le 7, 3) := by decide +kernel
theorem dX1_isSoaked_19 : decode cX1_isSoaked 19 = .ok (.iconst 1, 1) := by decide +kernel
theorem dX1_isSoaked_20 : decode cX1_isSoaked 20 = .ok (.goto 4, 3) := by decide +kernel
theorem dX1_isSoaked_23 : decode cX1_isSoaked 23 = .ok (.iconst 0, 1) := by decide +kernel
theorem dX1_isSoaked_24 : decode cX1_isSoaked 24 = .ok (.ireturn, 1) := by decide +kernel
theorem dX1_steepPairs_0 : decode cX1_steepPairs 0 = .ok (.iconst 0, 1) := by decide +kernel
theorem dX1_steepPairs_1 : decode cX1_steepPairs 1 = .ok (.istore_n 1, 1) := by decide +kernel
theorem dX1_steepPairs_2 : decode cX1_steepPairs 2 = .ok (.iconst 1, 1) := by decide +kernel
theorem dX1_steepPairs_3 : decode cX1_steepPairs 3 = .ok (.istore_n 2, 1) := by decide +kernel
theorem dX1_steepPairs_4 : decode cX1_steepPairs 4 = .ok (.iload_n 2, 1) := by decide +kernel
theorem dX1_steepPairs_5 : decode cX1_steepPairs 5 = .ok (.aload_n 0, 1) := by decide +kernel
theorem dX1_steepPairs_6 : decode cX1_steepPairs 6 = .ok (.getfield 44, 3) := by decide +kernel
theorem dX1_steepPairs_9 : decode cX1_steepPairs 9 = .ok (.if_icmp .ge 39, 3) := by decide +kernel
theorem dX1_steepPairs_12 : decode cX1_steepPairs 12 = .ok (.aload_n 0, 1) := by decide +kernel
theorem dX1_steepPairs_13 : decode cX1_steepPairs 13 = .ok (.getfield 13, 3) := by decide +kernel
theorem dX1_steepPairs_16 : decode cX1_steepPairs 16 = .ok (.iload_n 2, 1) := by decide +kernel
theorem dX1_steepPairs_17 : decode cX1_steepPairs 17 = .ok (.iaload, 1) := by decide +kernel
theorem dX1_steepPairs_18 : decode cX1_steepPairs 18 = .ok (.aload_n 0, 1) := by decide +kernel
theorem dX1_steepPairs_19 : decode cX1_steepPairs 19 = .ok (.getfield 13, 3) := by decide +kernel
theorem dX1_steepPairs_22 : decode cX1_steepPairs 22 = .ok (.iload_n 2, 1) := by decide +kernel
theorem dX1_steepPairs_23 : decode cX1_steepPairs 23 = .ok (.iconst 1, 1) := by decide +kernel
theorem dX1_steepPairs_24 : decode cX1_steepPairs 24 = .ok (.isub, 1) := by decide +kernel
theorem dX1_steepPairs_25 : decode cX1_steepPairs 25 = .ok (.iaload, 1) := by decide +kernel
theorem dX1_steepPairs_26 : decode cX1_steepPairs 26 = .ok (.isub, 1) := by decide +kernel
theorem dX1_steepPairs_27 : decode cX1_steepPairs 27 = .ok (.invokestatic 78, 3) := by decide +kernel
theorem dX1_steepPairs_30 : decode cX1_steepPairs 30 = .ok (.aload_n 0, 1) := by decide +kernel
theorem dX1_steepPairs_31 : decode cX1_steepPairs 31 = .ok (.getfield 19, 3) := by decide +kernel
theorem dX1_steepPairs_34 : decode cX1_steepPairs 34 = .ok (.iconst 0, 1) := by decide +kernel
theorem dX1_steepPairs_35 : decode cX1_steepPairs 35 = .ok (.iaload, 1) := by decide +kernel
theorem dX1_steepPairs_36 : decode cX1_steepPairs 36 = .ok (.if_icmp .le 6, 3) := by decide +kernel
theorem dX1_steepPairs_39 : decode cX1_steepPairs 39 = .ok (.iinc 1 1, 3) := by decide +kernel
theorem dX1_steepPairs_42 : decode cX1_steepPairs 42 = .ok (.iinc 2 1, 3) := by decide +kernel
theorem dX1_steepPairs_45 : decode cX1_steepPairs 45 = .ok (.goto (-41), 3) := by decide +kernel
theorem dX1_steepPairs_48 : decode cX1_steepPairs 48 = .ok (.iload_n 1, 1) := by decide +kernel
theorem dX1_steepPairs_49 : decode cX1_steepPairs 49 = .ok (.ireturn, 1) := by decide +kernel
theorem dX1_findBestLevels_0 : decode cX1_findBestLevels 0 = .ok (.aload_n 0, 1) := by decide +kernel
theorem dX1_findBestLevels_1 : decode cX1_findBestLevels 1 = .ok (.getfield 19, 3) := by decide +kernel
theorem dX1_findBestLevels_4 : decode cX1_findBestLevels 4 = .ok (.iconst 0, 1) := by decide +kernel
theorem dX1_findBestLevels_5 : decode cX1_findBestLevels 5 = .ok (.iaload, 1) := by decide +kernel
theorem dX1_findBestLevels_6 : decode cX1_findBestLevels 6 = .ok (.istore_n 1, 1) := by decide +kernel
theorem dX1_findBestLevels_7 : decode cX1_findBestLevels 7 = .ok (.aload_n 0, 1) := by decide +kernel
theorem dX1_findBestLevels_8 : decode cX1_findBestLevels 8 = .ok (.bipush 100, 2) := by decide +kernel
theorem dX1_findBestLevels_10 : decode cX1_findBestLevels 10 = .ok (.iload_n 1, 1) := by decide +kernel
theorem dX1_findBestLevels_11 : decode cX1_findBestLevels 11 = .ok (.iconst 0, 1) := by decide +kernel
theorem dX1_findBestLevels_12 : decode cX1_findBestLevels 12 = .ok (.invokevirtual 83, 3) := by decide +kernel
theorem dX1_findBestLevels_15 : decode cX1_findBestLevels 15 = .ok (.istore_n 2, 1) := by decide +kernel
theorem dX1_findBestLevels_16 : decode cX1_findBestLevels 16 = .ok (.iconst 0, 1) := by decide +kernel
theorem dX1_findBestLevels_17 : decode cX1_findBestLevels 17 = .ok (.istore_n 3, 1) := by decide +kernel
theorem dX1_findBestLevels_18 : decode cX1_findBestLevels 18 = .ok (.iload_n 3, 1) := by decide +kernel
theorem dX1_findBestLevels_19 : decode cX1_findBestLevels 19 = .ok (.aload_n 0, 1) := by decide +kernel
theorem dX1_findBestLevels_20 : decode cX1_findBestLevels 20 = .ok (.getfield 44, 3) := by decide +kernel
theorem dX1_findBestLevels_23 : decode cX1_findBestLevels 23 = .ok (.if_icmp .ge 57, 3) := by decide +kernel
theorem dX1_findBestLevels_26 : decode cX1_findBestLevels 26 = .ok (.aload_n 0, 1) := by decide +kernel
theorem dX1_findBestLevels_27 : decode cX1_findBestLevels 27 = .ok (.getfield 22, 3) := by decide +kernel
theorem dX1_findBestLevels_30 : decode cX1_findBestLevels 30 = .ok (.iload_n 3, 1) := by decide +kernel
theorem dX1_findBestLevels_31 : decode cX1_findBestLevels 31 = .ok (.iload_n 3, 1) := by decide +kernel
theorem dX1_findBestLevels_32 : decode cX1_findBestLevels 32 = .ok (.ifCond .ne 12, 3) := by decide +kernel
theorem dX1_findBestLevels_35 : decode cX1_findBestLevels 35 = .ok (.aload_n 0, 1) := by decide +kernel
theorem dX1_findBestLevels_36 : decode cX1_findBestLevels 36 = .ok (.getfield 31, 3) := by decide +kernel
theorem dX1_findBestLevels_39 : decode cX1_findBestLevels 39 = .ok (.iconst 0, 1) := by decide +kernel
theorem dX1_findBestLevels_40 : decode cX1_findBestLevels 40 = .ok (.iaload, 1) := by decide +kernel
theorem dX1_findBestLevels_41 : decode cX1_findBestLevels 41 = .ok (.goto 32, 3) := by decide +kernel
theorem dX1_findBestLevels_44 : decode cX1_findBestLevels 44 = .ok (.aload_n 0, 1) := by decide +kernel
theorem dX1_findBestLevels_45 : decode cX1_findBestLevels 45 = .ok (.getfield 31, 3) := by decide +kernel
theorem dX1_findBestLevels_48 : decode cX1_findBestLevels 48 = .ok (.iload_n 3, 1) := by decide +kernel
theorem dX1_findBestLevels_49 : decode cX1_findBestLevels 49 = .ok (.iaload, 1) := by decide +kernel
theorem dX1_findBestLevels_50 : decode cX1_findBestLevels 50 = .ok (.aload_n 0, 1) := by decide +kernel
theorem dX1_findBestLevels_51 : decode cX1_findBestLevels 51 = .ok (.getfield 22, 3) := by decide +kernel
theorem dX1_findBestLevels_54 : decode cX1_findBestLevels 54 = .ok (.iload_n 3, 1) := by decide +kernel
theorem dX1_findBestLevels_55 : decode cX1_findBestLevels 55 = .ok (.iconst 1, 1) := by decide +kernel
theorem dX1_findBestLevels_56 : decode cX1_findBestLevels 56 = .ok (.isub, 1) := by decide +kernel
theorem dX1_findBestLevels_57 : decode cX1_findBestLevels 57 = .ok (.iaload, 1) := by decide +kernel
theorem dX1_findBestLevels_58 : decode cX1_findBestLevels 58 = .ok (.iload_n 1, 1) := by decide +kernel
theorem dX1_findBestLevels_59 : decode cX1_findBestLevels 59 = .ok (.isub, 1) := by decide +kernel
theorem dX1_findBestLevels_60 : decode cX1_findBestLevels 60 = .ok (.aload_n 0, 1) := by decide +kernel
theorem dX1_findBestLevels_61 : decode cX1_findBestLevels 61 = .ok (.getfield 22, 3) := by decide +kernel
theorem dX1_findBestLevels_64 : decode cX1_findBestLevels 64 = .ok (.iload_n 3, 1) := by decide +kernel
theorem dX1_findBestLevels_65 : decode cX1_findBestLevels 65 = .ok (.iconst 1, 1) := by decide +kernel
theorem dX1_findBestLevels_66 : decode cX1_findBestLevels 66 = .ok (.isub, 1) := by decide +kernel
theorem dX1_findBestLevels_67 : decode cX1_findBestLevels 67 = .ok (.iaload, 1) := by decide +kernel
theorem dX1_findBestLevels_68 : decode cX1_findBestLevels 68 = .ok (.iload_n 1, 1) := by decide +kernel
theorem dX1_findBestLevels_69 : decode cX1_findBestLevels 69 = .ok (.iadd, 1) := by decide +kernel
theorem dX1_findBestLevels_70 : decode cX1_findBestLevels 70 = .ok (.invokestatic 38, 3) := by decide +kernel
theorem dX1_findBestLevels_73 : decode cX1_findBestLevels 73 = .ok (.iastore, 1) := by decide +kernel
theorem dX1_findBestLevels_74 : decode cX1_findBestLevels 74 = .ok (.iinc 3 1, 3) := by decide +kernel
theorem dX1_findBestLevels_77 : decode cX1_findBestLevels 77 = .ok (.goto (-59), 3) := by decide +kernel
theorem dX1_findBestLevels_80 : decode cX1_findBestLevels 80 = .ok (.iload_n 2, 1) := by decide +kernel
theorem dX1_findBestLevels_81 : decode cX1_findBestLevels 81 = .ok (.ireturn, 1) := by decide +kernel
theorem dX1_haulCost_0 : decode cX1_haulCost 0 = .ok (.aload_n 0, 1) := by decide +kernel
theorem dX1_haulCost_1 : decode cX1_haulCost 1 = .ok (.aload_n 0, 1) := by decide +kernel
theorem dX1_haulCost_2 : decode cX1_haulCost 2 = .ok (.getfield 19, 3) := by decide +kernel
theorem dX1_haulCost_5 : decode cX1_haulCost 5 = .ok (.iconst 4, 1) := by decide +kernel
theorem dX1_haulCost_6 : decode cX1_haulCost 6 = .ok (.iaload, 1) := by decide +kernel
theorem dX1_haulCost_7 : decode cX1_haulCost 7 = .ok (.aload_n 0, 1) := by decide +kernel
theorem dX1_haulCost_8 : decode cX1_haulCost 8 = .ok (.getfield 19, 3) := by decide +kernel
theorem dX1_haulCost_11 : decode cX1_haulCost 11 = .ok (.iconst 3, 1) := by decide +kernel
theorem dX1_haulCost_12 : decode cX1_haulCost 12 = .ok (.iaload, 1) := by decide +kernel
theorem dX1_haulCost_13 : decode cX1_haulCost 13 = .ok (.iadd, 1) := by decide +kernel
theorem dX1_haulCost_14 : decode cX1_haulCost 14 = .ok (.iconst 1, 1) := by decide +kernel
theorem dX1_haulCost_15 : decode cX1_haulCost 15 = .ok (.iadd, 1) := by decide +kernel
theorem dX1_haulCost_16 : decode cX1_haulCost 16 = .ok (.iconst 1, 1) := by decide +kernel
theorem dX1_haulCost_17 : decode cX1_haulCost 17 = .ok (.iconst 1, 1) := by decide +kernel
theorem dX1_haulCost_18 : decode cX1_haulCost 18 = .ok (.invokevirtual 83, 3) := by decide +kernel
theorem dX1_haulCost_21 : decode cX1_haulCost 21 = .ok (.ineg, 1) := by decide +kernel
theorem dX1_haulCost_22 : decode cX1_haulCost 22 = .ok (.ireturn, 1) := by decide +kernel
theorem dX1_leastCost_0 : decode cX1_leastCost 0 = .ok (.aload_n 0, 1) := by decide +kernel
theorem dX1_leastCost_1 : decode cX1_leastCost 1 = .ok (.getfield 44, 3) := by decide +kernel
theorem dX1_leastCost_4 : decode cX1_leastCost 4 = .ok (.iconst 1, 1) := by decide +kernel
theorem dX1_leastCost_5 : decode cX1_leastCost 5 = .ok (.isub, 1) := by decide +kernel
theorem dX1_leastCost_6 : decode cX1_leastCost 6 = .ok (.istore 4, 2) := by decide +kernel
theorem dX1_leastCost_8 : decode cX1_leastCost 8 = .ok (.iload 4, 2) := by decide +kernel
theorem dX1_leastCost_10 : decode cX1_leastCost 10 = .ok (.ifCond .lt 168, 3) := by decide +kernel
theorem dX1_leastCost_13 : decode cX1_leastCost 13 = .ok (.aload_n 0, 1) := by decide +kernel
theorem dX1_leastCost_14 : decode cX1_leastCost 14 = .ok (.getfield 25, 3) := by decide +kernel
theorem dX1_leastCost_17 : decode cX1_leastCost 17 = .ok (.iconst 0, 1) := by decide +kernel
theorem dX1_leastCost_18 : decode cX1_leastCost 18 = .ok (.aload_n 0, 1) := by decide +kernel
theorem dX1_leastCost_19 : decode cX1_leastCost 19 = .ok (.getfield 28, 3) := by decide +kernel
theorem dX1_leastCost_22 : decode cX1_leastCost 22 = .ok (.iconst 0, 1) := by decide +kernel
theorem dX1_leastCost_23 : decode cX1_leastCost 23 = .ok (.sipush 199, 3) := by decide +kernel
theorem dX1_leastCost_26 : decode cX1_leastCost 26 = .ok (.invokestatic 51, 3) := by decide +kernel
theorem dX1_leastCost_29 : decode cX1_leastCost 29 = .ok (.iconst 0, 1) := by decide +kernel
theorem dX1_leastCost_30 : decode cX1_leastCost 30 = .ok (.istore 5, 2) := by decide +kernel
theorem dX1_leastCost_32 : decode cX1_leastCost 32 = .ok (.iconst 0, 1) := by decide +kernel
theorem dX1_leastCost_33 : decode cX1_leastCost 33 = .ok (.istore 6, 2) := by decide +kernel
theorem dX1_leastCost_35 : decode cX1_leastCost 35 = .ok (.iload 6, 2) := by decide +kernel
theorem dX1_leastCost_37 : decode cX1_leastCost 37 = .ok (.iload_n 1, 1) := by decide +kernel
theorem dX1_leastCost_38 : decode cX1_leastCost 38 = .ok (.if_icmp .ge 125, 3) := by decide +kernel
theorem dX1_leastCost_41 : decode cX1_leastCost 41 = .ok (.iload 6, 2) := by decide +kernel
theorem dX1_leastCost_43 : decode cX1_leastCost 43 = .ok (.sipush 199, 3) := by decide +kernel
theorem dX1_leastCost_46 : decode cX1_leastCost 46 = .ok (.if_icmp .ge 117, 3) := by decide +kernel
theorem dX1_leastCost_49 : decode cX1_leastCost 49 = .ok (.aload_n 0, 1) := by decide +kernel
theorem dX1_leastCost_50 : decode cX1_leastCost 50 = .ok (.getfield 25, 3) := by decide +kernel
theorem dX1_leastCost_53 : decode cX1_leastCost 53 = .ok (.iload 6, 2) := by decide +kernel
theorem dX1_leastCost_55 : decode cX1_leastCost 55 = .ok (.iload_n 3, 1) := by decide +kernel
theorem dX1_leastCost_56 : decode cX1_leastCost 56 = .ok (.ifCond .eq 14, 3) := by decide +kernel
theorem dX1_leastCost_59 : decode cX1_leastCost 59 = .ok (.aload_n 0, 1) := by decide +kernel
theorem dX1_leastCost_60 : decode cX1_leastCost 60 = .ok (.iload 4, 2) := by decide +kernel
theorem dX1_leastCost_62 : decode cX1_leastCost 62 = .ok (.iload 6, 2) := by decide +kernel
theorem dX1_leastCost_64 : decode cX1_leastCost 64 = .ok (.invokevirtual 87, 3) := by decide +kernel
theorem dX1_leastCost_67 : decode cX1_leastCost 67 = .ok (.goto 11, 3) := by decide +kernel
theorem dX1_leastCost_70 : decode cX1_leastCost 70 = .ok (.aload_n 0, 1) := by decide +kernel
theorem dX1_leastCost_71 : decode cX1_leastCost 71 = .ok (.iload 4, 2) := by decide +kernel
theorem dX1_leastCost_73 : decode cX1_leastCost 73 = .ok (.iload 6, 2) := by decide +kernel
theorem dX1_leastCost_75 : decode cX1_leastCost 75 = .ok (.invokevirtual 91, 3) := by decide +kernel
theorem dX1_leastCost_78 : decode cX1_leastCost 78 = .ok (.iastore, 1) := by decide +kernel
theorem dX1_leastCost_79 : decode cX1_leastCost 79 = .ok (.iload 4, 2) := by decide +kernel
theorem dX1_leastCost_81 : decode cX1_leastCost 81 = .ok (.iconst 1, 1) := by decide +kernel
theorem dX1_leastCost_82 : decode cX1_leastCost 82 = .ok (.iadd, 1) := by decide +kernel
theorem dX1_leastCost_83 : decode cX1_leastCost 83 = .ok (.aload_n 0, 1) := by decide +kernel
theorem dX1_leastCost_84 : decode cX1_leastCost 84 = .ok (.getfield 44, 3) := by decide +kernel
theorem dX1_leastCost_87 : decode cX1_leastCost 87 = .ok (.if_icmp .ge 49, 3) := by decide +kernel
theorem dX1_leastCost_90 : decode cX1_leastCost 90 = .ok (.aload_n 0, 1) := by decide +kernel
theorem dX1_leastCost_91 : decode cX1_leastCost 91 = .ok (.getfield 31, 3) := by decide +kernel
theorem dX1_leastCost_94 : decode cX1_leastCost 94 = .ok (.iload 4, 2) := by decide +kernel
theorem dX1_leastCost_96 : decode cX1_leastCost 96 = .ok (.iconst 1, 1) := by decide +kernel
theorem dX1_leastCost_97 : decode cX1_leastCost 97 = .ok (.iadd, 1) := by decide +kernel
theorem dX1_leastCost_98 : decode cX1_leastCost 98 = .ok (.iaload, 1) := by decide +kernel
theorem dX1_leastCost_99 : decode cX1_leastCost 99 = .ok (.iload 6, 2) := by decide +kernel
theorem dX1_leastCost_101 : decode cX1_leastCost 101 = .ok (.iload_n 2, 1) := by decide +kernel
theorem dX1_leastCost_102 : decode cX1_leastCost 102 = .ok (.isub, 1) := by decide +kernel
theorem dX1_leastCost_103 : decode cX1_leastCost 103 = .ok (.iload 6, 2) := by decide +kernel
theorem dX1_leastCost_105 : decode cX1_leastCost 105 = .ok (.iload_n 2, 1) := by decide +kernel
theorem dX1_leastCost_106 : decode cX1_leastCost 106 = .ok (.iadd, 1) := by decide +kernel
theorem dX1_leastCost_107 : decode cX1_leastCost 107 = .ok (.invokestatic 38, 3) := by decide +kernel
theorem dX1_leastCost_110 : decode cX1_leastCost 110 = .ok (.istore 7, 2) := by decide +kernel
theorem dX1_leastCost_112 : decode cX1_leastCost 112 = .ok (.aload_n 0, 1) := by decide +kernel
theorem dX1_leastCost_113 : decode cX1_leastCost 113 = .ok (.getfield 25, 3) := by decide +kernel
theorem dX1_leastCost_116 : decode cX1_leastCost 116 = .ok (.iload 6, 2) := by decide +kernel
theorem dX1_leastCost_118 : decode cX1_leastCost 118 = .ok (.dup2, 1) := by decide +kernel
theorem dX1_leastCost_119 : decode cX1_leastCost 119 = .ok (.iaload, 1) := by decide +kernel
theorem dX1_leastCost_120 : decode cX1_leastCost 120 = .ok (.aload_n 0, 1) := by decide +kernel
theorem dX1_leastCost_121 : decode cX1_leastCost 121 = .ok (.getfield 28, 3) := by decide +kernel
theorem dX1_leastCost_124 : decode cX1_leastCost 124 = .ok (.iload 7, 2) := by decide +kernel
theorem dX1_leastCost_126 : decode cX1_leastCost 126 = .ok (.iconst 0, 1) := by decide +kernel
theorem dX1_leastCost_127 : decode cX1_leastCost 127 = .ok (.sipush 198, 3) := by decide +kernel
theorem dX1_leastCost_130 : decode cX1_leastCost 130 = .ok (.invokestatic 38, 3) := by decide +kernel
theorem dX1_leastCost_133 : decode cX1_leastCost 133 = .ok (.iaload, 1) := by decide +kernel
theorem dX1_leastCost_134 : decode cX1_leastCost 134 = .ok (.iadd, 1) := by decide +kernel
theorem dX1_leastCost_135 : decode cX1_leastCost 135 = .ok (.iastore, 1) := by decide +kernel
theorem dX1_leastCost_136 : decode cX1_leastCost 136 = .ok (.aload_n 0, 1) := by decide +kernel
theorem dX1_leastCost_137 : decode cX1_leastCost 137 = .ok (.getfield 25, 3) := by decide +kernel
theorem dX1_leastCost_140 : decode cX1_leastCost 140 = .ok (.iload 6, 2) := by decide +kernel
theorem dX1_leastCost_142 : decode cX1_leastCost 142 = .ok (.iaload, 1) := by decide +kernel
theorem dX1_leastCost_143 : decode cX1_leastCost 143 = .ok (.aload_n 0, 1) := by decide +kernel
theorem dX1_leastCost_144 : decode cX1_leastCost 144 = .ok (.getfield 25, 3) := by decide +kernel
theorem dX1_leastCost_147 : decode cX1_leastCost 147 = .ok (.iload 5, 2) := by decide +kernel
theorem dX1_leastCost_149 : decode cX1_leastCost 149 = .ok (.iaload, 1) := by decide +kernel
theorem dX1_leastCost_150 : decode cX1_leastCost 150 = .ok (.if_icmp .ge 7, 3) := by decide +kernel
theorem dX1_leastCost_153 : decode cX1_leastCost 153 = .ok (.iload 6, 2) := by decide +kernel
theorem dX1_leastCost_155 : decode cX1_leastCost 155 = .ok (.istore 5, 2) := by decide +kernel
theorem dX1_leastCost_157 : decode cX1_leastCost 157 = .ok (.iinc 6 1, 3) := by decide +kernel
theorem dX1_leastCost_160 : decode cX1_leastCost 160 = .ok (.goto (-125), 3) := by decide +kernel
theorem dX1_leastCost_163 : decode cX1_leastCost 163 = .ok (.aload_n 0, 1) := by decide +kernel
theorem dX1_leastCost_164 : decode cX1_leastCost 164 = .ok (.getfield 31, 3) := by decide +kernel
theorem dX1_leastCost_167 : decode cX1_leastCost 167 = .ok (.iload 4, 2) := by decide +kernel
theorem dX1_leastCost_169 : decode cX1_leastCost 169 = .ok (.iload 5, 2) := by decide +kernel
theorem dX1_leastCost_171 : decode cX1_leastCost 171 = .ok (.iastore, 1) := by decide +kernel
theorem dX1_leastCost_172 : decode cX1_leastCost 172 = .ok (.iinc 4 (-1), 3) := by decide +kernel
theorem dX1_leastCost_175 : decode cX1_leastCost 175 = .ok (.goto (-167), 3) := by decide +kernel
theorem dX1_leastCost_178 : decode cX1_leastCost 178 = .ok (.aload_n 0, 1) := by decide +kernel
theorem dX1_leastCost_179 : decode cX1_leastCost 179 = .ok (.getfield 25, 3) := by decide +kernel
theorem dX1_leastCost_182 : decode cX1_leastCost 182 = .ok (.aload_n 0, 1) := by decide +kernel
theorem dX1_leastCost_183 : decode cX1_leastCost 183 = .ok (.getfield 31, 3) := by decide +kernel
theorem dX1_leastCost_186 : decode cX1_leastCost 186 = .ok (.iconst 0, 1) := by decide +kernel
theorem dX1_leastCost_187 : decode cX1_leastCost 187 = .ok (.iaload, 1) := by decide +kernel
theorem dX1_leastCost_188 : decode cX1_leastCost 188 = .ok (.iconst 0, 1) := by decide +kernel
theorem dX1_leastCost_189 : decode cX1_leastCost 189 = .ok (.sipush 198, 3) := by decide +kernel
theorem dX1_leastCost_192 : decode cX1_leastCost 192 = .ok (.invokestatic 38, 3) := by decide +kernel
theorem dX1_leastCost_195 : decode cX1_leastCost 195 = .ok (.iaload, 1) := by decide +kernel
theorem dX1_leastCost_196 : decode cX1_leastCost 196 = .ok (.ireturn, 1) := by decide +kernel
theorem dX1_levelCostAt_0 : decode cX1_levelCostAt 0 = .ok (.aload_n 0, 1) := by decide +kernel
theorem dX1_levelCostAt_1 : decode cX1_levelCostAt 1 = .ok (.getfield 9, 3) := by decide +kernel
theorem dX1_levelCostAt_4 : decode cX1_levelCostAt 4 = .ok (.iload_n 1, 1) := by decide +kernel
theorem dX1_levelCostAt_5 : decode cX1_levelCostAt 5 = .ok (.iaload, 1) := by decide +kernel
theorem dX1_levelCostAt_6 : decode cX1_levelCostAt 6 = .ok (.iload_n 2, 1) := by decide +kernel
theorem dX1_levelCostAt_7 : decode cX1_levelCostAt 7 = .ok (.isub, 1) := by decide +kernel
theorem dX1_levelCostAt_8 : decode cX1_levelCostAt 8 = .ok (.istore_n 3, 1) := by decide +kernel
theorem dX1_levelCostAt_9 : decode cX1_levelCostAt 9 = .ok (.iload_n 3, 1) := by decide +kernel
theorem dX1_levelCostAt_10 : decode cX1_levelCostAt 10 = .ok (.ifCond .le 14, 3) := by decide +kernel
theorem dX1_levelCostAt_13 : decode cX1_levelCostAt 13 = .ok (.aload_n 0, 1) := by decide +kernel
theorem dX1_levelCostAt_14 : decode cX1_levelCostAt 14 = .ok (.getfield 19, 3) := by decide +kernel
theorem dX1_levelCostAt_17 : decode cX1_levelCostAt 17 = .ok (.iconst 1, 1) := by decide +kernel
theorem dX1_levelCostAt_18 : decode cX1_levelCostAt 18 = .ok (.iaload, 1) := by decide +kernel
theorem dX1_levelCostAt_19 : decode cX1_levelCostAt 19 = .ok (.iload_n 3, 1) := by decide +kernel
theorem dX1_levelCostAt_20 : decode cX1_levelCostAt 20 = .ok (.imul, 1) := by decide +kernel
theorem dX1_levelCostAt_21 : decode cX1_levelCostAt 21 = .ok (.goto 12, 3) := by decide +kernel
theorem dX1_levelCostAt_24 : decode cX1_levelCostAt 24 = .ok (.aload_n 0, 1) := by decide +kernel
theorem dX1_levelCostAt_25 : decode cX1_levelCostAt 25 = .ok (.getfield 19, 3) := by decide +kernel
theorem dX1_levelCostAt_28 : decode cX1_levelCostAt 28 = .ok (.iconst 2, 1) := by decide +kernel
theorem dX1_levelCostAt_29 : decode cX1_levelCostAt 29 = .ok (.iaload, 1) := by decide +kernel
theorem dX1_levelCostAt_30 : decode cX1_levelCostAt 30 = .ok (.iload_n 3, 1) := by decide +kernel
theorem dX1_levelCostAt_31 : decode cX1_levelCostAt 31 = .ok (.ineg, 1) := by decide +kernel
theorem dX1_levelCostAt_32 : decode cX1_levelCostAt 32 = .ok (.imul, 1) := by decide +kernel
theorem dX1_levelCostAt_33 : decode cX1_levelCostAt 33 = .ok (.ireturn, 1) := by decide +kernel
theorem dX1_haulCostAt_0 : decode cX1_haulCostAt 0 = .ok (.aload_n 0, 1) := by decide +kernel
theorem dX1_haulCostAt_1 : decode cX1_haulCostAt 1 = .ok (.iload_n 1, 1) := by decide +kernel
theorem dX1_haulCostAt_2 : decode cX1_haulCostAt 2 = .ok (.invokevirtual 61, 3) := by decide +kernel
theorem dX1_haulCostAt_5 : decode cX1_haulCostAt 5 = .ok (.iload_n 2, 1) := by decide +kernel
theorem dX1_haulCostAt_6 : decode cX1_haulCostAt 6 = .ok (.aload_n 0, 1) := by decide +kernel
theorem dX1_haulCostAt_7 : decode cX1_haulCostAt 7 = .ok (.getfield 19, 3) := by decide +kernel
theorem dX1_haulCostAt_10 : decode cX1_haulCostAt 10 = .ok (.iconst 4, 1) := by decide +kernel
theorem dX1_haulCostAt_11 : decode cX1_haulCostAt 11 = .ok (.iaload, 1) := by decide +kernel
theorem dX1_haulCostAt_12 : decode cX1_haulCostAt 12 = .ok (.isub, 1) := by decide +kernel
theorem dX1_haulCostAt_13 : decode cX1_haulCostAt 13 = .ok (.imul, 1) := by decide +kernel
theorem dX1_haulCostAt_14 : decode cX1_haulCostAt 14 = .ok (.ireturn, 1) := by decide +kernel
theorem dX2_init_0 : decode cX2_init 0 = .ok (.aload_n 0, 1) := by decide +kernel
theorem dX2_init_1 : decode cX2_init 1 = .ok (.invokespecial 3, 3) := by decide +kernel
theorem dX2_init_4 : decode cX2_init 4 = .ok (.aload_n 0, 1) := by decide +kernel
theorem dX2_init_5 : decode cX2_init 5 = .ok (.new 9, 3) := by decide +kernel
theorem dX2_init_8 : decode cX2_init 8 = .ok (.dup, 1) := by decide +kernel
theorem dX2_init_9 : decode cX2_init 9 = .ok (.invokespecial 11, 3) := by decide +kernel
theorem dX2_init_12 : decode cX2_init 12 = .ok (.putfield 12, 3) := by decide +kernel
theorem dX2_init_15 : decode cX2_init 15 = .ok (.aload_n 0, 1) := by decide +kernel
theorem dX2_init_16 : decode cX2_init 16 = .ok (.new 18, 3) := by decide +kernel
theorem dX2_init_19 : decode cX2_init 19 = .ok (.dup, 1) := by decide +kernel
theorem dX2_init_20 : decode cX2_init 20 = .ok (.invokespecial 20, 3) := by decide +kernel
theorem dX2_init_23 : decode cX2_init 23 = .ok (.putfield 21, 3) := by decide +kernel
theorem dX2_init_26 : decode cX2_init 26 = .ok (.aload_n 0, 1) := by decide +kernel
theorem dX2_init_27 : decode cX2_init 27 = .ok (.new 25, 3) := by decide +kernel
theorem dX2_init_30 : decode cX2_init 30 = .ok (.dup, 1) := by decide +kernel
theorem dX2_init_31 : decode cX2_init 31 = .ok (.invokespecial 27, 3) := by decide +kernel
theorem dX2_init_34 : decode cX2_init 34 = .ok (.putfield 28, 3) := by decide +kernel
theorem dX2_init_37 : decode cX2_init 37 = .ok (.aload_n 0, 1) := by decide +kernel
theorem dX2_init_38 : decode cX2_init 38 = .ok (.new 32, 3) := by decide +kernel
theorem dX2_init_41 : decode cX2_init 41 = .ok (.dup, 1) := by decide +kernel
theorem dX2_init_42 : decode cX2_init 42 = .ok (.invokespecial 34, 3) := by decide +kernel
theorem dX2_init_45 : decode cX2_init 45 = .ok (.putfield 35, 3) := by decide +kernel
theorem dX2_init_48 : decode cX2_init 48 = .ok (.aload_n 0, 1) := by decide +kernel
theorem dX2_init_49 : decode cX2_init 49 = .ok (.new 39, 3) := by decide +kernel
theorem dX2_init_52 : decode cX2_init 52 = .ok (.dup, 1) := by decide +kernel
theorem dX2_init_53 : decode cX2_init 53 = .ok (.invokespecial 41, 3) := by decide +kernel
theorem dX2_init_56 : decode cX2_init 56 = .ok (.putfield 42, 3) := by decide +kernel
theorem dX2_init_59 : decode cX2_init 59 = .ok (.aload_n 0, 1) := by decide +kernel
theorem dX2_init_60 : decode cX2_init 60 = .ok (.new 46, 3) := by decide +kernel
theorem dX2_init_63 : decode cX2_init 63 = .ok (.dup, 1) := by decide +kernel
theorem dX2_init_64 : decode cX2_init 64 = .ok (.invokespecial 48, 3) := by decide +kernel
theorem dX2_init_67 : decode cX2_init 67 = .ok (.putfield 49, 3) := by decide +kernel
theorem dX2_init_70 : decode cX2_init 70 = .ok (.aload_n 0, 1) := by decide +kernel
theorem dX2_init_71 : decode cX2_init 71 = .ok (.sipush 2000, 3) := by decide +kernel
theorem dX2_init_74 : decode cX2_init 74 = .ok (.newarray .int, 2) := by decide +kernel
theorem dX2_init_76 : decode cX2_init 76 = .ok (.putfield 53, 3) := by decide +kernel
theorem dX2_init_79 : decode cX2_init 79 = .ok (.return_, 1) := by decide +kernel
theorem dX2_takeFrom_0 : decode cX2_takeFrom 0 = .ok (.aload_n 0, 1) := by decide +kernel
theorem dX2_takeFrom_1 : decode cX2_takeFrom 1 = .ok (.getfield 12, 3) := by decide +kernel
theorem dX2_takeFrom_4 : decode cX2_takeFrom 4 = .ok (.aload_n 1, 1) := by decide +kernel
theorem dX2_takeFrom_5 : decode cX2_takeFrom 5 = .ok (.getfield 12, 3) := by decide +kernel
theorem dX2_takeFrom_8 : decode cX2_takeFrom 8 = .ok (.invokevirtual 57, 3) := by decide +kernel
theorem dX2_takeFrom_11 : decode cX2_takeFrom 11 = .ok (.aload_n 0, 1) := by decide +kernel
theorem dX2_takeFrom_12 : decode cX2_takeFrom 12 = .ok (.getfield 21, 3) := by decide +kernel
theorem dX2_takeFrom_15 : decode cX2_takeFrom 15 = .ok (.aload_n 1, 1) := by decide +kernel
theorem dX2_takeFrom_16 : decode cX2_takeFrom 16 = .ok (.getfield 21, 3) := by decide +kernel
theorem dX2_takeFrom_19 : decode cX2_takeFrom 19 = .ok (.invokevirtual 61, 3) := by decide +kernel
theorem dX2_takeFrom_22 : decode cX2_takeFrom 22 = .ok (.aload_n 0, 1) := by decide +kernel
theorem dX2_takeFrom_23 : decode cX2_takeFrom 23 = .ok (.getfield 28, 3) := by decide +kernel
theorem dX2_takeFrom_26 : decode cX2_takeFrom 26 = .ok (.aload_n 1, 1) := by decide +kernel
theorem dX2_takeFrom_27 : decode cX2_takeFrom 27 = .ok (.getfield 28, 3) := by decide +kernel
theorem dX2_takeFrom_30 : decode cX2_takeFrom 30 = .ok (.invokevirtual 64, 3) := by decide +kernel
theorem dX2_takeFrom_33 : decode cX2_takeFrom 33 = .ok (.aload_n 0, 1) := by decide +kernel
theorem dX2_takeFrom_34 : decode cX2_takeFrom 34 = .ok (.getfield 35, 3) := by decide +kernel
theorem dX2_takeFrom_37 : decode cX2_takeFrom 37 = .ok (.aload_n 1, 1) := by decide +kernel
theorem dX2_takeFrom_38 : decode cX2_takeFrom 38 = .ok (.getfield 35, 3) := by decide +kernel
theorem dX2_takeFrom_41 : decode cX2_takeFrom 41 = .ok (.invokevirtual 67, 3) := by decide +kernel
theorem dX2_takeFrom_44 : decode cX2_takeFrom 44 = .ok (.aload_n 0, 1) := by decide +kernel
theorem dX2_takeFrom_45 : decode cX2_takeFrom 45 = .ok (.getfield 42, 3) := by decide +kernel
theorem dX2_takeFrom_48 : decode cX2_takeFrom 48 = .ok (.aload_n 1, 1) := by decide +kernel
theorem dX2_takeFrom_49 : decode cX2_takeFrom 49 = .ok (.getfield 42, 3) := by decide +kernel
theorem dX2_takeFrom_52 : decode cX2_takeFrom 52 = .ok (.invokevirtual 70, 3) := by decide +kernel
theorem dX2_takeFrom_55 : decode cX2_takeFrom 55 = .ok (.aload_n 0, 1) := by decide +kernel
theorem dX2_takeFrom_56 : decode cX2_takeFrom 56 = .ok (.getfield 49, 3) := by decide +kernel
theorem dX2_takeFrom_59 : decode cX2_takeFrom 59 = .ok (.aload_n 1, 1) := by decide +kernel
theorem dX2_takeFrom_60 : decode cX2_takeFrom 60 = .ok (.getfield 49, 3) := by decide +kernel
theorem dX2_takeFrom_63 : decode cX2_takeFrom 63 = .ok (.invokevirtual 73, 3) := by decide +kernel
theorem dX2_takeFrom_66 : decode cX2_takeFrom 66 = .ok (.aload_n 1, 1) := by decide +kernel
theorem dX2_takeFrom_67 : decode cX2_takeFrom 67 = .ok (.getfield 53, 3) := by decide +kernel
theorem dX2_takeFrom_70 : decode cX2_takeFrom 70 = .ok (.iconst 0, 1) := by decide +kernel
theorem dX2_takeFrom_71 : decode cX2_takeFrom 71 = .ok (.aload_n 0, 1) := by decide +kernel
theorem dX2_takeFrom_72 : decode cX2_takeFrom 72 = .ok (.getfield 53, 3) := by decide +kernel
theorem dX2_takeFrom_75 : decode cX2_takeFrom 75 = .ok (.iconst 0, 1) := by decide +kernel
theorem dX2_takeFrom_76 : decode cX2_takeFrom 76 = .ok (.aload_n 0, 1) := by decide +kernel
theorem dX2_takeFrom_77 : decode cX2_takeFrom 77 = .ok (.getfield 53, 3) := by decide +kernel
theorem dX2_takeFrom_80 : decode cX2_takeFrom 80 = .ok (.arraylength, 1) := by decide +kernel
theorem dX2_takeFrom_81 : decode cX2_takeFrom 81 = .ok (.invokestatic 76, 3) := by decide +kernel
theorem dX2_takeFrom_84 : decode cX2_takeFrom 84 = .ok (.aload_n 0, 1) := by decide +kernel
theorem dX2_takeFrom_85 : decode cX2_takeFrom 85 = .ok (.aload_n 1, 1) := by decide +kernel
theorem dX2_takeFrom_86 : decode cX2_takeFrom 86 = .ok (.getfield 82, 3) := by decide +kernel
theorem dX2_takeFrom_89 : decode cX2_takeFrom 89 = .ok (.putfield 82, 3) := by decide +kernel
theorem dX2_takeFrom_92 : decode cX2_takeFrom 92 = .ok (.return_, 1) := by decide +kernel
theorem dX2_wetOn_0 : decode cX2_wetOn 0 = .ok (.iload_n 1, 1) := by decide +kernel
theorem dX2_wetOn_1 : decode cX2_wetOn 1 = .ok (.iconst 0, 1) := by decide +kernel
theorem dX2_wetOn_2 : decode cX2_wetOn 2 = .ok (.sipush 1999, 3) := by decide +kernel
theorem dX2_wetOn_5 : decode cX2_wetOn 5 = .ok (.invokestatic 86, 3) := by decide +kernel
theorem dX2_wetOn_8 : decode cX2_wetOn 8 = .ok (.ifCond .eq 12, 3) := by decide +kernel
theorem dX2_wetOn_11 : decode cX2_wetOn 11 = .ok (.aload_n 0, 1) := by decide +kernel
theorem dX2_wetOn_12 : decode cX2_wetOn 12 = .ok (.getfield 53, 3) := by decide +kernel
theorem dX2_wetOn_15 : decode cX2_wetOn 15 = .ok (.iload_n 1, 1) := by decide +kernel
theorem dX2_wetOn_16 : decode cX2_wetOn 16 = .ok (.iaload, 1) := by decide +kernel
theorem dX2_wetOn_17 : decode cX2_wetOn 17 = .ok (.goto 4, 3) := by decide +kernel
theorem dX2_wetOn_20 : decode cX2_wetOn 20 = .ok (.iconst 0, 1) := by decide +kernel
theorem dX2_wetOn_21 : decode cX2_wetOn 21 = .ok (.ireturn, 1) := by decide +kernel
theorem dX2_passDay_0 : decode cX2_passDay 0 = .ok (.aload_n 0, 1) := by decide +kernel
theorem dX2_passDay_1 : decode cX2_passDay 1 = .ok (.getfield 21, 3) := by decide +kernel
theorem dX2_passDay_4 : decode cX2_passDay 4 = .ok (.aload_n 0, 1) := by decide +kernel
theorem dX2_passDay_5 : decode cX2_passDay 5 = .ok (.getfield 12, 3) := by decide +kernel
theorem dX2_passDay_8 : decode cX2_passDay 8 = .ok (.aload_n 0, 1) := by decide +kernel
theorem dX2_passDay_9 : decode cX2_passDay 9 = .ok (.aload_n 0, 1) := by decide +kernel
theorem dX2_passDay_10 : decode cX2_passDay 10 = .ok (.getfield 82, 3) := by decide +kernel
theorem dX2_passDay_13 : decode cX2_passDay 13 = .ok (.invokevirtual 90, 3) := by decide +kernel
theorem dX2_passDay_16 : decode cX2_passDay 16 = .ok (.invokevirtual 94, 3) := by decide +kernel
theorem dX2_passDay_19 : decode cX2_passDay 19 = .ok (.aload_n 0, 1) := by decide +kernel
theorem dX2_passDay_20 : decode cX2_passDay 20 = .ok (.getfield 21, 3) := by decide +kernel
theorem dX2_passDay_23 : decode cX2_passDay 23 = .ok (.aload_n 0, 1) := by decide +kernel
theorem dX2_passDay_24 : decode cX2_passDay 24 = .ok (.getfield 12, 3) := by decide +kernel
theorem dX2_passDay_27 : decode cX2_passDay 27 = .ok (.aload_n 0, 1) := by decide +kernel
theorem dX2_passDay_28 : decode cX2_passDay 28 = .ok (.aload_n 0, 1) := by decide +kernel
theorem dX2_passDay_29 : decode cX2_passDay 29 = .ok (.getfield 82, 3) := by decide +kernel
theorem dX2_passDay_32 : decode cX2_passDay 32 = .ok (.invokevirtual 90, 3) := by decide +kernel
theorem dX2_passDay_35 : decode cX2_passDay 35 = .ok (.invokevirtual 98, 3) := by decide +kernel
theorem dX2_passDay_38 : decode cX2_passDay 38 = .ok (.aload_n 0, 1) := by decide +kernel
theorem dX2_passDay_39 : decode cX2_passDay 39 = .ok (.getfield 42, 3) := by decide +kernel
theorem dX2_passDay_42 : decode cX2_passDay 42 = .ok (.dup, 1) := by decide +kernel
theorem dX2_passDay_43 : decode cX2_passDay 43 = .ok (.getfield 101, 3) := by decide +kernel
theorem dX2_passDay_46 : decode cX2_passDay 46 = .ok (.aload_n 0, 1) := by decide +kernel
theorem dX2_passDay_47 : decode cX2_passDay 47 = .ok (.getfield 42, 3) := by decide +kernel
theorem dX2_passDay_50 : decode cX2_passDay 50 = .ok (.aload_n 0, 1) := by decide +kernel
theorem dX2_passDay_51 : decode cX2_passDay 51 = .ok (.getfield 82, 3) := by decide +kernel
theorem dX2_passDay_54 : decode cX2_passDay 54 = .ok (.invokevirtual 104, 3) := by decide +kernel
theorem dX2_passDay_57 : decode cX2_passDay 57 = .ok (.iadd, 1) := by decide +kernel
theorem dX2_passDay_58 : decode cX2_passDay 58 = .ok (.putfield 101, 3) := by decide +kernel
theorem dX2_passDay_61 : decode cX2_passDay 61 = .ok (.aload_n 0, 1) := by decide +kernel
theorem dX2_passDay_62 : decode cX2_passDay 62 = .ok (.getfield 82, 3) := by decide +kernel
theorem dX2_passDay_65 : decode cX2_passDay 65 = .ok (.iconst 1, 1) := by decide +kernel
theorem dX2_passDay_66 : decode cX2_passDay 66 = .ok (.iadd, 1) := by decide +kernel
theorem dX2_passDay_67 : decode cX2_passDay 67 = .ok (.bipush 28, 2) := by decide +kernel
theorem dX2_passDay_69 : decode cX2_passDay 69 = .ok (.irem, 1) := by decide +kernel
theorem dX2_passDay_70 : decode cX2_passDay 70 = .ok (.ifCond .ne 7, 3) := by decide +kernel
theorem dX2_passDay_73 : decode cX2_passDay 73 = .ok (.aload_n 0, 1) := by decide +kernel
theorem dX2_passDay_74 : decode cX2_passDay 74 = .ok (.invokevirtual 107, 3) := by decide +kernel
theorem dX2_passDay_77 : decode cX2_passDay 77 = .ok (.aload_n 0, 1) := by decide +kernel
theorem dX2_passDay_78 : decode cX2_passDay 78 = .ok (.dup, 1) := by decide +kernel
theorem dX2_passDay_79 : decode cX2_passDay 79 = .ok (.getfield 82, 3) := by decide +kernel
theorem dX2_passDay_82 : decode cX2_passDay 82 = .ok (.iconst 1, 1) := by decide +kernel
theorem dX2_passDay_83 : decode cX2_passDay 83 = .ok (.iadd, 1) := by decide +kernel
theorem dX2_passDay_84 : decode cX2_passDay 84 = .ok (.putfield 82, 3) := by decide +kernel
theorem dX2_passDay_87 : decode cX2_passDay 87 = .ok (.return_, 1) := by decide +kernel
theorem dX2_pay_0 : decode cX2_pay 0 = .ok (.iconst 0, 1) := by decide +kernel
theorem dX2_pay_1 : decode cX2_pay 1 = .ok (.istore_n 1, 1) := by decide +kernel
theorem dX2_pay_2 : decode cX2_pay 2 = .ok (.iload_n 1, 1) := by decide +kernel
theorem dX2_pay_3 : decode cX2_pay 3 = .ok (.aload_n 0, 1) := by decide +kernel
theorem dX2_pay_4 : decode cX2_pay 4 = .ok (.getfield 21, 3) := by decide +kernel
theorem dX2_pay_7 : decode cX2_pay 7 = .ok (.getfield 110, 3) := by decide +kernel
theorem dX2_pay_10 : decode cX2_pay 10 = .ok (.if_icmp .ge 116, 3) := by decide +kernel
theorem dX2_pay_13 : decode cX2_pay 13 = .ok (.aload_n 0, 1) := by decide +kernel
theorem dX2_pay_14 : decode cX2_pay 14 = .ok (.getfield 21, 3) := by decide +kernel
theorem dX2_pay_17 : decode cX2_pay 17 = .ok (.getfield 113, 3) := by decide +kernel
theorem dX2_pay_20 : decode cX2_pay 20 = .ok (.iload_n 1, 1) := by decide +kernel
theorem dX2_pay_21 : decode cX2_pay 21 = .ok (.aaload, 1) := by decide +kernel
theorem dX2_pay_22 : decode cX2_pay 22 = .ok (.astore_n 2, 1) := by decide +kernel
theorem dX2_pay_23 : decode cX2_pay 23 = .ok (.iconst 0, 1) := by decide +kernel
theorem dX2_pay_24 : decode cX2_pay 24 = .ok (.aload_n 2, 1) := by decide +kernel
theorem dX2_pay_25 : decode cX2_pay 25 = .ok (.invokevirtual 117, 3) := by decide +kernel
theorem dX2_pay_28 : decode cX2_pay 28 = .ok (.aload_n 2, 1) := by decide +kernel
theorem dX2_pay_29 : decode cX2_pay 29 = .ok (.getfield 123, 3) := by decide +kernel
theorem dX2_pay_32 : decode cX2_pay 32 = .ok (.isub, 1) := by decide +kernel
theorem dX2_pay_33 : decode cX2_pay 33 = .ok (.invokestatic 126, 3) := by decide +kernel
theorem dX2_pay_36 : decode cX2_pay 36 = .ok (.istore_n 3, 1) := by decide +kernel
theorem dX2_pay_37 : decode cX2_pay 37 = .ok (.iload_n 3, 1) := by decide +kernel
theorem dX2_pay_38 : decode cX2_pay 38 = .ok (.aload_n 0, 1) := by decide +kernel
theorem dX2_pay_39 : decode cX2_pay 39 = .ok (.aload_n 2, 1) := by decide +kernel
theorem dX2_pay_40 : decode cX2_pay 40 = .ok (.invokevirtual 132, 3) := by decide +kernel
theorem dX2_pay_43 : decode cX2_pay 43 = .ok (.imul, 1) := by decide +kernel
theorem dX2_pay_44 : decode cX2_pay 44 = .ok (.istore 4, 2) := by decide +kernel
theorem dX2_pay_46 : decode cX2_pay 46 = .ok (.aload_n 0, 1) := by decide +kernel
theorem dX2_pay_47 : decode cX2_pay 47 = .ok (.getfield 28, 3) := by decide +kernel
theorem dX2_pay_50 : decode cX2_pay 50 = .ok (.iconst 1, 1) := by decide +kernel
theorem dX2_pay_51 : decode cX2_pay 51 = .ok (.aload_n 0, 1) := by decide +kernel
theorem dX2_pay_52 : decode cX2_pay 52 = .ok (.getfield 82, 3) := by decide +kernel
theorem dX2_pay_55 : decode cX2_pay 55 = .ok (.aload_n 2, 1) := by decide +kernel
theorem dX2_pay_56 : decode cX2_pay 56 = .ok (.getfield 138, 3) := by decide +kernel
theorem dX2_pay_59 : decode cX2_pay 59 = .ok (.aload_n 2, 1) := by decide +kernel
theorem dX2_pay_60 : decode cX2_pay 60 = .ok (.getfield 141, 3) := by decide +kernel
theorem dX2_pay_63 : decode cX2_pay 63 = .ok (.iconst 0, 1) := by decide +kernel
theorem dX2_pay_64 : decode cX2_pay 64 = .ok (.invokevirtual 144, 3) := by decide +kernel
theorem dX2_pay_67 : decode cX2_pay 67 = .ok (.istore 5, 2) := by decide +kernel
theorem dX2_pay_69 : decode cX2_pay 69 = .ok (.iload 4, 2) := by decide +kernel
theorem dX2_pay_71 : decode cX2_pay 71 = .ok (.iload 5, 2) := by decide +kernel
theorem dX2_pay_73 : decode cX2_pay 73 = .ok (.imul, 1) := by decide +kernel
theorem dX2_pay_74 : decode cX2_pay 74 = .ok (.bipush 100, 2) := by decide +kernel
theorem dX2_pay_76 : decode cX2_pay 76 = .ok (.idiv, 1) := by decide +kernel
theorem dX2_pay_77 : decode cX2_pay 77 = .ok (.istore 6, 2) := by decide +kernel
theorem dX2_pay_79 : decode cX2_pay 79 = .ok (.aload_n 0, 1) := by decide +kernel
theorem dX2_pay_80 : decode cX2_pay 80 = .ok (.getfield 42, 3) := by decide +kernel
theorem dX2_pay_83 : decode cX2_pay 83 = .ok (.dup, 1) := by decide +kernel
theorem dX2_pay_84 : decode cX2_pay 84 = .ok (.getfield 101, 3) := by decide +kernel
theorem dX2_pay_87 : decode cX2_pay 87 = .ok (.iload 4, 2) := by decide +kernel
theorem dX2_pay_89 : decode cX2_pay 89 = .ok (.iload 6, 2) := by decide +kernel
theorem dX2_pay_91 : decode cX2_pay 91 = .ok (.isub, 1) := by decide +kernel
theorem dX2_pay_92 : decode cX2_pay 92 = .ok (.isub, 1) := by decide +kernel
theorem dX2_pay_93 : decode cX2_pay 93 = .ok (.putfield 101, 3) := by decide +kernel
theorem dX2_pay_96 : decode cX2_pay 96 = .ok (.aload_n 0, 1) := by decide +kernel
theorem dX2_pay_97 : decode cX2_pay 97 = .ok (.getfield 42, 3) := by decide +kernel
theorem dX2_pay_100 : decode cX2_pay 100 = .ok (.dup, 1) := by decide +kernel
theorem dX2_pay_101 : decode cX2_pay 101 = .ok (.getfield 148, 3) := by decide +kernel
theorem dX2_pay_104 : decode cX2_pay 104 = .ok (.iload 6, 2) := by decide +kernel
theorem dX2_pay_106 : decode cX2_pay 106 = .ok (.iadd, 1) := by decide +kernel
theorem dX2_pay_107 : decode cX2_pay 107 = .ok (.putfield 148, 3) := by decide +kernel
theorem dX2_pay_110 : decode cX2_pay 110 = .ok (.aload_n 2, 1) := by decide +kernel
theorem dX2_pay_111 : decode cX2_pay 111 = .ok (.dup, 1) := by decide +kernel
theorem dX2_pay_112 : decode cX2_pay 112 = .ok (.getfield 123, 3) := by decide +kernel
theorem dX2_pay_115 : decode cX2_pay 115 = .ok (.iload_n 3, 1) := by decide +kernel
theorem dX2_pay_116 : decode cX2_pay 116 = .ok (.iadd, 1) := by decide +kernel
theorem dX2_pay_117 : decode cX2_pay 117 = .ok (.putfield 123, 3) := by decide +kernel
theorem dX2_pay_120 : decode cX2_pay 120 = .ok (.iinc 1 1, 3) := by decide +kernel
theorem dX2_pay_123 : decode cX2_pay 123 = .ok (.goto (-121), 3) := by decide +kernel
theorem dX2_pay_126 : decode cX2_pay 126 = .ok (.return_, 1) := by decide +kernel
theorem dX2_priceOf_0 : decode cX2_priceOf 0 = .ok (.aload_n 1, 1) := by decide +kernel
theorem dX2_priceOf_1 : decode cX2_priceOf 1 = .ok (.aload_n 0, 1) := by decide +kernel
theorem dX2_priceOf_2 : decode cX2_priceOf 2 = .ok (.getfield 12, 3) := by decide +kernel
theorem dX2_priceOf_5 : decode cX2_priceOf 5 = .ok (.aload_n 1, 1) := by decide +kernel
theorem dX2_priceOf_6 : decode cX2_priceOf 6 = .ok (.getfield 151, 3) := by decide +kernel
theorem dX2_priceOf_9 : decode cX2_priceOf 9 = .ok (.invokevirtual 154, 3) := by decide +kernel
theorem dX2_priceOf_12 : decode cX2_priceOf 12 = .ok (.invokevirtual 157, 3) := by decide +kernel
theorem dX2_priceOf_15 : decode cX2_priceOf 15 = .ok (.istore_n 2, 1) := by decide +kernel
theorem dX2_priceOf_16 : decode cX2_priceOf 16 = .ok (.aload_n 0, 1) := by decide +kernel
theorem dX2_priceOf_17 : decode cX2_priceOf 17 = .ok (.getfield 28, 3) := by decide +kernel
theorem dX2_priceOf_20 : decode cX2_priceOf 20 = .ok (.iconst 0, 1) := by decide +kernel
theorem dX2_priceOf_21 : decode cX2_priceOf 21 = .ok (.aload_n 0, 1) := by decide +kernel
theorem dX2_priceOf_22 : decode cX2_priceOf 22 = .ok (.getfield 82, 3) := by decide +kernel
theorem dX2_priceOf_25 : decode cX2_priceOf 25 = .ok (.aload_n 1, 1) := by decide +kernel
theorem dX2_priceOf_26 : decode cX2_priceOf 26 = .ok (.getfield 138, 3) := by decide +kernel
theorem dX2_priceOf_29 : decode cX2_priceOf 29 = .ok (.aload_n 0, 1) := by decide +kernel
theorem dX2_priceOf_30 : decode cX2_priceOf 30 = .ok (.getfield 12, 3) := by decide +kernel
theorem dX2_priceOf_33 : decode cX2_priceOf 33 = .ok (.aload_n 1, 1) := by decide +kernel
theorem dX2_priceOf_34 : decode cX2_priceOf 34 = .ok (.getfield 151, 3) := by decide +kernel
theorem dX2_priceOf_37 : decode cX2_priceOf 37 = .ok (.invokevirtual 160, 3) := by decide +kernel
theorem dX2_priceOf_40 : decode cX2_priceOf 40 = .ok (.iload_n 2, 1) := by decide +kernel
theorem dX2_priceOf_41 : decode cX2_priceOf 41 = .ok (.invokevirtual 144, 3) := by decide +kernel
theorem dX2_priceOf_44 : decode cX2_priceOf 44 = .ok (.ireturn, 1) := by decide +kernel
theorem dX2_givenDays_0 : decode cX2_givenDays 0 = .ok (.iconst 0, 1) := by decide +kernel
theorem dX2_givenDays_1 : decode cX2_givenDays 1 = .ok (.istore_n 3, 1) := by decide +kernel
theorem dX2_givenDays_2 : decode cX2_givenDays 2 = .ok (.iload_n 3, 1) := by decide +kernel
theorem dX2_givenDays_3 : decode cX2_givenDays 3 = .ok (.iconst 4, 1) := by decide +kernel
theorem dX2_givenDays_4 : decode cX2_givenDays 4 = .ok (.if_icmp .ge 56, 3) := by decide +kernel
theorem dX2_givenDays_7 : decode cX2_givenDays 7 = .ok (.iconst 0, 1) := by decide +kernel
theorem dX2_givenDays_8 : decode cX2_givenDays 8 = .ok (.istore 4, 2) := by decide +kernel
theorem dX2_givenDays_10 : decode cX2_givenDays 10 = .ok (.iload 4, 2) := by decide +kernel
theorem dX2_givenDays_12 : decode cX2_givenDays 12 = .ok (.bipush 10, 2) := by decide +kernel
theorem dX2_givenDays_14 : decode cX2_givenDays 14 = .ok (.if_icmp .ge 40, 3) := by decide +kernel
theorem dX2_givenDays_17 : decode cX2_givenDays 17 = .ok (.aload_n 0, 1) := by decide +kernel
theorem dX2_givenDays_18 : decode cX2_givenDays 18 = .ok (.getfield 35, 3) := by decide +kernel
theorem dX2_givenDays_21 : decode cX2_givenDays 21 = .ok (.getfield 163, 3) := by decide +kernel
theorem dX2_givenDays_24 : decode cX2_givenDays 24 = .ok (.iload_n 3, 1) := by decide +kernel
theorem dX2_givenDays_25 : decode cX2_givenDays 25 = .ok (.bipush 10, 2) := by decide +kernel
theorem dX2_givenDays_27 : decode cX2_givenDays 27 = .ok (.imul, 1) := by decide +kernel
theorem dX2_givenDays_28 : decode cX2_givenDays 28 = .ok (.iload 4, 2) := by decide +kernel
theorem dX2_givenDays_30 : decode cX2_givenDays 30 = .ok (.iadd, 1) := by decide +kernel
theorem dX2_givenDays_31 : decode cX2_givenDays 31 = .ok (.aload_n 0, 1) := by decide +kernel
theorem dX2_givenDays_32 : decode cX2_givenDays 32 = .ok (.getfield 28, 3) := by decide +kernel
theorem dX2_givenDays_35 : decode cX2_givenDays 35 = .ok (.iconst 3, 1) := by decide +kernel
theorem dX2_givenDays_36 : decode cX2_givenDays 36 = .ok (.aload_n 0, 1) := by decide +kernel
theorem dX2_givenDays_37 : decode cX2_givenDays 37 = .ok (.getfield 82, 3) := by decide +kernel
theorem dX2_givenDays_40 : decode cX2_givenDays 40 = .ok (.iload_n 3, 1) := by decide +kernel
theorem dX2_givenDays_41 : decode cX2_givenDays 41 = .ok (.iload 4, 2) := by decide +kernel
theorem dX2_givenDays_43 : decode cX2_givenDays 43 = .ok (.iconst 0, 1) := by decide +kernel
theorem dX2_givenDays_44 : decode cX2_givenDays 44 = .ok (.invokevirtual 144, 3) := by decide +kernel
theorem dX2_givenDays_47 : decode cX2_givenDays 47 = .ok (.iastore, 1) := by decide +kernel
theorem dX2_givenDays_48 : decode cX2_givenDays 48 = .ok (.iinc 4 1, 3) := by decide +kernel
theorem dX2_givenDays_51 : decode cX2_givenDays 51 = .ok (.goto (-41), 3) := by decide +kernel
theorem dX2_givenDays_54 : decode cX2_givenDays 54 = .ok (.iinc 3 1, 3) := by decide +kernel
theorem dX2_givenDays_57 : decode cX2_givenDays 57 = .ok (.goto (-55), 3) := by decide +kernel
theorem dX2_givenDays_60 : decode cX2_givenDays 60 = .ok (.aload_n 0, 1) := by decide +kernel
theorem dX2_givenDays_61 : decode cX2_givenDays 61 = .ok (.getfield 35, 3) := by decide +kernel
theorem dX2_givenDays_64 : decode cX2_givenDays 64 = .ok (.iload_n 1, 1) := by decide +kernel
theorem dX2_givenDays_65 : decode cX2_givenDays 65 = .ok (.iload_n 2, 1) := by decide +kernel
theorem dX2_givenDays_66 : decode cX2_givenDays 66 = .ok (.aload_n 0, 1) := by decide +kernel
theorem dX2_givenDays_67 : decode cX2_givenDays 67 = .ok (.getfield 53, 3) := by decide +kernel
theorem dX2_givenDays_70 : decode cX2_givenDays 70 = .ok (.invokevirtual 166, 3) := by decide +kernel
theorem dX2_givenDays_73 : decode cX2_givenDays 73 = .ok (.ireturn, 1) := by decide +kernel
theorem dX2_howMany_0 : decode cX2_howMany 0 = .ok (.iload_n 1, 1) := by decide +kernel
theorem dX2_howMany_1 : decode cX2_howMany 1 = .ok (.tableswitch 138 0 9 #[55, 63, 71, 82, 90, 98, 106, 114, 122, 130], 55) := by decide +kernel
theorem dX2_howMany_56 : decode cX2_howMany 56 = .ok (.aload_n 0, 1) := by decide +kernel
theorem dX2_howMany_57 : decode cX2_howMany 57 = .ok (.getfield 12, 3) := by decide +kernel
theorem dX2_howMany_60 : decode cX2_howMany 60 = .ok (.getfield 170, 3) := by decide +kernel
theorem dX2_howMany_63 : decode cX2_howMany 63 = .ok (.ireturn, 1) := by decide +kernel
theorem dX2_howMany_64 : decode cX2_howMany 64 = .ok (.aload_n 0, 1) := by decide +kernel
theorem dX2_howMany_65 : decode cX2_howMany 65 = .ok (.getfield 21, 3) := by decide +kernel
theorem dX2_howMany_68 : decode cX2_howMany 68 = .ok (.getfield 110, 3) := by decide +kernel
theorem dX2_howMany_71 : decode cX2_howMany 71 = .ok (.ireturn, 1) := by decide +kernel
theorem dX2_howMany_72 : decode cX2_howMany 72 = .ok (.aload_n 0, 1) := by decide +kernel
theorem dX2_howMany_73 : decode cX2_howMany 73 = .ok (.getfield 21, 3) := by decide +kernel
theorem dX2_howMany_76 : decode cX2_howMany 76 = .ok (.invokevirtual 171, 3) := by decide +kernel
theorem dX2_howMany_79 : decode cX2_howMany 79 = .ok (.invokestatic 174, 3) := by decide +kernel
theorem dX2_howMany_82 : decode cX2_howMany 82 = .ok (.ireturn, 1) := by decide +kernel
theorem dX2_howMany_83 : decode cX2_howMany 83 = .ok (.aload_n 0, 1) := by decide +kernel
theorem dX2_howMany_84 : decode cX2_howMany 84 = .ok (.getfield 21, 3) := by decide +kernel
theorem dX2_howMany_87 : decode cX2_howMany 87 = .ok (.invokevirtual 179, 3) := by decide +kernel
theorem dX2_howMany_90 : decode cX2_howMany 90 = .ok (.ireturn, 1) := by decide +kernel
theorem dX2_howMany_91 : decode cX2_howMany 91 = .ok (.aload_n 0, 1) := by decide +kernel
theorem dX2_howMany_92 : decode cX2_howMany 92 = .ok (.getfield 21, 3) := by decide +kernel
theorem dX2_howMany_95 : decode cX2_howMany 95 = .ok (.getfield 182, 3) := by decide +kernel
theorem dX2_howMany_98 : decode cX2_howMany 98 = .ok (.ireturn, 1) := by decide +kernel
theorem dX2_howMany_99 : decode cX2_howMany 99 = .ok (.aload_n 0, 1) := by decide +kernel
theorem dX2_howMany_100 : decode cX2_howMany 100 = .ok (.getfield 28, 3) := by decide +kernel
theorem dX2_howMany_103 : decode cX2_howMany 103 = .ok (.getfield 185, 3) := by decide +kernel
theorem dX2_howMany_106 : decode cX2_howMany 106 = .ok (.ireturn, 1) := by decide +kernel
theorem dX2_howMany_107 : decode cX2_howMany 107 = .ok (.aload_n 0, 1) := by decide +kernel
theorem dX2_howMany_108 : decode cX2_howMany 108 = .ok (.getfield 35, 3) := by decide +kernel
theorem dX2_howMany_111 : decode cX2_howMany 111 = .ok (.getfield 186, 3) := by decide +kernel
theorem dX2_howMany_114 : decode cX2_howMany 114 = .ok (.ireturn, 1) := by decide +kernel
theorem dX2_howMany_115 : decode cX2_howMany 115 = .ok (.aload_n 0, 1) := by decide +kernel
theorem dX2_howMany_116 : decode cX2_howMany 116 = .ok (.getfield 42, 3) := by decide +kernel
theorem dX2_howMany_119 : decode cX2_howMany 119 = .ok (.getfield 187, 3) := by decide +kernel
theorem dX2_howMany_122 : decode cX2_howMany 122 = .ok (.ireturn, 1) := by decide +kernel
theorem dX2_howMany_123 : decode cX2_howMany 123 = .ok (.aload_n 0, 1) := by decide +kernel
theorem dX2_howMany_124 : decode cX2_howMany 124 = .ok (.getfield 49, 3) := by decide +kernel
theorem dX2_howMany_127 : decode cX2_howMany 127 = .ok (.getfield 188, 3) := by decide +kernel
theorem dX2_howMany_130 : decode cX2_howMany 130 = .ok (.ireturn, 1) := by decide +kernel
theorem dX2_howMany_131 : decode cX2_howMany 131 = .ok (.aload_n 0, 1) := by decide +kernel
theorem dX2_howMany_132 : decode cX2_howMany 132 = .ok (.getfield 49, 3) := by decide +kernel
theorem dX2_howMany_135 : decode cX2_howMany 135 = .ok (.getfield 191, 3) := by decide +kernel
theorem dX2_howMany_138 : decode cX2_howMany 138 = .ok (.ireturn, 1) := by decide +kernel
theorem dX2_howMany_139 : decode cX2_howMany 139 = .ok (.ldc 194, 2) := by decide +kernel
theorem dX2_howMany_141 : decode cX2_howMany 141 = .ok (.ireturn, 1) := by decide +kernel
theorem dX3_init_0 : decode cX3_init 0 = .ok (.aload_n 0, 1) := by decide +kernel
theorem dX3_init_1 : decode cX3_init 1 = .ok (.invokespecial 3, 3) := by decide +kernel
theorem dX3_init_4 : decode cX3_init 4 = .ok (.aload_n 0, 1) := by decide +kernel
theorem dX3_init_5 : decode cX3_init 5 = .ok (.bipush 6, 2) := by decide +kernel
theorem dX3_init_7 : decode cX3_init 7 = .ok (.newarray .int, 2) := by decide +kernel
theorem dX3_init_9 : decode cX3_init 9 = .ok (.putfield 11, 3) := by decide +kernel
theorem dX3_init_12 : decode cX3_init 12 = .ok (.aload_n 0, 1) := by decide +kernel
theorem dX3_init_13 : decode cX3_init 13 = .ok (.bipush 6, 2) := by decide +kernel
theorem dX3_init_15 : decode cX3_init 15 = .ok (.newarray .int, 2) := by decide +kernel
theorem dX3_init_17 : decode cX3_init 17 = .ok (.putfield 15, 3) := by decide +kernel
theorem dX3_init_20 : decode cX3_init 20 = .ok (.aload_n 0, 1) := by decide +kernel
theorem dX3_init_21 : decode cX3_init 21 = .ok (.bipush 8, 2) := by decide +kernel
theorem dX3_init_23 : decode cX3_init 23 = .ok (.newarray .int, 2) := by decide +kernel
theorem dX3_init_25 : decode cX3_init 25 = .ok (.putfield 18, 3) := by decide +kernel
theorem dX3_init_28 : decode cX3_init 28 = .ok (.aload_n 0, 1) := by decide +kernel
theorem dX3_init_29 : decode cX3_init 29 = .ok (.sipush 256, 3) := by decide +kernel
theorem dX3_init_32 : decode cX3_init 32 = .ok (.newarray .int, 2) := by decide +kernel
theorem dX3_init_34 : decode cX3_init 34 = .ok (.putfield 21, 3) := by decide +kernel
theorem dX3_init_37 : decode cX3_init 37 = .ok (.return_, 1) := by decide +kernel
theorem dX3_takeFrom_0 : decode cX3_takeFrom 0 = .ok (.aload_n 0, 1) := by decide +kernel
theorem dX3_takeFrom_1 : decode cX3_takeFrom 1 = .ok (.aload_n 1, 1) := by decide +kernel
theorem dX3_takeFrom_2 : decode cX3_takeFrom 2 = .ok (.getfield 24, 3) := by decide +kernel
theorem dX3_takeFrom_5 : decode cX3_takeFrom 5 = .ok (.putfield 24, 3) := by decide +kernel
theorem dX3_takeFrom_8 : decode cX3_takeFrom 8 = .ok (.aload_n 1, 1) := by decide +kernel
theorem dX3_takeFrom_9 : decode cX3_takeFrom 9 = .ok (.getfield 11, 3) := by decide +kernel
theorem dX3_takeFrom_12 : decode cX3_takeFrom 12 = .ok (.iconst 0, 1) := by decide +kernel
theorem dX3_takeFrom_13 : decode cX3_takeFrom 13 = .ok (.aload_n 0, 1) := by decide +kernel
theorem dX3_takeFrom_14 : decode cX3_takeFrom 14 = .ok (.getfield 11, 3) := by decide +kernel
theorem dX3_takeFrom_17 : decode cX3_takeFrom 17 = .ok (.iconst 0, 1) := by decide +kernel
theorem dX3_takeFrom_18 : decode cX3_takeFrom 18 = .ok (.bipush 6, 2) := by decide +kernel
theorem dX3_takeFrom_20 : decode cX3_takeFrom 20 = .ok (.invokestatic 28, 3) := by decide +kernel
theorem dX3_takeFrom_23 : decode cX3_takeFrom 23 = .ok (.aload_n 1, 1) := by decide +kernel
theorem dX3_takeFrom_24 : decode cX3_takeFrom 24 = .ok (.getfield 15, 3) := by decide +kernel
theorem dX3_takeFrom_27 : decode cX3_takeFrom 27 = .ok (.iconst 0, 1) := by decide +kernel
theorem dX3_takeFrom_28 : decode cX3_takeFrom 28 = .ok (.aload_n 0, 1) := by decide +kernel
theorem dX3_takeFrom_29 : decode cX3_takeFrom 29 = .ok (.getfield 15, 3) := by decide +kernel
theorem dX3_takeFrom_32 : decode cX3_takeFrom 32 = .ok (.iconst 0, 1) := by decide +kernel
theorem dX3_takeFrom_33 : decode cX3_takeFrom 33 = .ok (.bipush 6, 2) := by decide +kernel
theorem dX3_takeFrom_35 : decode cX3_takeFrom 35 = .ok (.invokestatic 28, 3) := by decide +kernel
theorem dX3_takeFrom_38 : decode cX3_takeFrom 38 = .ok (.aload_n 0, 1) := by decide +kernel
theorem dX3_takeFrom_39 : decode cX3_takeFrom 39 = .ok (.aload_n 1, 1) := by decide +kernel
theorem dX3_takeFrom_40 : decode cX3_takeFrom 40 = .ok (.getfield 34, 3) := by decide +kernel
theorem dX3_takeFrom_43 : decode cX3_takeFrom 43 = .ok (.putfield 34, 3) := by decide +kernel
theorem dX3_takeFrom_46 : decode cX3_takeFrom 46 = .ok (.aload_n 1, 1) := by decide +kernel
theorem dX3_takeFrom_47 : decode cX3_takeFrom 47 = .ok (.getfield 18, 3) := by decide +kernel
theorem dX3_takeFrom_50 : decode cX3_takeFrom 50 = .ok (.iconst 0, 1) := by decide +kernel
theorem dX3_takeFrom_51 : decode cX3_takeFrom 51 = .ok (.aload_n 0, 1) := by decide +kernel
theorem dX3_takeFrom_52 : decode cX3_takeFrom 52 = .ok (.getfield 18, 3) := by decide +kernel
theorem dX3_takeFrom_55 : decode cX3_takeFrom 55 = .ok (.iconst 0, 1) := by decide +kernel
theorem dX3_takeFrom_56 : decode cX3_takeFrom 56 = .ok (.bipush 8, 2) := by decide +kernel
theorem dX3_takeFrom_58 : decode cX3_takeFrom 58 = .ok (.invokestatic 28, 3) := by decide +kernel
theorem dX3_takeFrom_61 : decode cX3_takeFrom 61 = .ok (.return_, 1) := by decide +kernel
theorem dX3_addFace_0 : decode cX3_addFace 0 = .ok (.aload_n 0, 1) := by decide +kernel
theorem dX3_addFace_1 : decode cX3_addFace 1 = .ok (.getfield 24, 3) := by decide +kernel
theorem dX3_addFace_4 : decode cX3_addFace 4 = .ok (.bipush 6, 2) := by decide +kernel
theorem dX3_addFace_6 : decode cX3_addFace 6 = .ok (.if_icmp .lt 6, 3) := by decide +kernel
theorem dX3_addFace_9 : decode cX3_addFace 9 = .ok (.ldc 37, 2) := by decide +kernel
theorem dX3_addFace_11 : decode cX3_addFace 11 = .ok (.ireturn, 1) := by decide +kernel
theorem dX3_addFace_12 : decode cX3_addFace 12 = .ok (.aload_n 0, 1) := by decide +kernel
theorem dX3_addFace_13 : decode cX3_addFace 13 = .ok (.getfield 11, 3) := by decide +kernel
theorem dX3_addFace_16 : decode cX3_addFace 16 = .ok (.aload_n 0, 1) := by decide +kernel
theorem dX3_addFace_17 : decode cX3_addFace 17 = .ok (.getfield 24, 3) := by decide +kernel
theorem dX3_addFace_20 : decode cX3_addFace 20 = .ok (.iload_n 1, 1) := by decide +kernel
theorem dX3_addFace_21 : decode cX3_addFace 21 = .ok (.iastore, 1) := by decide +kernel
theorem dX3_addFace_22 : decode cX3_addFace 22 = .ok (.aload_n 0, 1) := by decide +kernel
theorem dX3_addFace_23 : decode cX3_addFace 23 = .ok (.getfield 15, 3) := by decide +kernel
theorem dX3_addFace_26 : decode cX3_addFace 26 = .ok (.aload_n 0, 1) := by decide +kernel
theorem dX3_addFace_27 : decode cX3_addFace 27 = .ok (.getfield 24, 3) := by decide +kernel
theorem dX3_addFace_30 : decode cX3_addFace 30 = .ok (.iload_n 2, 1) := by decide +kernel
theorem dX3_addFace_31 : decode cX3_addFace 31 = .ok (.iastore, 1) := by decide +kernel
theorem dX3_addFace_32 : decode cX3_addFace 32 = .ok (.aload_n 0, 1) := by decide +kernel
theorem dX3_addFace_33 : decode cX3_addFace 33 = .ok (.dup, 1) := by decide +kernel
theorem dX3_addFace_34 : decode cX3_addFace 34 = .ok (.getfield 24, 3) := by decide +kernel
theorem dX3_addFace_37 : decode cX3_addFace 37 = .ok (.iconst 1, 1) := by decide +kernel
theorem dX3_addFace_38 : decode cX3_addFace 38 = .ok (.iadd, 1) := by decide +kernel
theorem dX3_addFace_39 : decode cX3_addFace 39 = .ok (.putfield 24, 3) := by decide +kernel
theorem dX3_addFace_42 : decode cX3_addFace 42 = .ok (.aload_n 0, 1) := by decide +kernel
theorem dX3_addFace_43 : decode cX3_addFace 43 = .ok (.getfield 24, 3) := by decide +kernel
theorem dX3_addFace_46 : decode cX3_addFace 46 = .ok (.iconst 1, 1) := by decide +kernel
theorem dX3_addFace_47 : decode cX3_addFace 47 = .ok (.isub, 1) := by decide +kernel
theorem dX3_addFace_48 : decode cX3_addFace 48 = .ok (.ireturn, 1) := by decide +kernel
theorem dX3_addArch_0 : decode cX3_addArch 0 = .ok (.aload_n 0, 1) := by decide +kernel
theorem dX3_addArch_1 : decode cX3_addArch 1 = .ok (.getfield 34, 3) := by decide +kernel
theorem dX3_addArch_4 : decode cX3_addArch 4 = .ok (.bipush 8, 2) := by decide +kernel
theorem dX3_addArch_6 : decode cX3_addArch 6 = .ok (.if_icmp .lt 6, 3) := by decide +kernel
theorem dX3_addArch_9 : decode cX3_addArch 9 = .ok (.ldc 37, 2) := by decide +kernel
theorem dX3_addArch_11 : decode cX3_addArch 11 = .ok (.ireturn, 1) := by decide +kernel
theorem dX3_addArch_12 : decode cX3_addArch 12 = .ok (.aload_n 0, 1) := by decide +kernel
theorem dX3_addArch_13 : decode cX3_addArch 13 = .ok (.getfield 18, 3) := by decide +kernel
theorem dX3_addArch_16 : decode cX3_addArch 16 = .ok (.aload_n 0, 1) := by decide +kernel
theorem dX3_addArch_17 : decode cX3_addArch 17 = .ok (.getfield 34, 3) := by decide +kernel
theorem dX3_addArch_20 : decode cX3_addArch 20 = .ok (.iload_n 1, 1) := by decide +kernel
theorem dX3_addArch_21 : decode cX3_addArch 21 = .ok (.iastore, 1) := by decide +kernel
theorem dX3_addArch_22 : decode cX3_addArch 22 = .ok (.aload_n 0, 1) := by decide +kernel
theorem dX3_addArch_23 : decode cX3_addArch 23 = .ok (.dup, 1) := by decide +kernel
theorem dX3_addArch_24 : decode cX3_addArch 24 = .ok (.getfield 34, 3) := by decide +kernel
theorem dX3_addArch_27 : decode cX3_addArch 27 = .ok (.iconst 1, 1) := by decide +kernel
theorem dX3_addArch_28 : decode cX3_addArch 28 = .ok (.iadd, 1) := by decide +kernel
theorem dX3_addArch_29 : decode cX3_addArch 29 = .ok (.putfield 34, 3) := by decide +kernel
theorem dX3_addArch_32 : decode cX3_addArch 32 = .ok (.aload_n 0, 1) := by decide +kernel
theorem dX3_addArch_33 : decode cX3_addArch 33 = .ok (.getfield 34, 3) := by decide +kernel
theorem dX3_addArch_36 : decode cX3_addArch 36 = .ok (.iconst 1, 1) := by decide +kernel
theorem dX3_addArch_37 : decode cX3_addArch 37 = .ok (.isub, 1) := by decide +kernel
theorem dX3_addArch_38 : decode cX3_addArch 38 = .ok (.ireturn, 1) := by decide +kernel
theorem dX3_meetingDay_0 : decode cX3_meetingDay 0 = .ok (.aload_n 0, 1) := by decide +kernel
theorem dX3_meetingDay_1 : decode cX3_meetingDay 1 = .ok (.getfield 24, 3) := by decide +kernel
theorem dX3_meetingDay_4 : decode cX3_meetingDay 4 = .ok (.ifCond .ne 6, 3) := by decide +kernel
theorem dX3_meetingDay_7 : decode cX3_meetingDay 7 = .ok (.ldc 38, 2) := by decide +kernel
theorem dX3_meetingDay_9 : decode cX3_meetingDay 9 = .ok (.ireturn, 1) := by decide +kernel
theorem dX3_meetingDay_10 : decode cX3_meetingDay 10 = .ok (.iconst (-1), 1) := by decide +kernel
theorem dX3_meetingDay_11 : decode cX3_meetingDay 11 = .ok (.istore_n 2, 1) := by decide +kernel
theorem dX3_meetingDay_12 : decode cX3_meetingDay 12 = .ok (.sipush 8192, 3) := by decide +kernel
theorem dX3_meetingDay_15 : decode cX3_meetingDay 15 = .ok (.istore_n 3, 1) := by decide +kernel
theorem dX3_meetingDay_16 : decode cX3_meetingDay 16 = .ok (.iload_n 3, 1) := by decide +kernel
theorem dX3_meetingDay_17 : decode cX3_meetingDay 17 = .ok (.ifCond .le 25, 3) := by decide +kernel
theorem dX3_meetingDay_20 : decode cX3_meetingDay 20 = .ok (.aload_n 0, 1) := by decide +kernel
theorem dX3_meetingDay_21 : decode cX3_meetingDay 21 = .ok (.iload_n 2, 1) := by decide +kernel
theorem dX3_meetingDay_22 : decode cX3_meetingDay 22 = .ok (.iload_n 3, 1) := by decide +kernel
theorem dX3_meetingDay_23 : decode cX3_meetingDay 23 = .ok (.iadd, 1) := by decide +kernel
theorem dX3_meetingDay_24 : decode cX3_meetingDay 24 = .ok (.invokevirtual 39, 3) := by decide +kernel
theorem dX3_meetingDay_27 : decode cX3_meetingDay 27 = .ok (.iload_n 1, 1) := by decide +kernel
theorem dX3_meetingDay_28 : decode cX3_meetingDay 28 = .ok (.if_icmp .ge 7, 3) := by decide +kernel
theorem dX3_meetingDay_31 : decode cX3_meetingDay 31 = .ok (.iload_n 2, 1) := by decide +kernel
theorem dX3_meetingDay_32 : decode cX3_meetingDay 32 = .ok (.iload_n 3, 1) := by decide +kernel
theorem dX3_meetingDay_33 : decode cX3_meetingDay 33 = .ok (.iadd, 1) := by decide +kernel
theorem dX3_meetingDay_34 : decode cX3_meetingDay 34 = .ok (.istore_n 2, 1) := by decide +kernel
theorem dX3_meetingDay_35 : decode cX3_meetingDay 35 = .ok (.iload_n 3, 1) := by decide +kernel
theorem dX3_meetingDay_36 : decode cX3_meetingDay 36 = .ok (.iconst 2, 1) := by decide +kernel
theorem dX3_meetingDay_37 : decode cX3_meetingDay 37 = .ok (.idiv, 1) := by decide +kernel
theorem dX3_meetingDay_38 : decode cX3_meetingDay 38 = .ok (.istore_n 3, 1) := by decide +kernel
theorem dX3_meetingDay_39 : decode cX3_meetingDay 39 = .ok (.goto (-23), 3) := by decide +kernel
theorem dX3_meetingDay_42 : decode cX3_meetingDay 42 = .ok (.iload_n 2, 1) := by decide +kernel
theorem dX3_meetingDay_43 : decode cX3_meetingDay 43 = .ok (.iconst 1, 1) := by decide +kernel
theorem dX3_meetingDay_44 : decode cX3_meetingDay 44 = .ok (.iadd, 1) := by decide +kernel
theorem dX3_meetingDay_45 : decode cX3_meetingDay 45 = .ok (.ireturn, 1) := by decide +kernel
theorem dX3_yardsBy_0 : decode cX3_yardsBy 0 = .ok (.iconst 0, 1) := by decide +kernel
theorem dX3_yardsBy_1 : decode cX3_yardsBy 1 = .ok (.istore_n 2, 1) := by decide +kernel
theorem dX3_yardsBy_2 : decode cX3_yardsBy 2 = .ok (.iconst 0, 1) := by decide +kernel
theorem dX3_yardsBy_3 : decode cX3_yardsBy 3 = .ok (.istore_n 3, 1) := by decide +kernel
theorem dX3_yardsBy_4 : decode cX3_yardsBy 4 = .ok (.iload_n 3, 1) := by decide +kernel
theorem dX3_yardsBy_5 : decode cX3_yardsBy 5 = .ok (.aload_n 0, 1) := by decide +kernel
theorem dX3_yardsBy_6 : decode cX3_yardsBy 6 = .ok (.getfield 24, 3) := by decide +kernel
theorem dX3_yardsBy_9 : decode cX3_yardsBy 9 = .ok (.if_icmp .ge 33, 3) := by decide +kernel
theorem dX3_yardsBy_12 : decode cX3_yardsBy 12 = .ok (.iload_n 2, 1) := by decide +kernel
theorem dX3_yardsBy_13 : decode cX3_yardsBy 13 = .ok (.iconst 0, 1) := by decide +kernel
theorem dX3_yardsBy_14 : decode cX3_yardsBy 14 = .ok (.iload_n 1, 1) := by decide +kernel
theorem dX3_yardsBy_15 : decode cX3_yardsBy 15 = .ok (.aload_n 0, 1) := by decide +kernel
theorem dX3_yardsBy_16 : decode cX3_yardsBy 16 = .ok (.getfield 11, 3) := by decide +kernel
theorem dX3_yardsBy_19 : decode cX3_yardsBy 19 = .ok (.iload_n 3, 1) := by decide +kernel
theorem dX3_yardsBy_20 : decode cX3_yardsBy 20 = .ok (.iaload, 1) := by decide +kernel
theorem dX3_yardsBy_21 : decode cX3_yardsBy 21 = .ok (.isub, 1) := by decide +kernel
theorem dX3_yardsBy_22 : decode cX3_yardsBy 22 = .ok (.iconst 1, 1) := by decide +kernel
theorem dX3_yardsBy_23 : decode cX3_yardsBy 23 = .ok (.iadd, 1) := by decide +kernel
theorem dX3_yardsBy_24 : decode cX3_yardsBy 24 = .ok (.invokestatic 43, 3) := by decide +kernel
theorem dX3_yardsBy_27 : decode cX3_yardsBy 27 = .ok (.aload_n 0, 1) := by decide +kernel
theorem dX3_yardsBy_28 : decode cX3_yardsBy 28 = .ok (.getfield 15, 3) := by decide +kernel
theorem dX3_yardsBy_31 : decode cX3_yardsBy 31 = .ok (.iload_n 3, 1) := by decide +kernel
theorem dX3_yardsBy_32 : decode cX3_yardsBy 32 = .ok (.iaload, 1) := by decide +kernel
theorem dX3_yardsBy_33 : decode cX3_yardsBy 33 = .ok (.imul, 1) := by decide +kernel
theorem dX3_yardsBy_34 : decode cX3_yardsBy 34 = .ok (.iadd, 1) := by decide +kernel
theorem dX3_yardsBy_35 : decode cX3_yardsBy 35 = .ok (.istore_n 2, 1) := by decide +kernel
theorem dX3_yardsBy_36 : decode cX3_yardsBy 36 = .ok (.iinc 3 1, 3) := by decide +kernel
theorem dX3_yardsBy_39 : decode cX3_yardsBy 39 = .ok (.goto (-35), 3) := by decide +kernel
theorem dX3_yardsBy_42 : decode cX3_yardsBy 42 = .ok (.iload_n 2, 1) := by decide +kernel
theorem dX3_yardsBy_43 : decode cX3_yardsBy 43 = .ok (.ireturn, 1) := by decide +kernel
theorem dX3_archInOrder_0 : decode cX3_archInOrder 0 = .ok (.iload_n 2, 1) := by decide +kernel
theorem dX3_archInOrder_1 : decode cX3_archInOrder 1 = .ok (.aload_n 0, 1) := by decide +kernel
theorem dX3_archInOrder_2 : decode cX3_archInOrder 2 = .ok (.getfield 34, 3) := by decide +kernel
theorem dX3_archInOrder_5 : decode cX3_archInOrder 5 = .ok (.if_icmp .lt 6, 3) := by decide +kernel
theorem dX3_archInOrder_8 : decode cX3_archInOrder 8 = .ok (.ldc 38, 2) := by decide +kernel
theorem dX3_archInOrder_10 : decode cX3_archInOrder 10 = .ok (.ireturn, 1) := by decide +kernel
theorem dX3_archInOrder_11 : decode cX3_archInOrder 11 = .ok (.aload_n 0, 1) := by decide +kernel
theorem dX3_archInOrder_12 : decode cX3_archInOrder 12 = .ok (.iload_n 1, 1) := by decide +kernel
theorem dX3_archInOrder_13 : decode cX3_archInOrder 13 = .ok (.invokevirtual 49, 3) := by decide +kernel
theorem dX3_archInOrder_16 : decode cX3_archInOrder 16 = .ok (.iconst 0, 1) := by decide +kernel
theorem dX3_archInOrder_17 : decode cX3_archInOrder 17 = .ok (.istore_n 3, 1) := by decide +kernel
theorem dX3_archInOrder_18 : decode cX3_archInOrder 18 = .ok (.ldc 38, 2) := by decide +kernel
theorem dX3_archInOrder_20 : decode cX3_archInOrder 20 = .ok (.istore 4, 2) := by decide +kernel
theorem dX3_archInOrder_22 : decode cX3_archInOrder 22 = .ok (.iconst 0, 1) := by decide +kernel
theorem dX3_archInOrder_23 : decode cX3_archInOrder 23 = .ok (.istore 5, 2) := by decide +kernel
theorem dX3_archInOrder_25 : decode cX3_archInOrder 25 = .ok (.iload 5, 2) := by decide +kernel
theorem dX3_archInOrder_27 : decode cX3_archInOrder 27 = .ok (.iload_n 2, 1) := by decide +kernel
theorem dX3_archInOrder_28 : decode cX3_archInOrder 28 = .ok (.if_icmp .gt 33, 3) := by decide +kernel
theorem dX3_archInOrder_31 : decode cX3_archInOrder 31 = .ok (.aload_n 0, 1) := by decide +kernel
theorem dX3_archInOrder_32 : decode cX3_archInOrder 32 = .ok (.iload_n 3, 1) := by decide +kernel
theorem dX3_archInOrder_33 : decode cX3_archInOrder 33 = .ok (.invokevirtual 53, 3) := by decide +kernel
theorem dX3_archInOrder_36 : decode cX3_archInOrder 36 = .ok (.istore 4, 2) := by decide +kernel
theorem dX3_archInOrder_38 : decode cX3_archInOrder 38 = .ok (.iload 4, 2) := by decide +kernel
theorem dX3_archInOrder_40 : decode cX3_archInOrder 40 = .ok (.ldc 38, 2) := by decide +kernel
theorem dX3_archInOrder_42 : decode cX3_archInOrder 42 = .ok (.if_icmp .ne 6, 3) := by decide +kernel
theorem dX3_archInOrder_45 : decode cX3_archInOrder 45 = .ok (.ldc 38, 2) := by decide +kernel
theorem dX3_archInOrder_47 : decode cX3_archInOrder 47 = .ok (.ireturn, 1) := by decide +kernel
theorem dX3_archInOrder_48 : decode cX3_archInOrder 48 = .ok (.iload_n 3, 1) := by decide +kernel
theorem dX3_archInOrder_49 : decode cX3_archInOrder 49 = .ok (.iconst 1, 1) := by decide +kernel
theorem dX3_archInOrder_50 : decode cX3_archInOrder 50 = .ok (.iload 4, 2) := by decide +kernel
theorem dX3_archInOrder_52 : decode cX3_archInOrder 52 = .ok (.ishl, 1) := by decide +kernel
theorem dX3_archInOrder_53 : decode cX3_archInOrder 53 = .ok (.ior, 1) := by decide +kernel
theorem dX3_archInOrder_54 : decode cX3_archInOrder 54 = .ok (.istore_n 3, 1) := by decide +kernel
theorem dX3_archInOrder_55 : decode cX3_archInOrder 55 = .ok (.iinc 5 1, 3) := by decide +kernel
theorem dX3_archInOrder_58 : decode cX3_archInOrder 58 = .ok (.goto (-33), 3) := by decide +kernel
theorem dX3_archInOrder_61 : decode cX3_archInOrder 61 = .ok (.iload 4, 2) := by decide +kernel
theorem dX3_archInOrder_63 : decode cX3_archInOrder 63 = .ok (.ireturn, 1) := by decide +kernel
theorem dX3_findWaysOn_0 : decode cX3_findWaysOn 0 = .ok (.iconst 1, 1) := by decide +kernel
theorem dX3_findWaysOn_1 : decode cX3_findWaysOn 1 = .ok (.aload_n 0, 1) := by decide +kernel
theorem dX3_findWaysOn_2 : decode cX3_findWaysOn 2 = .ok (.getfield 34, 3) := by decide +kernel
theorem dX3_findWaysOn_5 : decode cX3_findWaysOn 5 = .ok (.ishl, 1) := by decide +kernel
theorem dX3_findWaysOn_6 : decode cX3_findWaysOn 6 = .ok (.iconst 1, 1) := by decide +kernel
theorem dX3_findWaysOn_7 : decode cX3_findWaysOn 7 = .ok (.isub, 1) := by decide +kernel
theorem dX3_findWaysOn_8 : decode cX3_findWaysOn 8 = .ok (.istore_n 2, 1) := by decide +kernel
theorem dX3_findWaysOn_9 : decode cX3_findWaysOn 9 = .ok (.iload_n 2, 1) := by decide +kernel
theorem dX3_findWaysOn_10 : decode cX3_findWaysOn 10 = .ok (.istore_n 3, 1) := by decide +kernel
theorem dX3_findWaysOn_11 : decode cX3_findWaysOn 11 = .ok (.iload_n 3, 1) := by decide +kernel
theorem dX3_findWaysOn_12 : decode cX3_findWaysOn 12 = .ok (.ifCond .lt 56, 3) := by decide +kernel
theorem dX3_findWaysOn_15 : decode cX3_findWaysOn 15 = .ok (.iload_n 3, 1) := by decide +kernel
theorem dX3_findWaysOn_16 : decode cX3_findWaysOn 16 = .ok (.iload_n 2, 1) := by decide +kernel
theorem dX3_findWaysOn_17 : decode cX3_findWaysOn 17 = .ok (.if_icmp .eq 13, 3) := by decide +kernel
theorem dX3_findWaysOn_20 : decode cX3_findWaysOn 20 = .ok (.aload_n 0, 1) := by decide +kernel
theorem dX3_findWaysOn_21 : decode cX3_findWaysOn 21 = .ok (.iload_n 3, 1) := by decide +kernel
theorem dX3_findWaysOn_22 : decode cX3_findWaysOn 22 = .ok (.invokevirtual 53, 3) := by decide +kernel
theorem dX3_findWaysOn_25 : decode cX3_findWaysOn 25 = .ok (.ldc 38, 2) := by decide +kernel
theorem dX3_findWaysOn_27 : decode cX3_findWaysOn 27 = .ok (.if_icmp .eq 7, 3) := by decide +kernel
theorem dX3_findWaysOn_30 : decode cX3_findWaysOn 30 = .ok (.iconst 1, 1) := by decide +kernel
theorem dX3_findWaysOn_31 : decode cX3_findWaysOn 31 = .ok (.goto 4, 3) := by decide +kernel
theorem dX3_findWaysOn_34 : decode cX3_findWaysOn 34 = .ok (.iconst 0, 1) := by decide +kernel
theorem dX3_findWaysOn_35 : decode cX3_findWaysOn 35 = .ok (.istore 4, 2) := by decide +kernel
theorem dX3_findWaysOn_37 : decode cX3_findWaysOn 37 = .ok (.aload_n 0, 1) := by decide +kernel
theorem dX3_findWaysOn_38 : decode cX3_findWaysOn 38 = .ok (.getfield 21, 3) := by decide +kernel
theorem dX3_findWaysOn_41 : decode cX3_findWaysOn 41 = .ok (.iload_n 3, 1) := by decide +kernel
theorem dX3_findWaysOn_42 : decode cX3_findWaysOn 42 = .ok (.iload 4, 2) := by decide +kernel
theorem dX3_findWaysOn_44 : decode cX3_findWaysOn 44 = .ok (.ifCond .eq 16, 3) := by decide +kernel
theorem dX3_findWaysOn_47 : decode cX3_findWaysOn 47 = .ok (.aload_n 0, 1) := by decide +kernel
theorem dX3_findWaysOn_48 : decode cX3_findWaysOn 48 = .ok (.iload_n 3, 1) := by decide +kernel
theorem dX3_findWaysOn_49 : decode cX3_findWaysOn 49 = .ok (.iload_n 1, 1) := by decide +kernel
theorem dX3_findWaysOn_50 : decode cX3_findWaysOn 50 = .ok (.invokevirtual 56, 3) := by decide +kernel
theorem dX3_findWaysOn_53 : decode cX3_findWaysOn 53 = .ok (.ifCond .eq 7, 3) := by decide +kernel
theorem dX3_findWaysOn_56 : decode cX3_findWaysOn 56 = .ok (.iconst 1, 1) := by decide +kernel
theorem dX3_findWaysOn_57 : decode cX3_findWaysOn 57 = .ok (.goto 4, 3) := by decide +kernel
theorem dX3_findWaysOn_60 : decode cX3_findWaysOn 60 = .ok (.iconst 0, 1) := by decide +kernel
theorem dX3_findWaysOn_61 : decode cX3_findWaysOn 61 = .ok (.iastore, 1) := by decide +kernel
theorem dX3_findWaysOn_62 : decode cX3_findWaysOn 62 = .ok (.iinc 3 (-1), 3) := by decide +kernel
theorem dX3_findWaysOn_65 : decode cX3_findWaysOn 65 = .ok (.goto (-54), 3) := by decide +kernel
theorem dX3_findWaysOn_68 : decode cX3_findWaysOn 68 = .ok (.return_, 1) := by decide +kernel
theorem dX3_firstWayOn_0 : decode cX3_firstWayOn 0 = .ok (.iconst 0, 1) := by decide +kernel
theorem dX3_firstWayOn_1 : decode cX3_firstWayOn 1 = .ok (.istore_n 2, 1) := by decide +kernel
theorem dX3_firstWayOn_2 : decode cX3_firstWayOn 2 = .ok (.iload_n 2, 1) := by decide +kernel
theorem dX3_firstWayOn_3 : decode cX3_firstWayOn 3 = .ok (.aload_n 0, 1) := by decide +kernel
theorem dX3_firstWayOn_4 : decode cX3_firstWayOn 4 = .ok (.getfield 34, 3) := by decide +kernel
theorem dX3_firstWayOn_7 : decode cX3_firstWayOn 7 = .ok (.if_icmp .ge 33, 3) := by decide +kernel
theorem dX3_firstWayOn_10 : decode cX3_firstWayOn 10 = .ok (.iload_n 1, 1) := by decide +kernel
theorem dX3_firstWayOn_11 : decode cX3_firstWayOn 11 = .ok (.iload_n 2, 1) := by decide +kernel
theorem dX3_firstWayOn_12 : decode cX3_firstWayOn 12 = .ok (.invokestatic 60, 3) := by decide +kernel
theorem dX3_firstWayOn_15 : decode cX3_firstWayOn 15 = .ok (.ifCond .ne 19, 3) := by decide +kernel
theorem dX3_firstWayOn_18 : decode cX3_firstWayOn 18 = .ok (.aload_n 0, 1) := by decide +kernel
theorem dX3_firstWayOn_19 : decode cX3_firstWayOn 19 = .ok (.getfield 21, 3) := by decide +kernel
theorem dX3_firstWayOn_22 : decode cX3_firstWayOn 22 = .ok (.iload_n 1, 1) := by decide +kernel
theorem dX3_firstWayOn_23 : decode cX3_firstWayOn 23 = .ok (.iconst 1, 1) := by decide +kernel
theorem dX3_firstWayOn_24 : decode cX3_firstWayOn 24 = .ok (.iload_n 2, 1) := by decide +kernel
theorem dX3_firstWayOn_25 : decode cX3_firstWayOn 25 = .ok (.ishl, 1) := by decide +kernel
theorem dX3_firstWayOn_26 : decode cX3_firstWayOn 26 = .ok (.ior, 1) := by decide +kernel
theorem dX3_firstWayOn_27 : decode cX3_firstWayOn 27 = .ok (.iaload, 1) := by decide +kernel
theorem dX3_firstWayOn_28 : decode cX3_firstWayOn 28 = .ok (.iconst 1, 1) := by decide +kernel
theorem dX3_firstWayOn_29 : decode cX3_firstWayOn 29 = .ok (.if_icmp .ne 5, 3) := by decide +kernel
theorem dX3_firstWayOn_32 : decode cX3_firstWayOn 32 = .ok (.iload_n 2, 1) := by decide +kernel
theorem dX3_firstWayOn_33 : decode cX3_firstWayOn 33 = .ok (.ireturn, 1) := by decide +kernel
theorem dX3_firstWayOn_34 : decode cX3_firstWayOn 34 = .ok (.iinc 2 1, 3) := by decide +kernel
theorem dX3_firstWayOn_37 : decode cX3_firstWayOn 37 = .ok (.goto (-35), 3) := by decide +kernel
theorem dX3_firstWayOn_40 : decode cX3_firstWayOn 40 = .ok (.ldc 38, 2) := by decide +kernel
theorem dX3_firstWayOn_42 : decode cX3_firstWayOn 42 = .ok (.ireturn, 1) := by decide +kernel
theorem dX3_holds_0 : decode cX3_holds 0 = .ok (.iconst 1, 1) := by decide +kernel
theorem dX3_holds_1 : decode cX3_holds 1 = .ok (.istore_n 3, 1) := by decide +kernel
theorem dX3_holds_2 : decode cX3_holds 2 = .ok (.iload_n 3, 1) := by decide +kernel
theorem dX3_holds_3 : decode cX3_holds 3 = .ok (.aload_n 0, 1) := by decide +kernel
theorem dX3_holds_4 : decode cX3_holds 4 = .ok (.getfield 34, 3) := by decide +kernel
theorem dX3_holds_7 : decode cX3_holds 7 = .ok (.if_icmp .ge 67, 3) := by decide +kernel
theorem dX3_holds_10 : decode cX3_holds 10 = .ok (.iload_n 1, 1) := by decide +kernel
theorem dX3_holds_11 : decode cX3_holds 11 = .ok (.iload_n 3, 1) := by decide +kernel
theorem dX3_holds_12 : decode cX3_holds 12 = .ok (.iconst 1, 1) := by decide +kernel
theorem dX3_holds_13 : decode cX3_holds 13 = .ok (.isub, 1) := by decide +kernel
theorem dX3_holds_14 : decode cX3_holds 14 = .ok (.invokestatic 60, 3) := by decide +kernel
theorem dX3_holds_17 : decode cX3_holds 17 = .ok (.ifCond .eq 14, 3) := by decide +kernel
theorem dX3_holds_20 : decode cX3_holds 20 = .ok (.aload_n 0, 1) := by decide +kernel
theorem dX3_holds_21 : decode cX3_holds 21 = .ok (.getfield 18, 3) := by decide +kernel
theorem dX3_holds_24 : decode cX3_holds 24 = .ok (.iload_n 3, 1) := by decide +kernel
theorem dX3_holds_25 : decode cX3_holds 25 = .ok (.iconst 1, 1) := by decide +kernel
theorem dX3_holds_26 : decode cX3_holds 26 = .ok (.isub, 1) := by decide +kernel
theorem dX3_holds_27 : decode cX3_holds 27 = .ok (.iaload, 1) := by decide +kernel
theorem dX3_holds_28 : decode cX3_holds 28 = .ok (.goto 4, 3) := by decide +kernel
theorem dX3_holds_31 : decode cX3_holds 31 = .ok (.iconst 0, 1) := by decide +kernel
theorem dX3_holds_32 : decode cX3_holds 32 = .ok (.istore 4, 2) := by decide +kernel
theorem dX3_holds_34 : decode cX3_holds 34 = .ok (.iload_n 1, 1) := by decide +kernel
theorem dX3_holds_35 : decode cX3_holds 35 = .ok (.iload_n 3, 1) := by decide +kernel
theorem dX3_holds_36 : decode cX3_holds 36 = .ok (.invokestatic 60, 3) := by decide +kernel
theorem dX3_holds_39 : decode cX3_holds 39 = .ok (.ifCond .eq 12, 3) := by decide +kernel
theorem dX3_holds_42 : decode cX3_holds 42 = .ok (.aload_n 0, 1) := by decide +kernel
theorem dX3_holds_43 : decode cX3_holds 43 = .ok (.getfield 18, 3) := by decide +kernel
theorem dX3_holds_46 : decode cX3_holds 46 = .ok (.iload_n 3, 1) := by decide +kernel
theorem dX3_holds_47 : decode cX3_holds 47 = .ok (.iaload, 1) := by decide +kernel
theorem dX3_holds_48 : decode cX3_holds 48 = .ok (.goto 4, 3) := by decide +kernel
theorem dX3_holds_51 : decode cX3_holds 51 = .ok (.iconst 0, 1) := by decide +kernel
theorem dX3_holds_52 : decode cX3_holds 52 = .ok (.istore 5, 2) := by decide +kernel
theorem dX3_holds_54 : decode cX3_holds 54 = .ok (.iload 4, 2) := by decide +kernel
theorem dX3_holds_56 : decode cX3_holds 56 = .ok (.iload 5, 2) := by decide +kernel
theorem dX3_holds_58 : decode cX3_holds 58 = .ok (.isub, 1) := by decide +kernel
theorem dX3_holds_59 : decode cX3_holds 59 = .ok (.invokestatic 63, 3) := by decide +kernel
theorem dX3_holds_62 : decode cX3_holds 62 = .ok (.iload_n 2, 1) := by decide +kernel
theorem dX3_holds_63 : decode cX3_holds 63 = .ok (.if_icmp .le 5, 3) := by decide +kernel
theorem dX3_holds_66 : decode cX3_holds 66 = .ok (.iconst 0, 1) := by decide +kernel
theorem dX3_holds_67 : decode cX3_holds 67 = .ok (.ireturn, 1) := by decide +kernel
theorem dX3_holds_68 : decode cX3_holds 68 = .ok (.iinc 3 1, 3) := by decide +kernel
theorem dX3_holds_71 : decode cX3_holds 71 = .ok (.goto (-69), 3) := by decide +kernel
theorem dX3_holds_74 : decode cX3_holds 74 = .ok (.iconst 1, 1) := by decide +kernel
theorem dX3_holds_75 : decode cX3_holds 75 = .ok (.ireturn, 1) := by decide +kernel
theorem dX4_init_0 : decode cX4_init 0 = .ok (.aload_n 0, 1) := by decide +kernel
theorem dX4_init_1 : decode cX4_init 1 = .ok (.invokespecial 3, 3) := by decide +kernel
theorem dX4_init_4 : decode cX4_init 4 = .ok (.aload_n 0, 1) := by decide +kernel
theorem dX4_init_5 : decode cX4_init 5 = .ok (.bipush 20, 2) := by decide +kernel
theorem dX4_init_7 : decode cX4_init 7 = .ok (.newarray .int, 2) := by decide +kernel
theorem dX4_init_9 : decode cX4_init 9 = .ok (.putfield 11, 3) := by decide +kernel
theorem dX4_init_12 : decode cX4_init 12 = .ok (.aload_n 0, 1) := by decide +kernel
theorem dX4_init_13 : decode cX4_init 13 = .ok (.bipush 20, 2) := by decide +kernel
theorem dX4_init_15 : decode cX4_init 15 = .ok (.newarray .int, 2) := by decide +kernel
theorem dX4_init_17 : decode cX4_init 17 = .ok (.putfield 15, 3) := by decide +kernel
theorem dX4_init_20 : decode cX4_init 20 = .ok (.return_, 1) := by decide +kernel
theorem dX4_takeFrom_0 : decode cX4_takeFrom 0 = .ok (.aload_n 0, 1) := by decide +kernel
theorem dX4_takeFrom_1 : decode cX4_takeFrom 1 = .ok (.aload_n 1, 1) := by decide +kernel
theorem dX4_takeFrom_2 : decode cX4_takeFrom 2 = .ok (.getfield 18, 3) := by decide +kernel
theorem dX4_takeFrom_5 : decode cX4_takeFrom 5 = .ok (.putfield 18, 3) := by decide +kernel
theorem dX4_takeFrom_8 : decode cX4_takeFrom 8 = .ok (.aload_n 0, 1) := by decide +kernel
theorem dX4_takeFrom_9 : decode cX4_takeFrom 9 = .ok (.aload_n 1, 1) := by decide +kernel
theorem dX4_takeFrom_10 : decode cX4_takeFrom 10 = .ok (.getfield 22, 3) := by decide +kernel
theorem dX4_takeFrom_13 : decode cX4_takeFrom 13 = .ok (.putfield 22, 3) := by decide +kernel
theorem dX4_takeFrom_16 : decode cX4_takeFrom 16 = .ok (.aload_n 0, 1) := by decide +kernel
theorem dX4_takeFrom_17 : decode cX4_takeFrom 17 = .ok (.aload_n 1, 1) := by decide +kernel
theorem dX4_takeFrom_18 : decode cX4_takeFrom 18 = .ok (.getfield 25, 3) := by decide +kernel
theorem dX4_takeFrom_21 : decode cX4_takeFrom 21 = .ok (.putfield 25, 3) := by decide +kernel
theorem dX4_takeFrom_24 : decode cX4_takeFrom 24 = .ok (.aload_n 1, 1) := by decide +kernel
theorem dX4_takeFrom_25 : decode cX4_takeFrom 25 = .ok (.getfield 11, 3) := by decide +kernel
theorem dX4_takeFrom_28 : decode cX4_takeFrom 28 = .ok (.iconst 0, 1) := by decide +kernel
theorem dX4_takeFrom_29 : decode cX4_takeFrom 29 = .ok (.aload_n 0, 1) := by decide +kernel
theorem dX4_takeFrom_30 : decode cX4_takeFrom 30 = .ok (.getfield 11, 3) := by decide +kernel
theorem dX4_takeFrom_33 : decode cX4_takeFrom 33 = .ok (.iconst 0, 1) := by decide +kernel
theorem dX4_takeFrom_34 : decode cX4_takeFrom 34 = .ok (.bipush 20, 2) := by decide +kernel
theorem dX4_takeFrom_36 : decode cX4_takeFrom 36 = .ok (.invokestatic 28, 3) := by decide +kernel
theorem dX4_takeFrom_39 : decode cX4_takeFrom 39 = .ok (.aload_n 1, 1) := by decide +kernel
theorem dX4_takeFrom_40 : decode cX4_takeFrom 40 = .ok (.getfield 15, 3) := by decide +kernel
theorem dX4_takeFrom_43 : decode cX4_takeFrom 43 = .ok (.iconst 0, 1) := by decide +kernel
theorem dX4_takeFrom_44 : decode cX4_takeFrom 44 = .ok (.aload_n 0, 1) := by decide +kernel
theorem dX4_takeFrom_45 : decode cX4_takeFrom 45 = .ok (.getfield 15, 3) := by decide +kernel
theorem dX4_takeFrom_48 : decode cX4_takeFrom 48 = .ok (.iconst 0, 1) := by decide +kernel
theorem dX4_takeFrom_49 : decode cX4_takeFrom 49 = .ok (.bipush 20, 2) := by decide +kernel
theorem dX4_takeFrom_51 : decode cX4_takeFrom 51 = .ok (.invokestatic 28, 3) := by decide +kernel
theorem dX4_takeFrom_54 : decode cX4_takeFrom 54 = .ok (.return_, 1) := by decide +kernel
theorem dX4_addDue_0 : decode cX4_addDue 0 = .ok (.aload_n 0, 1) := by decide +kernel
theorem dX4_addDue_1 : decode cX4_addDue 1 = .ok (.getfield 25, 3) := by decide +kernel
theorem dX4_addDue_4 : decode cX4_addDue 4 = .ok (.bipush 20, 2) := by decide +kernel
theorem dX4_addDue_6 : decode cX4_addDue 6 = .ok (.if_icmp .lt 6, 3) := by decide +kernel
theorem dX4_addDue_9 : decode cX4_addDue 9 = .ok (.ldc 34, 2) := by decide +kernel
theorem dX4_addDue_11 : decode cX4_addDue 11 = .ok (.ireturn, 1) := by decide +kernel
theorem dX4_addDue_12 : decode cX4_addDue 12 = .ok (.aload_n 0, 1) := by decide +kernel
theorem dX4_addDue_13 : decode cX4_addDue 13 = .ok (.getfield 11, 3) := by decide +kernel
theorem dX4_addDue_16 : decode cX4_addDue 16 = .ok (.aload_n 0, 1) := by decide +kernel
theorem dX4_addDue_17 : decode cX4_addDue 17 = .ok (.getfield 25, 3) := by decide +kernel
theorem dX4_addDue_20 : decode cX4_addDue 20 = .ok (.iload_n 1, 1) := by decide +kernel
theorem dX4_addDue_21 : decode cX4_addDue 21 = .ok (.iastore, 1) := by decide +kernel
theorem dX4_addDue_22 : decode cX4_addDue 22 = .ok (.aload_n 0, 1) := by decide +kernel
theorem dX4_addDue_23 : decode cX4_addDue 23 = .ok (.getfield 15, 3) := by decide +kernel
theorem dX4_addDue_26 : decode cX4_addDue 26 = .ok (.aload_n 0, 1) := by decide +kernel
theorem dX4_addDue_27 : decode cX4_addDue 27 = .ok (.getfield 25, 3) := by decide +kernel
theorem dX4_addDue_30 : decode cX4_addDue 30 = .ok (.iload_n 2, 1) := by decide +kernel
theorem dX4_addDue_31 : decode cX4_addDue 31 = .ok (.iastore, 1) := by decide +kernel
theorem dX4_addDue_32 : decode cX4_addDue 32 = .ok (.aload_n 0, 1) := by decide +kernel
theorem dX4_addDue_33 : decode cX4_addDue 33 = .ok (.dup, 1) := by decide +kernel
theorem dX4_addDue_34 : decode cX4_addDue 34 = .ok (.getfield 25, 3) := by decide +kernel
theorem dX4_addDue_37 : decode cX4_addDue 37 = .ok (.iconst 1, 1) := by decide +kernel
theorem dX4_addDue_38 : decode cX4_addDue 38 = .ok (.iadd, 1) := by decide +kernel
theorem dX4_addDue_39 : decode cX4_addDue 39 = .ok (.putfield 25, 3) := by decide +kernel
theorem dX4_addDue_42 : decode cX4_addDue 42 = .ok (.aload_n 0, 1) := by decide +kernel
theorem dX4_addDue_43 : decode cX4_addDue 43 = .ok (.getfield 25, 3) := by decide +kernel
theorem dX4_addDue_46 : decode cX4_addDue 46 = .ok (.iconst 1, 1) := by decide +kernel
theorem dX4_addDue_47 : decode cX4_addDue 47 = .ok (.isub, 1) := by decide +kernel
theorem dX4_addDue_48 : decode cX4_addDue 48 = .ok (.ireturn, 1) := by decide +kernel
theorem dX4_duesOn_0 : decode cX4_duesOn 0 = .ok (.iconst 0, 1) := by decide +kernel
theorem dX4_duesOn_1 : decode cX4_duesOn 1 = .ok (.istore_n 2, 1) := by decide +kernel
theorem dX4_duesOn_2 : decode cX4_duesOn 2 = .ok (.iconst 0, 1) := by decide +kernel
theorem dX4_duesOn_3 : decode cX4_duesOn 3 = .ok (.istore_n 3, 1) := by decide +kernel
theorem dX4_duesOn_4 : decode cX4_duesOn 4 = .ok (.iload_n 3, 1) := by decide +kernel
theorem dX4_duesOn_5 : decode cX4_duesOn 5 = .ok (.aload_n 0, 1) := by decide +kernel
theorem dX4_duesOn_6 : decode cX4_duesOn 6 = .ok (.getfield 25, 3) := by decide +kernel
theorem dX4_duesOn_9 : decode cX4_duesOn 9 = .ok (.if_icmp .ge 32, 3) := by decide +kernel
theorem dX4_duesOn_12 : decode cX4_duesOn 12 = .ok (.iload_n 2, 1) := by decide +kernel
theorem dX4_duesOn_13 : decode cX4_duesOn 13 = .ok (.aload_n 0, 1) := by decide +kernel
theorem dX4_duesOn_14 : decode cX4_duesOn 14 = .ok (.getfield 11, 3) := by decide +kernel
theorem dX4_duesOn_17 : decode cX4_duesOn 17 = .ok (.iload_n 3, 1) := by decide +kernel
theorem dX4_duesOn_18 : decode cX4_duesOn 18 = .ok (.iaload, 1) := by decide +kernel
theorem dX4_duesOn_19 : decode cX4_duesOn 19 = .ok (.iload_n 1, 1) := by decide +kernel
theorem dX4_duesOn_20 : decode cX4_duesOn 20 = .ok (.if_icmp .ne 12, 3) := by decide +kernel
theorem dX4_duesOn_23 : decode cX4_duesOn 23 = .ok (.aload_n 0, 1) := by decide +kernel
theorem dX4_duesOn_24 : decode cX4_duesOn 24 = .ok (.getfield 15, 3) := by decide +kernel
theorem dX4_duesOn_27 : decode cX4_duesOn 27 = .ok (.iload_n 3, 1) := by decide +kernel
theorem dX4_duesOn_28 : decode cX4_duesOn 28 = .ok (.iaload, 1) := by decide +kernel
theorem dX4_duesOn_29 : decode cX4_duesOn 29 = .ok (.goto 4, 3) := by decide +kernel
theorem dX4_duesOn_32 : decode cX4_duesOn 32 = .ok (.iconst 0, 1) := by decide +kernel
theorem dX4_duesOn_33 : decode cX4_duesOn 33 = .ok (.iadd, 1) := by decide +kernel
theorem dX4_duesOn_34 : decode cX4_duesOn 34 = .ok (.istore_n 2, 1) := by decide +kernel
theorem dX4_duesOn_35 : decode cX4_duesOn 35 = .ok (.iinc 3 1, 3) := by decide +kernel
theorem dX4_duesOn_38 : decode cX4_duesOn 38 = .ok (.goto (-34), 3) := by decide +kernel
theorem dX4_duesOn_41 : decode cX4_duesOn 41 = .ok (.iload_n 2, 1) := by decide +kernel
theorem dX4_duesOn_42 : decode cX4_duesOn 42 = .ok (.ireturn, 1) := by decide +kernel
theorem dX4_runsOut_0 : decode cX4_runsOut 0 = .ok (.aload_n 0, 1) := by decide +kernel
theorem dX4_runsOut_1 : decode cX4_runsOut 1 = .ok (.getfield 18, 3) := by decide +kernel
theorem dX4_runsOut_4 : decode cX4_runsOut 4 = .ok (.istore_n 2, 1) := by decide +kernel
theorem dX4_runsOut_5 : decode cX4_runsOut 5 = .ok (.iload_n 1, 1) := by decide +kernel
theorem dX4_runsOut_6 : decode cX4_runsOut 6 = .ok (.istore_n 3, 1) := by decide +kernel
theorem dX4_runsOut_7 : decode cX4_runsOut 7 = .ok (.iload_n 3, 1) := by decide +kernel
theorem dX4_runsOut_8 : decode cX4_runsOut 8 = .ok (.iload_n 1, 1) := by decide +kernel
theorem dX4_runsOut_9 : decode cX4_runsOut 9 = .ok (.sipush 400, 3) := by decide +kernel
theorem dX4_runsOut_12 : decode cX4_runsOut 12 = .ok (.iadd, 1) := by decide +kernel
theorem dX4_runsOut_13 : decode cX4_runsOut 13 = .ok (.if_icmp .ge 23, 3) := by decide +kernel
theorem dX4_runsOut_16 : decode cX4_runsOut 16 = .ok (.iload_n 2, 1) := by decide +kernel
theorem dX4_runsOut_17 : decode cX4_runsOut 17 = .ok (.aload_n 0, 1) := by decide +kernel
theorem dX4_runsOut_18 : decode cX4_runsOut 18 = .ok (.iload_n 3, 1) := by decide +kernel
theorem dX4_runsOut_19 : decode cX4_runsOut 19 = .ok (.invokevirtual 35, 3) := by decide +kernel
theorem dX4_runsOut_22 : decode cX4_runsOut 22 = .ok (.iadd, 1) := by decide +kernel
theorem dX4_runsOut_23 : decode cX4_runsOut 23 = .ok (.istore_n 2, 1) := by decide +kernel
theorem dX4_runsOut_24 : decode cX4_runsOut 24 = .ok (.iload_n 2, 1) := by decide +kernel
theorem dX4_runsOut_25 : decode cX4_runsOut 25 = .ok (.ifCond .ge 5, 3) := by decide +kernel
theorem dX4_runsOut_28 : decode cX4_runsOut 28 = .ok (.iload_n 3, 1) := by decide +kernel
theorem dX4_runsOut_29 : decode cX4_runsOut 29 = .ok (.ireturn, 1) := by decide +kernel
theorem dX4_runsOut_30 : decode cX4_runsOut 30 = .ok (.iinc 3 1, 3) := by decide +kernel
theorem dX4_runsOut_33 : decode cX4_runsOut 33 = .ok (.goto (-26), 3) := by decide +kernel
theorem dX4_runsOut_36 : decode cX4_runsOut 36 = .ok (.ldc 39, 2) := by decide +kernel
theorem dX4_runsOut_38 : decode cX4_runsOut 38 = .ok (.ireturn, 1) := by decide +kernel
theorem dX5_init_0 : decode cX5_init 0 = .ok (.aload_n 0, 1) := by decide +kernel
theorem dX5_init_1 : decode cX5_init 1 = .ok (.invokespecial 3, 3) := by decide +kernel
theorem dX5_init_4 : decode cX5_init 4 = .ok (.aload_n 0, 1) := by decide +kernel
theorem dX5_init_5 : decode cX5_init 5 = .ok (.iconst (-1), 1) := by decide +kernel
theorem dX5_init_6 : decode cX5_init 6 = .ok (.putfield 11, 3) := by decide +kernel
theorem dX5_init_9 : decode cX5_init 9 = .ok (.aload_n 0, 1) := by decide +kernel
theorem dX5_init_10 : decode cX5_init 10 = .ok (.bipush 24, 2) := by decide +kernel
theorem dX5_init_12 : decode cX5_init 12 = .ok (.newarray .int, 2) := by decide +kernel
theorem dX5_init_14 : decode cX5_init 14 = .ok (.putfield 15, 3) := by decide +kernel
theorem dX5_init_17 : decode cX5_init 17 = .ok (.return_, 1) := by decide +kernel
theorem dX5_begin_0 : decode cX5_begin 0 = .ok (.aload_n 0, 1) := by decide +kernel
theorem dX5_begin_1 : decode cX5_begin 1 = .ok (.iload_n 1, 1) := by decide +kernel
theorem dX5_begin_2 : decode cX5_begin 2 = .ok (.putfield 11, 3) := by decide +kernel
theorem dX5_begin_5 : decode cX5_begin 5 = .ok (.aload_n 0, 1) := by decide +kernel
theorem dX5_begin_6 : decode cX5_begin 6 = .ok (.iload_n 2, 1) := by decide +kernel
theorem dX5_begin_7 : decode cX5_begin 7 = .ok (.iconst 0, 1) := by decide +kernel
theorem dX5_begin_8 : decode cX5_begin 8 = .ok (.bipush 24, 2) := by decide +kernel
theorem dX5_begin_10 : decode cX5_begin 10 = .ok (.invokestatic 19, 3) := by decide +kernel
theorem dX5_begin_13 : decode cX5_begin 13 = .ok (.putfield 23, 3) := by decide +kernel
theorem dX5_begin_16 : decode cX5_begin 16 = .ok (.aload_n 0, 1) := by decide +kernel
theorem dX5_begin_17 : decode cX5_begin 17 = .ok (.getfield 15, 3) := by decide +kernel
theorem dX5_begin_20 : decode cX5_begin 20 = .ok (.iconst 0, 1) := by decide +kernel
theorem dX5_begin_21 : decode cX5_begin 21 = .ok (.invokestatic 26, 3) := by decide +kernel
theorem dX5_begin_24 : decode cX5_begin 24 = .ok (.return_, 1) := by decide +kernel
theorem dX5_findingAt_0 : decode cX5_findingAt 0 = .ok (.aload_n 0, 1) := by decide +kernel
theorem dX5_findingAt_1 : decode cX5_findingAt 1 = .ok (.getfield 11, 3) := by decide +kernel
theorem dX5_findingAt_4 : decode cX5_findingAt 4 = .ok (.iconst (-1), 1) := by decide +kernel
theorem dX5_findingAt_5 : decode cX5_findingAt 5 = .ok (.if_icmp .ne 6, 3) := by decide +kernel
theorem dX5_findingAt_8 : decode cX5_findingAt 8 = .ok (.ldc 32, 2) := by decide +kernel
theorem dX5_findingAt_10 : decode cX5_findingAt 10 = .ok (.ireturn, 1) := by decide +kernel
theorem dX5_findingAt_11 : decode cX5_findingAt 11 = .ok (.iload_n 1, 1) := by decide +kernel
theorem dX5_findingAt_12 : decode cX5_findingAt 12 = .ok (.iconst 0, 1) := by decide +kernel
theorem dX5_findingAt_13 : decode cX5_findingAt 13 = .ok (.aload_n 0, 1) := by decide +kernel
theorem dX5_findingAt_14 : decode cX5_findingAt 14 = .ok (.getfield 23, 3) := by decide +kernel
theorem dX5_findingAt_17 : decode cX5_findingAt 17 = .ok (.iconst 1, 1) := by decide +kernel
theorem dX5_findingAt_18 : decode cX5_findingAt 18 = .ok (.isub, 1) := by decide +kernel
theorem dX5_findingAt_19 : decode cX5_findingAt 19 = .ok (.invokestatic 33, 3) := by decide +kernel
theorem dX5_findingAt_22 : decode cX5_findingAt 22 = .ok (.ifCond .eq 7, 3) := by decide +kernel
theorem dX5_findingAt_25 : decode cX5_findingAt 25 = .ok (.iconst 0, 1) := by decide +kernel
theorem dX5_findingAt_26 : decode cX5_findingAt 26 = .ok (.goto 5, 3) := by decide +kernel
theorem dX5_findingAt_29 : decode cX5_findingAt 29 = .ok (.ldc 37, 2) := by decide +kernel
theorem dX5_findingAt_31 : decode cX5_findingAt 31 = .ok (.ireturn, 1) := by decide +kernel
theorem dX5_hasRun_0 : decode cX5_hasRun 0 = .ok (.iload_n 2, 1) := by decide +kernel
theorem dX5_hasRun_1 : decode cX5_hasRun 1 = .ok (.ifCond .lt 29, 3) := by decide +kernel
theorem dX5_hasRun_4 : decode cX5_hasRun 4 = .ok (.iload_n 1, 1) := by decide +kernel
theorem dX5_hasRun_5 : decode cX5_hasRun 5 = .ok (.iconst 0, 1) := by decide +kernel
theorem dX5_hasRun_6 : decode cX5_hasRun 6 = .ok (.aload_n 0, 1) := by decide +kernel
theorem dX5_hasRun_7 : decode cX5_hasRun 7 = .ok (.getfield 23, 3) := by decide +kernel
theorem dX5_hasRun_10 : decode cX5_hasRun 10 = .ok (.invokestatic 33, 3) := by decide +kernel
theorem dX5_hasRun_13 : decode cX5_hasRun 13 = .ok (.ifCond .eq 17, 3) := by decide +kernel
theorem dX5_hasRun_16 : decode cX5_hasRun 16 = .ok (.iload_n 2, 1) := by decide +kernel
theorem dX5_hasRun_17 : decode cX5_hasRun 17 = .ok (.aload_n 0, 1) := by decide +kernel
theorem dX5_hasRun_18 : decode cX5_hasRun 18 = .ok (.getfield 23, 3) := by decide +kernel
theorem dX5_hasRun_21 : decode cX5_hasRun 21 = .ok (.iload_n 1, 1) := by decide +kernel
theorem dX5_hasRun_22 : decode cX5_hasRun 22 = .ok (.isub, 1) := by decide +kernel
theorem dX5_hasRun_23 : decode cX5_hasRun 23 = .ok (.if_icmp .gt 7, 3) := by decide +kernel
theorem dX5_hasRun_26 : decode cX5_hasRun 26 = .ok (.iconst 1, 1) := by decide +kernel
theorem dX5_hasRun_27 : decode cX5_hasRun 27 = .ok (.goto 4, 3) := by decide +kernel
theorem dX5_hasRun_30 : decode cX5_hasRun 30 = .ok (.iconst 0, 1) := by decide +kernel
theorem dX5_hasRun_31 : decode cX5_hasRun 31 = .ok (.ireturn, 1) := by decide +kernel
theorem dX5_write_0 : decode cX5_write 0 = .ok (.aload_n 0, 1) := by decide +kernel
theorem dX5_write_1 : decode cX5_write 1 = .ok (.getfield 11, 3) := by decide +kernel
theorem dX5_write_4 : decode cX5_write 4 = .ok (.iconst 1, 1) := by decide +kernel
theorem dX5_write_5 : decode cX5_write 5 = .ok (.if_icmp .ne 12, 3) := by decide +kernel
theorem dX5_write_8 : decode cX5_write 8 = .ok (.iload_n 2, 1) := by decide +kernel
theorem dX5_write_9 : decode cX5_write 9 = .ok (.ldc 38, 2) := by decide +kernel
theorem dX5_write_11 : decode cX5_write 11 = .ok (.if_icmp .ne 6, 3) := by decide +kernel
theorem dX5_write_14 : decode cX5_write 14 = .ok (.ldc 39, 2) := by decide +kernel
theorem dX5_write_16 : decode cX5_write 16 = .ok (.ireturn, 1) := by decide +kernel
theorem dX5_write_17 : decode cX5_write 17 = .ok (.aload_n 0, 1) := by decide +kernel
theorem dX5_write_18 : decode cX5_write 18 = .ok (.getfield 11, 3) := by decide +kernel
theorem dX5_write_21 : decode cX5_write 21 = .ok (.ifCond .ne 23, 3) := by decide +kernel
theorem dX5_write_24 : decode cX5_write 24 = .ok (.iload_n 2, 1) := by decide +kernel
theorem dX5_write_25 : decode cX5_write 25 = .ok (.ldc 38, 2) := by decide +kernel
theorem dX5_write_27 : decode cX5_write 27 = .ok (.if_icmp .eq 17, 3) := by decide +kernel
theorem dX5_write_30 : decode cX5_write 30 = .ok (.iload_n 2, 1) := by decide +kernel
theorem dX5_write_31 : decode cX5_write 31 = .ok (.ldc 40, 2) := by decide +kernel
theorem dX5_write_33 : decode cX5_write 33 = .ok (.ldc 41, 2) := by decide +kernel
theorem dX5_write_35 : decode cX5_write 35 = .ok (.invokestatic 33, 3) := by decide +kernel
theorem dX5_write_38 : decode cX5_write 38 = .ok (.ifCond .ne 6, 3) := by decide +kernel
theorem dX5_write_41 : decode cX5_write 41 = .ok (.ldc 42, 2) := by decide +kernel
theorem dX5_write_43 : decode cX5_write 43 = .ok (.ireturn, 1) := by decide +kernel
theorem dX5_write_44 : decode cX5_write 44 = .ok (.aload_n 0, 1) := by decide +kernel
theorem dX5_write_45 : decode cX5_write 45 = .ok (.getfield 15, 3) := by decide +kernel
theorem dX5_write_48 : decode cX5_write 48 = .ok (.iload_n 1, 1) := by decide +kernel
theorem dX5_write_49 : decode cX5_write 49 = .ok (.aload_n 0, 1) := by decide +kernel
theorem dX5_write_50 : decode cX5_write 50 = .ok (.getfield 11, 3) := by decide +kernel
theorem dX5_write_53 : decode cX5_write 53 = .ok (.iconst 1, 1) := by decide +kernel
theorem dX5_write_54 : decode cX5_write 54 = .ok (.if_icmp .ne 8, 3) := by decide +kernel
theorem dX5_write_57 : decode cX5_write 57 = .ok (.iload_n 2, 1) := by decide +kernel
theorem dX5_write_58 : decode cX5_write 58 = .ok (.i2s, 1) := by decide +kernel
theorem dX5_write_59 : decode cX5_write 59 = .ok (.goto 4, 3) := by decide +kernel
theorem dX5_write_62 : decode cX5_write 62 = .ok (.iload_n 2, 1) := by decide +kernel
theorem dX5_write_63 : decode cX5_write 63 = .ok (.invokestatic 43, 3) := by decide +kernel
theorem dX5_write_66 : decode cX5_write 66 = .ok (.pop, 1) := by decide +kernel
theorem dX5_write_67 : decode cX5_write 67 = .ok (.iconst 1, 1) := by decide +kernel
theorem dX5_write_68 : decode cX5_write 68 = .ok (.ireturn, 1) := by decide +kernel
theorem dX5_valueAt_0 : decode cX5_valueAt 0 = .ok (.aload_n 0, 1) := by decide +kernel
theorem dX5_valueAt_1 : decode cX5_valueAt 1 = .ok (.iload_n 1, 1) := by decide +kernel
theorem dX5_valueAt_2 : decode cX5_valueAt 2 = .ok (.iconst (-1), 1) := by decide +kernel
theorem dX5_valueAt_3 : decode cX5_valueAt 3 = .ok (.invokevirtual 47, 3) := by decide +kernel
theorem dX5_valueAt_6 : decode cX5_valueAt 6 = .ok (.istore_n 2, 1) := by decide +kernel
theorem dX5_valueAt_7 : decode cX5_valueAt 7 = .ok (.aload_n 0, 1) := by decide +kernel
theorem dX5_valueAt_8 : decode cX5_valueAt 8 = .ok (.iload_n 1, 1) := by decide +kernel
theorem dX5_valueAt_9 : decode cX5_valueAt 9 = .ok (.iconst 1, 1) := by decide +kernel
theorem dX5_valueAt_10 : decode cX5_valueAt 10 = .ok (.invokevirtual 47, 3) := by decide +kernel
theorem dX5_valueAt_13 : decode cX5_valueAt 13 = .ok (.istore_n 3, 1) := by decide +kernel
theorem dX5_valueAt_14 : decode cX5_valueAt 14 = .ok (.iload_n 2, 1) := by decide +kernel
theorem dX5_valueAt_15 : decode cX5_valueAt 15 = .ok (.ldc 38, 2) := by decide +kernel
theorem dX5_valueAt_17 : decode cX5_valueAt 17 = .ok (.if_icmp .ne 12, 3) := by decide +kernel
theorem dX5_valueAt_20 : decode cX5_valueAt 20 = .ok (.iload_n 3, 1) := by decide +kernel
theorem dX5_valueAt_21 : decode cX5_valueAt 21 = .ok (.ldc 38, 2) := by decide +kernel
theorem dX5_valueAt_23 : decode cX5_valueAt 23 = .ok (.if_icmp .ne 6, 3) := by decide +kernel
theorem dX5_valueAt_26 : decode cX5_valueAt 26 = .ok (.ldc 39, 2) := by decide +kernel
theorem dX5_valueAt_28 : decode cX5_valueAt 28 = .ok (.ireturn, 1) := by decide +kernel
theorem dX5_valueAt_29 : decode cX5_valueAt 29 = .ok (.iload_n 2, 1) := by decide +kernel
theorem dX5_valueAt_30 : decode cX5_valueAt 30 = .ok (.ldc 38, 2) := by decide +kernel
theorem dX5_valueAt_32 : decode cX5_valueAt 32 = .ok (.if_icmp .eq 9, 3) := by decide +kernel
theorem dX5_valueAt_35 : decode cX5_valueAt 35 = .ok (.iload_n 3, 1) := by decide +kernel
theorem dX5_valueAt_36 : decode cX5_valueAt 36 = .ok (.ldc 38, 2) := by decide +kernel
theorem dX5_valueAt_38 : decode cX5_valueAt 38 = .ok (.if_icmp .ne 20, 3) := by decide +kernel
theorem dX5_valueAt_41 : decode cX5_valueAt 41 = .ok (.aload_n 0, 1) := by decide +kernel
theorem dX5_valueAt_42 : decode cX5_valueAt 42 = .ok (.getfield 15, 3) := by decide +kernel
theorem dX5_valueAt_45 : decode cX5_valueAt 45 = .ok (.iload_n 2, 1) := by decide +kernel
theorem dX5_valueAt_46 : decode cX5_valueAt 46 = .ok (.ldc 38, 2) := by decide +kernel
theorem dX5_valueAt_48 : decode cX5_valueAt 48 = .ok (.if_icmp .ne 7, 3) := by decide +kernel
theorem dX5_valueAt_51 : decode cX5_valueAt 51 = .ok (.iload_n 3, 1) := by decide +kernel
theorem dX5_valueAt_52 : decode cX5_valueAt 52 = .ok (.goto 4, 3) := by decide +kernel
theorem dX5_valueAt_55 : decode cX5_valueAt 55 = .ok (.iload_n 2, 1) := by decide +kernel
theorem dX5_valueAt_56 : decode cX5_valueAt 56 = .ok (.iaload, 1) := by decide +kernel
theorem dX5_valueAt_57 : decode cX5_valueAt 57 = .ok (.ireturn, 1) := by decide +kernel
theorem dX5_valueAt_58 : decode cX5_valueAt 58 = .ok (.iload_n 3, 1) := by decide +kernel
theorem dX5_valueAt_59 : decode cX5_valueAt 59 = .ok (.iload_n 2, 1) := by decide +kernel
theorem dX5_valueAt_60 : decode cX5_valueAt 60 = .ok (.isub, 1) := by decide +kernel
theorem dX5_valueAt_61 : decode cX5_valueAt 61 = .ok (.istore 4, 2) := by decide +kernel
theorem dX5_valueAt_63 : decode cX5_valueAt 63 = .ok (.iload 4, 2) := by decide +kernel
theorem dX5_valueAt_65 : decode cX5_valueAt 65 = .ok (.ifCond .gt 10, 3) := by decide +kernel
theorem dX5_valueAt_68 : decode cX5_valueAt 68 = .ok (.aload_n 0, 1) := by decide +kernel
theorem dX5_valueAt_69 : decode cX5_valueAt 69 = .ok (.getfield 15, 3) := by decide +kernel
theorem dX5_valueAt_72 : decode cX5_valueAt 72 = .ok (.iload_n 2, 1) := by decide +kernel
theorem dX5_valueAt_73 : decode cX5_valueAt 73 = .ok (.iaload, 1) := by decide +kernel
theorem dX5_valueAt_74 : decode cX5_valueAt 74 = .ok (.ireturn, 1) := by decide +kernel
theorem dX5_valueAt_75 : decode cX5_valueAt 75 = .ok (.aload_n 0, 1) := by decide +kernel
theorem dX5_valueAt_76 : decode cX5_valueAt 76 = .ok (.getfield 15, 3) := by decide +kernel
theorem dX5_valueAt_79 : decode cX5_valueAt 79 = .ok (.iload_n 2, 1) := by decide +kernel
theorem dX5_valueAt_80 : decode cX5_valueAt 80 = .ok (.iaload, 1) := by decide +kernel
theorem dX5_valueAt_81 : decode cX5_valueAt 81 = .ok (.iload_n 3, 1) := by decide +kernel
theorem dX5_valueAt_82 : decode cX5_valueAt 82 = .ok (.iload_n 1, 1) := by decide +kernel
theorem dX5_valueAt_83 : decode cX5_valueAt 83 = .ok (.isub, 1) := by decide +kernel
theorem dX5_valueAt_84 : decode cX5_valueAt 84 = .ok (.imul, 1) := by decide +kernel
theorem dX5_valueAt_85 : decode cX5_valueAt 85 = .ok (.aload_n 0, 1) := by decide +kernel
theorem dX5_valueAt_86 : decode cX5_valueAt 86 = .ok (.getfield 15, 3) := by decide +kernel
theorem dX5_valueAt_89 : decode cX5_valueAt 89 = .ok (.iload_n 3, 1) := by decide +kernel
theorem dX5_valueAt_90 : decode cX5_valueAt 90 = .ok (.iaload, 1) := by decide +kernel
theorem dX5_valueAt_91 : decode cX5_valueAt 91 = .ok (.iload_n 1, 1) := by decide +kernel
theorem dX5_valueAt_92 : decode cX5_valueAt 92 = .ok (.iload_n 2, 1) := by decide +kernel
theorem dX5_valueAt_93 : decode cX5_valueAt 93 = .ok (.isub, 1) := by decide +kernel
theorem dX5_valueAt_94 : decode cX5_valueAt 94 = .ok (.imul, 1) := by decide +kernel
theorem dX5_valueAt_95 : decode cX5_valueAt 95 = .ok (.iadd, 1) := by decide +kernel
theorem dX5_valueAt_96 : decode cX5_valueAt 96 = .ok (.iload 4, 2) := by decide +kernel
