theorem dX0_init_0 : decode cX0_init 0 = .ok (.aload_n 0, 1) := by decide +kernel
theorem dX0_init_1 : decode cX0_init 1 = .ok (.invokespecial 3, 3) := by decide +kernel
theorem dX0_init_4 : decode cX0_init 4 = .ok (.aload_n 0, 1) := by decide +kernel
theorem dX0_init_5 : decode cX0_init 5 = .ok (.sipush 400, 3) := by decide +kernel
theorem dX0_init_8 : decode cX0_init 8 = .ok (.newarray .float, 2) := by decide +kernel
theorem dX0_init_10 : decode cX0_init 10 = .ok (.putfield 9, 3) := by decide +kernel
theorem dX0_init_13 : decode cX0_init 13 = .ok (.aload_n 0, 1) := by decide +kernel
theorem dX0_init_14 : decode cX0_init 14 = .ok (.iconst 4, 1) := by decide +kernel
theorem dX0_init_15 : decode cX0_init 15 = .ok (.newarray .int, 2) := by decide +kernel
theorem dX0_init_17 : decode cX0_init 17 = .ok (.putfield 15, 3) := by decide +kernel
theorem dX0_init_20 : decode cX0_init 20 = .ok (.return_, 1) := by decide +kernel
theorem dX0_measure_0 : decode cX0_measure 0 = .ok (.iconst 0, 1) := by decide +kernel
theorem dX0_measure_1 : decode cX0_measure 1 = .ok (.istore_n 2, 1) := by decide +kernel
theorem dX0_measure_2 : decode cX0_measure 2 = .ok (.iload_n 2, 1) := by decide +kernel
theorem dX0_measure_3 : decode cX0_measure 3 = .ok (.aload_n 1, 1) := by decide +kernel
theorem dX0_measure_4 : decode cX0_measure 4 = .ok (.getfield 19, 3) := by decide +kernel
theorem dX0_measure_7 : decode cX0_measure 7 = .ok (.if_icmp .ge 56, 3) := by decide +kernel
theorem dX0_measure_10 : decode cX0_measure 10 = .ok (.iconst 0, 1) := by decide +kernel
theorem dX0_measure_11 : decode cX0_measure 11 = .ok (.istore_n 3, 1) := by decide +kernel
theorem dX0_measure_12 : decode cX0_measure 12 = .ok (.iload_n 3, 1) := by decide +kernel
theorem dX0_measure_13 : decode cX0_measure 13 = .ok (.iload_n 2, 1) := by decide +kernel
theorem dX0_measure_14 : decode cX0_measure 14 = .ok (.if_icmp .ge 43, 3) := by decide +kernel
theorem dX0_measure_17 : decode cX0_measure 17 = .ok (.aload_n 1, 1) := by decide +kernel
theorem dX0_measure_18 : decode cX0_measure 18 = .ok (.iload_n 2, 1) := by decide +kernel
theorem dX0_measure_19 : decode cX0_measure 19 = .ok (.iload_n 3, 1) := by decide +kernel
theorem dX0_measure_20 : decode cX0_measure 20 = .ok (.invokevirtual 25, 3) := by decide +kernel
theorem dX0_measure_23 : decode cX0_measure 23 = .ok (.fstore 4, 2) := by decide +kernel
theorem dX0_measure_25 : decode cX0_measure 25 = .ok (.aload_n 0, 1) := by decide +kernel
theorem dX0_measure_26 : decode cX0_measure 26 = .ok (.getfield 9, 3) := by decide +kernel
theorem dX0_measure_29 : decode cX0_measure 29 = .ok (.bipush 20, 2) := by decide +kernel
theorem dX0_measure_31 : decode cX0_measure 31 = .ok (.iload_n 2, 1) := by decide +kernel
theorem dX0_measure_32 : decode cX0_measure 32 = .ok (.imul, 1) := by decide +kernel
theorem dX0_measure_33 : decode cX0_measure 33 = .ok (.iload_n 3, 1) := by decide +kernel
theorem dX0_measure_34 : decode cX0_measure 34 = .ok (.iadd, 1) := by decide +kernel
theorem dX0_measure_35 : decode cX0_measure 35 = .ok (.fload 4, 2) := by decide +kernel
theorem dX0_measure_37 : decode cX0_measure 37 = .ok (.fastore, 1) := by decide +kernel
theorem dX0_measure_38 : decode cX0_measure 38 = .ok (.aload_n 0, 1) := by decide +kernel
theorem dX0_measure_39 : decode cX0_measure 39 = .ok (.getfield 9, 3) := by decide +kernel
theorem dX0_measure_42 : decode cX0_measure 42 = .ok (.bipush 20, 2) := by decide +kernel
theorem dX0_measure_44 : decode cX0_measure 44 = .ok (.iload_n 3, 1) := by decide +kernel
theorem dX0_measure_45 : decode cX0_measure 45 = .ok (.imul, 1) := by decide +kernel
theorem dX0_measure_46 : decode cX0_measure 46 = .ok (.iload_n 2, 1) := by decide +kernel
theorem dX0_measure_47 : decode cX0_measure 47 = .ok (.iadd, 1) := by decide +kernel
theorem dX0_measure_48 : decode cX0_measure 48 = .ok (.fload 4, 2) := by decide +kernel
theorem dX0_measure_50 : decode cX0_measure 50 = .ok (.fastore, 1) := by decide +kernel
theorem dX0_measure_51 : decode cX0_measure 51 = .ok (.iinc 3 1, 3) := by decide +kernel
theorem dX0_measure_54 : decode cX0_measure 54 = .ok (.goto (-42), 3) := by decide +kernel
theorem dX0_measure_57 : decode cX0_measure 57 = .ok (.iinc 2 1, 3) := by decide +kernel
theorem dX0_measure_60 : decode cX0_measure 60 = .ok (.goto (-58), 3) := by decide +kernel
theorem dX0_measure_63 : decode cX0_measure 63 = .ok (.return_, 1) := by decide +kernel
theorem dX0_gap_0 : decode cX0_gap 0 = .ok (.aload_n 0, 1) := by decide +kernel
theorem dX0_gap_1 : decode cX0_gap 1 = .ok (.getfield 9, 3) := by decide +kernel
theorem dX0_gap_4 : decode cX0_gap 4 = .ok (.bipush 20, 2) := by decide +kernel
theorem dX0_gap_6 : decode cX0_gap 6 = .ok (.iload_n 1, 1) := by decide +kernel
theorem dX0_gap_7 : decode cX0_gap 7 = .ok (.imul, 1) := by decide +kernel
theorem dX0_gap_8 : decode cX0_gap 8 = .ok (.iload_n 2, 1) := by decide +kernel
theorem dX0_gap_9 : decode cX0_gap 9 = .ok (.iadd, 1) := by decide +kernel
theorem dX0_gap_10 : decode cX0_gap 10 = .ok (.faload, 1) := by decide +kernel
theorem dX0_gap_11 : decode cX0_gap 11 = .ok (.freturn, 1) := by decide +kernel
theorem dX0_leastOf_0 : decode cX0_leastOf 0 = .ok (.iload_n 2, 1) := by decide +kernel
theorem dX0_leastOf_1 : decode cX0_leastOf 1 = .ok (.iconst 2, 1) := by decide +kernel
theorem dX0_leastOf_2 : decode cX0_leastOf 2 = .ok (.if_icmp .ge 5, 3) := by decide +kernel
theorem dX0_leastOf_5 : decode cX0_leastOf 5 = .ok (.fconst 0, 1) := by decide +kernel
theorem dX0_leastOf_6 : decode cX0_leastOf 6 = .ok (.freturn, 1) := by decide +kernel
theorem dX0_leastOf_7 : decode cX0_leastOf 7 = .ok (.aload_n 0, 1) := by decide +kernel
theorem dX0_leastOf_8 : decode cX0_leastOf 8 = .ok (.aload_n 1, 1) := by decide +kernel
theorem dX0_leastOf_9 : decode cX0_leastOf 9 = .ok (.iconst 0, 1) := by decide +kernel
theorem dX0_leastOf_10 : decode cX0_leastOf 10 = .ok (.iaload, 1) := by decide +kernel
theorem dX0_leastOf_11 : decode cX0_leastOf 11 = .ok (.aload_n 1, 1) := by decide +kernel
theorem dX0_leastOf_12 : decode cX0_leastOf 12 = .ok (.iconst 1, 1) := by decide +kernel
theorem dX0_leastOf_13 : decode cX0_leastOf 13 = .ok (.iaload, 1) := by decide +kernel
theorem dX0_leastOf_14 : decode cX0_leastOf 14 = .ok (.invokevirtual 29, 3) := by decide +kernel
theorem dX0_leastOf_17 : decode cX0_leastOf 17 = .ok (.fstore_n 3, 1) := by decide +kernel
theorem dX0_leastOf_18 : decode cX0_leastOf 18 = .ok (.iconst 0, 1) := by decide +kernel
theorem dX0_leastOf_19 : decode cX0_leastOf 19 = .ok (.istore 4, 2) := by decide +kernel
theorem dX0_leastOf_21 : decode cX0_leastOf 21 = .ok (.iload 4, 2) := by decide +kernel
theorem dX0_leastOf_23 : decode cX0_leastOf 23 = .ok (.iload_n 2, 1) := by decide +kernel
theorem dX0_leastOf_24 : decode cX0_leastOf 24 = .ok (.if_icmp .ge 55, 3) := by decide +kernel
theorem dX0_leastOf_27 : decode cX0_leastOf 27 = .ok (.iload 4, 2) := by decide +kernel
theorem dX0_leastOf_29 : decode cX0_leastOf 29 = .ok (.iconst 1, 1) := by decide +kernel
theorem dX0_leastOf_30 : decode cX0_leastOf 30 = .ok (.iadd, 1) := by decide +kernel
theorem dX0_leastOf_31 : decode cX0_leastOf 31 = .ok (.istore 5, 2) := by decide +kernel
theorem dX0_leastOf_33 : decode cX0_leastOf 33 = .ok (.iload 5, 2) := by decide +kernel
theorem dX0_leastOf_35 : decode cX0_leastOf 35 = .ok (.iload_n 2, 1) := by decide +kernel
theorem dX0_leastOf_36 : decode cX0_leastOf 36 = .ok (.if_icmp .ge 37, 3) := by decide +kernel
theorem dX0_leastOf_39 : decode cX0_leastOf 39 = .ok (.aload_n 0, 1) := by decide +kernel
theorem dX0_leastOf_40 : decode cX0_leastOf 40 = .ok (.aload_n 1, 1) := by decide +kernel
theorem dX0_leastOf_41 : decode cX0_leastOf 41 = .ok (.iload 4, 2) := by decide +kernel
theorem dX0_leastOf_43 : decode cX0_leastOf 43 = .ok (.iaload, 1) := by decide +kernel
theorem dX0_leastOf_44 : decode cX0_leastOf 44 = .ok (.aload_n 1, 1) := by decide +kernel
theorem dX0_leastOf_45 : decode cX0_leastOf 45 = .ok (.iload 5, 2) := by decide +kernel
theorem dX0_leastOf_47 : decode cX0_leastOf 47 = .ok (.iaload, 1) := by decide +kernel
theorem dX0_leastOf_48 : decode cX0_leastOf 48 = .ok (.invokevirtual 29, 3) := by decide +kernel
theorem dX0_leastOf_51 : decode cX0_leastOf 51 = .ok (.fstore 6, 2) := by decide +kernel
theorem dX0_leastOf_53 : decode cX0_leastOf 53 = .ok (.fload 6, 2) := by decide +kernel
theorem dX0_leastOf_55 : decode cX0_leastOf 55 = .ok (.fload_n 3, 1) := by decide +kernel
theorem dX0_leastOf_56 : decode cX0_leastOf 56 = .ok (.fcmp .g, 1) := by decide +kernel
theorem dX0_leastOf_57 : decode cX0_leastOf 57 = .ok (.ifCond .ge 8, 3) := by decide +kernel
theorem dX0_leastOf_60 : decode cX0_leastOf 60 = .ok (.fload 6, 2) := by decide +kernel
theorem dX0_leastOf_62 : decode cX0_leastOf 62 = .ok (.goto 4, 3) := by decide +kernel
theorem dX0_leastOf_65 : decode cX0_leastOf 65 = .ok (.fload_n 3, 1) := by decide +kernel
theorem dX0_leastOf_66 : decode cX0_leastOf 66 = .ok (.fstore_n 3, 1) := by decide +kernel
theorem dX0_leastOf_67 : decode cX0_leastOf 67 = .ok (.iinc 5 1, 3) := by decide +kernel
theorem dX0_leastOf_70 : decode cX0_leastOf 70 = .ok (.goto (-37), 3) := by decide +kernel
theorem dX0_leastOf_73 : decode cX0_leastOf 73 = .ok (.iinc 4 1, 3) := by decide +kernel
theorem dX0_leastOf_76 : decode cX0_leastOf 76 = .ok (.goto (-55), 3) := by decide +kernel
theorem dX0_leastOf_79 : decode cX0_leastOf 79 = .ok (.fload_n 3, 1) := by decide +kernel
theorem dX0_leastOf_80 : decode cX0_leastOf 80 = .ok (.freturn, 1) := by decide +kernel
theorem dX0_nearestPlaces_0 : decode cX0_nearestPlaces 0 = .ok (.iconst (-1), 1) := by decide +kernel
theorem dX0_nearestPlaces_1 : decode cX0_nearestPlaces 1 = .ok (.istore_n 2, 1) := by decide +kernel
theorem dX0_nearestPlaces_2 : decode cX0_nearestPlaces 2 = .ok (.fconst 0, 1) := by decide +kernel
theorem dX0_nearestPlaces_3 : decode cX0_nearestPlaces 3 = .ok (.fstore_n 3, 1) := by decide +kernel
theorem dX0_nearestPlaces_4 : decode cX0_nearestPlaces 4 = .ok (.iconst 0, 1) := by decide +kernel
theorem dX0_nearestPlaces_5 : decode cX0_nearestPlaces 5 = .ok (.istore 4, 2) := by decide +kernel
theorem dX0_nearestPlaces_7 : decode cX0_nearestPlaces 7 = .ok (.iload 4, 2) := by decide +kernel
theorem dX0_nearestPlaces_9 : decode cX0_nearestPlaces 9 = .ok (.aload_n 1, 1) := by decide +kernel
theorem dX0_nearestPlaces_10 : decode cX0_nearestPlaces 10 = .ok (.getfield 32, 3) := by decide +kernel
theorem dX0_nearestPlaces_13 : decode cX0_nearestPlaces 13 = .ok (.if_icmp .ge 74, 3) := by decide +kernel
theorem dX0_nearestPlaces_16 : decode cX0_nearestPlaces 16 = .ok (.iload 4, 2) := by decide +kernel
theorem dX0_nearestPlaces_18 : decode cX0_nearestPlaces 18 = .ok (.iconst 1, 1) := by decide +kernel
theorem dX0_nearestPlaces_19 : decode cX0_nearestPlaces 19 = .ok (.iadd, 1) := by decide +kernel
theorem dX0_nearestPlaces_20 : decode cX0_nearestPlaces 20 = .ok (.istore 5, 2) := by decide +kernel
theorem dX0_nearestPlaces_22 : decode cX0_nearestPlaces 22 = .ok (.iload 5, 2) := by decide +kernel
theorem dX0_nearestPlaces_24 : decode cX0_nearestPlaces 24 = .ok (.aload_n 1, 1) := by decide +kernel
theorem dX0_nearestPlaces_25 : decode cX0_nearestPlaces 25 = .ok (.getfield 32, 3) := by decide +kernel
theorem dX0_nearestPlaces_28 : decode cX0_nearestPlaces 28 = .ok (.if_icmp .ge 53, 3) := by decide +kernel
theorem dX0_nearestPlaces_31 : decode cX0_nearestPlaces 31 = .ok (.aload_n 0, 1) := by decide +kernel
theorem dX0_nearestPlaces_32 : decode cX0_nearestPlaces 32 = .ok (.aload_n 1, 1) := by decide +kernel
theorem dX0_nearestPlaces_33 : decode cX0_nearestPlaces 33 = .ok (.getfield 35, 3) := by decide +kernel
theorem dX0_nearestPlaces_36 : decode cX0_nearestPlaces 36 = .ok (.iload 4, 2) := by decide +kernel
theorem dX0_nearestPlaces_38 : decode cX0_nearestPlaces 38 = .ok (.iaload, 1) := by decide +kernel
theorem dX0_nearestPlaces_39 : decode cX0_nearestPlaces 39 = .ok (.aload_n 1, 1) := by decide +kernel
theorem dX0_nearestPlaces_40 : decode cX0_nearestPlaces 40 = .ok (.getfield 35, 3) := by decide +kernel
theorem dX0_nearestPlaces_43 : decode cX0_nearestPlaces 43 = .ok (.iload 5, 2) := by decide +kernel
theorem dX0_nearestPlaces_45 : decode cX0_nearestPlaces 45 = .ok (.iaload, 1) := by decide +kernel
theorem dX0_nearestPlaces_46 : decode cX0_nearestPlaces 46 = .ok (.invokevirtual 29, 3) := by decide +kernel
theorem dX0_nearestPlaces_49 : decode cX0_nearestPlaces 49 = .ok (.fstore 6, 2) := by decide +kernel
theorem dX0_nearestPlaces_51 : decode cX0_nearestPlaces 51 = .ok (.iload_n 2, 1) := by decide +kernel
theorem dX0_nearestPlaces_52 : decode cX0_nearestPlaces 52 = .ok (.iconst (-1), 1) := by decide +kernel
theorem dX0_nearestPlaces_53 : decode cX0_nearestPlaces 53 = .ok (.if_icmp .eq 10, 3) := by decide +kernel
theorem dX0_nearestPlaces_56 : decode cX0_nearestPlaces 56 = .ok (.fload 6, 2) := by decide +kernel
theorem dX0_nearestPlaces_58 : decode cX0_nearestPlaces 58 = .ok (.fload_n 3, 1) := by decide +kernel
theorem dX0_nearestPlaces_59 : decode cX0_nearestPlaces 59 = .ok (.fcmp .g, 1) := by decide +kernel
theorem dX0_nearestPlaces_60 : decode cX0_nearestPlaces 60 = .ok (.ifCond .ge 15, 3) := by decide +kernel
theorem dX0_nearestPlaces_63 : decode cX0_nearestPlaces 63 = .ok (.bipush 10, 2) := by decide +kernel
theorem dX0_nearestPlaces_65 : decode cX0_nearestPlaces 65 = .ok (.iload 4, 2) := by decide +kernel
theorem dX0_nearestPlaces_67 : decode cX0_nearestPlaces 67 = .ok (.imul, 1) := by decide +kernel
theorem dX0_nearestPlaces_68 : decode cX0_nearestPlaces 68 = .ok (.iload 5, 2) := by decide +kernel
theorem dX0_nearestPlaces_70 : decode cX0_nearestPlaces 70 = .ok (.iadd, 1) := by decide +kernel
theorem dX0_nearestPlaces_71 : decode cX0_nearestPlaces 71 = .ok (.istore_n 2, 1) := by decide +kernel
theorem dX0_nearestPlaces_72 : decode cX0_nearestPlaces 72 = .ok (.fload 6, 2) := by decide +kernel
theorem dX0_nearestPlaces_74 : decode cX0_nearestPlaces 74 = .ok (.fstore_n 3, 1) := by decide +kernel
theorem dX0_nearestPlaces_75 : decode cX0_nearestPlaces 75 = .ok (.iinc 5 1, 3) := by decide +kernel
theorem dX0_nearestPlaces_78 : decode cX0_nearestPlaces 78 = .ok (.goto (-56), 3) := by decide +kernel
theorem dX0_nearestPlaces_81 : decode cX0_nearestPlaces 81 = .ok (.iinc 4 1, 3) := by decide +kernel
theorem dX0_nearestPlaces_84 : decode cX0_nearestPlaces 84 = .ok (.goto (-77), 3) := by decide +kernel
theorem dX0_nearestPlaces_87 : decode cX0_nearestPlaces 87 = .ok (.iload_n 2, 1) := by decide +kernel
theorem dX0_nearestPlaces_88 : decode cX0_nearestPlaces 88 = .ok (.ireturn, 1) := by decide +kernel
theorem dX0_fill_0 : decode cX0_fill 0 = .ok (.aload_n 0, 1) := by decide +kernel
theorem dX0_fill_1 : decode cX0_fill 1 = .ok (.aload_n 1, 1) := by decide +kernel
theorem dX0_fill_2 : decode cX0_fill 2 = .ok (.invokevirtual 38, 3) := by decide +kernel
theorem dX0_fill_5 : decode cX0_fill 5 = .ok (.aload_n 1, 1) := by decide +kernel
theorem dX0_fill_6 : decode cX0_fill 6 = .ok (.iconst 0, 1) := by decide +kernel
theorem dX0_fill_7 : decode cX0_fill 7 = .ok (.putfield 32, 3) := by decide +kernel
theorem dX0_fill_10 : decode cX0_fill 10 = .ok (.iconst 0, 1) := by decide +kernel
theorem dX0_fill_11 : decode cX0_fill 11 = .ok (.istore_n 3, 1) := by decide +kernel
theorem dX0_fill_12 : decode cX0_fill 12 = .ok (.iload_n 3, 1) := by decide +kernel
theorem dX0_fill_13 : decode cX0_fill 13 = .ok (.aload_n 1, 1) := by decide +kernel
theorem dX0_fill_14 : decode cX0_fill 14 = .ok (.getfield 19, 3) := by decide +kernel
theorem dX0_fill_17 : decode cX0_fill 17 = .ok (.if_icmp .ge 22, 3) := by decide +kernel
theorem dX0_fill_20 : decode cX0_fill 20 = .ok (.aload_n 1, 1) := by decide +kernel
theorem dX0_fill_21 : decode cX0_fill 21 = .ok (.iload_n 3, 1) := by decide +kernel
theorem dX0_fill_22 : decode cX0_fill 22 = .ok (.invokevirtual 42, 3) := by decide +kernel
theorem dX0_fill_25 : decode cX0_fill 25 = .ok (.ifCond .eq 8, 3) := by decide +kernel
theorem dX0_fill_28 : decode cX0_fill 28 = .ok (.aload_n 1, 1) := by decide +kernel
theorem dX0_fill_29 : decode cX0_fill 29 = .ok (.iload_n 3, 1) := by decide +kernel
theorem dX0_fill_30 : decode cX0_fill 30 = .ok (.invokevirtual 46, 3) := by decide +kernel
theorem dX0_fill_33 : decode cX0_fill 33 = .ok (.iinc 3 1, 3) := by decide +kernel
theorem dX0_fill_36 : decode cX0_fill 36 = .ok (.goto (-24), 3) := by decide +kernel
theorem dX0_fill_39 : decode cX0_fill 39 = .ok (.aload_n 1, 1) := by decide +kernel
theorem dX0_fill_40 : decode cX0_fill 40 = .ok (.invokevirtual 50, 3) := by decide +kernel
theorem dX0_fill_43 : decode cX0_fill 43 = .ok (.istore_n 3, 1) := by decide +kernel
theorem dX0_fill_44 : decode cX0_fill 44 = .ok (.aload_n 1, 1) := by decide +kernel
theorem dX0_fill_45 : decode cX0_fill 45 = .ok (.getfield 32, 3) := by decide +kernel
theorem dX0_fill_48 : decode cX0_fill 48 = .ok (.istore 4, 2) := by decide +kernel
theorem dX0_fill_50 : decode cX0_fill 50 = .ok (.iload 4, 2) := by decide +kernel
theorem dX0_fill_52 : decode cX0_fill 52 = .ok (.iload_n 2, 1) := by decide +kernel
theorem dX0_fill_53 : decode cX0_fill 53 = .ok (.if_icmp .ge 37, 3) := by decide +kernel
theorem dX0_fill_56 : decode cX0_fill 56 = .ok (.aload_n 0, 1) := by decide +kernel
theorem dX0_fill_57 : decode cX0_fill 57 = .ok (.aload_n 1, 1) := by decide +kernel
theorem dX0_fill_58 : decode cX0_fill 58 = .ok (.iload_n 3, 1) := by decide +kernel
theorem dX0_fill_59 : decode cX0_fill 59 = .ok (.aload_n 1, 1) := by decide +kernel
theorem dX0_fill_60 : decode cX0_fill 60 = .ok (.invokevirtual 54, 3) := by decide +kernel
theorem dX0_fill_63 : decode cX0_fill 63 = .ok (.iconst (-1), 1) := by decide +kernel
theorem dX0_fill_64 : decode cX0_fill 64 = .ok (.ixor, 1) := by decide +kernel
theorem dX0_fill_65 : decode cX0_fill 65 = .ok (.iand, 1) := by decide +kernel
theorem dX0_fill_66 : decode cX0_fill 66 = .ok (.invokevirtual 57, 3) := by decide +kernel
theorem dX0_fill_69 : decode cX0_fill 69 = .ok (.istore 5, 2) := by decide +kernel
theorem dX0_fill_71 : decode cX0_fill 71 = .ok (.iload 5, 2) := by decide +kernel
theorem dX0_fill_73 : decode cX0_fill 73 = .ok (.iconst (-1), 1) := by decide +kernel
theorem dX0_fill_74 : decode cX0_fill 74 = .ok (.if_icmp .ne 4, 3) := by decide +kernel
theorem dX0_fill_77 : decode cX0_fill 77 = .ok (.return_, 1) := by decide +kernel
theorem dX0_fill_78 : decode cX0_fill 78 = .ok (.aload_n 1, 1) := by decide +kernel
theorem dX0_fill_79 : decode cX0_fill 79 = .ok (.iload 5, 2) := by decide +kernel
theorem dX0_fill_81 : decode cX0_fill 81 = .ok (.invokevirtual 46, 3) := by decide +kernel
theorem dX0_fill_84 : decode cX0_fill 84 = .ok (.iinc 4 1, 3) := by decide +kernel
theorem dX0_fill_87 : decode cX0_fill 87 = .ok (.goto (-37), 3) := by decide +kernel
theorem dX0_fill_90 : decode cX0_fill 90 = .ok (.return_, 1) := by decide +kernel
theorem dX0_nextOne_0 : decode cX0_nextOne 0 = .ok (.iconst (-1), 1) := by decide +kernel
theorem dX0_nextOne_1 : decode cX0_nextOne 1 = .ok (.istore_n 3, 1) := by decide +kernel
theorem dX0_nextOne_2 : decode cX0_nextOne 2 = .ok (.fconst 0, 1) := by decide +kernel
theorem dX0_nextOne_3 : decode cX0_nextOne 3 = .ok (.fstore 4, 2) := by decide +kernel
theorem dX0_nextOne_5 : decode cX0_nextOne 5 = .ok (.iconst 0, 1) := by decide +kernel
theorem dX0_nextOne_6 : decode cX0_nextOne 6 = .ok (.istore 5, 2) := by decide +kernel
theorem dX0_nextOne_8 : decode cX0_nextOne 8 = .ok (.iload 5, 2) := by decide +kernel
theorem dX0_nextOne_10 : decode cX0_nextOne 10 = .ok (.aload_n 1, 1) := by decide +kernel
theorem dX0_nextOne_11 : decode cX0_nextOne 11 = .ok (.getfield 19, 3) := by decide +kernel
theorem dX0_nextOne_14 : decode cX0_nextOne 14 = .ok (.if_icmp .ge 64, 3) := by decide +kernel
theorem dX0_nextOne_17 : decode cX0_nextOne 17 = .ok (.iload_n 2, 1) := by decide +kernel
theorem dX0_nextOne_18 : decode cX0_nextOne 18 = .ok (.iload 5, 2) := by decide +kernel
theorem dX0_nextOne_20 : decode cX0_nextOne 20 = .ok (.ishr, 1) := by decide +kernel
theorem dX0_nextOne_21 : decode cX0_nextOne 21 = .ok (.iconst 1, 1) := by decide +kernel
theorem dX0_nextOne_22 : decode cX0_nextOne 22 = .ok (.iand, 1) := by decide +kernel
theorem dX0_nextOne_23 : decode cX0_nextOne 23 = .ok (.iconst 1, 1) := by decide +kernel
theorem dX0_nextOne_24 : decode cX0_nextOne 24 = .ok (.if_icmp .ne 48, 3) := by decide +kernel
theorem dX0_nextOne_27 : decode cX0_nextOne 27 = .ok (.aload_n 1, 1) := by decide +kernel
theorem dX0_nextOne_28 : decode cX0_nextOne 28 = .ok (.getfield 32, 3) := by decide +kernel
theorem dX0_nextOne_31 : decode cX0_nextOne 31 = .ok (.ifCond .ne 12, 3) := by decide +kernel
theorem dX0_nextOne_34 : decode cX0_nextOne 34 = .ok (.aload_n 1, 1) := by decide +kernel
theorem dX0_nextOne_35 : decode cX0_nextOne 35 = .ok (.iload 5, 2) := by decide +kernel
theorem dX0_nextOne_37 : decode cX0_nextOne 37 = .ok (.invokevirtual 61, 3) := by decide +kernel
theorem dX0_nextOne_40 : decode cX0_nextOne 40 = .ok (.goto 10, 3) := by decide +kernel
theorem dX0_nextOne_43 : decode cX0_nextOne 43 = .ok (.aload_n 0, 1) := by decide +kernel
theorem dX0_nextOne_44 : decode cX0_nextOne 44 = .ok (.aload_n 1, 1) := by decide +kernel
theorem dX0_nextOne_45 : decode cX0_nextOne 45 = .ok (.iload 5, 2) := by decide +kernel
theorem dX0_nextOne_47 : decode cX0_nextOne 47 = .ok (.invokevirtual 65, 3) := by decide +kernel
theorem dX0_nextOne_50 : decode cX0_nextOne 50 = .ok (.fstore 6, 2) := by decide +kernel
theorem dX0_nextOne_52 : decode cX0_nextOne 52 = .ok (.iload_n 3, 1) := by decide +kernel
theorem dX0_nextOne_53 : decode cX0_nextOne 53 = .ok (.iconst (-1), 1) := by decide +kernel
theorem dX0_nextOne_54 : decode cX0_nextOne 54 = .ok (.if_icmp .eq 11, 3) := by decide +kernel
theorem dX0_nextOne_57 : decode cX0_nextOne 57 = .ok (.fload 6, 2) := by decide +kernel
theorem dX0_nextOne_59 : decode cX0_nextOne 59 = .ok (.fload 4, 2) := by decide +kernel
theorem dX0_nextOne_61 : decode cX0_nextOne 61 = .ok (.fcmp .l, 1) := by decide +kernel
theorem dX0_nextOne_62 : decode cX0_nextOne 62 = .ok (.ifCond .le 10, 3) := by decide +kernel
theorem dX0_nextOne_65 : decode cX0_nextOne 65 = .ok (.iload 5, 2) := by decide +kernel
theorem dX0_nextOne_67 : decode cX0_nextOne 67 = .ok (.istore_n 3, 1) := by decide +kernel
theorem dX0_nextOne_68 : decode cX0_nextOne 68 = .ok (.fload 6, 2) := by decide +kernel
theorem dX0_nextOne_70 : decode cX0_nextOne 70 = .ok (.fstore 4, 2) := by decide +kernel
theorem dX0_nextOne_72 : decode cX0_nextOne 72 = .ok (.iinc 5 1, 3) := by decide +kernel
theorem dX0_nextOne_75 : decode cX0_nextOne 75 = .ok (.goto (-67), 3) := by decide +kernel
theorem dX0_nextOne_78 : decode cX0_nextOne 78 = .ok (.iload_n 3, 1) := by decide +kernel
theorem dX0_nextOne_79 : decode cX0_nextOne 79 = .ok (.ireturn, 1) := by decide +kernel
theorem dX0_gapToRow_0 : decode cX0_gapToRow 0 = .ok (.aload_n 0, 1) := by decide +kernel
theorem dX0_gapToRow_1 : decode cX0_gapToRow 1 = .ok (.iload_n 2, 1) := by decide +kernel
theorem dX0_gapToRow_2 : decode cX0_gapToRow 2 = .ok (.aload_n 1, 1) := by decide +kernel
theorem dX0_gapToRow_3 : decode cX0_gapToRow 3 = .ok (.getfield 35, 3) := by decide +kernel
theorem dX0_gapToRow_6 : decode cX0_gapToRow 6 = .ok (.iconst 0, 1) := by decide +kernel
theorem dX0_gapToRow_7 : decode cX0_gapToRow 7 = .ok (.iaload, 1) := by decide +kernel
theorem dX0_gapToRow_8 : decode cX0_gapToRow 8 = .ok (.invokevirtual 29, 3) := by decide +kernel
theorem dX0_gapToRow_11 : decode cX0_gapToRow 11 = .ok (.fstore_n 3, 1) := by decide +kernel
theorem dX0_gapToRow_12 : decode cX0_gapToRow 12 = .ok (.iconst 1, 1) := by decide +kernel
theorem dX0_gapToRow_13 : decode cX0_gapToRow 13 = .ok (.istore 4, 2) := by decide +kernel
theorem dX0_gapToRow_15 : decode cX0_gapToRow 15 = .ok (.iload 4, 2) := by decide +kernel
theorem dX0_gapToRow_17 : decode cX0_gapToRow 17 = .ok (.aload_n 1, 1) := by decide +kernel
theorem dX0_gapToRow_18 : decode cX0_gapToRow 18 = .ok (.getfield 32, 3) := by decide +kernel
theorem dX0_gapToRow_21 : decode cX0_gapToRow 21 = .ok (.if_icmp .ge 37, 3) := by decide +kernel
theorem dX0_gapToRow_24 : decode cX0_gapToRow 24 = .ok (.aload_n 0, 1) := by decide +kernel
theorem dX0_gapToRow_25 : decode cX0_gapToRow 25 = .ok (.iload_n 2, 1) := by decide +kernel
theorem dX0_gapToRow_26 : decode cX0_gapToRow 26 = .ok (.aload_n 1, 1) := by decide +kernel
theorem dX0_gapToRow_27 : decode cX0_gapToRow 27 = .ok (.getfield 35, 3) := by decide +kernel
theorem dX0_gapToRow_30 : decode cX0_gapToRow 30 = .ok (.iload 4, 2) := by decide +kernel
theorem dX0_gapToRow_32 : decode cX0_gapToRow 32 = .ok (.iaload, 1) := by decide +kernel
theorem dX0_gapToRow_33 : decode cX0_gapToRow 33 = .ok (.invokevirtual 29, 3) := by decide +kernel
theorem dX0_gapToRow_36 : decode cX0_gapToRow 36 = .ok (.fstore 5, 2) := by decide +kernel
theorem dX0_gapToRow_38 : decode cX0_gapToRow 38 = .ok (.fload 5, 2) := by decide +kernel
theorem dX0_gapToRow_40 : decode cX0_gapToRow 40 = .ok (.fload_n 3, 1) := by decide +kernel
theorem dX0_gapToRow_41 : decode cX0_gapToRow 41 = .ok (.fcmp .g, 1) := by decide +kernel
theorem dX0_gapToRow_42 : decode cX0_gapToRow 42 = .ok (.ifCond .ge 8, 3) := by decide +kernel
theorem dX0_gapToRow_45 : decode cX0_gapToRow 45 = .ok (.fload 5, 2) := by decide +kernel
theorem dX0_gapToRow_47 : decode cX0_gapToRow 47 = .ok (.goto 4, 3) := by decide +kernel
theorem dX0_gapToRow_50 : decode cX0_gapToRow 50 = .ok (.fload_n 3, 1) := by decide +kernel
theorem dX0_gapToRow_51 : decode cX0_gapToRow 51 = .ok (.fstore_n 3, 1) := by decide +kernel
theorem dX0_gapToRow_52 : decode cX0_gapToRow 52 = .ok (.iinc 4 1, 3) := by decide +kernel
theorem dX0_gapToRow_55 : decode cX0_gapToRow 55 = .ok (.goto (-40), 3) := by decide +kernel
theorem dX0_gapToRow_58 : decode cX0_gapToRow 58 = .ok (.fload_n 3, 1) := by decide +kernel
theorem dX0_gapToRow_59 : decode cX0_gapToRow 59 = .ok (.freturn, 1) := by decide +kernel
theorem dX0_swapAll_0 : decode cX0_swapAll 0 = .ok (.aload_n 0, 1) := by decide +kernel
theorem dX0_swapAll_1 : decode cX0_swapAll 1 = .ok (.aload_n 1, 1) := by decide +kernel
theorem dX0_swapAll_2 : decode cX0_swapAll 2 = .ok (.invokevirtual 38, 3) := by decide +kernel
theorem dX0_swapAll_5 : decode cX0_swapAll 5 = .ok (.aload_n 1, 1) := by decide +kernel
theorem dX0_swapAll_6 : decode cX0_swapAll 6 = .ok (.invokevirtual 50, 3) := by decide +kernel
theorem dX0_swapAll_9 : decode cX0_swapAll 9 = .ok (.istore_n 2, 1) := by decide +kernel
theorem dX0_swapAll_10 : decode cX0_swapAll 10 = .ok (.iconst 0, 1) := by decide +kernel
theorem dX0_swapAll_11 : decode cX0_swapAll 11 = .ok (.istore_n 3, 1) := by decide +kernel
theorem dX0_swapAll_12 : decode cX0_swapAll 12 = .ok (.iload_n 3, 1) := by decide +kernel
theorem dX0_swapAll_13 : decode cX0_swapAll 13 = .ok (.bipush 60, 2) := by decide +kernel
theorem dX0_swapAll_15 : decode cX0_swapAll 15 = .ok (.if_icmp .ge 25, 3) := by decide +kernel
theorem dX0_swapAll_18 : decode cX0_swapAll 18 = .ok (.aload_n 0, 1) := by decide +kernel
theorem dX0_swapAll_19 : decode cX0_swapAll 19 = .ok (.aload_n 1, 1) := by decide +kernel
theorem dX0_swapAll_20 : decode cX0_swapAll 20 = .ok (.iload_n 2, 1) := by decide +kernel
theorem dX0_swapAll_21 : decode cX0_swapAll 21 = .ok (.aload_n 1, 1) := by decide +kernel
theorem dX0_swapAll_22 : decode cX0_swapAll 22 = .ok (.invokevirtual 54, 3) := by decide +kernel
theorem dX0_swapAll_25 : decode cX0_swapAll 25 = .ok (.iconst (-1), 1) := by decide +kernel
theorem dX0_swapAll_26 : decode cX0_swapAll 26 = .ok (.ixor, 1) := by decide +kernel
theorem dX0_swapAll_27 : decode cX0_swapAll 27 = .ok (.iand, 1) := by decide +kernel
theorem dX0_swapAll_28 : decode cX0_swapAll 28 = .ok (.invokevirtual 69, 3) := by decide +kernel
theorem dX0_swapAll_31 : decode cX0_swapAll 31 = .ok (.ifCond .eq 9, 3) := by decide +kernel
theorem dX0_swapAll_34 : decode cX0_swapAll 34 = .ok (.iinc 3 1, 3) := by decide +kernel
theorem dX0_swapAll_37 : decode cX0_swapAll 37 = .ok (.goto (-25), 3) := by decide +kernel
theorem dX0_swapAll_40 : decode cX0_swapAll 40 = .ok (.iload_n 3, 1) := by decide +kernel
theorem dX0_swapAll_41 : decode cX0_swapAll 41 = .ok (.ireturn, 1) := by decide +kernel
theorem dX0_swapOne_0 : decode cX0_swapOne 0 = .ok (.aload_n 0, 1) := by decide +kernel
theorem dX0_swapOne_1 : decode cX0_swapOne 1 = .ok (.aload_n 1, 1) := by decide +kernel
theorem dX0_swapOne_2 : decode cX0_swapOne 2 = .ok (.getfield 35, 3) := by decide +kernel
theorem dX0_swapOne_5 : decode cX0_swapOne 5 = .ok (.aload_n 1, 1) := by decide +kernel
theorem dX0_swapOne_6 : decode cX0_swapOne 6 = .ok (.getfield 32, 3) := by decide +kernel
theorem dX0_swapOne_9 : decode cX0_swapOne 9 = .ok (.invokevirtual 73, 3) := by decide +kernel
theorem dX0_swapOne_12 : decode cX0_swapOne 12 = .ok (.fstore_n 3, 1) := by decide +kernel
theorem dX0_swapOne_13 : decode cX0_swapOne 13 = .ok (.iconst 0, 1) := by decide +kernel
theorem dX0_swapOne_14 : decode cX0_swapOne 14 = .ok (.istore 4, 2) := by decide +kernel
theorem dX0_swapOne_16 : decode cX0_swapOne 16 = .ok (.iload 4, 2) := by decide +kernel
theorem dX0_swapOne_18 : decode cX0_swapOne 18 = .ok (.aload_n 1, 1) := by decide +kernel
theorem dX0_swapOne_19 : decode cX0_swapOne 19 = .ok (.getfield 32, 3) := by decide +kernel
theorem dX0_swapOne_22 : decode cX0_swapOne 22 = .ok (.if_icmp .ge 92, 3) := by decide +kernel
theorem dX0_swapOne_25 : decode cX0_swapOne 25 = .ok (.aload_n 1, 1) := by decide +kernel
theorem dX0_swapOne_26 : decode cX0_swapOne 26 = .ok (.getfield 35, 3) := by decide +kernel
theorem dX0_swapOne_29 : decode cX0_swapOne 29 = .ok (.iload 4, 2) := by decide +kernel
theorem dX0_swapOne_31 : decode cX0_swapOne 31 = .ok (.iaload, 1) := by decide +kernel
theorem dX0_swapOne_32 : decode cX0_swapOne 32 = .ok (.istore 5, 2) := by decide +kernel
theorem dX0_swapOne_34 : decode cX0_swapOne 34 = .ok (.iconst 0, 1) := by decide +kernel
theorem dX0_swapOne_35 : decode cX0_swapOne 35 = .ok (.istore 6, 2) := by decide +kernel
theorem dX0_swapOne_37 : decode cX0_swapOne 37 = .ok (.iload 6, 2) := by decide +kernel
theorem dX0_swapOne_39 : decode cX0_swapOne 39 = .ok (.aload_n 1, 1) := by decide +kernel
theorem dX0_swapOne_40 : decode cX0_swapOne 40 = .ok (.getfield 19, 3) := by decide +kernel
theorem dX0_swapOne_43 : decode cX0_swapOne 43 = .ok (.if_icmp .ge 56, 3) := by decide +kernel
theorem dX0_swapOne_46 : decode cX0_swapOne 46 = .ok (.aload_n 1, 1) := by decide +kernel
theorem dX0_swapOne_47 : decode cX0_swapOne 47 = .ok (.iload 5, 2) := by decide +kernel
theorem dX0_swapOne_49 : decode cX0_swapOne 49 = .ok (.invokevirtual 42, 3) := by decide +kernel
theorem dX0_swapOne_52 : decode cX0_swapOne 52 = .ok (.ifCond .ne 47, 3) := by decide +kernel
theorem dX0_swapOne_55 : decode cX0_swapOne 55 = .ok (.iload_n 2, 1) := by decide +kernel
theorem dX0_swapOne_56 : decode cX0_swapOne 56 = .ok (.iload 6, 2) := by decide +kernel
theorem dX0_swapOne_58 : decode cX0_swapOne 58 = .ok (.ishr, 1) := by decide +kernel
theorem dX0_swapOne_59 : decode cX0_swapOne 59 = .ok (.iconst 1, 1) := by decide +kernel
theorem dX0_swapOne_60 : decode cX0_swapOne 60 = .ok (.iand, 1) := by decide +kernel
theorem dX0_swapOne_61 : decode cX0_swapOne 61 = .ok (.iconst 1, 1) := by decide +kernel
theorem dX0_swapOne_62 : decode cX0_swapOne 62 = .ok (.if_icmp .ne 31, 3) := by decide +kernel
theorem dX0_swapOne_65 : decode cX0_swapOne 65 = .ok (.aload_n 1, 1) := by decide +kernel
theorem dX0_swapOne_66 : decode cX0_swapOne 66 = .ok (.getfield 35, 3) := by decide +kernel
theorem dX0_swapOne_69 : decode cX0_swapOne 69 = .ok (.iload 4, 2) := by decide +kernel
theorem dX0_swapOne_71 : decode cX0_swapOne 71 = .ok (.iload 6, 2) := by decide +kernel
theorem dX0_swapOne_73 : decode cX0_swapOne 73 = .ok (.iastore, 1) := by decide +kernel
theorem dX0_swapOne_74 : decode cX0_swapOne 74 = .ok (.aload_n 0, 1) := by decide +kernel
theorem dX0_swapOne_75 : decode cX0_swapOne 75 = .ok (.aload_n 1, 1) := by decide +kernel
theorem dX0_swapOne_76 : decode cX0_swapOne 76 = .ok (.getfield 35, 3) := by decide +kernel
theorem dX0_swapOne_79 : decode cX0_swapOne 79 = .ok (.aload_n 1, 1) := by decide +kernel
theorem dX0_swapOne_80 : decode cX0_swapOne 80 = .ok (.getfield 32, 3) := by decide +kernel
theorem dX0_swapOne_83 : decode cX0_swapOne 83 = .ok (.invokevirtual 73, 3) := by decide +kernel
theorem dX0_swapOne_86 : decode cX0_swapOne 86 = .ok (.fload_n 3, 1) := by decide +kernel
theorem dX0_swapOne_87 : decode cX0_swapOne 87 = .ok (.fcmp .l, 1) := by decide +kernel
theorem dX0_swapOne_88 : decode cX0_swapOne 88 = .ok (.ifCond .le 5, 3) := by decide +kernel
theorem dX0_swapOne_91 : decode cX0_swapOne 91 = .ok (.iconst 1, 1) := by decide +kernel
theorem dX0_swapOne_92 : decode cX0_swapOne 92 = .ok (.ireturn, 1) := by decide +kernel
theorem dX0_swapOne_93 : decode cX0_swapOne 93 = .ok (.iinc 6 1, 3) := by decide +kernel
theorem dX0_swapOne_96 : decode cX0_swapOne 96 = .ok (.goto (-59), 3) := by decide +kernel
theorem dX0_swapOne_99 : decode cX0_swapOne 99 = .ok (.aload_n 1, 1) := by decide +kernel
theorem dX0_swapOne_100 : decode cX0_swapOne 100 = .ok (.getfield 35, 3) := by decide +kernel
theorem dX0_swapOne_103 : decode cX0_swapOne 103 = .ok (.iload 4, 2) := by decide +kernel
theorem dX0_swapOne_105 : decode cX0_swapOne 105 = .ok (.iload 5, 2) := by decide +kernel
theorem dX0_swapOne_107 : decode cX0_swapOne 107 = .ok (.iastore, 1) := by decide +kernel
theorem dX0_swapOne_108 : decode cX0_swapOne 108 = .ok (.iinc 4 1, 3) := by decide +kernel
theorem dX0_swapOne_111 : decode cX0_swapOne 111 = .ok (.goto (-95), 3) := by decide +kernel
theorem dX0_swapOne_114 : decode cX0_swapOne 114 = .ok (.iconst 0, 1) := by decide +kernel
theorem dX0_swapOne_115 : decode cX0_swapOne 115 = .ok (.ireturn, 1) := by decide +kernel
theorem dX0_bestSet_0 : decode cX0_bestSet 0 = .ok (.aload_n 0, 1) := by decide +kernel
theorem dX0_bestSet_1 : decode cX0_bestSet 1 = .ok (.aload_n 1, 1) := by decide +kernel
theorem dX0_bestSet_2 : decode cX0_bestSet 2 = .ok (.invokevirtual 38, 3) := by decide +kernel
theorem dX0_bestSet_5 : decode cX0_bestSet 5 = .ok (.aload_n 1, 1) := by decide +kernel
theorem dX0_bestSet_6 : decode cX0_bestSet 6 = .ok (.invokevirtual 50, 3) := by decide +kernel
theorem dX0_bestSet_9 : decode cX0_bestSet 9 = .ok (.aload_n 1, 1) := by decide +kernel
theorem dX0_bestSet_10 : decode cX0_bestSet 10 = .ok (.getfield 77, 3) := by decide +kernel
theorem dX0_bestSet_13 : decode cX0_bestSet 13 = .ok (.ior, 1) := by decide +kernel
theorem dX0_bestSet_14 : decode cX0_bestSet 14 = .ok (.istore_n 3, 1) := by decide +kernel
theorem dX0_bestSet_15 : decode cX0_bestSet 15 = .ok (.iconst (-1), 1) := by decide +kernel
theorem dX0_bestSet_16 : decode cX0_bestSet 16 = .ok (.istore 4, 2) := by decide +kernel
theorem dX0_bestSet_18 : decode cX0_bestSet 18 = .ok (.fconst 0, 1) := by decide +kernel
theorem dX0_bestSet_19 : decode cX0_bestSet 19 = .ok (.fstore 5, 2) := by decide +kernel
theorem dX0_bestSet_21 : decode cX0_bestSet 21 = .ok (.iconst 1, 1) := by decide +kernel
theorem dX0_bestSet_22 : decode cX0_bestSet 22 = .ok (.iload_n 2, 1) := by decide +kernel
theorem dX0_bestSet_23 : decode cX0_bestSet 23 = .ok (.ishl, 1) := by decide +kernel
theorem dX0_bestSet_24 : decode cX0_bestSet 24 = .ok (.iconst 1, 1) := by decide +kernel
theorem dX0_bestSet_25 : decode cX0_bestSet 25 = .ok (.isub, 1) := by decide +kernel
theorem dX0_bestSet_26 : decode cX0_bestSet 26 = .ok (.istore 6, 2) := by decide +kernel
theorem dX0_bestSet_28 : decode cX0_bestSet 28 = .ok (.iconst 0, 1) := by decide +kernel
theorem dX0_bestSet_29 : decode cX0_bestSet 29 = .ok (.istore 7, 2) := by decide +kernel
theorem dX0_bestSet_31 : decode cX0_bestSet 31 = .ok (.iload 7, 2) := by decide +kernel
theorem dX0_bestSet_33 : decode cX0_bestSet 33 = .ok (.sipush 4845, 3) := by decide +kernel
theorem dX0_bestSet_36 : decode cX0_bestSet 36 = .ok (.if_icmp .ge 86, 3) := by decide +kernel
theorem dX0_bestSet_39 : decode cX0_bestSet 39 = .ok (.iload 6, 2) := by decide +kernel
theorem dX0_bestSet_41 : decode cX0_bestSet 41 = .ok (.iconst 1, 1) := by decide +kernel
theorem dX0_bestSet_42 : decode cX0_bestSet 42 = .ok (.aload_n 1, 1) := by decide +kernel
theorem dX0_bestSet_43 : decode cX0_bestSet 43 = .ok (.getfield 19, 3) := by decide +kernel
theorem dX0_bestSet_46 : decode cX0_bestSet 46 = .ok (.ishl, 1) := by decide +kernel
theorem dX0_bestSet_47 : decode cX0_bestSet 47 = .ok (.if_icmp .ge 75, 3) := by decide +kernel
theorem dX0_bestSet_50 : decode cX0_bestSet 50 = .ok (.iload 6, 2) := by decide +kernel
theorem dX0_bestSet_52 : decode cX0_bestSet 52 = .ok (.iload_n 3, 1) := by decide +kernel
theorem dX0_bestSet_53 : decode cX0_bestSet 53 = .ok (.iconst (-1), 1) := by decide +kernel
theorem dX0_bestSet_54 : decode cX0_bestSet 54 = .ok (.ixor, 1) := by decide +kernel
theorem dX0_bestSet_55 : decode cX0_bestSet 55 = .ok (.iand, 1) := by decide +kernel
theorem dX0_bestSet_56 : decode cX0_bestSet 56 = .ok (.ifCond .ne 53, 3) := by decide +kernel
theorem dX0_bestSet_59 : decode cX0_bestSet 59 = .ok (.aload_n 1, 1) := by decide +kernel
theorem dX0_bestSet_60 : decode cX0_bestSet 60 = .ok (.getfield 77, 3) := by decide +kernel
theorem dX0_bestSet_63 : decode cX0_bestSet 63 = .ok (.iload 6, 2) := by decide +kernel
theorem dX0_bestSet_65 : decode cX0_bestSet 65 = .ok (.iconst (-1), 1) := by decide +kernel
theorem dX0_bestSet_66 : decode cX0_bestSet 66 = .ok (.ixor, 1) := by decide +kernel
theorem dX0_bestSet_67 : decode cX0_bestSet 67 = .ok (.iand, 1) := by decide +kernel
theorem dX0_bestSet_68 : decode cX0_bestSet 68 = .ok (.ifCond .ne 41, 3) := by decide +kernel
theorem dX0_bestSet_71 : decode cX0_bestSet 71 = .ok (.aload_n 0, 1) := by decide +kernel
theorem dX0_bestSet_72 : decode cX0_bestSet 72 = .ok (.aload_n 0, 1) := by decide +kernel
theorem dX0_bestSet_73 : decode cX0_bestSet 73 = .ok (.getfield 15, 3) := by decide +kernel
theorem dX0_bestSet_76 : decode cX0_bestSet 76 = .ok (.aload_n 0, 1) := by decide +kernel
theorem dX0_bestSet_77 : decode cX0_bestSet 77 = .ok (.iload 6, 2) := by decide +kernel
theorem dX0_bestSet_79 : decode cX0_bestSet 79 = .ok (.invokevirtual 80, 3) := by decide +kernel
theorem dX0_bestSet_82 : decode cX0_bestSet 82 = .ok (.invokevirtual 73, 3) := by decide +kernel
theorem dX0_bestSet_85 : decode cX0_bestSet 85 = .ok (.fstore 8, 2) := by decide +kernel
theorem dX0_bestSet_87 : decode cX0_bestSet 87 = .ok (.iload 4, 2) := by decide +kernel
theorem dX0_bestSet_89 : decode cX0_bestSet 89 = .ok (.iconst (-1), 1) := by decide +kernel
theorem dX0_bestSet_90 : decode cX0_bestSet 90 = .ok (.if_icmp .eq 11, 3) := by decide +kernel
theorem dX0_bestSet_93 : decode cX0_bestSet 93 = .ok (.fload 8, 2) := by decide +kernel
theorem dX0_bestSet_95 : decode cX0_bestSet 95 = .ok (.fload 5, 2) := by decide +kernel
theorem dX0_bestSet_97 : decode cX0_bestSet 97 = .ok (.fcmp .l, 1) := by decide +kernel
theorem dX0_bestSet_98 : decode cX0_bestSet 98 = .ok (.ifCond .le 11, 3) := by decide +kernel
theorem dX0_bestSet_101 : decode cX0_bestSet 101 = .ok (.iload 6, 2) := by decide +kernel
theorem dX0_bestSet_103 : decode cX0_bestSet 103 = .ok (.istore 4, 2) := by decide +kernel
theorem dX0_bestSet_105 : decode cX0_bestSet 105 = .ok (.fload 8, 2) := by decide +kernel
theorem dX0_bestSet_107 : decode cX0_bestSet 107 = .ok (.fstore 5, 2) := by decide +kernel
theorem dX0_bestSet_109 : decode cX0_bestSet 109 = .ok (.iload 6, 2) := by decide +kernel
theorem dX0_bestSet_111 : decode cX0_bestSet 111 = .ok (.invokestatic 84, 3) := by decide +kernel
theorem dX0_bestSet_114 : decode cX0_bestSet 114 = .ok (.istore 6, 2) := by decide +kernel
theorem dX0_bestSet_116 : decode cX0_bestSet 116 = .ok (.iinc 7 1, 3) := by decide +kernel
theorem dX0_bestSet_119 : decode cX0_bestSet 119 = .ok (.goto (-88), 3) := by decide +kernel
theorem dX0_bestSet_122 : decode cX0_bestSet 122 = .ok (.iload 4, 2) := by decide +kernel
theorem dX0_bestSet_124 : decode cX0_bestSet 124 = .ok (.ireturn, 1) := by decide +kernel
theorem dX0_listMembers_0 : decode cX0_listMembers 0 = .ok (.iconst 0, 1) := by decide +kernel
theorem dX0_listMembers_1 : decode cX0_listMembers 1 = .ok (.istore_n 2, 1) := by decide +kernel
theorem dX0_listMembers_2 : decode cX0_listMembers 2 = .ok (.iconst 0, 1) := by decide +kernel
theorem dX0_listMembers_3 : decode cX0_listMembers 3 = .ok (.istore_n 3, 1) := by decide +kernel
theorem dX0_listMembers_4 : decode cX0_listMembers 4 = .ok (.iload_n 3, 1) := by decide +kernel
theorem dX0_listMembers_5 : decode cX0_listMembers 5 = .ok (.bipush 20, 2) := by decide +kernel
theorem dX0_listMembers_7 : decode cX0_listMembers 7 = .ok (.if_icmp .ge 37, 3) := by decide +kernel
theorem dX0_listMembers_10 : decode cX0_listMembers 10 = .ok (.iload_n 2, 1) := by decide +kernel
theorem dX0_listMembers_11 : decode cX0_listMembers 11 = .ok (.aload_n 0, 1) := by decide +kernel
theorem dX0_listMembers_12 : decode cX0_listMembers 12 = .ok (.getfield 15, 3) := by decide +kernel
theorem dX0_listMembers_15 : decode cX0_listMembers 15 = .ok (.arraylength, 1) := by decide +kernel
theorem dX0_listMembers_16 : decode cX0_listMembers 16 = .ok (.if_icmp .ge 28, 3) := by decide +kernel
theorem dX0_listMembers_19 : decode cX0_listMembers 19 = .ok (.iload_n 1, 1) := by decide +kernel
theorem dX0_listMembers_20 : decode cX0_listMembers 20 = .ok (.iload_n 3, 1) := by decide +kernel
theorem dX0_listMembers_21 : decode cX0_listMembers 21 = .ok (.ishr, 1) := by decide +kernel
theorem dX0_listMembers_22 : decode cX0_listMembers 22 = .ok (.iconst 1, 1) := by decide +kernel
theorem dX0_listMembers_23 : decode cX0_listMembers 23 = .ok (.iand, 1) := by decide +kernel
theorem dX0_listMembers_24 : decode cX0_listMembers 24 = .ok (.iconst 1, 1) := by decide +kernel
theorem dX0_listMembers_25 : decode cX0_listMembers 25 = .ok (.if_icmp .ne 13, 3) := by decide +kernel
theorem dX0_listMembers_28 : decode cX0_listMembers 28 = .ok (.aload_n 0, 1) := by decide +kernel
theorem dX0_listMembers_29 : decode cX0_listMembers 29 = .ok (.getfield 15, 3) := by decide +kernel
theorem dX0_listMembers_32 : decode cX0_listMembers 32 = .ok (.iload_n 2, 1) := by decide +kernel
theorem dX0_listMembers_33 : decode cX0_listMembers 33 = .ok (.iload_n 3, 1) := by decide +kernel
theorem dX0_listMembers_34 : decode cX0_listMembers 34 = .ok (.iastore, 1) := by decide +kernel
theorem dX0_listMembers_35 : decode cX0_listMembers 35 = .ok (.iinc 2 1, 3) := by decide +kernel
theorem dX0_listMembers_38 : decode cX0_listMembers 38 = .ok (.iinc 3 1, 3) := by decide +kernel
theorem dX0_listMembers_41 : decode cX0_listMembers 41 = .ok (.goto (-37), 3) := by decide +kernel
theorem dX0_listMembers_44 : decode cX0_listMembers 44 = .ok (.iload_n 2, 1) := by decide +kernel
theorem dX0_listMembers_45 : decode cX0_listMembers 45 = .ok (.ireturn, 1) := by decide +kernel
theorem dX0_nextOfLikeSize_0 : decode cX0_nextOfLikeSize 0 = .ok (.iload_n 0, 1) := by decide +kernel
theorem dX0_nextOfLikeSize_1 : decode cX0_nextOfLikeSize 1 = .ok (.iload_n 0, 1) := by decide +kernel
theorem dX0_nextOfLikeSize_2 : decode cX0_nextOfLikeSize 2 = .ok (.ineg, 1) := by decide +kernel
theorem dX0_nextOfLikeSize_3 : decode cX0_nextOfLikeSize 3 = .ok (.iand, 1) := by decide +kernel
theorem dX0_nextOfLikeSize_4 : decode cX0_nextOfLikeSize 4 = .ok (.istore_n 1, 1) := by decide +kernel
theorem dX0_nextOfLikeSize_5 : decode cX0_nextOfLikeSize 5 = .ok (.iload_n 0, 1) := by decide +kernel
theorem dX0_nextOfLikeSize_6 : decode cX0_nextOfLikeSize 6 = .ok (.iload_n 1, 1) := by decide +kernel
theorem dX0_nextOfLikeSize_7 : decode cX0_nextOfLikeSize 7 = .ok (.iadd, 1) := by decide +kernel
theorem dX0_nextOfLikeSize_8 : decode cX0_nextOfLikeSize 8 = .ok (.istore_n 2, 1) := by decide +kernel
theorem dX0_nextOfLikeSize_9 : decode cX0_nextOfLikeSize 9 = .ok (.iload_n 0, 1) := by decide +kernel
theorem dX0_nextOfLikeSize_10 : decode cX0_nextOfLikeSize 10 = .ok (.iload_n 2, 1) := by decide +kernel
theorem dX0_nextOfLikeSize_11 : decode cX0_nextOfLikeSize 11 = .ok (.ixor, 1) := by decide +kernel
theorem dX0_nextOfLikeSize_12 : decode cX0_nextOfLikeSize 12 = .ok (.iconst 2, 1) := by decide +kernel
theorem dX0_nextOfLikeSize_13 : decode cX0_nextOfLikeSize 13 = .ok (.iload_n 1, 1) := by decide +kernel
theorem dX0_nextOfLikeSize_14 : decode cX0_nextOfLikeSize 14 = .ok (.iconst 1, 1) := by decide +kernel
theorem dX0_nextOfLikeSize_15 : decode cX0_nextOfLikeSize 15 = .ok (.isub, 1) := by decide +kernel
theorem dX0_nextOfLikeSize_16 : decode cX0_nextOfLikeSize 16 = .ok (.invokestatic 87, 3) := by decide +kernel
theorem dX0_nextOfLikeSize_19 : decode cX0_nextOfLikeSize 19 = .ok (.iadd, 1) := by decide +kernel
theorem dX0_nextOfLikeSize_20 : decode cX0_nextOfLikeSize 20 = .ok (.iushr, 1) := by decide +kernel
theorem dX0_nextOfLikeSize_21 : decode cX0_nextOfLikeSize 21 = .ok (.istore_n 3, 1) := by decide +kernel
theorem dX0_nextOfLikeSize_22 : decode cX0_nextOfLikeSize 22 = .ok (.iload_n 2, 1) := by decide +kernel
theorem dX0_nextOfLikeSize_23 : decode cX0_nextOfLikeSize 23 = .ok (.iload_n 3, 1) := by decide +kernel
theorem dX0_nextOfLikeSize_24 : decode cX0_nextOfLikeSize 24 = .ok (.ior, 1) := by decide +kernel
theorem dX0_nextOfLikeSize_25 : decode cX0_nextOfLikeSize 25 = .ok (.ireturn, 1) := by decide +kernel
